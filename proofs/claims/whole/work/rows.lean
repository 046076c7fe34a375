section
-- ===== PART A: goes FIRST, ahead of the names: the tables' words, and 'selects' of the private methods out of them =====
/-- a private method of a class that the tables say can be made, by its rows of tables_1 -/
def lw_okq (q : MethodName × Nat) : Prop := (q.1.cls ≠ "java/lang/invoke/MethodHandle" ∧ q.1.cls ≠ "java/lang/invoke/VarHandle") ∧ Cond.instantiable q.1.cls q.2 ∈ tables_1 ∧ Cond.privateMethod q.1 ∈ tables_1 ∧ Cond.instanceMethod q.1 ∈ tables_1
theorem lw_p0 : lw_okq (⟨"PeggedBells$History", "dropOldest", "()V"⟩, 2) := ⟨⟨by decide +kernel, by decide +kernel⟩, List.mem_of_getElem? (i := 122) (by decide +kernel), List.mem_of_getElem? (i := 163) (by decide +kernel), List.mem_of_getElem? (i := 164) (by decide +kernel)⟩
theorem lw_p1 : lw_okq (⟨"java/lang/Throwable", "fillInStackTrace", "(I)Ljava/lang/Throwable;"⟩, 6) := ⟨⟨by decide +kernel, by decide +kernel⟩, List.mem_of_getElem? (i := 398) (by decide +kernel), List.mem_of_getElem? (i := 396) (by decide +kernel), List.mem_of_getElem? (i := 397) (by decide +kernel)⟩
theorem lw_p2 : lw_okq (⟨"PeggedBells$Drum", "strikeAtHand", "()V"⟩, 10) := ⟨⟨by decide +kernel, by decide +kernel⟩, List.mem_of_getElem? (i := 27) (by decide +kernel), List.mem_of_getElem? (i := 502) (by decide +kernel), List.mem_of_getElem? (i := 503) (by decide +kernel)⟩
theorem lw_p3 : lw_okq (⟨"PeggedBells$Drum", "countHeard", "(I)V"⟩, 10) := ⟨⟨by decide +kernel, by decide +kernel⟩, List.mem_of_getElem? (i := 27) (by decide +kernel), List.mem_of_getElem? (i := 512) (by decide +kernel), List.mem_of_getElem? (i := 513) (by decide +kernel)⟩
theorem lw_p4 : lw_okq (⟨"PeggedBells", "doPart", "(II)I"⟩, 5) := ⟨⟨by decide +kernel, by decide +kernel⟩, List.mem_of_getElem? (i := 19) (by decide +kernel), List.mem_of_getElem? (i := 528) (by decide +kernel), List.mem_of_getElem? (i := 529) (by decide +kernel)⟩
theorem lw_p5 : lw_okq (⟨"PeggedBells", "changeTempo", "(II)V"⟩, 5) := ⟨⟨by decide +kernel, by decide +kernel⟩, List.mem_of_getElem? (i := 19) (by decide +kernel), List.mem_of_getElem? (i := 537) (by decide +kernel), List.mem_of_getElem? (i := 538) (by decide +kernel)⟩
theorem lw_p6 : lw_okq (⟨"PeggedBells", "turnPegs", "(II)V"⟩, 5) := ⟨⟨by decide +kernel, by decide +kernel⟩, List.mem_of_getElem? (i := 19) (by decide +kernel), List.mem_of_getElem? (i := 541) (by decide +kernel), List.mem_of_getElem? (i := 542) (by decide +kernel)⟩
theorem lw_p7 : lw_okq (⟨"PeggedBellsModel", "holds", "(I)Z"⟩, 11) := ⟨⟨by decide +kernel, by decide +kernel⟩, List.mem_of_getElem? (i := 671) (by decide +kernel), List.mem_of_getElem? (i := 729) (by decide +kernel), List.mem_of_getElem? (i := 730) (by decide +kernel)⟩
theorem lw_p8 : lw_okq (⟨"PeggedBellsModel", "records", "()V"⟩, 11) := ⟨⟨by decide +kernel, by decide +kernel⟩, List.mem_of_getElem? (i := 671) (by decide +kernel), List.mem_of_getElem? (i := 733) (by decide +kernel), List.mem_of_getElem? (i := 734) (by decide +kernel)⟩
theorem lw_p9 : lw_okq (⟨"PeggedBellsModel", "lays", "(II)I"⟩, 11) := ⟨⟨by decide +kernel, by decide +kernel⟩, List.mem_of_getElem? (i := 671) (by decide +kernel), List.mem_of_getElem? (i := 741) (by decide +kernel), List.mem_of_getElem? (i := 742) (by decide +kernel)⟩
theorem lw_p10 : lw_okq (⟨"PeggedBellsModel", "changes", "(II)I"⟩, 11) := ⟨⟨by decide +kernel, by decide +kernel⟩, List.mem_of_getElem? (i := 671) (by decide +kernel), List.mem_of_getElem? (i := 755) (by decide +kernel), List.mem_of_getElem? (i := 756) (by decide +kernel)⟩
theorem lw_p11 : lw_okq (⟨"PeggedBellsModel", "laysAll", "()I"⟩, 11) := ⟨⟨by decide +kernel, by decide +kernel⟩, List.mem_of_getElem? (i := 671) (by decide +kernel), List.mem_of_getElem? (i := 771) (by decide +kernel), List.mem_of_getElem? (i := 772) (by decide +kernel)⟩
theorem lw_p12 : lw_okq (⟨"PeggedBellsModel", "cranks", "(I)I"⟩, 11) := ⟨⟨by decide +kernel, by decide +kernel⟩, List.mem_of_getElem? (i := 671) (by decide +kernel), List.mem_of_getElem? (i := 787) (by decide +kernel), List.mem_of_getElem? (i := 788) (by decide +kernel)⟩
theorem lw_p13 : lw_okq (⟨"PeggedBellsModel", "strikes", "()I"⟩, 11) := ⟨⟨by decide +kernel, by decide +kernel⟩, List.mem_of_getElem? (i := 671) (by decide +kernel), List.mem_of_getElem? (i := 791) (by decide +kernel), List.mem_of_getElem? (i := 792) (by decide +kernel)⟩
theorem lw_p14 : lw_okq (⟨"PeggedBellsModel", "missedFor", "(IIII)I"⟩, 11) := ⟨⟨by decide +kernel, by decide +kernel⟩, List.mem_of_getElem? (i := 671) (by decide +kernel), List.mem_of_getElem? (i := 795) (by decide +kernel), List.mem_of_getElem? (i := 796) (by decide +kernel)⟩
theorem lw_p15 : lw_okq (⟨"PeggedBellsModel", "weightIn", "(I)I"⟩, 11) := ⟨⟨by decide +kernel, by decide +kernel⟩, List.mem_of_getElem? (i := 671) (by decide +kernel), List.mem_of_getElem? (i := 799) (by decide +kernel), List.mem_of_getElem? (i := 800) (by decide +kernel)⟩
def lw_privs_1 : List (MethodName × Nat) := [(⟨"PeggedBells$History", "dropOldest", "()V"⟩, 2), (⟨"java/lang/Throwable", "fillInStackTrace", "(I)Ljava/lang/Throwable;"⟩, 6), (⟨"PeggedBells$Drum", "strikeAtHand", "()V"⟩, 10), (⟨"PeggedBells$Drum", "countHeard", "(I)V"⟩, 10), (⟨"PeggedBells", "doPart", "(II)I"⟩, 5), (⟨"PeggedBells", "changeTempo", "(II)V"⟩, 5), (⟨"PeggedBells", "turnPegs", "(II)V"⟩, 5), (⟨"PeggedBellsModel", "holds", "(I)Z"⟩, 11), (⟨"PeggedBellsModel", "records", "()V"⟩, 11), (⟨"PeggedBellsModel", "lays", "(II)I"⟩, 11), (⟨"PeggedBellsModel", "changes", "(II)I"⟩, 11), (⟨"PeggedBellsModel", "laysAll", "()I"⟩, 11), (⟨"PeggedBellsModel", "cranks", "(I)I"⟩, 11), (⟨"PeggedBellsModel", "strikes", "()I"⟩, 11), (⟨"PeggedBellsModel", "missedFor", "(IIII)I"⟩, 11), (⟨"PeggedBellsModel", "weightIn", "(I)I"⟩, 11)]
theorem lw_r1 : ∀ q ∈ lw_privs_1, lw_okq q := List.forall_mem_cons.mpr ⟨lw_p0, List.forall_mem_cons.mpr ⟨lw_p1, List.forall_mem_cons.mpr ⟨lw_p2, List.forall_mem_cons.mpr ⟨lw_p3, List.forall_mem_cons.mpr ⟨lw_p4, List.forall_mem_cons.mpr ⟨lw_p5, List.forall_mem_cons.mpr ⟨lw_p6, List.forall_mem_cons.mpr ⟨lw_p7, List.forall_mem_cons.mpr ⟨lw_p8, List.forall_mem_cons.mpr ⟨lw_p9, List.forall_mem_cons.mpr ⟨lw_p10, List.forall_mem_cons.mpr ⟨lw_p11, List.forall_mem_cons.mpr ⟨lw_p12, List.forall_mem_cons.mpr ⟨lw_p13, List.forall_mem_cons.mpr ⟨lw_p14, List.forall_mem_cons.mpr ⟨lw_p15, fun _ h => absurd h List.not_mem_nil⟩⟩⟩⟩⟩⟩⟩⟩⟩⟩⟩⟩⟩⟩⟩⟩
theorem lw_p16 : lw_okq (⟨"PeggedBellsModel", "allPegs", "()I"⟩, 11) := ⟨⟨by decide +kernel, by decide +kernel⟩, List.mem_of_getElem? (i := 671) (by decide +kernel), List.mem_of_getElem? (i := 818) (by decide +kernel), List.mem_of_getElem? (i := 819) (by decide +kernel)⟩
theorem lw_p17 : lw_okq (⟨"PeggedBellsModel", "rounds", "(I)V"⟩, 11) := ⟨⟨by decide +kernel, by decide +kernel⟩, List.mem_of_getElem? (i := 671) (by decide +kernel), List.mem_of_getElem? (i := 858) (by decide +kernel), List.mem_of_getElem? (i := 859) (by decide +kernel)⟩
theorem lw_p18 : lw_okq (⟨"PeggedBellsModel", "heardOfRound", "()I"⟩, 11) := ⟨⟨by decide +kernel, by decide +kernel⟩, List.mem_of_getElem? (i := 671) (by decide +kernel), List.mem_of_getElem? (i := 866) (by decide +kernel), List.mem_of_getElem? (i := 867) (by decide +kernel)⟩
theorem lw_p19 : lw_okq (⟨"PeggedBellsModel", "wrong", "()I"⟩, 11) := ⟨⟨by decide +kernel, by decide +kernel⟩, List.mem_of_getElem? (i := 671) (by decide +kernel), List.mem_of_getElem? (i := 911) (by decide +kernel), List.mem_of_getElem? (i := 912) (by decide +kernel)⟩
theorem lw_p20 : lw_okq (⟨"PeggedBellsModel", "behindPart", "(I)I"⟩, 11) := ⟨⟨by decide +kernel, by decide +kernel⟩, List.mem_of_getElem? (i := 671) (by decide +kernel), List.mem_of_getElem? (i := 915) (by decide +kernel), List.mem_of_getElem? (i := 916) (by decide +kernel)⟩
theorem lw_p21 : lw_okq (⟨"PeggedBellsModel", "charAt", "(I)I"⟩, 11) := ⟨⟨by decide +kernel, by decide +kernel⟩, List.mem_of_getElem? (i := 671) (by decide +kernel), List.mem_of_getElem? (i := 919) (by decide +kernel), List.mem_of_getElem? (i := 920) (by decide +kernel)⟩
theorem lw_p22 : lw_okq (⟨"PeggedBellsModel", "isDigit", "(I)Z"⟩, 11) := ⟨⟨by decide +kernel, by decide +kernel⟩, List.mem_of_getElem? (i := 671) (by decide +kernel), List.mem_of_getElem? (i := 923) (by decide +kernel), List.mem_of_getElem? (i := 924) (by decide +kernel)⟩
theorem lw_p23 : lw_okq (⟨"PeggedBellsModel", "behindColumn", "(I)I"⟩, 11) := ⟨⟨by decide +kernel, by decide +kernel⟩, List.mem_of_getElem? (i := 671) (by decide +kernel), List.mem_of_getElem? (i := 927) (by decide +kernel), List.mem_of_getElem? (i := 928) (by decide +kernel)⟩
theorem lw_p24 : lw_okq (⟨"PeggedBellsModel", "does", "(I)I"⟩, 11) := ⟨⟨by decide +kernel, by decide +kernel⟩, List.mem_of_getElem? (i := 671) (by decide +kernel), List.mem_of_getElem? (i := 935) (by decide +kernel), List.mem_of_getElem? (i := 936) (by decide +kernel)⟩
def lw_privs_2 : List (MethodName × Nat) := [(⟨"PeggedBellsModel", "allPegs", "()I"⟩, 11), (⟨"PeggedBellsModel", "rounds", "(I)V"⟩, 11), (⟨"PeggedBellsModel", "heardOfRound", "()I"⟩, 11), (⟨"PeggedBellsModel", "wrong", "()I"⟩, 11), (⟨"PeggedBellsModel", "behindPart", "(I)I"⟩, 11), (⟨"PeggedBellsModel", "charAt", "(I)I"⟩, 11), (⟨"PeggedBellsModel", "isDigit", "(I)Z"⟩, 11), (⟨"PeggedBellsModel", "behindColumn", "(I)I"⟩, 11), (⟨"PeggedBellsModel", "does", "(I)I"⟩, 11)]
theorem lw_r2 : ∀ q ∈ lw_privs_2, lw_okq q := List.forall_mem_cons.mpr ⟨lw_p16, List.forall_mem_cons.mpr ⟨lw_p17, List.forall_mem_cons.mpr ⟨lw_p18, List.forall_mem_cons.mpr ⟨lw_p19, List.forall_mem_cons.mpr ⟨lw_p20, List.forall_mem_cons.mpr ⟨lw_p21, List.forall_mem_cons.mpr ⟨lw_p22, List.forall_mem_cons.mpr ⟨lw_p23, List.forall_mem_cons.mpr ⟨lw_p24, fun _ h => absurd h List.not_mem_nil⟩⟩⟩⟩⟩⟩⟩⟩⟩
def lw_privs : List (MethodName × Nat) := lw_privs_1 ++ (lw_privs_2)
def lw_tbl : List Cond := k2_sels lw_privs ++ tables_1
theorem lw_privs_ok : ∀ q ∈ lw_privs, lw_okq q := by
  show ∀ q ∈ lw_privs_1 ++ (lw_privs_2), lw_okq q
  exact List.forall_mem_append.mpr ⟨lw_r1, lw_r2⟩
/-! ===== BEGIN words of one list among another's, by their places ===== -/
theorem goodIn_r {big : List Cond} (ws : List Cond) (ps : List Nat) (hp : ws = ps.filterMap (fun i => big[i]?)) (h : ws.all goodWord = true) : GoodIn big ws := by
  intro w hw
  have h1 := List.all_eq_true.mp h w hw
  rw [hp] at hw
  obtain ⟨i, -, hi⟩ := List.mem_filterMap.mp hw
  have hm : w ∈ big := by first | exact List.mem_of_getElem? hi | exact List.getElem?_mem hi
  exact ⟨hm, good_of_word h1⟩
theorem goodIn_app {big a b : List Cond} (ha : GoodIn big a) (hb : GoodIn big b) : GoodIn big (a ++ b) := fun w h => (List.mem_append.mp h).elim (ha w) (hb w)
theorem goodIn_ca {big a b : List Cond} {c : Cond} (ha : GoodIn big (c :: a)) (hb : GoodIn big b) : GoodIn big (c :: (a ++ b)) := fun w h => (List.mem_cons.mp h).elim (fun e => ha w (List.mem_cons.mpr (Or.inl e))) (fun h => (List.mem_append.mp h).elim (fun h => ha w (List.mem_cons.mpr (Or.inr h))) (hb w))
theorem goodIn_sub {big ws : List Cond} (hm : ∀ w ∈ ws, w ∈ big) (h : ws.all goodWord = true) : GoodIn big ws := fun w hw => ⟨hm w hw, good_of_word (List.all_eq_true.mp h w hw)⟩
/-! ===== END ===== -/

/-! ===== BEGIN exceptions that leave a method, and their catching by the caller (launches without stack traces) ===== -/
section VXA
/-! The laws vx_back, vx_callV, vx_callS, vx_callSW, vx_throw0, vx_throwS follow proofs of the library, with one case more: JvmDerived/Free/Laws.lean (Back.of_free), Shelf42/LK1.lean (callV, callS), Shelf/KitTraced.lean (throwNew0V, throwNewS). -/
/-- where a method has thrown q: the class by its name, the cell, what was written, the world -/
def vx_T (XC : String → State → State → Prop) (st : State) (q : Addr) (t : State) (mc ms : Nat) (free : Addr → Prop) : Prop :=
  ∃ (E : String) (ce : Cell) (L : List Loc), XC E st t ∧ t.heap[q]? = some ce ∧ ce.vm = .none ∧ st.vm.findClass E = some ce.cls ∧ st.WarmedH t.vm ∧ st.sameButNew ({ t with vm := st.vm } : State) L mc ms ∧ ∀ z ∈ L, free z.base
def vx_Q (Qc : Array Value → State → Outcome → State → Prop) (XC : String → State → State → Prop) (mc ms : Nat) (free : Addr → Prop) : Array Value → State → Outcome → State → Prop := fun a st o t =>
  (Qc a st o t ∧ ∃ L, FrameEnd st o t L mc ms ∧ ∀ q ∈ L, free q.base) ∨ ∃ q, o = .threw q ∧ vx_T XC st q t mc ms free
/-- a callee that returns or throws -/
def vx_Met (l : Launch) (y : MethodName) (ws : List Cond) (rm : Room) (Pc : Array Value → State → Prop) (Qc : Array Value → State → Outcome → State → Prop) (XC : String → State → State → Prop) (mc ms : Nat) (free : Addr → Prop) : Prop :=
  MetFree l y (headSpec ws rm) Pc (fun _ _ _ _ _ => True) (vx_Q Qc XC mc ms free)
def vx_Post (XC : String → State → State → Prop) (mc ms : Nat) (free : Addr → Prop) : Pt → Array Value → Addr → Pt → Prop := fun A a q B =>
  ∃ (g : JFrame) (mk : MethodId) (t : State) (L : List Loc) (E : String) (ce : Cell), B.U.heap = t.heap ∧ B.U.vm = t.vm ∧ XC E (A.U.calling g mk a) t ∧ t.heap[q]? = some ce ∧ ce.vm = .none ∧ A.U.vm.findClass E = some ce.cls ∧ B.locs = A.locs ++ L ∧ (∀ z ∈ L, free z.base) ∧ B.cells = A.cells + mc ∧ B.slots = A.slots + ms
def vx_Back (l : Launch) (R : Room) (p : Program) (e : Env) (below : List Frame) (s : State) (sargs : Array Value) (y : MethodName) (len W9 : Nat)
    (Pre : Pt → Array Value → Prop) (Post : Pt → Array Value → Option Value → Pt → Prop) (PostX : Pt → Array Value → Addr → Pt → Prop) : Prop :=
  ∀ (m : MethodId) (meth : Method) (c : Code) (A : Pt) (g : JFrame) (ig : Instr) (mk : MethodId) (a : Array Value),
    Stand p l e R s m sargs below meth c A.U A.locs A.cells A.slots → g.method = m → g.locals.size = c.maxLocals → decode c.code g.pc = .ok (ig, len) →
    2 * g.monitorRoom + (g.stack.map fun v => v.category).sum ≤ W9 → A.U.methodNamed? y = some mk → Pre A a →
    (∃ (v : Option Value) (B : Pt), Stand p l e R s m sargs below meth c B.U B.locs B.cells B.slots ∧ Post A a v B ∧
      Steps p.tables e below (doInvoke e (A.U.setTop g) [] mk a).1 (B.U.setTop { g with pc := g.pc + len, stack := v.toList ++ g.stack })) ∨
    (∃ (q : Addr) (B : Pt), Stand p l e R s m sargs below meth c B.U B.locs B.cells B.slots ∧ PostX A a q B ∧
      Steps p.tables e below (doInvoke e (A.U.setTop g) [] mk a).1 ((B.U.setTop g).pushFrame (.throwing q)))
section Payer
variable {l : Launch} {R : Room} {p : Program} {e : Env} {below : List Frame} {s : State} {sargs : Array Value} {y : MethodName} {len W9 : Nat}
theorem vx_back {ws : List Cond} {rm : Room} {Pc : Array Value → State → Prop} {Qc : Array Value → State → Outcome → State → Prop} {XC : String → State → State → Prop} {mc ms : Nat} {free : Addr → Prop} {bytes : ByteArray} {maxL : Nat} {ret : Option FieldType}
    (hM : vx_Met l y ws rm Pc Qc XC mc ms free) (hblind : FrameBlind Pc) (hrc : rm.cells = mc) (hrs : rm.slots = ms)
    (hframes : rm.frames + 1 ≤ R.frames) (hlocals : W9 + (maxL + 11) + rm.locals ≤ R.locals)
    (hws : ∀ w ∈ ws, ∀ a' U, s.WarmedH U.vm → w.before a' U = true) (hcode : Cond.code y bytes maxL ret ∈ ws) (hinit : ∀ a' U, s.WarmedH U.vm → (Cond.initialized y.cls).before a' U = true) :
    vx_Back l R p e below s sargs y len W9 (PreOf R mc ms Pc) (PostOf Qc mc ms free) (vx_Post XC mc ms free) := by
  intro m meth c A g ig mk a X hg hsize hdg hW hn hp
  have h1 : (headSpec ws rm).pre.before a A.U = true := atoms_intro fun w hw => hws w hw _ _ X.warmed
  have h2 : (Cond.code y bytes maxL ret).before a A.U = true := hws _ hcode _ _ X.warmed
  have h3 : (Cond.initialized y.cls).before a A.U = true := hinit _ _ X.warmed
  have h4 : A.cells + (headSpec ws rm).room.cells ≤ R.cells := by rw [show (headSpec ws rm).room.cells = mc from hrc]; exact hp.1
  have h5 : A.slots + (headSpec ws rm).room.slots ≤ R.slots := by rw [show (headSpec ws rm).room.slots = ms from hrs]; exact hp.2.1
  have hPc : Pc a (A.U.calling g mk a) := hblind _ _ _ _ hp.2.2
  obtain ⟨U, Ls, c0, s0⟩ := A
  dsimp only [Pt.U, Pt.locs, Pt.cells, Pt.slots] at h1 h2 h3 h4 h5 X hn hPc ⊢
  obtain ⟨methY, cY, hmY, hcY, -, hlY, -, -, -, -⟩ := Cond.code_spec hn h2
  obtain ⟨kY, hkY, -⟩ := className_of_methodNamed hn
  have hinitY : kY.init = .initialized := Cond.initialized_spec (findClass_of_methodNamed hn) hkY h3
  have h : At U g.method c below := by rw [hg]; exact X.here
  have hlocals9 : W9 + (maxL + 11) + (headSpec ws rm).room.locals ≤ R.locals := hlocals
  have happ : (headSpec ws rm).appliesLoose y e.platform (U.calling g mk a) = true :=
    Spec.appliesLoose_calling (g := g) h hdg hn hkY hinitY
      (X.room_calling (g := g) (R' := (headSpec ws rm).room) hsize hmY hcY hframes (by rw [hlY]; omega) h4 h5) h1
  obtain ⟨mid, hmid⟩ := h.above
  have hfr : (U.setTop g).frames = (.java g :: mid) ++ below := by rw [State.frames_setTop' g h.top, hmid]; rfl
  obtain ⟨o, s₂, hsteps, -, hend, hq⟩ := Steps.callFree hM p X.admits X.cas X.clock (acts := []) hfr happ hPc trivial
  have hq' : vx_Q Qc XC mc ms free a (U.calling g mk a) o s₂ := hq
  rw [State.frames_setTop' g h.top] at hend
  obtain ⟨g₀, hg0⟩ := Option.isSome_iff_exists.mp h.top
  obtain ⟨r, hr⟩ := State.topJava?_eq_some.mp hg0
  have hr' : (({ U with heap := s₂.heap, slotsUsed := s₂.slotsUsed } : State).setVm s₂.vm).frames = .java g₀ :: r := hr
  rcases hq' with ⟨hqc, L, hfe, hL⟩ | ⟨q, rfl, E, ce, L, hx, hce, hcv, hcl, hW₂, hsm, hL⟩
  · obtain ⟨⟨v, rfl⟩, hW₂, e2, q2, q3, q4, q5, q6⟩ := id hfe
    have e3 : s₂ = ({ (U.calling g mk a).setFrames s₂.frames with heap := s₂.heap, slotsUsed := s₂.slotsUsed } : State).setVm s₂.vm := by
      have : s₂ = ({ s₂ with vm := (U.calling g mk a).vm } : State).setVm s₂.vm := rfl
      rw [e2] at this
      exact this
    obtain ⟨c₂, i₂, len₂, hc₂, hd₂, hf₂⟩ := hend
    have hW' : U.WarmedH s₂.vm := hW₂
    have hcc : c₂ = c := by
      have h1 : s₂.code? g.method = U.code? g.method := by
        rw [State.code?_eq, State.code?_eq, hW'.alike.method?]
      exact Option.some.inj (hc₂.symm.trans (h1.trans h.code))
    subst hcc
    have hlen : len₂ = len := by rw [hdg] at hd₂; cases hd₂; rfl
    subst hlen
    have hs₂ : s₂ = (({ U with heap := s₂.heap, slotsUsed := s₂.slotsUsed } : State).setVm s₂.vm).setTop { g with pc := g.pc + len₂, stack := v.toList ++ g.stack } := by
      refine e3.trans ?_
      rw [hf₂, State.calling_eq h.top, State.setFrames_setFrames, State.setTop_of_frames _ hr', hr]
      rfl
    have hsame : U.sameButNew ({ U with heap := s₂.heap, slotsUsed := s₂.slotsUsed } : State) L mc ms := by
      refine ⟨?_, q2, q3, q4, q5, q6⟩
      obtain ⟨t, ht, -⟩ := State.frames_cons hr
      show ({ U with heap := s₂.heap, slotsUsed := s₂.slotsUsed } : State) = { U.setFrames U.frames with heap := s₂.heap, slotsUsed := s₂.slotsUsed }
      rw [State.setFrames_self ht]
    subst hg
    refine Or.inl ⟨v, ⟨(({ U with heap := s₂.heap, slotsUsed := s₂.slotsUsed } : State).setVm s₂.vm), Ls ++ L, c0 + mc, s0 + ms⟩,
      ⟨X.admits, X.cas, X.clock, X.frames, X.room, X.hears, X.method, X.code, (X.here.setHeapUsed s₂.heap s₂.slotsUsed).setVm hW'.alike, X.tail, State.WarmedH.trans X.warmed hW', X.limits, X.bytes, X.same.trans (hsame.setVm s.vm)⟩,
      ⟨g, mk, s₂, L, rfl, rfl, hqc, rfl, hL, rfl, rfl⟩, ?_⟩
    show Steps p.tables e below _ ((({ U with heap := s₂.heap, slotsUsed := s₂.slotsUsed } : State).setVm s₂.vm).setTop { g with pc := g.pc + len₂, stack := v.toList ++ g.stack })
    rw [← hs₂]
    exact hsteps
  · obtain ⟨e2, q2, q3, q4, q5, q6⟩ := id hsm
    have e3 : s₂ = ({ (U.calling g mk a).setFrames s₂.frames with heap := s₂.heap, slotsUsed := s₂.slotsUsed } : State).setVm s₂.vm := by
      have : s₂ = ({ s₂ with vm := (U.calling g mk a).vm } : State).setVm s₂.vm := rfl
      rw [e2] at this
      exact this
    have hf₂ : s₂.frames = .throwing q :: .java g :: U.frames.tail := hend
    have hW' : U.WarmedH s₂.vm := hW₂
    have hs₂ : s₂ = ((({ U with heap := s₂.heap, slotsUsed := s₂.slotsUsed } : State).setVm s₂.vm).setTop g).pushFrame (.throwing q) := by
      refine e3.trans ?_
      rw [hf₂, State.calling_eq h.top, State.setFrames_setFrames, State.pushFrame, State.frames_setTop _ hr', State.setTop_of_frames _ hr', State.setFrames_setFrames, hr]
      rfl
    have hsame : U.sameButNew ({ U with heap := s₂.heap, slotsUsed := s₂.slotsUsed } : State) L mc ms := by
      refine ⟨?_, q2, q3, q4, q5, q6⟩
      obtain ⟨t, ht, -⟩ := State.frames_cons hr
      show ({ U with heap := s₂.heap, slotsUsed := s₂.slotsUsed } : State) = { U.setFrames U.frames with heap := s₂.heap, slotsUsed := s₂.slotsUsed }
      rw [State.setFrames_self ht]
    subst hg
    refine Or.inr ⟨q, ⟨(({ U with heap := s₂.heap, slotsUsed := s₂.slotsUsed } : State).setVm s₂.vm), Ls ++ L, c0 + mc, s0 + ms⟩,
      ⟨X.admits, X.cas, X.clock, X.frames, X.room, X.hears, X.method, X.code, (X.here.setHeapUsed s₂.heap s₂.slotsUsed).setVm hW'.alike, X.tail, State.WarmedH.trans X.warmed hW', X.limits, X.bytes, X.same.trans (hsame.setVm s.vm)⟩,
      ⟨g, mk, s₂, L, E, ce, rfl, rfl, hx, hce, hcv, hcl, rfl, hL, rfl, rfl⟩, ?_⟩
    show Steps p.tables e below _ (((({ U with heap := s₂.heap, slotsUsed := s₂.slotsUsed } : State).setVm s₂.vm).setTop g).pushFrame (.throwing q))
    rw [← hs₂]
    exact hsteps
end Payer
section Calls
variable {p : Program} {l : Launch} {e : Env} {R : Room} {s : State} {m : MethodId} {args : Array Value} {below : List Frame} {meth : Method} {c : Code} {T : State} {locs : List Loc} {cells slots : Nat}
theorem vx_callV (X : Stand p l e R s m args below meth c T locs cells slots) (hexec : p.tables.exec = Jvm.exec) {own C : String} {index : Nat} {y : MethodName} {bytes : ByteArray} {maxL : Nat} {ret : Option FieldType}
    (hown : s.vm.findClass own = some m.cls) (hlink : (Cond.methodLink own index y).before args s = true) (hinst : (Cond.instanceMethod y).before args s = true) (hsel : (Cond.selects C y y).before args s = true)
    (hcode : (Cond.code y bytes maxL ret).before args s = true) (hy : y.cls ≠ "java/lang/invoke/MethodHandle" ∧ y.cls ≠ "java/lang/invoke/VarHandle")
    {W9 : Nat} {Pre : Pt → Array Value → Prop} {Post : Pt → Array Value → Option Value → Pt → Prop} {PostX : Pt → Array Value → Addr → Pt → Prop} (hK : vx_Back l R p e below s args y 3 W9 Pre Post PostX)
    {b : Addr} {cellB : Cell} (hcell : T.heap[b]? = some cellB) (hobj : cellB.vm.isStatics = false) (hcls : s.vm.findClass C = some cellB.cls)
    {g : JFrame} (hg : g.method = m) (hsize : g.locals.size = c.maxLocals) {argsL rest : List Value} (hlen : ∀ sig, parseMethodDescriptor y.desc = some sig → argsL.length = sig.parameters.length)
    (hstack : g.stack = argsL.reverse ++ .ref b :: rest) (hW : 2 * g.monitorRoom + (rest.map fun v => v.category).sum ≤ W9) (hdg : decode c.code g.pc = .ok (.invokevirtual index, 3))
    (hpre : ∀ vm₁, s.WarmedH vm₁ → Pre ⟨T.setVm vm₁, locs, cells, slots⟩ (Value.ref b :: argsL).toArray) :
    (∃ (v : Option Value) (vm₁ : Vm) (B : Pt), s.WarmedH vm₁ ∧ Stand p l e R s m args below meth c B.U B.locs B.cells B.slots ∧ Post ⟨T.setVm vm₁, locs, cells, slots⟩ (Value.ref b :: argsL).toArray v B ∧
      ∀ target, Steps p.tables e below (B.U.setTop { g with pc := g.pc + 3, stack := v.toList ++ rest }) target → Steps p.tables e below (T.setTop g) target) ∨
    (∃ (q : Addr) (vm₁ : Vm) (B : Pt), s.WarmedH vm₁ ∧ Stand p l e R s m args below meth c B.U B.locs B.cells B.slots ∧ PostX ⟨T.setVm vm₁, locs, cells, slots⟩ (Value.ref b :: argsL).toArray q B ∧
      Steps p.tables e below (T.setTop g) ((B.U.setTop { g with stack := rest }).pushFrame (.throwing q))) := by
  obtain ⟨mk, methM, hnamed, hmethM, hstM, habM⟩ := Cond.instanceMethod_spec hinst
  obtain ⟨methM', cM, hmethM', -, -, -, -, -, -, hsigM⟩ := Cond.code_spec hnamed hcode
  cases hmethM.symm.trans hmethM'
  obtain ⟨c2, r2, m2, q1, q2, q3, q4, kP, hkP, hkPi⟩ := Cond.selects_spec hsel
  cases hcls.symm.trans q1
  cases (State.methodFound?_of_named hnamed hy).symm.trans q2
  cases hnamed.symm.trans q3
  have hselP : selectMethod e.platform s.vm cellB.cls mk = .method mk := by rw [Launch.admits_selectMethod X.admits]; exact q4
  obtain ⟨vm₁, X₁, hstep₁⟩ := X.invokevirtual hexec hown hlink hnamed hmethM hstM hkP hkPi hy (a := b) (cell := cellB) hcell
    (fun z h => by rw [h] at hobj; cases hobj) hselP hmethM habM hkP hkPi (g := g) hg (argsL := argsL) (rest := rest) (hlen _ hsigM) hstack hdg
  rcases hK m meth c ⟨T.setVm vm₁, locs, cells, slots⟩ { g with stack := rest } (.invokevirtual index) mk (Value.ref b :: argsL).toArray X₁ hg hsize hdg hW (X₁.named hnamed) (hpre vm₁ X₁.warmed) with ⟨v, B, X', hpost, hsteps⟩ | ⟨q, B, X', hpost, hsteps⟩
  · exact Or.inl ⟨v, vm₁, B, X₁.warmed, X', hpost, fun target h => hstep₁ _ fun acts => by rw [doInvoke_state]; exact hsteps.trans h⟩
  · exact Or.inr ⟨q, vm₁, B, X₁.warmed, X', hpost, hstep₁ _ fun acts => by rw [doInvoke_state]; exact hsteps⟩
theorem vx_callS (X : Stand p l e R s m args below meth c T locs cells slots) (hexec : p.tables.exec = Jvm.exec) {own : String} {index : Nat} {y : MethodName} {bytes : ByteArray} {maxL : Nat} {ret : Option FieldType}
    (hown : s.vm.findClass own = some m.cls) (hlink : (Cond.methodLink own index y).before args s = true) (hstat : (Cond.static y).before args s = true) (hinit : (Cond.initialized y.cls).before args s = true)
    (hcode : (Cond.code y bytes maxL ret).before args s = true) (hy : y.cls ≠ "java/lang/invoke/MethodHandle" ∧ y.cls ≠ "java/lang/invoke/VarHandle")
    {W9 : Nat} {Pre : Pt → Array Value → Prop} {Post : Pt → Array Value → Option Value → Pt → Prop} {PostX : Pt → Array Value → Addr → Pt → Prop} (hK : vx_Back l R p e below s args y 3 W9 Pre Post PostX)
    {g : JFrame} (hg : g.method = m) (hsize : g.locals.size = c.maxLocals) {argsL rest : List Value} (hlen : ∀ sig, parseMethodDescriptor y.desc = some sig → argsL.length = sig.parameters.length)
    (hstack : g.stack = argsL.reverse ++ rest) (hW : 2 * g.monitorRoom + (rest.map fun v => v.category).sum ≤ W9) (hdg : decode c.code g.pc = .ok (.invokestatic index, 3))
    (hpre : ∀ vm₁, s.WarmedH vm₁ → Pre ⟨T.setVm vm₁, locs, cells, slots⟩ argsL.toArray) :
    (∃ (v : Option Value) (vm₁ : Vm) (B : Pt), s.WarmedH vm₁ ∧ Stand p l e R s m args below meth c B.U B.locs B.cells B.slots ∧ Post ⟨T.setVm vm₁, locs, cells, slots⟩ argsL.toArray v B ∧
      ∀ target, Steps p.tables e below (B.U.setTop { g with pc := g.pc + 3, stack := v.toList ++ rest }) target → Steps p.tables e below (T.setTop g) target) ∨
    (∃ (q : Addr) (vm₁ : Vm) (B : Pt), s.WarmedH vm₁ ∧ Stand p l e R s m args below meth c B.U B.locs B.cells B.slots ∧ PostX ⟨T.setVm vm₁, locs, cells, slots⟩ argsL.toArray q B ∧
      Steps p.tables e below (T.setTop g) ((B.U.setTop { g with stack := rest }).pushFrame (.throwing q))) := by
  obtain ⟨mk, hnamed⟩ := Cond.code_named hcode
  obtain ⟨methM, cM, hmethM, -, -, -, -, -, -, hsigM⟩ := Cond.code_spec hnamed hcode
  have hstatic : methM.isStatic = true := Cond.static_spec hnamed hmethM hstat
  obtain ⟨kP, hkP, -⟩ := className_of_methodNamed hnamed
  have hinitP : kP.init = .initialized := Cond.initialized_spec (findClass_of_methodNamed hnamed) hkP hinit
  obtain ⟨vm₁, X₁, hstep₁⟩ := X.invokestatic hexec hown hlink hnamed hmethM hstatic hkP hinitP hy (g := g) hg (argsL := argsL) (rest := rest) (hlen _ hsigM) hstack hdg
  rcases hK m meth c ⟨T.setVm vm₁, locs, cells, slots⟩ { g with stack := rest } (.invokestatic index) mk argsL.toArray X₁ hg hsize hdg hW (X₁.named hnamed) (hpre vm₁ X₁.warmed) with ⟨v, B, X', hpost, hsteps⟩ | ⟨q, B, X', hpost, hsteps⟩
  · exact Or.inl ⟨v, vm₁, B, X₁.warmed, X', hpost, fun target h => hstep₁ _ fun acts => by rw [doInvoke_state]; exact hsteps.trans h⟩
  · exact Or.inr ⟨q, vm₁, B, X₁.warmed, X', hpost, hstep₁ _ fun acts => by rw [doInvoke_state]; exact hsteps⟩
end Calls
theorem vx_cls {s : State} {T : State} {vm₁ : Vm} {E : String} {k : ClassId} (hW : s.WarmedH vm₁) (h : (T.setVm vm₁).vm.findClass E = some k) : s.vm.findClass E = some k := by
  have h1 : vm₁.findClass E = some k := h
  rw [hW.alike.findClass] at h1
  exact h1
/-- the method's frame g, with q thrown over it -/
def vx_W (p : Program) (l : Launch) (e : Env) (R : Room) (s : State) (m : MethodId) (args : Array Value) (below : List Frame) (meth : Method) (c : Code) (H : Heap) (locs : List Loc) (cells slots : Nat) (Q : State → Prop) (g : JFrame) (q : Addr) : Prop :=
  ∀ T : State, T.heap = H → Stand p l e R s m args below meth c T locs cells slots → ∃ t, Steps p.tables e below ((T.setTop g).pushFrame (.throwing q)) t ∧ Q t
def vx_Run (p : Program) (l : Launch) (e : Env) (R : Room) (s : State) (m : MethodId) (args : Array Value) (below : List Frame) (meth : Method) (c : Code) (H : Heap) (locs : List Loc) (cells slots mc ms : Nat) (g : JFrame) (rest : List Value) (Qa : State → Outcome → State → Prop) (XC : String → State → State → Prop) (free : Addr → Prop) : Prop :=
  ∀ T : State, T.heap = H → Stand p l e R s m args below meth c T locs cells slots →
    (∃ (v : Option Value) (st₀ t T' : State) (L : List Loc), st₀.heap = H ∧ Stand p l e R s m args below meth c T' (locs ++ L) (cells + mc) (slots + ms) ∧ (∀ q ∈ L, free q.base) ∧ T'.heap = t.heap ∧ T'.vm = t.vm ∧ Qa st₀ (.returned v) t ∧
      Goes p e below T g T' { g with pc := g.pc + 3, stack := v.toList ++ rest }) ∨
    (∃ (q : Addr) (st₀ t T' : State) (L : List Loc) (E : String) (ce : Cell), st₀.heap = H ∧ Stand p l e R s m args below meth c T' (locs ++ L) (cells + mc) (slots + ms) ∧ (∀ z ∈ L, free z.base) ∧ T'.heap = t.heap ∧ T'.vm = t.vm ∧ XC E st₀ t ∧ t.heap[q]? = some ce ∧ ce.vm = .none ∧ s.vm.findClass E = some ce.cls ∧
      Steps p.tables e below (T.setTop g) ((T'.setTop { g with stack := rest }).pushFrame (.throwing q)))
def vx_X {S : Type} (px : S → Prop) (B : String → S → State → Prop) (A : Nat → Prop) : String → State → State → Prop := fun E st t => ∃ u : S, px u ∧ B E u t ∧ va_F A st t
section Runs
variable {p : Program} {l : Launch} {e : Env} {R : Room} {s : State} {m : MethodId} {args : Array Value} {below : List Frame} {meth : Method} {c : Code} {H : Heap} {locs : List Loc} {cells slots : Nat}
variable {y : MethodName} {bytes cc : ByteArray} {maxL nL mc ms n index : Nat} {ret : Option FieldType} {ws : List Cond} {rm : Room} {Pc : Array Value → State → Prop} {Qc : Array Value → State → Outcome → State → Prop} {XC : String → State → State → Prop} {free : Addr → Prop} {Ts : List Cond} {own C : String} {b : Addr} {As rest : List Value} {g : JFrame}
theorem vx_callBack (cb : CallB R s args own index y bytes maxL ret ws rm mc ms n) (hM : vx_Met l y ws rm Pc Qc XC mc ms free) (hbl : FrameBlind Pc) : vx_Back l R p e below s args y 3 8 (PreOf R mc ms Pc) (PostOf Qc mc ms free) (vx_Post XC mc ms free) := by
  obtain ⟨hrc, hrs, hfr, hlo, hws, hcw, -, hini, -⟩ := cb
  exact vx_back (bytes := bytes) (maxL := maxL) (ret := ret) hM hbl hrc hrs hfr hlo hws hcw (fun a' U hW => word_at hW (Or.inl (by first | rfl | simp [Cond.onTables, Cond.keeps, Cond.steady])) hini)
theorem vx_runV (S : CallFix p m c cc nL s args Ts own) (hM : vx_Met l y ws rm Pc Qc XC mc ms free) (cw : CallW R s args own C index y bytes maxL ret ws rm mc ms n) (hp : PreV s H C b Pc As)
    (hg : g.method = m) (hn : As.length = n) (hsize : g.locals.size = nL) (hstack : g.stack = As.reverse ++ .ref b :: rest) (hW : 2 * g.monitorRoom + (rest.map fun v => v.category).sum ≤ 8) (hdg : decode cc g.pc = .ok (.invokevirtual index, 3)) (hf : cells + mc ≤ R.cells ∧ slots + ms ≤ R.slots) :
    vx_Run p l e R s m args below meth c H locs cells slots mc ms g rest (Qc (Value.ref b :: As).toArray) XC free := by
  have hK : vx_Back l R p e below s args y 3 8 (PreOf R mc ms Pc) (PostOf Qc mc ms free) (vx_Post XC mc ms free) := vx_callBack cw.1 hM hp.1
  obtain ⟨⟨-, -, -, -, -, -, hcode, -, hy, hlen, hl⟩, hin, hse⟩ := cw
  obtain ⟨hx, hb, hml, ho, -⟩ := S
  obtain ⟨-, ⟨cellB, hcB, hoB, hclB⟩, hPc⟩ := hp
  intro T hT X
  rcases vx_callV X hx (C := C) (bytes := bytes) (maxL := maxL) (ret := ret) ho hl hin hse hcode hy hK (by rw [hT]; exact hcB) hoB hclB hg (hsize.trans hml.symm) (argsL := As) (rest := rest) (fun sig h => hn.trans (hlen sig h)) hstack hW (by rw [hb]; exact hdg)
    (fun vm₁ hW₁ => ⟨hf.1, hf.2, hPc (T.setVm vm₁) hT hW₁⟩) with ⟨v, vm₁, ⟨U', l2, c2, s2⟩, hW₁, X', ⟨g', mk, t, L, e1, e2, hq, h1, hL, h2, h3⟩, st⟩ | ⟨q, vm₁, ⟨U', l2, c2, s2⟩, hW₁, X', ⟨g', mk, t, L, E, ce, e1, e2, hq, hce, hcv, hcl, h1, hL, h2, h3⟩, st⟩
  · dsimp only [Pt.U, Pt.locs, Pt.cells, Pt.slots] at X' e1 e2 h1 h2 h3 st
    subst h1; subst h2; subst h3
    exact Or.inl ⟨v, (T.setVm vm₁).calling g' mk (Value.ref b :: As).toArray, t, U', L, hT, X', hL, e1, e2, hq, st⟩
  · dsimp only [Pt.U, Pt.locs, Pt.cells, Pt.slots] at X' e1 e2 h1 h2 h3 st hcl
    subst h1; subst h2; subst h3
    exact Or.inr ⟨q, (T.setVm vm₁).calling g' mk (Value.ref b :: As).toArray, t, U', L, E, ce, hT, X', hL, e1, e2, hq, hce, hcv, vx_cls hW₁ hcl, st⟩
theorem vx_runS (S : CallFix p m c cc nL s args Ts own) (hM : vx_Met l y ws rm Pc Qc XC mc ms free) (cw : CallB R s args own index y bytes maxL ret ws rm mc ms n ∧ (Cond.static y).before args s = true) (hp : PreS s H Pc As)
    (hg : g.method = m) (hn : As.length = n) (hsize : g.locals.size = nL) (hstack : g.stack = As.reverse ++ rest) (hW : 2 * g.monitorRoom + (rest.map fun v => v.category).sum ≤ 8) (hdg : decode cc g.pc = .ok (.invokestatic index, 3)) (hf : cells + mc ≤ R.cells ∧ slots + ms ≤ R.slots) :
    vx_Run p l e R s m args below meth c H locs cells slots mc ms g rest (Qc As.toArray) XC free := by
  have hK : vx_Back l R p e below s args y 3 8 (PreOf R mc ms Pc) (PostOf Qc mc ms free) (vx_Post XC mc ms free) := vx_callBack cw.1 hM hp.1
  obtain ⟨⟨-, -, -, -, -, -, hcode, hini, hy, hlen, hl⟩, hstt⟩ := cw
  obtain ⟨hx, hb, hml, ho, -⟩ := S
  intro T hT X
  rcases vx_callS X hx (bytes := bytes) (maxL := maxL) (ret := ret) ho hl hstt hini hcode hy hK hg (hsize.trans hml.symm) (argsL := As) (rest := rest) (fun sig h => hn.trans (hlen sig h)) hstack hW (by rw [hb]; exact hdg)
    (fun vm₁ hW₁ => ⟨hf.1, hf.2, hp.2 (T.setVm vm₁) hT hW₁⟩) with ⟨v, vm₁, ⟨U', l2, c2, s2⟩, hW₁, X', ⟨g', mk, t, L, e1, e2, hq, h1, hL, h2, h3⟩, st⟩ | ⟨q, vm₁, ⟨U', l2, c2, s2⟩, hW₁, X', ⟨g', mk, t, L, E, ce, e1, e2, hq, hce, hcv, hcl, h1, hL, h2, h3⟩, st⟩
  · dsimp only [Pt.U, Pt.locs, Pt.cells, Pt.slots] at X' e1 e2 h1 h2 h3 st
    subst h1; subst h2; subst h3
    exact Or.inl ⟨v, (T.setVm vm₁).calling g' mk As.toArray, t, U', L, hT, X', hL, e1, e2, hq, st⟩
  · dsimp only [Pt.U, Pt.locs, Pt.cells, Pt.slots] at X' e1 e2 h1 h2 h3 st hcl
    subst h1; subst h2; subst h3
    exact Or.inr ⟨q, (T.setVm vm₁).calling g' mk As.toArray, t, U', L, E, ce, hT, X', hL, e1, e2, hq, hce, hcv, vx_cls hW₁ hcl, st⟩
end Runs
section Rows
variable {p : Program} {l : Launch} {e : Env} {R : Room} {s : State} {m : MethodId} {args : Array Value} {below : List Frame} {meth : Method} {c : Code} {H : Heap} {locs : List Loc} {cells slots : Nat} {Q : State → Prop}
variable {mc ms : Nat} {free : Addr → Prop} {A0 A1 : Nat → Prop} {H0 : Heap} {a : Array Value} {pc : Nat} {ls : Array Slot} {st0 rest : List Value}
theorem vx_keep {st₀ t T' : State} {L : List Loc} (h0 : st₀.heap = H) (e1 : T'.heap = t.heap) (hS : va_S A0 H0 H locs) (hA : ∀ q, q < H.size → A1 q → A0 q) (hf : ∀ q, free q → A0 q) (hL : ∀ q ∈ L, free q.base) (hF : va_F A1 st₀ t) :
    H.size ≤ T'.heap.size ∧ (∀ q : Nat, q < H.size → ¬ A1 q → T'.heap[q]? = H[q]?) ∧ va_S A0 H0 T'.heap (locs ++ L) := by
  obtain ⟨hz, hk⟩ := hF
  rw [h0] at hz hk
  exact ⟨by rw [e1]; exact hz, fun q h1 h2 => by rw [e1]; exact hk q h1 h2,
    ⟨Nat.le_trans hS.1 (by rw [e1]; exact hz), fun q h1 h2 => by rw [e1, hk q (Nat.lt_of_lt_of_le h1 hS.1) (fun z => h2 (hA q (Nat.lt_of_lt_of_le h1 hS.1) z))]; exact hS.2.1 q h1 h2, fun q hq => by
      rcases List.mem_append.mp hq with h | h
      · exact hS.2.2 q h
      · exact hf _ (hL q h)⟩⟩
theorem vx_calli {S SX : Type} {post : Int32 → S → Prop} {px : SX → Prop} {B : S → State → Prop} {BX : String → SX → State → Prop} {AX : Nat → Prop} (hr : vx_Run p l e R s m args below meth c H locs cells slots mc ms (F0 m pc ls st0) rest (va_Qi post B A1 a) (vx_X px BX AX) free) (hS : va_S A0 H0 H locs) (hA : ∀ q, q < H.size → A1 q → A0 q) (hf : ∀ q, free q → A0 q) (hAX : ∀ q, q < H.size → AX q → A0 q)
    (kx : ∀ (E : String) (ce : Cell) (q9 : Addr) (u : SX) (t : State) (H1 : Heap) (locs1 : List Loc), t.heap = H1 → s.vm.Alike t.vm → px u → BX E u t → H.size ≤ H1.size → (∀ q : Nat, q < H.size → ¬ AX q → H1[q]? = H[q]?) → va_S A0 H0 H1 locs1 → H1[q9]? = some ce → ce.vm = .none → s.vm.findClass E = some ce.cls → vx_W p l e R s m args below meth c H1 locs1 (cells + mc) (slots + ms) Q (F0 m pc ls rest) q9)
    (kk : ∀ (r : Int32) (u : S) (t : State) (H1 : Heap) (locs1 : List Loc), t.heap = H1 → s.vm.Alike t.vm → post r u → B u t → H.size ≤ H1.size → (∀ q : Nat, q < H.size → ¬ A1 q → H1[q]? = H[q]?) → va_S A0 H0 H1 locs1 → W p l e R s m args below meth c H1 locs1 (cells + mc) (slots + ms) Q (F0 m (pc + 3) ls (.int r :: rest))) : W p l e R s m args below meth c H locs cells slots Q (F0 m pc ls st0) := by
  intro T hT X
  rcases hr T hT X with ⟨v, st₀, t, T', L, h0, X', hL, e1, e2, ⟨⟨r, u, hv, hp, hb⟩, hF⟩, st⟩ | ⟨q, st₀, t, T', L, E, ce, h0, X', hL, e1, e2, ⟨u, hp, hb, hF⟩, hce, hcv, hcl, st⟩
  · cases hv
    obtain ⟨k1, k2, k3⟩ := vx_keep h0 e1 hS hA hf hL hF
    obtain ⟨t2, a1, b1⟩ := kk r u t T'.heap (locs ++ L) e1.symm (by rw [← e2]; exact X'.warmed.alike) hp hb k1 k2 k3 T' rfl X'
    exact ⟨t2, st t2 a1, b1⟩
  · obtain ⟨k1, k2, k3⟩ := vx_keep h0 e1 hS hAX hf hL hF
    obtain ⟨t2, a1, b1⟩ := kx E ce q u t T'.heap (locs ++ L) e1.symm (by rw [← e2]; exact X'.warmed.alike) hp hb k1 k2 k3 (by rw [e1]; exact hce) hcv hcl T' rfl X'
    exact ⟨t2, st.trans a1, b1⟩
theorem vx_calll {S SX : Type} {post : Int64 → S → Prop} {px : SX → Prop} {B : S → State → Prop} {BX : String → SX → State → Prop} {AX : Nat → Prop} (hr : vx_Run p l e R s m args below meth c H locs cells slots mc ms (F0 m pc ls st0) rest (va_Ql post B A1 a) (vx_X px BX AX) free) (hS : va_S A0 H0 H locs) (hA : ∀ q, q < H.size → A1 q → A0 q) (hf : ∀ q, free q → A0 q) (hAX : ∀ q, q < H.size → AX q → A0 q)
    (kx : ∀ (E : String) (ce : Cell) (q9 : Addr) (u : SX) (t : State) (H1 : Heap) (locs1 : List Loc), t.heap = H1 → s.vm.Alike t.vm → px u → BX E u t → H.size ≤ H1.size → (∀ q : Nat, q < H.size → ¬ AX q → H1[q]? = H[q]?) → va_S A0 H0 H1 locs1 → H1[q9]? = some ce → ce.vm = .none → s.vm.findClass E = some ce.cls → vx_W p l e R s m args below meth c H1 locs1 (cells + mc) (slots + ms) Q (F0 m pc ls rest) q9)
    (kk : ∀ (r : Int64) (u : S) (t : State) (H1 : Heap) (locs1 : List Loc), t.heap = H1 → s.vm.Alike t.vm → post r u → B u t → H.size ≤ H1.size → (∀ q : Nat, q < H.size → ¬ A1 q → H1[q]? = H[q]?) → va_S A0 H0 H1 locs1 → W p l e R s m args below meth c H1 locs1 (cells + mc) (slots + ms) Q (F0 m (pc + 3) ls (.long r :: rest))) : W p l e R s m args below meth c H locs cells slots Q (F0 m pc ls st0) := by
  intro T hT X
  rcases hr T hT X with ⟨v, st₀, t, T', L, h0, X', hL, e1, e2, ⟨⟨r, u, hv, hp, hb⟩, hF⟩, st⟩ | ⟨q, st₀, t, T', L, E, ce, h0, X', hL, e1, e2, ⟨u, hp, hb, hF⟩, hce, hcv, hcl, st⟩
  · cases hv
    obtain ⟨k1, k2, k3⟩ := vx_keep h0 e1 hS hA hf hL hF
    obtain ⟨t2, a1, b1⟩ := kk r u t T'.heap (locs ++ L) e1.symm (by rw [← e2]; exact X'.warmed.alike) hp hb k1 k2 k3 T' rfl X'
    exact ⟨t2, st t2 a1, b1⟩
  · obtain ⟨k1, k2, k3⟩ := vx_keep h0 e1 hS hAX hf hL hF
    obtain ⟨t2, a1, b1⟩ := kx E ce q u t T'.heap (locs ++ L) e1.symm (by rw [← e2]; exact X'.warmed.alike) hp hb k1 k2 k3 (by rw [e1]; exact hce) hcv hcl T' rfl X'
    exact ⟨t2, st.trans a1, b1⟩
theorem vx_callf {S SX : Type} {post : UInt32 → S → Prop} {px : SX → Prop} {B : S → State → Prop} {BX : String → SX → State → Prop} {AX : Nat → Prop} (hr : vx_Run p l e R s m args below meth c H locs cells slots mc ms (F0 m pc ls st0) rest (va_Qf post B A1 a) (vx_X px BX AX) free) (hS : va_S A0 H0 H locs) (hA : ∀ q, q < H.size → A1 q → A0 q) (hf : ∀ q, free q → A0 q) (hAX : ∀ q, q < H.size → AX q → A0 q)
    (kx : ∀ (E : String) (ce : Cell) (q9 : Addr) (u : SX) (t : State) (H1 : Heap) (locs1 : List Loc), t.heap = H1 → s.vm.Alike t.vm → px u → BX E u t → H.size ≤ H1.size → (∀ q : Nat, q < H.size → ¬ AX q → H1[q]? = H[q]?) → va_S A0 H0 H1 locs1 → H1[q9]? = some ce → ce.vm = .none → s.vm.findClass E = some ce.cls → vx_W p l e R s m args below meth c H1 locs1 (cells + mc) (slots + ms) Q (F0 m pc ls rest) q9)
    (kk : ∀ (r : UInt32) (u : S) (t : State) (H1 : Heap) (locs1 : List Loc), t.heap = H1 → s.vm.Alike t.vm → post r u → B u t → H.size ≤ H1.size → (∀ q : Nat, q < H.size → ¬ A1 q → H1[q]? = H[q]?) → va_S A0 H0 H1 locs1 → W p l e R s m args below meth c H1 locs1 (cells + mc) (slots + ms) Q (F0 m (pc + 3) ls (.float r :: rest))) : W p l e R s m args below meth c H locs cells slots Q (F0 m pc ls st0) := by
  intro T hT X
  rcases hr T hT X with ⟨v, st₀, t, T', L, h0, X', hL, e1, e2, ⟨⟨r, u, hv, hp, hb⟩, hF⟩, st⟩ | ⟨q, st₀, t, T', L, E, ce, h0, X', hL, e1, e2, ⟨u, hp, hb, hF⟩, hce, hcv, hcl, st⟩
  · cases hv
    obtain ⟨k1, k2, k3⟩ := vx_keep h0 e1 hS hA hf hL hF
    obtain ⟨t2, a1, b1⟩ := kk r u t T'.heap (locs ++ L) e1.symm (by rw [← e2]; exact X'.warmed.alike) hp hb k1 k2 k3 T' rfl X'
    exact ⟨t2, st t2 a1, b1⟩
  · obtain ⟨k1, k2, k3⟩ := vx_keep h0 e1 hS hAX hf hL hF
    obtain ⟨t2, a1, b1⟩ := kx E ce q u t T'.heap (locs ++ L) e1.symm (by rw [← e2]; exact X'.warmed.alike) hp hb k1 k2 k3 (by rw [e1]; exact hce) hcv hcl T' rfl X'
    exact ⟨t2, st.trans a1, b1⟩
theorem vx_calld {S SX : Type} {post : UInt64 → S → Prop} {px : SX → Prop} {B : S → State → Prop} {BX : String → SX → State → Prop} {AX : Nat → Prop} (hr : vx_Run p l e R s m args below meth c H locs cells slots mc ms (F0 m pc ls st0) rest (va_Qd post B A1 a) (vx_X px BX AX) free) (hS : va_S A0 H0 H locs) (hA : ∀ q, q < H.size → A1 q → A0 q) (hf : ∀ q, free q → A0 q) (hAX : ∀ q, q < H.size → AX q → A0 q)
    (kx : ∀ (E : String) (ce : Cell) (q9 : Addr) (u : SX) (t : State) (H1 : Heap) (locs1 : List Loc), t.heap = H1 → s.vm.Alike t.vm → px u → BX E u t → H.size ≤ H1.size → (∀ q : Nat, q < H.size → ¬ AX q → H1[q]? = H[q]?) → va_S A0 H0 H1 locs1 → H1[q9]? = some ce → ce.vm = .none → s.vm.findClass E = some ce.cls → vx_W p l e R s m args below meth c H1 locs1 (cells + mc) (slots + ms) Q (F0 m pc ls rest) q9)
    (kk : ∀ (r : UInt64) (u : S) (t : State) (H1 : Heap) (locs1 : List Loc), t.heap = H1 → s.vm.Alike t.vm → post r u → B u t → H.size ≤ H1.size → (∀ q : Nat, q < H.size → ¬ A1 q → H1[q]? = H[q]?) → va_S A0 H0 H1 locs1 → W p l e R s m args below meth c H1 locs1 (cells + mc) (slots + ms) Q (F0 m (pc + 3) ls (.double r :: rest))) : W p l e R s m args below meth c H locs cells slots Q (F0 m pc ls st0) := by
  intro T hT X
  rcases hr T hT X with ⟨v, st₀, t, T', L, h0, X', hL, e1, e2, ⟨⟨r, u, hv, hp, hb⟩, hF⟩, st⟩ | ⟨q, st₀, t, T', L, E, ce, h0, X', hL, e1, e2, ⟨u, hp, hb, hF⟩, hce, hcv, hcl, st⟩
  · cases hv
    obtain ⟨k1, k2, k3⟩ := vx_keep h0 e1 hS hA hf hL hF
    obtain ⟨t2, a1, b1⟩ := kk r u t T'.heap (locs ++ L) e1.symm (by rw [← e2]; exact X'.warmed.alike) hp hb k1 k2 k3 T' rfl X'
    exact ⟨t2, st t2 a1, b1⟩
  · obtain ⟨k1, k2, k3⟩ := vx_keep h0 e1 hS hAX hf hL hF
    obtain ⟨t2, a1, b1⟩ := kx E ce q u t T'.heap (locs ++ L) e1.symm (by rw [← e2]; exact X'.warmed.alike) hp hb k1 k2 k3 (by rw [e1]; exact hce) hcv hcl T' rfl X'
    exact ⟨t2, st.trans a1, b1⟩
theorem vx_callv {S SX : Type} {post : S → Prop} {px : SX → Prop} {B : S → State → Prop} {BX : String → SX → State → Prop} {AX : Nat → Prop} (hr : vx_Run p l e R s m args below meth c H locs cells slots mc ms (F0 m pc ls st0) rest (va_Qv post B A1 a) (vx_X px BX AX) free) (hS : va_S A0 H0 H locs) (hA : ∀ q, q < H.size → A1 q → A0 q) (hf : ∀ q, free q → A0 q) (hAX : ∀ q, q < H.size → AX q → A0 q)
    (kx : ∀ (E : String) (ce : Cell) (q9 : Addr) (u : SX) (t : State) (H1 : Heap) (locs1 : List Loc), t.heap = H1 → s.vm.Alike t.vm → px u → BX E u t → H.size ≤ H1.size → (∀ q : Nat, q < H.size → ¬ AX q → H1[q]? = H[q]?) → va_S A0 H0 H1 locs1 → H1[q9]? = some ce → ce.vm = .none → s.vm.findClass E = some ce.cls → vx_W p l e R s m args below meth c H1 locs1 (cells + mc) (slots + ms) Q (F0 m pc ls rest) q9)
    (kk : ∀ (u : S) (t : State) (H1 : Heap) (locs1 : List Loc), t.heap = H1 → s.vm.Alike t.vm → post u → B u t → H.size ≤ H1.size → (∀ q : Nat, q < H.size → ¬ A1 q → H1[q]? = H[q]?) → va_S A0 H0 H1 locs1 → W p l e R s m args below meth c H1 locs1 (cells + mc) (slots + ms) Q (F0 m (pc + 3) ls (rest))) : W p l e R s m args below meth c H locs cells slots Q (F0 m pc ls st0) := by
  intro T hT X
  rcases hr T hT X with ⟨v, st₀, t, T', L, h0, X', hL, e1, e2, ⟨⟨u, hv, hp, hb⟩, hF⟩, st⟩ | ⟨q, st₀, t, T', L, E, ce, h0, X', hL, e1, e2, ⟨u, hp, hb, hF⟩, hce, hcv, hcl, st⟩
  · cases hv
    obtain ⟨k1, k2, k3⟩ := vx_keep h0 e1 hS hA hf hL hF
    obtain ⟨t2, a1, b1⟩ := kk u t T'.heap (locs ++ L) e1.symm (by rw [← e2]; exact X'.warmed.alike) hp hb k1 k2 k3 T' rfl X'
    exact ⟨t2, st t2 a1, b1⟩
  · obtain ⟨k1, k2, k3⟩ := vx_keep h0 e1 hS hAX hf hL hF
    obtain ⟨t2, a1, b1⟩ := kx E ce q u t T'.heap (locs ++ L) e1.symm (by rw [← e2]; exact X'.warmed.alike) hp hb k1 k2 k3 (by rw [e1]; exact hce) hcv hcl T' rfl X'
    exact ⟨t2, st.trans a1, b1⟩
/-- caught by the row x of this method's table; the rows ahead don't take it -/
theorem vx_catch {own name : String} {E : String} {ce : Cell} {q : Addr} (hown : s.vm.findClass own = some m.cls) (pre : List ExceptionTableEntry) (x : ExceptionTableEntry) (suf : List ExceptionTableEntry) (hsplit : c.exceptionTable.toList = pre ++ x :: suf)
    (hpass : ∀ z ∈ pre, covers z pc = false ∨ (z.catchType ≠ 0 ∧ ∃ nm : String, (Cond.classLink own z.catchType nm).before args s = true ∧ va_Nc E nm s)) (hx : covers x pc = true) (h0 : x.catchType ≠ 0)
    (hlink : (Cond.classLink own x.catchType name).before args s = true) (hcast : (Cond.castable E name).before args s = true) (hcell : H[q]? = some ce) (hv : ce.vm = .none) (hcl : s.vm.findClass E = some ce.cls)
    (kk : W p l e R s m args below meth c H locs cells slots Q (F0 m x.handlerPc ls [.ref q])) : vx_W p l e R s m args below meth c H locs cells slots Q (F0 m pc ls rest) q := by
  intro T hT X
  have hpl : e.platform.magicAccessors = ({} : Platform).magicAccessors := by rw [X.admits.platform]
  obtain ⟨c3, c4, hc3, hc4, hasg⟩ := Cond.castable_spec hcast
  cases Option.some.inj (hc3.symm.trans hcl)
  obtain ⟨c5, hc5, hcl5⟩ := Cond.classLink_spec hown hlink e.platform hpl
  cases Option.some.inj (hc4.symm.trans hc5)
  obtain ⟨vm', X', st⟩ := X.thenCaughtThrough q (g := F0 m pc ls rest) rfl (Steps.refl _) (by rw [hT]; exact hcell) (by rw [hv]; rfl) (by obtain ⟨k9, h9, -⟩ := Vm.findClass_spec hcl; exact ⟨k9, h9⟩) pre x suf hsplit
    (fun z hz => by
      rcases hpass z hz with h | ⟨hz0, nm, hl1, hn1⟩
      · exact Or.inl h
      · obtain ⟨c6, hc6, hcl6⟩ := Cond.classLink_spec hown hl1 e.platform hpl
        obtain ⟨a8, b8, h1, h2, h3⟩ := hn1
        cases Option.some.inj (h1.symm.trans hcl)
        cases Option.some.inj (h2.symm.trans hc6)
        exact Or.inr ⟨hz0, _, hcl6, h3⟩) hx (Or.inr ⟨h0, c4, hcl5, hasg⟩)
  obtain ⟨t, a1, b1⟩ := kk (T.setVm vm') hT X'
  exact ⟨t, st.trans a1, b1⟩
end Rows
section Ends
variable {p : Program} {l : Launch} {e : Env} {R : Room} {s : State} {m : MethodId} {args : Array Value} {below : List Frame} {meth : Method} {c : Code} {H : Heap} {locs : List Loc} {cells slots : Nat} {Q : State → Prop}
variable {mc ms : Nat} {free : Addr → Prop} {A0 A1 : Nat → Prop} {H0 : Heap} {a : Array Value} {ls : Array Slot} {st0 rest : List Value}
variable {Qc : Array Value → State → Outcome → State → Prop} {XC : String → State → State → Prop}
/-- what a body that may throw owes at its end -/
def vx_MQ (below : List Frame) (Qc : Array Value → State → Outcome → State → Prop) (XC : String → State → State → Prop) (a : Array Value) (s : State) (mc ms : Nat) (free : Addr → Prop) : State → Prop := fun t =>
  ∃ o, t.status = .running ∧ Ended t below o ∧ vx_Q Qc XC mc ms free a s o t
theorem vx_ret {g : JFrame} {mc ms : Nat} (k : W p l e R s m args below meth c H locs cells slots (MQ below Qc args s mc ms free) g) : W p l e R s m args below meth c H locs cells slots (vx_MQ below Qc XC args s mc ms free) g := by
  intro T hT X
  obtain ⟨t, a1, o, b1, b2, b3, b4⟩ := k T hT X
  exact ⟨t, a1, o, b1, b2, Or.inl ⟨b3, b4⟩⟩
/-- not caught here: it goes on to the caller -/
theorem vx_widen {g : JFrame} {q : Addr} {k n : Nat} (h1 : cells ≤ k) (h2 : slots ≤ n) (kk : vx_W p l e R s m args below meth c H locs k n Q g q) : vx_W p l e R s m args below meth c H locs cells slots Q g q := fun T hT X => kk T hT (stand_widen X h1 h2)
theorem vx_out {pc : Nat} {E : String} {ce : Cell} {q : Addr} {mc ms : Nat} (hout : ∀ x ∈ c.exceptionTable.toList, covers x pc = false) (hlocks : meth.locks = false) (hcell : H[q]? = some ce) (hv : ce.vm = .none) (hcl : s.vm.findClass E = some ce.cls)
    (hx : ∀ t : State, t.heap = H → s.vm.Alike t.vm → XC E s t) (hf : ∀ z ∈ locs, free z.base) (hc : cells ≤ mc) (hs : slots ≤ ms) :
    vx_W p l e R s m args below meth c H locs cells slots (vx_MQ below Qc XC args s mc ms free) (F0 m pc ls rest) q := by
  intro T hT X
  obtain ⟨st1, hrun, hend, hW, hsm⟩ := X.leaveThrown q (g := F0 m pc ls rest) rfl rfl rfl hout hlocks
  have hcell9 : (T.setFrames (.throwing q :: below)).heap[q]? = some ce := by
    show T.heap[q]? = some ce
    rw [hT]; exact hcell
  exact ⟨_, st1, .threw q, hrun, hend, Or.inr ⟨q, rfl, E, ce, locs, hx _ hT hW.alike, hcell9, hv, hcl, hW, hsm.mono hc hs, hf⟩⟩
theorem vx_frame {U : State} {k n : Nat} (h : s.sameButNew ({ U with vm := s.vm } : State) locs k n) : s.heap.size ≤ U.heap.size ∧ ∀ q : Nat, q < s.heap.size → (∀ z ∈ locs, z.base ≠ q) → U.heap[q]? = s.heap[q]? := by
  obtain ⟨-, h2, -, -, -, h6⟩ := h
  refine ⟨h2, fun q hq hz => ?_⟩
  obtain ⟨c9, e1, e2, e3, e4⟩ := h6 q _ (Array.getElem?_eq_getElem hq)
  have hs : c9.slots = (s.heap[q]).slots := Array.ext_getElem? fun i => e4 i fun hm => hz _ hm rfl
  have h9 : c9 = s.heap[q] := by
    rw [hs] at e2
    exact e2
  have e5 : U.heap[q]? = some c9 := e1
  rw [e5, h9, Array.getElem?_eq_getElem hq]
/-- the words of a throw but the four that speak of the heap -/
def vx_no (w : Cond) : Bool := decide (w ≠ .isRef (.static Bundle.tN "UNASSIGNED_STACK" Bundle.steD)) && decide (w ≠ .isRef (.static Bundle.tN "SUPPRESSED_SENTINEL" Bundle.listD)) && decide (w ≠ .laysStatic Bundle.tN "UNASSIGNED_STACK" Bundle.steD) && decide (w ≠ .laysStatic Bundle.tN "SUPPRESSED_SENTINEL" Bundle.listD)
def vx_at0 (own : String) (ic : Nat) (X : String) (names : List String) : List Cond := (Bundle.ownAtoms0 own ic X names).filter vx_no
def vx_atS (own : String) (ic : Nat) (X : String) (names : List String) : List Cond := (Bundle.ownAtoms own ic X names).filter vx_no
/-- a word that the tables alone decide, or a good one -/
def vx_ot (w : Cond) : Bool := w.onTables || goodWord w
theorem vx_ot_at {args a' : Array Value} {s U : State} {w : Cond} (hW : s.WarmedH U.vm) (hvm : s.vm = U.vm) (hg : vx_ot w = true) (h : w.before args s = true) : w.before a' U = true := by
  simp only [vx_ot, Bool.or_eq_true] at hg
  rcases hg with hg | hg
  · exact va_tabs hg hvm h
  · exact word_at hW (good_of_word hg) h
/-- a list's words: the good ones out of the method's own list, the others by premises of their own -/
theorem vx_hat {args : Array Value} {s : State} {L B : List Cond} (h1 : ∀ w ∈ L.filter goodWord, w.before args s = true) (h2 : ∀ w ∈ L.filter (fun w => !goodWord w), w ∈ B) (h3 : ∀ w ∈ B, w.before args s = true) : ∀ w ∈ L, w.before args s = true := by
  intro w hw
  by_cases g : goodWord w = true
  · exact h1 w (List.mem_filter.mpr ⟨hw, g⟩)
  · refine h3 w (h2 w (List.mem_filter.mpr ⟨hw, ?_⟩))
    show (!goodWord w) = true
    cases hgw : goodWord w
    · rfl
    · exact absurd hgw g
theorem vx_c {args : Array Value} {s : State} {w : Cond} {B : List Cond} (h : w.before args s = true) (t : ∀ w ∈ B, w.before args s = true) : ∀ w' ∈ w :: B, w'.before args s = true := fun w' h' => (List.mem_cons.mp h').elim (fun e => by rw [e]; exact h) (t w')
theorem vx_n {args : Array Value} {s : State} : ∀ w ∈ ([] : List Cond), w.before args s = true := fun _ h => nomatch h
theorem vx_own {args : Array Value} {s : State} {L : List Cond} (h1 : ∀ w ∈ L.filter vx_no, w.before args s = true)
    (hU : (Cond.isRef (.static Bundle.tN "UNASSIGNED_STACK" Bundle.steD)).before args s = true) (hN : (Cond.isRef (.static Bundle.tN "SUPPRESSED_SENTINEL" Bundle.listD)).before args s = true)
    (lU : (Cond.laysStatic Bundle.tN "UNASSIGNED_STACK" Bundle.steD).before args s = true) (lN : (Cond.laysStatic Bundle.tN "SUPPRESSED_SENTINEL" Bundle.listD).before args s = true) : ∀ w ∈ L, w.before args s = true := by
  intro w hw
  by_cases e1 : w = .isRef (.static Bundle.tN "UNASSIGNED_STACK" Bundle.steD)
  · rw [e1]; exact hU
  · by_cases e2 : w = .isRef (.static Bundle.tN "SUPPRESSED_SENTINEL" Bundle.listD)
    · rw [e2]; exact hN
    · by_cases e3 : w = .laysStatic Bundle.tN "UNASSIGNED_STACK" Bundle.steD
      · rw [e3]; exact lU
      · by_cases e4 : w = .laysStatic Bundle.tN "SUPPRESSED_SENTINEL" Bundle.listD
        · rw [e4]; exact lN
        · exact h1 w (List.mem_filter.mpr ⟨hw, by unfold vx_no; rw [decide_eq_true e1, decide_eq_true e2, decide_eq_true e3, decide_eq_true e4]; rfl⟩)
/-- where a static field lies, its class's statics cell in H -/
def vx_L (C n d : String) (A : Nat → Prop) (U : State) (H : Heap) : Prop := ∃ (c : ClassId) (k : Class) (i : Nat) (f : Field) (a : Nat) (cell : Cell), U.vm.findClass C = some c ∧ U.fieldFound? C n d = some (c, k, i, f) ∧ f.isStatic = true ∧ k.statics = some a ∧ H[a]? = some cell ∧ cell.vm.isStatics = true ∧ cell.cls = c ∧ f.slot < cell.slots.size ∧ k.staticTypes[f.slot]? = some f.type ∧ ¬ A a
theorem vx_L.moved {C n d : String} {A : Nat → Prop} {u U : State} {H : Heap} (hvm : u.vm.Alike U.vm) (h : vx_L C n d A u H) : vx_L C n d A U H := by
  obtain ⟨c, k, i, f, a, cell, h1, h2, h3, h4, h5, h6, h7, h8, h9, h10⟩ := h
  obtain ⟨k', hi', he⟩ := State.fieldFound?_setVm hvm h2
  exact ⟨c, k', i, f, a, cell, by rw [hvm.findClass]; exact h1, hi', h3, by rw [he]; exact h4, h5, h6, h7, h8, by rw [he]; exact h9, h10⟩
theorem vx_L.kept {C n d : String} {A : Nat → Prop} {U : State} {H H1 : Heap} (h : vx_L C n d A U H) (hq : ∀ a : Nat, a < H.size → ¬ A a → H1[a]? = H[a]?) : vx_L C n d A U H1 := by
  obtain ⟨c, k, i, f, a, cell, h1, h2, h3, h4, h5, h6, h7, h8, h9, h10⟩ := h
  exact ⟨c, k, i, f, a, cell, h1, h2, h3, h4, by rw [hq a (Array.getElem?_eq_some_iff.mp h5).1 h10]; exact h5, h6, h7, h8, h9, h10⟩
theorem vx_L.narrow {C n d : String} {A B : Nat → Prop} {U : State} {H : Heap} (h : vx_L C n d A U H) (hAB : ∀ q, B q → A q) : vx_L C n d B U H := by
  obtain ⟨c, k, i, f, a, cell, h1, h2, h3, h4, h5, h6, h7, h8, h9, h10⟩ := h
  exact ⟨c, k, i, f, a, cell, h1, h2, h3, h4, h5, h6, h7, h8, h9, fun z => h10 (hAB _ z)⟩
theorem vx_L.word {C n d : String} {A : Nat → Prop} {s : State} {args : Array Value} (h : vx_L C n d A s s.heap) : (Cond.laysStatic C n d).before args s = true := by
  obtain ⟨c, k, i, f, a, cell, h1, h2, h3, h4, h5, h6, h7, h8, h9, -⟩ := h
  show (Cond.laysStatic C n d).holds args s none s [] = true
  exact Cond.laysStatic_of h1 h2 h3 h4 h5 h6 h7 h8 h9
/-- .. and what it holds: null or some reference -/
def vx_Zq (C n d : String) (A : Nat → Prop) (U : State) (H : Heap) : Prop := va_Zq C n d A U H ∧ vx_L C n d A U H
theorem vx_Zq.moved {C n d : String} {A : Nat → Prop} {u U : State} {H : Heap} (hvm : u.vm.Alike U.vm) (h : vx_Zq C n d A u H) : vx_Zq C n d A U H := ⟨va_Zq.moved hvm h.1, vx_L.moved hvm h.2⟩
theorem vx_Zq.kept {C n d : String} {A : Nat → Prop} {U : State} {H H1 : Heap} (h : vx_Zq C n d A U H) (hq : ∀ a : Nat, a < H.size → ¬ A a → H1[a]? = H[a]?) : vx_Zq C n d A U H1 := ⟨va_Zq.kept h.1 hq, vx_L.kept h.2 hq⟩
theorem vx_Zq.narrow {C n d : String} {A B : Nat → Prop} {U : State} {H : Heap} (h : vx_Zq C n d A U H) (hAB : ∀ q, B q → A q) : vx_Zq C n d B U H := ⟨va_Zq.narrow h.1 hAB, vx_L.narrow h.2 hAB⟩
theorem vx_Zqof {args : Array Value} {s : State} {C n d : String} {A : Nat → Prop} (hl : (Cond.laysStatic C n d).before args s = true) (hini : (Cond.initialized C).before args s = true) (h : (Cond.isRef (.static C n d)).before args s = true) (hA : ∀ a : Nat, a < s.heap.size → ¬ A a) : vx_Zq C n d A s s.heap := by
  refine ⟨va_Zqof hl hini h hA, ?_⟩
  obtain ⟨c, k, i, f, a, cell, h1, h2, h3, h4, h5, h6, h7, h8, h9⟩ := Cond.laysStatic_spec hl
  exact ⟨c, k, i, f, a, cell, h1, h2, h3, h4, h5, h6, h7, h8, h9, hA a (Array.getElem?_eq_some_iff.mp h5).1⟩
theorem vx_isRef {C n d : String} {v : Value} {A : Nat → Prop} {s : State} {args : Array Value} (h : va_Z C n d v A s s.heap) (hv : v.isRef = true) : (Cond.isRef (.static C n d)).before args s = true := by
  obtain ⟨cf, kf, fi, f, a, cell, h1, h2, h3, h4, h5, h6, h7, -⟩ := h
  have he : (Term.static C n d).eval args s none [] s = some v := by
    simp [Term.eval, State.fieldNamed?, h1, h2, h4, h5, h6, h7]
  simp only [Cond.before, Cond.holds, Cond.value, he]
  cases v <;> simp_all [Value.isRef]
theorem vx_isRefq {C n d : String} {A : Nat → Prop} {s : State} {args : Array Value} (h : va_Zq C n d A s s.heap) : (Cond.isRef (.static C n d)).before args s = true := by
  rcases h with h | ⟨t, h⟩
  · exact vx_isRef h rfl
  · exact vx_isRef h rfl
/-- the same frame, seen from here: as if the method were called anew in this heap -/
theorem vx_rebase {T : State} (X : Stand p l e R s m args below meth c T locs cells slots) {R' : Room} (hf : R'.frames ≤ R.frames) (hl : R'.locals ≤ R.locals) (hc : cells + R'.cells ≤ R.cells) (hs : slots + R'.slots ≤ R.slots) :
    Stand p l e R' ((T.setVm s.vm).setFrames (.invoking m args :: below)) m args below meth c T [] 0 0 := by
  have htop : (T.setVm s.vm).topJava?.isSome := X.here.top
  have hF : ((T.setVm s.vm).setFrames (.invoking m args :: below)).frames = .invoking m args :: below := State.frames_setFrames _ (State.cur_lt_of_top htop)
  obtain ⟨g₀, hg0⟩ := Option.isSome_iff_exists.mp htop
  obtain ⟨r, hr⟩ := State.topJava?_eq_some.mp hg0
  have hl9 : e.platform.stackLimits (T.setVm s.vm).me = e.platform.stackLimits s.me := X.limits
  have hb9 : (T.setVm s.vm).me.stackBytes = s.me.stackBytes := X.bytes
  refine ⟨X.admits, X.cas, X.clock, hF, ?_, X.hears, X.method, X.code, X.here, X.tail, X.warmed, ?_, ?_, ?_⟩
  · have h := X.room
    have hU : ((T.setVm s.vm).setFrames (.invoking m args :: below)).localsInUse = s.localsInUse := by
      rw [State.localsInUse_invoking hF (meth := meth) (c := c) X.method X.code, State.localsInUse_invoking X.frames X.method X.code]
    simp only [State.hasRoom, Bool.and_eq_true, decide_eq_true_eq] at h ⊢
    obtain ⟨⟨⟨⟨h1, h2, h3, h4, h5, h6⟩, h7⟩, h8⟩, h9⟩ := h
    rw [X.frames, List.length_cons] at h2 h3
    have q1 := X.heapSize
    have q2 := X.used
    simp only [hF, hU, List.length_cons, State.stackLimits_setFrames, State.stackBytes_setFrames, hl9, hb9]
    refine ⟨⟨⟨⟨by omega, by omega, by omega, by omega, by omega, h6⟩, ?_⟩, ?_⟩, X.book⟩
    · show T.heap.size + R'.cells ≤ e.platform.maxCells
      omega
    · show T.slotsUsed + R'.slots ≤ e.platform.maxSlots
      omega
  · rw [State.stackLimits_setFrames]; rfl
  · rw [State.stackBytes_setFrames]; rfl
  · refine ⟨?_, Nat.le_refl _, Nat.le_refl _, ?_, ?_, fun a c9 h9 => ⟨c9, h9, rfl, rfl, fun _ _ => rfl⟩⟩
    · obtain ⟨t, ht, -⟩ := State.frames_cons hr
      show T.setVm s.vm = { ((T.setVm s.vm).setFrames (.invoking m args :: below)).setFrames (T.setVm s.vm).frames with heap := T.heap, slotsUsed := T.slotsUsed }
      rw [State.setFrames_setFrames, State.setFrames_self ht]
      rfl
    · show T.slotsUsed = T.slotsUsed + ((T.heap.toList.drop T.heap.size).map (·.slots.size)).sum
      rw [List.drop_eq_nil_of_le (Nat.le_of_eq Array.length_toList)]
      rfl
    · show ((T.heap.toList.drop T.heap.size).map (·.slots.size)).sum ≤ 0
      rw [List.drop_eq_nil_of_le (Nat.le_of_eq Array.length_toList)]
      exact Nat.le_refl _
/-- 'throw new E()': new; dup; invokespecial; athrow -/
theorem vx_throw0 {cc : ByteArray} {pc : Nat} (hexec : p.tables.exec = Jvm.exec) (hb : c.code = cc) (hl : l.stackTraces = false) {own cls : String} {names : List String} {ik ic mc ms : Nat} {A : Nat → Prop}
    (hown : s.vm.findClass own = some m.cls) (hcls : Bundle.fit cls = true) (hnames : ∀ n ∈ names, Bundle.fit n = true)
    (hk : (Cond.classLink own ik cls).before args s = true) (hini : (Cond.initialized cls).before args s = true) (hat : ∀ w ∈ vx_at0 own ic cls names, w.before args s = true)
    (hgood : ∀ w ∈ Cond.classLink own ik cls :: Cond.initialized cls :: vx_at0 own ic cls names, vx_ot w = true)
    (hU : vx_Zq Bundle.tN "UNASSIGNED_STACK" Bundle.steD A s s.heap) (hN : vx_Zq Bundle.tN "SUPPRESSED_SENTINEL" Bundle.listD A s s.heap) (hS : va_S A s.heap H locs) (hsize : ls.size = c.maxLocals)
    (d0 : decode cc pc = .ok (.new ik, 3)) (d3 : decode cc (pc + 3) = .ok (.dup, 1)) (d4 : decode cc (pc + 4) = .ok (.invokespecial ic, 3)) (d7 : decode cc (pc + 7) = .ok (.athrow, 1))
    (hout : ∀ x ∈ c.exceptionTable.toList, covers x (pc + 7) = false)
    (hRframes : names.length + 3 < R.frames) (hRlocals : (rest.map fun v => v.category).sum + (13 * (names.length + 1) + 42) ≤ R.locals) (hRcells : cells + 1 ≤ R.cells) (hRslots : slots + 6 ≤ R.slots) (hlocks : meth.locks = false)
    (hx : ∀ t : State, s.vm.Alike t.vm → H.size ≤ t.heap.size → (∀ q : Nat, q < H.size → t.heap[q]? = H[q]?) → XC cls s t)
    (hf : ∀ z ∈ locs, free z.base) (hc : cells + 1 ≤ mc) (hs : slots + 6 ≤ ms) :
    W p l e R s m args below meth c H locs cells slots (vx_MQ below Qc XC args s mc ms free) (F0 m pc ls rest) := by
  intro T hT X
  have htr : e.platform.stackTraces = false := (show e.platform.stackTraces = l.stackTraces by rw [X.admits.platform]).trans hl
  have Y := vx_rebase X (R' := { frames := R.frames, locals := R.locals, cells := 1, slots := 6 }) (Nat.le_refl _) (Nat.le_refl _) hRcells hRslots
  obtain ⟨s', hA⟩ : ∃ z, z = (T.setVm s.vm).setFrames (.invoking m args :: below) := ⟨_, rfl⟩
  rw [← hA] at Y
  have hvm : s'.vm = s.vm := by rw [hA]; rfl
  have hhp : s'.heap = H := by rw [hA]; exact hT
  have hW0 : s.WarmedH s'.vm := by rw [hvm]; exact State.WarmedH.refl s
  have hat' : ∀ w ∈ vx_at0 own ic cls names, w.before args s' = true := fun w hw => vx_ot_at hW0 hvm.symm (hgood w (List.mem_cons_of_mem _ (List.mem_cons_of_mem _ hw))) (hat w hw)
  have hk' : (Cond.classLink own ik cls).before args s' = true := vx_ot_at hW0 hvm.symm (hgood _ List.mem_cons_self) hk
  have hini' : (Cond.initialized cls).before args s' = true := vx_ot_at hW0 hvm.symm (hgood _ (List.mem_cons_of_mem _ List.mem_cons_self)) hini
  have hU' : vx_Zq Bundle.tN "UNASSIGNED_STACK" Bundle.steD A s' s'.heap := by rw [hhp]; exact vx_Zq.moved hW0.alike (hU.kept hS.2.1)
  have hN' : vx_Zq Bundle.tN "SUPPRESSED_SENTINEL" Bundle.listD A s' s'.heap := by rw [hhp]; exact vx_Zq.moved hW0.alike (hN.kept hS.2.1)
  have h : ∀ w ∈ Bundle.ownAtoms0 own ic cls names, w.before args s' = true := vx_own hat' (vx_isRefq hU'.1) (vx_isRefq hN'.1) hU'.2.word hN'.2.word
  have hown' : s'.vm.findClass own = some m.cls := by rw [hvm]; exact hown
  have hins : (Cond.instantiable cls 6).before args s' = true := h _ (by simp [Bundle.ownAtoms0])
  obtain ⟨vm₁, cX, kX, hfX, hkX, -, -, X₁, st1⟩ := Y.newCold hexec (own := own) (C := cls) (index := ik) (n := 6) hown' hk' hins hini'
    (g := F0 m pc ls rest) rfl (by rw [hb]; exact d0) (Nat.le_refl _) (Nat.le_refl _)
  generalize hT1 : (T.setVm vm₁).pushCell { cls := cX, slots := kX.instanceTypes.map defaultValue, vm := .none } = T1 at X₁ st1
  have hcat : (Value.ref T.heap.size).category = 1 := rfl
  have hcellA : T1.heap[T.heap.size]? = some (freshCell cX kX) := by rw [← hT1]; exact State.heap_pushCell_size _ _
  have d3' : decode c.code (pc + 3) = .ok (.dup, 1) := by rw [hb]; exact d3
  obtain ⟨U, hsteps, hrun, hend, hW, hsame, ce, hce, hO⟩ := X₁.ctorThrow0 hexec htr (own := own) (cls := cls) (names := names) (ic := ic) hown' hcls hnames h (fun x hx => nomatch hx) hfX hkX hcellA (by rw [hhp, hT]; exact Nat.le_refl _)
    (g := { method := m, pc := pc + 4, locals := ls, stack := .ref T.heap.size :: .ref T.heap.size :: rest, locked := none }) rfl hsize rfl rfl (rest := rest) rfl
    (by rw [hb]; exact d4) (by rw [hb]; exact d7) hout hRframes (by simp only [List.map_cons, List.sum_cons, hcat]; omega) hlocks
  obtain ⟨f1, f2⟩ := vx_frame hsame
  rw [hhp] at f1 f2
  have hWs : s.WarmedH U.vm := State.WarmedH.trans hW0 hW
  have hcl : s.vm.findClass cls = some ce.cls := by
    have h9 := hO.cls
    rw [hvm] at h9
    exact h9
  have hall : s.sameButNew ({ U with vm := s.vm } : State) locs mc ms := by
    subst hA
    obtain ⟨e1, e2⟩ := hsame
    rw [State.setFrames_setFrames] at e1
    have h2 : (T.setVm s.vm).sameButNew ({ U with vm := s.vm } : State) [] (0 + 1) (0 + 6) := ⟨e1, e2⟩
    have h3 := X.same.trans h2
    rw [List.append_nil] at h3
    exact h3.mono hc hs
  refine ⟨U, ?_, .threw T.heap.size, hrun, hend, Or.inr ⟨T.heap.size, rfl, cls, ce, locs, hx U hWs.alike f1 (fun q hq => f2 q hq (fun z hz => nomatch hz)), hce, hO.vm, hcl, hWs, hall, hf⟩⟩
  refine st1 _ ?_
  show Steps p.tables e below (T1.setTop { method := m, pc := pc + 3, locals := ls, stack := .ref T.heap.size :: rest, locked := none }) _
  jvm_step X₁.here [X₁.here.top, hexec, d3', Value.category]
  exact hsteps
/-- 'throw new E("text")': new; dup; ldc; invokespecial; athrow -/
theorem vx_throwS {cc : ByteArray} {pc : Nat} (hexec : p.tables.exec = Jvm.exec) (hb : c.code = cc) (hl : l.stackTraces = false) {own cls text : String} {names : List String} {ik is ic mc ms sa : Nat} {A : Nat → Prop}
    (hown : s.vm.findClass own = some m.cls) (hcls : Bundle.fit cls = true) (hnames : ∀ n ∈ names, Bundle.fit n = true)
    (hk : (Cond.classLink own ik cls).before args s = true) (hini : (Cond.initialized cls).before args s = true) (hstr : vk_R own is text sa s) (hat : ∀ w ∈ vx_atS own ic cls names, w.before args s = true)
    (hgood : ∀ w ∈ Cond.classLink own ik cls :: Cond.initialized cls :: vx_atS own ic cls names, vx_ot w = true)
    (hU : vx_Zq Bundle.tN "UNASSIGNED_STACK" Bundle.steD A s s.heap) (hN : vx_Zq Bundle.tN "SUPPRESSED_SENTINEL" Bundle.listD A s s.heap) (hS : va_S A s.heap H locs) (hsize : ls.size = c.maxLocals)
    (d0 : decode cc pc = .ok (.new ik, 3)) (d3 : decode cc (pc + 3) = .ok (.dup, 1)) (d4 : decode cc (pc + 4) = .ok (.ldc is, 2)) (d6 : decode cc (pc + 6) = .ok (.invokespecial ic, 3)) (d9 : decode cc (pc + 9) = .ok (.athrow, 1))
    (hout : ∀ x ∈ c.exceptionTable.toList, covers x (pc + 9) = false)
    (hRframes : names.length + 3 < R.frames) (hRlocals : (rest.map fun v => v.category).sum + (13 * (names.length + 1) + 43) ≤ R.locals) (hRcells : cells + 1 ≤ R.cells) (hRslots : slots + 6 ≤ R.slots) (hlocks : meth.locks = false)
    (hx : ∀ t : State, s.vm.Alike t.vm → H.size ≤ t.heap.size → (∀ q : Nat, q < H.size → t.heap[q]? = H[q]?) → XC cls s t)
    (hf : ∀ z ∈ locs, free z.base) (hc : cells + 1 ≤ mc) (hs : slots + 6 ≤ ms) :
    W p l e R s m args below meth c H locs cells slots (vx_MQ below Qc XC args s mc ms free) (F0 m pc ls rest) := by
  intro T hT X
  have htr : e.platform.stackTraces = false := (show e.platform.stackTraces = l.stackTraces by rw [X.admits.platform]).trans hl
  have Y := vx_rebase X (R' := { frames := R.frames, locals := R.locals, cells := 1, slots := 6 }) (Nat.le_refl _) (Nat.le_refl _) hRcells hRslots
  obtain ⟨s', hA⟩ : ∃ z, z = (T.setVm s.vm).setFrames (.invoking m args :: below) := ⟨_, rfl⟩
  rw [← hA] at Y
  have hvm : s'.vm = s.vm := by rw [hA]; rfl
  have hhp : s'.heap = H := by rw [hA]; exact hT
  have hW0 : s.WarmedH s'.vm := by rw [hvm]; exact State.WarmedH.refl s
  have hat' : ∀ w ∈ vx_atS own ic cls names, w.before args s' = true := fun w hw => vx_ot_at hW0 hvm.symm (hgood w (List.mem_cons_of_mem _ (List.mem_cons_of_mem _ hw))) (hat w hw)
  have hk' : (Cond.classLink own ik cls).before args s' = true := vx_ot_at hW0 hvm.symm (hgood _ List.mem_cons_self) hk
  have hini' : (Cond.initialized cls).before args s' = true := vx_ot_at hW0 hvm.symm (hgood _ (List.mem_cons_of_mem _ List.mem_cons_self)) hini
  have hU' : vx_Zq Bundle.tN "UNASSIGNED_STACK" Bundle.steD A s' s'.heap := by rw [hhp]; exact vx_Zq.moved hW0.alike (hU.kept hS.2.1)
  have hN' : vx_Zq Bundle.tN "SUPPRESSED_SENTINEL" Bundle.listD A s' s'.heap := by rw [hhp]; exact vx_Zq.moved hW0.alike (hN.kept hS.2.1)
  have h : ∀ w ∈ Bundle.ownAtoms own ic cls names, w.before args s' = true := vx_own hat' (vx_isRefq hU'.1) (vx_isRefq hN'.1) hU'.2.word hN'.2.word
  have hown' : s'.vm.findClass own = some m.cls := by rw [hvm]; exact hown
  have hins : (Cond.instantiable cls 6).before args s' = true := h _ (by simp [Bundle.ownAtoms])
  obtain ⟨vm₁, cX, kX, hfX, hkX, -, -, X₁, st1⟩ := Y.newCold hexec (own := own) (C := cls) (index := ik) (n := 6) hown' hk' hins hini'
    (g := F0 m pc ls rest) rfl (by rw [hb]; exact d0) (Nat.le_refl _) (Nat.le_refl _)
  generalize hT1 : (T.setVm vm₁).pushCell { cls := cX, slots := kX.instanceTypes.map defaultValue, vm := .none } = T1 at X₁ st1
  have hcat : (Value.ref T.heap.size).category = 1 := rfl
  have hcellA : T1.heap[T.heap.size]? = some (freshCell cX kX) := by rw [← hT1]; exact State.heap_pushCell_size _ _
  have d3' : decode c.code (pc + 3) = .ok (.dup, 1) := by rw [hb]; exact d3
  have d4' : decode c.code (pc + 4) = .ok (.ldc is, 2) := by rw [hb]; exact d4
  have hstr' : vk_R own is text sa s' := vk_R.warm hW0 hstr
  obtain ⟨U, hsteps, hrun, hend, hW, hsame, ce, hce, hO⟩ := X₁.ctorThrowS hexec htr (own := own) (cls := cls) (names := names) (ic := ic) hown' hcls hnames h (fun x hx => nomatch hx) hfX hkX hcellA (by rw [hhp, hT]; exact Nat.le_refl _) (msg := .ref sa) rfl
    (g := { method := m, pc := pc + 6, locals := ls, stack := .ref sa :: .ref T.heap.size :: .ref T.heap.size :: rest, locked := none }) rfl hsize rfl rfl (rest := rest) rfl
    (by rw [hb]; exact d6) (by rw [hb]; exact d9) hout hRframes (by simp only [List.map_cons, List.sum_cons, hcat]; omega) hlocks
  obtain ⟨f1, f2⟩ := vx_frame hsame
  rw [hhp] at f1 f2
  have hWs : s.WarmedH U.vm := State.WarmedH.trans hW0 hW
  have hcl : s.vm.findClass cls = some ce.cls := by
    have h9 := hO.cls
    rw [hvm] at h9
    exact h9
  have hall : s.sameButNew ({ U with vm := s.vm } : State) locs mc ms := by
    subst hA
    obtain ⟨e1, e2⟩ := hsame
    rw [State.setFrames_setFrames] at e1
    have h2 : (T.setVm s.vm).sameButNew ({ U with vm := s.vm } : State) [] (0 + 1) (0 + 6) := ⟨e1, e2⟩
    have h3 := X.same.trans h2
    rw [List.append_nil] at h3
    exact h3.mono hc hs
  refine ⟨U, ?_, .threw T.heap.size, hrun, hend, Or.inr ⟨T.heap.size, rfl, cls, ce, locs, hx U hWs.alike f1 (fun q hq => f2 q hq (fun z hz => nomatch hz)), hce, hO.vm, hcl, hWs, hall, hf⟩⟩
  refine st1 _ ?_
  show Steps p.tables e below (T1.setTop { method := m, pc := pc + 3, locals := ls, stack := .ref T.heap.size :: rest, locked := none }) _
  jvm_step X₁.here [X₁.here.top, hexec, d3', Value.category]
  exact X₁.ldcString hexec (own := own) (text := text) (index := is) (a := sa) hown' hstr'.1 hstr'.2
    (g := { method := m, pc := pc + 4, locals := ls, stack := .ref T.heap.size :: .ref T.heap.size :: rest, locked := none }) rfl d4' _ hsteps
/-- 'throw new E("text")', the text by a wide index -/
theorem vx_throwSW {cc : ByteArray} {pc : Nat} (hexec : p.tables.exec = Jvm.exec) (hb : c.code = cc) (hl : l.stackTraces = false) {own cls text : String} {names : List String} {ik is ic mc ms sa : Nat} {A : Nat → Prop}
    (hown : s.vm.findClass own = some m.cls) (hcls : Bundle.fit cls = true) (hnames : ∀ n ∈ names, Bundle.fit n = true)
    (hk : (Cond.classLink own ik cls).before args s = true) (hini : (Cond.initialized cls).before args s = true) (hstr : vk_R own is text sa s) (hat : ∀ w ∈ vx_atS own ic cls names, w.before args s = true)
    (hgood : ∀ w ∈ Cond.classLink own ik cls :: Cond.initialized cls :: vx_atS own ic cls names, vx_ot w = true)
    (hU : vx_Zq Bundle.tN "UNASSIGNED_STACK" Bundle.steD A s s.heap) (hN : vx_Zq Bundle.tN "SUPPRESSED_SENTINEL" Bundle.listD A s s.heap) (hS : va_S A s.heap H locs) (hsize : ls.size = c.maxLocals)
    (d0 : decode cc pc = .ok (.new ik, 3)) (d3 : decode cc (pc + 3) = .ok (.dup, 1)) (d4 : decode cc (pc + 4) = .ok (.ldc_w is, 3)) (d7 : decode cc (pc + 7) = .ok (.invokespecial ic, 3)) (d10 : decode cc (pc + 10) = .ok (.athrow, 1))
    (hout : ∀ x ∈ c.exceptionTable.toList, covers x (pc + 10) = false)
    (hRframes : names.length + 3 < R.frames) (hRlocals : (rest.map fun v => v.category).sum + (13 * (names.length + 1) + 43) ≤ R.locals) (hRcells : cells + 1 ≤ R.cells) (hRslots : slots + 6 ≤ R.slots) (hlocks : meth.locks = false)
    (hx : ∀ t : State, s.vm.Alike t.vm → H.size ≤ t.heap.size → (∀ q : Nat, q < H.size → t.heap[q]? = H[q]?) → XC cls s t)
    (hf : ∀ z ∈ locs, free z.base) (hc : cells + 1 ≤ mc) (hs : slots + 6 ≤ ms) :
    W p l e R s m args below meth c H locs cells slots (vx_MQ below Qc XC args s mc ms free) (F0 m pc ls rest) := by
  intro T hT X
  have htr : e.platform.stackTraces = false := (show e.platform.stackTraces = l.stackTraces by rw [X.admits.platform]).trans hl
  have Y := vx_rebase X (R' := { frames := R.frames, locals := R.locals, cells := 1, slots := 6 }) (Nat.le_refl _) (Nat.le_refl _) hRcells hRslots
  obtain ⟨s', hA⟩ : ∃ z, z = (T.setVm s.vm).setFrames (.invoking m args :: below) := ⟨_, rfl⟩
  rw [← hA] at Y
  have hvm : s'.vm = s.vm := by rw [hA]; rfl
  have hhp : s'.heap = H := by rw [hA]; exact hT
  have hW0 : s.WarmedH s'.vm := by rw [hvm]; exact State.WarmedH.refl s
  have hat' : ∀ w ∈ vx_atS own ic cls names, w.before args s' = true := fun w hw => vx_ot_at hW0 hvm.symm (hgood w (List.mem_cons_of_mem _ (List.mem_cons_of_mem _ hw))) (hat w hw)
  have hk' : (Cond.classLink own ik cls).before args s' = true := vx_ot_at hW0 hvm.symm (hgood _ List.mem_cons_self) hk
  have hini' : (Cond.initialized cls).before args s' = true := vx_ot_at hW0 hvm.symm (hgood _ (List.mem_cons_of_mem _ List.mem_cons_self)) hini
  have hU' : vx_Zq Bundle.tN "UNASSIGNED_STACK" Bundle.steD A s' s'.heap := by rw [hhp]; exact vx_Zq.moved hW0.alike (hU.kept hS.2.1)
  have hN' : vx_Zq Bundle.tN "SUPPRESSED_SENTINEL" Bundle.listD A s' s'.heap := by rw [hhp]; exact vx_Zq.moved hW0.alike (hN.kept hS.2.1)
  have h : ∀ w ∈ Bundle.ownAtoms own ic cls names, w.before args s' = true := vx_own hat' (vx_isRefq hU'.1) (vx_isRefq hN'.1) hU'.2.word hN'.2.word
  have hown' : s'.vm.findClass own = some m.cls := by rw [hvm]; exact hown
  have hins : (Cond.instantiable cls 6).before args s' = true := h _ (by simp [Bundle.ownAtoms])
  obtain ⟨vm₁, cX, kX, hfX, hkX, -, -, X₁, st1⟩ := Y.newCold hexec (own := own) (C := cls) (index := ik) (n := 6) hown' hk' hins hini'
    (g := F0 m pc ls rest) rfl (by rw [hb]; exact d0) (Nat.le_refl _) (Nat.le_refl _)
  generalize hT1 : (T.setVm vm₁).pushCell { cls := cX, slots := kX.instanceTypes.map defaultValue, vm := .none } = T1 at X₁ st1
  have hcat : (Value.ref T.heap.size).category = 1 := rfl
  have hcellA : T1.heap[T.heap.size]? = some (freshCell cX kX) := by rw [← hT1]; exact State.heap_pushCell_size _ _
  have d3' : decode c.code (pc + 3) = .ok (.dup, 1) := by rw [hb]; exact d3
  have d4' : decode c.code (pc + 4) = .ok (.ldc_w is, 3) := by rw [hb]; exact d4
  have hstr' : vk_R own is text sa s' := vk_R.warm hW0 hstr
  obtain ⟨U, hsteps, hrun, hend, hW, hsame, ce, hce, hO⟩ := X₁.ctorThrowS hexec htr (own := own) (cls := cls) (names := names) (ic := ic) hown' hcls hnames h (fun x hx => nomatch hx) hfX hkX hcellA (by rw [hhp, hT]; exact Nat.le_refl _) (msg := .ref sa) rfl
    (g := { method := m, pc := pc + 7, locals := ls, stack := .ref sa :: .ref T.heap.size :: .ref T.heap.size :: rest, locked := none }) rfl hsize rfl rfl (rest := rest) rfl
    (by rw [hb]; exact d7) (by rw [hb]; exact d10) hout hRframes (by simp only [List.map_cons, List.sum_cons, hcat]; omega) hlocks
  obtain ⟨f1, f2⟩ := vx_frame hsame
  rw [hhp] at f1 f2
  have hWs : s.WarmedH U.vm := State.WarmedH.trans hW0 hW
  have hcl : s.vm.findClass cls = some ce.cls := by
    have h9 := hO.cls
    rw [hvm] at h9
    exact h9
  have hall : s.sameButNew ({ U with vm := s.vm } : State) locs mc ms := by
    subst hA
    obtain ⟨e1, e2⟩ := hsame
    rw [State.setFrames_setFrames] at e1
    have h2 : (T.setVm s.vm).sameButNew ({ U with vm := s.vm } : State) [] (0 + 1) (0 + 6) := ⟨e1, e2⟩
    have h3 := X.same.trans h2
    rw [List.append_nil] at h3
    exact h3.mono hc hs
  refine ⟨U, ?_, .threw T.heap.size, hrun, hend, Or.inr ⟨T.heap.size, rfl, cls, ce, locs, hx U hWs.alike f1 (fun q hq => f2 q hq (fun z hz => nomatch hz)), hce, hO.vm, hcl, hWs, hall, hf⟩⟩
  refine st1 _ ?_
  show Steps p.tables e below (T1.setTop { method := m, pc := pc + 3, locals := ls, stack := .ref T.heap.size :: rest, locked := none }) _
  jvm_step X₁.here [X₁.here.top, hexec, d3', Value.category]
  exact X₁.ldcStringW hexec (own := own) (text := text) (index := is) (a := sa) hown' hstr'.1 hstr'.2
    (g := { method := m, pc := pc + 4, locals := ls, stack := .ref T.heap.size :: .ref T.heap.size :: rest, locked := none }) rfl d4' _ hsteps
end Ends
section Bodies
variable {l : Launch}
theorem vx_ofW {y : MethodName} {ws ws' : List Cond} {rm : Room} {Pc : Array Value → State → Prop} {Qc : Array Value → State → Outcome → State → Prop} {XC : String → State → State → Prop} {mc ms : Nat} {free : Addr → Prop} {cc : ByteArray} {maxL : Nat} {ret : Option FieldType}
    (hy : plainName y.cls = true) (hw : ws = Cond.code y cc maxL ret :: ws')
    (body : ∀ p e s m args below meth c s₁, BodyLoose p l y (headSpec ws rm) cc maxL ret e s m args below meth c s₁ → c.maxLocals = maxL → (∀ x ∈ c.exceptionTable.toList, False) → Pc args s →
      W p l e (headSpec ws rm).room s m args below meth c s.heap [] 0 0 (vx_MQ below Qc XC args s mc ms free) (entryFrame m args maxL)) : vx_Met l y ws rm Pc Qc XC mc ms free := by
  refine MetFree.of_bodyS (code := cc) (maxLocals := maxL) (ret := ret) hy ?_ ?_
  · intro args s m h hn
    obtain ⟨meth, c, h1, h2, h3, h4, h5, h6, -, -⟩ := Cond.code_spec hn (atoms_spec (ws := ws) h _ (by rw [hw]; exact List.mem_cons_self))
    exact ⟨meth, c, h1, h2, h3, h4, h5, h6⟩
  · intro p e s m args below meth c s₁ B hml hP _
    have hh0 : s₁.heap = s.heap := by rw [B.state]; rfl
    have ht : ∀ x ∈ c.exceptionTable.toList, False := by
      obtain ⟨meth9, c9, h1, h2, -, -, -, -, h7, -⟩ := Cond.code_spec B.named (atoms_spec (ws := ws) B.pre _ (by rw [hw]; exact List.mem_cons_self))
      cases Option.some.inj (h1.symm.trans B.method)
      cases Option.some.inj (h2.symm.trans (Stand.of_body B).code)
      intro x hx
      rw [Array.isEmpty_iff.mp h7] at hx
      cases hx
    obtain ⟨t, a1, o, b1, b2, b3⟩ := body p e s m args below meth c s₁ B hml ht hP s₁ hh0 (Stand.of_body B)
    exact ⟨t, o, a1, b1, b2, b3⟩
/-- the table of a body with handlers -/
theorem vx_table {p : Program} {x y : MethodName} {S : Spec} {cc bytes : ByteArray} {maxL maxL' : Nat} {ret ret' : Option FieldType} {e : Env} {s s₁ : State} {m : MethodId} {args : Array Value} {below : List Frame} {meth : Method} {c : Code} {hh : List (Nat × Nat × Nat × Nat)}
    (B : BodyLoose p l y S cc maxL ret e s m args below meth c s₁) (h : (Cond.codeWith y bytes maxL' ret' hh).before args s = true) : c.exceptionTable.toList = tableOf hh := by
  obtain ⟨m9, meth9, c9, hn9, h1, h2, -, -, h6, -⟩ := Cond.codeWith_spec h
  cases Option.some.inj (hn9.symm.trans B.named)
  cases Option.some.inj (h1.symm.trans B.method)
  cases Option.some.inj (h2.symm.trans (Stand.of_body B).code)
  rw [← h6, table_eq]
end Bodies
end VXA
/-! ===== END ===== -/
/-! ===== BEGIN a static call of a method with an exception table ===== -/
section VXS
variable {p : Program} {l : Launch} {e : Env} {R : Room} {s : State} {m : MethodId} {args : Array Value} {below : List Frame} {meth : Method} {c : Code} {T : State} {H : Heap} {locs : List Loc} {cells slots : Nat}
abbrev vx_CSW (R : Room) (s : State) (args : Array Value) (own : String) (index : Nat) (y : MethodName) (bytes : ByteArray) (maxL : Nat) (ret : Option FieldType) (hh : List (Nat × Nat × Nat × Nat)) (ws : List Cond) (rm : Room) (mc ms n : Nat) : Prop :=
  (rm.cells = mc ∧ rm.slots = ms ∧ rm.frames + 1 ≤ R.frames ∧ 8 + (maxL + 11) + rm.locals ≤ R.locals ∧ (∀ w ∈ ws, ∀ (a' : Array Value) (U : State), s.WarmedH U.vm → w.before a' U = true) ∧ Cond.codeWith y bytes maxL ret hh ∈ ws) ∧
  (Cond.codeWith y bytes maxL ret hh).before args s = true ∧ (Cond.initialized y.cls).before args s = true ∧ (y.cls ≠ "java/lang/invoke/MethodHandle" ∧ y.cls ≠ "java/lang/invoke/VarHandle") ∧
  (∀ sig, parseMethodDescriptor y.desc = some sig → n = sig.parameters.length) ∧ (Cond.methodLink own index y).before args s = true ∧ (Cond.static y).before args s = true
theorem vx_cwSW {own : String} {index maxL mc ms : Nat} {y : MethodName} {bytes : ByteArray} {ret : Option FieldType} {hh : List (Nat × Nat × Nat × Nat)} {Ts ws ws' : List Cond} {rm : Room} (n : Nat) (ht : ∀ w ∈ Ts, w.before args s = true) (hT : GoodIn Ts (va_wsS own index y ws)) (hw : ws = Cond.codeWith y bytes maxL ret hh :: ws') (hrc : rm.cells = mc) (hrs : rm.slots = ms)
    (hd : y.cls ≠ "java/lang/invoke/MethodHandle" ∧ y.cls ≠ "java/lang/invoke/VarHandle" ∧ (parseMethodDescriptor y.desc).map (fun d => d.parameters.length) = some n) (hR : rm.frames + 1 ≤ R.frames ∧ 8 + (maxL + 11) + rm.locals ≤ R.locals) :
    vx_CSW R s args own index y bytes maxL ret hh ws rm mc ms n := by
  have ok : ∀ w ∈ va_wsS own index y ws, w.before args s = true := fun w h => ht w (hT w h).1
  have hG : GoodIn Ts ws := fun w h => hT w (by unfold va_wsS; exact List.mem_append_right _ h)
  have hc : Cond.codeWith y bytes maxL ret hh ∈ ws := by rw [hw]; exact List.mem_cons_self
  refine ⟨⟨hrc, hrs, hR.1, hR.2, pay_in ht hG, hc⟩, ht _ (hG _ hc).1, ok _ (by simp [va_wsS]), ⟨hd.1, hd.2.1⟩, fun sig h => ?_, ok _ (by simp [va_wsS]), ok _ (by simp [va_wsS])⟩
  have h2 := hd.2.2
  rw [h] at h2
  exact (Option.some.inj h2).symm
theorem vx_callSW (X : Stand p l e R s m args below meth c T locs cells slots) (hexec : p.tables.exec = Jvm.exec) {own : String} {index : Nat} {y : MethodName} {bytes : ByteArray} {maxL : Nat} {ret : Option FieldType} {hh : List (Nat × Nat × Nat × Nat)}
    (hown : s.vm.findClass own = some m.cls) (hlink : (Cond.methodLink own index y).before args s = true) (hstat : (Cond.static y).before args s = true) (hinit : (Cond.initialized y.cls).before args s = true)
    (hcode : (Cond.codeWith y bytes maxL ret hh).before args s = true) (hy : y.cls ≠ "java/lang/invoke/MethodHandle" ∧ y.cls ≠ "java/lang/invoke/VarHandle")
    {W9 : Nat} {Pre : Pt → Array Value → Prop} {Post : Pt → Array Value → Option Value → Pt → Prop} (hK : Back l R p e below s args y 3 W9 Pre Post)
    {g : JFrame} (hg : g.method = m) (hsize : g.locals.size = c.maxLocals) {argsL rest : List Value} (hlen : ∀ sig, parseMethodDescriptor y.desc = some sig → argsL.length = sig.parameters.length)
    (hstack : g.stack = argsL.reverse ++ rest) (hW : 2 * g.monitorRoom + (rest.map fun v => v.category).sum ≤ W9) (hdg : decode c.code g.pc = .ok (.invokestatic index, 3))
    (hpre : ∀ vm₁, s.WarmedH vm₁ → Pre ⟨T.setVm vm₁, locs, cells, slots⟩ argsL.toArray) :
    ∃ (v : Option Value) (vm₁ : Vm) (B : Pt), s.WarmedH vm₁ ∧ Stand p l e R s m args below meth c B.U B.locs B.cells B.slots ∧ Post ⟨T.setVm vm₁, locs, cells, slots⟩ argsL.toArray v B ∧
      ∀ target, Steps p.tables e below (B.U.setTop { g with pc := g.pc + 3, stack := v.toList ++ rest }) target → Steps p.tables e below (T.setTop g) target := by
  obtain ⟨mk, methM, cM, hnamed, hmethM, -, -, -, -, -, -, hsigM⟩ := Cond.codeWith_spec hcode
  have hstatic : methM.isStatic = true := Cond.static_spec hnamed hmethM hstat
  obtain ⟨kP, hkP, -⟩ := className_of_methodNamed hnamed
  have hinitP : kP.init = .initialized := Cond.initialized_spec (findClass_of_methodNamed hnamed) hkP hinit
  obtain ⟨vm₁, X₁, hstep₁⟩ := X.invokestatic hexec hown hlink hnamed hmethM hstatic hkP hinitP hy (g := g) hg (argsL := argsL) (rest := rest) (hlen _ hsigM) hstack hdg
  obtain ⟨v, B, X', hpost, hsteps⟩ := hK m meth c ⟨T.setVm vm₁, locs, cells, slots⟩ { g with stack := rest } (.invokestatic index) mk argsL.toArray X₁ hg hsize hdg hW (X₁.named hnamed) (hpre vm₁ X₁.warmed)
  exact ⟨v, vm₁, B, X₁.warmed, X', hpost, fun target h => hstep₁ _ fun acts => by rw [doInvoke_state]; exact hsteps.trans h⟩
theorem vx_runSW {y : MethodName} {bytes cc : ByteArray} {maxL nL mc ms n index : Nat} {ret : Option FieldType} {hh : List (Nat × Nat × Nat × Nat)} {ws : List Cond} {rm : Room} {Pc : Array Value → State → Prop} {Qc : Array Value → State → Outcome → State → Prop} {free : Addr → Prop} {Ts : List Cond} {own : String} {As rest : List Value} {g : JFrame}
    (S : CallFix p m c cc nL s args Ts own) (hM : Met l y ws rm Pc Qc mc ms free) (cw : vx_CSW R s args own index y bytes maxL ret hh ws rm mc ms n) (hp : PreS s H Pc As)
    (hg : g.method = m) (hn : As.length = n) (hsize : g.locals.size = nL) (hstack : g.stack = As.reverse ++ rest) (hW : 2 * g.monitorRoom + (rest.map fun v => v.category).sum ≤ 8) (hdg : decode cc g.pc = .ok (.invokestatic index, 3)) (hf : cells + mc ≤ R.cells ∧ slots + ms ≤ R.slots) :
    va_Run p l e R s m args below meth c H locs cells slots mc ms g rest (Qc As.toArray) (free) := by
  obtain ⟨⟨hrc, hrs, hfr, hlo, hws, hcw⟩, hcode, hini, hy, hlen, hl, hstt⟩ := cw
  have hK : Back l R p e below s args y 3 8 (PreOf R mc ms Pc) (PostOf Qc mc ms free) := va_backW (hh := hh) (bytes := bytes) (maxL := maxL) (ret := ret) hM hp.1 hrc hrs hfr hlo hws hcw (fun a' U hW => word_at hW (Or.inl (by first | rfl | simp [Cond.onTables, Cond.keeps, Cond.steady])) hini)
  obtain ⟨hx, hb, hml, ho, -⟩ := S
  intro T hT X
  obtain ⟨v, vm₁, ⟨U', l2, c2, s2⟩, hW₁, X', ⟨g', mk, t, L, e1, e2, hq, h1, hL, h2, h3⟩, st⟩ := vx_callSW X hx (hh := hh) (bytes := bytes) (maxL := maxL) (ret := ret) ho hl hstt hini hcode hy hK hg (hsize.trans hml.symm) (argsL := As) (rest := rest) (fun sig h => hn.trans (hlen sig h)) hstack hW (by rw [hb]; exact hdg)
    (fun vm₁ hW₁ => ⟨hf.1, hf.2, hp.2 (T.setVm vm₁) hT hW₁⟩)
  dsimp only [Pt.U, Pt.locs, Pt.cells, Pt.slots] at X' e1 e2 h1 h2 h3 st
  subst h1; subst h2; subst h3
  exact ⟨v, (T.setVm vm₁).calling g' mk As.toArray, t, U', L, hT, X', hL, e1, e2, hq, st⟩
/-- not caught here, past rows that name other classes: it goes on to the caller -/
theorem vx_outP {p : Program} {l : Launch} {e : Env} {R : Room} {s : State} {m : MethodId} {args : Array Value} {below : List Frame} {meth : Method} {c : Code} {H : Heap} {locs : List Loc} {cells slots : Nat} {free : Addr → Prop} {ls : Array Slot} {rest : List Value} {Qc : Array Value → State → Outcome → State → Prop} {XC : String → State → State → Prop}
    {pc : Nat} {own E : String} {ce : Cell} {q : Addr} {mc ms : Nat} (hown : s.vm.findClass own = some m.cls) (hlocks : meth.locks = false)
    (hpass : ∀ z ∈ c.exceptionTable.toList, covers z pc = false ∨ (z.catchType ≠ 0 ∧ ∃ nm : String, (Cond.classLink own z.catchType nm).before args s = true ∧ va_Nc E nm s)) (hcell : H[q]? = some ce) (hv : ce.vm = .none) (hcl : s.vm.findClass E = some ce.cls)
    (hx : ∀ t : State, t.heap = H → s.vm.Alike t.vm → XC E s t) (hf : ∀ z ∈ locs, free z.base) (hc : cells ≤ mc) (hs : slots ≤ ms) :
    vx_W p l e R s m args below meth c H locs cells slots (vx_MQ below Qc XC args s mc ms free) (F0 m pc ls rest) q := by
  intro T hT X
  have hpl : e.platform.magicAccessors = ({} : Platform).magicAccessors := by rw [X.admits.platform]
  obtain ⟨vm', hW', X', st⟩ := X.outThrough hlocks q (g := F0 m pc ls rest) rfl rfl rfl (cell := ce) (by rw [hT]; exact hcell) (by rw [hv]; rfl)
    (by obtain ⟨k9, h9, -⟩ := Vm.findClass_spec hcl; exact ⟨k9, h9⟩) (fun z hz => by
      rcases hpass z hz with h | ⟨hz0, nm, hl1, hn1⟩
      · exact Or.inl h
      · obtain ⟨c6, hc6, hcl6⟩ := Cond.classLink_spec hown hl1 e.platform hpl
        obtain ⟨a8, b8, h1, h2, h3⟩ := hn1
        cases Option.some.inj (h1.symm.trans hcl)
        cases Option.some.inj (h2.symm.trans hc6)
        exact Or.inr ⟨hz0, _, hcl6, h3⟩)
  obtain ⟨g₀, hfr⟩ := X'.frames_eq
  have hcell9 : ((T.setVm vm').setFrames (.throwing q :: below)).heap[q]? = some ce := by
    show T.heap[q]? = some ce
    rw [hT]; exact hcell
  have hend : Ended ((T.setVm vm').setFrames (.throwing q :: below)) below (.threw q) := State.frames_setFrames _ (State.cur_lt_of_frames hfr)
  refine ⟨(T.setVm vm').setFrames (.throwing q :: below), ?_, .threw q, X'.here.running, hend, Or.inr ⟨q, rfl, E, ce, locs, hx _ hT (X'.ends _).1.alike, hcell9, hv, hcl, (X'.ends _).1, (X'.ends _).2.mono hc hs, hf⟩⟩
  rw [X.pushThrowing_eq]
  exact st
/-- a thing of a world lies in the heap -/
theorem vx_lt {D : va_G} {cl : List vw_C} {ws : va_W} {H1 : Heap} (h : va_P D cl ws H1) {k : Nat} {q : Nat × va_E} (hk : ws[k]? = some q) : q.1 < H1.size := (h k q hk).lt
end VXS
/-! ===== END ===== -/
/-! ===== BEGIN methods with a table of their own: called by a name, returning or throwing ===== -/
section VXH
/-! vx_backW, vx_callVX, vx_callSX, vx_callVW, vx_runVW, vx_runVX, vx_runSX, vx_ofWH follow the same proofs as their sisters above (Free/Laws.lean, Shelf42/LK1.lean); vx_outP calls Shelf42/NT130.lean (outThrough). -/
section
variable {l : Launch} {R : Room} {p : Program} {e : Env} {below : List Frame} {s : State} {sargs : Array Value} {y : MethodName} {len W9 : Nat}
theorem vx_backW {ws : List Cond} {rm : Room} {Pc : Array Value → State → Prop} {Qc : Array Value → State → Outcome → State → Prop} {XC : String → State → State → Prop} {mc ms : Nat} {free : Addr → Prop} {bytes : ByteArray} {maxL : Nat} {ret : Option FieldType} {hh : List (Nat × Nat × Nat × Nat)}
    (hM : vx_Met l y ws rm Pc Qc XC mc ms free) (hblind : FrameBlind Pc) (hrc : rm.cells = mc) (hrs : rm.slots = ms)
    (hframes : rm.frames + 1 ≤ R.frames) (hlocals : W9 + (maxL + 11) + rm.locals ≤ R.locals)
    (hws : ∀ w ∈ ws, ∀ a' U, s.WarmedH U.vm → w.before a' U = true) (hcode : Cond.codeWith y bytes maxL ret hh ∈ ws) (hinit : ∀ a' U, s.WarmedH U.vm → (Cond.initialized y.cls).before a' U = true) :
    vx_Back l R p e below s sargs y len W9 (PreOf R mc ms Pc) (PostOf Qc mc ms free) (vx_Post XC mc ms free) := by
  intro m meth c A g ig mk a X hg hsize hdg hW hn hp
  have h1 : (headSpec ws rm).pre.before a A.U = true := atoms_intro fun w hw => hws w hw _ _ X.warmed
  have h2 : (Cond.codeWith y bytes maxL ret hh).before a A.U = true := hws _ hcode _ _ X.warmed
  have h3 : (Cond.initialized y.cls).before a A.U = true := hinit _ _ X.warmed
  have h4 : A.cells + (headSpec ws rm).room.cells ≤ R.cells := by rw [show (headSpec ws rm).room.cells = mc from hrc]; exact hp.1
  have h5 : A.slots + (headSpec ws rm).room.slots ≤ R.slots := by rw [show (headSpec ws rm).room.slots = ms from hrs]; exact hp.2.1
  have hPc : Pc a (A.U.calling g mk a) := hblind _ _ _ _ hp.2.2
  obtain ⟨U, Ls, c0, s0⟩ := A
  dsimp only [Pt.U, Pt.locs, Pt.cells, Pt.slots] at h1 h2 h3 h4 h5 X hn hPc ⊢
  obtain ⟨m9, methY, cY, hn9, hmY, hcY, -, hlY, -⟩ := Cond.codeWith_spec h2
  cases Option.some.inj (hn9.symm.trans hn)
  obtain ⟨kY, hkY, -⟩ := className_of_methodNamed hn
  have hinitY : kY.init = .initialized := Cond.initialized_spec (findClass_of_methodNamed hn) hkY h3
  have h : At U g.method c below := by rw [hg]; exact X.here
  have hlocals9 : W9 + (maxL + 11) + (headSpec ws rm).room.locals ≤ R.locals := hlocals
  have happ : (headSpec ws rm).appliesLoose y e.platform (U.calling g mk a) = true :=
    Spec.appliesLoose_calling (g := g) h hdg hn hkY hinitY
      (X.room_calling (g := g) (R' := (headSpec ws rm).room) hsize hmY hcY hframes (by rw [hlY]; omega) h4 h5) h1
  obtain ⟨mid, hmid⟩ := h.above
  have hfr : (U.setTop g).frames = (.java g :: mid) ++ below := by rw [State.frames_setTop' g h.top, hmid]; rfl
  obtain ⟨o, s₂, hsteps, -, hend, hq⟩ := Steps.callFree hM p X.admits X.cas X.clock (acts := []) hfr happ hPc trivial
  have hq' : vx_Q Qc XC mc ms free a (U.calling g mk a) o s₂ := hq
  rw [State.frames_setTop' g h.top] at hend
  obtain ⟨g₀, hg0⟩ := Option.isSome_iff_exists.mp h.top
  obtain ⟨r, hr⟩ := State.topJava?_eq_some.mp hg0
  have hr' : (({ U with heap := s₂.heap, slotsUsed := s₂.slotsUsed } : State).setVm s₂.vm).frames = .java g₀ :: r := hr
  rcases hq' with ⟨hqc, L, hfe, hL⟩ | ⟨q, rfl, E, ce, L, hx, hce, hcv, hcl, hW₂, hsm, hL⟩
  · obtain ⟨⟨v, rfl⟩, hW₂, e2, q2, q3, q4, q5, q6⟩ := id hfe
    have e3 : s₂ = ({ (U.calling g mk a).setFrames s₂.frames with heap := s₂.heap, slotsUsed := s₂.slotsUsed } : State).setVm s₂.vm := by
      have : s₂ = ({ s₂ with vm := (U.calling g mk a).vm } : State).setVm s₂.vm := rfl
      rw [e2] at this
      exact this
    obtain ⟨c₂, i₂, len₂, hc₂, hd₂, hf₂⟩ := hend
    have hW' : U.WarmedH s₂.vm := hW₂
    have hcc : c₂ = c := by
      have h1 : s₂.code? g.method = U.code? g.method := by
        rw [State.code?_eq, State.code?_eq, hW'.alike.method?]
      exact Option.some.inj (hc₂.symm.trans (h1.trans h.code))
    subst hcc
    have hlen : len₂ = len := by rw [hdg] at hd₂; cases hd₂; rfl
    subst hlen
    have hs₂ : s₂ = (({ U with heap := s₂.heap, slotsUsed := s₂.slotsUsed } : State).setVm s₂.vm).setTop { g with pc := g.pc + len₂, stack := v.toList ++ g.stack } := by
      refine e3.trans ?_
      rw [hf₂, State.calling_eq h.top, State.setFrames_setFrames, State.setTop_of_frames _ hr', hr]
      rfl
    have hsame : U.sameButNew ({ U with heap := s₂.heap, slotsUsed := s₂.slotsUsed } : State) L mc ms := by
      refine ⟨?_, q2, q3, q4, q5, q6⟩
      obtain ⟨t, ht, -⟩ := State.frames_cons hr
      show ({ U with heap := s₂.heap, slotsUsed := s₂.slotsUsed } : State) = { U.setFrames U.frames with heap := s₂.heap, slotsUsed := s₂.slotsUsed }
      rw [State.setFrames_self ht]
    subst hg
    refine Or.inl ⟨v, ⟨(({ U with heap := s₂.heap, slotsUsed := s₂.slotsUsed } : State).setVm s₂.vm), Ls ++ L, c0 + mc, s0 + ms⟩,
      ⟨X.admits, X.cas, X.clock, X.frames, X.room, X.hears, X.method, X.code, (X.here.setHeapUsed s₂.heap s₂.slotsUsed).setVm hW'.alike, X.tail, State.WarmedH.trans X.warmed hW', X.limits, X.bytes, X.same.trans (hsame.setVm s.vm)⟩,
      ⟨g, mk, s₂, L, rfl, rfl, hqc, rfl, hL, rfl, rfl⟩, ?_⟩
    show Steps p.tables e below _ ((({ U with heap := s₂.heap, slotsUsed := s₂.slotsUsed } : State).setVm s₂.vm).setTop { g with pc := g.pc + len₂, stack := v.toList ++ g.stack })
    rw [← hs₂]
    exact hsteps
  · obtain ⟨e2, q2, q3, q4, q5, q6⟩ := id hsm
    have e3 : s₂ = ({ (U.calling g mk a).setFrames s₂.frames with heap := s₂.heap, slotsUsed := s₂.slotsUsed } : State).setVm s₂.vm := by
      have : s₂ = ({ s₂ with vm := (U.calling g mk a).vm } : State).setVm s₂.vm := rfl
      rw [e2] at this
      exact this
    have hf₂ : s₂.frames = .throwing q :: .java g :: U.frames.tail := hend
    have hW' : U.WarmedH s₂.vm := hW₂
    have hs₂ : s₂ = ((({ U with heap := s₂.heap, slotsUsed := s₂.slotsUsed } : State).setVm s₂.vm).setTop g).pushFrame (.throwing q) := by
      refine e3.trans ?_
      rw [hf₂, State.calling_eq h.top, State.setFrames_setFrames, State.pushFrame, State.frames_setTop _ hr', State.setTop_of_frames _ hr', State.setFrames_setFrames, hr]
      rfl
    have hsame : U.sameButNew ({ U with heap := s₂.heap, slotsUsed := s₂.slotsUsed } : State) L mc ms := by
      refine ⟨?_, q2, q3, q4, q5, q6⟩
      obtain ⟨t, ht, -⟩ := State.frames_cons hr
      show ({ U with heap := s₂.heap, slotsUsed := s₂.slotsUsed } : State) = { U.setFrames U.frames with heap := s₂.heap, slotsUsed := s₂.slotsUsed }
      rw [State.setFrames_self ht]
    subst hg
    refine Or.inr ⟨q, ⟨(({ U with heap := s₂.heap, slotsUsed := s₂.slotsUsed } : State).setVm s₂.vm), Ls ++ L, c0 + mc, s0 + ms⟩,
      ⟨X.admits, X.cas, X.clock, X.frames, X.room, X.hears, X.method, X.code, (X.here.setHeapUsed s₂.heap s₂.slotsUsed).setVm hW'.alike, X.tail, State.WarmedH.trans X.warmed hW', X.limits, X.bytes, X.same.trans (hsame.setVm s.vm)⟩,
      ⟨g, mk, s₂, L, E, ce, rfl, rfl, hx, hce, hcv, hcl, rfl, hL, rfl, rfl⟩, ?_⟩
    show Steps p.tables e below _ (((({ U with heap := s₂.heap, slotsUsed := s₂.slotsUsed } : State).setVm s₂.vm).setTop g).pushFrame (.throwing q))
    rw [← hs₂]
    exact hsteps
end
variable {p : Program} {l : Launch} {e : Env} {R : Room} {s : State} {m : MethodId} {args : Array Value} {below : List Frame} {meth : Method} {c : Code} {T : State} {H : Heap} {locs : List Loc} {cells slots : Nat}
theorem vx_callVX (X : Stand p l e R s m args below meth c T locs cells slots) (hexec : p.tables.exec = Jvm.exec) {own C : String} {index : Nat} {y : MethodName} {bytes : ByteArray} {maxL : Nat} {ret : Option FieldType} {hh : List (Nat × Nat × Nat × Nat)}
    (hown : s.vm.findClass own = some m.cls) (hlink : (Cond.methodLink own index y).before args s = true) (hinst : (Cond.instanceMethod y).before args s = true) (hsel : (Cond.selects C y y).before args s = true)
    (hcode : (Cond.codeWith y bytes maxL ret hh).before args s = true) (hy : y.cls ≠ "java/lang/invoke/MethodHandle" ∧ y.cls ≠ "java/lang/invoke/VarHandle")
    {W9 : Nat} {Pre : Pt → Array Value → Prop} {Post : Pt → Array Value → Option Value → Pt → Prop} {PostX : Pt → Array Value → Addr → Pt → Prop} (hK : vx_Back l R p e below s args y 3 W9 Pre Post PostX)
    {b : Addr} {cellB : Cell} (hcell : T.heap[b]? = some cellB) (hobj : cellB.vm.isStatics = false) (hcls : s.vm.findClass C = some cellB.cls)
    {g : JFrame} (hg : g.method = m) (hsize : g.locals.size = c.maxLocals) {argsL rest : List Value} (hlen : ∀ sig, parseMethodDescriptor y.desc = some sig → argsL.length = sig.parameters.length)
    (hstack : g.stack = argsL.reverse ++ .ref b :: rest) (hW : 2 * g.monitorRoom + (rest.map fun v => v.category).sum ≤ W9) (hdg : decode c.code g.pc = .ok (.invokevirtual index, 3))
    (hpre : ∀ vm₁, s.WarmedH vm₁ → Pre ⟨T.setVm vm₁, locs, cells, slots⟩ (Value.ref b :: argsL).toArray) :
    (∃ (v : Option Value) (vm₁ : Vm) (B : Pt), s.WarmedH vm₁ ∧ Stand p l e R s m args below meth c B.U B.locs B.cells B.slots ∧ Post ⟨T.setVm vm₁, locs, cells, slots⟩ (Value.ref b :: argsL).toArray v B ∧
      ∀ target, Steps p.tables e below (B.U.setTop { g with pc := g.pc + 3, stack := v.toList ++ rest }) target → Steps p.tables e below (T.setTop g) target) ∨
    (∃ (q : Addr) (vm₁ : Vm) (B : Pt), s.WarmedH vm₁ ∧ Stand p l e R s m args below meth c B.U B.locs B.cells B.slots ∧ PostX ⟨T.setVm vm₁, locs, cells, slots⟩ (Value.ref b :: argsL).toArray q B ∧
      Steps p.tables e below (T.setTop g) ((B.U.setTop { g with stack := rest }).pushFrame (.throwing q))) := by
  obtain ⟨mk, methM, hnamed, hmethM, hstM, habM⟩ := Cond.instanceMethod_spec hinst
  obtain ⟨m8, methM', cM, hn8, hmethM', -, -, -, -, -, -, hsigM⟩ := Cond.codeWith_spec hcode
  cases Option.some.inj (hn8.symm.trans hnamed)
  cases hmethM.symm.trans hmethM'
  obtain ⟨c2, r2, m2, q1, q2, q3, q4, kP, hkP, hkPi⟩ := Cond.selects_spec hsel
  cases hcls.symm.trans q1
  cases (State.methodFound?_of_named hnamed hy).symm.trans q2
  cases hnamed.symm.trans q3
  have hselP : selectMethod e.platform s.vm cellB.cls mk = .method mk := by rw [Launch.admits_selectMethod X.admits]; exact q4
  obtain ⟨vm₁, X₁, hstep₁⟩ := X.invokevirtual hexec hown hlink hnamed hmethM hstM hkP hkPi hy (a := b) (cell := cellB) hcell
    (fun z h => by rw [h] at hobj; cases hobj) hselP hmethM habM hkP hkPi (g := g) hg (argsL := argsL) (rest := rest) (hlen _ hsigM) hstack hdg
  rcases hK m meth c ⟨T.setVm vm₁, locs, cells, slots⟩ { g with stack := rest } (.invokevirtual index) mk (Value.ref b :: argsL).toArray X₁ hg hsize hdg hW (X₁.named hnamed) (hpre vm₁ X₁.warmed) with ⟨v, B, X', hpost, hsteps⟩ | ⟨q, B, X', hpost, hsteps⟩
  · exact Or.inl ⟨v, vm₁, B, X₁.warmed, X', hpost, fun target h => hstep₁ _ fun acts => by rw [doInvoke_state]; exact hsteps.trans h⟩
  · exact Or.inr ⟨q, vm₁, B, X₁.warmed, X', hpost, hstep₁ _ fun acts => by rw [doInvoke_state]; exact hsteps⟩
theorem vx_callSX (X : Stand p l e R s m args below meth c T locs cells slots) (hexec : p.tables.exec = Jvm.exec) {own : String} {index : Nat} {y : MethodName} {bytes : ByteArray} {maxL : Nat} {ret : Option FieldType} {hh : List (Nat × Nat × Nat × Nat)}
    (hown : s.vm.findClass own = some m.cls) (hlink : (Cond.methodLink own index y).before args s = true) (hstat : (Cond.static y).before args s = true) (hinit : (Cond.initialized y.cls).before args s = true)
    (hcode : (Cond.codeWith y bytes maxL ret hh).before args s = true) (hy : y.cls ≠ "java/lang/invoke/MethodHandle" ∧ y.cls ≠ "java/lang/invoke/VarHandle")
    {W9 : Nat} {Pre : Pt → Array Value → Prop} {Post : Pt → Array Value → Option Value → Pt → Prop} {PostX : Pt → Array Value → Addr → Pt → Prop} (hK : vx_Back l R p e below s args y 3 W9 Pre Post PostX)
    {g : JFrame} (hg : g.method = m) (hsize : g.locals.size = c.maxLocals) {argsL rest : List Value} (hlen : ∀ sig, parseMethodDescriptor y.desc = some sig → argsL.length = sig.parameters.length)
    (hstack : g.stack = argsL.reverse ++ rest) (hW : 2 * g.monitorRoom + (rest.map fun v => v.category).sum ≤ W9) (hdg : decode c.code g.pc = .ok (.invokestatic index, 3))
    (hpre : ∀ vm₁, s.WarmedH vm₁ → Pre ⟨T.setVm vm₁, locs, cells, slots⟩ argsL.toArray) :
    (∃ (v : Option Value) (vm₁ : Vm) (B : Pt), s.WarmedH vm₁ ∧ Stand p l e R s m args below meth c B.U B.locs B.cells B.slots ∧ Post ⟨T.setVm vm₁, locs, cells, slots⟩ argsL.toArray v B ∧
      ∀ target, Steps p.tables e below (B.U.setTop { g with pc := g.pc + 3, stack := v.toList ++ rest }) target → Steps p.tables e below (T.setTop g) target) ∨
    (∃ (q : Addr) (vm₁ : Vm) (B : Pt), s.WarmedH vm₁ ∧ Stand p l e R s m args below meth c B.U B.locs B.cells B.slots ∧ PostX ⟨T.setVm vm₁, locs, cells, slots⟩ argsL.toArray q B ∧
      Steps p.tables e below (T.setTop g) ((B.U.setTop { g with stack := rest }).pushFrame (.throwing q))) := by
  obtain ⟨mk, methM, cM, hnamed, hmethM, -, -, -, -, -, -, hsigM⟩ := Cond.codeWith_spec hcode
  have hstatic : methM.isStatic = true := Cond.static_spec hnamed hmethM hstat
  obtain ⟨kP, hkP, -⟩ := className_of_methodNamed hnamed
  have hinitP : kP.init = .initialized := Cond.initialized_spec (findClass_of_methodNamed hnamed) hkP hinit
  obtain ⟨vm₁, X₁, hstep₁⟩ := X.invokestatic hexec hown hlink hnamed hmethM hstatic hkP hinitP hy (g := g) hg (argsL := argsL) (rest := rest) (hlen _ hsigM) hstack hdg
  rcases hK m meth c ⟨T.setVm vm₁, locs, cells, slots⟩ { g with stack := rest } (.invokestatic index) mk argsL.toArray X₁ hg hsize hdg hW (X₁.named hnamed) (hpre vm₁ X₁.warmed) with ⟨v, B, X', hpost, hsteps⟩ | ⟨q, B, X', hpost, hsteps⟩
  · exact Or.inl ⟨v, vm₁, B, X₁.warmed, X', hpost, fun target h => hstep₁ _ fun acts => by rw [doInvoke_state]; exact hsteps.trans h⟩
  · exact Or.inr ⟨q, vm₁, B, X₁.warmed, X', hpost, hstep₁ _ fun acts => by rw [doInvoke_state]; exact hsteps⟩
theorem vx_callVW (X : Stand p l e R s m args below meth c T locs cells slots) (hexec : p.tables.exec = Jvm.exec) {own C : String} {index : Nat} {y : MethodName} {bytes : ByteArray} {maxL : Nat} {ret : Option FieldType} {hh : List (Nat × Nat × Nat × Nat)}
    (hown : s.vm.findClass own = some m.cls) (hlink : (Cond.methodLink own index y).before args s = true) (hinst : (Cond.instanceMethod y).before args s = true) (hsel : (Cond.selects C y y).before args s = true)
    (hcode : (Cond.codeWith y bytes maxL ret hh).before args s = true) (hy : y.cls ≠ "java/lang/invoke/MethodHandle" ∧ y.cls ≠ "java/lang/invoke/VarHandle")
    {W9 : Nat} {Pre : Pt → Array Value → Prop} {Post : Pt → Array Value → Option Value → Pt → Prop} (hK : Back l R p e below s args y 3 W9 Pre Post)
    {b : Addr} {cellB : Cell} (hcell : T.heap[b]? = some cellB) (hobj : cellB.vm.isStatics = false) (hcls : s.vm.findClass C = some cellB.cls)
    {g : JFrame} (hg : g.method = m) (hsize : g.locals.size = c.maxLocals) {argsL rest : List Value} (hlen : ∀ sig, parseMethodDescriptor y.desc = some sig → argsL.length = sig.parameters.length)
    (hstack : g.stack = argsL.reverse ++ .ref b :: rest) (hW : 2 * g.monitorRoom + (rest.map fun v => v.category).sum ≤ W9) (hdg : decode c.code g.pc = .ok (.invokevirtual index, 3))
    (hpre : ∀ vm₁, s.WarmedH vm₁ → Pre ⟨T.setVm vm₁, locs, cells, slots⟩ (Value.ref b :: argsL).toArray) :
    ∃ (v : Option Value) (vm₁ : Vm) (B : Pt), s.WarmedH vm₁ ∧ Stand p l e R s m args below meth c B.U B.locs B.cells B.slots ∧ Post ⟨T.setVm vm₁, locs, cells, slots⟩ (Value.ref b :: argsL).toArray v B ∧
      ∀ target, Steps p.tables e below (B.U.setTop { g with pc := g.pc + 3, stack := v.toList ++ rest }) target → Steps p.tables e below (T.setTop g) target := by
  obtain ⟨mk, methM, hnamed, hmethM, hstM, habM⟩ := Cond.instanceMethod_spec hinst
  obtain ⟨m8, methM', cM, hn8, hmethM', -, -, -, -, -, -, hsigM⟩ := Cond.codeWith_spec hcode
  cases Option.some.inj (hn8.symm.trans hnamed)
  cases hmethM.symm.trans hmethM'
  obtain ⟨c2, r2, m2, q1, q2, q3, q4, kP, hkP, hkPi⟩ := Cond.selects_spec hsel
  cases hcls.symm.trans q1
  cases (State.methodFound?_of_named hnamed hy).symm.trans q2
  cases hnamed.symm.trans q3
  have hselP : selectMethod e.platform s.vm cellB.cls mk = .method mk := by rw [Launch.admits_selectMethod X.admits]; exact q4
  obtain ⟨vm₁, X₁, hstep₁⟩ := X.invokevirtual hexec hown hlink hnamed hmethM hstM hkP hkPi hy (a := b) (cell := cellB) hcell
    (fun z h => by rw [h] at hobj; cases hobj) hselP hmethM habM hkP hkPi (g := g) hg (argsL := argsL) (rest := rest) (hlen _ hsigM) hstack hdg
  obtain ⟨v, B, X', hpost, hsteps⟩ := hK m meth c ⟨T.setVm vm₁, locs, cells, slots⟩ { g with stack := rest } (.invokevirtual index) mk (Value.ref b :: argsL).toArray X₁ hg hsize hdg hW (X₁.named hnamed) (hpre vm₁ X₁.warmed)
  exact ⟨v, vm₁, B, X₁.warmed, X', hpost, fun target h => hstep₁ _ fun acts => by rw [doInvoke_state]; exact hsteps.trans h⟩
abbrev vx_CVW (R : Room) (s : State) (args : Array Value) (own C : String) (index : Nat) (y : MethodName) (bytes : ByteArray) (maxL : Nat) (ret : Option FieldType) (hh : List (Nat × Nat × Nat × Nat)) (ws : List Cond) (rm : Room) (mc ms n : Nat) : Prop :=
  (rm.cells = mc ∧ rm.slots = ms ∧ rm.frames + 1 ≤ R.frames ∧ 8 + (maxL + 11) + rm.locals ≤ R.locals ∧ (∀ w ∈ ws, ∀ (a' : Array Value) (U : State), s.WarmedH U.vm → w.before a' U = true) ∧ Cond.codeWith y bytes maxL ret hh ∈ ws) ∧
  (Cond.codeWith y bytes maxL ret hh).before args s = true ∧ (Cond.initialized y.cls).before args s = true ∧ (y.cls ≠ "java/lang/invoke/MethodHandle" ∧ y.cls ≠ "java/lang/invoke/VarHandle") ∧
  (∀ sig, parseMethodDescriptor y.desc = some sig → n = sig.parameters.length) ∧ (Cond.methodLink own index y).before args s = true ∧ (Cond.instanceMethod y).before args s = true ∧ (Cond.selects C y y).before args s = true
theorem vx_cwVW {own C : String} {index maxL mc ms : Nat} {y : MethodName} {bytes : ByteArray} {ret : Option FieldType} {hh : List (Nat × Nat × Nat × Nat)} {Ts ws ws' : List Cond} {rm : Room} (n : Nat) (ht : ∀ w ∈ Ts, w.before args s = true) (hT : GoodIn Ts (wsV own index C y ws)) (hw : ws = Cond.codeWith y bytes maxL ret hh :: ws') (hrc : rm.cells = mc) (hrs : rm.slots = ms)
    (hd : y.cls = C ∧ y.cls ≠ "java/lang/invoke/MethodHandle" ∧ y.cls ≠ "java/lang/invoke/VarHandle" ∧ (parseMethodDescriptor y.desc).map (fun d => d.parameters.length) = some n) (hR : rm.frames + 1 ≤ R.frames ∧ 8 + (maxL + 11) + rm.locals ≤ R.locals) :
    vx_CVW R s args own C index y bytes maxL ret hh ws rm mc ms n := by
  obtain ⟨hC, hd⟩ := hd
  subst hC
  have ok : ∀ w ∈ wsV own index y.cls y ws, w.before args s = true := fun w h => ht w (hT w h).1
  have hG : GoodIn Ts ws := fun w h => hT w (by unfold wsV; exact List.mem_append_right _ h)
  have hc : Cond.codeWith y bytes maxL ret hh ∈ ws := by rw [hw]; exact List.mem_cons_self
  refine ⟨⟨hrc, hrs, hR.1, hR.2, pay_in ht hG, hc⟩, ht _ (hG _ hc).1, ok _ (by simp [wsV]), ⟨hd.1, hd.2.1⟩, fun sig h => ?_, ok _ (by simp [wsV]), ok _ (by simp [wsV]), ok _ (by simp [wsV])⟩
  have h2 := hd.2.2
  rw [h] at h2
  exact (Option.some.inj h2).symm
theorem vx_runVW {y : MethodName} {bytes cc : ByteArray} {maxL nL mc ms n index : Nat} {ret : Option FieldType} {hh : List (Nat × Nat × Nat × Nat)} {ws : List Cond} {rm : Room} {Pc : Array Value → State → Prop} {Qc : Array Value → State → Outcome → State → Prop} {free : Addr → Prop} {Ts : List Cond} {own C : String} {b : Addr} {As rest : List Value} {g : JFrame}
    (S : CallFix p m c cc nL s args Ts own) (hM : Met l y ws rm Pc Qc mc ms free) (cw : vx_CVW R s args own C index y bytes maxL ret hh ws rm mc ms n) (hp : PreV s H C b Pc As)
    (hg : g.method = m) (hn : As.length = n) (hsize : g.locals.size = nL) (hstack : g.stack = As.reverse ++ .ref b :: rest) (hW : 2 * g.monitorRoom + (rest.map fun v => v.category).sum ≤ 8) (hdg : decode cc g.pc = .ok (.invokevirtual index, 3)) (hf : cells + mc ≤ R.cells ∧ slots + ms ≤ R.slots) :
    va_Run p l e R s m args below meth c H locs cells slots mc ms g rest (Qc (Value.ref b :: As).toArray) free := by
  obtain ⟨⟨hrc, hrs, hfr, hlo, hws, hcw⟩, hcode, hini, hy, hlen, hl, hin, hse⟩ := cw
  have hK : Back l R p e below s args y 3 8 (PreOf R mc ms Pc) (PostOf Qc mc ms free) := va_backW (hh := hh) (bytes := bytes) (maxL := maxL) (ret := ret) hM hp.1 hrc hrs hfr hlo hws hcw (fun a' U hW => word_at hW (Or.inl (by first | rfl | simp [Cond.onTables, Cond.keeps, Cond.steady])) hini)
  obtain ⟨hx, hb, hml, ho, -⟩ := S
  obtain ⟨-, ⟨cellB, hcB, hoB, hclB⟩, hPc⟩ := hp
  intro T hT X
  obtain ⟨v, vm₁, ⟨U', l2, c2, s2⟩, hW₁, X', ⟨g', mk, t, L, e1, e2, hq, h1, hL, h2, h3⟩, st⟩ := vx_callVW X hx (C := C) (hh := hh) (bytes := bytes) (maxL := maxL) (ret := ret) ho hl hin hse hcode hy hK (by rw [hT]; exact hcB) hoB hclB hg (hsize.trans hml.symm) (argsL := As) (rest := rest) (fun sig h => hn.trans (hlen sig h)) hstack hW (by rw [hb]; exact hdg)
    (fun vm₁ hW₁ => ⟨hf.1, hf.2, hPc (T.setVm vm₁) hT hW₁⟩)
  dsimp only [Pt.U, Pt.locs, Pt.cells, Pt.slots] at X' e1 e2 h1 h2 h3 st
  subst h1; subst h2; subst h3
  exact ⟨v, (T.setVm vm₁).calling g' mk (Value.ref b :: As).toArray, t, U', L, hT, X', hL, e1, e2, hq, st⟩
section
variable {y : MethodName} {bytes cc : ByteArray} {maxL nL mc ms n index : Nat} {ret : Option FieldType} {ws : List Cond} {rm : Room} {Pc : Array Value → State → Prop} {Qc : Array Value → State → Outcome → State → Prop} {XC : String → State → State → Prop} {free : Addr → Prop} {Ts : List Cond} {own C : String} {b : Addr} {As rest : List Value} {g : JFrame}
theorem vx_runVX {hh : List (Nat × Nat × Nat × Nat)} (S : CallFix p m c cc nL s args Ts own) (hM : vx_Met l y ws rm Pc Qc XC mc ms free) (cw : vx_CVW R s args own C index y bytes maxL ret hh ws rm mc ms n) (hp : PreV s H C b Pc As)
    (hg : g.method = m) (hn : As.length = n) (hsize : g.locals.size = nL) (hstack : g.stack = As.reverse ++ .ref b :: rest) (hW : 2 * g.monitorRoom + (rest.map fun v => v.category).sum ≤ 8) (hdg : decode cc g.pc = .ok (.invokevirtual index, 3)) (hf : cells + mc ≤ R.cells ∧ slots + ms ≤ R.slots) :
    vx_Run p l e R s m args below meth c H locs cells slots mc ms g rest (Qc (Value.ref b :: As).toArray) XC free := by
  obtain ⟨⟨hrc, hrs, hfr, hlo, hws, hcw⟩, hcode, hini, hy, hlen, hl, hin, hse⟩ := cw
  have hK : vx_Back l R p e below s args y 3 8 (PreOf R mc ms Pc) (PostOf Qc mc ms free) (vx_Post XC mc ms free) := vx_backW (hh := hh) (bytes := bytes) (maxL := maxL) (ret := ret) hM hp.1 hrc hrs hfr hlo hws hcw (fun a' U hW => word_at hW (Or.inl (by first | rfl | simp [Cond.onTables, Cond.keeps, Cond.steady])) hini)
  obtain ⟨hx, hb, hml, ho, -⟩ := S
  obtain ⟨-, ⟨cellB, hcB, hoB, hclB⟩, hPc⟩ := hp
  intro T hT X
  rcases vx_callVX X hx (C := C) (hh := hh) (bytes := bytes) (maxL := maxL) (ret := ret) ho hl hin hse hcode hy hK (by rw [hT]; exact hcB) hoB hclB hg (hsize.trans hml.symm) (argsL := As) (rest := rest) (fun sig h => hn.trans (hlen sig h)) hstack hW (by rw [hb]; exact hdg)
    (fun vm₁ hW₁ => ⟨hf.1, hf.2, hPc (T.setVm vm₁) hT hW₁⟩) with ⟨v, vm₁, ⟨U', l2, c2, s2⟩, hW₁, X', ⟨g', mk, t, L, e1, e2, hq, h1, hL, h2, h3⟩, st⟩ | ⟨q, vm₁, ⟨U', l2, c2, s2⟩, hW₁, X', ⟨g', mk, t, L, E, ce, e1, e2, hq, hce, hcv, hcl, h1, hL, h2, h3⟩, st⟩
  · dsimp only [Pt.U, Pt.locs, Pt.cells, Pt.slots] at X' e1 e2 h1 h2 h3 st
    subst h1; subst h2; subst h3
    exact Or.inl ⟨v, (T.setVm vm₁).calling g' mk (Value.ref b :: As).toArray, t, U', L, hT, X', hL, e1, e2, hq, st⟩
  · dsimp only [Pt.U, Pt.locs, Pt.cells, Pt.slots] at X' e1 e2 h1 h2 h3 st hcl
    subst h1; subst h2; subst h3
    exact Or.inr ⟨q, (T.setVm vm₁).calling g' mk (Value.ref b :: As).toArray, t, U', L, E, ce, hT, X', hL, e1, e2, hq, hce, hcv, vx_cls hW₁ hcl, st⟩
theorem vx_runSX {hh : List (Nat × Nat × Nat × Nat)} (S : CallFix p m c cc nL s args Ts own) (hM : vx_Met l y ws rm Pc Qc XC mc ms free) (cw : vx_CSW R s args own index y bytes maxL ret hh ws rm mc ms n) (hp : PreS s H Pc As)
    (hg : g.method = m) (hn : As.length = n) (hsize : g.locals.size = nL) (hstack : g.stack = As.reverse ++ rest) (hW : 2 * g.monitorRoom + (rest.map fun v => v.category).sum ≤ 8) (hdg : decode cc g.pc = .ok (.invokestatic index, 3)) (hf : cells + mc ≤ R.cells ∧ slots + ms ≤ R.slots) :
    vx_Run p l e R s m args below meth c H locs cells slots mc ms g rest (Qc As.toArray) XC free := by
  obtain ⟨⟨hrc, hrs, hfr, hlo, hws, hcw⟩, hcode, hini, hy, hlen, hl, hstt⟩ := cw
  have hK : vx_Back l R p e below s args y 3 8 (PreOf R mc ms Pc) (PostOf Qc mc ms free) (vx_Post XC mc ms free) := vx_backW (hh := hh) (bytes := bytes) (maxL := maxL) (ret := ret) hM hp.1 hrc hrs hfr hlo hws hcw (fun a' U hW => word_at hW (Or.inl (by first | rfl | simp [Cond.onTables, Cond.keeps, Cond.steady])) hini)
  obtain ⟨hx, hb, hml, ho, -⟩ := S
  intro T hT X
  rcases vx_callSX X hx (hh := hh) (bytes := bytes) (maxL := maxL) (ret := ret) ho hl hstt hini hcode hy hK hg (hsize.trans hml.symm) (argsL := As) (rest := rest) (fun sig h => hn.trans (hlen sig h)) hstack hW (by rw [hb]; exact hdg)
    (fun vm₁ hW₁ => ⟨hf.1, hf.2, hp.2 (T.setVm vm₁) hT hW₁⟩) with ⟨v, vm₁, ⟨U', l2, c2, s2⟩, hW₁, X', ⟨g', mk, t, L, e1, e2, hq, h1, hL, h2, h3⟩, st⟩ | ⟨q, vm₁, ⟨U', l2, c2, s2⟩, hW₁, X', ⟨g', mk, t, L, E, ce, e1, e2, hq, hce, hcv, hcl, h1, hL, h2, h3⟩, st⟩
  · dsimp only [Pt.U, Pt.locs, Pt.cells, Pt.slots] at X' e1 e2 h1 h2 h3 st
    subst h1; subst h2; subst h3
    exact Or.inl ⟨v, (T.setVm vm₁).calling g' mk As.toArray, t, U', L, hT, X', hL, e1, e2, hq, st⟩
  · dsimp only [Pt.U, Pt.locs, Pt.cells, Pt.slots] at X' e1 e2 h1 h2 h3 st hcl
    subst h1; subst h2; subst h3
    exact Or.inr ⟨q, (T.setVm vm₁).calling g' mk As.toArray, t, U', L, E, ce, hT, X', hL, e1, e2, hq, hce, hcv, vx_cls hW₁ hcl, st⟩
end
end VXH
theorem vx_ofWH {l : Launch} {y : MethodName} {ws ws' : List Cond} {rm : Room} {Pc : Array Value → State → Prop} {Qc : Array Value → State → Outcome → State → Prop} {XC : String → State → State → Prop} {mc ms : Nat} {free : Addr → Prop} {cc : ByteArray} {maxL : Nat} {ret : Option FieldType} {hh : List (Nat × Nat × Nat × Nat)}
    (hy : plainName y.cls = true) (hw : ws = Cond.codeWith y cc maxL ret hh :: ws')
    (body : ∀ p e s m args below meth c s₁, BodyLoose p l y (headSpec ws rm) cc maxL ret e s m args below meth c s₁ → c.maxLocals = maxL → Pc args s →
      W p l e (headSpec ws rm).room s m args below meth c s.heap [] 0 0 (vx_MQ below Qc XC args s mc ms free) (entryFrame m args maxL)) : vx_Met l y ws rm Pc Qc XC mc ms free := by
  refine MetFree.of_bodyS (code := cc) (maxLocals := maxL) (ret := ret) hy ?_ ?_
  · intro args s m h hn
    obtain ⟨m9, meth, c, hn9, h1, h2, h3, h4, -, h5, h6, -⟩ := Cond.codeWith_spec (atoms_spec (ws := ws) h _ (by rw [hw]; exact List.mem_cons_self))
    cases hn.symm.trans hn9
    exact ⟨meth, c, h1, h2, h3, h4, h5, h6⟩
  · intro p e s m args below meth c s₁ B hml hP _
    have hh0 : s₁.heap = s.heap := by rw [B.state]; rfl
    obtain ⟨t, a1, o, b1, b2, b3⟩ := body p e s m args below meth c s₁ B hml hP s₁ hh0 (Stand.of_body B)
    exact ⟨t, o, a1, b1, b2, b3⟩
/-! ===== END ===== -/
end
section
/-! ===== BEGIN printed: names, fields, word lists, decode rows ===== -/
def RX0 : String := "PeggedBells$Drum"
def TX0 : u_T := fun k => match k with
  | 0 => ("PeggedBells$Drum", "pegs", "[I", true)
  | 1 => ("PeggedBells$Drum", "tempos", "[I", true)
  | 2 => ("PeggedBells$Drum", "weights", "[I", true)
  | 3 => ("PeggedBells$Drum", "timesHeard", "[I", true)
  | 4 => ("PeggedBells$Drum", "hammers", "LPeggedBells$Hammers;", true)
  | 5 => ("PeggedBells$Drum", "bound", "I", false)
  | 6 => ("PeggedBells$Drum", "atHand", "I", false)
  | 7 => ("PeggedBells$Drum", "ticks", "I", false)
  | 8 => ("PeggedBells$Drum", "heardSoFar", "I", false)
  | _ => ("PeggedBells$Drum", "missedSoFar", "I", false)
def tyX0 : Nat → FieldType := fun k => match k with
  | 0 => .array .int
  | 1 => .array .int
  | 2 => .array .int
  | 3 => .array .int
  | 4 => .object "PeggedBells$Hammers"
  | 5 => .int
  | 6 => .int
  | 7 => .int
  | 8 => .int
  | _ => .int
abbrev wsX00 : List Cond := u_ws RX0 TX0 10
theorem nmX0 : ∀ a, a < 10 → ∀ b, b < 10 → a ≠ b → (TX0 a).2.1 ≠ (TX0 b).2.1 := by decide +kernel
theorem tyX0_ok : ∀ k, k < 10 → parseFieldDescriptor (TX0 k).2.2.1 = some (tyX0 k) := by decide +kernel
abbrev cX0_init : ByteArray := prog_2_method_1_code
def yX0_init : MethodName := ⟨RX0, "<init>", "()V"⟩
abbrev cX0_copyFrom : ByteArray := prog_2_method_2_code
def yX0_copyFrom : MethodName := ⟨RX0, "copyFrom", "(LPeggedBells$Drum;)V"⟩
abbrev cX0_strikeColumns : ByteArray := prog_2_method_3_code
def yX0_strikeColumns : MethodName := ⟨RX0, "strikeColumns", "(I)I"⟩
abbrev cX0_strikeAtHand : ByteArray := prog_2_method_4_code
def yX0_strikeAtHand : MethodName := ⟨RX0, "strikeAtHand", "()V"⟩
abbrev cX0_heardAtHand : ByteArray := prog_2_method_5_code
def yX0_heardAtHand : MethodName := ⟨RX0, "heardAtHand", "()I"⟩
abbrev cX0_countHeard : ByteArray := prog_2_method_6_code
def yX0_countHeard : MethodName := ⟨RX0, "countHeard", "(I)V"⟩
abbrev cX0_countPegs : ByteArray := prog_2_method_7_code
def yX0_countPegs : MethodName := ⟨RX0, "countPegs", "()I"⟩
abbrev cX0_pegsOtherThan : ByteArray := prog_2_method_8_code
def yX0_pegsOtherThan : MethodName := ⟨RX0, "pegsOtherThan", "(LPeggedBells$Drum;)I"⟩
abbrev cX0_sumOfTimesHeard : ByteArray := prog_2_method_9_code
def yX0_sumOfTimesHeard : MethodName := ⟨RX0, "sumOfTimesHeard", "()I"⟩
abbrev cX0_ticksByColumns : ByteArray := prog_2_method_10_code
def yX0_ticksByColumns : MethodName := ⟨RX0, "ticksByColumns", "()I"⟩
abbrev cX0_ticksByBars : ByteArray := prog_2_method_11_code
def yX0_ticksByBars : MethodName := ⟨RX0, "ticksByBars", "()I"⟩
abbrev cX0_weightOfAll : ByteArray := prog_2_method_12_code
def yX0_weightOfAll : MethodName := ⟨RX0, "weightOfAll", "(I)I"⟩
def RX1 : String := "PeggedBells$Hammers"
def TX1 : u_T := fun k => match k with
  | _ => ("PeggedBells$Hammers", "rests", "[I", true)
def tyX1 : Nat → FieldType := fun k => match k with
  | _ => .array .int
abbrev wsX10 : List Cond := u_ws RX1 TX1 1
theorem nmX1 : ∀ a, a < 1 → ∀ b, b < 1 → a ≠ b → (TX1 a).2.1 ≠ (TX1 b).2.1 := by decide +kernel
theorem tyX1_ok : ∀ k, k < 1 → parseFieldDescriptor (TX1 k).2.2.1 = some (tyX1 k) := by decide +kernel
abbrev cX1_init : ByteArray := prog_3_method_1_code
def yX1_init : MethodName := ⟨RX1, "<init>", "()V"⟩
abbrev cX1_copyFrom : ByteArray := prog_3_method_2_code
def yX1_copyFrom : MethodName := ⟨RX1, "copyFrom", "(LPeggedBells$Hammers;)V"⟩
abbrev cX1_allBack : ByteArray := prog_3_method_3_code
def yX1_allBack : MethodName := ⟨RX1, "allBack", "()V"⟩
abbrev cX1_isBack : ByteArray := prog_3_method_4_code
def yX1_isBack : MethodName := ⟨RX1, "isBack", "(II)Z"⟩
abbrev cX1_heardOutOf : ByteArray := prog_3_method_5_code
def yX1_heardOutOf : MethodName := ⟨RX1, "heardOutOf", "(I[II)I"⟩
abbrev cX1_swing : ByteArray := prog_3_method_6_code
def yX1_swing : MethodName := ⟨RX1, "swing", "(I)V"⟩
def RX2 : String := "PeggedBells$History"
def TX2 : u_T := fun k => match k with
  | 0 => ("PeggedBells$History", "states", "[LPeggedBells$Drum;", true)
  | _ => ("PeggedBells$History", "count", "I", false)
def tyX2 : Nat → FieldType := fun k => match k with
  | 0 => .array (.object "PeggedBells$Drum")
  | _ => .int
abbrev wsX20 : List Cond := u_ws RX2 TX2 2
theorem nmX2 : ∀ a, a < 2 → ∀ b, b < 2 → a ≠ b → (TX2 a).2.1 ≠ (TX2 b).2.1 := by decide +kernel
theorem tyX2_ok : ∀ k, k < 2 → parseFieldDescriptor (TX2 k).2.2.1 = some (tyX2 k) := by decide +kernel
abbrev cX2_init : ByteArray := prog_4_method_1_code
def yX2_init : MethodName := ⟨RX2, "<init>", "()V"⟩
abbrev cX2_add : ByteArray := prog_4_method_2_code
def yX2_add : MethodName := ⟨RX2, "add", "(LPeggedBells$Drum;)LPeggedBells$Drum;"⟩
abbrev cX2_dropOldest : ByteArray := prog_4_method_3_code
def yX2_dropOldest : MethodName := ⟨RX2, "dropOldest", "()V"⟩
abbrev cX2_takeLatest : ByteArray := prog_4_method_4_code
def yX2_takeLatest : MethodName := ⟨RX2, "takeLatest", "()LPeggedBells$Drum;"⟩
def RX3 : String := "PeggedBells$Pad"
def TX3 : u_T := fun k => match k with
  | 0 => ("PeggedBells$Pad", "characters", "[C", true)
  | _ => ("PeggedBells$Pad", "length", "I", false)
def tyX3 : Nat → FieldType := fun k => match k with
  | 0 => .array .char
  | _ => .int
abbrev wsX30 : List Cond := u_ws RX3 TX3 2
theorem nmX3 : ∀ a, a < 2 → ∀ b, b < 2 → a ≠ b → (TX3 a).2.1 ≠ (TX3 b).2.1 := by decide +kernel
theorem tyX3_ok : ∀ k, k < 2 → parseFieldDescriptor (TX3 k).2.2.1 = some (tyX3 k) := by decide +kernel
abbrev cX3_init : ByteArray := prog_5_method_1_code
def yX3_init : MethodName := ⟨RX3, "<init>", "()V"⟩
abbrev cX3_charactersIn : ByteArray := prog_5_method_2_code
def yX3_charactersIn : MethodName := ⟨RX3, "charactersIn", "(J)I"⟩
abbrev cX3_clear : ByteArray := prog_5_method_3_code
def yX3_clear : MethodName := ⟨RX3, "clear", "()V"⟩
abbrev cX3_hasRoomFor : ByteArray := prog_5_method_4_code
def yX3_hasRoomFor : MethodName := ⟨RX3, "hasRoomFor", "(I)Z"⟩
abbrev cX3_append : ByteArray := prog_5_method_5_code
def yX3_append : MethodName := ⟨RX3, "append", "(JI)V"⟩
abbrev cX3_firstFault : ByteArray := prog_5_method_6_code
def yX3_firstFault : MethodName := ⟨RX3, "firstFault", "()I"⟩
abbrev cX3_placeAfter : ByteArray := prog_5_method_7_code
def yX3_placeAfter : MethodName := ⟨RX3, "placeAfter", "(IC)I"⟩
abbrev cX3_placeAfterFirst : ByteArray := prog_5_method_8_code
def yX3_placeAfterFirst : MethodName := ⟨RX3, "placeAfterFirst", "(C)I"⟩
abbrev cX3_placeAfterColumn : ByteArray := prog_5_method_9_code
def yX3_placeAfterColumn : MethodName := ⟨RX3, "placeAfterColumn", "(C)I"⟩
abbrev cX3_placeAfterPart : ByteArray := prog_5_method_10_code
def yX3_placeAfterPart : MethodName := ⟨RX3, "placeAfterPart", "(C)I"⟩
abbrev cX3_isIn : ByteArray := prog_5_method_11_code
def yX3_isIn : MethodName := ⟨RX3, "isIn", "(CCC)Z"⟩
abbrev cX3_colonFrom : ByteArray := prog_5_method_12_code
def yX3_colonFrom : MethodName := ⟨RX3, "colonFrom", "(I)I"⟩
abbrev cX3_at : ByteArray := prog_5_method_13_code
def yX3_at : MethodName := ⟨RX3, "at", "(I)C"⟩
abbrev cX3_digitAt : ByteArray := prog_5_method_14_code
def yX3_digitAt : MethodName := ⟨RX3, "digitAt", "(I)I"⟩
abbrev cX3_numberIn : ByteArray := prog_5_method_15_code
def yX3_numberIn : MethodName := ⟨RX3, "numberIn", "(II)I"⟩
def RX4 : String := "PeggedBells$Round"
def TX4 : u_T := fun k => match k with
  | 0 => ("PeggedBells$Round", "heardIn", "[I", true)
  | _ => ("PeggedBells$Round", "hammers", "LPeggedBells$Hammers;", true)
def tyX4 : Nat → FieldType := fun k => match k with
  | 0 => .array .int
  | _ => .object "PeggedBells$Hammers"
abbrev wsX40 : List Cond := u_ws RX4 TX4 2
theorem nmX4 : ∀ a, a < 2 → ∀ b, b < 2 → a ≠ b → (TX4 a).2.1 ≠ (TX4 b).2.1 := by decide +kernel
theorem tyX4_ok : ∀ k, k < 2 → parseFieldDescriptor (TX4 k).2.2.1 = some (tyX4 k) := by decide +kernel
abbrev cX4_init : ByteArray := prog_6_method_1_code
def yX4_init : MethodName := ⟨RX4, "<init>", "()V"⟩
abbrev cX4_play : ByteArray := prog_6_method_2_code
def yX4_play : MethodName := ⟨RX4, "play", "(LPeggedBells$Drum;I)I"⟩
abbrev cX4_sumOfColumns : ByteArray := prog_6_method_3_code
def yX4_sumOfColumns : MethodName := ⟨RX4, "sumOfColumns", "()I"⟩
abbrev cX4_timesHeard : ByteArray := prog_6_method_4_code
def yX4_timesHeard : MethodName := ⟨RX4, "timesHeard", "(I)I"⟩
def RX5 : String := "PeggedBells"
def TX5 : u_T := fun k => match k with
  | 0 => ("PeggedBells", "drum", "LPeggedBells$Drum;", true)
  | 1 => ("PeggedBells", "round", "LPeggedBells$Round;", true)
  | 2 => ("PeggedBells", "pad", "LPeggedBells$Pad;", true)
  | 3 => ("PeggedBells", "history", "LPeggedBells$History;", true)
  | _ => ("PeggedBells", "slots", "[LPeggedBells$Drum;", true)
def tyX5 : Nat → FieldType := fun k => match k with
  | 0 => .object "PeggedBells$Drum"
  | 1 => .object "PeggedBells$Round"
  | 2 => .object "PeggedBells$Pad"
  | 3 => .object "PeggedBells$History"
  | _ => .array (.object "PeggedBells$Drum")
abbrev wsX50 : List Cond := u_ws RX5 TX5 5
theorem nmX5 : ∀ a, a < 5 → ∀ b, b < 5 → a ≠ b → (TX5 a).2.1 ≠ (TX5 b).2.1 := by decide +kernel
theorem tyX5_ok : ∀ k, k < 5 → parseFieldDescriptor (TX5 k).2.2.1 = some (tyX5 k) := by decide +kernel
abbrev cX5_init : ByteArray := prog_1_method_1_code
def yX5_init : MethodName := ⟨RX5, "<init>", "()V"⟩
abbrev cX5_turnPeg : ByteArray := prog_1_method_2_code
def yX5_turnPeg : MethodName := ⟨RX5, "turnPeg", "(II)Z"⟩
abbrev cX5_setColumn : ByteArray := prog_1_method_3_code
def yX5_setColumn : MethodName := ⟨RX5, "setColumn", "(II)I"⟩
abbrev cX5_setTempo : ByteArray := prog_1_method_4_code
def yX5_setTempo : MethodName := ⟨RX5, "setTempo", "(II)I"⟩
abbrev cX5_setWeight : ByteArray := prog_1_method_5_code
def yX5_setWeight : MethodName := ⟨RX5, "setWeight", "(II)I"⟩
abbrev cX5_setBound : ByteArray := prog_1_method_6_code
def yX5_setBound : MethodName := ⟨RX5, "setBound", "(I)I"⟩
abbrev cX5_turnRound : ByteArray := prog_1_method_7_code
def yX5_turnRound : MethodName := ⟨RX5, "turnRound", "()I"⟩
abbrev cX5_move : ByteArray := prog_1_method_8_code
def yX5_move : MethodName := ⟨RX5, "move", "(I)I"⟩
abbrev cX5_raise : ByteArray := prog_1_method_9_code
def yX5_raise : MethodName := ⟨RX5, "raise", "()I"⟩
abbrev cX5_crank : ByteArray := prog_1_method_10_code
def yX5_crank : MethodName := ⟨RX5, "crank", "(I)I"⟩
abbrev cX5_turnBack : ByteArray := prog_1_method_11_code
def yX5_turnBack : MethodName := ⟨RX5, "turnBack", "()I"⟩
abbrev cX5_read : ByteArray := prog_1_method_12_code
def yX5_read : MethodName := ⟨RX5, "read", "()I"⟩
abbrev cX5_pegsIn : ByteArray := prog_1_method_13_code
def yX5_pegsIn : MethodName := ⟨RX5, "pegsIn", "(I)I"⟩
abbrev cX5_pegs : ByteArray := prog_1_method_14_code
def yX5_pegs : MethodName := ⟨RX5, "pegs", "()I"⟩
abbrev cX5_tempoOf : ByteArray := prog_1_method_15_code
def yX5_tempoOf : MethodName := ⟨RX5, "tempoOf", "(I)I"⟩
abbrev cX5_weightOf : ByteArray := prog_1_method_16_code
def yX5_weightOf : MethodName := ⟨RX5, "weightOf", "(I)I"⟩
abbrev cX5_column : ByteArray := prog_1_method_17_code
def yX5_column : MethodName := ⟨RX5, "column", "()I"⟩
abbrev cX5_time : ByteArray := prog_1_method_18_code
def yX5_time : MethodName := ⟨RX5, "time", "()I"⟩
abbrev cX5_heardOf : ByteArray := prog_1_method_19_code
def yX5_heardOf : MethodName := ⟨RX5, "heardOf", "(I)I"⟩
abbrev cX5_heard : ByteArray := prog_1_method_20_code
def yX5_heard : MethodName := ⟨RX5, "heard", "(Z)I"⟩
abbrev cX5_missed : ByteArray := prog_1_method_21_code
def yX5_missed : MethodName := ⟨RX5, "missed", "()I"⟩
abbrev cX5_whyMissed : ByteArray := prog_1_method_22_code
def yX5_whyMissed : MethodName := ⟨RX5, "whyMissed", "(I)I"⟩
abbrev cX5_inRound : ByteArray := prog_1_method_23_code
def yX5_inRound : MethodName := ⟨RX5, "inRound", "(I)I"⟩
abbrev cX5_heardInRound : ByteArray := prog_1_method_24_code
def yX5_heardInRound : MethodName := ⟨RX5, "heardInRound", "(Z)I"⟩
abbrev cX5_ticksOfRound : ByteArray := prog_1_method_25_code
def yX5_ticksOfRound : MethodName := ⟨RX5, "ticksOfRound", "(Z)I"⟩
abbrev cX5_missedInRound : ByteArray := prog_1_method_26_code
def yX5_missedInRound : MethodName := ⟨RX5, "missedInRound", "()I"⟩
abbrev cX5_busiest : ByteArray := prog_1_method_27_code
def yX5_busiest : MethodName := ⟨RX5, "busiest", "()I"⟩
abbrev cX5_longestSilence : ByteArray := prog_1_method_28_code
def yX5_longestSilence : MethodName := ⟨RX5, "longestSilence", "()I"⟩
abbrev cX5_enoughBound : ByteArray := prog_1_method_29_code
def yX5_enoughBound : MethodName := ⟨RX5, "enoughBound", "()I"⟩
abbrev cX5_heaviestColumn : ByteArray := prog_1_method_30_code
def yX5_heaviestColumn : MethodName := ⟨RX5, "heaviestColumn", "()I"⟩
abbrev cX5_put : ByteArray := prog_1_method_31_code
def yX5_put : MethodName := ⟨RX5, "put", "(J)I"⟩
abbrev cX5_wipe : ByteArray := prog_1_method_32_code
def yX5_wipe : MethodName := ⟨RX5, "wipe", "()I"⟩
abbrev cX5_padLength : ByteArray := prog_1_method_33_code
def yX5_padLength : MethodName := ⟨RX5, "padLength", "()I"⟩
abbrev cX5_fault : ByteArray := prog_1_method_34_code
def yX5_fault : MethodName := ⟨RX5, "fault", "()I"⟩
abbrev cX5_undo : ByteArray := prog_1_method_35_code
def yX5_undo : MethodName := ⟨RX5, "undo", "()I"⟩
abbrev cX5_undoable : ByteArray := prog_1_method_36_code
def yX5_undoable : MethodName := ⟨RX5, "undoable", "()I"⟩
abbrev cX5_save : ByteArray := prog_1_method_37_code
def yX5_save : MethodName := ⟨RX5, "save", "(I)I"⟩
abbrev cX5_restore : ByteArray := prog_1_method_38_code
def yX5_restore : MethodName := ⟨RX5, "restore", "(I)I"⟩
abbrev cX5_doPart : ByteArray := prog_1_method_39_code
def yX5_doPart : MethodName := ⟨RX5, "doPart", "(II)I"⟩
abbrev cX5_changeTempo : ByteArray := prog_1_method_40_code
def yX5_changeTempo : MethodName := ⟨RX5, "changeTempo", "(II)V"⟩
abbrev cX5_turnPegs : ByteArray := prog_1_method_41_code
def yX5_turnPegs : MethodName := ⟨RX5, "turnPegs", "(II)V"⟩
abbrev cX5_isColumn : ByteArray := prog_1_method_42_code
def yX5_isColumn : MethodName := ⟨RX5, "isColumn", "(I)Z"⟩
abbrev cX5_isBar : ByteArray := prog_1_method_43_code
def yX5_isBar : MethodName := ⟨RX5, "isBar", "(I)Z"⟩
abbrev cX5_isBell : ByteArray := prog_1_method_44_code
def yX5_isBell : MethodName := ⟨RX5, "isBell", "(I)Z"⟩
abbrev cX5_isSlot : ByteArray := prog_1_method_45_code
def yX5_isSlot : MethodName := ⟨RX5, "isSlot", "(I)Z"⟩
abbrev cX5_holds : ByteArray := prog_1_method_46_code
def yX5_holds : MethodName := ⟨RX5, "holds", "(II)Z"⟩
def RX6 : String := "PeggedBellsModel"
def TX6 : u_T := fun k => match k with
  | 0 => ("PeggedBellsModel", "thrown", "I", false)
  | 1 => ("PeggedBellsModel", "s", "[I", true)
  | 2 => ("PeggedBellsModel", "slots", "[I", true)
  | 3 => ("PeggedBellsModel", "isSaved", "[Z", true)
  | 4 => ("PeggedBellsModel", "history", "[I", true)
  | 5 => ("PeggedBellsModel", "known", "I", false)
  | 6 => ("PeggedBellsModel", "pad", "[I", true)
  | 7 => ("PeggedBellsModel", "length", "I", false)
  | 8 => ("PeggedBellsModel", "hammers", "[I", true)
  | 9 => ("PeggedBellsModel", "sounds", "[I", true)
  | _ => ("PeggedBellsModel", "tooHeavy", "I", false)
def tyX6 : Nat → FieldType := fun k => match k with
  | 0 => .int
  | 1 => .array .int
  | 2 => .array .int
  | 3 => .array .boolean
  | 4 => .array .int
  | 5 => .int
  | 6 => .array .int
  | 7 => .int
  | 8 => .array .int
  | 9 => .array .int
  | _ => .int
abbrev wsX60 : List Cond := u_ws RX6 TX6 11
theorem nmX6 : ∀ a, a < 11 → ∀ b, b < 11 → a ≠ b → (TX6 a).2.1 ≠ (TX6 b).2.1 := by decide +kernel
theorem tyX6_ok : ∀ k, k < 11 → parseFieldDescriptor (TX6 k).2.2.1 = some (tyX6 k) := by decide +kernel
abbrev cX6_init : ByteArray := prog_8_method_1_code
def yX6_init : MethodName := ⟨RX6, "<init>", "()V"⟩
abbrev cX6_thrown : ByteArray := prog_8_method_2_code
def yX6_thrown : MethodName := ⟨RX6, "thrown", "()I"⟩
abbrev cX6_in : ByteArray := prog_8_method_3_code
def yX6_in : MethodName := ⟨RX6, "in", "(III)Z"⟩
abbrev cX6_holds : ByteArray := prog_8_method_4_code
def yX6_holds : MethodName := ⟨RX6, "holds", "(I)Z"⟩
abbrev cX6_isColumn : ByteArray := prog_8_method_5_code
def yX6_isColumn : MethodName := ⟨RX6, "isColumn", "(I)Z"⟩
abbrev cX6_isBell : ByteArray := prog_8_method_6_code
def yX6_isBell : MethodName := ⟨RX6, "isBell", "(I)Z"⟩
abbrev cX6_isBar : ByteArray := prog_8_method_7_code
def yX6_isBar : MethodName := ⟨RX6, "isBar", "(I)Z"⟩
abbrev cX6_records : ByteArray := prog_8_method_8_code
def yX6_records : MethodName := ⟨RX6, "records", "()V"⟩
abbrev cX6_count : ByteArray := prog_8_method_9_code
def yX6_count : MethodName := ⟨RX6, "count", "(I)I"⟩
abbrev cX6_allPegs : ByteArray := prog_8_method_10_code
def yX6_allPegs : MethodName := ⟨RX6, "allPegs", "()I"⟩
abbrev cX6_weightIn : ByteArray := prog_8_method_11_code
def yX6_weightIn : MethodName := ⟨RX6, "weightIn", "(I)I"⟩
abbrev cX6_missedFor : ByteArray := prog_8_method_12_code
def yX6_missedFor : MethodName := ⟨RX6, "missedFor", "(IIII)I"⟩
abbrev cX6_later : ByteArray := prog_8_method_13_code
def yX6_later : MethodName := ⟨RX6, "later", "(I)I"⟩
abbrev cX6_strikes : ByteArray := prog_8_method_14_code
def yX6_strikes : MethodName := ⟨RX6, "strikes", "()I"⟩
abbrev cX6_cranks : ByteArray := prog_8_method_15_code
def yX6_cranks : MethodName := ⟨RX6, "cranks", "(I)I"⟩
abbrev cX6_rounds : ByteArray := prog_8_method_16_code
def yX6_rounds : MethodName := ⟨RX6, "rounds", "(I)V"⟩
abbrev cX6_heardOfRound : ByteArray := prog_8_method_17_code
def yX6_heardOfRound : MethodName := ⟨RX6, "heardOfRound", "()I"⟩
abbrev cX6_turnPeg : ByteArray := prog_8_method_18_code
def yX6_turnPeg : MethodName := ⟨RX6, "turnPeg", "(II)Z"⟩
abbrev cX6_lays : ByteArray := prog_8_method_19_code
def yX6_lays : MethodName := ⟨RX6, "lays", "(II)I"⟩
abbrev cX6_setColumn : ByteArray := prog_8_method_20_code
def yX6_setColumn : MethodName := ⟨RX6, "setColumn", "(II)I"⟩
abbrev cX6_changes : ByteArray := prog_8_method_21_code
def yX6_changes : MethodName := ⟨RX6, "changes", "(II)I"⟩
abbrev cX6_setTempo : ByteArray := prog_8_method_22_code
def yX6_setTempo : MethodName := ⟨RX6, "setTempo", "(II)I"⟩
abbrev cX6_setWeight : ByteArray := prog_8_method_23_code
def yX6_setWeight : MethodName := ⟨RX6, "setWeight", "(II)I"⟩
abbrev cX6_setBound : ByteArray := prog_8_method_24_code
def yX6_setBound : MethodName := ⟨RX6, "setBound", "(I)I"⟩
abbrev cX6_laysAll : ByteArray := prog_8_method_25_code
def yX6_laysAll : MethodName := ⟨RX6, "laysAll", "()I"⟩
abbrev cX6_turnRound : ByteArray := prog_8_method_26_code
def yX6_turnRound : MethodName := ⟨RX6, "turnRound", "()I"⟩
abbrev cX6_move : ByteArray := prog_8_method_27_code
def yX6_move : MethodName := ⟨RX6, "move", "(I)I"⟩
abbrev cX6_raise : ByteArray := prog_8_method_28_code
def yX6_raise : MethodName := ⟨RX6, "raise", "()I"⟩
abbrev cX6_crank : ByteArray := prog_8_method_29_code
def yX6_crank : MethodName := ⟨RX6, "crank", "(I)I"⟩
abbrev cX6_turnBack : ByteArray := prog_8_method_30_code
def yX6_turnBack : MethodName := ⟨RX6, "turnBack", "()I"⟩
abbrev cX6_pegsIn : ByteArray := prog_8_method_31_code
def yX6_pegsIn : MethodName := ⟨RX6, "pegsIn", "(I)I"⟩
abbrev cX6_pegs : ByteArray := prog_8_method_32_code
def yX6_pegs : MethodName := ⟨RX6, "pegs", "()I"⟩
abbrev cX6_tempoOf : ByteArray := prog_8_method_33_code
def yX6_tempoOf : MethodName := ⟨RX6, "tempoOf", "(I)I"⟩
abbrev cX6_weightOf : ByteArray := prog_8_method_34_code
def yX6_weightOf : MethodName := ⟨RX6, "weightOf", "(I)I"⟩
abbrev cX6_column : ByteArray := prog_8_method_35_code
def yX6_column : MethodName := ⟨RX6, "column", "()I"⟩
abbrev cX6_time : ByteArray := prog_8_method_36_code
def yX6_time : MethodName := ⟨RX6, "time", "()I"⟩
abbrev cX6_heardOf : ByteArray := prog_8_method_37_code
def yX6_heardOf : MethodName := ⟨RX6, "heardOf", "(I)I"⟩
abbrev cX6_heard : ByteArray := prog_8_method_38_code
def yX6_heard : MethodName := ⟨RX6, "heard", "(Z)I"⟩
abbrev cX6_missed : ByteArray := prog_8_method_39_code
def yX6_missed : MethodName := ⟨RX6, "missed", "()I"⟩
abbrev cX6_whyMissed : ByteArray := prog_8_method_40_code
def yX6_whyMissed : MethodName := ⟨RX6, "whyMissed", "(I)I"⟩
abbrev cX6_inRound : ByteArray := prog_8_method_41_code
def yX6_inRound : MethodName := ⟨RX6, "inRound", "(I)I"⟩
abbrev cX6_heardInRound : ByteArray := prog_8_method_42_code
def yX6_heardInRound : MethodName := ⟨RX6, "heardInRound", "(Z)I"⟩
abbrev cX6_ticksOfRound : ByteArray := prog_8_method_43_code
def yX6_ticksOfRound : MethodName := ⟨RX6, "ticksOfRound", "(Z)I"⟩
abbrev cX6_missedInRound : ByteArray := prog_8_method_44_code
def yX6_missedInRound : MethodName := ⟨RX6, "missedInRound", "()I"⟩
abbrev cX6_busiest : ByteArray := prog_8_method_45_code
def yX6_busiest : MethodName := ⟨RX6, "busiest", "()I"⟩
abbrev cX6_longestSilence : ByteArray := prog_8_method_46_code
def yX6_longestSilence : MethodName := ⟨RX6, "longestSilence", "()I"⟩
abbrev cX6_enoughBound : ByteArray := prog_8_method_47_code
def yX6_enoughBound : MethodName := ⟨RX6, "enoughBound", "()I"⟩
abbrev cX6_heaviestColumn : ByteArray := prog_8_method_48_code
def yX6_heaviestColumn : MethodName := ⟨RX6, "heaviestColumn", "()I"⟩
abbrev cX6_put : ByteArray := prog_8_method_49_code
def yX6_put : MethodName := ⟨RX6, "put", "(J)I"⟩
abbrev cX6_wipe : ByteArray := prog_8_method_50_code
def yX6_wipe : MethodName := ⟨RX6, "wipe", "()I"⟩
abbrev cX6_padLength : ByteArray := prog_8_method_51_code
def yX6_padLength : MethodName := ⟨RX6, "padLength", "()I"⟩
abbrev cX6_charAt : ByteArray := prog_8_method_52_code
def yX6_charAt : MethodName := ⟨RX6, "charAt", "(I)I"⟩
abbrev cX6_isDigit : ByteArray := prog_8_method_53_code
def yX6_isDigit : MethodName := ⟨RX6, "isDigit", "(I)Z"⟩
abbrev cX6_behindColumn : ByteArray := prog_8_method_54_code
def yX6_behindColumn : MethodName := ⟨RX6, "behindColumn", "(I)I"⟩
abbrev cX6_behindPart : ByteArray := prog_8_method_55_code
def yX6_behindPart : MethodName := ⟨RX6, "behindPart", "(I)I"⟩
abbrev cX6_wrong : ByteArray := prog_8_method_56_code
def yX6_wrong : MethodName := ⟨RX6, "wrong", "()I"⟩
abbrev cX6_fault : ByteArray := prog_8_method_57_code
def yX6_fault : MethodName := ⟨RX6, "fault", "()I"⟩
abbrev cX6_does : ByteArray := prog_8_method_58_code
def yX6_does : MethodName := ⟨RX6, "does", "(I)I"⟩
abbrev cX6_read : ByteArray := prog_8_method_59_code
def yX6_read : MethodName := ⟨RX6, "read", "()I"⟩
abbrev cX6_undo : ByteArray := prog_8_method_60_code
def yX6_undo : MethodName := ⟨RX6, "undo", "()I"⟩
abbrev cX6_undoable : ByteArray := prog_8_method_61_code
def yX6_undoable : MethodName := ⟨RX6, "undoable", "()I"⟩
abbrev cX6_save : ByteArray := prog_8_method_62_code
def yX6_save : MethodName := ⟨RX6, "save", "(I)I"⟩
abbrev cX6_restore : ByteArray := prog_8_method_63_code
def yX6_restore : MethodName := ⟨RX6, "restore", "(I)I"⟩
def RJx145de : String := "java/io/Serializable"
def TJx145de : u_T := fun k => match k with
  | _ => ("", "", "", false)
def tyJx145de : Nat → FieldType := fun k => match k with
  | _ => .int
abbrev wsJx145de0 : List Cond := u_ws RJx145de TJx145de 0
theorem nmJx145de : ∀ a, a < 0 → ∀ b, b < 0 → a ≠ b → (TJx145de a).2.1 ≠ (TJx145de b).2.1 := by decide +kernel
theorem tyJx145de_ok : ∀ k, k < 0 → parseFieldDescriptor (TJx145de k).2.2.1 = some (tyJx145de k) := by decide +kernel
def RJ6 : String := "java/lang/Integer"
def TJ6 : u_T := fun k => match k with
  | _ => ("", "", "", false)
def tyJ6 : Nat → FieldType := fun k => match k with
  | _ => .int
abbrev wsJ60 : List Cond := u_ws RJ6 TJ6 0
theorem nmJ6 : ∀ a, a < 0 → ∀ b, b < 0 → a ≠ b → (TJ6 a).2.1 ≠ (TJ6 b).2.1 := by decide +kernel
theorem tyJ6_ok : ∀ k, k < 0 → parseFieldDescriptor (TJ6 k).2.2.1 = some (tyJ6 k) := by decide +kernel
abbrev cJ6_bitCount_0f7a4 : ByteArray := prog_13_method_49_code
def yJ6_bitCount_0f7a4 : MethodName := ⟨RJ6, "bitCount", "(I)I"⟩
def RJ9 : String := "java/lang/Math"
def TJ9 : u_T := fun k => match k with
  | _ => ("", "", "", false)
def tyJ9 : Nat → FieldType := fun k => match k with
  | _ => .int
abbrev wsJ90 : List Cond := u_ws RJ9 TJ9 0
theorem nmJ9 : ∀ a, a < 0 → ∀ b, b < 0 → a ≠ b → (TJ9 a).2.1 ≠ (TJ9 b).2.1 := by decide +kernel
theorem tyJ9_ok : ∀ k, k < 0 → parseFieldDescriptor (TJ9 k).2.2.1 = some (tyJ9 k) := by decide +kernel
abbrev cJ9_max_7cf53 : ByteArray := prog_14_method_65_code
def yJ9_max_7cf53 : MethodName := ⟨RJ9, "max", "(II)I"⟩
abbrev cJ9_min_7cf53 : ByteArray := prog_14_method_69_code
def yJ9_min_7cf53 : MethodName := ⟨RJ9, "min", "(II)I"⟩
def RJ0 : String := "java/lang/String"
def TJ0 : u_T := fun k => match k with
  | _ => ("", "", "", false)
def tyJ0 : Nat → FieldType := fun k => match k with
  | _ => .int
abbrev wsJ00 : List Cond := u_ws RJ0 TJ0 0
theorem nmJ0 : ∀ a, a < 0 → ∀ b, b < 0 → a ≠ b → (TJ0 a).2.1 ≠ (TJ0 b).2.1 := by decide +kernel
theorem tyJ0_ok : ∀ k, k < 0 → parseFieldDescriptor (TJ0 k).2.2.1 = some (tyJ0 k) := by decide +kernel
def RJ10 : String := "java/lang/System"
def TJ10 : u_T := fun k => match k with
  | _ => ("", "", "", false)
def tyJ10 : Nat → FieldType := fun k => match k with
  | _ => .int
abbrev wsJ100 : List Cond := u_ws RJ10 TJ10 0
theorem nmJ10 : ∀ a, a < 0 → ∀ b, b < 0 → a ≠ b → (TJ10 a).2.1 ≠ (TJ10 b).2.1 := by decide +kernel
theorem tyJ10_ok : ∀ k, k < 0 → parseFieldDescriptor (TJ10 k).2.2.1 = some (tyJ10 k) := by decide +kernel
def RJ7 : String := "java/util/Arrays"
def TJ7 : u_T := fun k => match k with
  | _ => ("", "", "", false)
def tyJ7 : Nat → FieldType := fun k => match k with
  | _ => .int
abbrev wsJ70 : List Cond := u_ws RJ7 TJ7 0
theorem nmJ7 : ∀ a, a < 0 → ∀ b, b < 0 → a ≠ b → (TJ7 a).2.1 ≠ (TJ7 b).2.1 := by decide +kernel
theorem tyJ7_ok : ∀ k, k < 0 → parseFieldDescriptor (TJ7 k).2.2.1 = some (tyJ7 k) := by decide +kernel
abbrev cJ7_fill_53178 : ByteArray := prog_19_method_103_code
def yJ7_fill_53178 : MethodName := ⟨RJ7, "fill", "([II)V"⟩
def RL : String := "PeggedBellsLaw"
abbrev cL_turnPeg : ByteArray := method_3_code
def yL_turnPeg : MethodName := ⟨RL, "turnPeg", "(LPeggedBells;II[J)I"⟩
abbrev cL_setColumn : ByteArray := method_4_code
def yL_setColumn : MethodName := ⟨RL, "setColumn", "(LPeggedBells;II[J)I"⟩
abbrev cL_setTempo : ByteArray := method_5_code
def yL_setTempo : MethodName := ⟨RL, "setTempo", "(LPeggedBells;II[J)I"⟩
abbrev cL_setWeight : ByteArray := method_6_code
def yL_setWeight : MethodName := ⟨RL, "setWeight", "(LPeggedBells;II[J)I"⟩
abbrev cL_setBound : ByteArray := method_7_code
def yL_setBound : MethodName := ⟨RL, "setBound", "(LPeggedBells;I[J)I"⟩
abbrev cL_move : ByteArray := method_8_code
def yL_move : MethodName := ⟨RL, "move", "(LPeggedBells;I[J)I"⟩
abbrev cL_crank : ByteArray := method_9_code
def yL_crank : MethodName := ⟨RL, "crank", "(LPeggedBells;I[J)I"⟩
abbrev cL_read : ByteArray := method_10_code
def yL_read : MethodName := ⟨RL, "read", "(LPeggedBells;[J)I"⟩
abbrev cL_pegsIn : ByteArray := method_11_code
def yL_pegsIn : MethodName := ⟨RL, "pegsIn", "(LPeggedBells;I[J)I"⟩
abbrev cL_tempoOf : ByteArray := method_12_code
def yL_tempoOf : MethodName := ⟨RL, "tempoOf", "(LPeggedBells;I[J)I"⟩
abbrev cL_weightOf : ByteArray := method_13_code
def yL_weightOf : MethodName := ⟨RL, "weightOf", "(LPeggedBells;I[J)I"⟩
abbrev cL_heardOf : ByteArray := method_14_code
def yL_heardOf : MethodName := ⟨RL, "heardOf", "(LPeggedBells;I[J)I"⟩
abbrev cL_whyMissed : ByteArray := method_15_code
def yL_whyMissed : MethodName := ⟨RL, "whyMissed", "(LPeggedBells;I[J)I"⟩
abbrev cL_inRound : ByteArray := method_16_code
def yL_inRound : MethodName := ⟨RL, "inRound", "(LPeggedBells;I[J)I"⟩
abbrev cL_put : ByteArray := method_17_code
def yL_put : MethodName := ⟨RL, "put", "(LPeggedBells;J[J)I"⟩
abbrev cL_undo : ByteArray := method_18_code
def yL_undo : MethodName := ⟨RL, "undo", "(LPeggedBells;[J)I"⟩
abbrev cL_save : ByteArray := method_19_code
def yL_save : MethodName := ⟨RL, "save", "(LPeggedBells;I[J)I"⟩
abbrev cL_restore : ByteArray := method_20_code
def yL_restore : MethodName := ⟨RL, "restore", "(LPeggedBells;I[J)I"⟩
abbrev cL_law : ByteArray := code
def yL_law : MethodName := ⟨RL, "law", "([I)Z"⟩
def wsJ7_fill_53178 : List Cond := .code yJ7_fill_53178 cJ7_fill_53178 4 none :: ([])
def wsX1_init : List Cond := .code yX1_init cX1_init 1 none :: ([.methodLink RX1 3 objectInit, .instanceMethod objectInit, .code objectInit ⟨#[0xb1]⟩ 1 none, .arrayClass .int, .fieldLink RX1 9 "PeggedBells$Hammers" "rests" "[I", .methodLink RX1 15 yJ7_fill_53178, .static yJ7_fill_53178, .initialized RJ7, .code yJ7_fill_53178 cJ7_fill_53178 4 none] ++ wsX10)
def wsX0_init_r1 : List Cond := [Cond.methodLink RX0 3 objectInit, Cond.instanceMethod objectInit, Cond.code objectInit ⟨#[0xb1]⟩ 1 none, Cond.arrayClass .int, Cond.fieldLink RX0 9 "PeggedBells$Drum" "pegs" "[I", Cond.fieldLink RX0 15 "PeggedBells$Drum" "tempos" "[I", Cond.fieldLink RX0 18 "PeggedBells$Drum" "weights" "[I", Cond.fieldLink RX0 21 "PeggedBells$Drum" "timesHeard" "[I", Cond.classLink RX0 24 RX1, Cond.instantiable RX1 1, Cond.initialized RX1, Cond.fieldLink RX0 27 "PeggedBells$Drum" "hammers" "LPeggedBells$Hammers;", Cond.fieldLink RX0 31 "PeggedBells$Drum" "bound" "I", Cond.fieldLink RX0 35 "PeggedBells$Drum" "atHand" "I", Cond.fieldLink RX0 38 "PeggedBells$Drum" "ticks" "I", Cond.fieldLink RX0 41 "PeggedBells$Drum" "heardSoFar" "I", Cond.fieldLink RX0 44 "PeggedBells$Drum" "missedSoFar" "I", Cond.methodLink RX0 26 yX1_init, Cond.instanceMethod yX1_init, Cond.code yX1_init cX1_init 1 none, Cond.methodLink RX1 3 objectInit, Cond.fieldLink RX1 9 "PeggedBells$Hammers" "rests" "[I", Cond.methodLink RX1 15 yJ7_fill_53178, Cond.static yJ7_fill_53178]
def wsX0_init_r2 : List Cond := [Cond.initialized RJ7, Cond.code yJ7_fill_53178 cJ7_fill_53178 4 none, Cond.methodLink RX0 47 yJ7_fill_53178]
def wsX0_init : List Cond := .code yX0_init cX0_init 2 none :: ((wsX0_init_r1 ++ wsX0_init_r2) ++ wsX00 ++ wsX10)
def wsX1_copyFrom : List Cond := .code yX1_copyFrom cX1_copyFrom 2 none :: ([.fieldLink RX1 9 "PeggedBells$Hammers" "rests" "[I", .methodLink RX1 21 arraycopyName, .native arraycopyName, .static arraycopyName, .initialized "java/lang/System"] ++ wsX10)
def wsX0_copyFrom : List Cond := .code yX0_copyFrom cX0_copyFrom 2 none :: ([.fieldLink RX0 9 "PeggedBells$Drum" "pegs" "[I", .methodLink RX0 53 arraycopyName, .native arraycopyName, .static arraycopyName, .initialized "java/lang/System", .fieldLink RX0 15 "PeggedBells$Drum" "tempos" "[I", .fieldLink RX0 18 "PeggedBells$Drum" "weights" "[I", .fieldLink RX0 21 "PeggedBells$Drum" "timesHeard" "[I", .fieldLink RX0 27 "PeggedBells$Drum" "hammers" "LPeggedBells$Hammers;", .fieldLink RX0 31 "PeggedBells$Drum" "bound" "I", .fieldLink RX0 35 "PeggedBells$Drum" "atHand" "I", .fieldLink RX0 38 "PeggedBells$Drum" "ticks" "I", .fieldLink RX0 41 "PeggedBells$Drum" "heardSoFar" "I", .fieldLink RX0 44 "PeggedBells$Drum" "missedSoFar" "I", .methodLink RX0 59 yX1_copyFrom, .instanceMethod yX1_copyFrom, .selects RX1 yX1_copyFrom yX1_copyFrom, .initialized RX1, .code yX1_copyFrom cX1_copyFrom 2 none, .fieldLink RX1 9 "PeggedBells$Hammers" "rests" "[I", .methodLink RX1 21 arraycopyName] ++ wsX00 ++ wsX10)
def wsX5_holds : List Cond := .code yX5_holds cX5_holds 2 (some .boolean) :: ([])
def wsX1_isBack : List Cond := .code yX1_isBack cX1_isBack 3 (some .boolean) :: ([.fieldLink RX1 9 "PeggedBells$Hammers" "rests" "[I"] ++ wsX10)
def wsX1_heardOutOf : List Cond := .code yX1_heardOutOf cX1_heardOutOf 8 (some .int) :: ([.static yX5_holds, .initialized RX5, .code yX5_holds cX5_holds 2 (some .boolean), .methodLink RX1 31 yX1_isBack, .instanceMethod yX1_isBack, .selects RX1 yX1_isBack yX1_isBack, .initialized RX1, .code yX1_isBack cX1_isBack 3 (some .boolean), .fieldLink RX1 9 "PeggedBells$Hammers" "rests" "[I"] ++ wsX10)
def wsX0_heardAtHand : List Cond := .code yX0_heardAtHand cX0_heardAtHand 1 (some .int) :: ([.fieldLink RX0 27 "PeggedBells$Drum" "hammers" "LPeggedBells$Hammers;", .fieldLink RX0 9 "PeggedBells$Drum" "pegs" "[I", .fieldLink RX0 35 "PeggedBells$Drum" "atHand" "I", .fieldLink RX0 18 "PeggedBells$Drum" "weights" "[I", .fieldLink RX0 31 "PeggedBells$Drum" "bound" "I", .methodLink RX0 83 yX1_heardOutOf, .instanceMethod yX1_heardOutOf, .selects RX1 yX1_heardOutOf yX1_heardOutOf, .initialized RX1, .code yX1_heardOutOf cX1_heardOutOf 8 (some .int), .static yX5_holds, .initialized RX5, .code yX5_holds cX5_holds 2 (some .boolean), .methodLink RX1 31 yX1_isBack, .instanceMethod yX1_isBack, .selects RX1 yX1_isBack yX1_isBack, .code yX1_isBack cX1_isBack 3 (some .boolean), .fieldLink RX1 9 "PeggedBells$Hammers" "rests" "[I"] ++ wsX00 ++ wsX10)
def wsX1_swing : List Cond := .code yX1_swing cX1_swing 3 none :: ([.fieldLink RX1 9 "PeggedBells$Hammers" "rests" "[I", .methodLink RX1 34 Lib.Math.min.name, .static Lib.Math.min.name, .initialized "java/lang/Math", .code Lib.Math.min.name Lib.Math.min.code 2 (some .int), .static yX5_holds, .initialized RX5, .code yX5_holds cX5_holds 2 (some .boolean)] ++ wsX10)
def wsJ6_bitCount_0f7a4 : List Cond := .code yJ6_bitCount_0f7a4 cJ6_bitCount_0f7a4 1 (some .int) :: ([.constant RJ6 265 (1431655765), .constant RJ6 266 (858993459), .constant RJ6 267 (252645135)])
def wsX0_countHeard : List Cond := .code yX0_countHeard cX0_countHeard 3 none :: ([.fieldLink RX0 41 "PeggedBells$Drum" "heardSoFar" "I", .fieldLink RX0 21 "PeggedBells$Drum" "timesHeard" "[I", .methodLink RX0 77 yJ6_bitCount_0f7a4, .static yJ6_bitCount_0f7a4, .initialized RJ6, .code yJ6_bitCount_0f7a4 cJ6_bitCount_0f7a4 1 (some .int), .constant RJ6 265 (1431655765), .constant RJ6 266 (858993459), .constant RJ6 267 (252645135), .static yX5_holds, .initialized RX5, .code yX5_holds cX5_holds 2 (some .boolean)] ++ wsX00)
def wsX0_strikeAtHand_r1 : List Cond := [Cond.fieldLink RX0 27 "PeggedBells$Drum" "hammers" "LPeggedBells$Hammers;", Cond.fieldLink RX0 44 "PeggedBells$Drum" "missedSoFar" "I", Cond.fieldLink RX0 9 "PeggedBells$Drum" "pegs" "[I", Cond.fieldLink RX0 35 "PeggedBells$Drum" "atHand" "I", Cond.fieldLink RX0 38 "PeggedBells$Drum" "ticks" "I", Cond.fieldLink RX0 15 "PeggedBells$Drum" "tempos" "[I", Cond.methodLink RX0 66 yX0_heardAtHand, Cond.instanceMethod yX0_heardAtHand, Cond.selects RX0 yX0_heardAtHand yX0_heardAtHand, Cond.initialized RX0, Cond.code yX0_heardAtHand cX0_heardAtHand 1 (some .int), Cond.fieldLink RX0 18 "PeggedBells$Drum" "weights" "[I", Cond.fieldLink RX0 31 "PeggedBells$Drum" "bound" "I", Cond.methodLink RX0 83 yX1_heardOutOf, Cond.instanceMethod yX1_heardOutOf, Cond.selects RX1 yX1_heardOutOf yX1_heardOutOf, Cond.initialized RX1, Cond.code yX1_heardOutOf cX1_heardOutOf 8 (some .int), Cond.static yX5_holds, Cond.initialized RX5, Cond.code yX5_holds cX5_holds 2 (some .boolean), Cond.methodLink RX1 31 yX1_isBack, Cond.instanceMethod yX1_isBack, Cond.selects RX1 yX1_isBack yX1_isBack]
def wsX0_strikeAtHand_r2 : List Cond := [Cond.code yX1_isBack cX1_isBack 3 (some .boolean), Cond.fieldLink RX1 9 "PeggedBells$Hammers" "rests" "[I", Cond.methodLink RX0 70 yX1_swing, Cond.instanceMethod yX1_swing, Cond.selects RX1 yX1_swing yX1_swing, Cond.code yX1_swing cX1_swing 3 none, Cond.methodLink RX1 34 Lib.Math.min.name, Cond.static Lib.Math.min.name, Cond.initialized "java/lang/Math", Cond.code Lib.Math.min.name Lib.Math.min.code 2 (some .int), Cond.methodLink RX0 74 yX0_countHeard, Cond.instanceMethod yX0_countHeard, Cond.selects RX0 yX0_countHeard yX0_countHeard, Cond.code yX0_countHeard cX0_countHeard 3 none, Cond.fieldLink RX0 41 "PeggedBells$Drum" "heardSoFar" "I", Cond.fieldLink RX0 21 "PeggedBells$Drum" "timesHeard" "[I", Cond.methodLink RX0 77 yJ6_bitCount_0f7a4, Cond.static yJ6_bitCount_0f7a4, Cond.initialized RJ6, Cond.code yJ6_bitCount_0f7a4 cJ6_bitCount_0f7a4 1 (some .int), Cond.constant RJ6 265 (1431655765), Cond.constant RJ6 266 (858993459), Cond.constant RJ6 267 (252645135)]
def wsX0_strikeAtHand : List Cond := .code yX0_strikeAtHand cX0_strikeAtHand 2 none :: ((wsX0_strikeAtHand_r1 ++ wsX0_strikeAtHand_r2) ++ wsX00 ++ wsX10)
def wsX0_strikeColumns_r1 : List Cond := [Cond.fieldLink RX0 41 "PeggedBells$Drum" "heardSoFar" "I", Cond.methodLink RX0 63 yX0_strikeAtHand, Cond.instanceMethod yX0_strikeAtHand, Cond.selects RX0 yX0_strikeAtHand yX0_strikeAtHand, Cond.initialized RX0, Cond.code yX0_strikeAtHand cX0_strikeAtHand 2 none, Cond.fieldLink RX0 27 "PeggedBells$Drum" "hammers" "LPeggedBells$Hammers;", Cond.fieldLink RX0 44 "PeggedBells$Drum" "missedSoFar" "I", Cond.fieldLink RX0 9 "PeggedBells$Drum" "pegs" "[I", Cond.fieldLink RX0 35 "PeggedBells$Drum" "atHand" "I", Cond.fieldLink RX0 38 "PeggedBells$Drum" "ticks" "I", Cond.fieldLink RX0 15 "PeggedBells$Drum" "tempos" "[I", Cond.methodLink RX0 66 yX0_heardAtHand, Cond.instanceMethod yX0_heardAtHand, Cond.selects RX0 yX0_heardAtHand yX0_heardAtHand, Cond.code yX0_heardAtHand cX0_heardAtHand 1 (some .int), Cond.fieldLink RX0 18 "PeggedBells$Drum" "weights" "[I", Cond.fieldLink RX0 31 "PeggedBells$Drum" "bound" "I", Cond.methodLink RX0 83 yX1_heardOutOf, Cond.instanceMethod yX1_heardOutOf, Cond.selects RX1 yX1_heardOutOf yX1_heardOutOf, Cond.initialized RX1, Cond.code yX1_heardOutOf cX1_heardOutOf 8 (some .int), Cond.static yX5_holds]
def wsX0_strikeColumns_r2 : List Cond := [Cond.initialized RX5, Cond.code yX5_holds cX5_holds 2 (some .boolean), Cond.methodLink RX1 31 yX1_isBack, Cond.instanceMethod yX1_isBack, Cond.selects RX1 yX1_isBack yX1_isBack, Cond.code yX1_isBack cX1_isBack 3 (some .boolean), Cond.fieldLink RX1 9 "PeggedBells$Hammers" "rests" "[I", Cond.methodLink RX0 70 yX1_swing, Cond.instanceMethod yX1_swing, Cond.selects RX1 yX1_swing yX1_swing, Cond.code yX1_swing cX1_swing 3 none, Cond.methodLink RX1 34 Lib.Math.min.name, Cond.static Lib.Math.min.name, Cond.initialized "java/lang/Math", Cond.code Lib.Math.min.name Lib.Math.min.code 2 (some .int), Cond.methodLink RX0 74 yX0_countHeard, Cond.instanceMethod yX0_countHeard, Cond.selects RX0 yX0_countHeard yX0_countHeard, Cond.code yX0_countHeard cX0_countHeard 3 none, Cond.fieldLink RX0 21 "PeggedBells$Drum" "timesHeard" "[I", Cond.methodLink RX0 77 yJ6_bitCount_0f7a4, Cond.static yJ6_bitCount_0f7a4, Cond.initialized RJ6, Cond.code yJ6_bitCount_0f7a4 cJ6_bitCount_0f7a4 1 (some .int)]
def wsX0_strikeColumns_r3 : List Cond := [Cond.constant RJ6 265 (1431655765), Cond.constant RJ6 266 (858993459), Cond.constant RJ6 267 (252645135)]
def wsX0_strikeColumns : List Cond := .code yX0_strikeColumns cX0_strikeColumns 4 (some .int) :: ((wsX0_strikeColumns_r1 ++ (wsX0_strikeColumns_r2 ++ wsX0_strikeColumns_r3)) ++ wsX00 ++ wsX10)
def wsX0_countPegs : List Cond := .code yX0_countPegs cX0_countPegs 3 (some .int) :: ([.fieldLink RX0 9 "PeggedBells$Drum" "pegs" "[I", .methodLink RX0 77 yJ6_bitCount_0f7a4, .static yJ6_bitCount_0f7a4, .initialized RJ6, .code yJ6_bitCount_0f7a4 cJ6_bitCount_0f7a4 1 (some .int), .constant RJ6 265 (1431655765), .constant RJ6 266 (858993459), .constant RJ6 267 (252645135)] ++ wsX00)
def wsX0_pegsOtherThan : List Cond := .code yX0_pegsOtherThan cX0_pegsOtherThan 4 (some .int) :: ([.fieldLink RX0 9 "PeggedBells$Drum" "pegs" "[I", .methodLink RX0 77 yJ6_bitCount_0f7a4, .static yJ6_bitCount_0f7a4, .initialized RJ6, .code yJ6_bitCount_0f7a4 cJ6_bitCount_0f7a4 1 (some .int), .constant RJ6 265 (1431655765), .constant RJ6 266 (858993459), .constant RJ6 267 (252645135)] ++ wsX00)
def wsX0_sumOfTimesHeard : List Cond := .code yX0_sumOfTimesHeard cX0_sumOfTimesHeard 3 (some .int) :: ([.fieldLink RX0 21 "PeggedBells$Drum" "timesHeard" "[I"] ++ wsX00)
def wsX0_ticksByColumns : List Cond := .code yX0_ticksByColumns cX0_ticksByColumns 3 (some .int) :: ([.fieldLink RX0 15 "PeggedBells$Drum" "tempos" "[I"] ++ wsX00)
def wsX0_ticksByBars : List Cond := .code yX0_ticksByBars cX0_ticksByBars 3 (some .int) :: ([.fieldLink RX0 15 "PeggedBells$Drum" "tempos" "[I"] ++ wsX00)
def wsX0_weightOfAll : List Cond := .code yX0_weightOfAll cX0_weightOfAll 4 (some .int) :: ([.fieldLink RX0 18 "PeggedBells$Drum" "weights" "[I", .static yX5_holds, .initialized RX5, .code yX5_holds cX5_holds 2 (some .boolean)] ++ wsX00)
def wsX1_allBack : List Cond := .code yX1_allBack cX1_allBack 1 none :: ([.fieldLink RX1 9 "PeggedBells$Hammers" "rests" "[I", .methodLink RX1 15 yJ7_fill_53178, .static yJ7_fill_53178, .initialized RJ7, .code yJ7_fill_53178 cJ7_fill_53178 4 none] ++ wsX10)
def wsX2_init_r1 : List Cond := [Cond.methodLink RX2 3 objectInit, Cond.instanceMethod objectInit, Cond.code objectInit ⟨#[0xb1]⟩ 1 none, Cond.classLink RX2 9 RX0, Cond.fieldLink RX2 11 "PeggedBells$History" "states" "[LPeggedBells$Drum;", Cond.fieldLink RX2 17 "PeggedBells$History" "count" "I", Cond.instantiable RX0 10, Cond.initialized RX0, Cond.methodLink RX2 21 yX0_init, Cond.instanceMethod yX0_init, Cond.code yX0_init cX0_init 2 none, Cond.methodLink RX0 3 objectInit, Cond.arrayClass .int, Cond.fieldLink RX0 9 "PeggedBells$Drum" "pegs" "[I", Cond.fieldLink RX0 15 "PeggedBells$Drum" "tempos" "[I", Cond.fieldLink RX0 18 "PeggedBells$Drum" "weights" "[I", Cond.fieldLink RX0 21 "PeggedBells$Drum" "timesHeard" "[I", Cond.classLink RX0 24 RX1, Cond.instantiable RX1 1, Cond.initialized RX1, Cond.fieldLink RX0 27 "PeggedBells$Drum" "hammers" "LPeggedBells$Hammers;", Cond.fieldLink RX0 31 "PeggedBells$Drum" "bound" "I", Cond.fieldLink RX0 35 "PeggedBells$Drum" "atHand" "I", Cond.fieldLink RX0 38 "PeggedBells$Drum" "ticks" "I"]
def wsX2_init_r2 : List Cond := [Cond.fieldLink RX0 41 "PeggedBells$Drum" "heardSoFar" "I", Cond.fieldLink RX0 44 "PeggedBells$Drum" "missedSoFar" "I", Cond.methodLink RX0 26 yX1_init, Cond.instanceMethod yX1_init, Cond.code yX1_init cX1_init 1 none, Cond.methodLink RX1 3 objectInit, Cond.fieldLink RX1 9 "PeggedBells$Hammers" "rests" "[I", Cond.methodLink RX1 15 yJ7_fill_53178, Cond.static yJ7_fill_53178, Cond.initialized RJ7, Cond.code yJ7_fill_53178 cJ7_fill_53178 4 none, Cond.methodLink RX0 47 yJ7_fill_53178]
def wsX2_init : List Cond := .code yX2_init cX2_init 2 none :: ((wsX2_init_r1 ++ wsX2_init_r2) ++ wsX20 ++ wsX00 ++ wsX10)
def wsX2_dropOldest : List Cond := .code yX2_dropOldest cX2_dropOldest 3 none :: ([.fieldLink RX2 11 "PeggedBells$History" "states" "[LPeggedBells$Drum;", .fieldLink RX2 17 "PeggedBells$History" "count" "I"] ++ wsX20)
def wsX2_add_r1 : List Cond := [Cond.fieldLink RX2 17 "PeggedBells$History" "count" "I", Cond.fieldLink RX2 11 "PeggedBells$History" "states" "[LPeggedBells$Drum;", Cond.methodLink RX2 22 yX2_dropOldest, Cond.instanceMethod yX2_dropOldest, Cond.selects RX2 yX2_dropOldest yX2_dropOldest, Cond.initialized RX2, Cond.code yX2_dropOldest cX2_dropOldest 3 none, Cond.methodLink RX2 25 yX0_copyFrom, Cond.instanceMethod yX0_copyFrom, Cond.selects RX0 yX0_copyFrom yX0_copyFrom, Cond.initialized RX0, Cond.code yX0_copyFrom cX0_copyFrom 2 none, Cond.fieldLink RX0 9 "PeggedBells$Drum" "pegs" "[I", Cond.methodLink RX0 53 arraycopyName, Cond.native arraycopyName, Cond.static arraycopyName, Cond.initialized "java/lang/System", Cond.fieldLink RX0 15 "PeggedBells$Drum" "tempos" "[I", Cond.fieldLink RX0 18 "PeggedBells$Drum" "weights" "[I", Cond.fieldLink RX0 21 "PeggedBells$Drum" "timesHeard" "[I", Cond.fieldLink RX0 27 "PeggedBells$Drum" "hammers" "LPeggedBells$Hammers;", Cond.fieldLink RX0 31 "PeggedBells$Drum" "bound" "I", Cond.fieldLink RX0 35 "PeggedBells$Drum" "atHand" "I", Cond.fieldLink RX0 38 "PeggedBells$Drum" "ticks" "I"]
def wsX2_add_r2 : List Cond := [Cond.fieldLink RX0 41 "PeggedBells$Drum" "heardSoFar" "I", Cond.fieldLink RX0 44 "PeggedBells$Drum" "missedSoFar" "I", Cond.methodLink RX0 59 yX1_copyFrom, Cond.instanceMethod yX1_copyFrom, Cond.selects RX1 yX1_copyFrom yX1_copyFrom, Cond.initialized RX1, Cond.code yX1_copyFrom cX1_copyFrom 2 none, Cond.fieldLink RX1 9 "PeggedBells$Hammers" "rests" "[I", Cond.methodLink RX1 21 arraycopyName]
def wsX2_add : List Cond := .code yX2_add cX2_add 3 (some (.object "PeggedBells$Drum")) :: ((wsX2_add_r1 ++ wsX2_add_r2) ++ wsX20 ++ wsX00 ++ wsX10)
def wsX2_takeLatest : List Cond := .code yX2_takeLatest cX2_takeLatest 1 (some (.object "PeggedBells$Drum")) :: ([.classLink RX2 29 "java/lang/IllegalStateException", .initialized "java/lang/IllegalStateException", .fieldLink RX2 17 "PeggedBells$History" "count" "I", .fieldLink RX2 11 "PeggedBells$History" "states" "[LPeggedBells$Drum;"] ++ wsX20 ++ (vx_atS RX2 33 "java/lang/IllegalStateException" ["java/lang/RuntimeException", "java/lang/Exception"]).filter goodWord)
def wsX3_init : List Cond := .code yX3_init cX3_init 1 none :: ([.methodLink RX3 3 objectInit, .instanceMethod objectInit, .code objectInit ⟨#[0xb1]⟩ 1 none, .arrayClass .char, .fieldLink RX3 11 "PeggedBells$Pad" "characters" "[C", .fieldLink RX3 15 "PeggedBells$Pad" "length" "I"] ++ wsX30)
def wsX3_charactersIn : List Cond := .code yX3_charactersIn cX3_charactersIn 7 (some .int) :: ([.constantLong RX3 19 (255), .constantLong RX3 21 (33), .constantLong RX3 23 (126)])
def wsX3_clear : List Cond := .code yX3_clear cX3_clear 1 none :: ([.fieldLink RX3 15 "PeggedBells$Pad" "length" "I"] ++ wsX30)
def wsX3_hasRoomFor : List Cond := .code yX3_hasRoomFor cX3_hasRoomFor 2 (some .boolean) :: ([.fieldLink RX3 15 "PeggedBells$Pad" "length" "I"] ++ wsX30)
def wsX3_append : List Cond := .code yX3_append cX3_append 5 none :: ([.fieldLink RX3 15 "PeggedBells$Pad" "length" "I", .fieldLink RX3 11 "PeggedBells$Pad" "characters" "[C", .constantLong RX3 19 (255)] ++ wsX30)
def wsX3_isIn : List Cond := .code yX3_isIn cX3_isIn 3 (some .boolean) :: ([])
def wsX3_placeAfterFirst : List Cond := .code yX3_placeAfterFirst cX3_placeAfterFirst 1 (some .int) :: ([.methodLink RX3 33 yX3_isIn, .static yX3_isIn, .initialized RX3, .code yX3_isIn cX3_isIn 3 (some .boolean)])
def wsX3_placeAfterColumn : List Cond := .code yX3_placeAfterColumn cX3_placeAfterColumn 1 (some .int) :: ([])
def wsX3_placeAfterPart : List Cond := .code yX3_placeAfterPart cX3_placeAfterPart 1 (some .int) :: ([])
def wsX3_placeAfter : List Cond := .code yX3_placeAfter cX3_placeAfter 2 (some .int) :: ([.methodLink RX3 29 yX3_placeAfterFirst, .static yX3_placeAfterFirst, .initialized RX3, .code yX3_placeAfterFirst cX3_placeAfterFirst 1 (some .int), .methodLink RX3 33 yX3_isIn, .static yX3_isIn, .code yX3_isIn cX3_isIn 3 (some .boolean), .methodLink RX3 37 yX3_placeAfterColumn, .static yX3_placeAfterColumn, .code yX3_placeAfterColumn cX3_placeAfterColumn 1 (some .int), .methodLink RX3 40 yX3_placeAfterPart, .static yX3_placeAfterPart, .code yX3_placeAfterPart cX3_placeAfterPart 1 (some .int)])
def wsX3_firstFault : List Cond := .code yX3_firstFault cX3_firstFault 3 (some .int) :: ([.fieldLink RX3 15 "PeggedBells$Pad" "length" "I", .fieldLink RX3 11 "PeggedBells$Pad" "characters" "[C", .methodLink RX3 25 yX3_placeAfter, .static yX3_placeAfter, .initialized RX3, .code yX3_placeAfter cX3_placeAfter 2 (some .int), .methodLink RX3 29 yX3_placeAfterFirst, .static yX3_placeAfterFirst, .code yX3_placeAfterFirst cX3_placeAfterFirst 1 (some .int), .methodLink RX3 33 yX3_isIn, .static yX3_isIn, .code yX3_isIn cX3_isIn 3 (some .boolean), .methodLink RX3 37 yX3_placeAfterColumn, .static yX3_placeAfterColumn, .code yX3_placeAfterColumn cX3_placeAfterColumn 1 (some .int), .methodLink RX3 40 yX3_placeAfterPart, .static yX3_placeAfterPart, .code yX3_placeAfterPart cX3_placeAfterPart 1 (some .int)] ++ wsX30)
def wsX3_at : List Cond := .code yX3_at cX3_at 2 (some .char) :: ([.fieldLink RX3 15 "PeggedBells$Pad" "length" "I", .fieldLink RX3 11 "PeggedBells$Pad" "characters" "[C"] ++ wsX30)
def wsX3_colonFrom : List Cond := .code yX3_colonFrom cX3_colonFrom 3 (some .int) :: ([.fieldLink RX3 15 "PeggedBells$Pad" "length" "I", .methodLink RX3 43 yX3_at, .instanceMethod yX3_at, .selects RX3 yX3_at yX3_at, .initialized RX3, .code yX3_at cX3_at 2 (some .char), .fieldLink RX3 11 "PeggedBells$Pad" "characters" "[C"] ++ wsX30)
def wsX3_digitAt : List Cond := .code yX3_digitAt cX3_digitAt 2 (some .int) :: ([.methodLink RX3 43 yX3_at, .instanceMethod yX3_at, .selects RX3 yX3_at yX3_at, .initialized RX3, .code yX3_at cX3_at 2 (some .char), .fieldLink RX3 15 "PeggedBells$Pad" "length" "I", .fieldLink RX3 11 "PeggedBells$Pad" "characters" "[C"] ++ wsX30)
def wsX3_numberIn : List Cond := .code yX3_numberIn cX3_numberIn 5 (some .int) :: ([.methodLink RX3 47 yX3_digitAt, .instanceMethod yX3_digitAt, .selects RX3 yX3_digitAt yX3_digitAt, .initialized RX3, .code yX3_digitAt cX3_digitAt 2 (some .int), .methodLink RX3 43 yX3_at, .instanceMethod yX3_at, .selects RX3 yX3_at yX3_at, .code yX3_at cX3_at 2 (some .char), .fieldLink RX3 15 "PeggedBells$Pad" "length" "I", .fieldLink RX3 11 "PeggedBells$Pad" "characters" "[C"] ++ wsX30)
def wsX4_init : List Cond := .code yX4_init cX4_init 1 none :: ([.methodLink RX4 3 objectInit, .instanceMethod objectInit, .code objectInit ⟨#[0xb1]⟩ 1 none, .arrayClass .int, .fieldLink RX4 9 "PeggedBells$Round" "heardIn" "[I", .classLink RX4 15 RX1, .instantiable RX1 1, .initialized RX1, .fieldLink RX4 18 "PeggedBells$Round" "hammers" "LPeggedBells$Hammers;", .methodLink RX4 17 yX1_init, .instanceMethod yX1_init, .code yX1_init cX1_init 1 none, .methodLink RX1 3 objectInit, .fieldLink RX1 9 "PeggedBells$Hammers" "rests" "[I", .methodLink RX1 15 yJ7_fill_53178, .static yJ7_fill_53178, .initialized RJ7, .code yJ7_fill_53178 cJ7_fill_53178 4 none] ++ wsX40 ++ wsX10)
def wsX4_play_r1 : List Cond := [Cond.fieldLink RX4 18 "PeggedBells$Round" "hammers" "LPeggedBells$Hammers;", Cond.fieldLink RX4 25 "PeggedBells$Drum" "pegs" "[I", Cond.fieldLink RX4 30 "PeggedBells$Drum" "weights" "[I", Cond.fieldLink RX4 9 "PeggedBells$Round" "heardIn" "[I", Cond.methodLink RX4 22 yX1_allBack, Cond.instanceMethod yX1_allBack, Cond.selects RX1 yX1_allBack yX1_allBack, Cond.initialized RX1, Cond.code yX1_allBack cX1_allBack 1 none, Cond.fieldLink RX1 9 "PeggedBells$Hammers" "rests" "[I", Cond.methodLink RX1 15 yJ7_fill_53178, Cond.static yJ7_fill_53178, Cond.initialized RJ7, Cond.code yJ7_fill_53178 cJ7_fill_53178 4 none, Cond.methodLink RX4 33 yX1_heardOutOf, Cond.instanceMethod yX1_heardOutOf, Cond.selects RX1 yX1_heardOutOf yX1_heardOutOf, Cond.code yX1_heardOutOf cX1_heardOutOf 8 (some .int), Cond.static yX5_holds, Cond.initialized RX5, Cond.code yX5_holds cX5_holds 2 (some .boolean), Cond.methodLink RX1 31 yX1_isBack, Cond.instanceMethod yX1_isBack, Cond.selects RX1 yX1_isBack yX1_isBack]
def wsX4_play_r2 : List Cond := [Cond.code yX1_isBack cX1_isBack 3 (some .boolean), Cond.methodLink RX4 37 yX1_swing, Cond.instanceMethod yX1_swing, Cond.selects RX1 yX1_swing yX1_swing, Cond.code yX1_swing cX1_swing 3 none, Cond.methodLink RX1 34 Lib.Math.min.name, Cond.static Lib.Math.min.name, Cond.initialized "java/lang/Math", Cond.code Lib.Math.min.name Lib.Math.min.code 2 (some .int), Cond.methodLink RX4 41 yJ6_bitCount_0f7a4, Cond.static yJ6_bitCount_0f7a4, Cond.initialized RJ6, Cond.code yJ6_bitCount_0f7a4 cJ6_bitCount_0f7a4 1 (some .int), Cond.constant RJ6 265 (1431655765), Cond.constant RJ6 266 (858993459), Cond.constant RJ6 267 (252645135)]
def wsX4_play : List Cond := .code yX4_play cX4_play 6 (some .int) :: ((wsX4_play_r1 ++ wsX4_play_r2) ++ wsX40 ++ wsX00 ++ wsX10)
def wsX4_sumOfColumns : List Cond := .code yX4_sumOfColumns cX4_sumOfColumns 3 (some .int) :: ([.fieldLink RX4 9 "PeggedBells$Round" "heardIn" "[I", .methodLink RX4 41 yJ6_bitCount_0f7a4, .static yJ6_bitCount_0f7a4, .initialized RJ6, .code yJ6_bitCount_0f7a4 cJ6_bitCount_0f7a4 1 (some .int), .constant RJ6 265 (1431655765), .constant RJ6 266 (858993459), .constant RJ6 267 (252645135)] ++ wsX40)
def wsX4_timesHeard : List Cond := .code yX4_timesHeard cX4_timesHeard 4 (some .int) :: ([.fieldLink RX4 9 "PeggedBells$Round" "heardIn" "[I", .static yX5_holds, .initialized RX5, .code yX5_holds cX5_holds 2 (some .boolean)] ++ wsX40)
def wsX5_init_r1 : List Cond := [Cond.methodLink RX5 1 objectInit, Cond.instanceMethod objectInit, Cond.code objectInit ⟨#[0xb1]⟩ 1 none, Cond.classLink RX5 7 RX0, Cond.instantiable RX0 10, Cond.initialized RX0, Cond.fieldLink RX5 10 "PeggedBells" "drum" "LPeggedBells$Drum;", Cond.classLink RX5 16 RX4, Cond.instantiable RX4 2, Cond.initialized RX4, Cond.fieldLink RX5 19 "PeggedBells" "round" "LPeggedBells$Round;", Cond.classLink RX5 23 RX3, Cond.instantiable RX3 2, Cond.initialized RX3, Cond.fieldLink RX5 26 "PeggedBells" "pad" "LPeggedBells$Pad;", Cond.classLink RX5 30 RX2, Cond.instantiable RX2 2, Cond.initialized RX2, Cond.fieldLink RX5 33 "PeggedBells" "history" "LPeggedBells$History;", Cond.fieldLink RX5 37 "PeggedBells" "slots" "[LPeggedBells$Drum;", Cond.methodLink RX5 9 yX0_init, Cond.instanceMethod yX0_init, Cond.code yX0_init cX0_init 2 none, Cond.methodLink RX0 3 objectInit]
def wsX5_init_r2 : List Cond := [Cond.arrayClass .int, Cond.fieldLink RX0 9 "PeggedBells$Drum" "pegs" "[I", Cond.fieldLink RX0 15 "PeggedBells$Drum" "tempos" "[I", Cond.fieldLink RX0 18 "PeggedBells$Drum" "weights" "[I", Cond.fieldLink RX0 21 "PeggedBells$Drum" "timesHeard" "[I", Cond.classLink RX0 24 RX1, Cond.instantiable RX1 1, Cond.initialized RX1, Cond.fieldLink RX0 27 "PeggedBells$Drum" "hammers" "LPeggedBells$Hammers;", Cond.fieldLink RX0 31 "PeggedBells$Drum" "bound" "I", Cond.fieldLink RX0 35 "PeggedBells$Drum" "atHand" "I", Cond.fieldLink RX0 38 "PeggedBells$Drum" "ticks" "I", Cond.fieldLink RX0 41 "PeggedBells$Drum" "heardSoFar" "I", Cond.fieldLink RX0 44 "PeggedBells$Drum" "missedSoFar" "I", Cond.methodLink RX0 26 yX1_init, Cond.instanceMethod yX1_init, Cond.code yX1_init cX1_init 1 none, Cond.methodLink RX1 3 objectInit, Cond.fieldLink RX1 9 "PeggedBells$Hammers" "rests" "[I", Cond.methodLink RX1 15 yJ7_fill_53178, Cond.static yJ7_fill_53178, Cond.initialized RJ7, Cond.code yJ7_fill_53178 cJ7_fill_53178 4 none, Cond.methodLink RX0 47 yJ7_fill_53178]
def wsX5_init_r3 : List Cond := [Cond.instanceMethod yX4_init, Cond.code yX4_init cX4_init 1 none, Cond.methodLink RX4 3 objectInit, Cond.fieldLink RX4 9 "PeggedBells$Round" "heardIn" "[I", Cond.classLink RX4 15 RX1, Cond.fieldLink RX4 18 "PeggedBells$Round" "hammers" "LPeggedBells$Hammers;", Cond.methodLink RX4 17 yX1_init, Cond.instanceMethod yX3_init, Cond.code yX3_init cX3_init 1 none, Cond.methodLink RX3 3 objectInit, Cond.arrayClass .char, Cond.fieldLink RX3 11 "PeggedBells$Pad" "characters" "[C", Cond.fieldLink RX3 15 "PeggedBells$Pad" "length" "I", Cond.methodLink RX5 32 yX2_init, Cond.instanceMethod yX2_init, Cond.code yX2_init cX2_init 2 none, Cond.methodLink RX2 3 objectInit, Cond.classLink RX2 9 RX0, Cond.fieldLink RX2 11 "PeggedBells$History" "states" "[LPeggedBells$Drum;", Cond.fieldLink RX2 17 "PeggedBells$History" "count" "I", Cond.methodLink RX2 21 yX0_init]
def wsX5_init : List Cond := .code yX5_init cX5_init 1 none :: ((wsX5_init_r1 ++ (wsX5_init_r2 ++ wsX5_init_r3)) ++ wsX00 ++ wsX50 ++ wsX40 ++ wsX30 ++ wsX20 ++ wsX10)
def wsX5_isColumn : List Cond := .code yX5_isColumn cX5_isColumn 1 (some .boolean) :: ([])
def wsX5_isBell : List Cond := .code yX5_isBell cX5_isBell 1 (some .boolean) :: ([])
def wsX5_turnPeg_r1 : List Cond := [Cond.classLink RX5 48 "java/lang/IndexOutOfBoundsException", Cond.initialized "java/lang/IndexOutOfBoundsException", Cond.fieldLink RX5 33 "PeggedBells" "history" "LPeggedBells$History;", Cond.fieldLink RX5 10 "PeggedBells" "drum" "LPeggedBells$Drum;", Cond.fieldLink RX5 59 "PeggedBells$Drum" "pegs" "[I", Cond.methodLink RX5 41 yX5_isColumn, Cond.static yX5_isColumn, Cond.initialized RX5, Cond.code yX5_isColumn cX5_isColumn 1 (some .boolean), Cond.methodLink RX5 45 yX5_isBell, Cond.static yX5_isBell, Cond.code yX5_isBell cX5_isBell 1 (some .boolean), Cond.methodLink RX5 55 yX2_add, Cond.instanceMethod yX2_add, Cond.selects RX2 yX2_add yX2_add, Cond.initialized RX2, Cond.code yX2_add cX2_add 3 (some (.object "PeggedBells$Drum")), Cond.fieldLink RX2 17 "PeggedBells$History" "count" "I", Cond.fieldLink RX2 11 "PeggedBells$History" "states" "[LPeggedBells$Drum;", Cond.methodLink RX2 22 yX2_dropOldest, Cond.instanceMethod yX2_dropOldest, Cond.selects RX2 yX2_dropOldest yX2_dropOldest, Cond.code yX2_dropOldest cX2_dropOldest 3 none, Cond.methodLink RX2 25 yX0_copyFrom]
def wsX5_turnPeg_r2 : List Cond := [Cond.instanceMethod yX0_copyFrom, Cond.selects RX0 yX0_copyFrom yX0_copyFrom, Cond.initialized RX0, Cond.code yX0_copyFrom cX0_copyFrom 2 none, Cond.fieldLink RX0 9 "PeggedBells$Drum" "pegs" "[I", Cond.methodLink RX0 53 arraycopyName, Cond.native arraycopyName, Cond.static arraycopyName, Cond.initialized "java/lang/System", Cond.fieldLink RX0 15 "PeggedBells$Drum" "tempos" "[I", Cond.fieldLink RX0 18 "PeggedBells$Drum" "weights" "[I", Cond.fieldLink RX0 21 "PeggedBells$Drum" "timesHeard" "[I", Cond.fieldLink RX0 27 "PeggedBells$Drum" "hammers" "LPeggedBells$Hammers;", Cond.fieldLink RX0 31 "PeggedBells$Drum" "bound" "I", Cond.fieldLink RX0 35 "PeggedBells$Drum" "atHand" "I", Cond.fieldLink RX0 38 "PeggedBells$Drum" "ticks" "I", Cond.fieldLink RX0 41 "PeggedBells$Drum" "heardSoFar" "I", Cond.fieldLink RX0 44 "PeggedBells$Drum" "missedSoFar" "I", Cond.methodLink RX0 59 yX1_copyFrom, Cond.instanceMethod yX1_copyFrom, Cond.selects RX1 yX1_copyFrom yX1_copyFrom, Cond.initialized RX1, Cond.code yX1_copyFrom cX1_copyFrom 2 none, Cond.fieldLink RX1 9 "PeggedBells$Hammers" "rests" "[I"]
def wsX5_turnPeg_r3 : List Cond := [Cond.methodLink RX1 21 arraycopyName, Cond.methodLink RX5 63 yX5_holds, Cond.static yX5_holds, Cond.code yX5_holds cX5_holds 2 (some .boolean)]
def wsX5_turnPeg : List Cond := .code yX5_turnPeg cX5_turnPeg 3 (some .boolean) :: ((wsX5_turnPeg_r1 ++ (wsX5_turnPeg_r2 ++ wsX5_turnPeg_r3)) ++ wsX50 ++ wsX00 ++ wsX20 ++ wsX10 ++ (vx_atS RX5 52 "java/lang/IndexOutOfBoundsException" ["java/lang/RuntimeException", "java/lang/Exception"]).filter goodWord)
def wsX5_setColumn_r1 : List Cond := [Cond.classLink RX5 48 "java/lang/IndexOutOfBoundsException", Cond.initialized "java/lang/IndexOutOfBoundsException", Cond.classLink RX5 69 "java/lang/IllegalArgumentException", Cond.initialized "java/lang/IllegalArgumentException", Cond.fieldLink RX5 33 "PeggedBells" "history" "LPeggedBells$History;", Cond.fieldLink RX5 10 "PeggedBells" "drum" "LPeggedBells$Drum;", Cond.fieldLink RX5 59 "PeggedBells$Drum" "pegs" "[I", Cond.methodLink RX5 41 yX5_isColumn, Cond.static yX5_isColumn, Cond.initialized RX5, Cond.code yX5_isColumn cX5_isColumn 1 (some .boolean), Cond.methodLink RX5 55 yX2_add, Cond.instanceMethod yX2_add, Cond.selects RX2 yX2_add yX2_add, Cond.initialized RX2, Cond.code yX2_add cX2_add 3 (some (.object "PeggedBells$Drum")), Cond.fieldLink RX2 17 "PeggedBells$History" "count" "I", Cond.fieldLink RX2 11 "PeggedBells$History" "states" "[LPeggedBells$Drum;", Cond.methodLink RX2 22 yX2_dropOldest, Cond.instanceMethod yX2_dropOldest, Cond.selects RX2 yX2_dropOldest yX2_dropOldest, Cond.code yX2_dropOldest cX2_dropOldest 3 none, Cond.methodLink RX2 25 yX0_copyFrom, Cond.instanceMethod yX0_copyFrom]
def wsX5_setColumn_r2 : List Cond := [Cond.selects RX0 yX0_copyFrom yX0_copyFrom, Cond.initialized RX0, Cond.code yX0_copyFrom cX0_copyFrom 2 none, Cond.fieldLink RX0 9 "PeggedBells$Drum" "pegs" "[I", Cond.methodLink RX0 53 arraycopyName, Cond.native arraycopyName, Cond.static arraycopyName, Cond.initialized "java/lang/System", Cond.fieldLink RX0 15 "PeggedBells$Drum" "tempos" "[I", Cond.fieldLink RX0 18 "PeggedBells$Drum" "weights" "[I", Cond.fieldLink RX0 21 "PeggedBells$Drum" "timesHeard" "[I", Cond.fieldLink RX0 27 "PeggedBells$Drum" "hammers" "LPeggedBells$Hammers;", Cond.fieldLink RX0 31 "PeggedBells$Drum" "bound" "I", Cond.fieldLink RX0 35 "PeggedBells$Drum" "atHand" "I", Cond.fieldLink RX0 38 "PeggedBells$Drum" "ticks" "I", Cond.fieldLink RX0 41 "PeggedBells$Drum" "heardSoFar" "I", Cond.fieldLink RX0 44 "PeggedBells$Drum" "missedSoFar" "I", Cond.methodLink RX0 59 yX1_copyFrom, Cond.instanceMethod yX1_copyFrom, Cond.selects RX1 yX1_copyFrom yX1_copyFrom, Cond.initialized RX1, Cond.code yX1_copyFrom cX1_copyFrom 2 none, Cond.fieldLink RX1 9 "PeggedBells$Hammers" "rests" "[I", Cond.methodLink RX1 21 arraycopyName]
def wsX5_setColumn_r3 : List Cond := [Cond.methodLink RX5 74 yX0_pegsOtherThan, Cond.instanceMethod yX0_pegsOtherThan, Cond.selects RX0 yX0_pegsOtherThan yX0_pegsOtherThan, Cond.code yX0_pegsOtherThan cX0_pegsOtherThan 4 (some .int), Cond.methodLink RX0 77 yJ6_bitCount_0f7a4, Cond.static yJ6_bitCount_0f7a4, Cond.initialized RJ6, Cond.code yJ6_bitCount_0f7a4 cJ6_bitCount_0f7a4 1 (some .int), Cond.constant RJ6 265 (1431655765), Cond.constant RJ6 266 (858993459), Cond.constant RJ6 267 (252645135)]
def wsX5_setColumn : List Cond := .code yX5_setColumn cX5_setColumn 4 (some .int) :: ((wsX5_setColumn_r1 ++ (wsX5_setColumn_r2 ++ wsX5_setColumn_r3)) ++ wsX50 ++ wsX00 ++ wsX20 ++ wsX10 ++ (vx_atS RX5 52 "java/lang/IndexOutOfBoundsException" ["java/lang/RuntimeException", "java/lang/Exception"]).filter goodWord ++ (vx_atS RX5 73 "java/lang/IllegalArgumentException" ["java/lang/RuntimeException", "java/lang/Exception"]).filter goodWord)
def wsX5_isBar : List Cond := .code yX5_isBar cX5_isBar 1 (some .boolean) :: ([])
def wsX5_setTempo_r1 : List Cond := [Cond.classLink RX5 48 "java/lang/IndexOutOfBoundsException", Cond.initialized "java/lang/IndexOutOfBoundsException", Cond.classLink RX5 69 "java/lang/IllegalArgumentException", Cond.initialized "java/lang/IllegalArgumentException", Cond.fieldLink RX5 33 "PeggedBells" "history" "LPeggedBells$History;", Cond.fieldLink RX5 10 "PeggedBells" "drum" "LPeggedBells$Drum;", Cond.fieldLink RX5 85 "PeggedBells$Drum" "tempos" "[I", Cond.methodLink RX5 78 yX5_isBar, Cond.static yX5_isBar, Cond.initialized RX5, Cond.code yX5_isBar cX5_isBar 1 (some .boolean), Cond.methodLink RX5 55 yX2_add, Cond.instanceMethod yX2_add, Cond.selects RX2 yX2_add yX2_add, Cond.initialized RX2, Cond.code yX2_add cX2_add 3 (some (.object "PeggedBells$Drum")), Cond.fieldLink RX2 17 "PeggedBells$History" "count" "I", Cond.fieldLink RX2 11 "PeggedBells$History" "states" "[LPeggedBells$Drum;", Cond.methodLink RX2 22 yX2_dropOldest, Cond.instanceMethod yX2_dropOldest, Cond.selects RX2 yX2_dropOldest yX2_dropOldest, Cond.code yX2_dropOldest cX2_dropOldest 3 none, Cond.methodLink RX2 25 yX0_copyFrom, Cond.instanceMethod yX0_copyFrom]
def wsX5_setTempo_r2 : List Cond := [Cond.selects RX0 yX0_copyFrom yX0_copyFrom, Cond.initialized RX0, Cond.code yX0_copyFrom cX0_copyFrom 2 none, Cond.fieldLink RX0 9 "PeggedBells$Drum" "pegs" "[I", Cond.methodLink RX0 53 arraycopyName, Cond.native arraycopyName, Cond.static arraycopyName, Cond.initialized "java/lang/System", Cond.fieldLink RX0 15 "PeggedBells$Drum" "tempos" "[I", Cond.fieldLink RX0 18 "PeggedBells$Drum" "weights" "[I", Cond.fieldLink RX0 21 "PeggedBells$Drum" "timesHeard" "[I", Cond.fieldLink RX0 27 "PeggedBells$Drum" "hammers" "LPeggedBells$Hammers;", Cond.fieldLink RX0 31 "PeggedBells$Drum" "bound" "I", Cond.fieldLink RX0 35 "PeggedBells$Drum" "atHand" "I", Cond.fieldLink RX0 38 "PeggedBells$Drum" "ticks" "I", Cond.fieldLink RX0 41 "PeggedBells$Drum" "heardSoFar" "I", Cond.fieldLink RX0 44 "PeggedBells$Drum" "missedSoFar" "I", Cond.methodLink RX0 59 yX1_copyFrom, Cond.instanceMethod yX1_copyFrom, Cond.selects RX1 yX1_copyFrom yX1_copyFrom, Cond.initialized RX1, Cond.code yX1_copyFrom cX1_copyFrom 2 none, Cond.fieldLink RX1 9 "PeggedBells$Hammers" "rests" "[I", Cond.methodLink RX1 21 arraycopyName]
def wsX5_setTempo : List Cond := .code yX5_setTempo cX5_setTempo 4 (some .int) :: ((wsX5_setTempo_r1 ++ wsX5_setTempo_r2) ++ wsX50 ++ wsX00 ++ wsX20 ++ wsX10 ++ (vx_atS RX5 52 "java/lang/IndexOutOfBoundsException" ["java/lang/RuntimeException", "java/lang/Exception"]).filter goodWord ++ (vx_atS RX5 73 "java/lang/IllegalArgumentException" ["java/lang/RuntimeException", "java/lang/Exception"]).filter goodWord)
def wsX5_setWeight_r1 : List Cond := [Cond.classLink RX5 48 "java/lang/IndexOutOfBoundsException", Cond.initialized "java/lang/IndexOutOfBoundsException", Cond.classLink RX5 69 "java/lang/IllegalArgumentException", Cond.initialized "java/lang/IllegalArgumentException", Cond.fieldLink RX5 33 "PeggedBells" "history" "LPeggedBells$History;", Cond.fieldLink RX5 10 "PeggedBells" "drum" "LPeggedBells$Drum;", Cond.fieldLink RX5 92 "PeggedBells$Drum" "weights" "[I", Cond.methodLink RX5 45 yX5_isBell, Cond.static yX5_isBell, Cond.initialized RX5, Cond.code yX5_isBell cX5_isBell 1 (some .boolean), Cond.methodLink RX5 55 yX2_add, Cond.instanceMethod yX2_add, Cond.selects RX2 yX2_add yX2_add, Cond.initialized RX2, Cond.code yX2_add cX2_add 3 (some (.object "PeggedBells$Drum")), Cond.fieldLink RX2 17 "PeggedBells$History" "count" "I", Cond.fieldLink RX2 11 "PeggedBells$History" "states" "[LPeggedBells$Drum;", Cond.methodLink RX2 22 yX2_dropOldest, Cond.instanceMethod yX2_dropOldest, Cond.selects RX2 yX2_dropOldest yX2_dropOldest, Cond.code yX2_dropOldest cX2_dropOldest 3 none, Cond.methodLink RX2 25 yX0_copyFrom, Cond.instanceMethod yX0_copyFrom]
def wsX5_setWeight_r2 : List Cond := [Cond.selects RX0 yX0_copyFrom yX0_copyFrom, Cond.initialized RX0, Cond.code yX0_copyFrom cX0_copyFrom 2 none, Cond.fieldLink RX0 9 "PeggedBells$Drum" "pegs" "[I", Cond.methodLink RX0 53 arraycopyName, Cond.native arraycopyName, Cond.static arraycopyName, Cond.initialized "java/lang/System", Cond.fieldLink RX0 15 "PeggedBells$Drum" "tempos" "[I", Cond.fieldLink RX0 18 "PeggedBells$Drum" "weights" "[I", Cond.fieldLink RX0 21 "PeggedBells$Drum" "timesHeard" "[I", Cond.fieldLink RX0 27 "PeggedBells$Drum" "hammers" "LPeggedBells$Hammers;", Cond.fieldLink RX0 31 "PeggedBells$Drum" "bound" "I", Cond.fieldLink RX0 35 "PeggedBells$Drum" "atHand" "I", Cond.fieldLink RX0 38 "PeggedBells$Drum" "ticks" "I", Cond.fieldLink RX0 41 "PeggedBells$Drum" "heardSoFar" "I", Cond.fieldLink RX0 44 "PeggedBells$Drum" "missedSoFar" "I", Cond.methodLink RX0 59 yX1_copyFrom, Cond.instanceMethod yX1_copyFrom, Cond.selects RX1 yX1_copyFrom yX1_copyFrom, Cond.initialized RX1, Cond.code yX1_copyFrom cX1_copyFrom 2 none, Cond.fieldLink RX1 9 "PeggedBells$Hammers" "rests" "[I", Cond.methodLink RX1 21 arraycopyName]
def wsX5_setWeight : List Cond := .code yX5_setWeight cX5_setWeight 4 (some .int) :: ((wsX5_setWeight_r1 ++ wsX5_setWeight_r2) ++ wsX50 ++ wsX00 ++ wsX20 ++ wsX10 ++ (vx_atS RX5 52 "java/lang/IndexOutOfBoundsException" ["java/lang/RuntimeException", "java/lang/Exception"]).filter goodWord ++ (vx_atS RX5 73 "java/lang/IllegalArgumentException" ["java/lang/RuntimeException", "java/lang/Exception"]).filter goodWord)
def wsX5_setBound_r1 : List Cond := [Cond.classLink RX5 69 "java/lang/IllegalArgumentException", Cond.initialized "java/lang/IllegalArgumentException", Cond.fieldLink RX5 33 "PeggedBells" "history" "LPeggedBells$History;", Cond.fieldLink RX5 10 "PeggedBells" "drum" "LPeggedBells$Drum;", Cond.fieldLink RX5 97 "PeggedBells$Drum" "bound" "I", Cond.methodLink RX5 55 yX2_add, Cond.instanceMethod yX2_add, Cond.selects RX2 yX2_add yX2_add, Cond.initialized RX2, Cond.code yX2_add cX2_add 3 (some (.object "PeggedBells$Drum")), Cond.fieldLink RX2 17 "PeggedBells$History" "count" "I", Cond.fieldLink RX2 11 "PeggedBells$History" "states" "[LPeggedBells$Drum;", Cond.methodLink RX2 22 yX2_dropOldest, Cond.instanceMethod yX2_dropOldest, Cond.selects RX2 yX2_dropOldest yX2_dropOldest, Cond.code yX2_dropOldest cX2_dropOldest 3 none, Cond.methodLink RX2 25 yX0_copyFrom, Cond.instanceMethod yX0_copyFrom, Cond.selects RX0 yX0_copyFrom yX0_copyFrom, Cond.initialized RX0, Cond.code yX0_copyFrom cX0_copyFrom 2 none, Cond.fieldLink RX0 9 "PeggedBells$Drum" "pegs" "[I", Cond.methodLink RX0 53 arraycopyName, Cond.native arraycopyName]
def wsX5_setBound_r2 : List Cond := [Cond.static arraycopyName, Cond.initialized "java/lang/System", Cond.fieldLink RX0 15 "PeggedBells$Drum" "tempos" "[I", Cond.fieldLink RX0 18 "PeggedBells$Drum" "weights" "[I", Cond.fieldLink RX0 21 "PeggedBells$Drum" "timesHeard" "[I", Cond.fieldLink RX0 27 "PeggedBells$Drum" "hammers" "LPeggedBells$Hammers;", Cond.fieldLink RX0 31 "PeggedBells$Drum" "bound" "I", Cond.fieldLink RX0 35 "PeggedBells$Drum" "atHand" "I", Cond.fieldLink RX0 38 "PeggedBells$Drum" "ticks" "I", Cond.fieldLink RX0 41 "PeggedBells$Drum" "heardSoFar" "I", Cond.fieldLink RX0 44 "PeggedBells$Drum" "missedSoFar" "I", Cond.methodLink RX0 59 yX1_copyFrom, Cond.instanceMethod yX1_copyFrom, Cond.selects RX1 yX1_copyFrom yX1_copyFrom, Cond.initialized RX1, Cond.code yX1_copyFrom cX1_copyFrom 2 none, Cond.fieldLink RX1 9 "PeggedBells$Hammers" "rests" "[I", Cond.methodLink RX1 21 arraycopyName]
def wsX5_setBound : List Cond := .code yX5_setBound cX5_setBound 3 (some .int) :: ((wsX5_setBound_r1 ++ wsX5_setBound_r2) ++ wsX50 ++ wsX00 ++ wsX20 ++ wsX10 ++ (vx_atS RX5 73 "java/lang/IllegalArgumentException" ["java/lang/RuntimeException", "java/lang/Exception"]).filter goodWord)
def wsX5_turnRound_r1 : List Cond := [Cond.fieldLink RX5 33 "PeggedBells" "history" "LPeggedBells$History;", Cond.fieldLink RX5 10 "PeggedBells" "drum" "LPeggedBells$Drum;", Cond.fieldLink RX5 59 "PeggedBells$Drum" "pegs" "[I", Cond.methodLink RX5 55 yX2_add, Cond.instanceMethod yX2_add, Cond.selects RX2 yX2_add yX2_add, Cond.initialized RX2, Cond.code yX2_add cX2_add 3 (some (.object "PeggedBells$Drum")), Cond.fieldLink RX2 17 "PeggedBells$History" "count" "I", Cond.fieldLink RX2 11 "PeggedBells$History" "states" "[LPeggedBells$Drum;", Cond.methodLink RX2 22 yX2_dropOldest, Cond.instanceMethod yX2_dropOldest, Cond.selects RX2 yX2_dropOldest yX2_dropOldest, Cond.code yX2_dropOldest cX2_dropOldest 3 none, Cond.methodLink RX2 25 yX0_copyFrom, Cond.instanceMethod yX0_copyFrom, Cond.selects RX0 yX0_copyFrom yX0_copyFrom, Cond.initialized RX0, Cond.code yX0_copyFrom cX0_copyFrom 2 none, Cond.fieldLink RX0 9 "PeggedBells$Drum" "pegs" "[I", Cond.methodLink RX0 53 arraycopyName, Cond.native arraycopyName, Cond.static arraycopyName, Cond.initialized "java/lang/System"]
def wsX5_turnRound_r2 : List Cond := [Cond.fieldLink RX0 15 "PeggedBells$Drum" "tempos" "[I", Cond.fieldLink RX0 18 "PeggedBells$Drum" "weights" "[I", Cond.fieldLink RX0 21 "PeggedBells$Drum" "timesHeard" "[I", Cond.fieldLink RX0 27 "PeggedBells$Drum" "hammers" "LPeggedBells$Hammers;", Cond.fieldLink RX0 31 "PeggedBells$Drum" "bound" "I", Cond.fieldLink RX0 35 "PeggedBells$Drum" "atHand" "I", Cond.fieldLink RX0 38 "PeggedBells$Drum" "ticks" "I", Cond.fieldLink RX0 41 "PeggedBells$Drum" "heardSoFar" "I", Cond.fieldLink RX0 44 "PeggedBells$Drum" "missedSoFar" "I", Cond.methodLink RX0 59 yX1_copyFrom, Cond.instanceMethod yX1_copyFrom, Cond.selects RX1 yX1_copyFrom yX1_copyFrom, Cond.initialized RX1, Cond.code yX1_copyFrom cX1_copyFrom 2 none, Cond.fieldLink RX1 9 "PeggedBells$Hammers" "rests" "[I", Cond.methodLink RX1 21 arraycopyName, Cond.methodLink RX5 74 yX0_pegsOtherThan, Cond.instanceMethod yX0_pegsOtherThan, Cond.selects RX0 yX0_pegsOtherThan yX0_pegsOtherThan, Cond.code yX0_pegsOtherThan cX0_pegsOtherThan 4 (some .int), Cond.methodLink RX0 77 yJ6_bitCount_0f7a4, Cond.static yJ6_bitCount_0f7a4, Cond.initialized RJ6, Cond.code yJ6_bitCount_0f7a4 cJ6_bitCount_0f7a4 1 (some .int)]
def wsX5_turnRound_r3 : List Cond := [Cond.constant RJ6 265 (1431655765), Cond.constant RJ6 266 (858993459), Cond.constant RJ6 267 (252645135)]
def wsX5_turnRound : List Cond := .code yX5_turnRound cX5_turnRound 3 (some .int) :: ((wsX5_turnRound_r1 ++ (wsX5_turnRound_r2 ++ wsX5_turnRound_r3)) ++ wsX50 ++ wsX00 ++ wsX20 ++ wsX10)
def wsX5_move_r1 : List Cond := [Cond.classLink RX5 69 "java/lang/IllegalArgumentException", Cond.initialized "java/lang/IllegalArgumentException", Cond.fieldLink RX5 33 "PeggedBells" "history" "LPeggedBells$History;", Cond.fieldLink RX5 10 "PeggedBells" "drum" "LPeggedBells$Drum;", Cond.fieldLink RX5 59 "PeggedBells$Drum" "pegs" "[I", Cond.methodLink RX5 55 yX2_add, Cond.instanceMethod yX2_add, Cond.selects RX2 yX2_add yX2_add, Cond.initialized RX2, Cond.code yX2_add cX2_add 3 (some (.object "PeggedBells$Drum")), Cond.fieldLink RX2 17 "PeggedBells$History" "count" "I", Cond.fieldLink RX2 11 "PeggedBells$History" "states" "[LPeggedBells$Drum;", Cond.methodLink RX2 22 yX2_dropOldest, Cond.instanceMethod yX2_dropOldest, Cond.selects RX2 yX2_dropOldest yX2_dropOldest, Cond.code yX2_dropOldest cX2_dropOldest 3 none, Cond.methodLink RX2 25 yX0_copyFrom, Cond.instanceMethod yX0_copyFrom, Cond.selects RX0 yX0_copyFrom yX0_copyFrom, Cond.initialized RX0, Cond.code yX0_copyFrom cX0_copyFrom 2 none, Cond.fieldLink RX0 9 "PeggedBells$Drum" "pegs" "[I", Cond.methodLink RX0 53 arraycopyName, Cond.native arraycopyName]
def wsX5_move_r2 : List Cond := [Cond.static arraycopyName, Cond.initialized "java/lang/System", Cond.fieldLink RX0 15 "PeggedBells$Drum" "tempos" "[I", Cond.fieldLink RX0 18 "PeggedBells$Drum" "weights" "[I", Cond.fieldLink RX0 21 "PeggedBells$Drum" "timesHeard" "[I", Cond.fieldLink RX0 27 "PeggedBells$Drum" "hammers" "LPeggedBells$Hammers;", Cond.fieldLink RX0 31 "PeggedBells$Drum" "bound" "I", Cond.fieldLink RX0 35 "PeggedBells$Drum" "atHand" "I", Cond.fieldLink RX0 38 "PeggedBells$Drum" "ticks" "I", Cond.fieldLink RX0 41 "PeggedBells$Drum" "heardSoFar" "I", Cond.fieldLink RX0 44 "PeggedBells$Drum" "missedSoFar" "I", Cond.methodLink RX0 59 yX1_copyFrom, Cond.instanceMethod yX1_copyFrom, Cond.selects RX1 yX1_copyFrom yX1_copyFrom, Cond.initialized RX1, Cond.code yX1_copyFrom cX1_copyFrom 2 none, Cond.fieldLink RX1 9 "PeggedBells$Hammers" "rests" "[I", Cond.methodLink RX1 21 arraycopyName, Cond.methodLink RX5 74 yX0_pegsOtherThan, Cond.instanceMethod yX0_pegsOtherThan, Cond.selects RX0 yX0_pegsOtherThan yX0_pegsOtherThan, Cond.code yX0_pegsOtherThan cX0_pegsOtherThan 4 (some .int), Cond.methodLink RX0 77 yJ6_bitCount_0f7a4, Cond.static yJ6_bitCount_0f7a4]
def wsX5_move_r3 : List Cond := [Cond.initialized RJ6, Cond.code yJ6_bitCount_0f7a4 cJ6_bitCount_0f7a4 1 (some .int), Cond.constant RJ6 265 (1431655765), Cond.constant RJ6 266 (858993459), Cond.constant RJ6 267 (252645135)]
def wsX5_move : List Cond := .code yX5_move cX5_move 4 (some .int) :: ((wsX5_move_r1 ++ (wsX5_move_r2 ++ wsX5_move_r3)) ++ wsX50 ++ wsX00 ++ wsX20 ++ wsX10 ++ (vx_atS RX5 73 "java/lang/IllegalArgumentException" ["java/lang/RuntimeException", "java/lang/Exception"]).filter goodWord)
def wsX5_raise_r1 : List Cond := [Cond.fieldLink RX5 33 "PeggedBells" "history" "LPeggedBells$History;", Cond.fieldLink RX5 10 "PeggedBells" "drum" "LPeggedBells$Drum;", Cond.fieldLink RX5 59 "PeggedBells$Drum" "pegs" "[I", Cond.methodLink RX5 55 yX2_add, Cond.instanceMethod yX2_add, Cond.selects RX2 yX2_add yX2_add, Cond.initialized RX2, Cond.code yX2_add cX2_add 3 (some (.object "PeggedBells$Drum")), Cond.fieldLink RX2 17 "PeggedBells$History" "count" "I", Cond.fieldLink RX2 11 "PeggedBells$History" "states" "[LPeggedBells$Drum;", Cond.methodLink RX2 22 yX2_dropOldest, Cond.instanceMethod yX2_dropOldest, Cond.selects RX2 yX2_dropOldest yX2_dropOldest, Cond.code yX2_dropOldest cX2_dropOldest 3 none, Cond.methodLink RX2 25 yX0_copyFrom, Cond.instanceMethod yX0_copyFrom, Cond.selects RX0 yX0_copyFrom yX0_copyFrom, Cond.initialized RX0, Cond.code yX0_copyFrom cX0_copyFrom 2 none, Cond.fieldLink RX0 9 "PeggedBells$Drum" "pegs" "[I", Cond.methodLink RX0 53 arraycopyName, Cond.native arraycopyName, Cond.static arraycopyName, Cond.initialized "java/lang/System"]
def wsX5_raise_r2 : List Cond := [Cond.fieldLink RX0 15 "PeggedBells$Drum" "tempos" "[I", Cond.fieldLink RX0 18 "PeggedBells$Drum" "weights" "[I", Cond.fieldLink RX0 21 "PeggedBells$Drum" "timesHeard" "[I", Cond.fieldLink RX0 27 "PeggedBells$Drum" "hammers" "LPeggedBells$Hammers;", Cond.fieldLink RX0 31 "PeggedBells$Drum" "bound" "I", Cond.fieldLink RX0 35 "PeggedBells$Drum" "atHand" "I", Cond.fieldLink RX0 38 "PeggedBells$Drum" "ticks" "I", Cond.fieldLink RX0 41 "PeggedBells$Drum" "heardSoFar" "I", Cond.fieldLink RX0 44 "PeggedBells$Drum" "missedSoFar" "I", Cond.methodLink RX0 59 yX1_copyFrom, Cond.instanceMethod yX1_copyFrom, Cond.selects RX1 yX1_copyFrom yX1_copyFrom, Cond.initialized RX1, Cond.code yX1_copyFrom cX1_copyFrom 2 none, Cond.fieldLink RX1 9 "PeggedBells$Hammers" "rests" "[I", Cond.methodLink RX1 21 arraycopyName, Cond.methodLink RX5 63 yX5_holds, Cond.static yX5_holds, Cond.initialized RX5, Cond.code yX5_holds cX5_holds 2 (some .boolean)]
def wsX5_raise : List Cond := .code yX5_raise cX5_raise 4 (some .int) :: ((wsX5_raise_r1 ++ wsX5_raise_r2) ++ wsX50 ++ wsX00 ++ wsX20 ++ wsX10)
def wsX5_crank_r1 : List Cond := [Cond.classLink RX5 69 "java/lang/IllegalArgumentException", Cond.initialized "java/lang/IllegalArgumentException", Cond.fieldLink RX5 33 "PeggedBells" "history" "LPeggedBells$History;", Cond.fieldLink RX5 10 "PeggedBells" "drum" "LPeggedBells$Drum;", Cond.methodLink RX5 55 yX2_add, Cond.instanceMethod yX2_add, Cond.selects RX2 yX2_add yX2_add, Cond.initialized RX2, Cond.code yX2_add cX2_add 3 (some (.object "PeggedBells$Drum")), Cond.fieldLink RX2 17 "PeggedBells$History" "count" "I", Cond.fieldLink RX2 11 "PeggedBells$History" "states" "[LPeggedBells$Drum;", Cond.methodLink RX2 22 yX2_dropOldest, Cond.instanceMethod yX2_dropOldest, Cond.selects RX2 yX2_dropOldest yX2_dropOldest, Cond.code yX2_dropOldest cX2_dropOldest 3 none, Cond.methodLink RX2 25 yX0_copyFrom, Cond.instanceMethod yX0_copyFrom, Cond.selects RX0 yX0_copyFrom yX0_copyFrom, Cond.initialized RX0, Cond.code yX0_copyFrom cX0_copyFrom 2 none, Cond.fieldLink RX0 9 "PeggedBells$Drum" "pegs" "[I", Cond.methodLink RX0 53 arraycopyName, Cond.native arraycopyName, Cond.static arraycopyName]
def wsX5_crank_r2 : List Cond := [Cond.initialized "java/lang/System", Cond.fieldLink RX0 15 "PeggedBells$Drum" "tempos" "[I", Cond.fieldLink RX0 18 "PeggedBells$Drum" "weights" "[I", Cond.fieldLink RX0 21 "PeggedBells$Drum" "timesHeard" "[I", Cond.fieldLink RX0 27 "PeggedBells$Drum" "hammers" "LPeggedBells$Hammers;", Cond.fieldLink RX0 31 "PeggedBells$Drum" "bound" "I", Cond.fieldLink RX0 35 "PeggedBells$Drum" "atHand" "I", Cond.fieldLink RX0 38 "PeggedBells$Drum" "ticks" "I", Cond.fieldLink RX0 41 "PeggedBells$Drum" "heardSoFar" "I", Cond.fieldLink RX0 44 "PeggedBells$Drum" "missedSoFar" "I", Cond.methodLink RX0 59 yX1_copyFrom, Cond.instanceMethod yX1_copyFrom, Cond.selects RX1 yX1_copyFrom yX1_copyFrom, Cond.initialized RX1, Cond.code yX1_copyFrom cX1_copyFrom 2 none, Cond.fieldLink RX1 9 "PeggedBells$Hammers" "rests" "[I", Cond.methodLink RX1 21 arraycopyName, Cond.methodLink RX5 105 yX0_strikeColumns, Cond.instanceMethod yX0_strikeColumns, Cond.selects RX0 yX0_strikeColumns yX0_strikeColumns, Cond.code yX0_strikeColumns cX0_strikeColumns 4 (some .int), Cond.methodLink RX0 63 yX0_strikeAtHand, Cond.instanceMethod yX0_strikeAtHand, Cond.selects RX0 yX0_strikeAtHand yX0_strikeAtHand]
def wsX5_crank_r3 : List Cond := [Cond.code yX0_strikeAtHand cX0_strikeAtHand 2 none, Cond.methodLink RX0 66 yX0_heardAtHand, Cond.instanceMethod yX0_heardAtHand, Cond.selects RX0 yX0_heardAtHand yX0_heardAtHand, Cond.code yX0_heardAtHand cX0_heardAtHand 1 (some .int), Cond.methodLink RX0 83 yX1_heardOutOf, Cond.instanceMethod yX1_heardOutOf, Cond.selects RX1 yX1_heardOutOf yX1_heardOutOf, Cond.code yX1_heardOutOf cX1_heardOutOf 8 (some .int), Cond.static yX5_holds, Cond.initialized RX5, Cond.code yX5_holds cX5_holds 2 (some .boolean), Cond.methodLink RX1 31 yX1_isBack, Cond.instanceMethod yX1_isBack, Cond.selects RX1 yX1_isBack yX1_isBack, Cond.code yX1_isBack cX1_isBack 3 (some .boolean), Cond.methodLink RX0 70 yX1_swing, Cond.instanceMethod yX1_swing, Cond.selects RX1 yX1_swing yX1_swing, Cond.code yX1_swing cX1_swing 3 none, Cond.methodLink RX1 34 Lib.Math.min.name, Cond.static Lib.Math.min.name, Cond.initialized "java/lang/Math", Cond.code Lib.Math.min.name Lib.Math.min.code 2 (some .int)]
def wsX5_crank_r4 : List Cond := [Cond.methodLink RX0 74 yX0_countHeard, Cond.instanceMethod yX0_countHeard, Cond.selects RX0 yX0_countHeard yX0_countHeard, Cond.code yX0_countHeard cX0_countHeard 3 none, Cond.methodLink RX0 77 yJ6_bitCount_0f7a4, Cond.static yJ6_bitCount_0f7a4, Cond.initialized RJ6, Cond.code yJ6_bitCount_0f7a4 cJ6_bitCount_0f7a4 1 (some .int), Cond.constant RJ6 265 (1431655765), Cond.constant RJ6 266 (858993459), Cond.constant RJ6 267 (252645135)]
def wsX5_crank : List Cond := .code yX5_crank cX5_crank 2 (some .int) :: ((wsX5_crank_r1 ++ (wsX5_crank_r2 ++ (wsX5_crank_r3 ++ wsX5_crank_r4))) ++ wsX50 ++ wsX20 ++ wsX00 ++ wsX10 ++ (vx_atS RX5 73 "java/lang/IllegalArgumentException" ["java/lang/RuntimeException", "java/lang/Exception"]).filter goodWord)
def wsX5_turnBack_r1 : List Cond := [Cond.fieldLink RX5 33 "PeggedBells" "history" "LPeggedBells$History;", Cond.fieldLink RX5 10 "PeggedBells" "drum" "LPeggedBells$Drum;", Cond.fieldLink RX5 109 "PeggedBells$Drum" "atHand" "I", Cond.fieldLink RX5 112 "PeggedBells$Drum" "hammers" "LPeggedBells$Hammers;", Cond.methodLink RX5 55 yX2_add, Cond.instanceMethod yX2_add, Cond.selects RX2 yX2_add yX2_add, Cond.initialized RX2, Cond.code yX2_add cX2_add 3 (some (.object "PeggedBells$Drum")), Cond.fieldLink RX2 17 "PeggedBells$History" "count" "I", Cond.fieldLink RX2 11 "PeggedBells$History" "states" "[LPeggedBells$Drum;", Cond.methodLink RX2 22 yX2_dropOldest, Cond.instanceMethod yX2_dropOldest, Cond.selects RX2 yX2_dropOldest yX2_dropOldest, Cond.code yX2_dropOldest cX2_dropOldest 3 none, Cond.methodLink RX2 25 yX0_copyFrom, Cond.instanceMethod yX0_copyFrom, Cond.selects RX0 yX0_copyFrom yX0_copyFrom, Cond.initialized RX0, Cond.code yX0_copyFrom cX0_copyFrom 2 none, Cond.fieldLink RX0 9 "PeggedBells$Drum" "pegs" "[I", Cond.methodLink RX0 53 arraycopyName, Cond.native arraycopyName, Cond.static arraycopyName]
def wsX5_turnBack_r2 : List Cond := [Cond.initialized "java/lang/System", Cond.fieldLink RX0 15 "PeggedBells$Drum" "tempos" "[I", Cond.fieldLink RX0 18 "PeggedBells$Drum" "weights" "[I", Cond.fieldLink RX0 21 "PeggedBells$Drum" "timesHeard" "[I", Cond.fieldLink RX0 27 "PeggedBells$Drum" "hammers" "LPeggedBells$Hammers;", Cond.fieldLink RX0 31 "PeggedBells$Drum" "bound" "I", Cond.fieldLink RX0 35 "PeggedBells$Drum" "atHand" "I", Cond.fieldLink RX0 38 "PeggedBells$Drum" "ticks" "I", Cond.fieldLink RX0 41 "PeggedBells$Drum" "heardSoFar" "I", Cond.fieldLink RX0 44 "PeggedBells$Drum" "missedSoFar" "I", Cond.methodLink RX0 59 yX1_copyFrom, Cond.instanceMethod yX1_copyFrom, Cond.selects RX1 yX1_copyFrom yX1_copyFrom, Cond.initialized RX1, Cond.code yX1_copyFrom cX1_copyFrom 2 none, Cond.fieldLink RX1 9 "PeggedBells$Hammers" "rests" "[I", Cond.methodLink RX1 21 arraycopyName, Cond.methodLink RX5 116 yX1_allBack, Cond.instanceMethod yX1_allBack, Cond.selects RX1 yX1_allBack yX1_allBack, Cond.code yX1_allBack cX1_allBack 1 none, Cond.methodLink RX1 15 yJ7_fill_53178, Cond.static yJ7_fill_53178, Cond.initialized RJ7]
def wsX5_turnBack_r3 : List Cond := [Cond.code yJ7_fill_53178 cJ7_fill_53178 4 none]
def wsX5_turnBack : List Cond := .code yX5_turnBack cX5_turnBack 2 (some .int) :: ((wsX5_turnBack_r1 ++ (wsX5_turnBack_r2 ++ wsX5_turnBack_r3)) ++ wsX50 ++ wsX00 ++ wsX20 ++ wsX10)
def wsX5_changeTempo : List Cond := .code yX5_changeTempo cX5_changeTempo 3 none :: ([.fieldLink RX5 10 "PeggedBells" "drum" "LPeggedBells$Drum;", .fieldLink RX5 85 "PeggedBells$Drum" "tempos" "[I", .methodLink RX5 78 yX5_isBar, .static yX5_isBar, .initialized RX5, .code yX5_isBar cX5_isBar 1 (some .boolean)] ++ wsX50 ++ wsX00)
def wsX5_turnPegs_r1 : List Cond := [Cond.fieldLink RX5 26 "PeggedBells" "pad" "LPeggedBells$Pad;", Cond.fieldLink RX5 10 "PeggedBells" "drum" "LPeggedBells$Drum;", Cond.fieldLink RX5 59 "PeggedBells$Drum" "pegs" "[I", Cond.methodLink RX5 237 yX3_colonFrom, Cond.instanceMethod yX3_colonFrom, Cond.selects RX3 yX3_colonFrom yX3_colonFrom, Cond.initialized RX3, Cond.code yX3_colonFrom cX3_colonFrom 3 (some .int), Cond.fieldLink RX3 15 "PeggedBells$Pad" "length" "I", Cond.methodLink RX3 43 yX3_at, Cond.instanceMethod yX3_at, Cond.selects RX3 yX3_at yX3_at, Cond.code yX3_at cX3_at 2 (some .char), Cond.fieldLink RX3 11 "PeggedBells$Pad" "characters" "[C", Cond.methodLink RX5 240 yX3_numberIn, Cond.instanceMethod yX3_numberIn, Cond.selects RX3 yX3_numberIn yX3_numberIn, Cond.code yX3_numberIn cX3_numberIn 5 (some .int), Cond.methodLink RX3 47 yX3_digitAt, Cond.instanceMethod yX3_digitAt, Cond.selects RX3 yX3_digitAt yX3_digitAt, Cond.code yX3_digitAt cX3_digitAt 2 (some .int), Cond.methodLink RX5 41 yX5_isColumn, Cond.static yX5_isColumn]
def wsX5_turnPegs_r2 : List Cond := [Cond.initialized RX5, Cond.code yX5_isColumn cX5_isColumn 1 (some .boolean), Cond.methodLink RX5 227 yX3_digitAt]
def wsX5_turnPegs : List Cond := .code yX5_turnPegs cX5_turnPegs 6 none :: ((wsX5_turnPegs_r1 ++ wsX5_turnPegs_r2) ++ wsX50 ++ wsX00 ++ wsX30)
def wsX5_doPart_r1 : List Cond := [Cond.fieldLink RX5 26 "PeggedBells" "pad" "LPeggedBells$Pad;", Cond.fieldLink RX5 10 "PeggedBells" "drum" "LPeggedBells$Drum;", Cond.methodLink RX5 130 yX3_at, Cond.instanceMethod yX3_at, Cond.selects RX3 yX3_at yX3_at, Cond.initialized RX3, Cond.code yX3_at cX3_at 2 (some .char), Cond.fieldLink RX3 15 "PeggedBells$Pad" "length" "I", Cond.fieldLink RX3 11 "PeggedBells$Pad" "characters" "[C", Cond.methodLink RX5 227 yX3_digitAt, Cond.instanceMethod yX3_digitAt, Cond.selects RX3 yX3_digitAt yX3_digitAt, Cond.code yX3_digitAt cX3_digitAt 2 (some .int), Cond.methodLink RX3 43 yX3_at, Cond.methodLink RX5 105 yX0_strikeColumns, Cond.instanceMethod yX0_strikeColumns, Cond.selects RX0 yX0_strikeColumns yX0_strikeColumns, Cond.initialized RX0, Cond.code yX0_strikeColumns cX0_strikeColumns 4 (some .int), Cond.fieldLink RX0 41 "PeggedBells$Drum" "heardSoFar" "I", Cond.methodLink RX0 63 yX0_strikeAtHand, Cond.instanceMethod yX0_strikeAtHand, Cond.selects RX0 yX0_strikeAtHand yX0_strikeAtHand, Cond.code yX0_strikeAtHand cX0_strikeAtHand 2 none]
def wsX5_doPart_r2 : List Cond := [Cond.fieldLink RX0 27 "PeggedBells$Drum" "hammers" "LPeggedBells$Hammers;", Cond.fieldLink RX0 44 "PeggedBells$Drum" "missedSoFar" "I", Cond.fieldLink RX0 9 "PeggedBells$Drum" "pegs" "[I", Cond.fieldLink RX0 35 "PeggedBells$Drum" "atHand" "I", Cond.fieldLink RX0 38 "PeggedBells$Drum" "ticks" "I", Cond.fieldLink RX0 15 "PeggedBells$Drum" "tempos" "[I", Cond.methodLink RX0 66 yX0_heardAtHand, Cond.instanceMethod yX0_heardAtHand, Cond.selects RX0 yX0_heardAtHand yX0_heardAtHand, Cond.code yX0_heardAtHand cX0_heardAtHand 1 (some .int), Cond.fieldLink RX0 18 "PeggedBells$Drum" "weights" "[I", Cond.fieldLink RX0 31 "PeggedBells$Drum" "bound" "I", Cond.methodLink RX0 83 yX1_heardOutOf, Cond.instanceMethod yX1_heardOutOf, Cond.selects RX1 yX1_heardOutOf yX1_heardOutOf, Cond.initialized RX1, Cond.code yX1_heardOutOf cX1_heardOutOf 8 (some .int), Cond.static yX5_holds, Cond.initialized RX5, Cond.code yX5_holds cX5_holds 2 (some .boolean), Cond.methodLink RX1 31 yX1_isBack, Cond.instanceMethod yX1_isBack, Cond.selects RX1 yX1_isBack yX1_isBack, Cond.code yX1_isBack cX1_isBack 3 (some .boolean)]
def wsX5_doPart_r3 : List Cond := [Cond.fieldLink RX1 9 "PeggedBells$Hammers" "rests" "[I", Cond.methodLink RX0 70 yX1_swing, Cond.instanceMethod yX1_swing, Cond.selects RX1 yX1_swing yX1_swing, Cond.code yX1_swing cX1_swing 3 none, Cond.methodLink RX1 34 Lib.Math.min.name, Cond.static Lib.Math.min.name, Cond.initialized "java/lang/Math", Cond.code Lib.Math.min.name Lib.Math.min.code 2 (some .int), Cond.methodLink RX0 74 yX0_countHeard, Cond.instanceMethod yX0_countHeard, Cond.selects RX0 yX0_countHeard yX0_countHeard, Cond.code yX0_countHeard cX0_countHeard 3 none, Cond.fieldLink RX0 21 "PeggedBells$Drum" "timesHeard" "[I", Cond.methodLink RX0 77 yJ6_bitCount_0f7a4, Cond.static yJ6_bitCount_0f7a4, Cond.initialized RJ6, Cond.code yJ6_bitCount_0f7a4 cJ6_bitCount_0f7a4 1 (some .int), Cond.constant RJ6 265 (1431655765), Cond.constant RJ6 266 (858993459), Cond.constant RJ6 267 (252645135), Cond.methodLink RX5 230 yX5_changeTempo, Cond.instanceMethod yX5_changeTempo, Cond.selects RX5 yX5_changeTempo yX5_changeTempo]
def wsX5_doPart_r4 : List Cond := [Cond.code yX5_changeTempo cX5_changeTempo 3 none, Cond.fieldLink RX5 85 "PeggedBells$Drum" "tempos" "[I", Cond.methodLink RX5 78 yX5_isBar, Cond.static yX5_isBar, Cond.code yX5_isBar cX5_isBar 1 (some .boolean), Cond.methodLink RX5 234 yX5_turnPegs, Cond.instanceMethod yX5_turnPegs, Cond.selects RX5 yX5_turnPegs yX5_turnPegs, Cond.code yX5_turnPegs cX5_turnPegs 6 none, Cond.fieldLink RX5 59 "PeggedBells$Drum" "pegs" "[I", Cond.methodLink RX5 237 yX3_colonFrom, Cond.instanceMethod yX3_colonFrom, Cond.selects RX3 yX3_colonFrom yX3_colonFrom, Cond.code yX3_colonFrom cX3_colonFrom 3 (some .int), Cond.methodLink RX5 240 yX3_numberIn, Cond.instanceMethod yX3_numberIn, Cond.selects RX3 yX3_numberIn yX3_numberIn, Cond.code yX3_numberIn cX3_numberIn 5 (some .int), Cond.methodLink RX3 47 yX3_digitAt, Cond.methodLink RX5 41 yX5_isColumn, Cond.static yX5_isColumn, Cond.code yX5_isColumn cX5_isColumn 1 (some .boolean)]
def wsX5_doPart : List Cond := .code yX5_doPart cX5_doPart 5 (some .int) :: ((wsX5_doPart_r1 ++ (wsX5_doPart_r2 ++ (wsX5_doPart_r3 ++ wsX5_doPart_r4))) ++ wsX50 ++ wsX30 ++ wsX00 ++ wsX10)
def wsX5_read_r1 : List Cond := [Cond.classLink RX5 69 "java/lang/IllegalArgumentException", Cond.initialized "java/lang/IllegalArgumentException", Cond.fieldLink RX5 26 "PeggedBells" "pad" "LPeggedBells$Pad;", Cond.fieldLink RX5 33 "PeggedBells" "history" "LPeggedBells$History;", Cond.fieldLink RX5 10 "PeggedBells" "drum" "LPeggedBells$Drum;", Cond.fieldLink RX5 127 "PeggedBells$Pad" "length" "I", Cond.methodLink RX5 121 yX3_firstFault, Cond.instanceMethod yX3_firstFault, Cond.selects RX3 yX3_firstFault yX3_firstFault, Cond.initialized RX3, Cond.code yX3_firstFault cX3_firstFault 3 (some .int), Cond.fieldLink RX3 15 "PeggedBells$Pad" "length" "I", Cond.fieldLink RX3 11 "PeggedBells$Pad" "characters" "[C", Cond.methodLink RX3 25 yX3_placeAfter, Cond.static yX3_placeAfter, Cond.code yX3_placeAfter cX3_placeAfter 2 (some .int), Cond.methodLink RX3 29 yX3_placeAfterFirst, Cond.static yX3_placeAfterFirst, Cond.code yX3_placeAfterFirst cX3_placeAfterFirst 1 (some .int), Cond.methodLink RX3 33 yX3_isIn, Cond.static yX3_isIn, Cond.code yX3_isIn cX3_isIn 3 (some .boolean), Cond.methodLink RX3 37 yX3_placeAfterColumn, Cond.static yX3_placeAfterColumn]
def wsX5_read_r2 : List Cond := [Cond.code yX3_placeAfterColumn cX3_placeAfterColumn 1 (some .int), Cond.methodLink RX3 40 yX3_placeAfterPart, Cond.static yX3_placeAfterPart, Cond.code yX3_placeAfterPart cX3_placeAfterPart 1 (some .int), Cond.methodLink RX5 55 yX2_add, Cond.instanceMethod yX2_add, Cond.selects RX2 yX2_add yX2_add, Cond.initialized RX2, Cond.code yX2_add cX2_add 3 (some (.object "PeggedBells$Drum")), Cond.fieldLink RX2 17 "PeggedBells$History" "count" "I", Cond.fieldLink RX2 11 "PeggedBells$History" "states" "[LPeggedBells$Drum;", Cond.methodLink RX2 22 yX2_dropOldest, Cond.instanceMethod yX2_dropOldest, Cond.selects RX2 yX2_dropOldest yX2_dropOldest, Cond.code yX2_dropOldest cX2_dropOldest 3 none, Cond.methodLink RX2 25 yX0_copyFrom, Cond.instanceMethod yX0_copyFrom, Cond.selects RX0 yX0_copyFrom yX0_copyFrom, Cond.initialized RX0, Cond.code yX0_copyFrom cX0_copyFrom 2 none, Cond.fieldLink RX0 9 "PeggedBells$Drum" "pegs" "[I", Cond.methodLink RX0 53 arraycopyName, Cond.native arraycopyName, Cond.static arraycopyName]
def wsX5_read_r3 : List Cond := [Cond.initialized "java/lang/System", Cond.fieldLink RX0 15 "PeggedBells$Drum" "tempos" "[I", Cond.fieldLink RX0 18 "PeggedBells$Drum" "weights" "[I", Cond.fieldLink RX0 21 "PeggedBells$Drum" "timesHeard" "[I", Cond.fieldLink RX0 27 "PeggedBells$Drum" "hammers" "LPeggedBells$Hammers;", Cond.fieldLink RX0 31 "PeggedBells$Drum" "bound" "I", Cond.fieldLink RX0 35 "PeggedBells$Drum" "atHand" "I", Cond.fieldLink RX0 38 "PeggedBells$Drum" "ticks" "I", Cond.fieldLink RX0 41 "PeggedBells$Drum" "heardSoFar" "I", Cond.fieldLink RX0 44 "PeggedBells$Drum" "missedSoFar" "I", Cond.methodLink RX0 59 yX1_copyFrom, Cond.instanceMethod yX1_copyFrom, Cond.selects RX1 yX1_copyFrom yX1_copyFrom, Cond.initialized RX1, Cond.code yX1_copyFrom cX1_copyFrom 2 none, Cond.fieldLink RX1 9 "PeggedBells$Hammers" "rests" "[I", Cond.methodLink RX1 21 arraycopyName, Cond.methodLink RX5 130 yX3_at, Cond.instanceMethod yX3_at, Cond.selects RX3 yX3_at yX3_at, Cond.code yX3_at cX3_at 2 (some .char), Cond.methodLink RX5 134 yX5_doPart, Cond.instanceMethod yX5_doPart, Cond.selects RX5 yX5_doPart yX5_doPart]
def wsX5_read_r4 : List Cond := [Cond.initialized RX5, Cond.code yX5_doPart cX5_doPart 5 (some .int), Cond.methodLink RX5 227 yX3_digitAt, Cond.instanceMethod yX3_digitAt, Cond.selects RX3 yX3_digitAt yX3_digitAt, Cond.code yX3_digitAt cX3_digitAt 2 (some .int), Cond.methodLink RX3 43 yX3_at, Cond.methodLink RX5 105 yX0_strikeColumns, Cond.instanceMethod yX0_strikeColumns, Cond.selects RX0 yX0_strikeColumns yX0_strikeColumns, Cond.code yX0_strikeColumns cX0_strikeColumns 4 (some .int), Cond.methodLink RX0 63 yX0_strikeAtHand, Cond.instanceMethod yX0_strikeAtHand, Cond.selects RX0 yX0_strikeAtHand yX0_strikeAtHand, Cond.code yX0_strikeAtHand cX0_strikeAtHand 2 none, Cond.methodLink RX0 66 yX0_heardAtHand, Cond.instanceMethod yX0_heardAtHand, Cond.selects RX0 yX0_heardAtHand yX0_heardAtHand, Cond.code yX0_heardAtHand cX0_heardAtHand 1 (some .int), Cond.methodLink RX0 83 yX1_heardOutOf, Cond.instanceMethod yX1_heardOutOf, Cond.selects RX1 yX1_heardOutOf yX1_heardOutOf, Cond.code yX1_heardOutOf cX1_heardOutOf 8 (some .int), Cond.static yX5_holds]
def wsX5_read_r5 : List Cond := [Cond.code yX5_holds cX5_holds 2 (some .boolean), Cond.methodLink RX1 31 yX1_isBack, Cond.instanceMethod yX1_isBack, Cond.selects RX1 yX1_isBack yX1_isBack, Cond.code yX1_isBack cX1_isBack 3 (some .boolean), Cond.methodLink RX0 70 yX1_swing, Cond.instanceMethod yX1_swing, Cond.selects RX1 yX1_swing yX1_swing, Cond.code yX1_swing cX1_swing 3 none, Cond.methodLink RX1 34 Lib.Math.min.name, Cond.static Lib.Math.min.name, Cond.initialized "java/lang/Math", Cond.code Lib.Math.min.name Lib.Math.min.code 2 (some .int), Cond.methodLink RX0 74 yX0_countHeard, Cond.instanceMethod yX0_countHeard, Cond.selects RX0 yX0_countHeard yX0_countHeard, Cond.code yX0_countHeard cX0_countHeard 3 none, Cond.methodLink RX0 77 yJ6_bitCount_0f7a4, Cond.static yJ6_bitCount_0f7a4, Cond.initialized RJ6, Cond.code yJ6_bitCount_0f7a4 cJ6_bitCount_0f7a4 1 (some .int), Cond.constant RJ6 265 (1431655765), Cond.constant RJ6 266 (858993459), Cond.constant RJ6 267 (252645135)]
def wsX5_read_r6 : List Cond := [Cond.methodLink RX5 230 yX5_changeTempo, Cond.instanceMethod yX5_changeTempo, Cond.selects RX5 yX5_changeTempo yX5_changeTempo, Cond.code yX5_changeTempo cX5_changeTempo 3 none, Cond.fieldLink RX5 85 "PeggedBells$Drum" "tempos" "[I", Cond.methodLink RX5 78 yX5_isBar, Cond.static yX5_isBar, Cond.code yX5_isBar cX5_isBar 1 (some .boolean), Cond.methodLink RX5 234 yX5_turnPegs, Cond.instanceMethod yX5_turnPegs, Cond.selects RX5 yX5_turnPegs yX5_turnPegs, Cond.code yX5_turnPegs cX5_turnPegs 6 none, Cond.fieldLink RX5 59 "PeggedBells$Drum" "pegs" "[I", Cond.methodLink RX5 237 yX3_colonFrom, Cond.instanceMethod yX3_colonFrom, Cond.selects RX3 yX3_colonFrom yX3_colonFrom, Cond.code yX3_colonFrom cX3_colonFrom 3 (some .int), Cond.methodLink RX5 240 yX3_numberIn, Cond.instanceMethod yX3_numberIn, Cond.selects RX3 yX3_numberIn yX3_numberIn, Cond.code yX3_numberIn cX3_numberIn 5 (some .int), Cond.methodLink RX3 47 yX3_digitAt, Cond.methodLink RX5 41 yX5_isColumn, Cond.static yX5_isColumn]
def wsX5_read_r7 : List Cond := [Cond.code yX5_isColumn cX5_isColumn 1 (some .boolean), Cond.methodLink RX5 138 yX3_clear, Cond.instanceMethod yX3_clear, Cond.selects RX3 yX3_clear yX3_clear, Cond.code yX3_clear cX3_clear 1 none]
def wsX5_read : List Cond := .code yX5_read cX5_read 4 (some .int) :: ((wsX5_read_r1 ++ (wsX5_read_r2 ++ (wsX5_read_r3 ++ (wsX5_read_r4 ++ (wsX5_read_r5 ++ (wsX5_read_r6 ++ wsX5_read_r7)))))) ++ wsX50 ++ wsX30 ++ wsX20 ++ wsX00 ++ wsX10 ++ (vx_atS RX5 73 "java/lang/IllegalArgumentException" ["java/lang/RuntimeException", "java/lang/Exception"]).filter goodWord)
def wsX5_pegsIn : List Cond := .code yX5_pegsIn cX5_pegsIn 2 (some .int) :: ([.classLink RX5 48 "java/lang/IndexOutOfBoundsException", .initialized "java/lang/IndexOutOfBoundsException", .fieldLink RX5 10 "PeggedBells" "drum" "LPeggedBells$Drum;", .fieldLink RX5 59 "PeggedBells$Drum" "pegs" "[I", .methodLink RX5 41 yX5_isColumn, .static yX5_isColumn, .initialized RX5, .code yX5_isColumn cX5_isColumn 1 (some .boolean)] ++ wsX50 ++ wsX00 ++ (vx_atS RX5 52 "java/lang/IndexOutOfBoundsException" ["java/lang/RuntimeException", "java/lang/Exception"]).filter goodWord)
def wsX5_pegs : List Cond := .code yX5_pegs cX5_pegs 1 (some .int) :: ([.fieldLink RX5 10 "PeggedBells" "drum" "LPeggedBells$Drum;", .methodLink RX5 141 yX0_countPegs, .instanceMethod yX0_countPegs, .selects RX0 yX0_countPegs yX0_countPegs, .initialized RX0, .code yX0_countPegs cX0_countPegs 3 (some .int), .fieldLink RX0 9 "PeggedBells$Drum" "pegs" "[I", .methodLink RX0 77 yJ6_bitCount_0f7a4, .static yJ6_bitCount_0f7a4, .initialized RJ6, .code yJ6_bitCount_0f7a4 cJ6_bitCount_0f7a4 1 (some .int), .constant RJ6 265 (1431655765), .constant RJ6 266 (858993459), .constant RJ6 267 (252645135)] ++ wsX50 ++ wsX00)
def wsX5_tempoOf : List Cond := .code yX5_tempoOf cX5_tempoOf 2 (some .int) :: ([.classLink RX5 48 "java/lang/IndexOutOfBoundsException", .initialized "java/lang/IndexOutOfBoundsException", .fieldLink RX5 10 "PeggedBells" "drum" "LPeggedBells$Drum;", .fieldLink RX5 85 "PeggedBells$Drum" "tempos" "[I", .methodLink RX5 78 yX5_isBar, .static yX5_isBar, .initialized RX5, .code yX5_isBar cX5_isBar 1 (some .boolean)] ++ wsX50 ++ wsX00 ++ (vx_atS RX5 52 "java/lang/IndexOutOfBoundsException" ["java/lang/RuntimeException", "java/lang/Exception"]).filter goodWord)
def wsX5_weightOf : List Cond := .code yX5_weightOf cX5_weightOf 2 (some .int) :: ([.classLink RX5 48 "java/lang/IndexOutOfBoundsException", .initialized "java/lang/IndexOutOfBoundsException", .fieldLink RX5 10 "PeggedBells" "drum" "LPeggedBells$Drum;", .fieldLink RX5 92 "PeggedBells$Drum" "weights" "[I", .methodLink RX5 45 yX5_isBell, .static yX5_isBell, .initialized RX5, .code yX5_isBell cX5_isBell 1 (some .boolean)] ++ wsX50 ++ wsX00 ++ (vx_atS RX5 52 "java/lang/IndexOutOfBoundsException" ["java/lang/RuntimeException", "java/lang/Exception"]).filter goodWord)
def wsX5_column : List Cond := .code yX5_column cX5_column 1 (some .int) :: ([.fieldLink RX5 10 "PeggedBells" "drum" "LPeggedBells$Drum;", .fieldLink RX5 109 "PeggedBells$Drum" "atHand" "I"] ++ wsX50 ++ wsX00)
def wsX5_time : List Cond := .code yX5_time cX5_time 1 (some .int) :: ([.fieldLink RX5 10 "PeggedBells" "drum" "LPeggedBells$Drum;", .fieldLink RX5 144 "PeggedBells$Drum" "ticks" "I"] ++ wsX50 ++ wsX00)
def wsX5_heardOf : List Cond := .code yX5_heardOf cX5_heardOf 2 (some .int) :: ([.classLink RX5 48 "java/lang/IndexOutOfBoundsException", .initialized "java/lang/IndexOutOfBoundsException", .fieldLink RX5 10 "PeggedBells" "drum" "LPeggedBells$Drum;", .fieldLink RX5 147 "PeggedBells$Drum" "timesHeard" "[I", .methodLink RX5 45 yX5_isBell, .static yX5_isBell, .initialized RX5, .code yX5_isBell cX5_isBell 1 (some .boolean)] ++ wsX50 ++ wsX00 ++ (vx_atS RX5 52 "java/lang/IndexOutOfBoundsException" ["java/lang/RuntimeException", "java/lang/Exception"]).filter goodWord)
def wsX5_heard : List Cond := .code yX5_heard cX5_heard 2 (some .int) :: ([.fieldLink RX5 10 "PeggedBells" "drum" "LPeggedBells$Drum;", .fieldLink RX5 153 "PeggedBells$Drum" "heardSoFar" "I", .methodLink RX5 150 yX0_sumOfTimesHeard, .instanceMethod yX0_sumOfTimesHeard, .selects RX0 yX0_sumOfTimesHeard yX0_sumOfTimesHeard, .initialized RX0, .code yX0_sumOfTimesHeard cX0_sumOfTimesHeard 3 (some .int), .fieldLink RX0 21 "PeggedBells$Drum" "timesHeard" "[I"] ++ wsX50 ++ wsX00)
def wsX5_missed : List Cond := .code yX5_missed cX5_missed 1 (some .int) :: ([.fieldLink RX5 10 "PeggedBells" "drum" "LPeggedBells$Drum;", .fieldLink RX5 156 "PeggedBells$Drum" "missedSoFar" "I"] ++ wsX50 ++ wsX00)
def wsX5_whyMissed_r1 : List Cond := [Cond.classLink RX5 48 "java/lang/IndexOutOfBoundsException", Cond.initialized "java/lang/IndexOutOfBoundsException", Cond.fieldLink RX5 10 "PeggedBells" "drum" "LPeggedBells$Drum;", Cond.fieldLink RX5 59 "PeggedBells$Drum" "pegs" "[I", Cond.fieldLink RX5 109 "PeggedBells$Drum" "atHand" "I", Cond.fieldLink RX5 112 "PeggedBells$Drum" "hammers" "LPeggedBells$Hammers;", Cond.fieldLink RX5 92 "PeggedBells$Drum" "weights" "[I", Cond.methodLink RX5 45 yX5_isBell, Cond.static yX5_isBell, Cond.initialized RX5, Cond.code yX5_isBell cX5_isBell 1 (some .boolean), Cond.methodLink RX5 63 yX5_holds, Cond.static yX5_holds, Cond.code yX5_holds cX5_holds 2 (some .boolean), Cond.methodLink RX5 159 yX1_isBack, Cond.instanceMethod yX1_isBack, Cond.selects RX1 yX1_isBack yX1_isBack, Cond.initialized RX1, Cond.code yX1_isBack cX1_isBack 3 (some .boolean), Cond.fieldLink RX1 9 "PeggedBells$Hammers" "rests" "[I", Cond.methodLink RX5 162 yX0_heardAtHand, Cond.instanceMethod yX0_heardAtHand, Cond.selects RX0 yX0_heardAtHand yX0_heardAtHand, Cond.initialized RX0]
def wsX5_whyMissed_r2 : List Cond := [Cond.code yX0_heardAtHand cX0_heardAtHand 1 (some .int), Cond.fieldLink RX0 27 "PeggedBells$Drum" "hammers" "LPeggedBells$Hammers;", Cond.fieldLink RX0 9 "PeggedBells$Drum" "pegs" "[I", Cond.fieldLink RX0 35 "PeggedBells$Drum" "atHand" "I", Cond.fieldLink RX0 18 "PeggedBells$Drum" "weights" "[I", Cond.fieldLink RX0 31 "PeggedBells$Drum" "bound" "I", Cond.methodLink RX0 83 yX1_heardOutOf, Cond.instanceMethod yX1_heardOutOf, Cond.selects RX1 yX1_heardOutOf yX1_heardOutOf, Cond.code yX1_heardOutOf cX1_heardOutOf 8 (some .int), Cond.methodLink RX1 31 yX1_isBack]
def wsX5_whyMissed : List Cond := .code yX5_whyMissed cX5_whyMissed 2 (some .int) :: ((wsX5_whyMissed_r1 ++ wsX5_whyMissed_r2) ++ wsX50 ++ wsX00 ++ wsX10 ++ (vx_atS RX5 52 "java/lang/IndexOutOfBoundsException" ["java/lang/RuntimeException", "java/lang/Exception"]).filter goodWord)
def wsX5_inRound_r1 : List Cond := [Cond.classLink RX5 48 "java/lang/IndexOutOfBoundsException", Cond.initialized "java/lang/IndexOutOfBoundsException", Cond.fieldLink RX5 19 "PeggedBells" "round" "LPeggedBells$Round;", Cond.fieldLink RX5 10 "PeggedBells" "drum" "LPeggedBells$Drum;", Cond.fieldLink RX5 97 "PeggedBells$Drum" "bound" "I", Cond.fieldLink RX5 169 "PeggedBells$Round" "heardIn" "[I", Cond.methodLink RX5 41 yX5_isColumn, Cond.static yX5_isColumn, Cond.initialized RX5, Cond.code yX5_isColumn cX5_isColumn 1 (some .boolean), Cond.methodLink RX5 165 yX4_play, Cond.instanceMethod yX4_play, Cond.selects RX4 yX4_play yX4_play, Cond.initialized RX4, Cond.code yX4_play cX4_play 6 (some .int), Cond.fieldLink RX4 18 "PeggedBells$Round" "hammers" "LPeggedBells$Hammers;", Cond.fieldLink RX4 25 "PeggedBells$Drum" "pegs" "[I", Cond.fieldLink RX4 30 "PeggedBells$Drum" "weights" "[I", Cond.fieldLink RX4 9 "PeggedBells$Round" "heardIn" "[I", Cond.methodLink RX4 22 yX1_allBack, Cond.instanceMethod yX1_allBack, Cond.selects RX1 yX1_allBack yX1_allBack, Cond.initialized RX1, Cond.code yX1_allBack cX1_allBack 1 none]
def wsX5_inRound_r2 : List Cond := [Cond.fieldLink RX1 9 "PeggedBells$Hammers" "rests" "[I", Cond.methodLink RX1 15 yJ7_fill_53178, Cond.static yJ7_fill_53178, Cond.initialized RJ7, Cond.code yJ7_fill_53178 cJ7_fill_53178 4 none, Cond.methodLink RX4 33 yX1_heardOutOf, Cond.instanceMethod yX1_heardOutOf, Cond.selects RX1 yX1_heardOutOf yX1_heardOutOf, Cond.code yX1_heardOutOf cX1_heardOutOf 8 (some .int), Cond.static yX5_holds, Cond.code yX5_holds cX5_holds 2 (some .boolean), Cond.methodLink RX1 31 yX1_isBack, Cond.instanceMethod yX1_isBack, Cond.selects RX1 yX1_isBack yX1_isBack, Cond.code yX1_isBack cX1_isBack 3 (some .boolean), Cond.methodLink RX4 37 yX1_swing, Cond.instanceMethod yX1_swing, Cond.selects RX1 yX1_swing yX1_swing, Cond.code yX1_swing cX1_swing 3 none, Cond.methodLink RX1 34 Lib.Math.min.name, Cond.static Lib.Math.min.name, Cond.initialized "java/lang/Math", Cond.code Lib.Math.min.name Lib.Math.min.code 2 (some .int), Cond.methodLink RX4 41 yJ6_bitCount_0f7a4]
def wsX5_inRound_r3 : List Cond := [Cond.static yJ6_bitCount_0f7a4, Cond.initialized RJ6, Cond.code yJ6_bitCount_0f7a4 cJ6_bitCount_0f7a4 1 (some .int), Cond.constant RJ6 265 (1431655765), Cond.constant RJ6 266 (858993459), Cond.constant RJ6 267 (252645135)]
def wsX5_inRound : List Cond := .code yX5_inRound cX5_inRound 2 (some .int) :: ((wsX5_inRound_r1 ++ (wsX5_inRound_r2 ++ wsX5_inRound_r3)) ++ wsX50 ++ wsX00 ++ wsX40 ++ wsX10 ++ (vx_atS RX5 52 "java/lang/IndexOutOfBoundsException" ["java/lang/RuntimeException", "java/lang/Exception"]).filter goodWord)
def wsX5_heardInRound_r1 : List Cond := [Cond.fieldLink RX5 19 "PeggedBells" "round" "LPeggedBells$Round;", Cond.fieldLink RX5 10 "PeggedBells" "drum" "LPeggedBells$Drum;", Cond.fieldLink RX5 97 "PeggedBells$Drum" "bound" "I", Cond.methodLink RX5 165 yX4_play, Cond.instanceMethod yX4_play, Cond.selects RX4 yX4_play yX4_play, Cond.initialized RX4, Cond.code yX4_play cX4_play 6 (some .int), Cond.fieldLink RX4 18 "PeggedBells$Round" "hammers" "LPeggedBells$Hammers;", Cond.fieldLink RX4 25 "PeggedBells$Drum" "pegs" "[I", Cond.fieldLink RX4 30 "PeggedBells$Drum" "weights" "[I", Cond.fieldLink RX4 9 "PeggedBells$Round" "heardIn" "[I", Cond.methodLink RX4 22 yX1_allBack, Cond.instanceMethod yX1_allBack, Cond.selects RX1 yX1_allBack yX1_allBack, Cond.initialized RX1, Cond.code yX1_allBack cX1_allBack 1 none, Cond.fieldLink RX1 9 "PeggedBells$Hammers" "rests" "[I", Cond.methodLink RX1 15 yJ7_fill_53178, Cond.static yJ7_fill_53178, Cond.initialized RJ7, Cond.code yJ7_fill_53178 cJ7_fill_53178 4 none, Cond.methodLink RX4 33 yX1_heardOutOf, Cond.instanceMethod yX1_heardOutOf]
def wsX5_heardInRound_r2 : List Cond := [Cond.selects RX1 yX1_heardOutOf yX1_heardOutOf, Cond.code yX1_heardOutOf cX1_heardOutOf 8 (some .int), Cond.static yX5_holds, Cond.initialized RX5, Cond.code yX5_holds cX5_holds 2 (some .boolean), Cond.methodLink RX1 31 yX1_isBack, Cond.instanceMethod yX1_isBack, Cond.selects RX1 yX1_isBack yX1_isBack, Cond.code yX1_isBack cX1_isBack 3 (some .boolean), Cond.methodLink RX4 37 yX1_swing, Cond.instanceMethod yX1_swing, Cond.selects RX1 yX1_swing yX1_swing, Cond.code yX1_swing cX1_swing 3 none, Cond.methodLink RX1 34 Lib.Math.min.name, Cond.static Lib.Math.min.name, Cond.initialized "java/lang/Math", Cond.code Lib.Math.min.name Lib.Math.min.code 2 (some .int), Cond.methodLink RX4 41 yJ6_bitCount_0f7a4, Cond.static yJ6_bitCount_0f7a4, Cond.initialized RJ6, Cond.code yJ6_bitCount_0f7a4 cJ6_bitCount_0f7a4 1 (some .int), Cond.constant RJ6 265 (1431655765), Cond.constant RJ6 266 (858993459), Cond.constant RJ6 267 (252645135)]
def wsX5_heardInRound_r3 : List Cond := [Cond.methodLink RX5 172 yX4_sumOfColumns, Cond.instanceMethod yX4_sumOfColumns, Cond.selects RX4 yX4_sumOfColumns yX4_sumOfColumns, Cond.code yX4_sumOfColumns cX4_sumOfColumns 3 (some .int)]
def wsX5_heardInRound : List Cond := .code yX5_heardInRound cX5_heardInRound 3 (some .int) :: ((wsX5_heardInRound_r1 ++ (wsX5_heardInRound_r2 ++ wsX5_heardInRound_r3)) ++ wsX50 ++ wsX00 ++ wsX40 ++ wsX10)
def wsX5_ticksOfRound : List Cond := .code yX5_ticksOfRound cX5_ticksOfRound 2 (some .int) :: ([.fieldLink RX5 10 "PeggedBells" "drum" "LPeggedBells$Drum;", .methodLink RX5 175 yX0_ticksByBars, .instanceMethod yX0_ticksByBars, .selects RX0 yX0_ticksByBars yX0_ticksByBars, .initialized RX0, .code yX0_ticksByBars cX0_ticksByBars 3 (some .int), .fieldLink RX0 15 "PeggedBells$Drum" "tempos" "[I", .methodLink RX5 178 yX0_ticksByColumns, .instanceMethod yX0_ticksByColumns, .selects RX0 yX0_ticksByColumns yX0_ticksByColumns, .code yX0_ticksByColumns cX0_ticksByColumns 3 (some .int)] ++ wsX50 ++ wsX00)
def wsX5_missedInRound_r1 : List Cond := [Cond.fieldLink RX5 10 "PeggedBells" "drum" "LPeggedBells$Drum;", Cond.fieldLink RX5 19 "PeggedBells" "round" "LPeggedBells$Round;", Cond.fieldLink RX5 97 "PeggedBells$Drum" "bound" "I", Cond.methodLink RX5 141 yX0_countPegs, Cond.instanceMethod yX0_countPegs, Cond.selects RX0 yX0_countPegs yX0_countPegs, Cond.initialized RX0, Cond.code yX0_countPegs cX0_countPegs 3 (some .int), Cond.fieldLink RX0 9 "PeggedBells$Drum" "pegs" "[I", Cond.methodLink RX0 77 yJ6_bitCount_0f7a4, Cond.static yJ6_bitCount_0f7a4, Cond.initialized RJ6, Cond.code yJ6_bitCount_0f7a4 cJ6_bitCount_0f7a4 1 (some .int), Cond.constant RJ6 265 (1431655765), Cond.constant RJ6 266 (858993459), Cond.constant RJ6 267 (252645135), Cond.methodLink RX5 165 yX4_play, Cond.instanceMethod yX4_play, Cond.selects RX4 yX4_play yX4_play, Cond.initialized RX4, Cond.code yX4_play cX4_play 6 (some .int), Cond.fieldLink RX4 18 "PeggedBells$Round" "hammers" "LPeggedBells$Hammers;", Cond.fieldLink RX4 25 "PeggedBells$Drum" "pegs" "[I", Cond.fieldLink RX4 30 "PeggedBells$Drum" "weights" "[I"]
def wsX5_missedInRound_r2 : List Cond := [Cond.fieldLink RX4 9 "PeggedBells$Round" "heardIn" "[I", Cond.methodLink RX4 22 yX1_allBack, Cond.instanceMethod yX1_allBack, Cond.selects RX1 yX1_allBack yX1_allBack, Cond.initialized RX1, Cond.code yX1_allBack cX1_allBack 1 none, Cond.fieldLink RX1 9 "PeggedBells$Hammers" "rests" "[I", Cond.methodLink RX1 15 yJ7_fill_53178, Cond.static yJ7_fill_53178, Cond.initialized RJ7, Cond.code yJ7_fill_53178 cJ7_fill_53178 4 none, Cond.methodLink RX4 33 yX1_heardOutOf, Cond.instanceMethod yX1_heardOutOf, Cond.selects RX1 yX1_heardOutOf yX1_heardOutOf, Cond.code yX1_heardOutOf cX1_heardOutOf 8 (some .int), Cond.static yX5_holds, Cond.initialized RX5, Cond.code yX5_holds cX5_holds 2 (some .boolean), Cond.methodLink RX1 31 yX1_isBack, Cond.instanceMethod yX1_isBack, Cond.selects RX1 yX1_isBack yX1_isBack, Cond.code yX1_isBack cX1_isBack 3 (some .boolean), Cond.methodLink RX4 37 yX1_swing, Cond.instanceMethod yX1_swing]
def wsX5_missedInRound_r3 : List Cond := [Cond.selects RX1 yX1_swing yX1_swing, Cond.code yX1_swing cX1_swing 3 none, Cond.methodLink RX1 34 Lib.Math.min.name, Cond.static Lib.Math.min.name, Cond.initialized "java/lang/Math", Cond.code Lib.Math.min.name Lib.Math.min.code 2 (some .int), Cond.methodLink RX4 41 yJ6_bitCount_0f7a4]
def wsX5_missedInRound : List Cond := .code yX5_missedInRound cX5_missedInRound 1 (some .int) :: ((wsX5_missedInRound_r1 ++ (wsX5_missedInRound_r2 ++ wsX5_missedInRound_r3)) ++ wsX50 ++ wsX00 ++ wsX40 ++ wsX10)
def wsX5_busiest_r1 : List Cond := [Cond.fieldLink RX5 19 "PeggedBells" "round" "LPeggedBells$Round;", Cond.fieldLink RX5 10 "PeggedBells" "drum" "LPeggedBells$Drum;", Cond.fieldLink RX5 97 "PeggedBells$Drum" "bound" "I", Cond.methodLink RX5 165 yX4_play, Cond.instanceMethod yX4_play, Cond.selects RX4 yX4_play yX4_play, Cond.initialized RX4, Cond.code yX4_play cX4_play 6 (some .int), Cond.fieldLink RX4 18 "PeggedBells$Round" "hammers" "LPeggedBells$Hammers;", Cond.fieldLink RX4 25 "PeggedBells$Drum" "pegs" "[I", Cond.fieldLink RX4 30 "PeggedBells$Drum" "weights" "[I", Cond.fieldLink RX4 9 "PeggedBells$Round" "heardIn" "[I", Cond.methodLink RX4 22 yX1_allBack, Cond.instanceMethod yX1_allBack, Cond.selects RX1 yX1_allBack yX1_allBack, Cond.initialized RX1, Cond.code yX1_allBack cX1_allBack 1 none, Cond.fieldLink RX1 9 "PeggedBells$Hammers" "rests" "[I", Cond.methodLink RX1 15 yJ7_fill_53178, Cond.static yJ7_fill_53178, Cond.initialized RJ7, Cond.code yJ7_fill_53178 cJ7_fill_53178 4 none, Cond.methodLink RX4 33 yX1_heardOutOf, Cond.instanceMethod yX1_heardOutOf]
def wsX5_busiest_r2 : List Cond := [Cond.selects RX1 yX1_heardOutOf yX1_heardOutOf, Cond.code yX1_heardOutOf cX1_heardOutOf 8 (some .int), Cond.static yX5_holds, Cond.initialized RX5, Cond.code yX5_holds cX5_holds 2 (some .boolean), Cond.methodLink RX1 31 yX1_isBack, Cond.instanceMethod yX1_isBack, Cond.selects RX1 yX1_isBack yX1_isBack, Cond.code yX1_isBack cX1_isBack 3 (some .boolean), Cond.methodLink RX4 37 yX1_swing, Cond.instanceMethod yX1_swing, Cond.selects RX1 yX1_swing yX1_swing, Cond.code yX1_swing cX1_swing 3 none, Cond.methodLink RX1 34 Lib.Math.min.name, Cond.static Lib.Math.min.name, Cond.initialized "java/lang/Math", Cond.code Lib.Math.min.name Lib.Math.min.code 2 (some .int), Cond.methodLink RX4 41 yJ6_bitCount_0f7a4, Cond.static yJ6_bitCount_0f7a4, Cond.initialized RJ6, Cond.code yJ6_bitCount_0f7a4 cJ6_bitCount_0f7a4 1 (some .int), Cond.constant RJ6 265 (1431655765), Cond.constant RJ6 266 (858993459), Cond.constant RJ6 267 (252645135)]
def wsX5_busiest_r3 : List Cond := [Cond.methodLink RX5 181 yX4_timesHeard, Cond.instanceMethod yX4_timesHeard, Cond.selects RX4 yX4_timesHeard yX4_timesHeard, Cond.code yX4_timesHeard cX4_timesHeard 4 (some .int)]
def wsX5_busiest : List Cond := .code yX5_busiest cX5_busiest 5 (some .int) :: ((wsX5_busiest_r1 ++ (wsX5_busiest_r2 ++ wsX5_busiest_r3)) ++ wsX50 ++ wsX00 ++ wsX40 ++ wsX10)
def wsX5_longestSilence_r1 : List Cond := [Cond.fieldLink RX5 19 "PeggedBells" "round" "LPeggedBells$Round;", Cond.fieldLink RX5 10 "PeggedBells" "drum" "LPeggedBells$Drum;", Cond.fieldLink RX5 97 "PeggedBells$Drum" "bound" "I", Cond.fieldLink RX5 169 "PeggedBells$Round" "heardIn" "[I", Cond.methodLink RX5 183 Lib.Math.max.name, Cond.static Lib.Math.max.name, Cond.initialized "java/lang/Math", Cond.code Lib.Math.max.name Lib.Math.max.code 2 (some .int), Cond.methodLink RX5 165 yX4_play, Cond.instanceMethod yX4_play, Cond.selects RX4 yX4_play yX4_play, Cond.initialized RX4, Cond.code yX4_play cX4_play 6 (some .int), Cond.fieldLink RX4 18 "PeggedBells$Round" "hammers" "LPeggedBells$Hammers;", Cond.fieldLink RX4 25 "PeggedBells$Drum" "pegs" "[I", Cond.fieldLink RX4 30 "PeggedBells$Drum" "weights" "[I", Cond.fieldLink RX4 9 "PeggedBells$Round" "heardIn" "[I", Cond.methodLink RX4 22 yX1_allBack, Cond.instanceMethod yX1_allBack, Cond.selects RX1 yX1_allBack yX1_allBack, Cond.initialized RX1, Cond.code yX1_allBack cX1_allBack 1 none, Cond.fieldLink RX1 9 "PeggedBells$Hammers" "rests" "[I", Cond.methodLink RX1 15 yJ7_fill_53178]
def wsX5_longestSilence_r2 : List Cond := [Cond.static yJ7_fill_53178, Cond.initialized RJ7, Cond.code yJ7_fill_53178 cJ7_fill_53178 4 none, Cond.methodLink RX4 33 yX1_heardOutOf, Cond.instanceMethod yX1_heardOutOf, Cond.selects RX1 yX1_heardOutOf yX1_heardOutOf, Cond.code yX1_heardOutOf cX1_heardOutOf 8 (some .int), Cond.static yX5_holds, Cond.initialized RX5, Cond.code yX5_holds cX5_holds 2 (some .boolean), Cond.methodLink RX1 31 yX1_isBack, Cond.instanceMethod yX1_isBack, Cond.selects RX1 yX1_isBack yX1_isBack, Cond.code yX1_isBack cX1_isBack 3 (some .boolean), Cond.methodLink RX4 37 yX1_swing, Cond.instanceMethod yX1_swing, Cond.selects RX1 yX1_swing yX1_swing, Cond.code yX1_swing cX1_swing 3 none, Cond.methodLink RX1 34 Lib.Math.min.name, Cond.static Lib.Math.min.name, Cond.code Lib.Math.min.name Lib.Math.min.code 2 (some .int), Cond.methodLink RX4 41 yJ6_bitCount_0f7a4, Cond.static yJ6_bitCount_0f7a4, Cond.initialized RJ6]
def wsX5_longestSilence_r3 : List Cond := [Cond.code yJ6_bitCount_0f7a4 cJ6_bitCount_0f7a4 1 (some .int), Cond.constant RJ6 265 (1431655765), Cond.constant RJ6 266 (858993459), Cond.constant RJ6 267 (252645135)]
def wsX5_longestSilence : List Cond := .code yX5_longestSilence cX5_longestSilence 4 (some .int) :: ((wsX5_longestSilence_r1 ++ (wsX5_longestSilence_r2 ++ wsX5_longestSilence_r3)) ++ wsX50 ++ wsX00 ++ wsX40 ++ wsX10)
def wsX5_enoughBound_r1 : List Cond := [Cond.fieldLink RX5 19 "PeggedBells" "round" "LPeggedBells$Round;", Cond.fieldLink RX5 10 "PeggedBells" "drum" "LPeggedBells$Drum;", Cond.fieldLink RX5 169 "PeggedBells$Round" "heardIn" "[I", Cond.methodLink RX5 183 Lib.Math.max.name, Cond.static Lib.Math.max.name, Cond.initialized "java/lang/Math", Cond.code Lib.Math.max.name Lib.Math.max.code 2 (some .int), Cond.methodLink RX5 165 yX4_play, Cond.instanceMethod yX4_play, Cond.selects RX4 yX4_play yX4_play, Cond.initialized RX4, Cond.code yX4_play cX4_play 6 (some .int), Cond.fieldLink RX4 18 "PeggedBells$Round" "hammers" "LPeggedBells$Hammers;", Cond.fieldLink RX4 25 "PeggedBells$Drum" "pegs" "[I", Cond.fieldLink RX4 30 "PeggedBells$Drum" "weights" "[I", Cond.fieldLink RX4 9 "PeggedBells$Round" "heardIn" "[I", Cond.methodLink RX4 22 yX1_allBack, Cond.instanceMethod yX1_allBack, Cond.selects RX1 yX1_allBack yX1_allBack, Cond.initialized RX1, Cond.code yX1_allBack cX1_allBack 1 none, Cond.fieldLink RX1 9 "PeggedBells$Hammers" "rests" "[I", Cond.methodLink RX1 15 yJ7_fill_53178, Cond.static yJ7_fill_53178]
def wsX5_enoughBound_r2 : List Cond := [Cond.initialized RJ7, Cond.code yJ7_fill_53178 cJ7_fill_53178 4 none, Cond.methodLink RX4 33 yX1_heardOutOf, Cond.instanceMethod yX1_heardOutOf, Cond.selects RX1 yX1_heardOutOf yX1_heardOutOf, Cond.code yX1_heardOutOf cX1_heardOutOf 8 (some .int), Cond.static yX5_holds, Cond.initialized RX5, Cond.code yX5_holds cX5_holds 2 (some .boolean), Cond.methodLink RX1 31 yX1_isBack, Cond.instanceMethod yX1_isBack, Cond.selects RX1 yX1_isBack yX1_isBack, Cond.code yX1_isBack cX1_isBack 3 (some .boolean), Cond.methodLink RX4 37 yX1_swing, Cond.instanceMethod yX1_swing, Cond.selects RX1 yX1_swing yX1_swing, Cond.code yX1_swing cX1_swing 3 none, Cond.methodLink RX1 34 Lib.Math.min.name, Cond.static Lib.Math.min.name, Cond.code Lib.Math.min.name Lib.Math.min.code 2 (some .int), Cond.methodLink RX4 41 yJ6_bitCount_0f7a4, Cond.static yJ6_bitCount_0f7a4, Cond.initialized RJ6, Cond.code yJ6_bitCount_0f7a4 cJ6_bitCount_0f7a4 1 (some .int)]
def wsX5_enoughBound_r3 : List Cond := [Cond.constant RJ6 265 (1431655765), Cond.constant RJ6 266 (858993459), Cond.constant RJ6 267 (252645135), Cond.methodLink RX5 188 yX0_weightOfAll, Cond.instanceMethod yX0_weightOfAll, Cond.selects RX0 yX0_weightOfAll yX0_weightOfAll, Cond.initialized RX0, Cond.code yX0_weightOfAll cX0_weightOfAll 4 (some .int), Cond.fieldLink RX0 18 "PeggedBells$Drum" "weights" "[I"]
def wsX5_enoughBound : List Cond := .code yX5_enoughBound cX5_enoughBound 3 (some .int) :: ((wsX5_enoughBound_r1 ++ (wsX5_enoughBound_r2 ++ wsX5_enoughBound_r3)) ++ wsX50 ++ wsX40 ++ wsX00 ++ wsX10)
def wsX5_heaviestColumn_r1 : List Cond := [Cond.fieldLink RX5 19 "PeggedBells" "round" "LPeggedBells$Round;", Cond.fieldLink RX5 10 "PeggedBells" "drum" "LPeggedBells$Drum;", Cond.fieldLink RX5 97 "PeggedBells$Drum" "bound" "I", Cond.fieldLink RX5 169 "PeggedBells$Round" "heardIn" "[I", Cond.methodLink RX5 165 yX4_play, Cond.instanceMethod yX4_play, Cond.selects RX4 yX4_play yX4_play, Cond.initialized RX4, Cond.code yX4_play cX4_play 6 (some .int), Cond.fieldLink RX4 18 "PeggedBells$Round" "hammers" "LPeggedBells$Hammers;", Cond.fieldLink RX4 25 "PeggedBells$Drum" "pegs" "[I", Cond.fieldLink RX4 30 "PeggedBells$Drum" "weights" "[I", Cond.fieldLink RX4 9 "PeggedBells$Round" "heardIn" "[I", Cond.methodLink RX4 22 yX1_allBack, Cond.instanceMethod yX1_allBack, Cond.selects RX1 yX1_allBack yX1_allBack, Cond.initialized RX1, Cond.code yX1_allBack cX1_allBack 1 none, Cond.fieldLink RX1 9 "PeggedBells$Hammers" "rests" "[I", Cond.methodLink RX1 15 yJ7_fill_53178, Cond.static yJ7_fill_53178, Cond.initialized RJ7, Cond.code yJ7_fill_53178 cJ7_fill_53178 4 none, Cond.methodLink RX4 33 yX1_heardOutOf]
def wsX5_heaviestColumn_r2 : List Cond := [Cond.instanceMethod yX1_heardOutOf, Cond.selects RX1 yX1_heardOutOf yX1_heardOutOf, Cond.code yX1_heardOutOf cX1_heardOutOf 8 (some .int), Cond.static yX5_holds, Cond.initialized RX5, Cond.code yX5_holds cX5_holds 2 (some .boolean), Cond.methodLink RX1 31 yX1_isBack, Cond.instanceMethod yX1_isBack, Cond.selects RX1 yX1_isBack yX1_isBack, Cond.code yX1_isBack cX1_isBack 3 (some .boolean), Cond.methodLink RX4 37 yX1_swing, Cond.instanceMethod yX1_swing, Cond.selects RX1 yX1_swing yX1_swing, Cond.code yX1_swing cX1_swing 3 none, Cond.methodLink RX1 34 Lib.Math.min.name, Cond.static Lib.Math.min.name, Cond.initialized "java/lang/Math", Cond.code Lib.Math.min.name Lib.Math.min.code 2 (some .int), Cond.methodLink RX4 41 yJ6_bitCount_0f7a4, Cond.static yJ6_bitCount_0f7a4, Cond.initialized RJ6, Cond.code yJ6_bitCount_0f7a4 cJ6_bitCount_0f7a4 1 (some .int), Cond.constant RJ6 265 (1431655765), Cond.constant RJ6 266 (858993459)]
def wsX5_heaviestColumn_r3 : List Cond := [Cond.constant RJ6 267 (252645135), Cond.methodLink RX5 188 yX0_weightOfAll, Cond.instanceMethod yX0_weightOfAll, Cond.selects RX0 yX0_weightOfAll yX0_weightOfAll, Cond.initialized RX0, Cond.code yX0_weightOfAll cX0_weightOfAll 4 (some .int), Cond.fieldLink RX0 18 "PeggedBells$Drum" "weights" "[I"]
def wsX5_heaviestColumn : List Cond := .code yX5_heaviestColumn cX5_heaviestColumn 5 (some .int) :: ((wsX5_heaviestColumn_r1 ++ (wsX5_heaviestColumn_r2 ++ wsX5_heaviestColumn_r3)) ++ wsX50 ++ wsX00 ++ wsX40 ++ wsX10)
def wsX5_put : List Cond := .code yX5_put cX5_put 4 (some .int) :: ([.classLink RX5 69 "java/lang/IllegalArgumentException", .initialized "java/lang/IllegalArgumentException", .classLink RX5 200 "java/lang/IllegalStateException", .initialized "java/lang/IllegalStateException", .fieldLink RX5 26 "PeggedBells" "pad" "LPeggedBells$Pad;", .fieldLink RX5 127 "PeggedBells$Pad" "length" "I", .methodLink RX5 191 yX3_charactersIn, .static yX3_charactersIn, .initialized RX3, .code yX3_charactersIn cX3_charactersIn 7 (some .int), .constantLong RX3 19 (255), .constantLong RX3 21 (33), .constantLong RX3 23 (126), .methodLink RX5 197 yX3_hasRoomFor, .instanceMethod yX3_hasRoomFor, .selects RX3 yX3_hasRoomFor yX3_hasRoomFor, .code yX3_hasRoomFor cX3_hasRoomFor 2 (some .boolean), .fieldLink RX3 15 "PeggedBells$Pad" "length" "I", .methodLink RX5 205 yX3_append, .instanceMethod yX3_append, .selects RX3 yX3_append yX3_append, .code yX3_append cX3_append 5 none, .fieldLink RX3 11 "PeggedBells$Pad" "characters" "[C"] ++ wsX50 ++ wsX30 ++ (vx_atS RX5 73 "java/lang/IllegalArgumentException" ["java/lang/RuntimeException", "java/lang/Exception"]).filter goodWord ++ (vx_atS RX5 204 "java/lang/IllegalStateException" ["java/lang/RuntimeException", "java/lang/Exception"]).filter goodWord)
def wsX5_wipe : List Cond := .code yX5_wipe cX5_wipe 2 (some .int) :: ([.fieldLink RX5 26 "PeggedBells" "pad" "LPeggedBells$Pad;", .fieldLink RX5 127 "PeggedBells$Pad" "length" "I", .methodLink RX5 138 yX3_clear, .instanceMethod yX3_clear, .selects RX3 yX3_clear yX3_clear, .initialized RX3, .code yX3_clear cX3_clear 1 none, .fieldLink RX3 15 "PeggedBells$Pad" "length" "I"] ++ wsX50 ++ wsX30)
def wsX5_padLength : List Cond := .code yX5_padLength cX5_padLength 1 (some .int) :: ([.fieldLink RX5 26 "PeggedBells" "pad" "LPeggedBells$Pad;", .fieldLink RX5 127 "PeggedBells$Pad" "length" "I"] ++ wsX50 ++ wsX30)
def wsX5_fault : List Cond := .code yX5_fault cX5_fault 1 (some .int) :: ([.fieldLink RX5 26 "PeggedBells" "pad" "LPeggedBells$Pad;", .methodLink RX5 121 yX3_firstFault, .instanceMethod yX3_firstFault, .selects RX3 yX3_firstFault yX3_firstFault, .initialized RX3, .code yX3_firstFault cX3_firstFault 3 (some .int), .fieldLink RX3 15 "PeggedBells$Pad" "length" "I", .fieldLink RX3 11 "PeggedBells$Pad" "characters" "[C", .methodLink RX3 25 yX3_placeAfter, .static yX3_placeAfter, .code yX3_placeAfter cX3_placeAfter 2 (some .int), .methodLink RX3 29 yX3_placeAfterFirst, .static yX3_placeAfterFirst, .code yX3_placeAfterFirst cX3_placeAfterFirst 1 (some .int), .methodLink RX3 33 yX3_isIn, .static yX3_isIn, .code yX3_isIn cX3_isIn 3 (some .boolean), .methodLink RX3 37 yX3_placeAfterColumn, .static yX3_placeAfterColumn, .code yX3_placeAfterColumn cX3_placeAfterColumn 1 (some .int), .methodLink RX3 40 yX3_placeAfterPart, .static yX3_placeAfterPart, .code yX3_placeAfterPart cX3_placeAfterPart 1 (some .int)] ++ wsX50 ++ wsX30)
def wsX5_undo_r1 : List Cond := [Cond.fieldLink RX5 10 "PeggedBells" "drum" "LPeggedBells$Drum;", Cond.fieldLink RX5 33 "PeggedBells" "history" "LPeggedBells$History;", Cond.fieldLink RX5 217 "PeggedBells$History" "count" "I", Cond.methodLink RX5 209 yX2_takeLatest, Cond.instanceMethod yX2_takeLatest, Cond.selects RX2 yX2_takeLatest yX2_takeLatest, Cond.initialized RX2, Cond.code yX2_takeLatest cX2_takeLatest 1 (some (.object "PeggedBells$Drum")), Cond.classLink RX2 29 "java/lang/IllegalStateException", Cond.initialized "java/lang/IllegalStateException", Cond.fieldLink RX2 17 "PeggedBells$History" "count" "I", Cond.fieldLink RX2 11 "PeggedBells$History" "states" "[LPeggedBells$Drum;", Cond.methodLink RX5 213 yX0_copyFrom, Cond.instanceMethod yX0_copyFrom, Cond.selects RX0 yX0_copyFrom yX0_copyFrom, Cond.initialized RX0, Cond.code yX0_copyFrom cX0_copyFrom 2 none, Cond.fieldLink RX0 9 "PeggedBells$Drum" "pegs" "[I", Cond.methodLink RX0 53 arraycopyName, Cond.native arraycopyName, Cond.static arraycopyName, Cond.initialized "java/lang/System", Cond.fieldLink RX0 15 "PeggedBells$Drum" "tempos" "[I", Cond.fieldLink RX0 18 "PeggedBells$Drum" "weights" "[I"]
def wsX5_undo_r2 : List Cond := [Cond.fieldLink RX0 21 "PeggedBells$Drum" "timesHeard" "[I", Cond.fieldLink RX0 27 "PeggedBells$Drum" "hammers" "LPeggedBells$Hammers;", Cond.fieldLink RX0 31 "PeggedBells$Drum" "bound" "I", Cond.fieldLink RX0 35 "PeggedBells$Drum" "atHand" "I", Cond.fieldLink RX0 38 "PeggedBells$Drum" "ticks" "I", Cond.fieldLink RX0 41 "PeggedBells$Drum" "heardSoFar" "I", Cond.fieldLink RX0 44 "PeggedBells$Drum" "missedSoFar" "I", Cond.methodLink RX0 59 yX1_copyFrom, Cond.instanceMethod yX1_copyFrom, Cond.selects RX1 yX1_copyFrom yX1_copyFrom, Cond.initialized RX1, Cond.code yX1_copyFrom cX1_copyFrom 2 none, Cond.fieldLink RX1 9 "PeggedBells$Hammers" "rests" "[I", Cond.methodLink RX1 21 arraycopyName]
def wsX5_undo : List Cond := .code yX5_undo cX5_undo 1 (some .int) :: ((wsX5_undo_r1 ++ wsX5_undo_r2) ++ wsX50 ++ wsX20 ++ wsX00 ++ wsX10 ++ (vx_atS RX2 33 "java/lang/IllegalStateException" ["java/lang/RuntimeException", "java/lang/Exception"]).filter goodWord)
def wsX5_undoable : List Cond := .code yX5_undoable cX5_undoable 1 (some .int) :: ([.fieldLink RX5 33 "PeggedBells" "history" "LPeggedBells$History;", .fieldLink RX5 217 "PeggedBells$History" "count" "I"] ++ wsX50 ++ wsX20)
def wsX5_isSlot : List Cond := .code yX5_isSlot cX5_isSlot 1 (some .boolean) :: ([])
def wsX5_save_r1 : List Cond := [Cond.classLink RX5 48 "java/lang/IndexOutOfBoundsException", Cond.initialized "java/lang/IndexOutOfBoundsException", Cond.fieldLink RX5 37 "PeggedBells" "slots" "[LPeggedBells$Drum;", Cond.classLink RX5 7 RX0, Cond.instantiable RX0 10, Cond.initialized RX0, Cond.fieldLink RX5 10 "PeggedBells" "drum" "LPeggedBells$Drum;", Cond.methodLink RX5 220 yX5_isSlot, Cond.static yX5_isSlot, Cond.initialized RX5, Cond.code yX5_isSlot cX5_isSlot 1 (some .boolean), Cond.methodLink RX5 9 yX0_init, Cond.instanceMethod yX0_init, Cond.code yX0_init cX0_init 2 none, Cond.methodLink RX0 3 objectInit, Cond.instanceMethod objectInit, Cond.code objectInit ⟨#[0xb1]⟩ 1 none, Cond.arrayClass .int, Cond.fieldLink RX0 9 "PeggedBells$Drum" "pegs" "[I", Cond.fieldLink RX0 15 "PeggedBells$Drum" "tempos" "[I", Cond.fieldLink RX0 18 "PeggedBells$Drum" "weights" "[I", Cond.fieldLink RX0 21 "PeggedBells$Drum" "timesHeard" "[I", Cond.classLink RX0 24 RX1, Cond.instantiable RX1 1]
def wsX5_save_r2 : List Cond := [Cond.initialized RX1, Cond.fieldLink RX0 27 "PeggedBells$Drum" "hammers" "LPeggedBells$Hammers;", Cond.fieldLink RX0 31 "PeggedBells$Drum" "bound" "I", Cond.fieldLink RX0 35 "PeggedBells$Drum" "atHand" "I", Cond.fieldLink RX0 38 "PeggedBells$Drum" "ticks" "I", Cond.fieldLink RX0 41 "PeggedBells$Drum" "heardSoFar" "I", Cond.fieldLink RX0 44 "PeggedBells$Drum" "missedSoFar" "I", Cond.methodLink RX0 26 yX1_init, Cond.instanceMethod yX1_init, Cond.code yX1_init cX1_init 1 none, Cond.methodLink RX1 3 objectInit, Cond.fieldLink RX1 9 "PeggedBells$Hammers" "rests" "[I", Cond.methodLink RX1 15 yJ7_fill_53178, Cond.static yJ7_fill_53178, Cond.initialized RJ7, Cond.code yJ7_fill_53178 cJ7_fill_53178 4 none, Cond.methodLink RX0 47 yJ7_fill_53178, Cond.methodLink RX5 213 yX0_copyFrom, Cond.instanceMethod yX0_copyFrom, Cond.selects RX0 yX0_copyFrom yX0_copyFrom, Cond.code yX0_copyFrom cX0_copyFrom 2 none, Cond.methodLink RX0 53 arraycopyName, Cond.native arraycopyName, Cond.static arraycopyName]
def wsX5_save_r3 : List Cond := [Cond.initialized "java/lang/System", Cond.methodLink RX0 59 yX1_copyFrom, Cond.instanceMethod yX1_copyFrom, Cond.selects RX1 yX1_copyFrom yX1_copyFrom, Cond.code yX1_copyFrom cX1_copyFrom 2 none, Cond.methodLink RX1 21 arraycopyName, Cond.methodLink RX5 141 yX0_countPegs, Cond.instanceMethod yX0_countPegs, Cond.selects RX0 yX0_countPegs yX0_countPegs, Cond.code yX0_countPegs cX0_countPegs 3 (some .int), Cond.methodLink RX0 77 yJ6_bitCount_0f7a4, Cond.static yJ6_bitCount_0f7a4, Cond.initialized RJ6, Cond.code yJ6_bitCount_0f7a4 cJ6_bitCount_0f7a4 1 (some .int), Cond.constant RJ6 265 (1431655765), Cond.constant RJ6 266 (858993459), Cond.constant RJ6 267 (252645135)]
def wsX5_save : List Cond := .code yX5_save cX5_save 3 (some .int) :: ((wsX5_save_r1 ++ (wsX5_save_r2 ++ wsX5_save_r3)) ++ wsX50 ++ wsX00 ++ wsX10 ++ (vx_atS RX5 52 "java/lang/IndexOutOfBoundsException" ["java/lang/RuntimeException", "java/lang/Exception"]).filter goodWord)
def wsX5_restore_r1 : List Cond := [Cond.classLink RX5 48 "java/lang/IndexOutOfBoundsException", Cond.initialized "java/lang/IndexOutOfBoundsException", Cond.classLink RX5 200 "java/lang/IllegalStateException", Cond.initialized "java/lang/IllegalStateException", Cond.fieldLink RX5 37 "PeggedBells" "slots" "[LPeggedBells$Drum;", Cond.fieldLink RX5 33 "PeggedBells" "history" "LPeggedBells$History;", Cond.fieldLink RX5 10 "PeggedBells" "drum" "LPeggedBells$Drum;", Cond.methodLink RX5 220 yX5_isSlot, Cond.static yX5_isSlot, Cond.initialized RX5, Cond.code yX5_isSlot cX5_isSlot 1 (some .boolean), Cond.methodLink RX5 55 yX2_add, Cond.instanceMethod yX2_add, Cond.selects RX2 yX2_add yX2_add, Cond.initialized RX2, Cond.code yX2_add cX2_add 3 (some (.object "PeggedBells$Drum")), Cond.fieldLink RX2 17 "PeggedBells$History" "count" "I", Cond.fieldLink RX2 11 "PeggedBells$History" "states" "[LPeggedBells$Drum;", Cond.methodLink RX2 22 yX2_dropOldest, Cond.instanceMethod yX2_dropOldest, Cond.selects RX2 yX2_dropOldest yX2_dropOldest, Cond.code yX2_dropOldest cX2_dropOldest 3 none, Cond.methodLink RX2 25 yX0_copyFrom, Cond.instanceMethod yX0_copyFrom]
def wsX5_restore_r2 : List Cond := [Cond.selects RX0 yX0_copyFrom yX0_copyFrom, Cond.initialized RX0, Cond.code yX0_copyFrom cX0_copyFrom 2 none, Cond.fieldLink RX0 9 "PeggedBells$Drum" "pegs" "[I", Cond.methodLink RX0 53 arraycopyName, Cond.native arraycopyName, Cond.static arraycopyName, Cond.initialized "java/lang/System", Cond.fieldLink RX0 15 "PeggedBells$Drum" "tempos" "[I", Cond.fieldLink RX0 18 "PeggedBells$Drum" "weights" "[I", Cond.fieldLink RX0 21 "PeggedBells$Drum" "timesHeard" "[I", Cond.fieldLink RX0 27 "PeggedBells$Drum" "hammers" "LPeggedBells$Hammers;", Cond.fieldLink RX0 31 "PeggedBells$Drum" "bound" "I", Cond.fieldLink RX0 35 "PeggedBells$Drum" "atHand" "I", Cond.fieldLink RX0 38 "PeggedBells$Drum" "ticks" "I", Cond.fieldLink RX0 41 "PeggedBells$Drum" "heardSoFar" "I", Cond.fieldLink RX0 44 "PeggedBells$Drum" "missedSoFar" "I", Cond.methodLink RX0 59 yX1_copyFrom, Cond.instanceMethod yX1_copyFrom, Cond.selects RX1 yX1_copyFrom yX1_copyFrom, Cond.initialized RX1, Cond.code yX1_copyFrom cX1_copyFrom 2 none, Cond.fieldLink RX1 9 "PeggedBells$Hammers" "rests" "[I", Cond.methodLink RX1 21 arraycopyName]
def wsX5_restore_r3 : List Cond := [Cond.methodLink RX5 213 yX0_copyFrom, Cond.methodLink RX5 141 yX0_countPegs, Cond.instanceMethod yX0_countPegs, Cond.selects RX0 yX0_countPegs yX0_countPegs, Cond.code yX0_countPegs cX0_countPegs 3 (some .int), Cond.methodLink RX0 77 yJ6_bitCount_0f7a4, Cond.static yJ6_bitCount_0f7a4, Cond.initialized RJ6, Cond.code yJ6_bitCount_0f7a4 cJ6_bitCount_0f7a4 1 (some .int), Cond.constant RJ6 265 (1431655765), Cond.constant RJ6 266 (858993459), Cond.constant RJ6 267 (252645135)]
def wsX5_restore : List Cond := .code yX5_restore cX5_restore 3 (some .int) :: ((wsX5_restore_r1 ++ (wsX5_restore_r2 ++ wsX5_restore_r3)) ++ wsX50 ++ wsX20 ++ wsX00 ++ wsX10 ++ (vx_atS RX5 52 "java/lang/IndexOutOfBoundsException" ["java/lang/RuntimeException", "java/lang/Exception"]).filter goodWord ++ (vx_atS RX5 204 "java/lang/IllegalStateException" ["java/lang/RuntimeException", "java/lang/Exception"]).filter goodWord)
def wsX6_init : List Cond := .code yX6_init cX6_init 2 none :: ([.methodLink RX6 1 objectInit, .instanceMethod objectInit, .code objectInit ⟨#[0xb1]⟩ 1 none, .arrayClass .int, .fieldLink RX6 7 "PeggedBellsModel" "s" "[I", .fieldLink RX6 13 "PeggedBellsModel" "slots" "[I", .arrayClass .boolean, .fieldLink RX6 16 "PeggedBellsModel" "isSaved" "[Z", .fieldLink RX6 20 "PeggedBellsModel" "history" "[I", .fieldLink RX6 23 "PeggedBellsModel" "pad" "[I", .fieldLink RX6 26 "PeggedBellsModel" "hammers" "[I", .fieldLink RX6 29 "PeggedBellsModel" "sounds" "[I"] ++ wsX60)
def wsX6_thrown : List Cond := .code yX6_thrown cX6_thrown 1 (some .int) :: ([.fieldLink RX6 32 "PeggedBellsModel" "thrown" "I"] ++ wsX60)
def wsX6_in : List Cond := .code yX6_in cX6_in 3 (some .boolean) :: ([])
def wsX6_holds : List Cond := .code yX6_holds cX6_holds 2 (some .boolean) :: ([.fieldLink RX6 32 "PeggedBellsModel" "thrown" "I"] ++ wsX60)
def wsX6_isColumn : List Cond := .code yX6_isColumn cX6_isColumn 1 (some .boolean) :: ([.methodLink RX6 36 yX6_in, .static yX6_in, .initialized RX6, .code yX6_in cX6_in 3 (some .boolean)])
def wsX6_isBell : List Cond := .code yX6_isBell cX6_isBell 1 (some .boolean) :: ([.methodLink RX6 36 yX6_in, .static yX6_in, .initialized RX6, .code yX6_in cX6_in 3 (some .boolean)])
def wsX6_isBar : List Cond := .code yX6_isBar cX6_isBar 1 (some .boolean) :: ([.methodLink RX6 36 yX6_in, .static yX6_in, .initialized RX6, .code yX6_in cX6_in 3 (some .boolean)])
def wsX6_records : List Cond := .code yX6_records cX6_records 2 none :: ([.fieldLink RX6 40 "PeggedBellsModel" "known" "I", .fieldLink RX6 20 "PeggedBellsModel" "history" "[I", .fieldLink RX6 7 "PeggedBellsModel" "s" "[I"] ++ wsX60)
def wsX6_count : List Cond := .code yX6_count cX6_count 3 (some .int) :: ([])
def wsX6_allPegs : List Cond := .code yX6_allPegs cX6_allPegs 3 (some .int) :: ([.fieldLink RX6 7 "PeggedBellsModel" "s" "[I", .methodLink RX6 43 yX6_count, .static yX6_count, .initialized RX6, .code yX6_count cX6_count 3 (some .int)] ++ wsX60)
def wsX6_weightIn : List Cond := .code yX6_weightIn cX6_weightIn 4 (some .int) :: ([.fieldLink RX6 7 "PeggedBellsModel" "s" "[I"] ++ wsX60)
def wsX6_missedFor : List Cond := .code yX6_missedFor cX6_missedFor 5 (some .int) :: ([.fieldLink RX6 7 "PeggedBellsModel" "s" "[I", .methodLink RX6 47 yX6_weightIn, .instanceMethod yX6_weightIn, .selects RX6 yX6_weightIn yX6_weightIn, .initialized RX6, .code yX6_weightIn cX6_weightIn 4 (some .int)] ++ wsX60)
def wsX6_later : List Cond := .code yX6_later cX6_later 1 (some .int) :: ([])
def wsX6_strikes : List Cond := .code yX6_strikes cX6_strikes 6 (some .int) :: ([.fieldLink RX6 7 "PeggedBellsModel" "s" "[I", .methodLink RX6 50 yX6_missedFor, .instanceMethod yX6_missedFor, .selects RX6 yX6_missedFor yX6_missedFor, .initialized RX6, .code yX6_missedFor cX6_missedFor 5 (some .int), .methodLink RX6 47 yX6_weightIn, .instanceMethod yX6_weightIn, .selects RX6 yX6_weightIn yX6_weightIn, .code yX6_weightIn cX6_weightIn 4 (some .int), .methodLink RX6 54 yX6_later, .static yX6_later, .code yX6_later cX6_later 1 (some .int), .methodLink RX6 43 yX6_count, .static yX6_count, .code yX6_count cX6_count 3 (some .int)] ++ wsX60)
def wsX6_cranks : List Cond := .code yX6_cranks cX6_cranks 4 (some .int) :: ([.methodLink RX6 57 yX6_strikes, .instanceMethod yX6_strikes, .selects RX6 yX6_strikes yX6_strikes, .initialized RX6, .code yX6_strikes cX6_strikes 6 (some .int), .fieldLink RX6 7 "PeggedBellsModel" "s" "[I", .methodLink RX6 50 yX6_missedFor, .instanceMethod yX6_missedFor, .selects RX6 yX6_missedFor yX6_missedFor, .code yX6_missedFor cX6_missedFor 5 (some .int), .methodLink RX6 47 yX6_weightIn, .instanceMethod yX6_weightIn, .selects RX6 yX6_weightIn yX6_weightIn, .code yX6_weightIn cX6_weightIn 4 (some .int), .methodLink RX6 54 yX6_later, .static yX6_later, .code yX6_later cX6_later 1 (some .int), .methodLink RX6 43 yX6_count, .static yX6_count, .code yX6_count cX6_count 3 (some .int)] ++ wsX60)
def wsX6_rounds : List Cond := .code yX6_rounds cX6_rounds 8 none :: ([.fieldLink RX6 61 "PeggedBellsModel" "tooHeavy" "I", .fieldLink RX6 26 "PeggedBellsModel" "hammers" "[I", .fieldLink RX6 7 "PeggedBellsModel" "s" "[I", .fieldLink RX6 29 "PeggedBellsModel" "sounds" "[I", .methodLink RX6 50 yX6_missedFor, .instanceMethod yX6_missedFor, .selects RX6 yX6_missedFor yX6_missedFor, .initialized RX6, .code yX6_missedFor cX6_missedFor 5 (some .int), .methodLink RX6 47 yX6_weightIn, .instanceMethod yX6_weightIn, .selects RX6 yX6_weightIn yX6_weightIn, .code yX6_weightIn cX6_weightIn 4 (some .int), .methodLink RX6 54 yX6_later, .static yX6_later, .code yX6_later cX6_later 1 (some .int)] ++ wsX60)
def wsX6_heardOfRound : List Cond := .code yX6_heardOfRound cX6_heardOfRound 3 (some .int) :: ([.fieldLink RX6 7 "PeggedBellsModel" "s" "[I", .fieldLink RX6 29 "PeggedBellsModel" "sounds" "[I", .methodLink RX6 64 yX6_rounds, .instanceMethod yX6_rounds, .selects RX6 yX6_rounds yX6_rounds, .initialized RX6, .code yX6_rounds cX6_rounds 8 none, .fieldLink RX6 61 "PeggedBellsModel" "tooHeavy" "I", .fieldLink RX6 26 "PeggedBellsModel" "hammers" "[I", .methodLink RX6 50 yX6_missedFor, .instanceMethod yX6_missedFor, .selects RX6 yX6_missedFor yX6_missedFor, .code yX6_missedFor cX6_missedFor 5 (some .int), .methodLink RX6 47 yX6_weightIn, .instanceMethod yX6_weightIn, .selects RX6 yX6_weightIn yX6_weightIn, .code yX6_weightIn cX6_weightIn 4 (some .int), .methodLink RX6 54 yX6_later, .static yX6_later, .code yX6_later cX6_later 1 (some .int), .methodLink RX6 43 yX6_count, .static yX6_count, .code yX6_count cX6_count 3 (some .int)] ++ wsX60)
def wsX6_turnPeg : List Cond := .code yX6_turnPeg cX6_turnPeg 3 (some .boolean) :: ([.fieldLink RX6 7 "PeggedBellsModel" "s" "[I", .methodLink RX6 68 yX6_isColumn, .static yX6_isColumn, .initialized RX6, .code yX6_isColumn cX6_isColumn 1 (some .boolean), .methodLink RX6 36 yX6_in, .static yX6_in, .code yX6_in cX6_in 3 (some .boolean), .methodLink RX6 72 yX6_isBell, .static yX6_isBell, .code yX6_isBell cX6_isBell 1 (some .boolean), .methodLink RX6 75 yX6_holds, .instanceMethod yX6_holds, .selects RX6 yX6_holds yX6_holds, .code yX6_holds cX6_holds 2 (some .boolean), .fieldLink RX6 32 "PeggedBellsModel" "thrown" "I", .methodLink RX6 78 yX6_records, .instanceMethod yX6_records, .selects RX6 yX6_records yX6_records, .code yX6_records cX6_records 2 none, .fieldLink RX6 40 "PeggedBellsModel" "known" "I", .fieldLink RX6 20 "PeggedBellsModel" "history" "[I"] ++ wsX60)
def wsX6_lays : List Cond := .code yX6_lays cX6_lays 4 (some .int) :: ([.fieldLink RX6 7 "PeggedBellsModel" "s" "[I", .methodLink RX6 43 yX6_count, .static yX6_count, .initialized RX6, .code yX6_count cX6_count 3 (some .int)] ++ wsX60)
def wsX6_setColumn_r1 : List Cond := [Cond.methodLink RX6 68 yX6_isColumn, Cond.static yX6_isColumn, Cond.initialized RX6, Cond.code yX6_isColumn cX6_isColumn 1 (some .boolean), Cond.methodLink RX6 36 yX6_in, Cond.static yX6_in, Cond.code yX6_in cX6_in 3 (some .boolean), Cond.methodLink RX6 75 yX6_holds, Cond.instanceMethod yX6_holds, Cond.selects RX6 yX6_holds yX6_holds, Cond.code yX6_holds cX6_holds 2 (some .boolean), Cond.fieldLink RX6 32 "PeggedBellsModel" "thrown" "I", Cond.methodLink RX6 78 yX6_records, Cond.instanceMethod yX6_records, Cond.selects RX6 yX6_records yX6_records, Cond.code yX6_records cX6_records 2 none, Cond.fieldLink RX6 40 "PeggedBellsModel" "known" "I", Cond.fieldLink RX6 20 "PeggedBellsModel" "history" "[I", Cond.fieldLink RX6 7 "PeggedBellsModel" "s" "[I", Cond.methodLink RX6 81 yX6_lays, Cond.instanceMethod yX6_lays, Cond.selects RX6 yX6_lays yX6_lays, Cond.code yX6_lays cX6_lays 4 (some .int), Cond.methodLink RX6 43 yX6_count]
def wsX6_setColumn_r2 : List Cond := [Cond.static yX6_count, Cond.code yX6_count cX6_count 3 (some .int)]
def wsX6_setColumn : List Cond := .code yX6_setColumn cX6_setColumn 3 (some .int) :: ((wsX6_setColumn_r1 ++ wsX6_setColumn_r2) ++ wsX60)
def wsX6_changes : List Cond := .code yX6_changes cX6_changes 4 (some .int) :: ([.fieldLink RX6 7 "PeggedBellsModel" "s" "[I", .methodLink RX6 78 yX6_records, .instanceMethod yX6_records, .selects RX6 yX6_records yX6_records, .initialized RX6, .code yX6_records cX6_records 2 none, .fieldLink RX6 40 "PeggedBellsModel" "known" "I", .fieldLink RX6 20 "PeggedBellsModel" "history" "[I"] ++ wsX60)
def wsX6_setTempo : List Cond := .code yX6_setTempo cX6_setTempo 3 (some .int) :: ([.methodLink RX6 85 yX6_isBar, .static yX6_isBar, .initialized RX6, .code yX6_isBar cX6_isBar 1 (some .boolean), .methodLink RX6 36 yX6_in, .static yX6_in, .code yX6_in cX6_in 3 (some .boolean), .methodLink RX6 75 yX6_holds, .instanceMethod yX6_holds, .selects RX6 yX6_holds yX6_holds, .code yX6_holds cX6_holds 2 (some .boolean), .fieldLink RX6 32 "PeggedBellsModel" "thrown" "I", .methodLink RX6 88 yX6_changes, .instanceMethod yX6_changes, .selects RX6 yX6_changes yX6_changes, .code yX6_changes cX6_changes 4 (some .int), .fieldLink RX6 7 "PeggedBellsModel" "s" "[I", .methodLink RX6 78 yX6_records, .instanceMethod yX6_records, .selects RX6 yX6_records yX6_records, .code yX6_records cX6_records 2 none, .fieldLink RX6 40 "PeggedBellsModel" "known" "I", .fieldLink RX6 20 "PeggedBellsModel" "history" "[I"] ++ wsX60)
def wsX6_setWeight : List Cond := .code yX6_setWeight cX6_setWeight 3 (some .int) :: ([.methodLink RX6 72 yX6_isBell, .static yX6_isBell, .initialized RX6, .code yX6_isBell cX6_isBell 1 (some .boolean), .methodLink RX6 36 yX6_in, .static yX6_in, .code yX6_in cX6_in 3 (some .boolean), .methodLink RX6 75 yX6_holds, .instanceMethod yX6_holds, .selects RX6 yX6_holds yX6_holds, .code yX6_holds cX6_holds 2 (some .boolean), .fieldLink RX6 32 "PeggedBellsModel" "thrown" "I", .methodLink RX6 88 yX6_changes, .instanceMethod yX6_changes, .selects RX6 yX6_changes yX6_changes, .code yX6_changes cX6_changes 4 (some .int), .fieldLink RX6 7 "PeggedBellsModel" "s" "[I", .methodLink RX6 78 yX6_records, .instanceMethod yX6_records, .selects RX6 yX6_records yX6_records, .code yX6_records cX6_records 2 none, .fieldLink RX6 40 "PeggedBellsModel" "known" "I", .fieldLink RX6 20 "PeggedBellsModel" "history" "[I"] ++ wsX60)
def wsX6_setBound : List Cond := .code yX6_setBound cX6_setBound 2 (some .int) :: ([.methodLink RX6 36 yX6_in, .static yX6_in, .initialized RX6, .code yX6_in cX6_in 3 (some .boolean), .methodLink RX6 75 yX6_holds, .instanceMethod yX6_holds, .selects RX6 yX6_holds yX6_holds, .code yX6_holds cX6_holds 2 (some .boolean), .fieldLink RX6 32 "PeggedBellsModel" "thrown" "I", .methodLink RX6 88 yX6_changes, .instanceMethod yX6_changes, .selects RX6 yX6_changes yX6_changes, .code yX6_changes cX6_changes 4 (some .int), .fieldLink RX6 7 "PeggedBellsModel" "s" "[I", .methodLink RX6 78 yX6_records, .instanceMethod yX6_records, .selects RX6 yX6_records yX6_records, .code yX6_records cX6_records 2 none, .fieldLink RX6 40 "PeggedBellsModel" "known" "I", .fieldLink RX6 20 "PeggedBellsModel" "history" "[I"] ++ wsX60)
def wsX6_laysAll : List Cond := .code yX6_laysAll cX6_laysAll 3 (some .int) :: ([.fieldLink RX6 29 "PeggedBellsModel" "sounds" "[I", .methodLink RX6 81 yX6_lays, .instanceMethod yX6_lays, .selects RX6 yX6_lays yX6_lays, .initialized RX6, .code yX6_lays cX6_lays 4 (some .int), .fieldLink RX6 7 "PeggedBellsModel" "s" "[I", .methodLink RX6 43 yX6_count, .static yX6_count, .code yX6_count cX6_count 3 (some .int)] ++ wsX60)
def wsX6_turnRound : List Cond := .code yX6_turnRound cX6_turnRound 2 (some .int) :: ([.fieldLink RX6 32 "PeggedBellsModel" "thrown" "I", .fieldLink RX6 29 "PeggedBellsModel" "sounds" "[I", .fieldLink RX6 7 "PeggedBellsModel" "s" "[I", .methodLink RX6 78 yX6_records, .instanceMethod yX6_records, .selects RX6 yX6_records yX6_records, .initialized RX6, .code yX6_records cX6_records 2 none, .fieldLink RX6 40 "PeggedBellsModel" "known" "I", .fieldLink RX6 20 "PeggedBellsModel" "history" "[I", .methodLink RX6 91 yX6_laysAll, .instanceMethod yX6_laysAll, .selects RX6 yX6_laysAll yX6_laysAll, .code yX6_laysAll cX6_laysAll 3 (some .int), .methodLink RX6 81 yX6_lays, .instanceMethod yX6_lays, .selects RX6 yX6_lays yX6_lays, .code yX6_lays cX6_lays 4 (some .int), .methodLink RX6 43 yX6_count, .static yX6_count, .code yX6_count cX6_count 3 (some .int)] ++ wsX60)
def wsX6_move_r1 : List Cond := [Cond.fieldLink RX6 29 "PeggedBellsModel" "sounds" "[I", Cond.fieldLink RX6 7 "PeggedBellsModel" "s" "[I", Cond.methodLink RX6 36 yX6_in, Cond.static yX6_in, Cond.initialized RX6, Cond.code yX6_in cX6_in 3 (some .boolean), Cond.methodLink RX6 75 yX6_holds, Cond.instanceMethod yX6_holds, Cond.selects RX6 yX6_holds yX6_holds, Cond.code yX6_holds cX6_holds 2 (some .boolean), Cond.fieldLink RX6 32 "PeggedBellsModel" "thrown" "I", Cond.methodLink RX6 78 yX6_records, Cond.instanceMethod yX6_records, Cond.selects RX6 yX6_records yX6_records, Cond.code yX6_records cX6_records 2 none, Cond.fieldLink RX6 40 "PeggedBellsModel" "known" "I", Cond.fieldLink RX6 20 "PeggedBellsModel" "history" "[I", Cond.methodLink RX6 91 yX6_laysAll, Cond.instanceMethod yX6_laysAll, Cond.selects RX6 yX6_laysAll yX6_laysAll, Cond.code yX6_laysAll cX6_laysAll 3 (some .int), Cond.methodLink RX6 81 yX6_lays, Cond.instanceMethod yX6_lays, Cond.selects RX6 yX6_lays yX6_lays]
def wsX6_move_r2 : List Cond := [Cond.code yX6_lays cX6_lays 4 (some .int), Cond.methodLink RX6 43 yX6_count, Cond.static yX6_count, Cond.code yX6_count cX6_count 3 (some .int)]
def wsX6_move : List Cond := .code yX6_move cX6_move 3 (some .int) :: ((wsX6_move_r1 ++ wsX6_move_r2) ++ wsX60)
def wsX6_raise : List Cond := .code yX6_raise cX6_raise 3 (some .int) :: ([.fieldLink RX6 32 "PeggedBellsModel" "thrown" "I", .fieldLink RX6 7 "PeggedBellsModel" "s" "[I", .methodLink RX6 78 yX6_records, .instanceMethod yX6_records, .selects RX6 yX6_records yX6_records, .initialized RX6, .code yX6_records cX6_records 2 none, .fieldLink RX6 40 "PeggedBellsModel" "known" "I", .fieldLink RX6 20 "PeggedBellsModel" "history" "[I"] ++ wsX60)
def wsX6_crank_r1 : List Cond := [Cond.methodLink RX6 36 yX6_in, Cond.static yX6_in, Cond.initialized RX6, Cond.code yX6_in cX6_in 3 (some .boolean), Cond.methodLink RX6 75 yX6_holds, Cond.instanceMethod yX6_holds, Cond.selects RX6 yX6_holds yX6_holds, Cond.code yX6_holds cX6_holds 2 (some .boolean), Cond.fieldLink RX6 32 "PeggedBellsModel" "thrown" "I", Cond.methodLink RX6 78 yX6_records, Cond.instanceMethod yX6_records, Cond.selects RX6 yX6_records yX6_records, Cond.code yX6_records cX6_records 2 none, Cond.fieldLink RX6 40 "PeggedBellsModel" "known" "I", Cond.fieldLink RX6 20 "PeggedBellsModel" "history" "[I", Cond.fieldLink RX6 7 "PeggedBellsModel" "s" "[I", Cond.methodLink RX6 94 yX6_cranks, Cond.instanceMethod yX6_cranks, Cond.selects RX6 yX6_cranks yX6_cranks, Cond.code yX6_cranks cX6_cranks 4 (some .int), Cond.methodLink RX6 57 yX6_strikes, Cond.instanceMethod yX6_strikes, Cond.selects RX6 yX6_strikes yX6_strikes, Cond.code yX6_strikes cX6_strikes 6 (some .int)]
def wsX6_crank_r2 : List Cond := [Cond.methodLink RX6 50 yX6_missedFor, Cond.instanceMethod yX6_missedFor, Cond.selects RX6 yX6_missedFor yX6_missedFor, Cond.code yX6_missedFor cX6_missedFor 5 (some .int), Cond.methodLink RX6 47 yX6_weightIn, Cond.instanceMethod yX6_weightIn, Cond.selects RX6 yX6_weightIn yX6_weightIn, Cond.code yX6_weightIn cX6_weightIn 4 (some .int), Cond.methodLink RX6 54 yX6_later, Cond.static yX6_later, Cond.code yX6_later cX6_later 1 (some .int), Cond.methodLink RX6 43 yX6_count, Cond.static yX6_count, Cond.code yX6_count cX6_count 3 (some .int)]
def wsX6_crank : List Cond := .code yX6_crank cX6_crank 2 (some .int) :: ((wsX6_crank_r1 ++ wsX6_crank_r2) ++ wsX60)
def wsX6_turnBack : List Cond := .code yX6_turnBack cX6_turnBack 3 (some .int) :: ([.fieldLink RX6 32 "PeggedBellsModel" "thrown" "I", .fieldLink RX6 7 "PeggedBellsModel" "s" "[I", .methodLink RX6 78 yX6_records, .instanceMethod yX6_records, .selects RX6 yX6_records yX6_records, .initialized RX6, .code yX6_records cX6_records 2 none, .fieldLink RX6 40 "PeggedBellsModel" "known" "I", .fieldLink RX6 20 "PeggedBellsModel" "history" "[I"] ++ wsX60)
def wsX6_pegsIn : List Cond := .code yX6_pegsIn cX6_pegsIn 2 (some .int) :: ([.fieldLink RX6 7 "PeggedBellsModel" "s" "[I", .methodLink RX6 68 yX6_isColumn, .static yX6_isColumn, .initialized RX6, .code yX6_isColumn cX6_isColumn 1 (some .boolean), .methodLink RX6 36 yX6_in, .static yX6_in, .code yX6_in cX6_in 3 (some .boolean), .methodLink RX6 75 yX6_holds, .instanceMethod yX6_holds, .selects RX6 yX6_holds yX6_holds, .code yX6_holds cX6_holds 2 (some .boolean), .fieldLink RX6 32 "PeggedBellsModel" "thrown" "I"] ++ wsX60)
def wsX6_pegs : List Cond := .code yX6_pegs cX6_pegs 1 (some .int) :: ([.fieldLink RX6 32 "PeggedBellsModel" "thrown" "I", .methodLink RX6 97 yX6_allPegs, .instanceMethod yX6_allPegs, .selects RX6 yX6_allPegs yX6_allPegs, .initialized RX6, .code yX6_allPegs cX6_allPegs 3 (some .int), .fieldLink RX6 7 "PeggedBellsModel" "s" "[I", .methodLink RX6 43 yX6_count, .static yX6_count, .code yX6_count cX6_count 3 (some .int)] ++ wsX60)
def wsX6_tempoOf : List Cond := .code yX6_tempoOf cX6_tempoOf 2 (some .int) :: ([.fieldLink RX6 7 "PeggedBellsModel" "s" "[I", .methodLink RX6 85 yX6_isBar, .static yX6_isBar, .initialized RX6, .code yX6_isBar cX6_isBar 1 (some .boolean), .methodLink RX6 36 yX6_in, .static yX6_in, .code yX6_in cX6_in 3 (some .boolean), .methodLink RX6 75 yX6_holds, .instanceMethod yX6_holds, .selects RX6 yX6_holds yX6_holds, .code yX6_holds cX6_holds 2 (some .boolean), .fieldLink RX6 32 "PeggedBellsModel" "thrown" "I"] ++ wsX60)
def wsX6_weightOf : List Cond := .code yX6_weightOf cX6_weightOf 2 (some .int) :: ([.fieldLink RX6 7 "PeggedBellsModel" "s" "[I", .methodLink RX6 72 yX6_isBell, .static yX6_isBell, .initialized RX6, .code yX6_isBell cX6_isBell 1 (some .boolean), .methodLink RX6 36 yX6_in, .static yX6_in, .code yX6_in cX6_in 3 (some .boolean), .methodLink RX6 75 yX6_holds, .instanceMethod yX6_holds, .selects RX6 yX6_holds yX6_holds, .code yX6_holds cX6_holds 2 (some .boolean), .fieldLink RX6 32 "PeggedBellsModel" "thrown" "I"] ++ wsX60)
def wsX6_column : List Cond := .code yX6_column cX6_column 1 (some .int) :: ([.fieldLink RX6 32 "PeggedBellsModel" "thrown" "I", .fieldLink RX6 7 "PeggedBellsModel" "s" "[I"] ++ wsX60)
def wsX6_time : List Cond := .code yX6_time cX6_time 1 (some .int) :: ([.fieldLink RX6 32 "PeggedBellsModel" "thrown" "I", .fieldLink RX6 7 "PeggedBellsModel" "s" "[I"] ++ wsX60)
def wsX6_heardOf : List Cond := .code yX6_heardOf cX6_heardOf 2 (some .int) :: ([.fieldLink RX6 7 "PeggedBellsModel" "s" "[I", .methodLink RX6 72 yX6_isBell, .static yX6_isBell, .initialized RX6, .code yX6_isBell cX6_isBell 1 (some .boolean), .methodLink RX6 36 yX6_in, .static yX6_in, .code yX6_in cX6_in 3 (some .boolean), .methodLink RX6 75 yX6_holds, .instanceMethod yX6_holds, .selects RX6 yX6_holds yX6_holds, .code yX6_holds cX6_holds 2 (some .boolean), .fieldLink RX6 32 "PeggedBellsModel" "thrown" "I"] ++ wsX60)
def wsX6_heard : List Cond := .code yX6_heard cX6_heard 4 (some .int) :: ([.fieldLink RX6 32 "PeggedBellsModel" "thrown" "I", .fieldLink RX6 7 "PeggedBellsModel" "s" "[I"] ++ wsX60)
def wsX6_missed : List Cond := .code yX6_missed cX6_missed 1 (some .int) :: ([.fieldLink RX6 32 "PeggedBellsModel" "thrown" "I", .fieldLink RX6 7 "PeggedBellsModel" "s" "[I"] ++ wsX60)
def wsX6_whyMissed : List Cond := .code yX6_whyMissed cX6_whyMissed 6 (some .int) :: ([.fieldLink RX6 7 "PeggedBellsModel" "s" "[I", .methodLink RX6 72 yX6_isBell, .static yX6_isBell, .initialized RX6, .code yX6_isBell cX6_isBell 1 (some .boolean), .methodLink RX6 36 yX6_in, .static yX6_in, .code yX6_in cX6_in 3 (some .boolean), .methodLink RX6 75 yX6_holds, .instanceMethod yX6_holds, .selects RX6 yX6_holds yX6_holds, .code yX6_holds cX6_holds 2 (some .boolean), .fieldLink RX6 32 "PeggedBellsModel" "thrown" "I", .methodLink RX6 50 yX6_missedFor, .instanceMethod yX6_missedFor, .selects RX6 yX6_missedFor yX6_missedFor, .code yX6_missedFor cX6_missedFor 5 (some .int), .methodLink RX6 47 yX6_weightIn, .instanceMethod yX6_weightIn, .selects RX6 yX6_weightIn yX6_weightIn, .code yX6_weightIn cX6_weightIn 4 (some .int)] ++ wsX60)
def wsX6_inRound_r1 : List Cond := [Cond.fieldLink RX6 7 "PeggedBellsModel" "s" "[I", Cond.fieldLink RX6 29 "PeggedBellsModel" "sounds" "[I", Cond.methodLink RX6 68 yX6_isColumn, Cond.static yX6_isColumn, Cond.initialized RX6, Cond.code yX6_isColumn cX6_isColumn 1 (some .boolean), Cond.methodLink RX6 36 yX6_in, Cond.static yX6_in, Cond.code yX6_in cX6_in 3 (some .boolean), Cond.methodLink RX6 75 yX6_holds, Cond.instanceMethod yX6_holds, Cond.selects RX6 yX6_holds yX6_holds, Cond.code yX6_holds cX6_holds 2 (some .boolean), Cond.fieldLink RX6 32 "PeggedBellsModel" "thrown" "I", Cond.methodLink RX6 64 yX6_rounds, Cond.instanceMethod yX6_rounds, Cond.selects RX6 yX6_rounds yX6_rounds, Cond.code yX6_rounds cX6_rounds 8 none, Cond.fieldLink RX6 61 "PeggedBellsModel" "tooHeavy" "I", Cond.fieldLink RX6 26 "PeggedBellsModel" "hammers" "[I", Cond.methodLink RX6 50 yX6_missedFor, Cond.instanceMethod yX6_missedFor, Cond.selects RX6 yX6_missedFor yX6_missedFor, Cond.code yX6_missedFor cX6_missedFor 5 (some .int)]
def wsX6_inRound_r2 : List Cond := [Cond.methodLink RX6 47 yX6_weightIn, Cond.instanceMethod yX6_weightIn, Cond.selects RX6 yX6_weightIn yX6_weightIn, Cond.code yX6_weightIn cX6_weightIn 4 (some .int), Cond.methodLink RX6 54 yX6_later, Cond.static yX6_later, Cond.code yX6_later cX6_later 1 (some .int)]
def wsX6_inRound : List Cond := .code yX6_inRound cX6_inRound 2 (some .int) :: ((wsX6_inRound_r1 ++ wsX6_inRound_r2) ++ wsX60)
def wsX6_heardInRound_r1 : List Cond := [Cond.fieldLink RX6 32 "PeggedBellsModel" "thrown" "I", Cond.methodLink RX6 100 yX6_heardOfRound, Cond.instanceMethod yX6_heardOfRound, Cond.selects RX6 yX6_heardOfRound yX6_heardOfRound, Cond.initialized RX6, Cond.code yX6_heardOfRound cX6_heardOfRound 3 (some .int), Cond.fieldLink RX6 7 "PeggedBellsModel" "s" "[I", Cond.fieldLink RX6 29 "PeggedBellsModel" "sounds" "[I", Cond.methodLink RX6 64 yX6_rounds, Cond.instanceMethod yX6_rounds, Cond.selects RX6 yX6_rounds yX6_rounds, Cond.code yX6_rounds cX6_rounds 8 none, Cond.fieldLink RX6 61 "PeggedBellsModel" "tooHeavy" "I", Cond.fieldLink RX6 26 "PeggedBellsModel" "hammers" "[I", Cond.methodLink RX6 50 yX6_missedFor, Cond.instanceMethod yX6_missedFor, Cond.selects RX6 yX6_missedFor yX6_missedFor, Cond.code yX6_missedFor cX6_missedFor 5 (some .int), Cond.methodLink RX6 47 yX6_weightIn, Cond.instanceMethod yX6_weightIn, Cond.selects RX6 yX6_weightIn yX6_weightIn, Cond.code yX6_weightIn cX6_weightIn 4 (some .int), Cond.methodLink RX6 54 yX6_later, Cond.static yX6_later]
def wsX6_heardInRound_r2 : List Cond := [Cond.code yX6_later cX6_later 1 (some .int), Cond.methodLink RX6 43 yX6_count, Cond.static yX6_count, Cond.code yX6_count cX6_count 3 (some .int)]
def wsX6_heardInRound : List Cond := .code yX6_heardInRound cX6_heardInRound 2 (some .int) :: ((wsX6_heardInRound_r1 ++ wsX6_heardInRound_r2) ++ wsX60)
def wsX6_ticksOfRound : List Cond := .code yX6_ticksOfRound cX6_ticksOfRound 4 (some .int) :: ([.fieldLink RX6 32 "PeggedBellsModel" "thrown" "I", .fieldLink RX6 7 "PeggedBellsModel" "s" "[I"] ++ wsX60)
def wsX6_missedInRound_r1 : List Cond := [Cond.fieldLink RX6 32 "PeggedBellsModel" "thrown" "I", Cond.methodLink RX6 97 yX6_allPegs, Cond.instanceMethod yX6_allPegs, Cond.selects RX6 yX6_allPegs yX6_allPegs, Cond.initialized RX6, Cond.code yX6_allPegs cX6_allPegs 3 (some .int), Cond.fieldLink RX6 7 "PeggedBellsModel" "s" "[I", Cond.methodLink RX6 43 yX6_count, Cond.static yX6_count, Cond.code yX6_count cX6_count 3 (some .int), Cond.methodLink RX6 100 yX6_heardOfRound, Cond.instanceMethod yX6_heardOfRound, Cond.selects RX6 yX6_heardOfRound yX6_heardOfRound, Cond.code yX6_heardOfRound cX6_heardOfRound 3 (some .int), Cond.fieldLink RX6 29 "PeggedBellsModel" "sounds" "[I", Cond.methodLink RX6 64 yX6_rounds, Cond.instanceMethod yX6_rounds, Cond.selects RX6 yX6_rounds yX6_rounds, Cond.code yX6_rounds cX6_rounds 8 none, Cond.fieldLink RX6 61 "PeggedBellsModel" "tooHeavy" "I", Cond.fieldLink RX6 26 "PeggedBellsModel" "hammers" "[I", Cond.methodLink RX6 50 yX6_missedFor, Cond.instanceMethod yX6_missedFor, Cond.selects RX6 yX6_missedFor yX6_missedFor]
def wsX6_missedInRound_r2 : List Cond := [Cond.code yX6_missedFor cX6_missedFor 5 (some .int), Cond.methodLink RX6 47 yX6_weightIn, Cond.instanceMethod yX6_weightIn, Cond.selects RX6 yX6_weightIn yX6_weightIn, Cond.code yX6_weightIn cX6_weightIn 4 (some .int), Cond.methodLink RX6 54 yX6_later, Cond.static yX6_later, Cond.code yX6_later cX6_later 1 (some .int)]
def wsX6_missedInRound : List Cond := .code yX6_missedInRound cX6_missedInRound 1 (some .int) :: ((wsX6_missedInRound_r1 ++ wsX6_missedInRound_r2) ++ wsX60)
def wsX6_busiest : List Cond := .code yX6_busiest cX6_busiest 6 (some .int) :: ([.fieldLink RX6 32 "PeggedBellsModel" "thrown" "I", .fieldLink RX6 7 "PeggedBellsModel" "s" "[I", .fieldLink RX6 29 "PeggedBellsModel" "sounds" "[I", .methodLink RX6 64 yX6_rounds, .instanceMethod yX6_rounds, .selects RX6 yX6_rounds yX6_rounds, .initialized RX6, .code yX6_rounds cX6_rounds 8 none, .fieldLink RX6 61 "PeggedBellsModel" "tooHeavy" "I", .fieldLink RX6 26 "PeggedBellsModel" "hammers" "[I", .methodLink RX6 50 yX6_missedFor, .instanceMethod yX6_missedFor, .selects RX6 yX6_missedFor yX6_missedFor, .code yX6_missedFor cX6_missedFor 5 (some .int), .methodLink RX6 47 yX6_weightIn, .instanceMethod yX6_weightIn, .selects RX6 yX6_weightIn yX6_weightIn, .code yX6_weightIn cX6_weightIn 4 (some .int), .methodLink RX6 54 yX6_later, .static yX6_later, .code yX6_later cX6_later 1 (some .int)] ++ wsX60)
def wsX6_longestSilence : List Cond := .code yX6_longestSilence cX6_longestSilence 4 (some .int) :: ([.fieldLink RX6 32 "PeggedBellsModel" "thrown" "I", .fieldLink RX6 7 "PeggedBellsModel" "s" "[I", .fieldLink RX6 29 "PeggedBellsModel" "sounds" "[I", .methodLink RX6 64 yX6_rounds, .instanceMethod yX6_rounds, .selects RX6 yX6_rounds yX6_rounds, .initialized RX6, .code yX6_rounds cX6_rounds 8 none, .fieldLink RX6 61 "PeggedBellsModel" "tooHeavy" "I", .fieldLink RX6 26 "PeggedBellsModel" "hammers" "[I", .methodLink RX6 50 yX6_missedFor, .instanceMethod yX6_missedFor, .selects RX6 yX6_missedFor yX6_missedFor, .code yX6_missedFor cX6_missedFor 5 (some .int), .methodLink RX6 47 yX6_weightIn, .instanceMethod yX6_weightIn, .selects RX6 yX6_weightIn yX6_weightIn, .code yX6_weightIn cX6_weightIn 4 (some .int), .methodLink RX6 54 yX6_later, .static yX6_later, .code yX6_later cX6_later 1 (some .int)] ++ wsX60)
def wsX6_enoughBound : List Cond := .code yX6_enoughBound cX6_enoughBound 2 (some .int) :: ([.fieldLink RX6 32 "PeggedBellsModel" "thrown" "I", .fieldLink RX6 61 "PeggedBellsModel" "tooHeavy" "I", .methodLink RX6 64 yX6_rounds, .instanceMethod yX6_rounds, .selects RX6 yX6_rounds yX6_rounds, .initialized RX6, .code yX6_rounds cX6_rounds 8 none, .fieldLink RX6 26 "PeggedBellsModel" "hammers" "[I", .fieldLink RX6 7 "PeggedBellsModel" "s" "[I", .fieldLink RX6 29 "PeggedBellsModel" "sounds" "[I", .methodLink RX6 50 yX6_missedFor, .instanceMethod yX6_missedFor, .selects RX6 yX6_missedFor yX6_missedFor, .code yX6_missedFor cX6_missedFor 5 (some .int), .methodLink RX6 47 yX6_weightIn, .instanceMethod yX6_weightIn, .selects RX6 yX6_weightIn yX6_weightIn, .code yX6_weightIn cX6_weightIn 4 (some .int), .methodLink RX6 54 yX6_later, .static yX6_later, .code yX6_later cX6_later 1 (some .int)] ++ wsX60)
def wsX6_heaviestColumn : List Cond := .code yX6_heaviestColumn cX6_heaviestColumn 5 (some .int) :: ([.fieldLink RX6 32 "PeggedBellsModel" "thrown" "I", .fieldLink RX6 7 "PeggedBellsModel" "s" "[I", .fieldLink RX6 29 "PeggedBellsModel" "sounds" "[I", .methodLink RX6 64 yX6_rounds, .instanceMethod yX6_rounds, .selects RX6 yX6_rounds yX6_rounds, .initialized RX6, .code yX6_rounds cX6_rounds 8 none, .fieldLink RX6 61 "PeggedBellsModel" "tooHeavy" "I", .fieldLink RX6 26 "PeggedBellsModel" "hammers" "[I", .methodLink RX6 50 yX6_missedFor, .instanceMethod yX6_missedFor, .selects RX6 yX6_missedFor yX6_missedFor, .code yX6_missedFor cX6_missedFor 5 (some .int), .methodLink RX6 47 yX6_weightIn, .instanceMethod yX6_weightIn, .selects RX6 yX6_weightIn yX6_weightIn, .code yX6_weightIn cX6_weightIn 4 (some .int), .methodLink RX6 54 yX6_later, .static yX6_later, .code yX6_later cX6_later 1 (some .int)] ++ wsX60)
def wsX6_put : List Cond := .code yX6_put cX6_put 8 (some .int) :: ([.constantLong RX6 103 (255), .fieldLink RX6 105 "PeggedBellsModel" "length" "I", .fieldLink RX6 23 "PeggedBellsModel" "pad" "[I", .methodLink RX6 36 yX6_in, .static yX6_in, .initialized RX6, .code yX6_in cX6_in 3 (some .boolean), .methodLink RX6 75 yX6_holds, .instanceMethod yX6_holds, .selects RX6 yX6_holds yX6_holds, .code yX6_holds cX6_holds 2 (some .boolean), .fieldLink RX6 32 "PeggedBellsModel" "thrown" "I"] ++ wsX60)
def wsX6_wipe : List Cond := .code yX6_wipe cX6_wipe 2 (some .int) :: ([.fieldLink RX6 32 "PeggedBellsModel" "thrown" "I", .fieldLink RX6 105 "PeggedBellsModel" "length" "I"] ++ wsX60)
def wsX6_padLength : List Cond := .code yX6_padLength cX6_padLength 1 (some .int) :: ([.fieldLink RX6 32 "PeggedBellsModel" "thrown" "I", .fieldLink RX6 105 "PeggedBellsModel" "length" "I"] ++ wsX60)
def wsX6_charAt : List Cond := .code yX6_charAt cX6_charAt 2 (some .int) :: ([.fieldLink RX6 105 "PeggedBellsModel" "length" "I", .fieldLink RX6 23 "PeggedBellsModel" "pad" "[I"] ++ wsX60)
def wsX6_isDigit : List Cond := .code yX6_isDigit cX6_isDigit 2 (some .boolean) :: ([.methodLink RX6 108 yX6_charAt, .instanceMethod yX6_charAt, .selects RX6 yX6_charAt yX6_charAt, .initialized RX6, .code yX6_charAt cX6_charAt 2 (some .int), .fieldLink RX6 105 "PeggedBellsModel" "length" "I", .fieldLink RX6 23 "PeggedBellsModel" "pad" "[I", .methodLink RX6 36 yX6_in, .static yX6_in, .code yX6_in cX6_in 3 (some .boolean)] ++ wsX60)
def wsX6_behindColumn : List Cond := .code yX6_behindColumn cX6_behindColumn 3 (some .int) :: ([.methodLink RX6 108 yX6_charAt, .instanceMethod yX6_charAt, .selects RX6 yX6_charAt yX6_charAt, .initialized RX6, .code yX6_charAt cX6_charAt 2 (some .int), .fieldLink RX6 105 "PeggedBellsModel" "length" "I", .fieldLink RX6 23 "PeggedBellsModel" "pad" "[I", .methodLink RX6 111 yX6_isDigit, .instanceMethod yX6_isDigit, .selects RX6 yX6_isDigit yX6_isDigit, .code yX6_isDigit cX6_isDigit 2 (some .boolean), .methodLink RX6 36 yX6_in, .static yX6_in, .code yX6_in cX6_in 3 (some .boolean)] ++ wsX60)
def wsX6_behindPart : List Cond := .code yX6_behindPart cX6_behindPart 4 (some .int) :: ([.methodLink RX6 108 yX6_charAt, .instanceMethod yX6_charAt, .selects RX6 yX6_charAt yX6_charAt, .initialized RX6, .code yX6_charAt cX6_charAt 2 (some .int), .fieldLink RX6 105 "PeggedBellsModel" "length" "I", .fieldLink RX6 23 "PeggedBellsModel" "pad" "[I", .methodLink RX6 36 yX6_in, .static yX6_in, .code yX6_in cX6_in 3 (some .boolean), .methodLink RX6 111 yX6_isDigit, .instanceMethod yX6_isDigit, .selects RX6 yX6_isDigit yX6_isDigit, .code yX6_isDigit cX6_isDigit 2 (some .boolean), .methodLink RX6 114 yX6_behindColumn, .instanceMethod yX6_behindColumn, .selects RX6 yX6_behindColumn yX6_behindColumn, .code yX6_behindColumn cX6_behindColumn 3 (some .int)] ++ wsX60)
def wsX6_wrong : List Cond := .code yX6_wrong cX6_wrong 3 (some .int) :: ([.fieldLink RX6 105 "PeggedBellsModel" "length" "I", .fieldLink RX6 23 "PeggedBellsModel" "pad" "[I", .methodLink RX6 117 yX6_behindPart, .instanceMethod yX6_behindPart, .selects RX6 yX6_behindPart yX6_behindPart, .initialized RX6, .code yX6_behindPart cX6_behindPart 4 (some .int), .methodLink RX6 108 yX6_charAt, .instanceMethod yX6_charAt, .selects RX6 yX6_charAt yX6_charAt, .code yX6_charAt cX6_charAt 2 (some .int), .methodLink RX6 36 yX6_in, .static yX6_in, .code yX6_in cX6_in 3 (some .boolean), .methodLink RX6 111 yX6_isDigit, .instanceMethod yX6_isDigit, .selects RX6 yX6_isDigit yX6_isDigit, .code yX6_isDigit cX6_isDigit 2 (some .boolean), .methodLink RX6 114 yX6_behindColumn, .instanceMethod yX6_behindColumn, .selects RX6 yX6_behindColumn yX6_behindColumn, .code yX6_behindColumn cX6_behindColumn 3 (some .int)] ++ wsX60)
def wsX6_fault_r1 : List Cond := [Cond.fieldLink RX6 32 "PeggedBellsModel" "thrown" "I", Cond.methodLink RX6 120 yX6_wrong, Cond.instanceMethod yX6_wrong, Cond.selects RX6 yX6_wrong yX6_wrong, Cond.initialized RX6, Cond.code yX6_wrong cX6_wrong 3 (some .int), Cond.fieldLink RX6 105 "PeggedBellsModel" "length" "I", Cond.fieldLink RX6 23 "PeggedBellsModel" "pad" "[I", Cond.methodLink RX6 117 yX6_behindPart, Cond.instanceMethod yX6_behindPart, Cond.selects RX6 yX6_behindPart yX6_behindPart, Cond.code yX6_behindPart cX6_behindPart 4 (some .int), Cond.methodLink RX6 108 yX6_charAt, Cond.instanceMethod yX6_charAt, Cond.selects RX6 yX6_charAt yX6_charAt, Cond.code yX6_charAt cX6_charAt 2 (some .int), Cond.methodLink RX6 36 yX6_in, Cond.static yX6_in, Cond.code yX6_in cX6_in 3 (some .boolean), Cond.methodLink RX6 111 yX6_isDigit, Cond.instanceMethod yX6_isDigit, Cond.selects RX6 yX6_isDigit yX6_isDigit, Cond.code yX6_isDigit cX6_isDigit 2 (some .boolean), Cond.methodLink RX6 114 yX6_behindColumn]
def wsX6_fault_r2 : List Cond := [Cond.instanceMethod yX6_behindColumn, Cond.selects RX6 yX6_behindColumn yX6_behindColumn, Cond.code yX6_behindColumn cX6_behindColumn 3 (some .int)]
def wsX6_fault : List Cond := .code yX6_fault cX6_fault 1 (some .int) :: ((wsX6_fault_r1 ++ wsX6_fault_r2) ++ wsX60)
def wsX6_does_r1 : List Cond := [Cond.fieldLink RX6 7 "PeggedBellsModel" "s" "[I", Cond.methodLink RX6 117 yX6_behindPart, Cond.instanceMethod yX6_behindPart, Cond.selects RX6 yX6_behindPart yX6_behindPart, Cond.initialized RX6, Cond.code yX6_behindPart cX6_behindPart 4 (some .int), Cond.methodLink RX6 108 yX6_charAt, Cond.instanceMethod yX6_charAt, Cond.selects RX6 yX6_charAt yX6_charAt, Cond.code yX6_charAt cX6_charAt 2 (some .int), Cond.fieldLink RX6 105 "PeggedBellsModel" "length" "I", Cond.fieldLink RX6 23 "PeggedBellsModel" "pad" "[I", Cond.methodLink RX6 36 yX6_in, Cond.static yX6_in, Cond.code yX6_in cX6_in 3 (some .boolean), Cond.methodLink RX6 111 yX6_isDigit, Cond.instanceMethod yX6_isDigit, Cond.selects RX6 yX6_isDigit yX6_isDigit, Cond.code yX6_isDigit cX6_isDigit 2 (some .boolean), Cond.methodLink RX6 114 yX6_behindColumn, Cond.instanceMethod yX6_behindColumn, Cond.selects RX6 yX6_behindColumn yX6_behindColumn, Cond.code yX6_behindColumn cX6_behindColumn 3 (some .int), Cond.methodLink RX6 94 yX6_cranks]
def wsX6_does_r2 : List Cond := [Cond.instanceMethod yX6_cranks, Cond.selects RX6 yX6_cranks yX6_cranks, Cond.code yX6_cranks cX6_cranks 4 (some .int), Cond.methodLink RX6 57 yX6_strikes, Cond.instanceMethod yX6_strikes, Cond.selects RX6 yX6_strikes yX6_strikes, Cond.code yX6_strikes cX6_strikes 6 (some .int), Cond.methodLink RX6 50 yX6_missedFor, Cond.instanceMethod yX6_missedFor, Cond.selects RX6 yX6_missedFor yX6_missedFor, Cond.code yX6_missedFor cX6_missedFor 5 (some .int), Cond.methodLink RX6 47 yX6_weightIn, Cond.instanceMethod yX6_weightIn, Cond.selects RX6 yX6_weightIn yX6_weightIn, Cond.code yX6_weightIn cX6_weightIn 4 (some .int), Cond.methodLink RX6 54 yX6_later, Cond.static yX6_later, Cond.code yX6_later cX6_later 1 (some .int), Cond.methodLink RX6 43 yX6_count, Cond.static yX6_count, Cond.code yX6_count cX6_count 3 (some .int)]
def wsX6_does : List Cond := .code yX6_does cX6_does 6 (some .int) :: ((wsX6_does_r1 ++ wsX6_does_r2) ++ wsX60)
def wsX6_read_r1 : List Cond := [Cond.fieldLink RX6 105 "PeggedBellsModel" "length" "I", Cond.methodLink RX6 120 yX6_wrong, Cond.instanceMethod yX6_wrong, Cond.selects RX6 yX6_wrong yX6_wrong, Cond.initialized RX6, Cond.code yX6_wrong cX6_wrong 3 (some .int), Cond.fieldLink RX6 23 "PeggedBellsModel" "pad" "[I", Cond.methodLink RX6 117 yX6_behindPart, Cond.instanceMethod yX6_behindPart, Cond.selects RX6 yX6_behindPart yX6_behindPart, Cond.code yX6_behindPart cX6_behindPart 4 (some .int), Cond.methodLink RX6 108 yX6_charAt, Cond.instanceMethod yX6_charAt, Cond.selects RX6 yX6_charAt yX6_charAt, Cond.code yX6_charAt cX6_charAt 2 (some .int), Cond.methodLink RX6 36 yX6_in, Cond.static yX6_in, Cond.code yX6_in cX6_in 3 (some .boolean), Cond.methodLink RX6 111 yX6_isDigit, Cond.instanceMethod yX6_isDigit, Cond.selects RX6 yX6_isDigit yX6_isDigit, Cond.code yX6_isDigit cX6_isDigit 2 (some .boolean), Cond.methodLink RX6 114 yX6_behindColumn, Cond.instanceMethod yX6_behindColumn]
def wsX6_read_r2 : List Cond := [Cond.selects RX6 yX6_behindColumn yX6_behindColumn, Cond.code yX6_behindColumn cX6_behindColumn 3 (some .int), Cond.methodLink RX6 75 yX6_holds, Cond.instanceMethod yX6_holds, Cond.selects RX6 yX6_holds yX6_holds, Cond.code yX6_holds cX6_holds 2 (some .boolean), Cond.fieldLink RX6 32 "PeggedBellsModel" "thrown" "I", Cond.methodLink RX6 78 yX6_records, Cond.instanceMethod yX6_records, Cond.selects RX6 yX6_records yX6_records, Cond.code yX6_records cX6_records 2 none, Cond.fieldLink RX6 40 "PeggedBellsModel" "known" "I", Cond.fieldLink RX6 20 "PeggedBellsModel" "history" "[I", Cond.fieldLink RX6 7 "PeggedBellsModel" "s" "[I", Cond.methodLink RX6 123 yX6_does, Cond.instanceMethod yX6_does, Cond.selects RX6 yX6_does yX6_does, Cond.code yX6_does cX6_does 6 (some .int), Cond.methodLink RX6 94 yX6_cranks, Cond.instanceMethod yX6_cranks, Cond.selects RX6 yX6_cranks yX6_cranks, Cond.code yX6_cranks cX6_cranks 4 (some .int), Cond.methodLink RX6 57 yX6_strikes, Cond.instanceMethod yX6_strikes]
def wsX6_read_r3 : List Cond := [Cond.selects RX6 yX6_strikes yX6_strikes, Cond.code yX6_strikes cX6_strikes 6 (some .int), Cond.methodLink RX6 50 yX6_missedFor, Cond.instanceMethod yX6_missedFor, Cond.selects RX6 yX6_missedFor yX6_missedFor, Cond.code yX6_missedFor cX6_missedFor 5 (some .int), Cond.methodLink RX6 47 yX6_weightIn, Cond.instanceMethod yX6_weightIn, Cond.selects RX6 yX6_weightIn yX6_weightIn, Cond.code yX6_weightIn cX6_weightIn 4 (some .int), Cond.methodLink RX6 54 yX6_later, Cond.static yX6_later, Cond.code yX6_later cX6_later 1 (some .int), Cond.methodLink RX6 43 yX6_count, Cond.static yX6_count, Cond.code yX6_count cX6_count 3 (some .int)]
def wsX6_read : List Cond := .code yX6_read cX6_read 3 (some .int) :: ((wsX6_read_r1 ++ (wsX6_read_r2 ++ wsX6_read_r3)) ++ wsX60)
def wsX6_undo : List Cond := .code yX6_undo cX6_undo 2 (some .int) :: ([.fieldLink RX6 40 "PeggedBellsModel" "known" "I", .fieldLink RX6 7 "PeggedBellsModel" "s" "[I", .fieldLink RX6 20 "PeggedBellsModel" "history" "[I", .methodLink RX6 75 yX6_holds, .instanceMethod yX6_holds, .selects RX6 yX6_holds yX6_holds, .initialized RX6, .code yX6_holds cX6_holds 2 (some .boolean), .fieldLink RX6 32 "PeggedBellsModel" "thrown" "I"] ++ wsX60)
def wsX6_undoable : List Cond := .code yX6_undoable cX6_undoable 1 (some .int) :: ([.fieldLink RX6 32 "PeggedBellsModel" "thrown" "I", .fieldLink RX6 40 "PeggedBellsModel" "known" "I"] ++ wsX60)
def wsX6_save : List Cond := .code yX6_save cX6_save 3 (some .int) :: ([.fieldLink RX6 13 "PeggedBellsModel" "slots" "[I", .fieldLink RX6 7 "PeggedBellsModel" "s" "[I", .fieldLink RX6 16 "PeggedBellsModel" "isSaved" "[Z", .methodLink RX6 36 yX6_in, .static yX6_in, .initialized RX6, .code yX6_in cX6_in 3 (some .boolean), .methodLink RX6 75 yX6_holds, .instanceMethod yX6_holds, .selects RX6 yX6_holds yX6_holds, .code yX6_holds cX6_holds 2 (some .boolean), .fieldLink RX6 32 "PeggedBellsModel" "thrown" "I", .methodLink RX6 97 yX6_allPegs, .instanceMethod yX6_allPegs, .selects RX6 yX6_allPegs yX6_allPegs, .code yX6_allPegs cX6_allPegs 3 (some .int), .methodLink RX6 43 yX6_count, .static yX6_count, .code yX6_count cX6_count 3 (some .int)] ++ wsX60)
def wsX6_restore_r1 : List Cond := [Cond.fieldLink RX6 16 "PeggedBellsModel" "isSaved" "[Z", Cond.fieldLink RX6 7 "PeggedBellsModel" "s" "[I", Cond.fieldLink RX6 13 "PeggedBellsModel" "slots" "[I", Cond.methodLink RX6 36 yX6_in, Cond.static yX6_in, Cond.initialized RX6, Cond.code yX6_in cX6_in 3 (some .boolean), Cond.methodLink RX6 75 yX6_holds, Cond.instanceMethod yX6_holds, Cond.selects RX6 yX6_holds yX6_holds, Cond.code yX6_holds cX6_holds 2 (some .boolean), Cond.fieldLink RX6 32 "PeggedBellsModel" "thrown" "I", Cond.methodLink RX6 78 yX6_records, Cond.instanceMethod yX6_records, Cond.selects RX6 yX6_records yX6_records, Cond.code yX6_records cX6_records 2 none, Cond.fieldLink RX6 40 "PeggedBellsModel" "known" "I", Cond.fieldLink RX6 20 "PeggedBellsModel" "history" "[I", Cond.methodLink RX6 97 yX6_allPegs, Cond.instanceMethod yX6_allPegs, Cond.selects RX6 yX6_allPegs yX6_allPegs, Cond.code yX6_allPegs cX6_allPegs 3 (some .int), Cond.methodLink RX6 43 yX6_count, Cond.static yX6_count]
def wsX6_restore_r2 : List Cond := [Cond.code yX6_count cX6_count 3 (some .int)]
def wsX6_restore : List Cond := .code yX6_restore cX6_restore 4 (some .int) :: ((wsX6_restore_r1 ++ wsX6_restore_r2) ++ wsX60)
def wsJ9_max_7cf53 : List Cond := .code yJ9_max_7cf53 cJ9_max_7cf53 2 (some .int) :: ([])
def wsJ9_min_7cf53 : List Cond := .code yJ9_min_7cf53 cJ9_min_7cf53 2 (some .int) :: ([])
def wsL_turnPeg_r1 : List Cond := [Cond.classLink RL 13 "java/lang/IndexOutOfBoundsException", Cond.methodLink RL 7 yX5_turnPeg, Cond.instanceMethod yX5_turnPeg, Cond.selects RX5 yX5_turnPeg yX5_turnPeg, Cond.initialized RX5, Cond.code yX5_turnPeg cX5_turnPeg 3 (some .boolean), Cond.classLink RX5 48 "java/lang/IndexOutOfBoundsException", Cond.initialized "java/lang/IndexOutOfBoundsException", Cond.fieldLink RX5 33 "PeggedBells" "history" "LPeggedBells$History;", Cond.fieldLink RX5 10 "PeggedBells" "drum" "LPeggedBells$Drum;", Cond.fieldLink RX5 59 "PeggedBells$Drum" "pegs" "[I", Cond.methodLink RX5 41 yX5_isColumn, Cond.static yX5_isColumn, Cond.code yX5_isColumn cX5_isColumn 1 (some .boolean), Cond.methodLink RX5 45 yX5_isBell, Cond.static yX5_isBell, Cond.code yX5_isBell cX5_isBell 1 (some .boolean), Cond.methodLink RX5 55 yX2_add, Cond.instanceMethod yX2_add, Cond.selects RX2 yX2_add yX2_add, Cond.initialized RX2, Cond.code yX2_add cX2_add 3 (some (.object "PeggedBells$Drum")), Cond.fieldLink RX2 17 "PeggedBells$History" "count" "I", Cond.fieldLink RX2 11 "PeggedBells$History" "states" "[LPeggedBells$Drum;"]
def wsL_turnPeg_r2 : List Cond := [Cond.methodLink RX2 22 yX2_dropOldest, Cond.instanceMethod yX2_dropOldest, Cond.selects RX2 yX2_dropOldest yX2_dropOldest, Cond.code yX2_dropOldest cX2_dropOldest 3 none, Cond.methodLink RX2 25 yX0_copyFrom, Cond.instanceMethod yX0_copyFrom, Cond.selects RX0 yX0_copyFrom yX0_copyFrom, Cond.initialized RX0, Cond.code yX0_copyFrom cX0_copyFrom 2 none, Cond.fieldLink RX0 9 "PeggedBells$Drum" "pegs" "[I", Cond.methodLink RX0 53 arraycopyName, Cond.native arraycopyName, Cond.static arraycopyName, Cond.initialized "java/lang/System", Cond.fieldLink RX0 15 "PeggedBells$Drum" "tempos" "[I", Cond.fieldLink RX0 18 "PeggedBells$Drum" "weights" "[I", Cond.fieldLink RX0 21 "PeggedBells$Drum" "timesHeard" "[I", Cond.fieldLink RX0 27 "PeggedBells$Drum" "hammers" "LPeggedBells$Hammers;", Cond.fieldLink RX0 31 "PeggedBells$Drum" "bound" "I", Cond.fieldLink RX0 35 "PeggedBells$Drum" "atHand" "I", Cond.fieldLink RX0 38 "PeggedBells$Drum" "ticks" "I", Cond.fieldLink RX0 41 "PeggedBells$Drum" "heardSoFar" "I", Cond.fieldLink RX0 44 "PeggedBells$Drum" "missedSoFar" "I", Cond.methodLink RX0 59 yX1_copyFrom]
def wsL_turnPeg_r3 : List Cond := [Cond.instanceMethod yX1_copyFrom, Cond.selects RX1 yX1_copyFrom yX1_copyFrom, Cond.initialized RX1, Cond.code yX1_copyFrom cX1_copyFrom 2 none, Cond.fieldLink RX1 9 "PeggedBells$Hammers" "rests" "[I", Cond.methodLink RX1 21 arraycopyName, Cond.methodLink RX5 63 yX5_holds, Cond.static yX5_holds, Cond.code yX5_holds cX5_holds 2 (some .boolean)]
def wsL_turnPeg : List Cond := .codeWith yL_turnPeg cL_turnPeg 5 (some .int) [(0, 17, 20, 13)] :: ((wsL_turnPeg_r1 ++ (wsL_turnPeg_r2 ++ wsL_turnPeg_r3)) ++ wsX50 ++ wsX00 ++ wsX20 ++ wsX10 ++ (vx_atS RX5 52 "java/lang/IndexOutOfBoundsException" ["java/lang/RuntimeException", "java/lang/Exception"]).filter goodWord)
def wsL_setColumn_r1 : List Cond := [Cond.classLink RL 13 "java/lang/IndexOutOfBoundsException", Cond.classLink RL 19 "java/lang/IllegalArgumentException", Cond.methodLink RL 15 yX5_setColumn, Cond.instanceMethod yX5_setColumn, Cond.selects RX5 yX5_setColumn yX5_setColumn, Cond.initialized RX5, Cond.code yX5_setColumn cX5_setColumn 4 (some .int), Cond.classLink RX5 48 "java/lang/IndexOutOfBoundsException", Cond.initialized "java/lang/IndexOutOfBoundsException", Cond.classLink RX5 69 "java/lang/IllegalArgumentException", Cond.initialized "java/lang/IllegalArgumentException", Cond.fieldLink RX5 33 "PeggedBells" "history" "LPeggedBells$History;", Cond.fieldLink RX5 10 "PeggedBells" "drum" "LPeggedBells$Drum;", Cond.fieldLink RX5 59 "PeggedBells$Drum" "pegs" "[I", Cond.methodLink RX5 41 yX5_isColumn, Cond.static yX5_isColumn, Cond.code yX5_isColumn cX5_isColumn 1 (some .boolean), Cond.methodLink RX5 55 yX2_add, Cond.instanceMethod yX2_add, Cond.selects RX2 yX2_add yX2_add, Cond.initialized RX2, Cond.code yX2_add cX2_add 3 (some (.object "PeggedBells$Drum")), Cond.fieldLink RX2 17 "PeggedBells$History" "count" "I", Cond.fieldLink RX2 11 "PeggedBells$History" "states" "[LPeggedBells$Drum;"]
def wsL_setColumn_r2 : List Cond := [Cond.methodLink RX2 22 yX2_dropOldest, Cond.instanceMethod yX2_dropOldest, Cond.selects RX2 yX2_dropOldest yX2_dropOldest, Cond.code yX2_dropOldest cX2_dropOldest 3 none, Cond.methodLink RX2 25 yX0_copyFrom, Cond.instanceMethod yX0_copyFrom, Cond.selects RX0 yX0_copyFrom yX0_copyFrom, Cond.initialized RX0, Cond.code yX0_copyFrom cX0_copyFrom 2 none, Cond.fieldLink RX0 9 "PeggedBells$Drum" "pegs" "[I", Cond.methodLink RX0 53 arraycopyName, Cond.native arraycopyName, Cond.static arraycopyName, Cond.initialized "java/lang/System", Cond.fieldLink RX0 15 "PeggedBells$Drum" "tempos" "[I", Cond.fieldLink RX0 18 "PeggedBells$Drum" "weights" "[I", Cond.fieldLink RX0 21 "PeggedBells$Drum" "timesHeard" "[I", Cond.fieldLink RX0 27 "PeggedBells$Drum" "hammers" "LPeggedBells$Hammers;", Cond.fieldLink RX0 31 "PeggedBells$Drum" "bound" "I", Cond.fieldLink RX0 35 "PeggedBells$Drum" "atHand" "I", Cond.fieldLink RX0 38 "PeggedBells$Drum" "ticks" "I", Cond.fieldLink RX0 41 "PeggedBells$Drum" "heardSoFar" "I", Cond.fieldLink RX0 44 "PeggedBells$Drum" "missedSoFar" "I", Cond.methodLink RX0 59 yX1_copyFrom]
def wsL_setColumn_r3 : List Cond := [Cond.instanceMethod yX1_copyFrom, Cond.selects RX1 yX1_copyFrom yX1_copyFrom, Cond.initialized RX1, Cond.code yX1_copyFrom cX1_copyFrom 2 none, Cond.fieldLink RX1 9 "PeggedBells$Hammers" "rests" "[I", Cond.methodLink RX1 21 arraycopyName, Cond.methodLink RX5 74 yX0_pegsOtherThan, Cond.instanceMethod yX0_pegsOtherThan, Cond.selects RX0 yX0_pegsOtherThan yX0_pegsOtherThan, Cond.code yX0_pegsOtherThan cX0_pegsOtherThan 4 (some .int), Cond.methodLink RX0 77 yJ6_bitCount_0f7a4, Cond.static yJ6_bitCount_0f7a4, Cond.initialized RJ6, Cond.code yJ6_bitCount_0f7a4 cJ6_bitCount_0f7a4 1 (some .int), Cond.constant RJ6 265 (1431655765), Cond.constant RJ6 266 (858993459), Cond.constant RJ6 267 (252645135)]
def wsL_setColumn : List Cond := .codeWith yL_setColumn cL_setColumn 5 (some .int) [(0, 10, 13, 13), (0, 10, 17, 19)] :: ((wsL_setColumn_r1 ++ (wsL_setColumn_r2 ++ wsL_setColumn_r3)) ++ wsX50 ++ wsX00 ++ wsX20 ++ wsX10 ++ (vx_atS RX5 52 "java/lang/IndexOutOfBoundsException" ["java/lang/RuntimeException", "java/lang/Exception"]).filter goodWord ++ (vx_atS RX5 73 "java/lang/IllegalArgumentException" ["java/lang/RuntimeException", "java/lang/Exception"]).filter goodWord)
def wsL_setTempo_r1 : List Cond := [Cond.classLink RL 13 "java/lang/IndexOutOfBoundsException", Cond.classLink RL 19 "java/lang/IllegalArgumentException", Cond.methodLink RL 21 yX5_setTempo, Cond.instanceMethod yX5_setTempo, Cond.selects RX5 yX5_setTempo yX5_setTempo, Cond.initialized RX5, Cond.code yX5_setTempo cX5_setTempo 4 (some .int), Cond.classLink RX5 48 "java/lang/IndexOutOfBoundsException", Cond.initialized "java/lang/IndexOutOfBoundsException", Cond.classLink RX5 69 "java/lang/IllegalArgumentException", Cond.initialized "java/lang/IllegalArgumentException", Cond.fieldLink RX5 33 "PeggedBells" "history" "LPeggedBells$History;", Cond.fieldLink RX5 10 "PeggedBells" "drum" "LPeggedBells$Drum;", Cond.fieldLink RX5 85 "PeggedBells$Drum" "tempos" "[I", Cond.methodLink RX5 78 yX5_isBar, Cond.static yX5_isBar, Cond.code yX5_isBar cX5_isBar 1 (some .boolean), Cond.methodLink RX5 55 yX2_add, Cond.instanceMethod yX2_add, Cond.selects RX2 yX2_add yX2_add, Cond.initialized RX2, Cond.code yX2_add cX2_add 3 (some (.object "PeggedBells$Drum")), Cond.fieldLink RX2 17 "PeggedBells$History" "count" "I", Cond.fieldLink RX2 11 "PeggedBells$History" "states" "[LPeggedBells$Drum;"]
def wsL_setTempo_r2 : List Cond := [Cond.methodLink RX2 22 yX2_dropOldest, Cond.instanceMethod yX2_dropOldest, Cond.selects RX2 yX2_dropOldest yX2_dropOldest, Cond.code yX2_dropOldest cX2_dropOldest 3 none, Cond.methodLink RX2 25 yX0_copyFrom, Cond.instanceMethod yX0_copyFrom, Cond.selects RX0 yX0_copyFrom yX0_copyFrom, Cond.initialized RX0, Cond.code yX0_copyFrom cX0_copyFrom 2 none, Cond.fieldLink RX0 9 "PeggedBells$Drum" "pegs" "[I", Cond.methodLink RX0 53 arraycopyName, Cond.native arraycopyName, Cond.static arraycopyName, Cond.initialized "java/lang/System", Cond.fieldLink RX0 15 "PeggedBells$Drum" "tempos" "[I", Cond.fieldLink RX0 18 "PeggedBells$Drum" "weights" "[I", Cond.fieldLink RX0 21 "PeggedBells$Drum" "timesHeard" "[I", Cond.fieldLink RX0 27 "PeggedBells$Drum" "hammers" "LPeggedBells$Hammers;", Cond.fieldLink RX0 31 "PeggedBells$Drum" "bound" "I", Cond.fieldLink RX0 35 "PeggedBells$Drum" "atHand" "I", Cond.fieldLink RX0 38 "PeggedBells$Drum" "ticks" "I", Cond.fieldLink RX0 41 "PeggedBells$Drum" "heardSoFar" "I", Cond.fieldLink RX0 44 "PeggedBells$Drum" "missedSoFar" "I", Cond.methodLink RX0 59 yX1_copyFrom]
def wsL_setTempo_r3 : List Cond := [Cond.instanceMethod yX1_copyFrom, Cond.selects RX1 yX1_copyFrom yX1_copyFrom, Cond.initialized RX1, Cond.code yX1_copyFrom cX1_copyFrom 2 none, Cond.fieldLink RX1 9 "PeggedBells$Hammers" "rests" "[I", Cond.methodLink RX1 21 arraycopyName]
def wsL_setTempo : List Cond := .codeWith yL_setTempo cL_setTempo 5 (some .int) [(0, 10, 13, 13), (0, 10, 17, 19)] :: ((wsL_setTempo_r1 ++ (wsL_setTempo_r2 ++ wsL_setTempo_r3)) ++ wsX50 ++ wsX00 ++ wsX20 ++ wsX10 ++ (vx_atS RX5 52 "java/lang/IndexOutOfBoundsException" ["java/lang/RuntimeException", "java/lang/Exception"]).filter goodWord ++ (vx_atS RX5 73 "java/lang/IllegalArgumentException" ["java/lang/RuntimeException", "java/lang/Exception"]).filter goodWord)
def wsL_setWeight_r1 : List Cond := [Cond.classLink RL 13 "java/lang/IndexOutOfBoundsException", Cond.classLink RL 19 "java/lang/IllegalArgumentException", Cond.methodLink RL 24 yX5_setWeight, Cond.instanceMethod yX5_setWeight, Cond.selects RX5 yX5_setWeight yX5_setWeight, Cond.initialized RX5, Cond.code yX5_setWeight cX5_setWeight 4 (some .int), Cond.classLink RX5 48 "java/lang/IndexOutOfBoundsException", Cond.initialized "java/lang/IndexOutOfBoundsException", Cond.classLink RX5 69 "java/lang/IllegalArgumentException", Cond.initialized "java/lang/IllegalArgumentException", Cond.fieldLink RX5 33 "PeggedBells" "history" "LPeggedBells$History;", Cond.fieldLink RX5 10 "PeggedBells" "drum" "LPeggedBells$Drum;", Cond.fieldLink RX5 92 "PeggedBells$Drum" "weights" "[I", Cond.methodLink RX5 45 yX5_isBell, Cond.static yX5_isBell, Cond.code yX5_isBell cX5_isBell 1 (some .boolean), Cond.methodLink RX5 55 yX2_add, Cond.instanceMethod yX2_add, Cond.selects RX2 yX2_add yX2_add, Cond.initialized RX2, Cond.code yX2_add cX2_add 3 (some (.object "PeggedBells$Drum")), Cond.fieldLink RX2 17 "PeggedBells$History" "count" "I", Cond.fieldLink RX2 11 "PeggedBells$History" "states" "[LPeggedBells$Drum;"]
def wsL_setWeight_r2 : List Cond := [Cond.methodLink RX2 22 yX2_dropOldest, Cond.instanceMethod yX2_dropOldest, Cond.selects RX2 yX2_dropOldest yX2_dropOldest, Cond.code yX2_dropOldest cX2_dropOldest 3 none, Cond.methodLink RX2 25 yX0_copyFrom, Cond.instanceMethod yX0_copyFrom, Cond.selects RX0 yX0_copyFrom yX0_copyFrom, Cond.initialized RX0, Cond.code yX0_copyFrom cX0_copyFrom 2 none, Cond.fieldLink RX0 9 "PeggedBells$Drum" "pegs" "[I", Cond.methodLink RX0 53 arraycopyName, Cond.native arraycopyName, Cond.static arraycopyName, Cond.initialized "java/lang/System", Cond.fieldLink RX0 15 "PeggedBells$Drum" "tempos" "[I", Cond.fieldLink RX0 18 "PeggedBells$Drum" "weights" "[I", Cond.fieldLink RX0 21 "PeggedBells$Drum" "timesHeard" "[I", Cond.fieldLink RX0 27 "PeggedBells$Drum" "hammers" "LPeggedBells$Hammers;", Cond.fieldLink RX0 31 "PeggedBells$Drum" "bound" "I", Cond.fieldLink RX0 35 "PeggedBells$Drum" "atHand" "I", Cond.fieldLink RX0 38 "PeggedBells$Drum" "ticks" "I", Cond.fieldLink RX0 41 "PeggedBells$Drum" "heardSoFar" "I", Cond.fieldLink RX0 44 "PeggedBells$Drum" "missedSoFar" "I", Cond.methodLink RX0 59 yX1_copyFrom]
def wsL_setWeight_r3 : List Cond := [Cond.instanceMethod yX1_copyFrom, Cond.selects RX1 yX1_copyFrom yX1_copyFrom, Cond.initialized RX1, Cond.code yX1_copyFrom cX1_copyFrom 2 none, Cond.fieldLink RX1 9 "PeggedBells$Hammers" "rests" "[I", Cond.methodLink RX1 21 arraycopyName]
def wsL_setWeight : List Cond := .codeWith yL_setWeight cL_setWeight 5 (some .int) [(0, 10, 13, 13), (0, 10, 17, 19)] :: ((wsL_setWeight_r1 ++ (wsL_setWeight_r2 ++ wsL_setWeight_r3)) ++ wsX50 ++ wsX00 ++ wsX20 ++ wsX10 ++ (vx_atS RX5 52 "java/lang/IndexOutOfBoundsException" ["java/lang/RuntimeException", "java/lang/Exception"]).filter goodWord ++ (vx_atS RX5 73 "java/lang/IllegalArgumentException" ["java/lang/RuntimeException", "java/lang/Exception"]).filter goodWord)
def wsL_setBound_r1 : List Cond := [Cond.classLink RL 19 "java/lang/IllegalArgumentException", Cond.methodLink RL 27 yX5_setBound, Cond.instanceMethod yX5_setBound, Cond.selects RX5 yX5_setBound yX5_setBound, Cond.initialized RX5, Cond.code yX5_setBound cX5_setBound 3 (some .int), Cond.classLink RX5 69 "java/lang/IllegalArgumentException", Cond.initialized "java/lang/IllegalArgumentException", Cond.fieldLink RX5 33 "PeggedBells" "history" "LPeggedBells$History;", Cond.fieldLink RX5 10 "PeggedBells" "drum" "LPeggedBells$Drum;", Cond.fieldLink RX5 97 "PeggedBells$Drum" "bound" "I", Cond.methodLink RX5 55 yX2_add, Cond.instanceMethod yX2_add, Cond.selects RX2 yX2_add yX2_add, Cond.initialized RX2, Cond.code yX2_add cX2_add 3 (some (.object "PeggedBells$Drum")), Cond.fieldLink RX2 17 "PeggedBells$History" "count" "I", Cond.fieldLink RX2 11 "PeggedBells$History" "states" "[LPeggedBells$Drum;", Cond.methodLink RX2 22 yX2_dropOldest, Cond.instanceMethod yX2_dropOldest, Cond.selects RX2 yX2_dropOldest yX2_dropOldest, Cond.code yX2_dropOldest cX2_dropOldest 3 none, Cond.methodLink RX2 25 yX0_copyFrom, Cond.instanceMethod yX0_copyFrom]
def wsL_setBound_r2 : List Cond := [Cond.selects RX0 yX0_copyFrom yX0_copyFrom, Cond.initialized RX0, Cond.code yX0_copyFrom cX0_copyFrom 2 none, Cond.fieldLink RX0 9 "PeggedBells$Drum" "pegs" "[I", Cond.methodLink RX0 53 arraycopyName, Cond.native arraycopyName, Cond.static arraycopyName, Cond.initialized "java/lang/System", Cond.fieldLink RX0 15 "PeggedBells$Drum" "tempos" "[I", Cond.fieldLink RX0 18 "PeggedBells$Drum" "weights" "[I", Cond.fieldLink RX0 21 "PeggedBells$Drum" "timesHeard" "[I", Cond.fieldLink RX0 27 "PeggedBells$Drum" "hammers" "LPeggedBells$Hammers;", Cond.fieldLink RX0 31 "PeggedBells$Drum" "bound" "I", Cond.fieldLink RX0 35 "PeggedBells$Drum" "atHand" "I", Cond.fieldLink RX0 38 "PeggedBells$Drum" "ticks" "I", Cond.fieldLink RX0 41 "PeggedBells$Drum" "heardSoFar" "I", Cond.fieldLink RX0 44 "PeggedBells$Drum" "missedSoFar" "I", Cond.methodLink RX0 59 yX1_copyFrom, Cond.instanceMethod yX1_copyFrom, Cond.selects RX1 yX1_copyFrom yX1_copyFrom, Cond.initialized RX1, Cond.code yX1_copyFrom cX1_copyFrom 2 none, Cond.fieldLink RX1 9 "PeggedBells$Hammers" "rests" "[I", Cond.methodLink RX1 21 arraycopyName]
def wsL_setBound : List Cond := .codeWith yL_setBound cL_setBound 4 (some .int) [(0, 9, 12, 19)] :: ((wsL_setBound_r1 ++ wsL_setBound_r2) ++ wsX50 ++ wsX00 ++ wsX20 ++ wsX10 ++ (vx_atS RX5 73 "java/lang/IllegalArgumentException" ["java/lang/RuntimeException", "java/lang/Exception"]).filter goodWord)
def wsL_move_r1 : List Cond := [Cond.classLink RL 19 "java/lang/IllegalArgumentException", Cond.methodLink RL 31 yX5_move, Cond.instanceMethod yX5_move, Cond.selects RX5 yX5_move yX5_move, Cond.initialized RX5, Cond.code yX5_move cX5_move 4 (some .int), Cond.classLink RX5 69 "java/lang/IllegalArgumentException", Cond.initialized "java/lang/IllegalArgumentException", Cond.fieldLink RX5 33 "PeggedBells" "history" "LPeggedBells$History;", Cond.fieldLink RX5 10 "PeggedBells" "drum" "LPeggedBells$Drum;", Cond.fieldLink RX5 59 "PeggedBells$Drum" "pegs" "[I", Cond.methodLink RX5 55 yX2_add, Cond.instanceMethod yX2_add, Cond.selects RX2 yX2_add yX2_add, Cond.initialized RX2, Cond.code yX2_add cX2_add 3 (some (.object "PeggedBells$Drum")), Cond.fieldLink RX2 17 "PeggedBells$History" "count" "I", Cond.fieldLink RX2 11 "PeggedBells$History" "states" "[LPeggedBells$Drum;", Cond.methodLink RX2 22 yX2_dropOldest, Cond.instanceMethod yX2_dropOldest, Cond.selects RX2 yX2_dropOldest yX2_dropOldest, Cond.code yX2_dropOldest cX2_dropOldest 3 none, Cond.methodLink RX2 25 yX0_copyFrom, Cond.instanceMethod yX0_copyFrom]
def wsL_move_r2 : List Cond := [Cond.selects RX0 yX0_copyFrom yX0_copyFrom, Cond.initialized RX0, Cond.code yX0_copyFrom cX0_copyFrom 2 none, Cond.fieldLink RX0 9 "PeggedBells$Drum" "pegs" "[I", Cond.methodLink RX0 53 arraycopyName, Cond.native arraycopyName, Cond.static arraycopyName, Cond.initialized "java/lang/System", Cond.fieldLink RX0 15 "PeggedBells$Drum" "tempos" "[I", Cond.fieldLink RX0 18 "PeggedBells$Drum" "weights" "[I", Cond.fieldLink RX0 21 "PeggedBells$Drum" "timesHeard" "[I", Cond.fieldLink RX0 27 "PeggedBells$Drum" "hammers" "LPeggedBells$Hammers;", Cond.fieldLink RX0 31 "PeggedBells$Drum" "bound" "I", Cond.fieldLink RX0 35 "PeggedBells$Drum" "atHand" "I", Cond.fieldLink RX0 38 "PeggedBells$Drum" "ticks" "I", Cond.fieldLink RX0 41 "PeggedBells$Drum" "heardSoFar" "I", Cond.fieldLink RX0 44 "PeggedBells$Drum" "missedSoFar" "I", Cond.methodLink RX0 59 yX1_copyFrom, Cond.instanceMethod yX1_copyFrom, Cond.selects RX1 yX1_copyFrom yX1_copyFrom, Cond.initialized RX1, Cond.code yX1_copyFrom cX1_copyFrom 2 none, Cond.fieldLink RX1 9 "PeggedBells$Hammers" "rests" "[I", Cond.methodLink RX1 21 arraycopyName]
def wsL_move_r3 : List Cond := [Cond.methodLink RX5 74 yX0_pegsOtherThan, Cond.instanceMethod yX0_pegsOtherThan, Cond.selects RX0 yX0_pegsOtherThan yX0_pegsOtherThan, Cond.code yX0_pegsOtherThan cX0_pegsOtherThan 4 (some .int), Cond.methodLink RX0 77 yJ6_bitCount_0f7a4, Cond.static yJ6_bitCount_0f7a4, Cond.initialized RJ6, Cond.code yJ6_bitCount_0f7a4 cJ6_bitCount_0f7a4 1 (some .int), Cond.constant RJ6 265 (1431655765), Cond.constant RJ6 266 (858993459), Cond.constant RJ6 267 (252645135)]
def wsL_move : List Cond := .codeWith yL_move cL_move 4 (some .int) [(0, 9, 12, 19)] :: ((wsL_move_r1 ++ (wsL_move_r2 ++ wsL_move_r3)) ++ wsX50 ++ wsX00 ++ wsX20 ++ wsX10 ++ (vx_atS RX5 73 "java/lang/IllegalArgumentException" ["java/lang/RuntimeException", "java/lang/Exception"]).filter goodWord)
def wsL_crank_r1 : List Cond := [Cond.classLink RL 19 "java/lang/IllegalArgumentException", Cond.methodLink RL 34 yX5_crank, Cond.instanceMethod yX5_crank, Cond.selects RX5 yX5_crank yX5_crank, Cond.initialized RX5, Cond.code yX5_crank cX5_crank 2 (some .int), Cond.classLink RX5 69 "java/lang/IllegalArgumentException", Cond.initialized "java/lang/IllegalArgumentException", Cond.fieldLink RX5 33 "PeggedBells" "history" "LPeggedBells$History;", Cond.fieldLink RX5 10 "PeggedBells" "drum" "LPeggedBells$Drum;", Cond.methodLink RX5 55 yX2_add, Cond.instanceMethod yX2_add, Cond.selects RX2 yX2_add yX2_add, Cond.initialized RX2, Cond.code yX2_add cX2_add 3 (some (.object "PeggedBells$Drum")), Cond.fieldLink RX2 17 "PeggedBells$History" "count" "I", Cond.fieldLink RX2 11 "PeggedBells$History" "states" "[LPeggedBells$Drum;", Cond.methodLink RX2 22 yX2_dropOldest, Cond.instanceMethod yX2_dropOldest, Cond.selects RX2 yX2_dropOldest yX2_dropOldest, Cond.code yX2_dropOldest cX2_dropOldest 3 none, Cond.methodLink RX2 25 yX0_copyFrom, Cond.instanceMethod yX0_copyFrom, Cond.selects RX0 yX0_copyFrom yX0_copyFrom]
def wsL_crank_r2 : List Cond := [Cond.initialized RX0, Cond.code yX0_copyFrom cX0_copyFrom 2 none, Cond.fieldLink RX0 9 "PeggedBells$Drum" "pegs" "[I", Cond.methodLink RX0 53 arraycopyName, Cond.native arraycopyName, Cond.static arraycopyName, Cond.initialized "java/lang/System", Cond.fieldLink RX0 15 "PeggedBells$Drum" "tempos" "[I", Cond.fieldLink RX0 18 "PeggedBells$Drum" "weights" "[I", Cond.fieldLink RX0 21 "PeggedBells$Drum" "timesHeard" "[I", Cond.fieldLink RX0 27 "PeggedBells$Drum" "hammers" "LPeggedBells$Hammers;", Cond.fieldLink RX0 31 "PeggedBells$Drum" "bound" "I", Cond.fieldLink RX0 35 "PeggedBells$Drum" "atHand" "I", Cond.fieldLink RX0 38 "PeggedBells$Drum" "ticks" "I", Cond.fieldLink RX0 41 "PeggedBells$Drum" "heardSoFar" "I", Cond.fieldLink RX0 44 "PeggedBells$Drum" "missedSoFar" "I", Cond.methodLink RX0 59 yX1_copyFrom, Cond.instanceMethod yX1_copyFrom, Cond.selects RX1 yX1_copyFrom yX1_copyFrom, Cond.initialized RX1, Cond.code yX1_copyFrom cX1_copyFrom 2 none, Cond.fieldLink RX1 9 "PeggedBells$Hammers" "rests" "[I", Cond.methodLink RX1 21 arraycopyName, Cond.methodLink RX5 105 yX0_strikeColumns]
def wsL_crank_r3 : List Cond := [Cond.instanceMethod yX0_strikeColumns, Cond.selects RX0 yX0_strikeColumns yX0_strikeColumns, Cond.code yX0_strikeColumns cX0_strikeColumns 4 (some .int), Cond.methodLink RX0 63 yX0_strikeAtHand, Cond.instanceMethod yX0_strikeAtHand, Cond.selects RX0 yX0_strikeAtHand yX0_strikeAtHand, Cond.code yX0_strikeAtHand cX0_strikeAtHand 2 none, Cond.methodLink RX0 66 yX0_heardAtHand, Cond.instanceMethod yX0_heardAtHand, Cond.selects RX0 yX0_heardAtHand yX0_heardAtHand, Cond.code yX0_heardAtHand cX0_heardAtHand 1 (some .int), Cond.methodLink RX0 83 yX1_heardOutOf, Cond.instanceMethod yX1_heardOutOf, Cond.selects RX1 yX1_heardOutOf yX1_heardOutOf, Cond.code yX1_heardOutOf cX1_heardOutOf 8 (some .int), Cond.static yX5_holds, Cond.code yX5_holds cX5_holds 2 (some .boolean), Cond.methodLink RX1 31 yX1_isBack, Cond.instanceMethod yX1_isBack, Cond.selects RX1 yX1_isBack yX1_isBack, Cond.code yX1_isBack cX1_isBack 3 (some .boolean), Cond.methodLink RX0 70 yX1_swing, Cond.instanceMethod yX1_swing, Cond.selects RX1 yX1_swing yX1_swing]
def wsL_crank_r4 : List Cond := [Cond.code yX1_swing cX1_swing 3 none, Cond.methodLink RX1 34 Lib.Math.min.name, Cond.static Lib.Math.min.name, Cond.initialized "java/lang/Math", Cond.code Lib.Math.min.name Lib.Math.min.code 2 (some .int), Cond.methodLink RX0 74 yX0_countHeard, Cond.instanceMethod yX0_countHeard, Cond.selects RX0 yX0_countHeard yX0_countHeard, Cond.code yX0_countHeard cX0_countHeard 3 none, Cond.methodLink RX0 77 yJ6_bitCount_0f7a4, Cond.static yJ6_bitCount_0f7a4, Cond.initialized RJ6, Cond.code yJ6_bitCount_0f7a4 cJ6_bitCount_0f7a4 1 (some .int), Cond.constant RJ6 265 (1431655765), Cond.constant RJ6 266 (858993459), Cond.constant RJ6 267 (252645135)]
def wsL_crank : List Cond := .codeWith yL_crank cL_crank 4 (some .int) [(0, 9, 12, 19)] :: ((wsL_crank_r1 ++ (wsL_crank_r2 ++ (wsL_crank_r3 ++ wsL_crank_r4))) ++ wsX50 ++ wsX20 ++ wsX00 ++ wsX10 ++ (vx_atS RX5 73 "java/lang/IllegalArgumentException" ["java/lang/RuntimeException", "java/lang/Exception"]).filter goodWord)
def wsL_read_r1 : List Cond := [Cond.classLink RL 19 "java/lang/IllegalArgumentException", Cond.methodLink RL 37 yX5_read, Cond.instanceMethod yX5_read, Cond.selects RX5 yX5_read yX5_read, Cond.initialized RX5, Cond.code yX5_read cX5_read 4 (some .int), Cond.classLink RX5 69 "java/lang/IllegalArgumentException", Cond.initialized "java/lang/IllegalArgumentException", Cond.fieldLink RX5 26 "PeggedBells" "pad" "LPeggedBells$Pad;", Cond.fieldLink RX5 33 "PeggedBells" "history" "LPeggedBells$History;", Cond.fieldLink RX5 10 "PeggedBells" "drum" "LPeggedBells$Drum;", Cond.fieldLink RX5 127 "PeggedBells$Pad" "length" "I", Cond.methodLink RX5 121 yX3_firstFault, Cond.instanceMethod yX3_firstFault, Cond.selects RX3 yX3_firstFault yX3_firstFault, Cond.initialized RX3, Cond.code yX3_firstFault cX3_firstFault 3 (some .int), Cond.fieldLink RX3 15 "PeggedBells$Pad" "length" "I", Cond.fieldLink RX3 11 "PeggedBells$Pad" "characters" "[C", Cond.methodLink RX3 25 yX3_placeAfter, Cond.static yX3_placeAfter, Cond.code yX3_placeAfter cX3_placeAfter 2 (some .int), Cond.methodLink RX3 29 yX3_placeAfterFirst, Cond.static yX3_placeAfterFirst]
def wsL_read_r2 : List Cond := [Cond.code yX3_placeAfterFirst cX3_placeAfterFirst 1 (some .int), Cond.methodLink RX3 33 yX3_isIn, Cond.static yX3_isIn, Cond.code yX3_isIn cX3_isIn 3 (some .boolean), Cond.methodLink RX3 37 yX3_placeAfterColumn, Cond.static yX3_placeAfterColumn, Cond.code yX3_placeAfterColumn cX3_placeAfterColumn 1 (some .int), Cond.methodLink RX3 40 yX3_placeAfterPart, Cond.static yX3_placeAfterPart, Cond.code yX3_placeAfterPart cX3_placeAfterPart 1 (some .int), Cond.methodLink RX5 55 yX2_add, Cond.instanceMethod yX2_add, Cond.selects RX2 yX2_add yX2_add, Cond.initialized RX2, Cond.code yX2_add cX2_add 3 (some (.object "PeggedBells$Drum")), Cond.fieldLink RX2 17 "PeggedBells$History" "count" "I", Cond.fieldLink RX2 11 "PeggedBells$History" "states" "[LPeggedBells$Drum;", Cond.methodLink RX2 22 yX2_dropOldest, Cond.instanceMethod yX2_dropOldest, Cond.selects RX2 yX2_dropOldest yX2_dropOldest, Cond.code yX2_dropOldest cX2_dropOldest 3 none, Cond.methodLink RX2 25 yX0_copyFrom, Cond.instanceMethod yX0_copyFrom, Cond.selects RX0 yX0_copyFrom yX0_copyFrom]
def wsL_read_r3 : List Cond := [Cond.initialized RX0, Cond.code yX0_copyFrom cX0_copyFrom 2 none, Cond.fieldLink RX0 9 "PeggedBells$Drum" "pegs" "[I", Cond.methodLink RX0 53 arraycopyName, Cond.native arraycopyName, Cond.static arraycopyName, Cond.initialized "java/lang/System", Cond.fieldLink RX0 15 "PeggedBells$Drum" "tempos" "[I", Cond.fieldLink RX0 18 "PeggedBells$Drum" "weights" "[I", Cond.fieldLink RX0 21 "PeggedBells$Drum" "timesHeard" "[I", Cond.fieldLink RX0 27 "PeggedBells$Drum" "hammers" "LPeggedBells$Hammers;", Cond.fieldLink RX0 31 "PeggedBells$Drum" "bound" "I", Cond.fieldLink RX0 35 "PeggedBells$Drum" "atHand" "I", Cond.fieldLink RX0 38 "PeggedBells$Drum" "ticks" "I", Cond.fieldLink RX0 41 "PeggedBells$Drum" "heardSoFar" "I", Cond.fieldLink RX0 44 "PeggedBells$Drum" "missedSoFar" "I", Cond.methodLink RX0 59 yX1_copyFrom, Cond.instanceMethod yX1_copyFrom, Cond.selects RX1 yX1_copyFrom yX1_copyFrom, Cond.initialized RX1, Cond.code yX1_copyFrom cX1_copyFrom 2 none, Cond.fieldLink RX1 9 "PeggedBells$Hammers" "rests" "[I", Cond.methodLink RX1 21 arraycopyName, Cond.methodLink RX5 130 yX3_at]
def wsL_read_r4 : List Cond := [Cond.instanceMethod yX3_at, Cond.selects RX3 yX3_at yX3_at, Cond.code yX3_at cX3_at 2 (some .char), Cond.methodLink RX5 134 yX5_doPart, Cond.instanceMethod yX5_doPart, Cond.selects RX5 yX5_doPart yX5_doPart, Cond.code yX5_doPart cX5_doPart 5 (some .int), Cond.methodLink RX5 227 yX3_digitAt, Cond.instanceMethod yX3_digitAt, Cond.selects RX3 yX3_digitAt yX3_digitAt, Cond.code yX3_digitAt cX3_digitAt 2 (some .int), Cond.methodLink RX3 43 yX3_at, Cond.methodLink RX5 105 yX0_strikeColumns, Cond.instanceMethod yX0_strikeColumns, Cond.selects RX0 yX0_strikeColumns yX0_strikeColumns, Cond.code yX0_strikeColumns cX0_strikeColumns 4 (some .int), Cond.methodLink RX0 63 yX0_strikeAtHand, Cond.instanceMethod yX0_strikeAtHand, Cond.selects RX0 yX0_strikeAtHand yX0_strikeAtHand, Cond.code yX0_strikeAtHand cX0_strikeAtHand 2 none, Cond.methodLink RX0 66 yX0_heardAtHand, Cond.instanceMethod yX0_heardAtHand, Cond.selects RX0 yX0_heardAtHand yX0_heardAtHand, Cond.code yX0_heardAtHand cX0_heardAtHand 1 (some .int)]
def wsL_read_r5 : List Cond := [Cond.methodLink RX0 83 yX1_heardOutOf, Cond.instanceMethod yX1_heardOutOf, Cond.selects RX1 yX1_heardOutOf yX1_heardOutOf, Cond.code yX1_heardOutOf cX1_heardOutOf 8 (some .int), Cond.static yX5_holds, Cond.code yX5_holds cX5_holds 2 (some .boolean), Cond.methodLink RX1 31 yX1_isBack, Cond.instanceMethod yX1_isBack, Cond.selects RX1 yX1_isBack yX1_isBack, Cond.code yX1_isBack cX1_isBack 3 (some .boolean), Cond.methodLink RX0 70 yX1_swing, Cond.instanceMethod yX1_swing, Cond.selects RX1 yX1_swing yX1_swing, Cond.code yX1_swing cX1_swing 3 none, Cond.methodLink RX1 34 Lib.Math.min.name, Cond.static Lib.Math.min.name, Cond.initialized "java/lang/Math", Cond.code Lib.Math.min.name Lib.Math.min.code 2 (some .int), Cond.methodLink RX0 74 yX0_countHeard, Cond.instanceMethod yX0_countHeard, Cond.selects RX0 yX0_countHeard yX0_countHeard, Cond.code yX0_countHeard cX0_countHeard 3 none, Cond.methodLink RX0 77 yJ6_bitCount_0f7a4, Cond.static yJ6_bitCount_0f7a4]
def wsL_read_r6 : List Cond := [Cond.initialized RJ6, Cond.code yJ6_bitCount_0f7a4 cJ6_bitCount_0f7a4 1 (some .int), Cond.constant RJ6 265 (1431655765), Cond.constant RJ6 266 (858993459), Cond.constant RJ6 267 (252645135), Cond.methodLink RX5 230 yX5_changeTempo, Cond.instanceMethod yX5_changeTempo, Cond.selects RX5 yX5_changeTempo yX5_changeTempo, Cond.code yX5_changeTempo cX5_changeTempo 3 none, Cond.fieldLink RX5 85 "PeggedBells$Drum" "tempos" "[I", Cond.methodLink RX5 78 yX5_isBar, Cond.static yX5_isBar, Cond.code yX5_isBar cX5_isBar 1 (some .boolean), Cond.methodLink RX5 234 yX5_turnPegs, Cond.instanceMethod yX5_turnPegs, Cond.selects RX5 yX5_turnPegs yX5_turnPegs, Cond.code yX5_turnPegs cX5_turnPegs 6 none, Cond.fieldLink RX5 59 "PeggedBells$Drum" "pegs" "[I", Cond.methodLink RX5 237 yX3_colonFrom, Cond.instanceMethod yX3_colonFrom, Cond.selects RX3 yX3_colonFrom yX3_colonFrom, Cond.code yX3_colonFrom cX3_colonFrom 3 (some .int), Cond.methodLink RX5 240 yX3_numberIn, Cond.instanceMethod yX3_numberIn]
def wsL_read_r7 : List Cond := [Cond.selects RX3 yX3_numberIn yX3_numberIn, Cond.code yX3_numberIn cX3_numberIn 5 (some .int), Cond.methodLink RX3 47 yX3_digitAt, Cond.methodLink RX5 41 yX5_isColumn, Cond.static yX5_isColumn, Cond.code yX5_isColumn cX5_isColumn 1 (some .boolean), Cond.methodLink RX5 138 yX3_clear, Cond.instanceMethod yX3_clear, Cond.selects RX3 yX3_clear yX3_clear, Cond.code yX3_clear cX3_clear 1 none]
def wsL_read : List Cond := .codeWith yL_read cL_read 3 (some .int) [(0, 8, 11, 19)] :: ((wsL_read_r1 ++ (wsL_read_r2 ++ (wsL_read_r3 ++ (wsL_read_r4 ++ (wsL_read_r5 ++ (wsL_read_r6 ++ wsL_read_r7)))))) ++ wsX50 ++ wsX30 ++ wsX20 ++ wsX00 ++ wsX10 ++ (vx_atS RX5 73 "java/lang/IllegalArgumentException" ["java/lang/RuntimeException", "java/lang/Exception"]).filter goodWord)
def wsL_pegsIn : List Cond := .codeWith yL_pegsIn cL_pegsIn 4 (some .int) [(0, 9, 12, 13)] :: ([.classLink RL 13 "java/lang/IndexOutOfBoundsException", .methodLink RL 41 yX5_pegsIn, .instanceMethod yX5_pegsIn, .selects RX5 yX5_pegsIn yX5_pegsIn, .initialized RX5, .code yX5_pegsIn cX5_pegsIn 2 (some .int), .classLink RX5 48 "java/lang/IndexOutOfBoundsException", .initialized "java/lang/IndexOutOfBoundsException", .fieldLink RX5 10 "PeggedBells" "drum" "LPeggedBells$Drum;", .fieldLink RX5 59 "PeggedBells$Drum" "pegs" "[I", .methodLink RX5 41 yX5_isColumn, .static yX5_isColumn, .code yX5_isColumn cX5_isColumn 1 (some .boolean)] ++ wsX50 ++ wsX00 ++ (vx_atS RX5 52 "java/lang/IndexOutOfBoundsException" ["java/lang/RuntimeException", "java/lang/Exception"]).filter goodWord)
def wsL_tempoOf : List Cond := .codeWith yL_tempoOf cL_tempoOf 4 (some .int) [(0, 9, 12, 13)] :: ([.classLink RL 13 "java/lang/IndexOutOfBoundsException", .methodLink RL 44 yX5_tempoOf, .instanceMethod yX5_tempoOf, .selects RX5 yX5_tempoOf yX5_tempoOf, .initialized RX5, .code yX5_tempoOf cX5_tempoOf 2 (some .int), .classLink RX5 48 "java/lang/IndexOutOfBoundsException", .initialized "java/lang/IndexOutOfBoundsException", .fieldLink RX5 10 "PeggedBells" "drum" "LPeggedBells$Drum;", .fieldLink RX5 85 "PeggedBells$Drum" "tempos" "[I", .methodLink RX5 78 yX5_isBar, .static yX5_isBar, .code yX5_isBar cX5_isBar 1 (some .boolean)] ++ wsX50 ++ wsX00 ++ (vx_atS RX5 52 "java/lang/IndexOutOfBoundsException" ["java/lang/RuntimeException", "java/lang/Exception"]).filter goodWord)
def wsL_weightOf : List Cond := .codeWith yL_weightOf cL_weightOf 4 (some .int) [(0, 9, 12, 13)] :: ([.classLink RL 13 "java/lang/IndexOutOfBoundsException", .methodLink RL 47 yX5_weightOf, .instanceMethod yX5_weightOf, .selects RX5 yX5_weightOf yX5_weightOf, .initialized RX5, .code yX5_weightOf cX5_weightOf 2 (some .int), .classLink RX5 48 "java/lang/IndexOutOfBoundsException", .initialized "java/lang/IndexOutOfBoundsException", .fieldLink RX5 10 "PeggedBells" "drum" "LPeggedBells$Drum;", .fieldLink RX5 92 "PeggedBells$Drum" "weights" "[I", .methodLink RX5 45 yX5_isBell, .static yX5_isBell, .code yX5_isBell cX5_isBell 1 (some .boolean)] ++ wsX50 ++ wsX00 ++ (vx_atS RX5 52 "java/lang/IndexOutOfBoundsException" ["java/lang/RuntimeException", "java/lang/Exception"]).filter goodWord)
def wsL_heardOf : List Cond := .codeWith yL_heardOf cL_heardOf 4 (some .int) [(0, 9, 12, 13)] :: ([.classLink RL 13 "java/lang/IndexOutOfBoundsException", .methodLink RL 50 yX5_heardOf, .instanceMethod yX5_heardOf, .selects RX5 yX5_heardOf yX5_heardOf, .initialized RX5, .code yX5_heardOf cX5_heardOf 2 (some .int), .classLink RX5 48 "java/lang/IndexOutOfBoundsException", .initialized "java/lang/IndexOutOfBoundsException", .fieldLink RX5 10 "PeggedBells" "drum" "LPeggedBells$Drum;", .fieldLink RX5 147 "PeggedBells$Drum" "timesHeard" "[I", .methodLink RX5 45 yX5_isBell, .static yX5_isBell, .code yX5_isBell cX5_isBell 1 (some .boolean)] ++ wsX50 ++ wsX00 ++ (vx_atS RX5 52 "java/lang/IndexOutOfBoundsException" ["java/lang/RuntimeException", "java/lang/Exception"]).filter goodWord)
def wsL_whyMissed_r1 : List Cond := [Cond.classLink RL 13 "java/lang/IndexOutOfBoundsException", Cond.methodLink RL 53 yX5_whyMissed, Cond.instanceMethod yX5_whyMissed, Cond.selects RX5 yX5_whyMissed yX5_whyMissed, Cond.initialized RX5, Cond.code yX5_whyMissed cX5_whyMissed 2 (some .int), Cond.classLink RX5 48 "java/lang/IndexOutOfBoundsException", Cond.initialized "java/lang/IndexOutOfBoundsException", Cond.fieldLink RX5 10 "PeggedBells" "drum" "LPeggedBells$Drum;", Cond.fieldLink RX5 59 "PeggedBells$Drum" "pegs" "[I", Cond.fieldLink RX5 109 "PeggedBells$Drum" "atHand" "I", Cond.fieldLink RX5 112 "PeggedBells$Drum" "hammers" "LPeggedBells$Hammers;", Cond.fieldLink RX5 92 "PeggedBells$Drum" "weights" "[I", Cond.methodLink RX5 45 yX5_isBell, Cond.static yX5_isBell, Cond.code yX5_isBell cX5_isBell 1 (some .boolean), Cond.methodLink RX5 63 yX5_holds, Cond.static yX5_holds, Cond.code yX5_holds cX5_holds 2 (some .boolean), Cond.methodLink RX5 159 yX1_isBack, Cond.instanceMethod yX1_isBack, Cond.selects RX1 yX1_isBack yX1_isBack, Cond.initialized RX1, Cond.code yX1_isBack cX1_isBack 3 (some .boolean)]
def wsL_whyMissed_r2 : List Cond := [Cond.fieldLink RX1 9 "PeggedBells$Hammers" "rests" "[I", Cond.methodLink RX5 162 yX0_heardAtHand, Cond.instanceMethod yX0_heardAtHand, Cond.selects RX0 yX0_heardAtHand yX0_heardAtHand, Cond.initialized RX0, Cond.code yX0_heardAtHand cX0_heardAtHand 1 (some .int), Cond.fieldLink RX0 27 "PeggedBells$Drum" "hammers" "LPeggedBells$Hammers;", Cond.fieldLink RX0 9 "PeggedBells$Drum" "pegs" "[I", Cond.fieldLink RX0 35 "PeggedBells$Drum" "atHand" "I", Cond.fieldLink RX0 18 "PeggedBells$Drum" "weights" "[I", Cond.fieldLink RX0 31 "PeggedBells$Drum" "bound" "I", Cond.methodLink RX0 83 yX1_heardOutOf, Cond.instanceMethod yX1_heardOutOf, Cond.selects RX1 yX1_heardOutOf yX1_heardOutOf, Cond.code yX1_heardOutOf cX1_heardOutOf 8 (some .int), Cond.methodLink RX1 31 yX1_isBack]
def wsL_whyMissed : List Cond := .codeWith yL_whyMissed cL_whyMissed 4 (some .int) [(0, 9, 12, 13)] :: ((wsL_whyMissed_r1 ++ wsL_whyMissed_r2) ++ wsX50 ++ wsX00 ++ wsX10 ++ (vx_atS RX5 52 "java/lang/IndexOutOfBoundsException" ["java/lang/RuntimeException", "java/lang/Exception"]).filter goodWord)
def wsL_inRound_r1 : List Cond := [Cond.classLink RL 13 "java/lang/IndexOutOfBoundsException", Cond.methodLink RL 56 yX5_inRound, Cond.instanceMethod yX5_inRound, Cond.selects RX5 yX5_inRound yX5_inRound, Cond.initialized RX5, Cond.code yX5_inRound cX5_inRound 2 (some .int), Cond.classLink RX5 48 "java/lang/IndexOutOfBoundsException", Cond.initialized "java/lang/IndexOutOfBoundsException", Cond.fieldLink RX5 19 "PeggedBells" "round" "LPeggedBells$Round;", Cond.fieldLink RX5 10 "PeggedBells" "drum" "LPeggedBells$Drum;", Cond.fieldLink RX5 97 "PeggedBells$Drum" "bound" "I", Cond.fieldLink RX5 169 "PeggedBells$Round" "heardIn" "[I", Cond.methodLink RX5 41 yX5_isColumn, Cond.static yX5_isColumn, Cond.code yX5_isColumn cX5_isColumn 1 (some .boolean), Cond.methodLink RX5 165 yX4_play, Cond.instanceMethod yX4_play, Cond.selects RX4 yX4_play yX4_play, Cond.initialized RX4, Cond.code yX4_play cX4_play 6 (some .int), Cond.fieldLink RX4 18 "PeggedBells$Round" "hammers" "LPeggedBells$Hammers;", Cond.fieldLink RX4 25 "PeggedBells$Drum" "pegs" "[I", Cond.fieldLink RX4 30 "PeggedBells$Drum" "weights" "[I", Cond.fieldLink RX4 9 "PeggedBells$Round" "heardIn" "[I"]
def wsL_inRound_r2 : List Cond := [Cond.methodLink RX4 22 yX1_allBack, Cond.instanceMethod yX1_allBack, Cond.selects RX1 yX1_allBack yX1_allBack, Cond.initialized RX1, Cond.code yX1_allBack cX1_allBack 1 none, Cond.fieldLink RX1 9 "PeggedBells$Hammers" "rests" "[I", Cond.methodLink RX1 15 yJ7_fill_53178, Cond.static yJ7_fill_53178, Cond.initialized RJ7, Cond.code yJ7_fill_53178 cJ7_fill_53178 4 none, Cond.methodLink RX4 33 yX1_heardOutOf, Cond.instanceMethod yX1_heardOutOf, Cond.selects RX1 yX1_heardOutOf yX1_heardOutOf, Cond.code yX1_heardOutOf cX1_heardOutOf 8 (some .int), Cond.static yX5_holds, Cond.code yX5_holds cX5_holds 2 (some .boolean), Cond.methodLink RX1 31 yX1_isBack, Cond.instanceMethod yX1_isBack, Cond.selects RX1 yX1_isBack yX1_isBack, Cond.code yX1_isBack cX1_isBack 3 (some .boolean), Cond.methodLink RX4 37 yX1_swing, Cond.instanceMethod yX1_swing, Cond.selects RX1 yX1_swing yX1_swing, Cond.code yX1_swing cX1_swing 3 none]
def wsL_inRound_r3 : List Cond := [Cond.methodLink RX1 34 Lib.Math.min.name, Cond.static Lib.Math.min.name, Cond.initialized "java/lang/Math", Cond.code Lib.Math.min.name Lib.Math.min.code 2 (some .int), Cond.methodLink RX4 41 yJ6_bitCount_0f7a4, Cond.static yJ6_bitCount_0f7a4, Cond.initialized RJ6, Cond.code yJ6_bitCount_0f7a4 cJ6_bitCount_0f7a4 1 (some .int), Cond.constant RJ6 265 (1431655765), Cond.constant RJ6 266 (858993459), Cond.constant RJ6 267 (252645135)]
def wsL_inRound : List Cond := .codeWith yL_inRound cL_inRound 4 (some .int) [(0, 9, 12, 13)] :: ((wsL_inRound_r1 ++ (wsL_inRound_r2 ++ wsL_inRound_r3)) ++ wsX50 ++ wsX00 ++ wsX40 ++ wsX10 ++ (vx_atS RX5 52 "java/lang/IndexOutOfBoundsException" ["java/lang/RuntimeException", "java/lang/Exception"]).filter goodWord)
def wsL_put_r1 : List Cond := [Cond.classLink RL 19 "java/lang/IllegalArgumentException", Cond.classLink RL 63 "java/lang/IllegalStateException", Cond.methodLink RL 59 yX5_put, Cond.instanceMethod yX5_put, Cond.selects RX5 yX5_put yX5_put, Cond.initialized RX5, Cond.code yX5_put cX5_put 4 (some .int), Cond.classLink RX5 69 "java/lang/IllegalArgumentException", Cond.initialized "java/lang/IllegalArgumentException", Cond.classLink RX5 200 "java/lang/IllegalStateException", Cond.initialized "java/lang/IllegalStateException", Cond.fieldLink RX5 26 "PeggedBells" "pad" "LPeggedBells$Pad;", Cond.fieldLink RX5 127 "PeggedBells$Pad" "length" "I", Cond.methodLink RX5 191 yX3_charactersIn, Cond.static yX3_charactersIn, Cond.initialized RX3, Cond.code yX3_charactersIn cX3_charactersIn 7 (some .int), Cond.constantLong RX3 19 (255), Cond.constantLong RX3 21 (33), Cond.constantLong RX3 23 (126), Cond.methodLink RX5 197 yX3_hasRoomFor, Cond.instanceMethod yX3_hasRoomFor, Cond.selects RX3 yX3_hasRoomFor yX3_hasRoomFor, Cond.code yX3_hasRoomFor cX3_hasRoomFor 2 (some .boolean)]
def wsL_put_r2 : List Cond := [Cond.fieldLink RX3 15 "PeggedBells$Pad" "length" "I", Cond.methodLink RX5 205 yX3_append, Cond.instanceMethod yX3_append, Cond.selects RX3 yX3_append yX3_append, Cond.code yX3_append cX3_append 5 none, Cond.fieldLink RX3 11 "PeggedBells$Pad" "characters" "[C"]
def wsL_put : List Cond := .codeWith yL_put cL_put 5 (some .int) [(0, 9, 12, 19), (0, 9, 16, 63)] :: ((wsL_put_r1 ++ wsL_put_r2) ++ wsX50 ++ wsX30 ++ (vx_atS RX5 73 "java/lang/IllegalArgumentException" ["java/lang/RuntimeException", "java/lang/Exception"]).filter goodWord ++ (vx_atS RX5 204 "java/lang/IllegalStateException" ["java/lang/RuntimeException", "java/lang/Exception"]).filter goodWord)
def wsL_undo_r1 : List Cond := [Cond.classLink RL 63 "java/lang/IllegalStateException", Cond.methodLink RL 65 yX5_undo, Cond.instanceMethod yX5_undo, Cond.selects RX5 yX5_undo yX5_undo, Cond.initialized RX5, Cond.code yX5_undo cX5_undo 1 (some .int), Cond.fieldLink RX5 10 "PeggedBells" "drum" "LPeggedBells$Drum;", Cond.fieldLink RX5 33 "PeggedBells" "history" "LPeggedBells$History;", Cond.fieldLink RX5 217 "PeggedBells$History" "count" "I", Cond.methodLink RX5 209 yX2_takeLatest, Cond.instanceMethod yX2_takeLatest, Cond.selects RX2 yX2_takeLatest yX2_takeLatest, Cond.initialized RX2, Cond.code yX2_takeLatest cX2_takeLatest 1 (some (.object "PeggedBells$Drum")), Cond.classLink RX2 29 "java/lang/IllegalStateException", Cond.initialized "java/lang/IllegalStateException", Cond.fieldLink RX2 17 "PeggedBells$History" "count" "I", Cond.fieldLink RX2 11 "PeggedBells$History" "states" "[LPeggedBells$Drum;", Cond.methodLink RX5 213 yX0_copyFrom, Cond.instanceMethod yX0_copyFrom, Cond.selects RX0 yX0_copyFrom yX0_copyFrom, Cond.initialized RX0, Cond.code yX0_copyFrom cX0_copyFrom 2 none, Cond.fieldLink RX0 9 "PeggedBells$Drum" "pegs" "[I"]
def wsL_undo_r2 : List Cond := [Cond.methodLink RX0 53 arraycopyName, Cond.native arraycopyName, Cond.static arraycopyName, Cond.initialized "java/lang/System", Cond.fieldLink RX0 15 "PeggedBells$Drum" "tempos" "[I", Cond.fieldLink RX0 18 "PeggedBells$Drum" "weights" "[I", Cond.fieldLink RX0 21 "PeggedBells$Drum" "timesHeard" "[I", Cond.fieldLink RX0 27 "PeggedBells$Drum" "hammers" "LPeggedBells$Hammers;", Cond.fieldLink RX0 31 "PeggedBells$Drum" "bound" "I", Cond.fieldLink RX0 35 "PeggedBells$Drum" "atHand" "I", Cond.fieldLink RX0 38 "PeggedBells$Drum" "ticks" "I", Cond.fieldLink RX0 41 "PeggedBells$Drum" "heardSoFar" "I", Cond.fieldLink RX0 44 "PeggedBells$Drum" "missedSoFar" "I", Cond.methodLink RX0 59 yX1_copyFrom, Cond.instanceMethod yX1_copyFrom, Cond.selects RX1 yX1_copyFrom yX1_copyFrom, Cond.initialized RX1, Cond.code yX1_copyFrom cX1_copyFrom 2 none, Cond.fieldLink RX1 9 "PeggedBells$Hammers" "rests" "[I", Cond.methodLink RX1 21 arraycopyName]
def wsL_undo : List Cond := .codeWith yL_undo cL_undo 3 (some .int) [(0, 8, 11, 63)] :: ((wsL_undo_r1 ++ wsL_undo_r2) ++ wsX50 ++ wsX20 ++ wsX00 ++ wsX10 ++ (vx_atS RX2 33 "java/lang/IllegalStateException" ["java/lang/RuntimeException", "java/lang/Exception"]).filter goodWord)
def wsL_save_r1 : List Cond := [Cond.classLink RL 13 "java/lang/IndexOutOfBoundsException", Cond.methodLink RL 68 yX5_save, Cond.instanceMethod yX5_save, Cond.selects RX5 yX5_save yX5_save, Cond.initialized RX5, Cond.code yX5_save cX5_save 3 (some .int), Cond.classLink RX5 48 "java/lang/IndexOutOfBoundsException", Cond.initialized "java/lang/IndexOutOfBoundsException", Cond.fieldLink RX5 37 "PeggedBells" "slots" "[LPeggedBells$Drum;", Cond.classLink RX5 7 RX0, Cond.instantiable RX0 10, Cond.initialized RX0, Cond.fieldLink RX5 10 "PeggedBells" "drum" "LPeggedBells$Drum;", Cond.methodLink RX5 220 yX5_isSlot, Cond.static yX5_isSlot, Cond.code yX5_isSlot cX5_isSlot 1 (some .boolean), Cond.methodLink RX5 9 yX0_init, Cond.instanceMethod yX0_init, Cond.code yX0_init cX0_init 2 none, Cond.methodLink RX0 3 objectInit, Cond.instanceMethod objectInit, Cond.code objectInit ⟨#[0xb1]⟩ 1 none, Cond.arrayClass .int, Cond.fieldLink RX0 9 "PeggedBells$Drum" "pegs" "[I"]
def wsL_save_r2 : List Cond := [Cond.fieldLink RX0 15 "PeggedBells$Drum" "tempos" "[I", Cond.fieldLink RX0 18 "PeggedBells$Drum" "weights" "[I", Cond.fieldLink RX0 21 "PeggedBells$Drum" "timesHeard" "[I", Cond.classLink RX0 24 RX1, Cond.instantiable RX1 1, Cond.initialized RX1, Cond.fieldLink RX0 27 "PeggedBells$Drum" "hammers" "LPeggedBells$Hammers;", Cond.fieldLink RX0 31 "PeggedBells$Drum" "bound" "I", Cond.fieldLink RX0 35 "PeggedBells$Drum" "atHand" "I", Cond.fieldLink RX0 38 "PeggedBells$Drum" "ticks" "I", Cond.fieldLink RX0 41 "PeggedBells$Drum" "heardSoFar" "I", Cond.fieldLink RX0 44 "PeggedBells$Drum" "missedSoFar" "I", Cond.methodLink RX0 26 yX1_init, Cond.instanceMethod yX1_init, Cond.code yX1_init cX1_init 1 none, Cond.methodLink RX1 3 objectInit, Cond.fieldLink RX1 9 "PeggedBells$Hammers" "rests" "[I", Cond.methodLink RX1 15 yJ7_fill_53178, Cond.static yJ7_fill_53178, Cond.initialized RJ7, Cond.code yJ7_fill_53178 cJ7_fill_53178 4 none, Cond.methodLink RX0 47 yJ7_fill_53178, Cond.methodLink RX5 213 yX0_copyFrom, Cond.instanceMethod yX0_copyFrom]
def wsL_save_r3 : List Cond := [Cond.selects RX0 yX0_copyFrom yX0_copyFrom, Cond.code yX0_copyFrom cX0_copyFrom 2 none, Cond.methodLink RX0 53 arraycopyName, Cond.native arraycopyName, Cond.static arraycopyName, Cond.initialized "java/lang/System", Cond.methodLink RX0 59 yX1_copyFrom, Cond.instanceMethod yX1_copyFrom, Cond.selects RX1 yX1_copyFrom yX1_copyFrom, Cond.code yX1_copyFrom cX1_copyFrom 2 none, Cond.methodLink RX1 21 arraycopyName, Cond.methodLink RX5 141 yX0_countPegs, Cond.instanceMethod yX0_countPegs, Cond.selects RX0 yX0_countPegs yX0_countPegs, Cond.code yX0_countPegs cX0_countPegs 3 (some .int), Cond.methodLink RX0 77 yJ6_bitCount_0f7a4, Cond.static yJ6_bitCount_0f7a4, Cond.initialized RJ6, Cond.code yJ6_bitCount_0f7a4 cJ6_bitCount_0f7a4 1 (some .int), Cond.constant RJ6 265 (1431655765), Cond.constant RJ6 266 (858993459), Cond.constant RJ6 267 (252645135)]
def wsL_save : List Cond := .codeWith yL_save cL_save 4 (some .int) [(0, 9, 12, 13)] :: ((wsL_save_r1 ++ (wsL_save_r2 ++ wsL_save_r3)) ++ wsX50 ++ wsX00 ++ wsX10 ++ (vx_atS RX5 52 "java/lang/IndexOutOfBoundsException" ["java/lang/RuntimeException", "java/lang/Exception"]).filter goodWord)
def wsL_restore_r1 : List Cond := [Cond.classLink RL 13 "java/lang/IndexOutOfBoundsException", Cond.classLink RL 63 "java/lang/IllegalStateException", Cond.methodLink RL 71 yX5_restore, Cond.instanceMethod yX5_restore, Cond.selects RX5 yX5_restore yX5_restore, Cond.initialized RX5, Cond.code yX5_restore cX5_restore 3 (some .int), Cond.classLink RX5 48 "java/lang/IndexOutOfBoundsException", Cond.initialized "java/lang/IndexOutOfBoundsException", Cond.classLink RX5 200 "java/lang/IllegalStateException", Cond.initialized "java/lang/IllegalStateException", Cond.fieldLink RX5 37 "PeggedBells" "slots" "[LPeggedBells$Drum;", Cond.fieldLink RX5 33 "PeggedBells" "history" "LPeggedBells$History;", Cond.fieldLink RX5 10 "PeggedBells" "drum" "LPeggedBells$Drum;", Cond.methodLink RX5 220 yX5_isSlot, Cond.static yX5_isSlot, Cond.code yX5_isSlot cX5_isSlot 1 (some .boolean), Cond.methodLink RX5 55 yX2_add, Cond.instanceMethod yX2_add, Cond.selects RX2 yX2_add yX2_add, Cond.initialized RX2, Cond.code yX2_add cX2_add 3 (some (.object "PeggedBells$Drum")), Cond.fieldLink RX2 17 "PeggedBells$History" "count" "I", Cond.fieldLink RX2 11 "PeggedBells$History" "states" "[LPeggedBells$Drum;"]
def wsL_restore_r2 : List Cond := [Cond.methodLink RX2 22 yX2_dropOldest, Cond.instanceMethod yX2_dropOldest, Cond.selects RX2 yX2_dropOldest yX2_dropOldest, Cond.code yX2_dropOldest cX2_dropOldest 3 none, Cond.methodLink RX2 25 yX0_copyFrom, Cond.instanceMethod yX0_copyFrom, Cond.selects RX0 yX0_copyFrom yX0_copyFrom, Cond.initialized RX0, Cond.code yX0_copyFrom cX0_copyFrom 2 none, Cond.fieldLink RX0 9 "PeggedBells$Drum" "pegs" "[I", Cond.methodLink RX0 53 arraycopyName, Cond.native arraycopyName, Cond.static arraycopyName, Cond.initialized "java/lang/System", Cond.fieldLink RX0 15 "PeggedBells$Drum" "tempos" "[I", Cond.fieldLink RX0 18 "PeggedBells$Drum" "weights" "[I", Cond.fieldLink RX0 21 "PeggedBells$Drum" "timesHeard" "[I", Cond.fieldLink RX0 27 "PeggedBells$Drum" "hammers" "LPeggedBells$Hammers;", Cond.fieldLink RX0 31 "PeggedBells$Drum" "bound" "I", Cond.fieldLink RX0 35 "PeggedBells$Drum" "atHand" "I", Cond.fieldLink RX0 38 "PeggedBells$Drum" "ticks" "I", Cond.fieldLink RX0 41 "PeggedBells$Drum" "heardSoFar" "I", Cond.fieldLink RX0 44 "PeggedBells$Drum" "missedSoFar" "I", Cond.methodLink RX0 59 yX1_copyFrom]
def wsL_restore_r3 : List Cond := [Cond.instanceMethod yX1_copyFrom, Cond.selects RX1 yX1_copyFrom yX1_copyFrom, Cond.initialized RX1, Cond.code yX1_copyFrom cX1_copyFrom 2 none, Cond.fieldLink RX1 9 "PeggedBells$Hammers" "rests" "[I", Cond.methodLink RX1 21 arraycopyName, Cond.methodLink RX5 213 yX0_copyFrom, Cond.methodLink RX5 141 yX0_countPegs, Cond.instanceMethod yX0_countPegs, Cond.selects RX0 yX0_countPegs yX0_countPegs, Cond.code yX0_countPegs cX0_countPegs 3 (some .int), Cond.methodLink RX0 77 yJ6_bitCount_0f7a4, Cond.static yJ6_bitCount_0f7a4, Cond.initialized RJ6, Cond.code yJ6_bitCount_0f7a4 cJ6_bitCount_0f7a4 1 (some .int), Cond.constant RJ6 265 (1431655765), Cond.constant RJ6 266 (858993459), Cond.constant RJ6 267 (252645135)]
def wsL_restore : List Cond := .codeWith yL_restore cL_restore 4 (some .int) [(0, 9, 12, 13), (0, 9, 15, 63)] :: ((wsL_restore_r1 ++ (wsL_restore_r2 ++ wsL_restore_r3)) ++ wsX50 ++ wsX20 ++ wsX00 ++ wsX10 ++ (vx_atS RX5 52 "java/lang/IndexOutOfBoundsException" ["java/lang/RuntimeException", "java/lang/Exception"]).filter goodWord ++ (vx_atS RX5 204 "java/lang/IllegalStateException" ["java/lang/RuntimeException", "java/lang/Exception"]).filter goodWord)
def wsL_law0_r1 : List Cond := [Cond.classLink RL 8 RX5, Cond.instantiable RX5 5, Cond.initialized RX5, Cond.classLink RL 75 RX6, Cond.instantiable RX6 11, Cond.initialized RX6, Cond.arrayClass .long, Cond.constantLong RL 189 (4294967295), Cond.methodLink RL 74 yX5_init, Cond.instanceMethod yX5_init, Cond.code yX5_init cX5_init 1 none, Cond.methodLink RX5 1 objectInit, Cond.instanceMethod objectInit, Cond.code objectInit ⟨#[0xb1]⟩ 1 none, Cond.classLink RX5 7 RX0, Cond.instantiable RX0 10, Cond.initialized RX0, Cond.fieldLink RX5 10 "PeggedBells" "drum" "LPeggedBells$Drum;", Cond.classLink RX5 16 RX4, Cond.instantiable RX4 2, Cond.initialized RX4, Cond.fieldLink RX5 19 "PeggedBells" "round" "LPeggedBells$Round;", Cond.classLink RX5 23 RX3, Cond.instantiable RX3 2]
def wsL_law0_r2 : List Cond := [Cond.initialized RX3, Cond.fieldLink RX5 26 "PeggedBells" "pad" "LPeggedBells$Pad;", Cond.classLink RX5 30 RX2, Cond.instantiable RX2 2, Cond.initialized RX2, Cond.fieldLink RX5 33 "PeggedBells" "history" "LPeggedBells$History;", Cond.fieldLink RX5 37 "PeggedBells" "slots" "[LPeggedBells$Drum;", Cond.methodLink RX5 9 yX0_init, Cond.instanceMethod yX0_init, Cond.code yX0_init cX0_init 2 none, Cond.methodLink RX0 3 objectInit, Cond.arrayClass .int, Cond.fieldLink RX0 9 "PeggedBells$Drum" "pegs" "[I", Cond.fieldLink RX0 15 "PeggedBells$Drum" "tempos" "[I", Cond.fieldLink RX0 18 "PeggedBells$Drum" "weights" "[I", Cond.fieldLink RX0 21 "PeggedBells$Drum" "timesHeard" "[I", Cond.classLink RX0 24 RX1, Cond.instantiable RX1 1, Cond.initialized RX1, Cond.fieldLink RX0 27 "PeggedBells$Drum" "hammers" "LPeggedBells$Hammers;", Cond.fieldLink RX0 31 "PeggedBells$Drum" "bound" "I", Cond.fieldLink RX0 35 "PeggedBells$Drum" "atHand" "I", Cond.fieldLink RX0 38 "PeggedBells$Drum" "ticks" "I", Cond.fieldLink RX0 41 "PeggedBells$Drum" "heardSoFar" "I"]
def wsL_law0_r3 : List Cond := [Cond.fieldLink RX0 44 "PeggedBells$Drum" "missedSoFar" "I", Cond.methodLink RX0 26 yX1_init, Cond.instanceMethod yX1_init, Cond.code yX1_init cX1_init 1 none, Cond.methodLink RX1 3 objectInit, Cond.fieldLink RX1 9 "PeggedBells$Hammers" "rests" "[I", Cond.methodLink RX1 15 yJ7_fill_53178, Cond.static yJ7_fill_53178, Cond.initialized RJ7, Cond.code yJ7_fill_53178 cJ7_fill_53178 4 none, Cond.methodLink RX0 47 yJ7_fill_53178, Cond.instanceMethod yX4_init, Cond.code yX4_init cX4_init 1 none, Cond.methodLink RX4 3 objectInit, Cond.fieldLink RX4 9 "PeggedBells$Round" "heardIn" "[I", Cond.classLink RX4 15 RX1, Cond.fieldLink RX4 18 "PeggedBells$Round" "hammers" "LPeggedBells$Hammers;", Cond.methodLink RX4 17 yX1_init, Cond.instanceMethod yX3_init, Cond.code yX3_init cX3_init 1 none, Cond.methodLink RX3 3 objectInit, Cond.arrayClass .char, Cond.fieldLink RX3 11 "PeggedBells$Pad" "characters" "[C", Cond.fieldLink RX3 15 "PeggedBells$Pad" "length" "I"]
def wsL_law0_r4 : List Cond := [Cond.methodLink RX5 32 yX2_init, Cond.instanceMethod yX2_init, Cond.code yX2_init cX2_init 2 none, Cond.methodLink RX2 3 objectInit, Cond.classLink RX2 9 RX0, Cond.fieldLink RX2 11 "PeggedBells$History" "states" "[LPeggedBells$Drum;", Cond.fieldLink RX2 17 "PeggedBells$History" "count" "I", Cond.methodLink RX2 21 yX0_init, Cond.methodLink RL 77 yX6_init, Cond.instanceMethod yX6_init, Cond.code yX6_init cX6_init 2 none, Cond.methodLink RX6 1 objectInit, Cond.fieldLink RX6 7 "PeggedBellsModel" "s" "[I", Cond.fieldLink RX6 13 "PeggedBellsModel" "slots" "[I", Cond.arrayClass .boolean, Cond.fieldLink RX6 16 "PeggedBellsModel" "isSaved" "[Z", Cond.fieldLink RX6 20 "PeggedBellsModel" "history" "[I", Cond.fieldLink RX6 23 "PeggedBellsModel" "pad" "[I", Cond.fieldLink RX6 26 "PeggedBellsModel" "hammers" "[I", Cond.fieldLink RX6 29 "PeggedBellsModel" "sounds" "[I", Cond.methodLink RL 78 yL_turnPeg, Cond.static yL_turnPeg, Cond.initialized RL, Cond.codeWith yL_turnPeg cL_turnPeg 5 (some .int) [(0, 17, 20, 13)]]
def wsL_law0_r5 : List Cond := [Cond.classLink RL 13 "java/lang/IndexOutOfBoundsException", Cond.methodLink RL 7 yX5_turnPeg, Cond.instanceMethod yX5_turnPeg, Cond.selects RX5 yX5_turnPeg yX5_turnPeg, Cond.code yX5_turnPeg cX5_turnPeg 3 (some .boolean), Cond.classLink RX5 48 "java/lang/IndexOutOfBoundsException", Cond.initialized "java/lang/IndexOutOfBoundsException", Cond.fieldLink RX5 59 "PeggedBells$Drum" "pegs" "[I", Cond.methodLink RX5 41 yX5_isColumn, Cond.static yX5_isColumn, Cond.code yX5_isColumn cX5_isColumn 1 (some .boolean), Cond.methodLink RX5 45 yX5_isBell, Cond.static yX5_isBell, Cond.code yX5_isBell cX5_isBell 1 (some .boolean), Cond.methodLink RX5 55 yX2_add, Cond.instanceMethod yX2_add, Cond.selects RX2 yX2_add yX2_add, Cond.code yX2_add cX2_add 3 (some (.object "PeggedBells$Drum")), Cond.methodLink RX2 22 yX2_dropOldest, Cond.instanceMethod yX2_dropOldest, Cond.selects RX2 yX2_dropOldest yX2_dropOldest, Cond.code yX2_dropOldest cX2_dropOldest 3 none, Cond.methodLink RX2 25 yX0_copyFrom, Cond.instanceMethod yX0_copyFrom]
def wsL_law0_r6 : List Cond := [Cond.selects RX0 yX0_copyFrom yX0_copyFrom, Cond.code yX0_copyFrom cX0_copyFrom 2 none, Cond.methodLink RX0 53 arraycopyName, Cond.native arraycopyName, Cond.static arraycopyName, Cond.initialized "java/lang/System", Cond.methodLink RX0 59 yX1_copyFrom, Cond.instanceMethod yX1_copyFrom, Cond.selects RX1 yX1_copyFrom yX1_copyFrom, Cond.code yX1_copyFrom cX1_copyFrom 2 none, Cond.methodLink RX1 21 arraycopyName, Cond.methodLink RX5 63 yX5_holds, Cond.static yX5_holds, Cond.code yX5_holds cX5_holds 2 (some .boolean), Cond.methodLink RL 83 yX6_turnPeg, Cond.instanceMethod yX6_turnPeg, Cond.selects RX6 yX6_turnPeg yX6_turnPeg, Cond.code yX6_turnPeg cX6_turnPeg 3 (some .boolean), Cond.methodLink RX6 68 yX6_isColumn, Cond.static yX6_isColumn, Cond.code yX6_isColumn cX6_isColumn 1 (some .boolean), Cond.methodLink RX6 36 yX6_in, Cond.static yX6_in, Cond.code yX6_in cX6_in 3 (some .boolean)]
def wsL_law0_r7 : List Cond := [Cond.methodLink RX6 72 yX6_isBell, Cond.static yX6_isBell, Cond.code yX6_isBell cX6_isBell 1 (some .boolean), Cond.methodLink RX6 75 yX6_holds, Cond.instanceMethod yX6_holds, Cond.selects RX6 yX6_holds yX6_holds, Cond.code yX6_holds cX6_holds 2 (some .boolean), Cond.fieldLink RX6 32 "PeggedBellsModel" "thrown" "I", Cond.methodLink RX6 78 yX6_records, Cond.instanceMethod yX6_records, Cond.selects RX6 yX6_records yX6_records, Cond.code yX6_records cX6_records 2 none, Cond.fieldLink RX6 40 "PeggedBellsModel" "known" "I", Cond.methodLink RL 84 yX6_thrown, Cond.instanceMethod yX6_thrown, Cond.selects RX6 yX6_thrown yX6_thrown, Cond.code yX6_thrown cX6_thrown 1 (some .int), Cond.methodLink RL 87 yL_setColumn, Cond.static yL_setColumn, Cond.codeWith yL_setColumn cL_setColumn 5 (some .int) [(0, 10, 13, 13), (0, 10, 17, 19)], Cond.classLink RL 19 "java/lang/IllegalArgumentException", Cond.methodLink RL 15 yX5_setColumn, Cond.instanceMethod yX5_setColumn, Cond.selects RX5 yX5_setColumn yX5_setColumn]
def wsL_law0_r8 : List Cond := [Cond.code yX5_setColumn cX5_setColumn 4 (some .int), Cond.classLink RX5 69 "java/lang/IllegalArgumentException", Cond.initialized "java/lang/IllegalArgumentException", Cond.methodLink RX5 74 yX0_pegsOtherThan, Cond.instanceMethod yX0_pegsOtherThan, Cond.selects RX0 yX0_pegsOtherThan yX0_pegsOtherThan, Cond.code yX0_pegsOtherThan cX0_pegsOtherThan 4 (some .int), Cond.methodLink RX0 77 yJ6_bitCount_0f7a4, Cond.static yJ6_bitCount_0f7a4, Cond.initialized RJ6, Cond.code yJ6_bitCount_0f7a4 cJ6_bitCount_0f7a4 1 (some .int), Cond.constant RJ6 265 (1431655765), Cond.constant RJ6 266 (858993459), Cond.constant RJ6 267 (252645135), Cond.methodLink RL 89 yX6_setColumn, Cond.instanceMethod yX6_setColumn, Cond.selects RX6 yX6_setColumn yX6_setColumn, Cond.code yX6_setColumn cX6_setColumn 3 (some .int), Cond.methodLink RX6 81 yX6_lays, Cond.instanceMethod yX6_lays, Cond.selects RX6 yX6_lays yX6_lays, Cond.code yX6_lays cX6_lays 4 (some .int), Cond.methodLink RX6 43 yX6_count, Cond.static yX6_count]
def wsL_law0_r9 : List Cond := [Cond.code yX6_count cX6_count 3 (some .int), Cond.methodLink RL 90 yL_setTempo, Cond.static yL_setTempo, Cond.codeWith yL_setTempo cL_setTempo 5 (some .int) [(0, 10, 13, 13), (0, 10, 17, 19)], Cond.methodLink RL 21 yX5_setTempo, Cond.instanceMethod yX5_setTempo, Cond.selects RX5 yX5_setTempo yX5_setTempo, Cond.code yX5_setTempo cX5_setTempo 4 (some .int), Cond.fieldLink RX5 85 "PeggedBells$Drum" "tempos" "[I", Cond.methodLink RX5 78 yX5_isBar, Cond.static yX5_isBar, Cond.code yX5_isBar cX5_isBar 1 (some .boolean), Cond.methodLink RL 92 yX6_setTempo, Cond.instanceMethod yX6_setTempo, Cond.selects RX6 yX6_setTempo yX6_setTempo, Cond.code yX6_setTempo cX6_setTempo 3 (some .int), Cond.methodLink RX6 85 yX6_isBar, Cond.static yX6_isBar, Cond.code yX6_isBar cX6_isBar 1 (some .boolean), Cond.methodLink RX6 88 yX6_changes, Cond.instanceMethod yX6_changes, Cond.selects RX6 yX6_changes yX6_changes, Cond.code yX6_changes cX6_changes 4 (some .int), Cond.methodLink RL 93 yL_setWeight]
def wsL_law0_r10 : List Cond := [Cond.static yL_setWeight, Cond.codeWith yL_setWeight cL_setWeight 5 (some .int) [(0, 10, 13, 13), (0, 10, 17, 19)], Cond.methodLink RL 24 yX5_setWeight, Cond.instanceMethod yX5_setWeight, Cond.selects RX5 yX5_setWeight yX5_setWeight, Cond.code yX5_setWeight cX5_setWeight 4 (some .int), Cond.fieldLink RX5 92 "PeggedBells$Drum" "weights" "[I", Cond.methodLink RL 95 yX6_setWeight, Cond.instanceMethod yX6_setWeight, Cond.selects RX6 yX6_setWeight yX6_setWeight, Cond.code yX6_setWeight cX6_setWeight 3 (some .int), Cond.methodLink RL 96 yL_setBound, Cond.static yL_setBound, Cond.codeWith yL_setBound cL_setBound 4 (some .int) [(0, 9, 12, 19)], Cond.methodLink RL 27 yX5_setBound, Cond.instanceMethod yX5_setBound, Cond.selects RX5 yX5_setBound yX5_setBound, Cond.code yX5_setBound cX5_setBound 3 (some .int), Cond.fieldLink RX5 97 "PeggedBells$Drum" "bound" "I", Cond.methodLink RL 99 yX6_setBound, Cond.instanceMethod yX6_setBound, Cond.selects RX6 yX6_setBound yX6_setBound, Cond.code yX6_setBound cX6_setBound 2 (some .int), Cond.methodLink RL 100 yX5_turnRound]
def wsL_law0_r11 : List Cond := [Cond.instanceMethod yX5_turnRound, Cond.selects RX5 yX5_turnRound yX5_turnRound, Cond.code yX5_turnRound cX5_turnRound 3 (some .int), Cond.methodLink RL 103 yX6_turnRound, Cond.instanceMethod yX6_turnRound, Cond.selects RX6 yX6_turnRound yX6_turnRound, Cond.code yX6_turnRound cX6_turnRound 2 (some .int), Cond.methodLink RX6 91 yX6_laysAll, Cond.instanceMethod yX6_laysAll, Cond.selects RX6 yX6_laysAll yX6_laysAll, Cond.code yX6_laysAll cX6_laysAll 3 (some .int), Cond.methodLink RL 104 yL_move, Cond.static yL_move, Cond.codeWith yL_move cL_move 4 (some .int) [(0, 9, 12, 19)], Cond.methodLink RL 31 yX5_move, Cond.instanceMethod yX5_move, Cond.selects RX5 yX5_move yX5_move, Cond.code yX5_move cX5_move 4 (some .int), Cond.methodLink RL 106 yX6_move, Cond.instanceMethod yX6_move, Cond.selects RX6 yX6_move yX6_move, Cond.code yX6_move cX6_move 3 (some .int), Cond.methodLink RL 107 yX5_raise, Cond.instanceMethod yX5_raise]
def wsL_law0_r12 : List Cond := [Cond.selects RX5 yX5_raise yX5_raise, Cond.code yX5_raise cX5_raise 4 (some .int), Cond.methodLink RL 110 yX6_raise, Cond.instanceMethod yX6_raise, Cond.selects RX6 yX6_raise yX6_raise, Cond.code yX6_raise cX6_raise 3 (some .int), Cond.methodLink RL 111 yL_crank, Cond.static yL_crank, Cond.codeWith yL_crank cL_crank 4 (some .int) [(0, 9, 12, 19)], Cond.methodLink RL 34 yX5_crank, Cond.instanceMethod yX5_crank, Cond.selects RX5 yX5_crank yX5_crank, Cond.code yX5_crank cX5_crank 2 (some .int), Cond.methodLink RX5 105 yX0_strikeColumns, Cond.instanceMethod yX0_strikeColumns, Cond.selects RX0 yX0_strikeColumns yX0_strikeColumns, Cond.code yX0_strikeColumns cX0_strikeColumns 4 (some .int), Cond.methodLink RX0 63 yX0_strikeAtHand, Cond.instanceMethod yX0_strikeAtHand, Cond.selects RX0 yX0_strikeAtHand yX0_strikeAtHand, Cond.code yX0_strikeAtHand cX0_strikeAtHand 2 none, Cond.methodLink RX0 66 yX0_heardAtHand, Cond.instanceMethod yX0_heardAtHand, Cond.selects RX0 yX0_heardAtHand yX0_heardAtHand]
def wsL_law0_r13 : List Cond := [Cond.code yX0_heardAtHand cX0_heardAtHand 1 (some .int), Cond.methodLink RX0 83 yX1_heardOutOf, Cond.instanceMethod yX1_heardOutOf, Cond.selects RX1 yX1_heardOutOf yX1_heardOutOf, Cond.code yX1_heardOutOf cX1_heardOutOf 8 (some .int), Cond.methodLink RX1 31 yX1_isBack, Cond.instanceMethod yX1_isBack, Cond.selects RX1 yX1_isBack yX1_isBack, Cond.code yX1_isBack cX1_isBack 3 (some .boolean), Cond.methodLink RX0 70 yX1_swing, Cond.instanceMethod yX1_swing, Cond.selects RX1 yX1_swing yX1_swing, Cond.code yX1_swing cX1_swing 3 none, Cond.methodLink RX1 34 Lib.Math.min.name, Cond.static Lib.Math.min.name, Cond.initialized "java/lang/Math", Cond.code Lib.Math.min.name Lib.Math.min.code 2 (some .int), Cond.methodLink RX0 74 yX0_countHeard, Cond.instanceMethod yX0_countHeard, Cond.selects RX0 yX0_countHeard yX0_countHeard, Cond.code yX0_countHeard cX0_countHeard 3 none, Cond.methodLink RL 113 yX6_crank, Cond.instanceMethod yX6_crank, Cond.selects RX6 yX6_crank yX6_crank]
def wsL_law0_r14 : List Cond := [Cond.code yX6_crank cX6_crank 2 (some .int), Cond.methodLink RX6 94 yX6_cranks, Cond.instanceMethod yX6_cranks, Cond.selects RX6 yX6_cranks yX6_cranks, Cond.code yX6_cranks cX6_cranks 4 (some .int), Cond.methodLink RX6 57 yX6_strikes, Cond.instanceMethod yX6_strikes, Cond.selects RX6 yX6_strikes yX6_strikes, Cond.code yX6_strikes cX6_strikes 6 (some .int), Cond.methodLink RX6 50 yX6_missedFor, Cond.instanceMethod yX6_missedFor, Cond.selects RX6 yX6_missedFor yX6_missedFor, Cond.code yX6_missedFor cX6_missedFor 5 (some .int), Cond.methodLink RX6 47 yX6_weightIn, Cond.instanceMethod yX6_weightIn, Cond.selects RX6 yX6_weightIn yX6_weightIn, Cond.code yX6_weightIn cX6_weightIn 4 (some .int), Cond.methodLink RX6 54 yX6_later, Cond.static yX6_later, Cond.code yX6_later cX6_later 1 (some .int), Cond.methodLink RL 114 yX5_turnBack, Cond.instanceMethod yX5_turnBack, Cond.selects RX5 yX5_turnBack yX5_turnBack, Cond.code yX5_turnBack cX5_turnBack 2 (some .int)]
def wsL_law0_r15 : List Cond := [Cond.fieldLink RX5 109 "PeggedBells$Drum" "atHand" "I", Cond.fieldLink RX5 112 "PeggedBells$Drum" "hammers" "LPeggedBells$Hammers;", Cond.methodLink RX5 116 yX1_allBack, Cond.instanceMethod yX1_allBack, Cond.selects RX1 yX1_allBack yX1_allBack, Cond.code yX1_allBack cX1_allBack 1 none, Cond.methodLink RL 117 yX6_turnBack, Cond.instanceMethod yX6_turnBack, Cond.selects RX6 yX6_turnBack yX6_turnBack, Cond.code yX6_turnBack cX6_turnBack 3 (some .int), Cond.methodLink RL 118 yL_read, Cond.static yL_read, Cond.codeWith yL_read cL_read 3 (some .int) [(0, 8, 11, 19)], Cond.methodLink RL 37 yX5_read, Cond.instanceMethod yX5_read, Cond.selects RX5 yX5_read yX5_read, Cond.code yX5_read cX5_read 4 (some .int), Cond.fieldLink RX5 127 "PeggedBells$Pad" "length" "I", Cond.methodLink RX5 121 yX3_firstFault, Cond.instanceMethod yX3_firstFault, Cond.selects RX3 yX3_firstFault yX3_firstFault, Cond.code yX3_firstFault cX3_firstFault 3 (some .int), Cond.methodLink RX3 25 yX3_placeAfter, Cond.static yX3_placeAfter]
def wsL_law0_r16 : List Cond := [Cond.code yX3_placeAfter cX3_placeAfter 2 (some .int), Cond.methodLink RX3 29 yX3_placeAfterFirst, Cond.static yX3_placeAfterFirst, Cond.code yX3_placeAfterFirst cX3_placeAfterFirst 1 (some .int), Cond.methodLink RX3 33 yX3_isIn, Cond.static yX3_isIn, Cond.code yX3_isIn cX3_isIn 3 (some .boolean), Cond.methodLink RX3 37 yX3_placeAfterColumn, Cond.static yX3_placeAfterColumn, Cond.code yX3_placeAfterColumn cX3_placeAfterColumn 1 (some .int), Cond.methodLink RX3 40 yX3_placeAfterPart, Cond.static yX3_placeAfterPart, Cond.code yX3_placeAfterPart cX3_placeAfterPart 1 (some .int), Cond.methodLink RX5 130 yX3_at, Cond.instanceMethod yX3_at, Cond.selects RX3 yX3_at yX3_at, Cond.code yX3_at cX3_at 2 (some .char), Cond.methodLink RX5 134 yX5_doPart, Cond.instanceMethod yX5_doPart, Cond.selects RX5 yX5_doPart yX5_doPart, Cond.code yX5_doPart cX5_doPart 5 (some .int), Cond.methodLink RX5 227 yX3_digitAt, Cond.instanceMethod yX3_digitAt, Cond.selects RX3 yX3_digitAt yX3_digitAt]
def wsL_law0_r17 : List Cond := [Cond.code yX3_digitAt cX3_digitAt 2 (some .int), Cond.methodLink RX3 43 yX3_at, Cond.methodLink RX5 230 yX5_changeTempo, Cond.instanceMethod yX5_changeTempo, Cond.selects RX5 yX5_changeTempo yX5_changeTempo, Cond.code yX5_changeTempo cX5_changeTempo 3 none, Cond.methodLink RX5 234 yX5_turnPegs, Cond.instanceMethod yX5_turnPegs, Cond.selects RX5 yX5_turnPegs yX5_turnPegs, Cond.code yX5_turnPegs cX5_turnPegs 6 none, Cond.methodLink RX5 237 yX3_colonFrom, Cond.instanceMethod yX3_colonFrom, Cond.selects RX3 yX3_colonFrom yX3_colonFrom, Cond.code yX3_colonFrom cX3_colonFrom 3 (some .int), Cond.methodLink RX5 240 yX3_numberIn, Cond.instanceMethod yX3_numberIn, Cond.selects RX3 yX3_numberIn yX3_numberIn, Cond.code yX3_numberIn cX3_numberIn 5 (some .int), Cond.methodLink RX3 47 yX3_digitAt, Cond.methodLink RX5 138 yX3_clear, Cond.instanceMethod yX3_clear, Cond.selects RX3 yX3_clear yX3_clear, Cond.code yX3_clear cX3_clear 1 none, Cond.methodLink RL 121 yX6_read]
def wsL_law0_r18 : List Cond := [Cond.instanceMethod yX6_read, Cond.selects RX6 yX6_read yX6_read, Cond.code yX6_read cX6_read 3 (some .int), Cond.fieldLink RX6 105 "PeggedBellsModel" "length" "I", Cond.methodLink RX6 120 yX6_wrong, Cond.instanceMethod yX6_wrong, Cond.selects RX6 yX6_wrong yX6_wrong, Cond.code yX6_wrong cX6_wrong 3 (some .int), Cond.methodLink RX6 117 yX6_behindPart, Cond.instanceMethod yX6_behindPart, Cond.selects RX6 yX6_behindPart yX6_behindPart, Cond.code yX6_behindPart cX6_behindPart 4 (some .int), Cond.methodLink RX6 108 yX6_charAt, Cond.instanceMethod yX6_charAt, Cond.selects RX6 yX6_charAt yX6_charAt, Cond.code yX6_charAt cX6_charAt 2 (some .int), Cond.methodLink RX6 111 yX6_isDigit, Cond.instanceMethod yX6_isDigit, Cond.selects RX6 yX6_isDigit yX6_isDigit, Cond.code yX6_isDigit cX6_isDigit 2 (some .boolean), Cond.methodLink RX6 114 yX6_behindColumn, Cond.instanceMethod yX6_behindColumn, Cond.selects RX6 yX6_behindColumn yX6_behindColumn, Cond.code yX6_behindColumn cX6_behindColumn 3 (some .int)]
def wsL_law0_r19 : List Cond := [Cond.methodLink RX6 123 yX6_does, Cond.instanceMethod yX6_does, Cond.selects RX6 yX6_does yX6_does, Cond.code yX6_does cX6_does 6 (some .int), Cond.methodLink RL 122 yL_pegsIn, Cond.static yL_pegsIn, Cond.codeWith yL_pegsIn cL_pegsIn 4 (some .int) [(0, 9, 12, 13)], Cond.methodLink RL 41 yX5_pegsIn, Cond.instanceMethod yX5_pegsIn, Cond.selects RX5 yX5_pegsIn yX5_pegsIn, Cond.code yX5_pegsIn cX5_pegsIn 2 (some .int), Cond.methodLink RL 124 yX6_pegsIn, Cond.instanceMethod yX6_pegsIn, Cond.selects RX6 yX6_pegsIn yX6_pegsIn, Cond.code yX6_pegsIn cX6_pegsIn 2 (some .int), Cond.methodLink RL 125 yX5_pegs, Cond.instanceMethod yX5_pegs, Cond.selects RX5 yX5_pegs yX5_pegs, Cond.code yX5_pegs cX5_pegs 1 (some .int), Cond.methodLink RX5 141 yX0_countPegs, Cond.instanceMethod yX0_countPegs, Cond.selects RX0 yX0_countPegs yX0_countPegs, Cond.code yX0_countPegs cX0_countPegs 3 (some .int), Cond.methodLink RL 128 yX6_pegs]
def wsL_law0_r20 : List Cond := [Cond.instanceMethod yX6_pegs, Cond.selects RX6 yX6_pegs yX6_pegs, Cond.code yX6_pegs cX6_pegs 1 (some .int), Cond.methodLink RX6 97 yX6_allPegs, Cond.instanceMethod yX6_allPegs, Cond.selects RX6 yX6_allPegs yX6_allPegs, Cond.code yX6_allPegs cX6_allPegs 3 (some .int), Cond.methodLink RL 129 yL_tempoOf, Cond.static yL_tempoOf, Cond.codeWith yL_tempoOf cL_tempoOf 4 (some .int) [(0, 9, 12, 13)], Cond.methodLink RL 44 yX5_tempoOf, Cond.instanceMethod yX5_tempoOf, Cond.selects RX5 yX5_tempoOf yX5_tempoOf, Cond.code yX5_tempoOf cX5_tempoOf 2 (some .int), Cond.methodLink RL 131 yX6_tempoOf, Cond.instanceMethod yX6_tempoOf, Cond.selects RX6 yX6_tempoOf yX6_tempoOf, Cond.code yX6_tempoOf cX6_tempoOf 2 (some .int), Cond.methodLink RL 132 yL_weightOf, Cond.static yL_weightOf, Cond.codeWith yL_weightOf cL_weightOf 4 (some .int) [(0, 9, 12, 13)], Cond.methodLink RL 47 yX5_weightOf, Cond.instanceMethod yX5_weightOf, Cond.selects RX5 yX5_weightOf yX5_weightOf]
def wsL_law0_r21 : List Cond := [Cond.code yX5_weightOf cX5_weightOf 2 (some .int), Cond.methodLink RL 134 yX6_weightOf, Cond.instanceMethod yX6_weightOf, Cond.selects RX6 yX6_weightOf yX6_weightOf, Cond.code yX6_weightOf cX6_weightOf 2 (some .int), Cond.methodLink RL 135 yX5_column, Cond.instanceMethod yX5_column, Cond.selects RX5 yX5_column yX5_column, Cond.code yX5_column cX5_column 1 (some .int), Cond.methodLink RL 138 yX6_column, Cond.instanceMethod yX6_column, Cond.selects RX6 yX6_column yX6_column, Cond.code yX6_column cX6_column 1 (some .int), Cond.methodLink RL 139 yX5_time, Cond.instanceMethod yX5_time, Cond.selects RX5 yX5_time yX5_time, Cond.code yX5_time cX5_time 1 (some .int), Cond.fieldLink RX5 144 "PeggedBells$Drum" "ticks" "I", Cond.methodLink RL 142 yX6_time, Cond.instanceMethod yX6_time, Cond.selects RX6 yX6_time yX6_time, Cond.code yX6_time cX6_time 1 (some .int), Cond.methodLink RL 143 yL_heardOf, Cond.static yL_heardOf]
def wsL_law0_r22 : List Cond := [Cond.codeWith yL_heardOf cL_heardOf 4 (some .int) [(0, 9, 12, 13)], Cond.methodLink RL 50 yX5_heardOf, Cond.instanceMethod yX5_heardOf, Cond.selects RX5 yX5_heardOf yX5_heardOf, Cond.code yX5_heardOf cX5_heardOf 2 (some .int), Cond.fieldLink RX5 147 "PeggedBells$Drum" "timesHeard" "[I", Cond.methodLink RL 145 yX6_heardOf, Cond.instanceMethod yX6_heardOf, Cond.selects RX6 yX6_heardOf yX6_heardOf, Cond.code yX6_heardOf cX6_heardOf 2 (some .int), Cond.methodLink RL 146 yX5_heard, Cond.instanceMethod yX5_heard, Cond.selects RX5 yX5_heard yX5_heard, Cond.code yX5_heard cX5_heard 2 (some .int), Cond.fieldLink RX5 153 "PeggedBells$Drum" "heardSoFar" "I", Cond.methodLink RX5 150 yX0_sumOfTimesHeard, Cond.instanceMethod yX0_sumOfTimesHeard, Cond.selects RX0 yX0_sumOfTimesHeard yX0_sumOfTimesHeard, Cond.code yX0_sumOfTimesHeard cX0_sumOfTimesHeard 3 (some .int), Cond.methodLink RL 150 yX6_heard, Cond.instanceMethod yX6_heard, Cond.selects RX6 yX6_heard yX6_heard, Cond.code yX6_heard cX6_heard 4 (some .int), Cond.methodLink RL 151 yX5_missed]
def wsL_law0_r23 : List Cond := [Cond.instanceMethod yX5_missed, Cond.selects RX5 yX5_missed yX5_missed, Cond.code yX5_missed cX5_missed 1 (some .int), Cond.fieldLink RX5 156 "PeggedBells$Drum" "missedSoFar" "I", Cond.methodLink RL 154 yX6_missed, Cond.instanceMethod yX6_missed, Cond.selects RX6 yX6_missed yX6_missed, Cond.code yX6_missed cX6_missed 1 (some .int), Cond.methodLink RL 155 yL_whyMissed, Cond.static yL_whyMissed, Cond.codeWith yL_whyMissed cL_whyMissed 4 (some .int) [(0, 9, 12, 13)], Cond.methodLink RL 53 yX5_whyMissed, Cond.instanceMethod yX5_whyMissed, Cond.selects RX5 yX5_whyMissed yX5_whyMissed, Cond.code yX5_whyMissed cX5_whyMissed 2 (some .int), Cond.methodLink RX5 159 yX1_isBack, Cond.methodLink RX5 162 yX0_heardAtHand, Cond.methodLink RL 157 yX6_whyMissed, Cond.instanceMethod yX6_whyMissed, Cond.selects RX6 yX6_whyMissed yX6_whyMissed, Cond.code yX6_whyMissed cX6_whyMissed 6 (some .int), Cond.methodLink RL 158 yL_inRound, Cond.static yL_inRound, Cond.codeWith yL_inRound cL_inRound 4 (some .int) [(0, 9, 12, 13)]]
def wsL_law0_r24 : List Cond := [Cond.methodLink RL 56 yX5_inRound, Cond.instanceMethod yX5_inRound, Cond.selects RX5 yX5_inRound yX5_inRound, Cond.code yX5_inRound cX5_inRound 2 (some .int), Cond.fieldLink RX5 169 "PeggedBells$Round" "heardIn" "[I", Cond.methodLink RX5 165 yX4_play, Cond.instanceMethod yX4_play, Cond.selects RX4 yX4_play yX4_play, Cond.code yX4_play cX4_play 6 (some .int), Cond.fieldLink RX4 25 "PeggedBells$Drum" "pegs" "[I", Cond.fieldLink RX4 30 "PeggedBells$Drum" "weights" "[I", Cond.methodLink RX4 22 yX1_allBack, Cond.methodLink RX4 33 yX1_heardOutOf, Cond.methodLink RX4 37 yX1_swing, Cond.methodLink RX4 41 yJ6_bitCount_0f7a4, Cond.methodLink RL 160 yX6_inRound, Cond.instanceMethod yX6_inRound, Cond.selects RX6 yX6_inRound yX6_inRound, Cond.code yX6_inRound cX6_inRound 2 (some .int), Cond.methodLink RX6 64 yX6_rounds, Cond.instanceMethod yX6_rounds, Cond.selects RX6 yX6_rounds yX6_rounds, Cond.code yX6_rounds cX6_rounds 8 none, Cond.fieldLink RX6 61 "PeggedBellsModel" "tooHeavy" "I"]
def wsL_law0_r25 : List Cond := [Cond.methodLink RL 161 yX5_heardInRound, Cond.instanceMethod yX5_heardInRound, Cond.selects RX5 yX5_heardInRound yX5_heardInRound, Cond.code yX5_heardInRound cX5_heardInRound 3 (some .int), Cond.methodLink RX5 172 yX4_sumOfColumns, Cond.instanceMethod yX4_sumOfColumns, Cond.selects RX4 yX4_sumOfColumns yX4_sumOfColumns, Cond.code yX4_sumOfColumns cX4_sumOfColumns 3 (some .int), Cond.methodLink RL 164 yX6_heardInRound, Cond.instanceMethod yX6_heardInRound, Cond.selects RX6 yX6_heardInRound yX6_heardInRound, Cond.code yX6_heardInRound cX6_heardInRound 2 (some .int), Cond.methodLink RX6 100 yX6_heardOfRound, Cond.instanceMethod yX6_heardOfRound, Cond.selects RX6 yX6_heardOfRound yX6_heardOfRound, Cond.code yX6_heardOfRound cX6_heardOfRound 3 (some .int), Cond.methodLink RL 165 yX5_ticksOfRound, Cond.instanceMethod yX5_ticksOfRound, Cond.selects RX5 yX5_ticksOfRound yX5_ticksOfRound, Cond.code yX5_ticksOfRound cX5_ticksOfRound 2 (some .int), Cond.methodLink RX5 175 yX0_ticksByBars, Cond.instanceMethod yX0_ticksByBars, Cond.selects RX0 yX0_ticksByBars yX0_ticksByBars, Cond.code yX0_ticksByBars cX0_ticksByBars 3 (some .int)]
def wsL_law0_r26 : List Cond := [Cond.methodLink RX5 178 yX0_ticksByColumns, Cond.instanceMethod yX0_ticksByColumns, Cond.selects RX0 yX0_ticksByColumns yX0_ticksByColumns, Cond.code yX0_ticksByColumns cX0_ticksByColumns 3 (some .int), Cond.methodLink RL 168 yX6_ticksOfRound, Cond.instanceMethod yX6_ticksOfRound, Cond.selects RX6 yX6_ticksOfRound yX6_ticksOfRound, Cond.code yX6_ticksOfRound cX6_ticksOfRound 4 (some .int), Cond.methodLink RL 169 yX5_missedInRound, Cond.instanceMethod yX5_missedInRound, Cond.selects RX5 yX5_missedInRound yX5_missedInRound, Cond.code yX5_missedInRound cX5_missedInRound 1 (some .int), Cond.methodLink RL 172 yX6_missedInRound, Cond.instanceMethod yX6_missedInRound, Cond.selects RX6 yX6_missedInRound yX6_missedInRound, Cond.code yX6_missedInRound cX6_missedInRound 1 (some .int), Cond.methodLink RL 173 yX5_busiest, Cond.instanceMethod yX5_busiest, Cond.selects RX5 yX5_busiest yX5_busiest, Cond.code yX5_busiest cX5_busiest 5 (some .int), Cond.methodLink RX5 181 yX4_timesHeard, Cond.instanceMethod yX4_timesHeard, Cond.selects RX4 yX4_timesHeard yX4_timesHeard, Cond.code yX4_timesHeard cX4_timesHeard 4 (some .int)]
def wsL_law0_r27 : List Cond := [Cond.methodLink RL 176 yX6_busiest, Cond.instanceMethod yX6_busiest, Cond.selects RX6 yX6_busiest yX6_busiest, Cond.code yX6_busiest cX6_busiest 6 (some .int), Cond.methodLink RL 177 yX5_longestSilence, Cond.instanceMethod yX5_longestSilence, Cond.selects RX5 yX5_longestSilence yX5_longestSilence, Cond.code yX5_longestSilence cX5_longestSilence 4 (some .int), Cond.methodLink RX5 183 Lib.Math.max.name, Cond.static Lib.Math.max.name, Cond.code Lib.Math.max.name Lib.Math.max.code 2 (some .int), Cond.methodLink RL 180 yX6_longestSilence, Cond.instanceMethod yX6_longestSilence, Cond.selects RX6 yX6_longestSilence yX6_longestSilence, Cond.code yX6_longestSilence cX6_longestSilence 4 (some .int), Cond.methodLink RL 181 yX5_enoughBound, Cond.instanceMethod yX5_enoughBound, Cond.selects RX5 yX5_enoughBound yX5_enoughBound, Cond.code yX5_enoughBound cX5_enoughBound 3 (some .int), Cond.methodLink RX5 188 yX0_weightOfAll, Cond.instanceMethod yX0_weightOfAll, Cond.selects RX0 yX0_weightOfAll yX0_weightOfAll, Cond.code yX0_weightOfAll cX0_weightOfAll 4 (some .int), Cond.methodLink RL 184 yX6_enoughBound]
def wsL_law0_r28 : List Cond := [Cond.instanceMethod yX6_enoughBound, Cond.selects RX6 yX6_enoughBound yX6_enoughBound, Cond.code yX6_enoughBound cX6_enoughBound 2 (some .int), Cond.methodLink RL 185 yX5_heaviestColumn, Cond.instanceMethod yX5_heaviestColumn, Cond.selects RX5 yX5_heaviestColumn yX5_heaviestColumn, Cond.code yX5_heaviestColumn cX5_heaviestColumn 5 (some .int), Cond.methodLink RL 188 yX6_heaviestColumn, Cond.instanceMethod yX6_heaviestColumn, Cond.selects RX6 yX6_heaviestColumn yX6_heaviestColumn, Cond.code yX6_heaviestColumn cX6_heaviestColumn 5 (some .int), Cond.methodLink RL 191 yL_put, Cond.static yL_put, Cond.codeWith yL_put cL_put 5 (some .int) [(0, 9, 12, 19), (0, 9, 16, 63)], Cond.classLink RL 63 "java/lang/IllegalStateException", Cond.methodLink RL 59 yX5_put, Cond.instanceMethod yX5_put, Cond.selects RX5 yX5_put yX5_put, Cond.code yX5_put cX5_put 4 (some .int), Cond.classLink RX5 200 "java/lang/IllegalStateException", Cond.initialized "java/lang/IllegalStateException", Cond.methodLink RX5 191 yX3_charactersIn, Cond.static yX3_charactersIn, Cond.code yX3_charactersIn cX3_charactersIn 7 (some .int)]
def wsL_law0_r29 : List Cond := [Cond.constantLong RX3 19 (255), Cond.constantLong RX3 21 (33), Cond.constantLong RX3 23 (126), Cond.methodLink RX5 197 yX3_hasRoomFor, Cond.instanceMethod yX3_hasRoomFor, Cond.selects RX3 yX3_hasRoomFor yX3_hasRoomFor, Cond.code yX3_hasRoomFor cX3_hasRoomFor 2 (some .boolean), Cond.methodLink RX5 205 yX3_append, Cond.instanceMethod yX3_append, Cond.selects RX3 yX3_append yX3_append, Cond.code yX3_append cX3_append 5 none, Cond.methodLink RL 194 yX6_put, Cond.instanceMethod yX6_put, Cond.selects RX6 yX6_put yX6_put, Cond.code yX6_put cX6_put 8 (some .int), Cond.constantLong RX6 103 (255), Cond.methodLink RL 195 yX5_wipe, Cond.instanceMethod yX5_wipe, Cond.selects RX5 yX5_wipe yX5_wipe, Cond.code yX5_wipe cX5_wipe 2 (some .int), Cond.methodLink RL 198 yX6_wipe, Cond.instanceMethod yX6_wipe, Cond.selects RX6 yX6_wipe yX6_wipe, Cond.code yX6_wipe cX6_wipe 2 (some .int)]
def wsL_law0_r30 : List Cond := [Cond.methodLink RL 199 yX5_padLength, Cond.instanceMethod yX5_padLength, Cond.selects RX5 yX5_padLength yX5_padLength, Cond.code yX5_padLength cX5_padLength 1 (some .int), Cond.methodLink RL 202 yX6_padLength, Cond.instanceMethod yX6_padLength, Cond.selects RX6 yX6_padLength yX6_padLength, Cond.code yX6_padLength cX6_padLength 1 (some .int), Cond.methodLink RL 203 yX5_fault, Cond.instanceMethod yX5_fault, Cond.selects RX5 yX5_fault yX5_fault, Cond.code yX5_fault cX5_fault 1 (some .int), Cond.methodLink RL 206 yX6_fault, Cond.instanceMethod yX6_fault, Cond.selects RX6 yX6_fault yX6_fault, Cond.code yX6_fault cX6_fault 1 (some .int), Cond.methodLink RL 207 yL_undo, Cond.static yL_undo, Cond.codeWith yL_undo cL_undo 3 (some .int) [(0, 8, 11, 63)], Cond.methodLink RL 65 yX5_undo, Cond.instanceMethod yX5_undo, Cond.selects RX5 yX5_undo yX5_undo, Cond.code yX5_undo cX5_undo 1 (some .int), Cond.fieldLink RX5 217 "PeggedBells$History" "count" "I"]
def wsL_law0_r31 : List Cond := [Cond.methodLink RX5 209 yX2_takeLatest, Cond.instanceMethod yX2_takeLatest, Cond.selects RX2 yX2_takeLatest yX2_takeLatest, Cond.code yX2_takeLatest cX2_takeLatest 1 (some (.object "PeggedBells$Drum")), Cond.classLink RX2 29 "java/lang/IllegalStateException", Cond.methodLink RX5 213 yX0_copyFrom, Cond.methodLink RL 209 yX6_undo, Cond.instanceMethod yX6_undo, Cond.selects RX6 yX6_undo yX6_undo, Cond.code yX6_undo cX6_undo 2 (some .int), Cond.methodLink RL 210 yX5_undoable, Cond.instanceMethod yX5_undoable, Cond.selects RX5 yX5_undoable yX5_undoable, Cond.code yX5_undoable cX5_undoable 1 (some .int), Cond.methodLink RL 213 yX6_undoable, Cond.instanceMethod yX6_undoable, Cond.selects RX6 yX6_undoable yX6_undoable, Cond.code yX6_undoable cX6_undoable 1 (some .int), Cond.methodLink RL 214 yL_save, Cond.static yL_save, Cond.codeWith yL_save cL_save 4 (some .int) [(0, 9, 12, 13)], Cond.methodLink RL 68 yX5_save, Cond.instanceMethod yX5_save, Cond.selects RX5 yX5_save yX5_save]
def wsL_law0_r32 : List Cond := [Cond.code yX5_save cX5_save 3 (some .int), Cond.methodLink RX5 220 yX5_isSlot, Cond.static yX5_isSlot, Cond.code yX5_isSlot cX5_isSlot 1 (some .boolean), Cond.methodLink RL 216 yX6_save, Cond.instanceMethod yX6_save, Cond.selects RX6 yX6_save yX6_save, Cond.code yX6_save cX6_save 3 (some .int), Cond.methodLink RL 217 yL_restore, Cond.static yL_restore, Cond.codeWith yL_restore cL_restore 4 (some .int) [(0, 9, 12, 13), (0, 9, 15, 63)], Cond.methodLink RL 71 yX5_restore, Cond.instanceMethod yX5_restore, Cond.selects RX5 yX5_restore yX5_restore, Cond.code yX5_restore cX5_restore 3 (some .int), Cond.methodLink RL 219 yX6_restore, Cond.instanceMethod yX6_restore, Cond.selects RX6 yX6_restore yX6_restore, Cond.code yX6_restore cX6_restore 4 (some .int)]
def wsL_law0 : List Cond := (wsL_law0_r1 ++ (wsL_law0_r2 ++ (wsL_law0_r3 ++ (wsL_law0_r4 ++ (wsL_law0_r5 ++ (wsL_law0_r6 ++ (wsL_law0_r7 ++ (wsL_law0_r8 ++ (wsL_law0_r9 ++ (wsL_law0_r10 ++ (wsL_law0_r11 ++ (wsL_law0_r12 ++ (wsL_law0_r13 ++ (wsL_law0_r14 ++ (wsL_law0_r15 ++ (wsL_law0_r16 ++ (wsL_law0_r17 ++ (wsL_law0_r18 ++ (wsL_law0_r19 ++ (wsL_law0_r20 ++ (wsL_law0_r21 ++ (wsL_law0_r22 ++ (wsL_law0_r23 ++ (wsL_law0_r24 ++ (wsL_law0_r25 ++ (wsL_law0_r26 ++ (wsL_law0_r27 ++ (wsL_law0_r28 ++ (wsL_law0_r29 ++ (wsL_law0_r30 ++ (wsL_law0_r31 ++ wsL_law0_r32))))))))))))))))))))))))))))))) ++ wsX50 ++ wsX60 ++ wsX00 ++ wsX40 ++ wsX30 ++ wsX20 ++ wsX10 ++ ([] : List Cond)
def wsL_law : List Cond := wsL_law0 ++ (vx_atS RX5 52 "java/lang/IndexOutOfBoundsException" ["java/lang/RuntimeException", "java/lang/Exception"]).filter goodWord ++ (vx_atS RX5 73 "java/lang/IllegalArgumentException" ["java/lang/RuntimeException", "java/lang/Exception"]).filter goodWord ++ (vx_atS RX5 204 "java/lang/IllegalStateException" ["java/lang/RuntimeException", "java/lang/Exception"]).filter goodWord ++ (vx_atS RX2 33 "java/lang/IllegalStateException" ["java/lang/RuntimeException", "java/lang/Exception"]).filter goodWord
set_option maxRecDepth 100000 in
theorem wsL_law_in0_1 : ∀ w ∈ wsL_law0_r1, w ∈ lw_tbl := fun w h => (goodIn_p wsL_law0_r1 [47, 50] (by decide +kernel) (by decide +kernel) w h).1
set_option maxRecDepth 100000 in
theorem wsL_law_in0_2 : ∀ w ∈ wsL_law0_r2, w ∈ lw_tbl := fun w h => (goodIn_p wsL_law0_r2 [55] (by decide +kernel) (by decide +kernel) w h).1
set_option maxRecDepth 100000 in
theorem wsL_law_in0_3 : ∀ w ∈ wsL_law0_r3, w ∈ lw_tbl := fun w h => (goodIn_p wsL_law0_r3 [61, 65, 119, 135] (by decide +kernel) (by decide +kernel) w h).1
set_option maxRecDepth 100000 in
theorem wsL_law_in0_4 : ∀ w ∈ wsL_law0_r4, w ∈ lw_tbl := fun w h => (goodIn_p wsL_law0_r4 [150, 699] (by decide +kernel) (by decide +kernel) w h).1
set_option maxRecDepth 100000 in
theorem wsL_law_in0_5 : ∀ w ∈ wsL_law0_r5, w ∈ lw_tbl := fun w h => (goodIn_p wsL_law0_r5 [377, 380, 383, 186, 190] (by decide +kernel) (by decide +kernel) w h).1
set_option maxRecDepth 100000 in
theorem wsL_law_in0_6 : ∀ w ∈ wsL_law0_r6, w ∈ lw_tbl := fun w h => (goodIn_p wsL_law0_r6 [194, 201, 219, 743, 746, 749] (by decide +kernel) (by decide +kernel) w h).1
set_option maxRecDepth 100000 in
theorem wsL_law_in0_7 : ∀ w ∈ wsL_law0_r7, w ∈ lw_tbl := fun w h => (goodIn_p wsL_law0_r7 [752, 756, 760, 739] (by decide +kernel) (by decide +kernel) w h).1
set_option maxRecDepth 100000 in
theorem wsL_law_in0_8 : ∀ w ∈ wsL_law0_r8, w ∈ lw_tbl := fun w h => (goodIn_p wsL_law0_r8 [459, 206, 209, 764, 768] (by decide +kernel) (by decide +kernel) w h).1
set_option maxRecDepth 100000 in
theorem wsL_law_in0_9 : ∀ w ∈ wsL_law0_r9, w ∈ lw_tbl := fun w h => (goodIn_p wsL_law0_r9 [771, 483, 486, 775, 778, 782] (by decide +kernel) (by decide +kernel) w h).1
set_option maxRecDepth 100000 in
theorem wsL_law_in0_10 : ∀ w ∈ wsL_law0_r10, w ∈ lw_tbl := fun w h => (goodIn_p wsL_law0_r10 [495, 786, 504, 790] (by decide +kernel) (by decide +kernel) w h).1
set_option maxRecDepth 100000 in
theorem wsL_law_in0_11 : ∀ w ∈ wsL_law0_r11, w ∈ lw_tbl := fun w h => (goodIn_p wsL_law0_r11 [182, 794, 798, 512, 802] (by decide +kernel) (by decide +kernel) w h).1
set_option maxRecDepth 100000 in
theorem wsL_law_in0_12 : ∀ w ∈ wsL_law0_r12, w ∈ lw_tbl := fun w h => (goodIn_p wsL_law0_r12 [216, 806, 520, 525, 529] (by decide +kernel) (by decide +kernel) w h).1
set_option maxRecDepth 100000 in
theorem wsL_law_in0_13 : ∀ w ∈ wsL_law0_r13, w ∈ lw_tbl := fun w h => (goodIn_p wsL_law0_r13 [533, 268, 273, 277, 280, 539] (by decide +kernel) (by decide +kernel) w h).1
set_option maxRecDepth 100000 in
theorem wsL_law_in0_14 : ∀ w ∈ wsL_law0_r14, w ∈ lw_tbl := fun w h => (goodIn_p wsL_law0_r14 [810, 814, 818, 822, 826, 829, 223] (by decide +kernel) (by decide +kernel) w h).1
set_option maxRecDepth 100000 in
theorem wsL_law_in0_15 : ∀ w ∈ wsL_law0_r15, w ∈ lw_tbl := fun w h => (goodIn_p wsL_law0_r15 [227, 833, 546, 350] (by decide +kernel) (by decide +kernel) w h).1
set_option maxRecDepth 100000 in
theorem wsL_law_in0_16 : ∀ w ∈ wsL_law0_r16, w ∈ lw_tbl := fun w h => (goodIn_p wsL_law0_r16 [353, 356, 359, 362, 365, 551, 555] (by decide +kernel) (by decide +kernel) w h).1
set_option maxRecDepth 100000 in
theorem wsL_law_in0_17 : ∀ w ∈ wsL_law0_r17, w ∈ lw_tbl := fun w h => (goodIn_p wsL_law0_r17 [559, 564, 568, 572, 576, 338] (by decide +kernel) (by decide +kernel) w h).1
set_option maxRecDepth 100000 in
theorem wsL_law_in0_18 : ∀ w ∈ wsL_law0_r18, w ∈ lw_tbl := fun w h => (goodIn_p wsL_law0_r18 [958, 938, 942, 946, 950, 954] (by decide +kernel) (by decide +kernel) w h).1
set_option maxRecDepth 100000 in
theorem wsL_law_in0_19 : ∀ w ∈ wsL_law0_r19, w ∈ lw_tbl := fun w h => (goodIn_p wsL_law0_r19 [962, 584, 837, 231, 235] (by decide +kernel) (by decide +kernel) w h).1
set_option maxRecDepth 100000 in
theorem wsL_law_in0_20 : ∀ w ∈ wsL_law0_r20, w ∈ lw_tbl := fun w h => (goodIn_p wsL_law0_r20 [841, 845, 591, 849] (by decide +kernel) (by decide +kernel) w h).1
set_option maxRecDepth 100000 in
theorem wsL_law_in0_21 : ∀ w ∈ wsL_law0_r21, w ∈ lw_tbl := fun w h => (goodIn_p wsL_law0_r21 [598, 853, 239, 857, 243, 861] (by decide +kernel) (by decide +kernel) w h).1
set_option maxRecDepth 100000 in
theorem wsL_law_in0_22 : ∀ w ∈ wsL_law0_r22, w ∈ lw_tbl := fun w h => (goodIn_p wsL_law0_r22 [605, 865, 247, 251, 869] (by decide +kernel) (by decide +kernel) w h).1
set_option maxRecDepth 100000 in
theorem wsL_law_in0_23 : ∀ w ∈ wsL_law0_r23, w ∈ lw_tbl := fun w h => (goodIn_p wsL_law0_r23 [255, 873, 612, 877] (by decide +kernel) (by decide +kernel) w h).1
set_option maxRecDepth 100000 in
theorem wsL_law_in0_24 : ∀ w ∈ wsL_law0_r24, w ∈ lw_tbl := fun w h => (goodIn_p wsL_law0_r24 [621, 263, 881, 885] (by decide +kernel) (by decide +kernel) w h).1
set_option maxRecDepth 100000 in
theorem wsL_law_in0_25 : ∀ w ∈ wsL_law0_r25, w ∈ lw_tbl := fun w h => (goodIn_p wsL_law0_r25 [259, 285, 889, 893, 289, 293] (by decide +kernel) (by decide +kernel) w h).1
set_option maxRecDepth 100000 in
theorem wsL_law_in0_26 : ∀ w ∈ wsL_law0_r26, w ∈ lw_tbl := fun w h => (goodIn_p wsL_law0_r26 [297, 897, 301, 901, 305, 309] (by decide +kernel) (by decide +kernel) w h).1
set_option maxRecDepth 100000 in
theorem wsL_law_in0_27 : ∀ w ∈ wsL_law0_r27, w ∈ lw_tbl := fun w h => (goodIn_p wsL_law0_r27 [905, 314, 317, 909, 321, 325] (by decide +kernel) (by decide +kernel) w h).1
set_option maxRecDepth 100000 in
theorem wsL_law_in0_28 : ∀ w ∈ wsL_law0_r28, w ∈ lw_tbl := fun w h => (goodIn_p wsL_law0_r28 [913, 330, 917, 629, 632] (by decide +kernel) (by decide +kernel) w h).1
set_option maxRecDepth 100000 in
theorem wsL_law_in0_29 : ∀ w ∈ wsL_law0_r29, w ∈ lw_tbl := fun w h => (goodIn_p wsL_law0_r29 [640, 660, 921, 334, 926] (by decide +kernel) (by decide +kernel) w h).1
set_option maxRecDepth 100000 in
theorem wsL_law_in0_30 : ∀ w ∈ wsL_law0_r30, w ∈ lw_tbl := fun w h => (goodIn_p wsL_law0_r30 [342, 930, 346, 934, 667] (by decide +kernel) (by decide +kernel) w h).1
set_option maxRecDepth 100000 in
theorem wsL_law_in0_31 : ∀ w ∈ wsL_law0_r31, w ∈ lw_tbl := fun w h => (goodIn_p wsL_law0_r31 [671, 966, 369, 970] (by decide +kernel) (by decide +kernel) w h).1
set_option maxRecDepth 100000 in
theorem wsL_law_in0_32 : ∀ w ∈ wsL_law0_r32, w ∈ lw_tbl := fun w h => (goodIn_p wsL_law0_r32 [682, 685, 974, 693, 978] (by decide +kernel) (by decide +kernel) w h).1
set_option maxRecDepth 100000 in
theorem in0_wsX50 : ∀ w ∈ wsX50, w ∈ lw_tbl := by decide +kernel
set_option maxRecDepth 100000 in
theorem in0_wsX60 : ∀ w ∈ wsX60, w ∈ lw_tbl := by decide +kernel
set_option maxRecDepth 100000 in
theorem in0_wsX00 : ∀ w ∈ wsX00, w ∈ lw_tbl := by decide +kernel
set_option maxRecDepth 100000 in
theorem in0_wsX40 : ∀ w ∈ wsX40, w ∈ lw_tbl := by decide +kernel
set_option maxRecDepth 100000 in
theorem in0_wsX30 : ∀ w ∈ wsX30, w ∈ lw_tbl := by decide +kernel
set_option maxRecDepth 100000 in
theorem in0_wsX20 : ∀ w ∈ wsX20, w ∈ lw_tbl := by decide +kernel
set_option maxRecDepth 100000 in
theorem in0_wsX10 : ∀ w ∈ wsX10, w ∈ lw_tbl := by decide +kernel
theorem wsL_law_in0 : ∀ w ∈ wsL_law0, w ∈ lw_tbl := fun w h => (List.mem_append.mp h).elim (fun h => (List.mem_append.mp h).elim (fun h => (List.mem_append.mp h).elim (fun h => (List.mem_append.mp h).elim (fun h => (List.mem_append.mp h).elim (fun h => (List.mem_append.mp h).elim (fun h => (List.mem_append.mp h).elim (fun h => (List.mem_append.mp h).elim (fun h => (List.mem_append.mp h).elim (fun h => wsL_law_in0_1 w h) (fun h => (List.mem_append.mp h).elim (fun h => wsL_law_in0_2 w h) (fun h => (List.mem_append.mp h).elim (fun h => wsL_law_in0_3 w h) (fun h => (List.mem_append.mp h).elim (fun h => wsL_law_in0_4 w h) (fun h => (List.mem_append.mp h).elim (fun h => wsL_law_in0_5 w h) (fun h => (List.mem_append.mp h).elim (fun h => wsL_law_in0_6 w h) (fun h => (List.mem_append.mp h).elim (fun h => wsL_law_in0_7 w h) (fun h => (List.mem_append.mp h).elim (fun h => wsL_law_in0_8 w h) (fun h => (List.mem_append.mp h).elim (fun h => wsL_law_in0_9 w h) (fun h => (List.mem_append.mp h).elim (fun h => wsL_law_in0_10 w h) (fun h => (List.mem_append.mp h).elim (fun h => wsL_law_in0_11 w h) (fun h => (List.mem_append.mp h).elim (fun h => wsL_law_in0_12 w h) (fun h => (List.mem_append.mp h).elim (fun h => wsL_law_in0_13 w h) (fun h => (List.mem_append.mp h).elim (fun h => wsL_law_in0_14 w h) (fun h => (List.mem_append.mp h).elim (fun h => wsL_law_in0_15 w h) (fun h => (List.mem_append.mp h).elim (fun h => wsL_law_in0_16 w h) (fun h => (List.mem_append.mp h).elim (fun h => wsL_law_in0_17 w h) (fun h => (List.mem_append.mp h).elim (fun h => wsL_law_in0_18 w h) (fun h => (List.mem_append.mp h).elim (fun h => wsL_law_in0_19 w h) (fun h => (List.mem_append.mp h).elim (fun h => wsL_law_in0_20 w h) (fun h => (List.mem_append.mp h).elim (fun h => wsL_law_in0_21 w h) (fun h => (List.mem_append.mp h).elim (fun h => wsL_law_in0_22 w h) (fun h => (List.mem_append.mp h).elim (fun h => wsL_law_in0_23 w h) (fun h => (List.mem_append.mp h).elim (fun h => wsL_law_in0_24 w h) (fun h => (List.mem_append.mp h).elim (fun h => wsL_law_in0_25 w h) (fun h => (List.mem_append.mp h).elim (fun h => wsL_law_in0_26 w h) (fun h => (List.mem_append.mp h).elim (fun h => wsL_law_in0_27 w h) (fun h => (List.mem_append.mp h).elim (fun h => wsL_law_in0_28 w h) (fun h => (List.mem_append.mp h).elim (fun h => wsL_law_in0_29 w h) (fun h => (List.mem_append.mp h).elim (fun h => wsL_law_in0_30 w h) (fun h => (List.mem_append.mp h).elim (fun h => wsL_law_in0_31 w h) (fun h => wsL_law_in0_32 w h)))))))))))))))))))))))))))))))) (fun h => in0_wsX50 w h)) (fun h => in0_wsX60 w h)) (fun h => in0_wsX00 w h)) (fun h => in0_wsX40 w h)) (fun h => in0_wsX30 w h)) (fun h => in0_wsX20 w h)) (fun h => in0_wsX10 w h)) (fun h => absurd h List.not_mem_nil)
theorem wsL_law_x0 : ∀ w ∈ (vx_atS RX5 52 "java/lang/IndexOutOfBoundsException" ["java/lang/RuntimeException", "java/lang/Exception"]).filter goodWord, w ∈ lw_tbl := by decide +kernel
theorem wsL_law_x1 : ∀ w ∈ (vx_atS RX5 73 "java/lang/IllegalArgumentException" ["java/lang/RuntimeException", "java/lang/Exception"]).filter goodWord, w ∈ lw_tbl := by decide +kernel
theorem wsL_law_x2 : ∀ w ∈ (vx_atS RX5 204 "java/lang/IllegalStateException" ["java/lang/RuntimeException", "java/lang/Exception"]).filter goodWord, w ∈ lw_tbl := by decide +kernel
theorem wsL_law_x3 : ∀ w ∈ (vx_atS RX2 33 "java/lang/IllegalStateException" ["java/lang/RuntimeException", "java/lang/Exception"]).filter goodWord, w ∈ lw_tbl := by decide +kernel
theorem wsL_law_in : ∀ w ∈ wsL_law, w ∈ lw_tbl := fun w h => (List.mem_append.mp h).elim (fun h => (List.mem_append.mp h).elim (fun h => (List.mem_append.mp h).elim (fun h => (List.mem_append.mp h).elim (fun h => wsL_law_in0 w h) (fun h => wsL_law_x0 w h)) (fun h => wsL_law_x1 w h)) (fun h => wsL_law_x2 w h)) (fun h => wsL_law_x3 w h)
theorem inlX0 : ∀ w ∈ wsX00, w ∈ wsL_law := fun _ h => List.mem_append_left _ (List.mem_append_left _ (List.mem_append_left _ (List.mem_append_left _ (List.mem_append_left _ (List.mem_append_left _ (List.mem_append_left _ (List.mem_append_left _ (List.mem_append_left _ (List.mem_append_right _ h)))))))))
theorem inX0 : ∀ w ∈ wsX00, w ∈ lw_tbl := fun w h => wsL_law_in w (inlX0 w h)
theorem inlX1 : ∀ w ∈ wsX10, w ∈ wsL_law := fun _ h => List.mem_append_left _ (List.mem_append_left _ (List.mem_append_left _ (List.mem_append_left _ (List.mem_append_left _ (List.mem_append_right _ h)))))
theorem inX1 : ∀ w ∈ wsX10, w ∈ lw_tbl := fun w h => wsL_law_in w (inlX1 w h)
theorem inlX2 : ∀ w ∈ wsX20, w ∈ wsL_law := fun _ h => List.mem_append_left _ (List.mem_append_left _ (List.mem_append_left _ (List.mem_append_left _ (List.mem_append_left _ (List.mem_append_left _ (List.mem_append_right _ h))))))
theorem inX2 : ∀ w ∈ wsX20, w ∈ lw_tbl := fun w h => wsL_law_in w (inlX2 w h)
theorem inlX3 : ∀ w ∈ wsX30, w ∈ wsL_law := fun _ h => List.mem_append_left _ (List.mem_append_left _ (List.mem_append_left _ (List.mem_append_left _ (List.mem_append_left _ (List.mem_append_left _ (List.mem_append_left _ (List.mem_append_right _ h)))))))
theorem inX3 : ∀ w ∈ wsX30, w ∈ lw_tbl := fun w h => wsL_law_in w (inlX3 w h)
theorem inlX4 : ∀ w ∈ wsX40, w ∈ wsL_law := fun _ h => List.mem_append_left _ (List.mem_append_left _ (List.mem_append_left _ (List.mem_append_left _ (List.mem_append_left _ (List.mem_append_left _ (List.mem_append_left _ (List.mem_append_left _ (List.mem_append_right _ h))))))))
theorem inX4 : ∀ w ∈ wsX40, w ∈ lw_tbl := fun w h => wsL_law_in w (inlX4 w h)
theorem inlX5 : ∀ w ∈ wsX50, w ∈ wsL_law := fun _ h => List.mem_append_left _ (List.mem_append_left _ (List.mem_append_left _ (List.mem_append_left _ (List.mem_append_left _ (List.mem_append_left _ (List.mem_append_left _ (List.mem_append_left _ (List.mem_append_left _ (List.mem_append_left _ (List.mem_append_left _ (List.mem_append_right _ h)))))))))))
theorem inX5 : ∀ w ∈ wsX50, w ∈ lw_tbl := fun w h => wsL_law_in w (inlX5 w h)
theorem inlX6 : ∀ w ∈ wsX60, w ∈ wsL_law := fun _ h => List.mem_append_left _ (List.mem_append_left _ (List.mem_append_left _ (List.mem_append_left _ (List.mem_append_left _ (List.mem_append_left _ (List.mem_append_left _ (List.mem_append_left _ (List.mem_append_left _ (List.mem_append_left _ (List.mem_append_right _ h))))))))))
theorem inX6 : ∀ w ∈ wsX60, w ∈ lw_tbl := fun w h => wsL_law_in w (inlX6 w h)
theorem inJx145de : ∀ w ∈ wsJx145de0, w ∈ lw_tbl := by decide +kernel
theorem inJ6 : ∀ w ∈ wsJ60, w ∈ lw_tbl := by decide +kernel
theorem inJ9 : ∀ w ∈ wsJ90, w ∈ lw_tbl := by decide +kernel
theorem inJ0 : ∀ w ∈ wsJ00, w ∈ lw_tbl := by decide +kernel
theorem inJ10 : ∀ w ∈ wsJ100, w ∈ lw_tbl := by decide +kernel
theorem inJ7 : ∀ w ∈ wsJ70, w ∈ lw_tbl := by decide +kernel
abbrev vwCl : List vw_C := [(RX0, TX0, 10), (RX1, TX1, 1), (RX2, TX2, 2), (RX3, TX3, 2), (RX4, TX4, 2), (RX5, TX5, 5), (RX6, TX6, 11)]
end
section
set_option maxRecDepth 20000 in
theorem ggX0_init_X1_init : GoodIn wsX0_init wsX1_init := goodIn_r _ [20, 21, 2, 3, 4, 22, 23, 24, 25, 26, 38] (by decide +kernel) (by decide +kernel)
set_option maxRecDepth 20000 in
theorem gX0_init_X1_init : GoodIn wsX0_init (wsX1_init) := ggX0_init_X1_init
set_option maxRecDepth 20000 in
theorem ggX0_init_J7_fill_53178 : GoodIn wsX0_init wsJ7_fill_53178 := goodIn_r _ [26] (by decide +kernel) (by decide +kernel)
set_option maxRecDepth 20000 in
theorem gX0_init_J7_fill_53178 : GoodIn wsX0_init (va_wsS RX0 47 yJ7_fill_53178 wsJ7_fill_53178) := goodIn_app (goodIn_of _ (by decide +kernel)) ggX0_init_J7_fill_53178
theorem dX0_init_0 : decode cX0_init 0 = .ok (.aload_n 0, 1) := by decide +kernel
theorem dX0_init_1 : decode cX0_init 1 = .ok (.invokespecial 3, 3) := by decide +kernel
theorem dX0_init_4 : decode cX0_init 4 = .ok (.aload_n 0, 1) := by decide +kernel
theorem dX0_init_5 : decode cX0_init 5 = .ok (.bipush 32, 2) := by decide +kernel
theorem dX0_init_7 : decode cX0_init 7 = .ok (.newarray .int, 2) := by decide +kernel
theorem dX0_init_9 : decode cX0_init 9 = .ok (.putfield 9, 3) := by decide +kernel
theorem dX0_init_12 : decode cX0_init 12 = .ok (.aload_n 0, 1) := by decide +kernel
theorem dX0_init_13 : decode cX0_init 13 = .ok (.iconst 4, 1) := by decide +kernel
theorem dX0_init_14 : decode cX0_init 14 = .ok (.newarray .int, 2) := by decide +kernel
theorem dX0_init_16 : decode cX0_init 16 = .ok (.putfield 15, 3) := by decide +kernel
theorem dX0_init_19 : decode cX0_init 19 = .ok (.aload_n 0, 1) := by decide +kernel
theorem dX0_init_20 : decode cX0_init 20 = .ok (.bipush 10, 2) := by decide +kernel
theorem dX0_init_22 : decode cX0_init 22 = .ok (.newarray .int, 2) := by decide +kernel
theorem dX0_init_24 : decode cX0_init 24 = .ok (.putfield 18, 3) := by decide +kernel
theorem dX0_init_27 : decode cX0_init 27 = .ok (.aload_n 0, 1) := by decide +kernel
theorem dX0_init_28 : decode cX0_init 28 = .ok (.bipush 10, 2) := by decide +kernel
theorem dX0_init_30 : decode cX0_init 30 = .ok (.newarray .int, 2) := by decide +kernel
theorem dX0_init_32 : decode cX0_init 32 = .ok (.putfield 21, 3) := by decide +kernel
theorem dX0_init_35 : decode cX0_init 35 = .ok (.aload_n 0, 1) := by decide +kernel
theorem dX0_init_36 : decode cX0_init 36 = .ok (.new 24, 3) := by decide +kernel
theorem dX0_init_39 : decode cX0_init 39 = .ok (.dup, 1) := by decide +kernel
theorem dX0_init_40 : decode cX0_init 40 = .ok (.invokespecial 26, 3) := by decide +kernel
theorem dX0_init_43 : decode cX0_init 43 = .ok (.putfield 27, 3) := by decide +kernel
theorem dX0_init_46 : decode cX0_init 46 = .ok (.aload_n 0, 1) := by decide +kernel
theorem dX0_init_47 : decode cX0_init 47 = .ok (.bipush 120, 2) := by decide +kernel
theorem dX0_init_49 : decode cX0_init 49 = .ok (.putfield 31, 3) := by decide +kernel
theorem dX0_init_52 : decode cX0_init 52 = .ok (.aload_n 0, 1) := by decide +kernel
theorem dX0_init_53 : decode cX0_init 53 = .ok (.iconst 0, 1) := by decide +kernel
theorem dX0_init_54 : decode cX0_init 54 = .ok (.putfield 35, 3) := by decide +kernel
theorem dX0_init_57 : decode cX0_init 57 = .ok (.aload_n 0, 1) := by decide +kernel
theorem dX0_init_58 : decode cX0_init 58 = .ok (.iconst 0, 1) := by decide +kernel
theorem dX0_init_59 : decode cX0_init 59 = .ok (.putfield 38, 3) := by decide +kernel
theorem dX0_init_62 : decode cX0_init 62 = .ok (.aload_n 0, 1) := by decide +kernel
theorem dX0_init_63 : decode cX0_init 63 = .ok (.iconst 0, 1) := by decide +kernel
theorem dX0_init_64 : decode cX0_init 64 = .ok (.putfield 41, 3) := by decide +kernel
theorem dX0_init_67 : decode cX0_init 67 = .ok (.aload_n 0, 1) := by decide +kernel
theorem dX0_init_68 : decode cX0_init 68 = .ok (.iconst 0, 1) := by decide +kernel
theorem dX0_init_69 : decode cX0_init 69 = .ok (.putfield 44, 3) := by decide +kernel
theorem dX0_init_72 : decode cX0_init 72 = .ok (.aload_n 0, 1) := by decide +kernel
theorem dX0_init_73 : decode cX0_init 73 = .ok (.getfield 15, 3) := by decide +kernel
theorem dX0_init_76 : decode cX0_init 76 = .ok (.iconst 4, 1) := by decide +kernel
theorem dX0_init_77 : decode cX0_init 77 = .ok (.invokestatic 47, 3) := by decide +kernel
theorem dX0_init_80 : decode cX0_init 80 = .ok (.iconst 0, 1) := by decide +kernel
theorem dX0_init_81 : decode cX0_init 81 = .ok (.istore_n 1, 1) := by decide +kernel
theorem dX0_init_82 : decode cX0_init 82 = .ok (.iload_n 1, 1) := by decide +kernel
theorem dX0_init_83 : decode cX0_init 83 = .ok (.bipush 10, 2) := by decide +kernel
theorem dX0_init_85 : decode cX0_init 85 = .ok (.if_icmp .ge 22, 3) := by decide +kernel
theorem dX0_init_88 : decode cX0_init 88 = .ok (.aload_n 0, 1) := by decide +kernel
theorem dX0_init_89 : decode cX0_init 89 = .ok (.getfield 18, 3) := by decide +kernel
theorem dX0_init_92 : decode cX0_init 92 = .ok (.iload_n 1, 1) := by decide +kernel
theorem dX0_init_93 : decode cX0_init 93 = .ok (.bipush 60, 2) := by decide +kernel
theorem dX0_init_95 : decode cX0_init 95 = .ok (.bipush 6, 2) := by decide +kernel
theorem dX0_init_97 : decode cX0_init 97 = .ok (.iload_n 1, 1) := by decide +kernel
theorem dX0_init_98 : decode cX0_init 98 = .ok (.imul, 1) := by decide +kernel
theorem dX0_init_99 : decode cX0_init 99 = .ok (.isub, 1) := by decide +kernel
theorem dX0_init_100 : decode cX0_init 100 = .ok (.iastore, 1) := by decide +kernel
theorem dX0_init_101 : decode cX0_init 101 = .ok (.iinc 1 1, 3) := by decide +kernel
theorem dX0_init_104 : decode cX0_init 104 = .ok (.goto (-22), 3) := by decide +kernel
theorem dX0_init_107 : decode cX0_init 107 = .ok (.return_, 1) := by decide +kernel
set_option maxRecDepth 20000 in
theorem ggX0_copyFrom_X1_copyFrom : GoodIn wsX0_copyFrom wsX1_copyFrom := goodIn_r _ [19, 20, 21, 3, 4, 5, 32] (by decide +kernel) (by decide +kernel)
set_option maxRecDepth 20000 in
theorem gX0_copyFrom_X1_copyFrom : GoodIn wsX0_copyFrom (wsV RX0 59 RX1 yX1_copyFrom wsX1_copyFrom) := goodIn_app (goodIn_of _ (by decide +kernel)) ggX0_copyFrom_X1_copyFrom
theorem dX0_copyFrom_0 : decode cX0_copyFrom 0 = .ok (.aload_n 1, 1) := by decide +kernel
theorem dX0_copyFrom_1 : decode cX0_copyFrom 1 = .ok (.getfield 9, 3) := by decide +kernel
theorem dX0_copyFrom_4 : decode cX0_copyFrom 4 = .ok (.iconst 0, 1) := by decide +kernel
theorem dX0_copyFrom_5 : decode cX0_copyFrom 5 = .ok (.aload_n 0, 1) := by decide +kernel
theorem dX0_copyFrom_6 : decode cX0_copyFrom 6 = .ok (.getfield 9, 3) := by decide +kernel
theorem dX0_copyFrom_9 : decode cX0_copyFrom 9 = .ok (.iconst 0, 1) := by decide +kernel
theorem dX0_copyFrom_10 : decode cX0_copyFrom 10 = .ok (.bipush 32, 2) := by decide +kernel
theorem dX0_copyFrom_12 : decode cX0_copyFrom 12 = .ok (.invokestatic 53, 3) := by decide +kernel
theorem dX0_copyFrom_15 : decode cX0_copyFrom 15 = .ok (.aload_n 1, 1) := by decide +kernel
theorem dX0_copyFrom_16 : decode cX0_copyFrom 16 = .ok (.getfield 15, 3) := by decide +kernel
theorem dX0_copyFrom_19 : decode cX0_copyFrom 19 = .ok (.iconst 0, 1) := by decide +kernel
theorem dX0_copyFrom_20 : decode cX0_copyFrom 20 = .ok (.aload_n 0, 1) := by decide +kernel
theorem dX0_copyFrom_21 : decode cX0_copyFrom 21 = .ok (.getfield 15, 3) := by decide +kernel
theorem dX0_copyFrom_24 : decode cX0_copyFrom 24 = .ok (.iconst 0, 1) := by decide +kernel
theorem dX0_copyFrom_25 : decode cX0_copyFrom 25 = .ok (.iconst 4, 1) := by decide +kernel
theorem dX0_copyFrom_26 : decode cX0_copyFrom 26 = .ok (.invokestatic 53, 3) := by decide +kernel
theorem dX0_copyFrom_29 : decode cX0_copyFrom 29 = .ok (.aload_n 1, 1) := by decide +kernel
theorem dX0_copyFrom_30 : decode cX0_copyFrom 30 = .ok (.getfield 18, 3) := by decide +kernel
theorem dX0_copyFrom_33 : decode cX0_copyFrom 33 = .ok (.iconst 0, 1) := by decide +kernel
theorem dX0_copyFrom_34 : decode cX0_copyFrom 34 = .ok (.aload_n 0, 1) := by decide +kernel
theorem dX0_copyFrom_35 : decode cX0_copyFrom 35 = .ok (.getfield 18, 3) := by decide +kernel
theorem dX0_copyFrom_38 : decode cX0_copyFrom 38 = .ok (.iconst 0, 1) := by decide +kernel
theorem dX0_copyFrom_39 : decode cX0_copyFrom 39 = .ok (.bipush 10, 2) := by decide +kernel
theorem dX0_copyFrom_41 : decode cX0_copyFrom 41 = .ok (.invokestatic 53, 3) := by decide +kernel
theorem dX0_copyFrom_44 : decode cX0_copyFrom 44 = .ok (.aload_n 1, 1) := by decide +kernel
theorem dX0_copyFrom_45 : decode cX0_copyFrom 45 = .ok (.getfield 21, 3) := by decide +kernel
theorem dX0_copyFrom_48 : decode cX0_copyFrom 48 = .ok (.iconst 0, 1) := by decide +kernel
theorem dX0_copyFrom_49 : decode cX0_copyFrom 49 = .ok (.aload_n 0, 1) := by decide +kernel
theorem dX0_copyFrom_50 : decode cX0_copyFrom 50 = .ok (.getfield 21, 3) := by decide +kernel
theorem dX0_copyFrom_53 : decode cX0_copyFrom 53 = .ok (.iconst 0, 1) := by decide +kernel
theorem dX0_copyFrom_54 : decode cX0_copyFrom 54 = .ok (.bipush 10, 2) := by decide +kernel
theorem dX0_copyFrom_56 : decode cX0_copyFrom 56 = .ok (.invokestatic 53, 3) := by decide +kernel
theorem dX0_copyFrom_59 : decode cX0_copyFrom 59 = .ok (.aload_n 0, 1) := by decide +kernel
theorem dX0_copyFrom_60 : decode cX0_copyFrom 60 = .ok (.getfield 27, 3) := by decide +kernel
theorem dX0_copyFrom_63 : decode cX0_copyFrom 63 = .ok (.aload_n 1, 1) := by decide +kernel
theorem dX0_copyFrom_64 : decode cX0_copyFrom 64 = .ok (.getfield 27, 3) := by decide +kernel
theorem dX0_copyFrom_67 : decode cX0_copyFrom 67 = .ok (.invokevirtual 59, 3) := by decide +kernel
theorem dX0_copyFrom_70 : decode cX0_copyFrom 70 = .ok (.aload_n 0, 1) := by decide +kernel
theorem dX0_copyFrom_71 : decode cX0_copyFrom 71 = .ok (.aload_n 1, 1) := by decide +kernel
theorem dX0_copyFrom_72 : decode cX0_copyFrom 72 = .ok (.getfield 31, 3) := by decide +kernel
theorem dX0_copyFrom_75 : decode cX0_copyFrom 75 = .ok (.putfield 31, 3) := by decide +kernel
theorem dX0_copyFrom_78 : decode cX0_copyFrom 78 = .ok (.aload_n 0, 1) := by decide +kernel
theorem dX0_copyFrom_79 : decode cX0_copyFrom 79 = .ok (.aload_n 1, 1) := by decide +kernel
theorem dX0_copyFrom_80 : decode cX0_copyFrom 80 = .ok (.getfield 35, 3) := by decide +kernel
theorem dX0_copyFrom_83 : decode cX0_copyFrom 83 = .ok (.putfield 35, 3) := by decide +kernel
theorem dX0_copyFrom_86 : decode cX0_copyFrom 86 = .ok (.aload_n 0, 1) := by decide +kernel
theorem dX0_copyFrom_87 : decode cX0_copyFrom 87 = .ok (.aload_n 1, 1) := by decide +kernel
theorem dX0_copyFrom_88 : decode cX0_copyFrom 88 = .ok (.getfield 38, 3) := by decide +kernel
theorem dX0_copyFrom_91 : decode cX0_copyFrom 91 = .ok (.putfield 38, 3) := by decide +kernel
theorem dX0_copyFrom_94 : decode cX0_copyFrom 94 = .ok (.aload_n 0, 1) := by decide +kernel
theorem dX0_copyFrom_95 : decode cX0_copyFrom 95 = .ok (.aload_n 1, 1) := by decide +kernel
theorem dX0_copyFrom_96 : decode cX0_copyFrom 96 = .ok (.getfield 41, 3) := by decide +kernel
theorem dX0_copyFrom_99 : decode cX0_copyFrom 99 = .ok (.putfield 41, 3) := by decide +kernel
theorem dX0_copyFrom_102 : decode cX0_copyFrom 102 = .ok (.aload_n 0, 1) := by decide +kernel
theorem dX0_copyFrom_103 : decode cX0_copyFrom 103 = .ok (.aload_n 1, 1) := by decide +kernel
theorem dX0_copyFrom_104 : decode cX0_copyFrom 104 = .ok (.getfield 44, 3) := by decide +kernel
theorem dX0_copyFrom_107 : decode cX0_copyFrom 107 = .ok (.putfield 44, 3) := by decide +kernel
theorem dX0_copyFrom_110 : decode cX0_copyFrom 110 = .ok (.return_, 1) := by decide +kernel
set_option maxRecDepth 20000 in
theorem ggX0_strikeColumns_X0_strikeAtHand : GoodIn wsX0_strikeColumns wsX0_strikeAtHand := goodIn_r _ [6, 7, 8, 9, 10, 11, 12, 13, 14, 15, 5, 16, 17, 18, 19, 20, 21, 22, 23, 24, 25, 26, 27, 28, 29, 30, 31, 32, 33, 34, 35, 36, 37, 38, 39, 40, 41, 42, 43, 1, 44, 45, 46, 47, 48, 49, 50, 51, 52, 53, 54, 55, 56, 57, 58, 59, 60, 61, 62] (by decide +kernel) (by decide +kernel)
set_option maxRecDepth 20000 in
theorem gX0_strikeColumns_X0_strikeAtHand : GoodIn wsX0_strikeColumns (wsV RX0 63 RX0 yX0_strikeAtHand wsX0_strikeAtHand) := goodIn_app (goodIn_of _ (by decide +kernel)) ggX0_strikeColumns_X0_strikeAtHand
theorem dX0_strikeColumns_0 : decode cX0_strikeColumns 0 = .ok (.aload_n 0, 1) := by decide +kernel
theorem dX0_strikeColumns_1 : decode cX0_strikeColumns 1 = .ok (.getfield 41, 3) := by decide +kernel
theorem dX0_strikeColumns_4 : decode cX0_strikeColumns 4 = .ok (.istore_n 2, 1) := by decide +kernel
theorem dX0_strikeColumns_5 : decode cX0_strikeColumns 5 = .ok (.iconst 0, 1) := by decide +kernel
theorem dX0_strikeColumns_6 : decode cX0_strikeColumns 6 = .ok (.istore_n 3, 1) := by decide +kernel
theorem dX0_strikeColumns_7 : decode cX0_strikeColumns 7 = .ok (.iload_n 3, 1) := by decide +kernel
theorem dX0_strikeColumns_8 : decode cX0_strikeColumns 8 = .ok (.iload_n 1, 1) := by decide +kernel
theorem dX0_strikeColumns_9 : decode cX0_strikeColumns 9 = .ok (.if_icmp .ge 13, 3) := by decide +kernel
theorem dX0_strikeColumns_12 : decode cX0_strikeColumns 12 = .ok (.aload_n 0, 1) := by decide +kernel
theorem dX0_strikeColumns_13 : decode cX0_strikeColumns 13 = .ok (.invokevirtual 63, 3) := by decide +kernel
theorem dX0_strikeColumns_16 : decode cX0_strikeColumns 16 = .ok (.iinc 3 1, 3) := by decide +kernel
theorem dX0_strikeColumns_19 : decode cX0_strikeColumns 19 = .ok (.goto (-12), 3) := by decide +kernel
theorem dX0_strikeColumns_22 : decode cX0_strikeColumns 22 = .ok (.aload_n 0, 1) := by decide +kernel
theorem dX0_strikeColumns_23 : decode cX0_strikeColumns 23 = .ok (.getfield 41, 3) := by decide +kernel
theorem dX0_strikeColumns_26 : decode cX0_strikeColumns 26 = .ok (.iload_n 2, 1) := by decide +kernel
theorem dX0_strikeColumns_27 : decode cX0_strikeColumns 27 = .ok (.isub, 1) := by decide +kernel
theorem dX0_strikeColumns_28 : decode cX0_strikeColumns 28 = .ok (.ireturn, 1) := by decide +kernel
set_option maxRecDepth 20000 in
theorem ggX0_strikeAtHand_X0_heardAtHand : GoodIn wsX0_strikeAtHand wsX0_heardAtHand := goodIn_r _ [11, 1, 3, 4, 12, 13, 14, 15, 16, 17, 18, 19, 20, 21, 22, 23, 24, 25, 26, 48, 49, 50, 51, 52, 53, 54, 55, 56, 57, 58] (by decide +kernel) (by decide +kernel)
set_option maxRecDepth 20000 in
theorem gX0_strikeAtHand_X0_heardAtHand : GoodIn wsX0_strikeAtHand (wsV RX0 66 RX0 yX0_heardAtHand wsX0_heardAtHand) := goodIn_app (goodIn_of _ (by decide +kernel)) ggX0_strikeAtHand_X0_heardAtHand
set_option maxRecDepth 20000 in
theorem ggX0_strikeAtHand_X1_swing : GoodIn wsX0_strikeAtHand wsX1_swing := goodIn_r _ [30, 26, 31, 32, 33, 34, 19, 20, 21, 58] (by decide +kernel) (by decide +kernel)
set_option maxRecDepth 20000 in
theorem gX0_strikeAtHand_X1_swing : GoodIn wsX0_strikeAtHand (wsV RX0 70 RX1 yX1_swing wsX1_swing) := goodIn_app (goodIn_of _ (by decide +kernel)) ggX0_strikeAtHand_X1_swing
set_option maxRecDepth 20000 in
theorem ggX0_strikeAtHand_X0_countHeard : GoodIn wsX0_strikeAtHand wsX0_countHeard := goodIn_r _ [38, 39, 40, 41, 42, 43, 44, 45, 46, 47, 19, 20, 21, 48, 49, 50, 51, 52, 53, 54, 55, 56, 57] (by decide +kernel) (by decide +kernel)
set_option maxRecDepth 20000 in
theorem gX0_strikeAtHand_X0_countHeard : GoodIn wsX0_strikeAtHand (wsV RX0 74 RX0 yX0_countHeard wsX0_countHeard) := goodIn_app (goodIn_of _ (by decide +kernel)) ggX0_strikeAtHand_X0_countHeard
set_option maxRecDepth 20000 in
theorem ggX0_strikeAtHand_J6_bitCount_0f7a4 : GoodIn wsX0_strikeAtHand wsJ6_bitCount_0f7a4 := goodIn_r _ [44, 45, 46, 47] (by decide +kernel) (by decide +kernel)
set_option maxRecDepth 20000 in
theorem gX0_strikeAtHand_J6_bitCount_0f7a4 : GoodIn wsX0_strikeAtHand (va_wsS RX0 77 yJ6_bitCount_0f7a4 wsJ6_bitCount_0f7a4) := goodIn_app (goodIn_of _ (by decide +kernel)) ggX0_strikeAtHand_J6_bitCount_0f7a4
theorem dX0_strikeAtHand_0 : decode cX0_strikeAtHand 0 = .ok (.aload_n 0, 1) := by decide +kernel
theorem dX0_strikeAtHand_1 : decode cX0_strikeAtHand 1 = .ok (.invokevirtual 66, 3) := by decide +kernel
theorem dX0_strikeAtHand_4 : decode cX0_strikeAtHand 4 = .ok (.istore_n 1, 1) := by decide +kernel
theorem dX0_strikeAtHand_5 : decode cX0_strikeAtHand 5 = .ok (.aload_n 0, 1) := by decide +kernel
theorem dX0_strikeAtHand_6 : decode cX0_strikeAtHand 6 = .ok (.getfield 27, 3) := by decide +kernel
theorem dX0_strikeAtHand_9 : decode cX0_strikeAtHand 9 = .ok (.iload_n 1, 1) := by decide +kernel
theorem dX0_strikeAtHand_10 : decode cX0_strikeAtHand 10 = .ok (.invokevirtual 70, 3) := by decide +kernel
theorem dX0_strikeAtHand_13 : decode cX0_strikeAtHand 13 = .ok (.aload_n 0, 1) := by decide +kernel
theorem dX0_strikeAtHand_14 : decode cX0_strikeAtHand 14 = .ok (.iload_n 1, 1) := by decide +kernel
theorem dX0_strikeAtHand_15 : decode cX0_strikeAtHand 15 = .ok (.invokevirtual 74, 3) := by decide +kernel
theorem dX0_strikeAtHand_18 : decode cX0_strikeAtHand 18 = .ok (.aload_n 0, 1) := by decide +kernel
theorem dX0_strikeAtHand_19 : decode cX0_strikeAtHand 19 = .ok (.dup, 1) := by decide +kernel
theorem dX0_strikeAtHand_20 : decode cX0_strikeAtHand 20 = .ok (.getfield 44, 3) := by decide +kernel
theorem dX0_strikeAtHand_23 : decode cX0_strikeAtHand 23 = .ok (.aload_n 0, 1) := by decide +kernel
theorem dX0_strikeAtHand_24 : decode cX0_strikeAtHand 24 = .ok (.getfield 9, 3) := by decide +kernel
theorem dX0_strikeAtHand_27 : decode cX0_strikeAtHand 27 = .ok (.aload_n 0, 1) := by decide +kernel
theorem dX0_strikeAtHand_28 : decode cX0_strikeAtHand 28 = .ok (.getfield 35, 3) := by decide +kernel
theorem dX0_strikeAtHand_31 : decode cX0_strikeAtHand 31 = .ok (.iaload, 1) := by decide +kernel
theorem dX0_strikeAtHand_32 : decode cX0_strikeAtHand 32 = .ok (.iload_n 1, 1) := by decide +kernel
theorem dX0_strikeAtHand_33 : decode cX0_strikeAtHand 33 = .ok (.iconst (-1), 1) := by decide +kernel
theorem dX0_strikeAtHand_34 : decode cX0_strikeAtHand 34 = .ok (.ixor, 1) := by decide +kernel
theorem dX0_strikeAtHand_35 : decode cX0_strikeAtHand 35 = .ok (.iand, 1) := by decide +kernel
theorem dX0_strikeAtHand_36 : decode cX0_strikeAtHand 36 = .ok (.invokestatic 77, 3) := by decide +kernel
theorem dX0_strikeAtHand_39 : decode cX0_strikeAtHand 39 = .ok (.iadd, 1) := by decide +kernel
theorem dX0_strikeAtHand_40 : decode cX0_strikeAtHand 40 = .ok (.putfield 44, 3) := by decide +kernel
theorem dX0_strikeAtHand_43 : decode cX0_strikeAtHand 43 = .ok (.aload_n 0, 1) := by decide +kernel
theorem dX0_strikeAtHand_44 : decode cX0_strikeAtHand 44 = .ok (.dup, 1) := by decide +kernel
theorem dX0_strikeAtHand_45 : decode cX0_strikeAtHand 45 = .ok (.getfield 38, 3) := by decide +kernel
theorem dX0_strikeAtHand_48 : decode cX0_strikeAtHand 48 = .ok (.aload_n 0, 1) := by decide +kernel
theorem dX0_strikeAtHand_49 : decode cX0_strikeAtHand 49 = .ok (.getfield 15, 3) := by decide +kernel
theorem dX0_strikeAtHand_52 : decode cX0_strikeAtHand 52 = .ok (.aload_n 0, 1) := by decide +kernel
theorem dX0_strikeAtHand_53 : decode cX0_strikeAtHand 53 = .ok (.getfield 35, 3) := by decide +kernel
theorem dX0_strikeAtHand_56 : decode cX0_strikeAtHand 56 = .ok (.bipush 8, 2) := by decide +kernel
theorem dX0_strikeAtHand_58 : decode cX0_strikeAtHand 58 = .ok (.idiv, 1) := by decide +kernel
theorem dX0_strikeAtHand_59 : decode cX0_strikeAtHand 59 = .ok (.iaload, 1) := by decide +kernel
theorem dX0_strikeAtHand_60 : decode cX0_strikeAtHand 60 = .ok (.iadd, 1) := by decide +kernel
theorem dX0_strikeAtHand_61 : decode cX0_strikeAtHand 61 = .ok (.putfield 38, 3) := by decide +kernel
theorem dX0_strikeAtHand_64 : decode cX0_strikeAtHand 64 = .ok (.aload_n 0, 1) := by decide +kernel
theorem dX0_strikeAtHand_65 : decode cX0_strikeAtHand 65 = .ok (.aload_n 0, 1) := by decide +kernel
theorem dX0_strikeAtHand_66 : decode cX0_strikeAtHand 66 = .ok (.getfield 35, 3) := by decide +kernel
theorem dX0_strikeAtHand_69 : decode cX0_strikeAtHand 69 = .ok (.iconst 1, 1) := by decide +kernel
theorem dX0_strikeAtHand_70 : decode cX0_strikeAtHand 70 = .ok (.iadd, 1) := by decide +kernel
theorem dX0_strikeAtHand_71 : decode cX0_strikeAtHand 71 = .ok (.bipush 32, 2) := by decide +kernel
theorem dX0_strikeAtHand_73 : decode cX0_strikeAtHand 73 = .ok (.irem, 1) := by decide +kernel
theorem dX0_strikeAtHand_74 : decode cX0_strikeAtHand 74 = .ok (.putfield 35, 3) := by decide +kernel
theorem dX0_strikeAtHand_77 : decode cX0_strikeAtHand 77 = .ok (.return_, 1) := by decide +kernel
set_option maxRecDepth 20000 in
theorem ggX0_heardAtHand_X1_heardOutOf : GoodIn wsX0_heardAtHand wsX1_heardOutOf := goodIn_r _ [10, 11, 12, 13, 14, 15, 16, 9, 17, 18, 29] (by decide +kernel) (by decide +kernel)
set_option maxRecDepth 20000 in
theorem gX0_heardAtHand_X1_heardOutOf : GoodIn wsX0_heardAtHand (wsV RX0 83 RX1 yX1_heardOutOf wsX1_heardOutOf) := goodIn_app (goodIn_of _ (by decide +kernel)) ggX0_heardAtHand_X1_heardOutOf
theorem dX0_heardAtHand_0 : decode cX0_heardAtHand 0 = .ok (.aload_n 0, 1) := by decide +kernel
theorem dX0_heardAtHand_1 : decode cX0_heardAtHand 1 = .ok (.getfield 27, 3) := by decide +kernel
theorem dX0_heardAtHand_4 : decode cX0_heardAtHand 4 = .ok (.aload_n 0, 1) := by decide +kernel
theorem dX0_heardAtHand_5 : decode cX0_heardAtHand 5 = .ok (.getfield 9, 3) := by decide +kernel
theorem dX0_heardAtHand_8 : decode cX0_heardAtHand 8 = .ok (.aload_n 0, 1) := by decide +kernel
theorem dX0_heardAtHand_9 : decode cX0_heardAtHand 9 = .ok (.getfield 35, 3) := by decide +kernel
theorem dX0_heardAtHand_12 : decode cX0_heardAtHand 12 = .ok (.iaload, 1) := by decide +kernel
theorem dX0_heardAtHand_13 : decode cX0_heardAtHand 13 = .ok (.aload_n 0, 1) := by decide +kernel
theorem dX0_heardAtHand_14 : decode cX0_heardAtHand 14 = .ok (.getfield 18, 3) := by decide +kernel
theorem dX0_heardAtHand_17 : decode cX0_heardAtHand 17 = .ok (.aload_n 0, 1) := by decide +kernel
theorem dX0_heardAtHand_18 : decode cX0_heardAtHand 18 = .ok (.getfield 31, 3) := by decide +kernel
theorem dX0_heardAtHand_21 : decode cX0_heardAtHand 21 = .ok (.invokevirtual 83, 3) := by decide +kernel
theorem dX0_heardAtHand_24 : decode cX0_heardAtHand 24 = .ok (.ireturn, 1) := by decide +kernel
set_option maxRecDepth 20000 in
theorem ggX0_countHeard_J6_bitCount_0f7a4 : GoodIn wsX0_countHeard wsJ6_bitCount_0f7a4 := goodIn_r _ [6, 7, 8, 9] (by decide +kernel) (by decide +kernel)
set_option maxRecDepth 20000 in
theorem gX0_countHeard_J6_bitCount_0f7a4 : GoodIn wsX0_countHeard (va_wsS RX0 77 yJ6_bitCount_0f7a4 wsJ6_bitCount_0f7a4) := goodIn_app (goodIn_of _ (by decide +kernel)) ggX0_countHeard_J6_bitCount_0f7a4
set_option maxRecDepth 20000 in
theorem ggX0_countHeard_X5_holds : GoodIn wsX0_countHeard wsX5_holds := goodIn_r _ [12] (by decide +kernel) (by decide +kernel)
set_option maxRecDepth 20000 in
theorem gX0_countHeard_X5_holds_n87 : GoodIn wsX0_countHeard (wsX5_holds) := ggX0_countHeard_X5_holds
theorem dX0_countHeard_0 : decode cX0_countHeard 0 = .ok (.aload_n 0, 1) := by decide +kernel
theorem dX0_countHeard_1 : decode cX0_countHeard 1 = .ok (.dup, 1) := by decide +kernel
theorem dX0_countHeard_2 : decode cX0_countHeard 2 = .ok (.getfield 41, 3) := by decide +kernel
theorem dX0_countHeard_5 : decode cX0_countHeard 5 = .ok (.iload_n 1, 1) := by decide +kernel
theorem dX0_countHeard_6 : decode cX0_countHeard 6 = .ok (.invokestatic 77, 3) := by decide +kernel
theorem dX0_countHeard_9 : decode cX0_countHeard 9 = .ok (.iadd, 1) := by decide +kernel
theorem dX0_countHeard_10 : decode cX0_countHeard 10 = .ok (.putfield 41, 3) := by decide +kernel
theorem dX0_countHeard_13 : decode cX0_countHeard 13 = .ok (.iconst 0, 1) := by decide +kernel
theorem dX0_countHeard_14 : decode cX0_countHeard 14 = .ok (.istore_n 2, 1) := by decide +kernel
theorem dX0_countHeard_15 : decode cX0_countHeard 15 = .ok (.iload_n 2, 1) := by decide +kernel
theorem dX0_countHeard_16 : decode cX0_countHeard 16 = .ok (.bipush 10, 2) := by decide +kernel
theorem dX0_countHeard_18 : decode cX0_countHeard 18 = .ok (.if_icmp .ge 27, 3) := by decide +kernel
theorem dX0_countHeard_21 : decode cX0_countHeard 21 = .ok (.iload_n 1, 1) := by decide +kernel
theorem dX0_countHeard_22 : decode cX0_countHeard 22 = .ok (.iload_n 2, 1) := by decide +kernel
theorem dX0_countHeard_23 : decode cX0_countHeard 23 = .ok (.invokestatic 87, 3) := by decide +kernel
theorem dX0_countHeard_26 : decode cX0_countHeard 26 = .ok (.ifCond .eq 13, 3) := by decide +kernel
theorem dX0_countHeard_29 : decode cX0_countHeard 29 = .ok (.aload_n 0, 1) := by decide +kernel
theorem dX0_countHeard_30 : decode cX0_countHeard 30 = .ok (.getfield 21, 3) := by decide +kernel
theorem dX0_countHeard_33 : decode cX0_countHeard 33 = .ok (.iload_n 2, 1) := by decide +kernel
theorem dX0_countHeard_34 : decode cX0_countHeard 34 = .ok (.dup2, 1) := by decide +kernel
theorem dX0_countHeard_35 : decode cX0_countHeard 35 = .ok (.iaload, 1) := by decide +kernel
theorem dX0_countHeard_36 : decode cX0_countHeard 36 = .ok (.iconst 1, 1) := by decide +kernel
theorem dX0_countHeard_37 : decode cX0_countHeard 37 = .ok (.iadd, 1) := by decide +kernel
theorem dX0_countHeard_38 : decode cX0_countHeard 38 = .ok (.iastore, 1) := by decide +kernel
theorem dX0_countHeard_39 : decode cX0_countHeard 39 = .ok (.iinc 2 1, 3) := by decide +kernel
theorem dX0_countHeard_42 : decode cX0_countHeard 42 = .ok (.goto (-27), 3) := by decide +kernel
theorem dX0_countHeard_45 : decode cX0_countHeard 45 = .ok (.return_, 1) := by decide +kernel
set_option maxRecDepth 20000 in
theorem ggX0_countPegs_J6_bitCount_0f7a4 : GoodIn wsX0_countPegs wsJ6_bitCount_0f7a4 := goodIn_r _ [5, 6, 7, 8] (by decide +kernel) (by decide +kernel)
set_option maxRecDepth 20000 in
theorem gX0_countPegs_J6_bitCount_0f7a4 : GoodIn wsX0_countPegs (va_wsS RX0 77 yJ6_bitCount_0f7a4 wsJ6_bitCount_0f7a4) := goodIn_app (goodIn_of _ (by decide +kernel)) ggX0_countPegs_J6_bitCount_0f7a4
theorem dX0_countPegs_0 : decode cX0_countPegs 0 = .ok (.iconst 0, 1) := by decide +kernel
theorem dX0_countPegs_1 : decode cX0_countPegs 1 = .ok (.istore_n 1, 1) := by decide +kernel
theorem dX0_countPegs_2 : decode cX0_countPegs 2 = .ok (.iconst 0, 1) := by decide +kernel
theorem dX0_countPegs_3 : decode cX0_countPegs 3 = .ok (.istore_n 2, 1) := by decide +kernel
theorem dX0_countPegs_4 : decode cX0_countPegs 4 = .ok (.iload_n 2, 1) := by decide +kernel
theorem dX0_countPegs_5 : decode cX0_countPegs 5 = .ok (.bipush 32, 2) := by decide +kernel
theorem dX0_countPegs_7 : decode cX0_countPegs 7 = .ok (.if_icmp .ge 21, 3) := by decide +kernel
theorem dX0_countPegs_10 : decode cX0_countPegs 10 = .ok (.iload_n 1, 1) := by decide +kernel
theorem dX0_countPegs_11 : decode cX0_countPegs 11 = .ok (.aload_n 0, 1) := by decide +kernel
theorem dX0_countPegs_12 : decode cX0_countPegs 12 = .ok (.getfield 9, 3) := by decide +kernel
theorem dX0_countPegs_15 : decode cX0_countPegs 15 = .ok (.iload_n 2, 1) := by decide +kernel
theorem dX0_countPegs_16 : decode cX0_countPegs 16 = .ok (.iaload, 1) := by decide +kernel
theorem dX0_countPegs_17 : decode cX0_countPegs 17 = .ok (.invokestatic 77, 3) := by decide +kernel
theorem dX0_countPegs_20 : decode cX0_countPegs 20 = .ok (.iadd, 1) := by decide +kernel
theorem dX0_countPegs_21 : decode cX0_countPegs 21 = .ok (.istore_n 1, 1) := by decide +kernel
theorem dX0_countPegs_22 : decode cX0_countPegs 22 = .ok (.iinc 2 1, 3) := by decide +kernel
theorem dX0_countPegs_25 : decode cX0_countPegs 25 = .ok (.goto (-21), 3) := by decide +kernel
theorem dX0_countPegs_28 : decode cX0_countPegs 28 = .ok (.iload_n 1, 1) := by decide +kernel
theorem dX0_countPegs_29 : decode cX0_countPegs 29 = .ok (.ireturn, 1) := by decide +kernel
set_option maxRecDepth 20000 in
theorem ggX0_pegsOtherThan_J6_bitCount_0f7a4 : GoodIn wsX0_pegsOtherThan wsJ6_bitCount_0f7a4 := goodIn_r _ [5, 6, 7, 8] (by decide +kernel) (by decide +kernel)
set_option maxRecDepth 20000 in
theorem gX0_pegsOtherThan_J6_bitCount_0f7a4 : GoodIn wsX0_pegsOtherThan (va_wsS RX0 77 yJ6_bitCount_0f7a4 wsJ6_bitCount_0f7a4) := goodIn_app (goodIn_of _ (by decide +kernel)) ggX0_pegsOtherThan_J6_bitCount_0f7a4
theorem dX0_pegsOtherThan_0 : decode cX0_pegsOtherThan 0 = .ok (.iconst 0, 1) := by decide +kernel
theorem dX0_pegsOtherThan_1 : decode cX0_pegsOtherThan 1 = .ok (.istore_n 2, 1) := by decide +kernel
theorem dX0_pegsOtherThan_2 : decode cX0_pegsOtherThan 2 = .ok (.iconst 0, 1) := by decide +kernel
theorem dX0_pegsOtherThan_3 : decode cX0_pegsOtherThan 3 = .ok (.istore_n 3, 1) := by decide +kernel
theorem dX0_pegsOtherThan_4 : decode cX0_pegsOtherThan 4 = .ok (.iload_n 3, 1) := by decide +kernel
theorem dX0_pegsOtherThan_5 : decode cX0_pegsOtherThan 5 = .ok (.bipush 32, 2) := by decide +kernel
theorem dX0_pegsOtherThan_7 : decode cX0_pegsOtherThan 7 = .ok (.if_icmp .ge 28, 3) := by decide +kernel
theorem dX0_pegsOtherThan_10 : decode cX0_pegsOtherThan 10 = .ok (.iload_n 2, 1) := by decide +kernel
theorem dX0_pegsOtherThan_11 : decode cX0_pegsOtherThan 11 = .ok (.aload_n 0, 1) := by decide +kernel
theorem dX0_pegsOtherThan_12 : decode cX0_pegsOtherThan 12 = .ok (.getfield 9, 3) := by decide +kernel
theorem dX0_pegsOtherThan_15 : decode cX0_pegsOtherThan 15 = .ok (.iload_n 3, 1) := by decide +kernel
theorem dX0_pegsOtherThan_16 : decode cX0_pegsOtherThan 16 = .ok (.iaload, 1) := by decide +kernel
theorem dX0_pegsOtherThan_17 : decode cX0_pegsOtherThan 17 = .ok (.aload_n 1, 1) := by decide +kernel
theorem dX0_pegsOtherThan_18 : decode cX0_pegsOtherThan 18 = .ok (.getfield 9, 3) := by decide +kernel
theorem dX0_pegsOtherThan_21 : decode cX0_pegsOtherThan 21 = .ok (.iload_n 3, 1) := by decide +kernel
theorem dX0_pegsOtherThan_22 : decode cX0_pegsOtherThan 22 = .ok (.iaload, 1) := by decide +kernel
theorem dX0_pegsOtherThan_23 : decode cX0_pegsOtherThan 23 = .ok (.ixor, 1) := by decide +kernel
theorem dX0_pegsOtherThan_24 : decode cX0_pegsOtherThan 24 = .ok (.invokestatic 77, 3) := by decide +kernel
theorem dX0_pegsOtherThan_27 : decode cX0_pegsOtherThan 27 = .ok (.iadd, 1) := by decide +kernel
theorem dX0_pegsOtherThan_28 : decode cX0_pegsOtherThan 28 = .ok (.istore_n 2, 1) := by decide +kernel
theorem dX0_pegsOtherThan_29 : decode cX0_pegsOtherThan 29 = .ok (.iinc 3 1, 3) := by decide +kernel
theorem dX0_pegsOtherThan_32 : decode cX0_pegsOtherThan 32 = .ok (.goto (-28), 3) := by decide +kernel
theorem dX0_pegsOtherThan_35 : decode cX0_pegsOtherThan 35 = .ok (.iload_n 2, 1) := by decide +kernel
theorem dX0_pegsOtherThan_36 : decode cX0_pegsOtherThan 36 = .ok (.ireturn, 1) := by decide +kernel
theorem dX0_sumOfTimesHeard_0 : decode cX0_sumOfTimesHeard 0 = .ok (.iconst 0, 1) := by decide +kernel
theorem dX0_sumOfTimesHeard_1 : decode cX0_sumOfTimesHeard 1 = .ok (.istore_n 1, 1) := by decide +kernel
theorem dX0_sumOfTimesHeard_2 : decode cX0_sumOfTimesHeard 2 = .ok (.iconst 0, 1) := by decide +kernel
theorem dX0_sumOfTimesHeard_3 : decode cX0_sumOfTimesHeard 3 = .ok (.istore_n 2, 1) := by decide +kernel
theorem dX0_sumOfTimesHeard_4 : decode cX0_sumOfTimesHeard 4 = .ok (.iload_n 2, 1) := by decide +kernel
theorem dX0_sumOfTimesHeard_5 : decode cX0_sumOfTimesHeard 5 = .ok (.bipush 10, 2) := by decide +kernel
theorem dX0_sumOfTimesHeard_7 : decode cX0_sumOfTimesHeard 7 = .ok (.if_icmp .ge 18, 3) := by decide +kernel
theorem dX0_sumOfTimesHeard_10 : decode cX0_sumOfTimesHeard 10 = .ok (.iload_n 1, 1) := by decide +kernel
theorem dX0_sumOfTimesHeard_11 : decode cX0_sumOfTimesHeard 11 = .ok (.aload_n 0, 1) := by decide +kernel
theorem dX0_sumOfTimesHeard_12 : decode cX0_sumOfTimesHeard 12 = .ok (.getfield 21, 3) := by decide +kernel
theorem dX0_sumOfTimesHeard_15 : decode cX0_sumOfTimesHeard 15 = .ok (.iload_n 2, 1) := by decide +kernel
theorem dX0_sumOfTimesHeard_16 : decode cX0_sumOfTimesHeard 16 = .ok (.iaload, 1) := by decide +kernel
theorem dX0_sumOfTimesHeard_17 : decode cX0_sumOfTimesHeard 17 = .ok (.iadd, 1) := by decide +kernel
theorem dX0_sumOfTimesHeard_18 : decode cX0_sumOfTimesHeard 18 = .ok (.istore_n 1, 1) := by decide +kernel
theorem dX0_sumOfTimesHeard_19 : decode cX0_sumOfTimesHeard 19 = .ok (.iinc 2 1, 3) := by decide +kernel
theorem dX0_sumOfTimesHeard_22 : decode cX0_sumOfTimesHeard 22 = .ok (.goto (-18), 3) := by decide +kernel
theorem dX0_sumOfTimesHeard_25 : decode cX0_sumOfTimesHeard 25 = .ok (.iload_n 1, 1) := by decide +kernel
theorem dX0_sumOfTimesHeard_26 : decode cX0_sumOfTimesHeard 26 = .ok (.ireturn, 1) := by decide +kernel
theorem dX0_ticksByColumns_0 : decode cX0_ticksByColumns 0 = .ok (.iconst 0, 1) := by decide +kernel
theorem dX0_ticksByColumns_1 : decode cX0_ticksByColumns 1 = .ok (.istore_n 1, 1) := by decide +kernel
theorem dX0_ticksByColumns_2 : decode cX0_ticksByColumns 2 = .ok (.iconst 0, 1) := by decide +kernel
theorem dX0_ticksByColumns_3 : decode cX0_ticksByColumns 3 = .ok (.istore_n 2, 1) := by decide +kernel
theorem dX0_ticksByColumns_4 : decode cX0_ticksByColumns 4 = .ok (.iload_n 2, 1) := by decide +kernel
theorem dX0_ticksByColumns_5 : decode cX0_ticksByColumns 5 = .ok (.bipush 32, 2) := by decide +kernel
theorem dX0_ticksByColumns_7 : decode cX0_ticksByColumns 7 = .ok (.if_icmp .ge 21, 3) := by decide +kernel
theorem dX0_ticksByColumns_10 : decode cX0_ticksByColumns 10 = .ok (.iload_n 1, 1) := by decide +kernel
theorem dX0_ticksByColumns_11 : decode cX0_ticksByColumns 11 = .ok (.aload_n 0, 1) := by decide +kernel
theorem dX0_ticksByColumns_12 : decode cX0_ticksByColumns 12 = .ok (.getfield 15, 3) := by decide +kernel
theorem dX0_ticksByColumns_15 : decode cX0_ticksByColumns 15 = .ok (.iload_n 2, 1) := by decide +kernel
theorem dX0_ticksByColumns_16 : decode cX0_ticksByColumns 16 = .ok (.bipush 8, 2) := by decide +kernel
theorem dX0_ticksByColumns_18 : decode cX0_ticksByColumns 18 = .ok (.idiv, 1) := by decide +kernel
theorem dX0_ticksByColumns_19 : decode cX0_ticksByColumns 19 = .ok (.iaload, 1) := by decide +kernel
theorem dX0_ticksByColumns_20 : decode cX0_ticksByColumns 20 = .ok (.iadd, 1) := by decide +kernel
theorem dX0_ticksByColumns_21 : decode cX0_ticksByColumns 21 = .ok (.istore_n 1, 1) := by decide +kernel
theorem dX0_ticksByColumns_22 : decode cX0_ticksByColumns 22 = .ok (.iinc 2 1, 3) := by decide +kernel
theorem dX0_ticksByColumns_25 : decode cX0_ticksByColumns 25 = .ok (.goto (-21), 3) := by decide +kernel
theorem dX0_ticksByColumns_28 : decode cX0_ticksByColumns 28 = .ok (.iload_n 1, 1) := by decide +kernel
theorem dX0_ticksByColumns_29 : decode cX0_ticksByColumns 29 = .ok (.ireturn, 1) := by decide +kernel
theorem dX0_ticksByBars_0 : decode cX0_ticksByBars 0 = .ok (.iconst 0, 1) := by decide +kernel
theorem dX0_ticksByBars_1 : decode cX0_ticksByBars 1 = .ok (.istore_n 1, 1) := by decide +kernel
theorem dX0_ticksByBars_2 : decode cX0_ticksByBars 2 = .ok (.iconst 0, 1) := by decide +kernel
theorem dX0_ticksByBars_3 : decode cX0_ticksByBars 3 = .ok (.istore_n 2, 1) := by decide +kernel
theorem dX0_ticksByBars_4 : decode cX0_ticksByBars 4 = .ok (.iload_n 2, 1) := by decide +kernel
theorem dX0_ticksByBars_5 : decode cX0_ticksByBars 5 = .ok (.iconst 4, 1) := by decide +kernel
theorem dX0_ticksByBars_6 : decode cX0_ticksByBars 6 = .ok (.if_icmp .ge 21, 3) := by decide +kernel
theorem dX0_ticksByBars_9 : decode cX0_ticksByBars 9 = .ok (.iload_n 1, 1) := by decide +kernel
theorem dX0_ticksByBars_10 : decode cX0_ticksByBars 10 = .ok (.bipush 8, 2) := by decide +kernel
theorem dX0_ticksByBars_12 : decode cX0_ticksByBars 12 = .ok (.aload_n 0, 1) := by decide +kernel
theorem dX0_ticksByBars_13 : decode cX0_ticksByBars 13 = .ok (.getfield 15, 3) := by decide +kernel
theorem dX0_ticksByBars_16 : decode cX0_ticksByBars 16 = .ok (.iload_n 2, 1) := by decide +kernel
theorem dX0_ticksByBars_17 : decode cX0_ticksByBars 17 = .ok (.iaload, 1) := by decide +kernel
theorem dX0_ticksByBars_18 : decode cX0_ticksByBars 18 = .ok (.imul, 1) := by decide +kernel
theorem dX0_ticksByBars_19 : decode cX0_ticksByBars 19 = .ok (.iadd, 1) := by decide +kernel
theorem dX0_ticksByBars_20 : decode cX0_ticksByBars 20 = .ok (.istore_n 1, 1) := by decide +kernel
theorem dX0_ticksByBars_21 : decode cX0_ticksByBars 21 = .ok (.iinc 2 1, 3) := by decide +kernel
theorem dX0_ticksByBars_24 : decode cX0_ticksByBars 24 = .ok (.goto (-20), 3) := by decide +kernel
theorem dX0_ticksByBars_27 : decode cX0_ticksByBars 27 = .ok (.iload_n 1, 1) := by decide +kernel
theorem dX0_ticksByBars_28 : decode cX0_ticksByBars 28 = .ok (.ireturn, 1) := by decide +kernel
set_option maxRecDepth 20000 in
theorem ggX0_weightOfAll_X5_holds : GoodIn wsX0_weightOfAll wsX5_holds := goodIn_r _ [4] (by decide +kernel) (by decide +kernel)
set_option maxRecDepth 20000 in
theorem gX0_weightOfAll_X5_holds_n87 : GoodIn wsX0_weightOfAll (wsX5_holds) := ggX0_weightOfAll_X5_holds
theorem dX0_weightOfAll_0 : decode cX0_weightOfAll 0 = .ok (.iconst 0, 1) := by decide +kernel
theorem dX0_weightOfAll_1 : decode cX0_weightOfAll 1 = .ok (.istore_n 2, 1) := by decide +kernel
theorem dX0_weightOfAll_2 : decode cX0_weightOfAll 2 = .ok (.iconst 0, 1) := by decide +kernel
theorem dX0_weightOfAll_3 : decode cX0_weightOfAll 3 = .ok (.istore_n 3, 1) := by decide +kernel
theorem dX0_weightOfAll_4 : decode cX0_weightOfAll 4 = .ok (.iload_n 3, 1) := by decide +kernel
theorem dX0_weightOfAll_5 : decode cX0_weightOfAll 5 = .ok (.bipush 10, 2) := by decide +kernel
theorem dX0_weightOfAll_7 : decode cX0_weightOfAll 7 = .ok (.if_icmp .ge 26, 3) := by decide +kernel
theorem dX0_weightOfAll_10 : decode cX0_weightOfAll 10 = .ok (.iload_n 1, 1) := by decide +kernel
theorem dX0_weightOfAll_11 : decode cX0_weightOfAll 11 = .ok (.iload_n 3, 1) := by decide +kernel
theorem dX0_weightOfAll_12 : decode cX0_weightOfAll 12 = .ok (.invokestatic 87, 3) := by decide +kernel
theorem dX0_weightOfAll_15 : decode cX0_weightOfAll 15 = .ok (.ifCond .eq 12, 3) := by decide +kernel
theorem dX0_weightOfAll_18 : decode cX0_weightOfAll 18 = .ok (.iload_n 2, 1) := by decide +kernel
theorem dX0_weightOfAll_19 : decode cX0_weightOfAll 19 = .ok (.aload_n 0, 1) := by decide +kernel
theorem dX0_weightOfAll_20 : decode cX0_weightOfAll 20 = .ok (.getfield 18, 3) := by decide +kernel
theorem dX0_weightOfAll_23 : decode cX0_weightOfAll 23 = .ok (.iload_n 3, 1) := by decide +kernel
theorem dX0_weightOfAll_24 : decode cX0_weightOfAll 24 = .ok (.iaload, 1) := by decide +kernel
theorem dX0_weightOfAll_25 : decode cX0_weightOfAll 25 = .ok (.iadd, 1) := by decide +kernel
theorem dX0_weightOfAll_26 : decode cX0_weightOfAll 26 = .ok (.istore_n 2, 1) := by decide +kernel
theorem dX0_weightOfAll_27 : decode cX0_weightOfAll 27 = .ok (.iinc 3 1, 3) := by decide +kernel
theorem dX0_weightOfAll_30 : decode cX0_weightOfAll 30 = .ok (.goto (-26), 3) := by decide +kernel
theorem dX0_weightOfAll_33 : decode cX0_weightOfAll 33 = .ok (.iload_n 2, 1) := by decide +kernel
theorem dX0_weightOfAll_34 : decode cX0_weightOfAll 34 = .ok (.ireturn, 1) := by decide +kernel
set_option maxRecDepth 20000 in
theorem ggX1_init_J7_fill_53178 : GoodIn wsX1_init wsJ7_fill_53178 := goodIn_r _ [9] (by decide +kernel) (by decide +kernel)
set_option maxRecDepth 20000 in
theorem gX1_init_J7_fill_53178 : GoodIn wsX1_init (va_wsS RX1 15 yJ7_fill_53178 wsJ7_fill_53178) := goodIn_app (goodIn_of _ (by decide +kernel)) ggX1_init_J7_fill_53178
theorem dX1_init_0 : decode cX1_init 0 = .ok (.aload_n 0, 1) := by decide +kernel
theorem dX1_init_1 : decode cX1_init 1 = .ok (.invokespecial 3, 3) := by decide +kernel
theorem dX1_init_4 : decode cX1_init 4 = .ok (.aload_n 0, 1) := by decide +kernel
theorem dX1_init_5 : decode cX1_init 5 = .ok (.bipush 10, 2) := by decide +kernel
theorem dX1_init_7 : decode cX1_init 7 = .ok (.newarray .int, 2) := by decide +kernel
theorem dX1_init_9 : decode cX1_init 9 = .ok (.putfield 9, 3) := by decide +kernel
theorem dX1_init_12 : decode cX1_init 12 = .ok (.aload_n 0, 1) := by decide +kernel
theorem dX1_init_13 : decode cX1_init 13 = .ok (.getfield 9, 3) := by decide +kernel
theorem dX1_init_16 : decode cX1_init 16 = .ok (.iconst 3, 1) := by decide +kernel
theorem dX1_init_17 : decode cX1_init 17 = .ok (.invokestatic 15, 3) := by decide +kernel
theorem dX1_init_20 : decode cX1_init 20 = .ok (.return_, 1) := by decide +kernel
theorem dX1_copyFrom_0 : decode cX1_copyFrom 0 = .ok (.aload_n 1, 1) := by decide +kernel
theorem dX1_copyFrom_1 : decode cX1_copyFrom 1 = .ok (.getfield 9, 3) := by decide +kernel
theorem dX1_copyFrom_4 : decode cX1_copyFrom 4 = .ok (.iconst 0, 1) := by decide +kernel
theorem dX1_copyFrom_5 : decode cX1_copyFrom 5 = .ok (.aload_n 0, 1) := by decide +kernel
theorem dX1_copyFrom_6 : decode cX1_copyFrom 6 = .ok (.getfield 9, 3) := by decide +kernel
theorem dX1_copyFrom_9 : decode cX1_copyFrom 9 = .ok (.iconst 0, 1) := by decide +kernel
theorem dX1_copyFrom_10 : decode cX1_copyFrom 10 = .ok (.bipush 10, 2) := by decide +kernel
theorem dX1_copyFrom_12 : decode cX1_copyFrom 12 = .ok (.invokestatic 21, 3) := by decide +kernel
theorem dX1_copyFrom_15 : decode cX1_copyFrom 15 = .ok (.return_, 1) := by decide +kernel
set_option maxRecDepth 20000 in
theorem ggX1_allBack_J7_fill_53178 : GoodIn wsX1_allBack wsJ7_fill_53178 := goodIn_r _ [5] (by decide +kernel) (by decide +kernel)
set_option maxRecDepth 20000 in
theorem gX1_allBack_J7_fill_53178 : GoodIn wsX1_allBack (va_wsS RX1 15 yJ7_fill_53178 wsJ7_fill_53178) := goodIn_app (goodIn_of _ (by decide +kernel)) ggX1_allBack_J7_fill_53178
theorem dX1_allBack_0 : decode cX1_allBack 0 = .ok (.aload_n 0, 1) := by decide +kernel
theorem dX1_allBack_1 : decode cX1_allBack 1 = .ok (.getfield 9, 3) := by decide +kernel
theorem dX1_allBack_4 : decode cX1_allBack 4 = .ok (.iconst 3, 1) := by decide +kernel
theorem dX1_allBack_5 : decode cX1_allBack 5 = .ok (.invokestatic 15, 3) := by decide +kernel
theorem dX1_allBack_8 : decode cX1_allBack 8 = .ok (.return_, 1) := by decide +kernel
theorem dX1_isBack_0 : decode cX1_isBack 0 = .ok (.aload_n 0, 1) := by decide +kernel
theorem dX1_isBack_1 : decode cX1_isBack 1 = .ok (.getfield 9, 3) := by decide +kernel
theorem dX1_isBack_4 : decode cX1_isBack 4 = .ok (.iload_n 1, 1) := by decide +kernel
theorem dX1_isBack_5 : decode cX1_isBack 5 = .ok (.iaload, 1) := by decide +kernel
theorem dX1_isBack_6 : decode cX1_isBack 6 = .ok (.iload_n 2, 1) := by decide +kernel
theorem dX1_isBack_7 : decode cX1_isBack 7 = .ok (.bipush 20, 2) := by decide +kernel
theorem dX1_isBack_9 : decode cX1_isBack 9 = .ok (.idiv, 1) := by decide +kernel
theorem dX1_isBack_10 : decode cX1_isBack 10 = .ok (.if_icmp .lt 7, 3) := by decide +kernel
theorem dX1_isBack_13 : decode cX1_isBack 13 = .ok (.iconst 1, 1) := by decide +kernel
theorem dX1_isBack_14 : decode cX1_isBack 14 = .ok (.goto 4, 3) := by decide +kernel
theorem dX1_isBack_17 : decode cX1_isBack 17 = .ok (.iconst 0, 1) := by decide +kernel
theorem dX1_isBack_18 : decode cX1_isBack 18 = .ok (.ireturn, 1) := by decide +kernel
set_option maxRecDepth 20000 in
theorem ggX1_heardOutOf_X5_holds : GoodIn wsX1_heardOutOf wsX5_holds := goodIn_r _ [3] (by decide +kernel) (by decide +kernel)
set_option maxRecDepth 20000 in
theorem gX1_heardOutOf_X5_holds_n27 : GoodIn wsX1_heardOutOf (wsX5_holds) := ggX1_heardOutOf_X5_holds
set_option maxRecDepth 20000 in
theorem ggX1_heardOutOf_X1_isBack : GoodIn wsX1_heardOutOf wsX1_isBack := goodIn_r _ [8, 9, 10] (by decide +kernel) (by decide +kernel)
set_option maxRecDepth 20000 in
theorem gX1_heardOutOf_X1_isBack : GoodIn wsX1_heardOutOf (wsV RX1 31 RX1 yX1_isBack wsX1_isBack) := goodIn_app (goodIn_of _ (by decide +kernel)) ggX1_heardOutOf_X1_isBack
theorem dX1_heardOutOf_0 : decode cX1_heardOutOf 0 = .ok (.iconst 0, 1) := by decide +kernel
theorem dX1_heardOutOf_1 : decode cX1_heardOutOf 1 = .ok (.istore 4, 2) := by decide +kernel
theorem dX1_heardOutOf_3 : decode cX1_heardOutOf 3 = .ok (.iconst 0, 1) := by decide +kernel
theorem dX1_heardOutOf_4 : decode cX1_heardOutOf 4 = .ok (.istore 5, 2) := by decide +kernel
theorem dX1_heardOutOf_6 : decode cX1_heardOutOf 6 = .ok (.iconst 0, 1) := by decide +kernel
theorem dX1_heardOutOf_7 : decode cX1_heardOutOf 7 = .ok (.istore 6, 2) := by decide +kernel
theorem dX1_heardOutOf_9 : decode cX1_heardOutOf 9 = .ok (.iload 6, 2) := by decide +kernel
theorem dX1_heardOutOf_11 : decode cX1_heardOutOf 11 = .ok (.bipush 10, 2) := by decide +kernel
theorem dX1_heardOutOf_13 : decode cX1_heardOutOf 13 = .ok (.if_icmp .ge 60, 3) := by decide +kernel
theorem dX1_heardOutOf_16 : decode cX1_heardOutOf 16 = .ok (.aload_n 2, 1) := by decide +kernel
theorem dX1_heardOutOf_17 : decode cX1_heardOutOf 17 = .ok (.iload 6, 2) := by decide +kernel
theorem dX1_heardOutOf_19 : decode cX1_heardOutOf 19 = .ok (.iaload, 1) := by decide +kernel
theorem dX1_heardOutOf_20 : decode cX1_heardOutOf 20 = .ok (.istore 7, 2) := by decide +kernel
theorem dX1_heardOutOf_22 : decode cX1_heardOutOf 22 = .ok (.iload_n 1, 1) := by decide +kernel
theorem dX1_heardOutOf_23 : decode cX1_heardOutOf 23 = .ok (.iload 6, 2) := by decide +kernel
theorem dX1_heardOutOf_25 : decode cX1_heardOutOf 25 = .ok (.invokestatic 27, 3) := by decide +kernel
theorem dX1_heardOutOf_28 : decode cX1_heardOutOf 28 = .ok (.ifCond .eq 39, 3) := by decide +kernel
theorem dX1_heardOutOf_31 : decode cX1_heardOutOf 31 = .ok (.aload_n 0, 1) := by decide +kernel
theorem dX1_heardOutOf_32 : decode cX1_heardOutOf 32 = .ok (.iload 6, 2) := by decide +kernel
theorem dX1_heardOutOf_34 : decode cX1_heardOutOf 34 = .ok (.iload 7, 2) := by decide +kernel
theorem dX1_heardOutOf_36 : decode cX1_heardOutOf 36 = .ok (.invokevirtual 31, 3) := by decide +kernel
theorem dX1_heardOutOf_39 : decode cX1_heardOutOf 39 = .ok (.ifCond .eq 28, 3) := by decide +kernel
theorem dX1_heardOutOf_42 : decode cX1_heardOutOf 42 = .ok (.iload 5, 2) := by decide +kernel
theorem dX1_heardOutOf_44 : decode cX1_heardOutOf 44 = .ok (.iload 7, 2) := by decide +kernel
theorem dX1_heardOutOf_46 : decode cX1_heardOutOf 46 = .ok (.iadd, 1) := by decide +kernel
theorem dX1_heardOutOf_47 : decode cX1_heardOutOf 47 = .ok (.iload_n 3, 1) := by decide +kernel
theorem dX1_heardOutOf_48 : decode cX1_heardOutOf 48 = .ok (.if_icmp .gt 19, 3) := by decide +kernel
theorem dX1_heardOutOf_51 : decode cX1_heardOutOf 51 = .ok (.iload 4, 2) := by decide +kernel
theorem dX1_heardOutOf_53 : decode cX1_heardOutOf 53 = .ok (.iconst 1, 1) := by decide +kernel
theorem dX1_heardOutOf_54 : decode cX1_heardOutOf 54 = .ok (.iload 6, 2) := by decide +kernel
theorem dX1_heardOutOf_56 : decode cX1_heardOutOf 56 = .ok (.ishl, 1) := by decide +kernel
theorem dX1_heardOutOf_57 : decode cX1_heardOutOf 57 = .ok (.ior, 1) := by decide +kernel
theorem dX1_heardOutOf_58 : decode cX1_heardOutOf 58 = .ok (.istore 4, 2) := by decide +kernel
theorem dX1_heardOutOf_60 : decode cX1_heardOutOf 60 = .ok (.iload 5, 2) := by decide +kernel
theorem dX1_heardOutOf_62 : decode cX1_heardOutOf 62 = .ok (.iload 7, 2) := by decide +kernel
theorem dX1_heardOutOf_64 : decode cX1_heardOutOf 64 = .ok (.iadd, 1) := by decide +kernel
theorem dX1_heardOutOf_65 : decode cX1_heardOutOf 65 = .ok (.istore 5, 2) := by decide +kernel
theorem dX1_heardOutOf_67 : decode cX1_heardOutOf 67 = .ok (.iinc 6 1, 3) := by decide +kernel
theorem dX1_heardOutOf_70 : decode cX1_heardOutOf 70 = .ok (.goto (-61), 3) := by decide +kernel
theorem dX1_heardOutOf_73 : decode cX1_heardOutOf 73 = .ok (.iload 4, 2) := by decide +kernel
theorem dX1_heardOutOf_75 : decode cX1_heardOutOf 75 = .ok (.ireturn, 1) := by decide +kernel
set_option maxRecDepth 20000 in
theorem ggX1_swing_X5_holds : GoodIn wsX1_swing wsX5_holds := goodIn_r _ [8] (by decide +kernel) (by decide +kernel)
set_option maxRecDepth 20000 in
theorem gX1_swing_X5_holds_n27 : GoodIn wsX1_swing (wsX5_holds) := ggX1_swing_X5_holds
theorem dX1_swing_0 : decode cX1_swing 0 = .ok (.iconst 0, 1) := by decide +kernel
theorem dX1_swing_1 : decode cX1_swing 1 = .ok (.istore_n 2, 1) := by decide +kernel
theorem dX1_swing_2 : decode cX1_swing 2 = .ok (.iload_n 2, 1) := by decide +kernel
theorem dX1_swing_3 : decode cX1_swing 3 = .ok (.bipush 10, 2) := by decide +kernel
theorem dX1_swing_5 : decode cX1_swing 5 = .ok (.if_icmp .ge 39, 3) := by decide +kernel
theorem dX1_swing_8 : decode cX1_swing 8 = .ok (.aload_n 0, 1) := by decide +kernel
theorem dX1_swing_9 : decode cX1_swing 9 = .ok (.getfield 9, 3) := by decide +kernel
theorem dX1_swing_12 : decode cX1_swing 12 = .ok (.iload_n 2, 1) := by decide +kernel
theorem dX1_swing_13 : decode cX1_swing 13 = .ok (.iload_n 1, 1) := by decide +kernel
theorem dX1_swing_14 : decode cX1_swing 14 = .ok (.iload_n 2, 1) := by decide +kernel
theorem dX1_swing_15 : decode cX1_swing 15 = .ok (.invokestatic 27, 3) := by decide +kernel
theorem dX1_swing_18 : decode cX1_swing 18 = .ok (.ifCond .eq 7, 3) := by decide +kernel
theorem dX1_swing_21 : decode cX1_swing 21 = .ok (.iconst 0, 1) := by decide +kernel
theorem dX1_swing_22 : decode cX1_swing 22 = .ok (.goto 15, 3) := by decide +kernel
theorem dX1_swing_25 : decode cX1_swing 25 = .ok (.aload_n 0, 1) := by decide +kernel
theorem dX1_swing_26 : decode cX1_swing 26 = .ok (.getfield 9, 3) := by decide +kernel
theorem dX1_swing_29 : decode cX1_swing 29 = .ok (.iload_n 2, 1) := by decide +kernel
theorem dX1_swing_30 : decode cX1_swing 30 = .ok (.iaload, 1) := by decide +kernel
theorem dX1_swing_31 : decode cX1_swing 31 = .ok (.iconst 1, 1) := by decide +kernel
theorem dX1_swing_32 : decode cX1_swing 32 = .ok (.iadd, 1) := by decide +kernel
theorem dX1_swing_33 : decode cX1_swing 33 = .ok (.iconst 3, 1) := by decide +kernel
theorem dX1_swing_34 : decode cX1_swing 34 = .ok (.invokestatic 34, 3) := by decide +kernel
theorem dX1_swing_37 : decode cX1_swing 37 = .ok (.iastore, 1) := by decide +kernel
theorem dX1_swing_38 : decode cX1_swing 38 = .ok (.iinc 2 1, 3) := by decide +kernel
theorem dX1_swing_41 : decode cX1_swing 41 = .ok (.goto (-39), 3) := by decide +kernel
theorem dX1_swing_44 : decode cX1_swing 44 = .ok (.return_, 1) := by decide +kernel
set_option maxRecDepth 20000 in
theorem ggX2_init_X0_init : GoodIn wsX2_init wsX0_init := goodIn_r _ [11, 12, 2, 3, 13, 14, 15, 16, 17, 18, 19, 20, 21, 22, 23, 24, 25, 26, 27, 28, 29, 30, 31, 32, 33, 34, 35, 36, 39, 40, 41, 42, 43, 44, 45, 46, 47, 48, 49] (by decide +kernel) (by decide +kernel)
set_option maxRecDepth 20000 in
theorem gX2_init_X0_init : GoodIn wsX2_init (wsX0_init) := ggX2_init_X0_init
theorem dX2_init_0 : decode cX2_init 0 = .ok (.aload_n 0, 1) := by decide +kernel
theorem dX2_init_1 : decode cX2_init 1 = .ok (.invokespecial 3, 3) := by decide +kernel
theorem dX2_init_4 : decode cX2_init 4 = .ok (.aload_n 0, 1) := by decide +kernel
theorem dX2_init_5 : decode cX2_init 5 = .ok (.bipush 6, 2) := by decide +kernel
theorem dX2_init_7 : decode cX2_init 7 = .ok (.anewarray 9, 3) := by decide +kernel
theorem dX2_init_10 : decode cX2_init 10 = .ok (.putfield 11, 3) := by decide +kernel
theorem dX2_init_13 : decode cX2_init 13 = .ok (.aload_n 0, 1) := by decide +kernel
theorem dX2_init_14 : decode cX2_init 14 = .ok (.iconst 0, 1) := by decide +kernel
theorem dX2_init_15 : decode cX2_init 15 = .ok (.putfield 17, 3) := by decide +kernel
theorem dX2_init_18 : decode cX2_init 18 = .ok (.iconst 0, 1) := by decide +kernel
theorem dX2_init_19 : decode cX2_init 19 = .ok (.istore_n 1, 1) := by decide +kernel
theorem dX2_init_20 : decode cX2_init 20 = .ok (.iload_n 1, 1) := by decide +kernel
theorem dX2_init_21 : decode cX2_init 21 = .ok (.bipush 6, 2) := by decide +kernel
theorem dX2_init_23 : decode cX2_init 23 = .ok (.if_icmp .ge 22, 3) := by decide +kernel
theorem dX2_init_26 : decode cX2_init 26 = .ok (.aload_n 0, 1) := by decide +kernel
theorem dX2_init_27 : decode cX2_init 27 = .ok (.getfield 11, 3) := by decide +kernel
theorem dX2_init_30 : decode cX2_init 30 = .ok (.iload_n 1, 1) := by decide +kernel
theorem dX2_init_31 : decode cX2_init 31 = .ok (.new 9, 3) := by decide +kernel
theorem dX2_init_34 : decode cX2_init 34 = .ok (.dup, 1) := by decide +kernel
theorem dX2_init_35 : decode cX2_init 35 = .ok (.invokespecial 21, 3) := by decide +kernel
theorem dX2_init_38 : decode cX2_init 38 = .ok (.aastore, 1) := by decide +kernel
theorem dX2_init_39 : decode cX2_init 39 = .ok (.iinc 1 1, 3) := by decide +kernel
theorem dX2_init_42 : decode cX2_init 42 = .ok (.goto (-22), 3) := by decide +kernel
theorem dX2_init_45 : decode cX2_init 45 = .ok (.return_, 1) := by decide +kernel
set_option maxRecDepth 20000 in
theorem ggX2_add_X2_dropOldest : GoodIn wsX2_add wsX2_dropOldest := goodIn_r _ [7, 2, 1, 34, 35] (by decide +kernel) (by decide +kernel)
set_option maxRecDepth 20000 in
theorem gX2_add_X2_dropOldest : GoodIn wsX2_add (wsV RX2 22 RX2 yX2_dropOldest wsX2_dropOldest) := goodIn_app (goodIn_of _ (by decide +kernel)) ggX2_add_X2_dropOldest
set_option maxRecDepth 20000 in
theorem ggX2_add_X0_copyFrom : GoodIn wsX2_add wsX0_copyFrom := goodIn_r _ [12, 13, 14, 15, 16, 17, 18, 19, 20, 21, 22, 23, 24, 25, 26, 27, 28, 29, 30, 31, 32, 33, 36, 37, 38, 39, 40, 41, 42, 43, 44, 45, 46] (by decide +kernel) (by decide +kernel)
set_option maxRecDepth 20000 in
theorem gX2_add_X0_copyFrom : GoodIn wsX2_add (wsV RX2 25 RX0 yX0_copyFrom wsX0_copyFrom) := goodIn_app (goodIn_of _ (by decide +kernel)) ggX2_add_X0_copyFrom
theorem dX2_add_0 : decode cX2_add 0 = .ok (.aload_n 0, 1) := by decide +kernel
theorem dX2_add_1 : decode cX2_add 1 = .ok (.getfield 17, 3) := by decide +kernel
theorem dX2_add_4 : decode cX2_add 4 = .ok (.bipush 6, 2) := by decide +kernel
theorem dX2_add_6 : decode cX2_add 6 = .ok (.if_icmp .ne 7, 3) := by decide +kernel
theorem dX2_add_9 : decode cX2_add 9 = .ok (.aload_n 0, 1) := by decide +kernel
theorem dX2_add_10 : decode cX2_add 10 = .ok (.invokevirtual 22, 3) := by decide +kernel
theorem dX2_add_13 : decode cX2_add 13 = .ok (.aload_n 0, 1) := by decide +kernel
theorem dX2_add_14 : decode cX2_add 14 = .ok (.getfield 11, 3) := by decide +kernel
theorem dX2_add_17 : decode cX2_add 17 = .ok (.aload_n 0, 1) := by decide +kernel
theorem dX2_add_18 : decode cX2_add 18 = .ok (.getfield 17, 3) := by decide +kernel
theorem dX2_add_21 : decode cX2_add 21 = .ok (.aaload, 1) := by decide +kernel
theorem dX2_add_22 : decode cX2_add 22 = .ok (.astore_n 2, 1) := by decide +kernel
theorem dX2_add_23 : decode cX2_add 23 = .ok (.aload_n 2, 1) := by decide +kernel
theorem dX2_add_24 : decode cX2_add 24 = .ok (.aload_n 1, 1) := by decide +kernel
theorem dX2_add_25 : decode cX2_add 25 = .ok (.invokevirtual 25, 3) := by decide +kernel
theorem dX2_add_28 : decode cX2_add 28 = .ok (.aload_n 0, 1) := by decide +kernel
theorem dX2_add_29 : decode cX2_add 29 = .ok (.dup, 1) := by decide +kernel
theorem dX2_add_30 : decode cX2_add 30 = .ok (.getfield 17, 3) := by decide +kernel
theorem dX2_add_33 : decode cX2_add 33 = .ok (.iconst 1, 1) := by decide +kernel
theorem dX2_add_34 : decode cX2_add 34 = .ok (.iadd, 1) := by decide +kernel
theorem dX2_add_35 : decode cX2_add 35 = .ok (.putfield 17, 3) := by decide +kernel
theorem dX2_add_38 : decode cX2_add 38 = .ok (.aload_n 2, 1) := by decide +kernel
theorem dX2_add_39 : decode cX2_add 39 = .ok (.areturn, 1) := by decide +kernel
theorem dX2_dropOldest_0 : decode cX2_dropOldest 0 = .ok (.aload_n 0, 1) := by decide +kernel
theorem dX2_dropOldest_1 : decode cX2_dropOldest 1 = .ok (.getfield 11, 3) := by decide +kernel
theorem dX2_dropOldest_4 : decode cX2_dropOldest 4 = .ok (.iconst 0, 1) := by decide +kernel
theorem dX2_dropOldest_5 : decode cX2_dropOldest 5 = .ok (.aaload, 1) := by decide +kernel
theorem dX2_dropOldest_6 : decode cX2_dropOldest 6 = .ok (.astore_n 1, 1) := by decide +kernel
theorem dX2_dropOldest_7 : decode cX2_dropOldest 7 = .ok (.iconst 1, 1) := by decide +kernel
theorem dX2_dropOldest_8 : decode cX2_dropOldest 8 = .ok (.istore_n 2, 1) := by decide +kernel
theorem dX2_dropOldest_9 : decode cX2_dropOldest 9 = .ok (.iload_n 2, 1) := by decide +kernel
theorem dX2_dropOldest_10 : decode cX2_dropOldest 10 = .ok (.bipush 6, 2) := by decide +kernel
theorem dX2_dropOldest_12 : decode cX2_dropOldest 12 = .ok (.if_icmp .ge 23, 3) := by decide +kernel
theorem dX2_dropOldest_15 : decode cX2_dropOldest 15 = .ok (.aload_n 0, 1) := by decide +kernel
theorem dX2_dropOldest_16 : decode cX2_dropOldest 16 = .ok (.getfield 11, 3) := by decide +kernel
theorem dX2_dropOldest_19 : decode cX2_dropOldest 19 = .ok (.iload_n 2, 1) := by decide +kernel
theorem dX2_dropOldest_20 : decode cX2_dropOldest 20 = .ok (.iconst 1, 1) := by decide +kernel
theorem dX2_dropOldest_21 : decode cX2_dropOldest 21 = .ok (.isub, 1) := by decide +kernel
theorem dX2_dropOldest_22 : decode cX2_dropOldest 22 = .ok (.aload_n 0, 1) := by decide +kernel
theorem dX2_dropOldest_23 : decode cX2_dropOldest 23 = .ok (.getfield 11, 3) := by decide +kernel
theorem dX2_dropOldest_26 : decode cX2_dropOldest 26 = .ok (.iload_n 2, 1) := by decide +kernel
theorem dX2_dropOldest_27 : decode cX2_dropOldest 27 = .ok (.aaload, 1) := by decide +kernel
theorem dX2_dropOldest_28 : decode cX2_dropOldest 28 = .ok (.aastore, 1) := by decide +kernel
theorem dX2_dropOldest_29 : decode cX2_dropOldest 29 = .ok (.iinc 2 1, 3) := by decide +kernel
theorem dX2_dropOldest_32 : decode cX2_dropOldest 32 = .ok (.goto (-23), 3) := by decide +kernel
theorem dX2_dropOldest_35 : decode cX2_dropOldest 35 = .ok (.aload_n 0, 1) := by decide +kernel
theorem dX2_dropOldest_36 : decode cX2_dropOldest 36 = .ok (.getfield 11, 3) := by decide +kernel
theorem dX2_dropOldest_39 : decode cX2_dropOldest 39 = .ok (.iconst 5, 1) := by decide +kernel
theorem dX2_dropOldest_40 : decode cX2_dropOldest 40 = .ok (.aload_n 1, 1) := by decide +kernel
theorem dX2_dropOldest_41 : decode cX2_dropOldest 41 = .ok (.aastore, 1) := by decide +kernel
theorem dX2_dropOldest_42 : decode cX2_dropOldest 42 = .ok (.aload_n 0, 1) := by decide +kernel
theorem dX2_dropOldest_43 : decode cX2_dropOldest 43 = .ok (.dup, 1) := by decide +kernel
theorem dX2_dropOldest_44 : decode cX2_dropOldest 44 = .ok (.getfield 17, 3) := by decide +kernel
theorem dX2_dropOldest_47 : decode cX2_dropOldest 47 = .ok (.iconst 1, 1) := by decide +kernel
theorem dX2_dropOldest_48 : decode cX2_dropOldest 48 = .ok (.isub, 1) := by decide +kernel
theorem dX2_dropOldest_49 : decode cX2_dropOldest 49 = .ok (.putfield 17, 3) := by decide +kernel
theorem dX2_dropOldest_52 : decode cX2_dropOldest 52 = .ok (.return_, 1) := by decide +kernel
theorem dX2_takeLatest_0 : decode cX2_takeLatest 0 = .ok (.aload_n 0, 1) := by decide +kernel
theorem dX2_takeLatest_1 : decode cX2_takeLatest 1 = .ok (.getfield 17, 3) := by decide +kernel
theorem dX2_takeLatest_4 : decode cX2_takeLatest 4 = .ok (.ifCond .ne 13, 3) := by decide +kernel
theorem dX2_takeLatest_7 : decode cX2_takeLatest 7 = .ok (.new 29, 3) := by decide +kernel
theorem dX2_takeLatest_10 : decode cX2_takeLatest 10 = .ok (.dup, 1) := by decide +kernel
theorem dX2_takeLatest_11 : decode cX2_takeLatest 11 = .ok (.ldc 31, 2) := by decide +kernel
theorem dX2_takeLatest_13 : decode cX2_takeLatest 13 = .ok (.invokespecial 33, 3) := by decide +kernel
theorem dX2_takeLatest_16 : decode cX2_takeLatest 16 = .ok (.athrow, 1) := by decide +kernel
theorem dX2_takeLatest_17 : decode cX2_takeLatest 17 = .ok (.aload_n 0, 1) := by decide +kernel
theorem dX2_takeLatest_18 : decode cX2_takeLatest 18 = .ok (.dup, 1) := by decide +kernel
theorem dX2_takeLatest_19 : decode cX2_takeLatest 19 = .ok (.getfield 17, 3) := by decide +kernel
theorem dX2_takeLatest_22 : decode cX2_takeLatest 22 = .ok (.iconst 1, 1) := by decide +kernel
theorem dX2_takeLatest_23 : decode cX2_takeLatest 23 = .ok (.isub, 1) := by decide +kernel
theorem dX2_takeLatest_24 : decode cX2_takeLatest 24 = .ok (.putfield 17, 3) := by decide +kernel
theorem dX2_takeLatest_27 : decode cX2_takeLatest 27 = .ok (.aload_n 0, 1) := by decide +kernel
theorem dX2_takeLatest_28 : decode cX2_takeLatest 28 = .ok (.getfield 11, 3) := by decide +kernel
theorem dX2_takeLatest_31 : decode cX2_takeLatest 31 = .ok (.aload_n 0, 1) := by decide +kernel
theorem dX2_takeLatest_32 : decode cX2_takeLatest 32 = .ok (.getfield 17, 3) := by decide +kernel
theorem dX2_takeLatest_35 : decode cX2_takeLatest 35 = .ok (.aaload, 1) := by decide +kernel
theorem dX2_takeLatest_36 : decode cX2_takeLatest 36 = .ok (.areturn, 1) := by decide +kernel
theorem dX3_init_0 : decode cX3_init 0 = .ok (.aload_n 0, 1) := by decide +kernel
theorem dX3_init_1 : decode cX3_init 1 = .ok (.invokespecial 3, 3) := by decide +kernel
theorem dX3_init_4 : decode cX3_init 4 = .ok (.aload_n 0, 1) := by decide +kernel
theorem dX3_init_5 : decode cX3_init 5 = .ok (.bipush 60, 2) := by decide +kernel
theorem dX3_init_7 : decode cX3_init 7 = .ok (.newarray .char, 2) := by decide +kernel
theorem dX3_init_9 : decode cX3_init 9 = .ok (.putfield 11, 3) := by decide +kernel
theorem dX3_init_12 : decode cX3_init 12 = .ok (.aload_n 0, 1) := by decide +kernel
theorem dX3_init_13 : decode cX3_init 13 = .ok (.iconst 0, 1) := by decide +kernel
theorem dX3_init_14 : decode cX3_init 14 = .ok (.putfield 15, 3) := by decide +kernel
theorem dX3_init_17 : decode cX3_init 17 = .ok (.return_, 1) := by decide +kernel
theorem dX3_charactersIn_0 : decode cX3_charactersIn 0 = .ok (.iconst 0, 1) := by decide +kernel
theorem dX3_charactersIn_1 : decode cX3_charactersIn 1 = .ok (.istore_n 2, 1) := by decide +kernel
theorem dX3_charactersIn_2 : decode cX3_charactersIn 2 = .ok (.iload_n 2, 1) := by decide +kernel
theorem dX3_charactersIn_3 : decode cX3_charactersIn 3 = .ok (.bipush 8, 2) := by decide +kernel
theorem dX3_charactersIn_5 : decode cX3_charactersIn 5 = .ok (.if_icmp .ge 51, 3) := by decide +kernel
theorem dX3_charactersIn_8 : decode cX3_charactersIn 8 = .ok (.lload_n 0, 1) := by decide +kernel
theorem dX3_charactersIn_9 : decode cX3_charactersIn 9 = .ok (.iload_n 2, 1) := by decide +kernel
theorem dX3_charactersIn_10 : decode cX3_charactersIn 10 = .ok (.bipush 8, 2) := by decide +kernel
theorem dX3_charactersIn_12 : decode cX3_charactersIn 12 = .ok (.imul, 1) := by decide +kernel
theorem dX3_charactersIn_13 : decode cX3_charactersIn 13 = .ok (.lushr, 1) := by decide +kernel
theorem dX3_charactersIn_14 : decode cX3_charactersIn 14 = .ok (.lstore_n 3, 1) := by decide +kernel
theorem dX3_charactersIn_15 : decode cX3_charactersIn 15 = .ok (.lload_n 3, 1) := by decide +kernel
theorem dX3_charactersIn_16 : decode cX3_charactersIn 16 = .ok (.lconst 0, 1) := by decide +kernel
theorem dX3_charactersIn_17 : decode cX3_charactersIn 17 = .ok (.lcmp, 1) := by decide +kernel
theorem dX3_charactersIn_18 : decode cX3_charactersIn 18 = .ok (.ifCond .ne 5, 3) := by decide +kernel
theorem dX3_charactersIn_21 : decode cX3_charactersIn 21 = .ok (.iload_n 2, 1) := by decide +kernel
theorem dX3_charactersIn_22 : decode cX3_charactersIn 22 = .ok (.ireturn, 1) := by decide +kernel
theorem dX3_charactersIn_23 : decode cX3_charactersIn 23 = .ok (.lload_n 3, 1) := by decide +kernel
theorem dX3_charactersIn_24 : decode cX3_charactersIn 24 = .ok (.ldc2_w 19, 3) := by decide +kernel
theorem dX3_charactersIn_27 : decode cX3_charactersIn 27 = .ok (.land, 1) := by decide +kernel
theorem dX3_charactersIn_28 : decode cX3_charactersIn 28 = .ok (.lstore 5, 2) := by decide +kernel
theorem dX3_charactersIn_30 : decode cX3_charactersIn 30 = .ok (.lload 5, 2) := by decide +kernel
theorem dX3_charactersIn_32 : decode cX3_charactersIn 32 = .ok (.ldc2_w 21, 3) := by decide +kernel
theorem dX3_charactersIn_35 : decode cX3_charactersIn 35 = .ok (.lcmp, 1) := by decide +kernel
theorem dX3_charactersIn_36 : decode cX3_charactersIn 36 = .ok (.ifCond .lt 12, 3) := by decide +kernel
theorem dX3_charactersIn_39 : decode cX3_charactersIn 39 = .ok (.lload 5, 2) := by decide +kernel
theorem dX3_charactersIn_41 : decode cX3_charactersIn 41 = .ok (.ldc2_w 23, 3) := by decide +kernel
theorem dX3_charactersIn_44 : decode cX3_charactersIn 44 = .ok (.lcmp, 1) := by decide +kernel
theorem dX3_charactersIn_45 : decode cX3_charactersIn 45 = .ok (.ifCond .le 5, 3) := by decide +kernel
theorem dX3_charactersIn_48 : decode cX3_charactersIn 48 = .ok (.iconst 0, 1) := by decide +kernel
theorem dX3_charactersIn_49 : decode cX3_charactersIn 49 = .ok (.ireturn, 1) := by decide +kernel
theorem dX3_charactersIn_50 : decode cX3_charactersIn 50 = .ok (.iinc 2 1, 3) := by decide +kernel
theorem dX3_charactersIn_53 : decode cX3_charactersIn 53 = .ok (.goto (-51), 3) := by decide +kernel
theorem dX3_charactersIn_56 : decode cX3_charactersIn 56 = .ok (.bipush 8, 2) := by decide +kernel
theorem dX3_charactersIn_58 : decode cX3_charactersIn 58 = .ok (.ireturn, 1) := by decide +kernel
theorem dX3_clear_0 : decode cX3_clear 0 = .ok (.aload_n 0, 1) := by decide +kernel
theorem dX3_clear_1 : decode cX3_clear 1 = .ok (.iconst 0, 1) := by decide +kernel
theorem dX3_clear_2 : decode cX3_clear 2 = .ok (.putfield 15, 3) := by decide +kernel
theorem dX3_clear_5 : decode cX3_clear 5 = .ok (.return_, 1) := by decide +kernel
theorem dX3_hasRoomFor_0 : decode cX3_hasRoomFor 0 = .ok (.aload_n 0, 1) := by decide +kernel
theorem dX3_hasRoomFor_1 : decode cX3_hasRoomFor 1 = .ok (.getfield 15, 3) := by decide +kernel
theorem dX3_hasRoomFor_4 : decode cX3_hasRoomFor 4 = .ok (.iload_n 1, 1) := by decide +kernel
theorem dX3_hasRoomFor_5 : decode cX3_hasRoomFor 5 = .ok (.iadd, 1) := by decide +kernel
theorem dX3_hasRoomFor_6 : decode cX3_hasRoomFor 6 = .ok (.bipush 60, 2) := by decide +kernel
theorem dX3_hasRoomFor_8 : decode cX3_hasRoomFor 8 = .ok (.if_icmp .gt 7, 3) := by decide +kernel
theorem dX3_hasRoomFor_11 : decode cX3_hasRoomFor 11 = .ok (.iconst 1, 1) := by decide +kernel
theorem dX3_hasRoomFor_12 : decode cX3_hasRoomFor 12 = .ok (.goto 4, 3) := by decide +kernel
theorem dX3_hasRoomFor_15 : decode cX3_hasRoomFor 15 = .ok (.iconst 0, 1) := by decide +kernel
theorem dX3_hasRoomFor_16 : decode cX3_hasRoomFor 16 = .ok (.ireturn, 1) := by decide +kernel
theorem dX3_append_0 : decode cX3_append 0 = .ok (.iload_n 3, 1) := by decide +kernel
theorem dX3_append_1 : decode cX3_append 1 = .ok (.iconst 1, 1) := by decide +kernel
theorem dX3_append_2 : decode cX3_append 2 = .ok (.isub, 1) := by decide +kernel
theorem dX3_append_3 : decode cX3_append 3 = .ok (.istore 4, 2) := by decide +kernel
theorem dX3_append_5 : decode cX3_append 5 = .ok (.iload 4, 2) := by decide +kernel
theorem dX3_append_7 : decode cX3_append 7 = .ok (.ifCond .lt 50, 3) := by decide +kernel
theorem dX3_append_10 : decode cX3_append 10 = .ok (.aload_n 0, 1) := by decide +kernel
theorem dX3_append_11 : decode cX3_append 11 = .ok (.getfield 15, 3) := by decide +kernel
theorem dX3_append_14 : decode cX3_append 14 = .ok (.bipush 60, 2) := by decide +kernel
theorem dX3_append_16 : decode cX3_append 16 = .ok (.if_icmp .ge 41, 3) := by decide +kernel
theorem dX3_append_19 : decode cX3_append 19 = .ok (.aload_n 0, 1) := by decide +kernel
theorem dX3_append_20 : decode cX3_append 20 = .ok (.getfield 11, 3) := by decide +kernel
theorem dX3_append_23 : decode cX3_append 23 = .ok (.aload_n 0, 1) := by decide +kernel
theorem dX3_append_24 : decode cX3_append 24 = .ok (.getfield 15, 3) := by decide +kernel
theorem dX3_append_27 : decode cX3_append 27 = .ok (.lload_n 1, 1) := by decide +kernel
theorem dX3_append_28 : decode cX3_append 28 = .ok (.iload 4, 2) := by decide +kernel
theorem dX3_append_30 : decode cX3_append 30 = .ok (.bipush 8, 2) := by decide +kernel
theorem dX3_append_32 : decode cX3_append 32 = .ok (.imul, 1) := by decide +kernel
theorem dX3_append_33 : decode cX3_append 33 = .ok (.lushr, 1) := by decide +kernel
theorem dX3_append_34 : decode cX3_append 34 = .ok (.ldc2_w 19, 3) := by decide +kernel
theorem dX3_append_37 : decode cX3_append 37 = .ok (.land, 1) := by decide +kernel
theorem dX3_append_38 : decode cX3_append 38 = .ok (.l2i, 1) := by decide +kernel
theorem dX3_append_39 : decode cX3_append 39 = .ok (.i2c, 1) := by decide +kernel
theorem dX3_append_40 : decode cX3_append 40 = .ok (.castore, 1) := by decide +kernel
theorem dX3_append_41 : decode cX3_append 41 = .ok (.aload_n 0, 1) := by decide +kernel
theorem dX3_append_42 : decode cX3_append 42 = .ok (.dup, 1) := by decide +kernel
theorem dX3_append_43 : decode cX3_append 43 = .ok (.getfield 15, 3) := by decide +kernel
theorem dX3_append_46 : decode cX3_append 46 = .ok (.iconst 1, 1) := by decide +kernel
theorem dX3_append_47 : decode cX3_append 47 = .ok (.iadd, 1) := by decide +kernel
theorem dX3_append_48 : decode cX3_append 48 = .ok (.putfield 15, 3) := by decide +kernel
theorem dX3_append_51 : decode cX3_append 51 = .ok (.iinc 4 (-1), 3) := by decide +kernel
theorem dX3_append_54 : decode cX3_append 54 = .ok (.goto (-49), 3) := by decide +kernel
theorem dX3_append_57 : decode cX3_append 57 = .ok (.return_, 1) := by decide +kernel
set_option maxRecDepth 20000 in
theorem ggX3_firstFault_X3_placeAfter : GoodIn wsX3_firstFault wsX3_placeAfter := goodIn_r _ [6, 7, 8, 5, 9, 10, 11, 12, 13, 14, 15, 16, 17, 18] (by decide +kernel) (by decide +kernel)
set_option maxRecDepth 20000 in
theorem gX3_firstFault_X3_placeAfter : GoodIn wsX3_firstFault (va_wsS RX3 25 yX3_placeAfter wsX3_placeAfter) := goodIn_app (goodIn_of _ (by decide +kernel)) ggX3_firstFault_X3_placeAfter
theorem dX3_firstFault_0 : decode cX3_firstFault 0 = .ok (.iconst 1, 1) := by decide +kernel
theorem dX3_firstFault_1 : decode cX3_firstFault 1 = .ok (.istore_n 1, 1) := by decide +kernel
theorem dX3_firstFault_2 : decode cX3_firstFault 2 = .ok (.iconst 0, 1) := by decide +kernel
theorem dX3_firstFault_3 : decode cX3_firstFault 3 = .ok (.istore_n 2, 1) := by decide +kernel
theorem dX3_firstFault_4 : decode cX3_firstFault 4 = .ok (.iload_n 2, 1) := by decide +kernel
theorem dX3_firstFault_5 : decode cX3_firstFault 5 = .ok (.aload_n 0, 1) := by decide +kernel
theorem dX3_firstFault_6 : decode cX3_firstFault 6 = .ok (.getfield 15, 3) := by decide +kernel
theorem dX3_firstFault_9 : decode cX3_firstFault 9 = .ok (.if_icmp .ge 26, 3) := by decide +kernel
theorem dX3_firstFault_12 : decode cX3_firstFault 12 = .ok (.iload_n 1, 1) := by decide +kernel
theorem dX3_firstFault_13 : decode cX3_firstFault 13 = .ok (.aload_n 0, 1) := by decide +kernel
theorem dX3_firstFault_14 : decode cX3_firstFault 14 = .ok (.getfield 11, 3) := by decide +kernel
theorem dX3_firstFault_17 : decode cX3_firstFault 17 = .ok (.iload_n 2, 1) := by decide +kernel
theorem dX3_firstFault_18 : decode cX3_firstFault 18 = .ok (.caload, 1) := by decide +kernel
theorem dX3_firstFault_19 : decode cX3_firstFault 19 = .ok (.invokestatic 25, 3) := by decide +kernel
theorem dX3_firstFault_22 : decode cX3_firstFault 22 = .ok (.istore_n 1, 1) := by decide +kernel
theorem dX3_firstFault_23 : decode cX3_firstFault 23 = .ok (.iload_n 1, 1) := by decide +kernel
theorem dX3_firstFault_24 : decode cX3_firstFault 24 = .ok (.ifCond .ne 5, 3) := by decide +kernel
theorem dX3_firstFault_27 : decode cX3_firstFault 27 = .ok (.iload_n 2, 1) := by decide +kernel
theorem dX3_firstFault_28 : decode cX3_firstFault 28 = .ok (.ireturn, 1) := by decide +kernel
theorem dX3_firstFault_29 : decode cX3_firstFault 29 = .ok (.iinc 2 1, 3) := by decide +kernel
theorem dX3_firstFault_32 : decode cX3_firstFault 32 = .ok (.goto (-28), 3) := by decide +kernel
theorem dX3_firstFault_35 : decode cX3_firstFault 35 = .ok (.iload_n 1, 1) := by decide +kernel
theorem dX3_firstFault_36 : decode cX3_firstFault 36 = .ok (.bipush 6, 2) := by decide +kernel
theorem dX3_firstFault_38 : decode cX3_firstFault 38 = .ok (.if_icmp .eq 15, 3) := by decide +kernel
theorem dX3_firstFault_41 : decode cX3_firstFault 41 = .ok (.iload_n 1, 1) := by decide +kernel
theorem dX3_firstFault_42 : decode cX3_firstFault 42 = .ok (.bipush 9, 2) := by decide +kernel
theorem dX3_firstFault_44 : decode cX3_firstFault 44 = .ok (.if_icmp .eq 9, 3) := by decide +kernel
theorem dX3_firstFault_47 : decode cX3_firstFault 47 = .ok (.iload_n 1, 1) := by decide +kernel
theorem dX3_firstFault_48 : decode cX3_firstFault 48 = .ok (.bipush 10, 2) := by decide +kernel
theorem dX3_firstFault_50 : decode cX3_firstFault 50 = .ok (.if_icmp .ne 7, 3) := by decide +kernel
theorem dX3_firstFault_53 : decode cX3_firstFault 53 = .ok (.iconst 1, 1) := by decide +kernel
theorem dX3_firstFault_54 : decode cX3_firstFault 54 = .ok (.goto 4, 3) := by decide +kernel
theorem dX3_firstFault_57 : decode cX3_firstFault 57 = .ok (.iconst 0, 1) := by decide +kernel
theorem dX3_firstFault_58 : decode cX3_firstFault 58 = .ok (.istore_n 2, 1) := by decide +kernel
theorem dX3_firstFault_59 : decode cX3_firstFault 59 = .ok (.iload_n 2, 1) := by decide +kernel
theorem dX3_firstFault_60 : decode cX3_firstFault 60 = .ok (.ifCond .eq 7, 3) := by decide +kernel
theorem dX3_firstFault_63 : decode cX3_firstFault 63 = .ok (.iconst (-1), 1) := by decide +kernel
theorem dX3_firstFault_64 : decode cX3_firstFault 64 = .ok (.goto 7, 3) := by decide +kernel
theorem dX3_firstFault_67 : decode cX3_firstFault 67 = .ok (.aload_n 0, 1) := by decide +kernel
theorem dX3_firstFault_68 : decode cX3_firstFault 68 = .ok (.getfield 15, 3) := by decide +kernel
theorem dX3_firstFault_71 : decode cX3_firstFault 71 = .ok (.ireturn, 1) := by decide +kernel
set_option maxRecDepth 20000 in
theorem ggX3_placeAfter_X3_placeAfterFirst : GoodIn wsX3_placeAfter wsX3_placeAfterFirst := goodIn_r _ [4, 5, 6, 3, 7] (by decide +kernel) (by decide +kernel)
set_option maxRecDepth 20000 in
theorem gX3_placeAfter_X3_placeAfterFirst : GoodIn wsX3_placeAfter (va_wsS RX3 29 yX3_placeAfterFirst wsX3_placeAfterFirst) := goodIn_app (goodIn_of _ (by decide +kernel)) ggX3_placeAfter_X3_placeAfterFirst
set_option maxRecDepth 20000 in
theorem ggX3_placeAfter_X3_isIn : GoodIn wsX3_placeAfter wsX3_isIn := goodIn_r _ [7] (by decide +kernel) (by decide +kernel)
set_option maxRecDepth 20000 in
theorem gX3_placeAfter_X3_isIn : GoodIn wsX3_placeAfter (va_wsS RX3 33 yX3_isIn wsX3_isIn) := goodIn_app (goodIn_of _ (by decide +kernel)) ggX3_placeAfter_X3_isIn
set_option maxRecDepth 20000 in
theorem ggX3_placeAfter_X3_placeAfterColumn : GoodIn wsX3_placeAfter wsX3_placeAfterColumn := goodIn_r _ [10] (by decide +kernel) (by decide +kernel)
set_option maxRecDepth 20000 in
theorem gX3_placeAfter_X3_placeAfterColumn : GoodIn wsX3_placeAfter (va_wsS RX3 37 yX3_placeAfterColumn wsX3_placeAfterColumn) := goodIn_app (goodIn_of _ (by decide +kernel)) ggX3_placeAfter_X3_placeAfterColumn
set_option maxRecDepth 20000 in
theorem ggX3_placeAfter_X3_placeAfterPart : GoodIn wsX3_placeAfter wsX3_placeAfterPart := goodIn_r _ [13] (by decide +kernel) (by decide +kernel)
set_option maxRecDepth 20000 in
theorem gX3_placeAfter_X3_placeAfterPart : GoodIn wsX3_placeAfter (va_wsS RX3 40 yX3_placeAfterPart wsX3_placeAfterPart) := goodIn_app (goodIn_of _ (by decide +kernel)) ggX3_placeAfter_X3_placeAfterPart
theorem dX3_placeAfter_0 : decode cX3_placeAfter 0 = .ok (.iload_n 0, 1) := by decide +kernel
theorem dX3_placeAfter_1 : decode cX3_placeAfter 1 = .ok (.tableswitch 206 1 10 #[55, 60, 80, 100, 105, 123, 144, 162, 180, 201], 55) := by decide +kernel
theorem dX3_placeAfter_56 : decode cX3_placeAfter 56 = .ok (.iload_n 1, 1) := by decide +kernel
theorem dX3_placeAfter_57 : decode cX3_placeAfter 57 = .ok (.invokestatic 29, 3) := by decide +kernel
theorem dX3_placeAfter_60 : decode cX3_placeAfter 60 = .ok (.ireturn, 1) := by decide +kernel
theorem dX3_placeAfter_61 : decode cX3_placeAfter 61 = .ok (.iload_n 1, 1) := by decide +kernel
theorem dX3_placeAfter_62 : decode cX3_placeAfter 62 = .ok (.bipush 48, 2) := by decide +kernel
theorem dX3_placeAfter_64 : decode cX3_placeAfter 64 = .ok (.bipush 57, 2) := by decide +kernel
theorem dX3_placeAfter_66 : decode cX3_placeAfter 66 = .ok (.invokestatic 33, 3) := by decide +kernel
theorem dX3_placeAfter_69 : decode cX3_placeAfter 69 = .ok (.ifCond .eq 7, 3) := by decide +kernel
theorem dX3_placeAfter_72 : decode cX3_placeAfter 72 = .ok (.iconst 4, 1) := by decide +kernel
theorem dX3_placeAfter_73 : decode cX3_placeAfter 73 = .ok (.goto 7, 3) := by decide +kernel
theorem dX3_placeAfter_76 : decode cX3_placeAfter 76 = .ok (.iload_n 1, 1) := by decide +kernel
theorem dX3_placeAfter_77 : decode cX3_placeAfter 77 = .ok (.invokestatic 37, 3) := by decide +kernel
theorem dX3_placeAfter_80 : decode cX3_placeAfter 80 = .ok (.ireturn, 1) := by decide +kernel
theorem dX3_placeAfter_81 : decode cX3_placeAfter 81 = .ok (.iload_n 1, 1) := by decide +kernel
theorem dX3_placeAfter_82 : decode cX3_placeAfter 82 = .ok (.bipush 48, 2) := by decide +kernel
theorem dX3_placeAfter_84 : decode cX3_placeAfter 84 = .ok (.bipush 49, 2) := by decide +kernel
theorem dX3_placeAfter_86 : decode cX3_placeAfter 86 = .ok (.invokestatic 33, 3) := by decide +kernel
theorem dX3_placeAfter_89 : decode cX3_placeAfter 89 = .ok (.ifCond .eq 7, 3) := by decide +kernel
theorem dX3_placeAfter_92 : decode cX3_placeAfter 92 = .ok (.iconst 4, 1) := by decide +kernel
theorem dX3_placeAfter_93 : decode cX3_placeAfter 93 = .ok (.goto 7, 3) := by decide +kernel
theorem dX3_placeAfter_96 : decode cX3_placeAfter 96 = .ok (.iload_n 1, 1) := by decide +kernel
theorem dX3_placeAfter_97 : decode cX3_placeAfter 97 = .ok (.invokestatic 37, 3) := by decide +kernel
theorem dX3_placeAfter_100 : decode cX3_placeAfter 100 = .ok (.ireturn, 1) := by decide +kernel
theorem dX3_placeAfter_101 : decode cX3_placeAfter 101 = .ok (.iload_n 1, 1) := by decide +kernel
theorem dX3_placeAfter_102 : decode cX3_placeAfter 102 = .ok (.invokestatic 37, 3) := by decide +kernel
theorem dX3_placeAfter_105 : decode cX3_placeAfter 105 = .ok (.ireturn, 1) := by decide +kernel
theorem dX3_placeAfter_106 : decode cX3_placeAfter 106 = .ok (.iload_n 1, 1) := by decide +kernel
theorem dX3_placeAfter_107 : decode cX3_placeAfter 107 = .ok (.bipush 48, 2) := by decide +kernel
theorem dX3_placeAfter_109 : decode cX3_placeAfter 109 = .ok (.bipush 57, 2) := by decide +kernel
theorem dX3_placeAfter_111 : decode cX3_placeAfter 111 = .ok (.invokestatic 33, 3) := by decide +kernel
theorem dX3_placeAfter_114 : decode cX3_placeAfter 114 = .ok (.ifCond .eq 8, 3) := by decide +kernel
theorem dX3_placeAfter_117 : decode cX3_placeAfter 117 = .ok (.bipush 6, 2) := by decide +kernel
theorem dX3_placeAfter_119 : decode cX3_placeAfter 119 = .ok (.goto 4, 3) := by decide +kernel
theorem dX3_placeAfter_122 : decode cX3_placeAfter 122 = .ok (.iconst 0, 1) := by decide +kernel
theorem dX3_placeAfter_123 : decode cX3_placeAfter 123 = .ok (.ireturn, 1) := by decide +kernel
theorem dX3_placeAfter_124 : decode cX3_placeAfter 124 = .ok (.iload_n 1, 1) := by decide +kernel
theorem dX3_placeAfter_125 : decode cX3_placeAfter 125 = .ok (.bipush 48, 2) := by decide +kernel
theorem dX3_placeAfter_127 : decode cX3_placeAfter 127 = .ok (.bipush 57, 2) := by decide +kernel
theorem dX3_placeAfter_129 : decode cX3_placeAfter 129 = .ok (.invokestatic 33, 3) := by decide +kernel
theorem dX3_placeAfter_132 : decode cX3_placeAfter 132 = .ok (.ifCond .eq 8, 3) := by decide +kernel
theorem dX3_placeAfter_135 : decode cX3_placeAfter 135 = .ok (.bipush 6, 2) := by decide +kernel
theorem dX3_placeAfter_137 : decode cX3_placeAfter 137 = .ok (.goto 7, 3) := by decide +kernel
theorem dX3_placeAfter_140 : decode cX3_placeAfter 140 = .ok (.iload_n 1, 1) := by decide +kernel
theorem dX3_placeAfter_141 : decode cX3_placeAfter 141 = .ok (.invokestatic 40, 3) := by decide +kernel
theorem dX3_placeAfter_144 : decode cX3_placeAfter 144 = .ok (.ireturn, 1) := by decide +kernel
theorem dX3_placeAfter_145 : decode cX3_placeAfter 145 = .ok (.iload_n 1, 1) := by decide +kernel
theorem dX3_placeAfter_146 : decode cX3_placeAfter 146 = .ok (.bipush 48, 2) := by decide +kernel
theorem dX3_placeAfter_148 : decode cX3_placeAfter 148 = .ok (.bipush 51, 2) := by decide +kernel
theorem dX3_placeAfter_150 : decode cX3_placeAfter 150 = .ok (.invokestatic 33, 3) := by decide +kernel
theorem dX3_placeAfter_153 : decode cX3_placeAfter 153 = .ok (.ifCond .eq 8, 3) := by decide +kernel
theorem dX3_placeAfter_156 : decode cX3_placeAfter 156 = .ok (.bipush 8, 2) := by decide +kernel
theorem dX3_placeAfter_158 : decode cX3_placeAfter 158 = .ok (.goto 4, 3) := by decide +kernel
theorem dX3_placeAfter_161 : decode cX3_placeAfter 161 = .ok (.iconst 0, 1) := by decide +kernel
theorem dX3_placeAfter_162 : decode cX3_placeAfter 162 = .ok (.ireturn, 1) := by decide +kernel
theorem dX3_placeAfter_163 : decode cX3_placeAfter 163 = .ok (.iload_n 1, 1) := by decide +kernel
theorem dX3_placeAfter_164 : decode cX3_placeAfter 164 = .ok (.bipush 49, 2) := by decide +kernel
theorem dX3_placeAfter_166 : decode cX3_placeAfter 166 = .ok (.bipush 57, 2) := by decide +kernel
theorem dX3_placeAfter_168 : decode cX3_placeAfter 168 = .ok (.invokestatic 33, 3) := by decide +kernel
theorem dX3_placeAfter_171 : decode cX3_placeAfter 171 = .ok (.ifCond .eq 8, 3) := by decide +kernel
theorem dX3_placeAfter_174 : decode cX3_placeAfter 174 = .ok (.bipush 10, 2) := by decide +kernel
theorem dX3_placeAfter_176 : decode cX3_placeAfter 176 = .ok (.goto 4, 3) := by decide +kernel
theorem dX3_placeAfter_179 : decode cX3_placeAfter 179 = .ok (.iconst 0, 1) := by decide +kernel
theorem dX3_placeAfter_180 : decode cX3_placeAfter 180 = .ok (.ireturn, 1) := by decide +kernel
theorem dX3_placeAfter_181 : decode cX3_placeAfter 181 = .ok (.iload_n 1, 1) := by decide +kernel
theorem dX3_placeAfter_182 : decode cX3_placeAfter 182 = .ok (.bipush 50, 2) := by decide +kernel
theorem dX3_placeAfter_184 : decode cX3_placeAfter 184 = .ok (.bipush 57, 2) := by decide +kernel
theorem dX3_placeAfter_186 : decode cX3_placeAfter 186 = .ok (.invokestatic 33, 3) := by decide +kernel
theorem dX3_placeAfter_189 : decode cX3_placeAfter 189 = .ok (.ifCond .eq 8, 3) := by decide +kernel
theorem dX3_placeAfter_192 : decode cX3_placeAfter 192 = .ok (.bipush 10, 2) := by decide +kernel
theorem dX3_placeAfter_194 : decode cX3_placeAfter 194 = .ok (.goto 7, 3) := by decide +kernel
theorem dX3_placeAfter_197 : decode cX3_placeAfter 197 = .ok (.iload_n 1, 1) := by decide +kernel
theorem dX3_placeAfter_198 : decode cX3_placeAfter 198 = .ok (.invokestatic 40, 3) := by decide +kernel
theorem dX3_placeAfter_201 : decode cX3_placeAfter 201 = .ok (.ireturn, 1) := by decide +kernel
theorem dX3_placeAfter_202 : decode cX3_placeAfter 202 = .ok (.iload_n 1, 1) := by decide +kernel
theorem dX3_placeAfter_203 : decode cX3_placeAfter 203 = .ok (.invokestatic 40, 3) := by decide +kernel
theorem dX3_placeAfter_206 : decode cX3_placeAfter 206 = .ok (.ireturn, 1) := by decide +kernel
theorem dX3_placeAfter_207 : decode cX3_placeAfter 207 = .ok (.iconst 0, 1) := by decide +kernel
theorem dX3_placeAfter_208 : decode cX3_placeAfter 208 = .ok (.ireturn, 1) := by decide +kernel
set_option maxRecDepth 20000 in
theorem ggX3_placeAfterFirst_X3_isIn : GoodIn wsX3_placeAfterFirst wsX3_isIn := goodIn_r _ [4] (by decide +kernel) (by decide +kernel)
set_option maxRecDepth 20000 in
theorem gX3_placeAfterFirst_X3_isIn : GoodIn wsX3_placeAfterFirst (va_wsS RX3 33 yX3_isIn wsX3_isIn) := goodIn_app (goodIn_of _ (by decide +kernel)) ggX3_placeAfterFirst_X3_isIn
theorem dX3_placeAfterFirst_0 : decode cX3_placeAfterFirst 0 = .ok (.iload_n 0, 1) := by decide +kernel
theorem dX3_placeAfterFirst_1 : decode cX3_placeAfterFirst 1 = .ok (.bipush 116, 2) := by decide +kernel
theorem dX3_placeAfterFirst_3 : decode cX3_placeAfterFirst 3 = .ok (.if_icmp .ne 6, 3) := by decide +kernel
theorem dX3_placeAfterFirst_6 : decode cX3_placeAfterFirst 6 = .ok (.bipush 7, 2) := by decide +kernel
theorem dX3_placeAfterFirst_8 : decode cX3_placeAfterFirst 8 = .ok (.ireturn, 1) := by decide +kernel
theorem dX3_placeAfterFirst_9 : decode cX3_placeAfterFirst 9 = .ok (.iload_n 0, 1) := by decide +kernel
theorem dX3_placeAfterFirst_10 : decode cX3_placeAfterFirst 10 = .ok (.bipush 46, 2) := by decide +kernel
theorem dX3_placeAfterFirst_12 : decode cX3_placeAfterFirst 12 = .ok (.if_icmp .ne 6, 3) := by decide +kernel
theorem dX3_placeAfterFirst_15 : decode cX3_placeAfterFirst 15 = .ok (.bipush 9, 2) := by decide +kernel
theorem dX3_placeAfterFirst_17 : decode cX3_placeAfterFirst 17 = .ok (.ireturn, 1) := by decide +kernel
theorem dX3_placeAfterFirst_18 : decode cX3_placeAfterFirst 18 = .ok (.iload_n 0, 1) := by decide +kernel
theorem dX3_placeAfterFirst_19 : decode cX3_placeAfterFirst 19 = .ok (.bipush 51, 2) := by decide +kernel
theorem dX3_placeAfterFirst_21 : decode cX3_placeAfterFirst 21 = .ok (.if_icmp .ne 5, 3) := by decide +kernel
theorem dX3_placeAfterFirst_24 : decode cX3_placeAfterFirst 24 = .ok (.iconst 3, 1) := by decide +kernel
theorem dX3_placeAfterFirst_25 : decode cX3_placeAfterFirst 25 = .ok (.ireturn, 1) := by decide +kernel
theorem dX3_placeAfterFirst_26 : decode cX3_placeAfterFirst 26 = .ok (.iload_n 0, 1) := by decide +kernel
theorem dX3_placeAfterFirst_27 : decode cX3_placeAfterFirst 27 = .ok (.bipush 49, 2) := by decide +kernel
theorem dX3_placeAfterFirst_29 : decode cX3_placeAfterFirst 29 = .ok (.bipush 50, 2) := by decide +kernel
theorem dX3_placeAfterFirst_31 : decode cX3_placeAfterFirst 31 = .ok (.invokestatic 33, 3) := by decide +kernel
theorem dX3_placeAfterFirst_34 : decode cX3_placeAfterFirst 34 = .ok (.ifCond .eq 5, 3) := by decide +kernel
theorem dX3_placeAfterFirst_37 : decode cX3_placeAfterFirst 37 = .ok (.iconst 2, 1) := by decide +kernel
theorem dX3_placeAfterFirst_38 : decode cX3_placeAfterFirst 38 = .ok (.ireturn, 1) := by decide +kernel
theorem dX3_placeAfterFirst_39 : decode cX3_placeAfterFirst 39 = .ok (.iload_n 0, 1) := by decide +kernel
theorem dX3_placeAfterFirst_40 : decode cX3_placeAfterFirst 40 = .ok (.bipush 48, 2) := by decide +kernel
theorem dX3_placeAfterFirst_42 : decode cX3_placeAfterFirst 42 = .ok (.bipush 57, 2) := by decide +kernel
theorem dX3_placeAfterFirst_44 : decode cX3_placeAfterFirst 44 = .ok (.invokestatic 33, 3) := by decide +kernel
theorem dX3_placeAfterFirst_47 : decode cX3_placeAfterFirst 47 = .ok (.ifCond .eq 7, 3) := by decide +kernel
theorem dX3_placeAfterFirst_50 : decode cX3_placeAfterFirst 50 = .ok (.iconst 4, 1) := by decide +kernel
theorem dX3_placeAfterFirst_51 : decode cX3_placeAfterFirst 51 = .ok (.goto 4, 3) := by decide +kernel
theorem dX3_placeAfterFirst_54 : decode cX3_placeAfterFirst 54 = .ok (.iconst 0, 1) := by decide +kernel
theorem dX3_placeAfterFirst_55 : decode cX3_placeAfterFirst 55 = .ok (.ireturn, 1) := by decide +kernel
theorem dX3_placeAfterColumn_0 : decode cX3_placeAfterColumn 0 = .ok (.iload_n 0, 1) := by decide +kernel
theorem dX3_placeAfterColumn_1 : decode cX3_placeAfterColumn 1 = .ok (.bipush 58, 2) := by decide +kernel
theorem dX3_placeAfterColumn_3 : decode cX3_placeAfterColumn 3 = .ok (.if_icmp .ne 7, 3) := by decide +kernel
theorem dX3_placeAfterColumn_6 : decode cX3_placeAfterColumn 6 = .ok (.iconst 5, 1) := by decide +kernel
theorem dX3_placeAfterColumn_7 : decode cX3_placeAfterColumn 7 = .ok (.goto 4, 3) := by decide +kernel
theorem dX3_placeAfterColumn_10 : decode cX3_placeAfterColumn 10 = .ok (.iconst 0, 1) := by decide +kernel
theorem dX3_placeAfterColumn_11 : decode cX3_placeAfterColumn 11 = .ok (.ireturn, 1) := by decide +kernel
theorem dX3_placeAfterPart_0 : decode cX3_placeAfterPart 0 = .ok (.iload_n 0, 1) := by decide +kernel
theorem dX3_placeAfterPart_1 : decode cX3_placeAfterPart 1 = .ok (.bipush 59, 2) := by decide +kernel
theorem dX3_placeAfterPart_3 : decode cX3_placeAfterPart 3 = .ok (.if_icmp .ne 7, 3) := by decide +kernel
theorem dX3_placeAfterPart_6 : decode cX3_placeAfterPart 6 = .ok (.iconst 1, 1) := by decide +kernel
theorem dX3_placeAfterPart_7 : decode cX3_placeAfterPart 7 = .ok (.goto 4, 3) := by decide +kernel
theorem dX3_placeAfterPart_10 : decode cX3_placeAfterPart 10 = .ok (.iconst 0, 1) := by decide +kernel
theorem dX3_placeAfterPart_11 : decode cX3_placeAfterPart 11 = .ok (.ireturn, 1) := by decide +kernel
theorem dX3_isIn_0 : decode cX3_isIn 0 = .ok (.iload_n 0, 1) := by decide +kernel
theorem dX3_isIn_1 : decode cX3_isIn 1 = .ok (.iload_n 1, 1) := by decide +kernel
theorem dX3_isIn_2 : decode cX3_isIn 2 = .ok (.if_icmp .lt 12, 3) := by decide +kernel
theorem dX3_isIn_5 : decode cX3_isIn 5 = .ok (.iload_n 0, 1) := by decide +kernel
theorem dX3_isIn_6 : decode cX3_isIn 6 = .ok (.iload_n 2, 1) := by decide +kernel
theorem dX3_isIn_7 : decode cX3_isIn 7 = .ok (.if_icmp .gt 7, 3) := by decide +kernel
theorem dX3_isIn_10 : decode cX3_isIn 10 = .ok (.iconst 1, 1) := by decide +kernel
theorem dX3_isIn_11 : decode cX3_isIn 11 = .ok (.goto 4, 3) := by decide +kernel
theorem dX3_isIn_14 : decode cX3_isIn 14 = .ok (.iconst 0, 1) := by decide +kernel
theorem dX3_isIn_15 : decode cX3_isIn 15 = .ok (.ireturn, 1) := by decide +kernel
set_option maxRecDepth 20000 in
theorem ggX3_colonFrom_X3_at : GoodIn wsX3_colonFrom wsX3_at := goodIn_r _ [6, 1, 7, 8, 9] (by decide +kernel) (by decide +kernel)
set_option maxRecDepth 20000 in
theorem gX3_colonFrom_X3_at : GoodIn wsX3_colonFrom (wsV RX3 43 RX3 yX3_at wsX3_at) := goodIn_app (goodIn_of _ (by decide +kernel)) ggX3_colonFrom_X3_at
theorem dX3_colonFrom_0 : decode cX3_colonFrom 0 = .ok (.iload_n 1, 1) := by decide +kernel
theorem dX3_colonFrom_1 : decode cX3_colonFrom 1 = .ok (.istore_n 2, 1) := by decide +kernel
theorem dX3_colonFrom_2 : decode cX3_colonFrom 2 = .ok (.iload_n 2, 1) := by decide +kernel
theorem dX3_colonFrom_3 : decode cX3_colonFrom 3 = .ok (.aload_n 0, 1) := by decide +kernel
theorem dX3_colonFrom_4 : decode cX3_colonFrom 4 = .ok (.getfield 15, 3) := by decide +kernel
theorem dX3_colonFrom_7 : decode cX3_colonFrom 7 = .ok (.if_icmp .ge 21, 3) := by decide +kernel
theorem dX3_colonFrom_10 : decode cX3_colonFrom 10 = .ok (.aload_n 0, 1) := by decide +kernel
theorem dX3_colonFrom_11 : decode cX3_colonFrom 11 = .ok (.iload_n 2, 1) := by decide +kernel
theorem dX3_colonFrom_12 : decode cX3_colonFrom 12 = .ok (.invokevirtual 43, 3) := by decide +kernel
theorem dX3_colonFrom_15 : decode cX3_colonFrom 15 = .ok (.bipush 58, 2) := by decide +kernel
theorem dX3_colonFrom_17 : decode cX3_colonFrom 17 = .ok (.if_icmp .ne 5, 3) := by decide +kernel
theorem dX3_colonFrom_20 : decode cX3_colonFrom 20 = .ok (.iload_n 2, 1) := by decide +kernel
theorem dX3_colonFrom_21 : decode cX3_colonFrom 21 = .ok (.ireturn, 1) := by decide +kernel
theorem dX3_colonFrom_22 : decode cX3_colonFrom 22 = .ok (.iinc 2 1, 3) := by decide +kernel
theorem dX3_colonFrom_25 : decode cX3_colonFrom 25 = .ok (.goto (-23), 3) := by decide +kernel
theorem dX3_colonFrom_28 : decode cX3_colonFrom 28 = .ok (.aload_n 0, 1) := by decide +kernel
theorem dX3_colonFrom_29 : decode cX3_colonFrom 29 = .ok (.getfield 15, 3) := by decide +kernel
theorem dX3_colonFrom_32 : decode cX3_colonFrom 32 = .ok (.ireturn, 1) := by decide +kernel
theorem dX3_at_0 : decode cX3_at 0 = .ok (.iload_n 1, 1) := by decide +kernel
theorem dX3_at_1 : decode cX3_at 1 = .ok (.ifCond .lt 20, 3) := by decide +kernel
theorem dX3_at_4 : decode cX3_at 4 = .ok (.iload_n 1, 1) := by decide +kernel
theorem dX3_at_5 : decode cX3_at 5 = .ok (.aload_n 0, 1) := by decide +kernel
theorem dX3_at_6 : decode cX3_at 6 = .ok (.getfield 15, 3) := by decide +kernel
theorem dX3_at_9 : decode cX3_at 9 = .ok (.if_icmp .ge 12, 3) := by decide +kernel
theorem dX3_at_12 : decode cX3_at 12 = .ok (.aload_n 0, 1) := by decide +kernel
theorem dX3_at_13 : decode cX3_at 13 = .ok (.getfield 11, 3) := by decide +kernel
theorem dX3_at_16 : decode cX3_at 16 = .ok (.iload_n 1, 1) := by decide +kernel
theorem dX3_at_17 : decode cX3_at 17 = .ok (.caload, 1) := by decide +kernel
theorem dX3_at_18 : decode cX3_at 18 = .ok (.goto 4, 3) := by decide +kernel
theorem dX3_at_21 : decode cX3_at 21 = .ok (.iconst 0, 1) := by decide +kernel
theorem dX3_at_22 : decode cX3_at 22 = .ok (.ireturn, 1) := by decide +kernel
set_option maxRecDepth 20000 in
theorem ggX3_digitAt_X3_at : GoodIn wsX3_digitAt wsX3_at := goodIn_r _ [5, 6, 7, 8, 9] (by decide +kernel) (by decide +kernel)
set_option maxRecDepth 20000 in
theorem gX3_digitAt_X3_at : GoodIn wsX3_digitAt (wsV RX3 43 RX3 yX3_at wsX3_at) := goodIn_app (goodIn_of _ (by decide +kernel)) ggX3_digitAt_X3_at
theorem dX3_digitAt_0 : decode cX3_digitAt 0 = .ok (.aload_n 0, 1) := by decide +kernel
theorem dX3_digitAt_1 : decode cX3_digitAt 1 = .ok (.iload_n 1, 1) := by decide +kernel
theorem dX3_digitAt_2 : decode cX3_digitAt 2 = .ok (.invokevirtual 43, 3) := by decide +kernel
theorem dX3_digitAt_5 : decode cX3_digitAt 5 = .ok (.bipush 48, 2) := by decide +kernel
theorem dX3_digitAt_7 : decode cX3_digitAt 7 = .ok (.isub, 1) := by decide +kernel
theorem dX3_digitAt_8 : decode cX3_digitAt 8 = .ok (.ireturn, 1) := by decide +kernel
set_option maxRecDepth 20000 in
theorem ggX3_numberIn_X3_digitAt : GoodIn wsX3_numberIn wsX3_digitAt := goodIn_r _ [5, 6, 7, 8, 4, 9, 10, 11, 12, 13] (by decide +kernel) (by decide +kernel)
set_option maxRecDepth 20000 in
theorem gX3_numberIn_X3_digitAt : GoodIn wsX3_numberIn (wsV RX3 47 RX3 yX3_digitAt wsX3_digitAt) := goodIn_app (goodIn_of _ (by decide +kernel)) ggX3_numberIn_X3_digitAt
theorem dX3_numberIn_0 : decode cX3_numberIn 0 = .ok (.iconst 0, 1) := by decide +kernel
theorem dX3_numberIn_1 : decode cX3_numberIn 1 = .ok (.istore_n 3, 1) := by decide +kernel
theorem dX3_numberIn_2 : decode cX3_numberIn 2 = .ok (.iload_n 1, 1) := by decide +kernel
theorem dX3_numberIn_3 : decode cX3_numberIn 3 = .ok (.istore 4, 2) := by decide +kernel
theorem dX3_numberIn_5 : decode cX3_numberIn 5 = .ok (.iload 4, 2) := by decide +kernel
theorem dX3_numberIn_7 : decode cX3_numberIn 7 = .ok (.iload_n 2, 1) := by decide +kernel
theorem dX3_numberIn_8 : decode cX3_numberIn 8 = .ok (.if_icmp .ge 21, 3) := by decide +kernel
theorem dX3_numberIn_11 : decode cX3_numberIn 11 = .ok (.bipush 10, 2) := by decide +kernel
theorem dX3_numberIn_13 : decode cX3_numberIn 13 = .ok (.iload_n 3, 1) := by decide +kernel
theorem dX3_numberIn_14 : decode cX3_numberIn 14 = .ok (.imul, 1) := by decide +kernel
theorem dX3_numberIn_15 : decode cX3_numberIn 15 = .ok (.aload_n 0, 1) := by decide +kernel
theorem dX3_numberIn_16 : decode cX3_numberIn 16 = .ok (.iload 4, 2) := by decide +kernel
theorem dX3_numberIn_18 : decode cX3_numberIn 18 = .ok (.invokevirtual 47, 3) := by decide +kernel
theorem dX3_numberIn_21 : decode cX3_numberIn 21 = .ok (.iadd, 1) := by decide +kernel
theorem dX3_numberIn_22 : decode cX3_numberIn 22 = .ok (.istore_n 3, 1) := by decide +kernel
theorem dX3_numberIn_23 : decode cX3_numberIn 23 = .ok (.iinc 4 1, 3) := by decide +kernel
theorem dX3_numberIn_26 : decode cX3_numberIn 26 = .ok (.goto (-21), 3) := by decide +kernel
theorem dX3_numberIn_29 : decode cX3_numberIn 29 = .ok (.iload_n 3, 1) := by decide +kernel
theorem dX3_numberIn_30 : decode cX3_numberIn 30 = .ok (.ireturn, 1) := by decide +kernel
set_option maxRecDepth 20000 in
theorem ggX4_init_X1_init : GoodIn wsX4_init wsX1_init := goodIn_r _ [12, 13, 2, 3, 4, 14, 15, 16, 17, 18, 21] (by decide +kernel) (by decide +kernel)
set_option maxRecDepth 20000 in
theorem gX4_init_X1_init : GoodIn wsX4_init (wsX1_init) := ggX4_init_X1_init
theorem dX4_init_0 : decode cX4_init 0 = .ok (.aload_n 0, 1) := by decide +kernel
theorem dX4_init_1 : decode cX4_init 1 = .ok (.invokespecial 3, 3) := by decide +kernel
theorem dX4_init_4 : decode cX4_init 4 = .ok (.aload_n 0, 1) := by decide +kernel
theorem dX4_init_5 : decode cX4_init 5 = .ok (.bipush 32, 2) := by decide +kernel
theorem dX4_init_7 : decode cX4_init 7 = .ok (.newarray .int, 2) := by decide +kernel
theorem dX4_init_9 : decode cX4_init 9 = .ok (.putfield 9, 3) := by decide +kernel
theorem dX4_init_12 : decode cX4_init 12 = .ok (.aload_n 0, 1) := by decide +kernel
theorem dX4_init_13 : decode cX4_init 13 = .ok (.new 15, 3) := by decide +kernel
theorem dX4_init_16 : decode cX4_init 16 = .ok (.dup, 1) := by decide +kernel
theorem dX4_init_17 : decode cX4_init 17 = .ok (.invokespecial 17, 3) := by decide +kernel
theorem dX4_init_20 : decode cX4_init 20 = .ok (.putfield 18, 3) := by decide +kernel
theorem dX4_init_23 : decode cX4_init 23 = .ok (.return_, 1) := by decide +kernel
set_option maxRecDepth 20000 in
theorem ggX4_play_X1_allBack : GoodIn wsX4_play wsX1_allBack := goodIn_r _ [9, 10, 11, 12, 13, 14, 53] (by decide +kernel) (by decide +kernel)
set_option maxRecDepth 20000 in
theorem gX4_play_X1_allBack : GoodIn wsX4_play (wsV RX4 22 RX1 yX1_allBack wsX1_allBack) := goodIn_app (goodIn_of _ (by decide +kernel)) ggX4_play_X1_allBack
set_option maxRecDepth 20000 in
theorem ggX4_play_X1_heardOutOf : GoodIn wsX4_play wsX1_heardOutOf := goodIn_r _ [18, 19, 20, 21, 22, 23, 24, 8, 25, 10, 53] (by decide +kernel) (by decide +kernel)
set_option maxRecDepth 20000 in
theorem gX4_play_X1_heardOutOf : GoodIn wsX4_play (wsV RX4 33 RX1 yX1_heardOutOf wsX1_heardOutOf) := goodIn_app (goodIn_of _ (by decide +kernel)) ggX4_play_X1_heardOutOf
set_option maxRecDepth 20000 in
theorem ggX4_play_X1_swing : GoodIn wsX4_play wsX1_swing := goodIn_r _ [29, 10, 30, 31, 32, 33, 19, 20, 21, 53] (by decide +kernel) (by decide +kernel)
set_option maxRecDepth 20000 in
theorem gX4_play_X1_swing : GoodIn wsX4_play (wsV RX4 37 RX1 yX1_swing wsX1_swing) := goodIn_app (goodIn_of _ (by decide +kernel)) ggX4_play_X1_swing
set_option maxRecDepth 20000 in
theorem ggX4_play_J6_bitCount_0f7a4 : GoodIn wsX4_play wsJ6_bitCount_0f7a4 := goodIn_r _ [37, 38, 39, 40] (by decide +kernel) (by decide +kernel)
set_option maxRecDepth 20000 in
theorem gX4_play_J6_bitCount_0f7a4 : GoodIn wsX4_play (va_wsS RX4 41 yJ6_bitCount_0f7a4 wsJ6_bitCount_0f7a4) := goodIn_app (goodIn_of _ (by decide +kernel)) ggX4_play_J6_bitCount_0f7a4
theorem dX4_play_0 : decode cX4_play 0 = .ok (.aload_n 0, 1) := by decide +kernel
theorem dX4_play_1 : decode cX4_play 1 = .ok (.getfield 18, 3) := by decide +kernel
theorem dX4_play_4 : decode cX4_play 4 = .ok (.invokevirtual 22, 3) := by decide +kernel
theorem dX4_play_7 : decode cX4_play 7 = .ok (.iconst 0, 1) := by decide +kernel
theorem dX4_play_8 : decode cX4_play 8 = .ok (.istore_n 3, 1) := by decide +kernel
theorem dX4_play_9 : decode cX4_play 9 = .ok (.iconst 0, 1) := by decide +kernel
theorem dX4_play_10 : decode cX4_play 10 = .ok (.istore 4, 2) := by decide +kernel
theorem dX4_play_12 : decode cX4_play 12 = .ok (.iload 4, 2) := by decide +kernel
theorem dX4_play_14 : decode cX4_play 14 = .ok (.bipush 32, 2) := by decide +kernel
theorem dX4_play_16 : decode cX4_play 16 = .ok (.if_icmp .ge 56, 3) := by decide +kernel
theorem dX4_play_19 : decode cX4_play 19 = .ok (.aload_n 0, 1) := by decide +kernel
theorem dX4_play_20 : decode cX4_play 20 = .ok (.getfield 18, 3) := by decide +kernel
theorem dX4_play_23 : decode cX4_play 23 = .ok (.aload_n 1, 1) := by decide +kernel
theorem dX4_play_24 : decode cX4_play 24 = .ok (.getfield 25, 3) := by decide +kernel
theorem dX4_play_27 : decode cX4_play 27 = .ok (.iload 4, 2) := by decide +kernel
theorem dX4_play_29 : decode cX4_play 29 = .ok (.iaload, 1) := by decide +kernel
theorem dX4_play_30 : decode cX4_play 30 = .ok (.aload_n 1, 1) := by decide +kernel
theorem dX4_play_31 : decode cX4_play 31 = .ok (.getfield 30, 3) := by decide +kernel
theorem dX4_play_34 : decode cX4_play 34 = .ok (.iload_n 2, 1) := by decide +kernel
theorem dX4_play_35 : decode cX4_play 35 = .ok (.invokevirtual 33, 3) := by decide +kernel
theorem dX4_play_38 : decode cX4_play 38 = .ok (.istore 5, 2) := by decide +kernel
theorem dX4_play_40 : decode cX4_play 40 = .ok (.aload_n 0, 1) := by decide +kernel
theorem dX4_play_41 : decode cX4_play 41 = .ok (.getfield 18, 3) := by decide +kernel
theorem dX4_play_44 : decode cX4_play 44 = .ok (.iload 5, 2) := by decide +kernel
theorem dX4_play_46 : decode cX4_play 46 = .ok (.invokevirtual 37, 3) := by decide +kernel
theorem dX4_play_49 : decode cX4_play 49 = .ok (.aload_n 0, 1) := by decide +kernel
theorem dX4_play_50 : decode cX4_play 50 = .ok (.getfield 9, 3) := by decide +kernel
theorem dX4_play_53 : decode cX4_play 53 = .ok (.iload 4, 2) := by decide +kernel
theorem dX4_play_55 : decode cX4_play 55 = .ok (.iload 5, 2) := by decide +kernel
theorem dX4_play_57 : decode cX4_play 57 = .ok (.iastore, 1) := by decide +kernel
theorem dX4_play_58 : decode cX4_play 58 = .ok (.iload_n 3, 1) := by decide +kernel
theorem dX4_play_59 : decode cX4_play 59 = .ok (.iload 5, 2) := by decide +kernel
theorem dX4_play_61 : decode cX4_play 61 = .ok (.invokestatic 41, 3) := by decide +kernel
theorem dX4_play_64 : decode cX4_play 64 = .ok (.iadd, 1) := by decide +kernel
theorem dX4_play_65 : decode cX4_play 65 = .ok (.istore_n 3, 1) := by decide +kernel
theorem dX4_play_66 : decode cX4_play 66 = .ok (.iinc 4 1, 3) := by decide +kernel
theorem dX4_play_69 : decode cX4_play 69 = .ok (.goto (-57), 3) := by decide +kernel
theorem dX4_play_72 : decode cX4_play 72 = .ok (.iload_n 3, 1) := by decide +kernel
theorem dX4_play_73 : decode cX4_play 73 = .ok (.ireturn, 1) := by decide +kernel
set_option maxRecDepth 20000 in
theorem ggX4_sumOfColumns_J6_bitCount_0f7a4 : GoodIn wsX4_sumOfColumns wsJ6_bitCount_0f7a4 := goodIn_r _ [5, 6, 7, 8] (by decide +kernel) (by decide +kernel)
set_option maxRecDepth 20000 in
theorem gX4_sumOfColumns_J6_bitCount_0f7a4 : GoodIn wsX4_sumOfColumns (va_wsS RX4 41 yJ6_bitCount_0f7a4 wsJ6_bitCount_0f7a4) := goodIn_app (goodIn_of _ (by decide +kernel)) ggX4_sumOfColumns_J6_bitCount_0f7a4
theorem dX4_sumOfColumns_0 : decode cX4_sumOfColumns 0 = .ok (.iconst 0, 1) := by decide +kernel
theorem dX4_sumOfColumns_1 : decode cX4_sumOfColumns 1 = .ok (.istore_n 1, 1) := by decide +kernel
theorem dX4_sumOfColumns_2 : decode cX4_sumOfColumns 2 = .ok (.iconst 0, 1) := by decide +kernel
theorem dX4_sumOfColumns_3 : decode cX4_sumOfColumns 3 = .ok (.istore_n 2, 1) := by decide +kernel
theorem dX4_sumOfColumns_4 : decode cX4_sumOfColumns 4 = .ok (.iload_n 2, 1) := by decide +kernel
theorem dX4_sumOfColumns_5 : decode cX4_sumOfColumns 5 = .ok (.bipush 32, 2) := by decide +kernel
theorem dX4_sumOfColumns_7 : decode cX4_sumOfColumns 7 = .ok (.if_icmp .ge 21, 3) := by decide +kernel
theorem dX4_sumOfColumns_10 : decode cX4_sumOfColumns 10 = .ok (.iload_n 1, 1) := by decide +kernel
theorem dX4_sumOfColumns_11 : decode cX4_sumOfColumns 11 = .ok (.aload_n 0, 1) := by decide +kernel
theorem dX4_sumOfColumns_12 : decode cX4_sumOfColumns 12 = .ok (.getfield 9, 3) := by decide +kernel
theorem dX4_sumOfColumns_15 : decode cX4_sumOfColumns 15 = .ok (.iload_n 2, 1) := by decide +kernel
theorem dX4_sumOfColumns_16 : decode cX4_sumOfColumns 16 = .ok (.iaload, 1) := by decide +kernel
theorem dX4_sumOfColumns_17 : decode cX4_sumOfColumns 17 = .ok (.invokestatic 41, 3) := by decide +kernel
theorem dX4_sumOfColumns_20 : decode cX4_sumOfColumns 20 = .ok (.iadd, 1) := by decide +kernel
theorem dX4_sumOfColumns_21 : decode cX4_sumOfColumns 21 = .ok (.istore_n 1, 1) := by decide +kernel
theorem dX4_sumOfColumns_22 : decode cX4_sumOfColumns 22 = .ok (.iinc 2 1, 3) := by decide +kernel
theorem dX4_sumOfColumns_25 : decode cX4_sumOfColumns 25 = .ok (.goto (-21), 3) := by decide +kernel
theorem dX4_sumOfColumns_28 : decode cX4_sumOfColumns 28 = .ok (.iload_n 1, 1) := by decide +kernel
theorem dX4_sumOfColumns_29 : decode cX4_sumOfColumns 29 = .ok (.ireturn, 1) := by decide +kernel
set_option maxRecDepth 20000 in
theorem ggX4_timesHeard_X5_holds : GoodIn wsX4_timesHeard wsX5_holds := goodIn_r _ [4] (by decide +kernel) (by decide +kernel)
set_option maxRecDepth 20000 in
theorem gX4_timesHeard_X5_holds_n47 : GoodIn wsX4_timesHeard (wsX5_holds) := ggX4_timesHeard_X5_holds
theorem dX4_timesHeard_0 : decode cX4_timesHeard 0 = .ok (.iconst 0, 1) := by decide +kernel
theorem dX4_timesHeard_1 : decode cX4_timesHeard 1 = .ok (.istore_n 2, 1) := by decide +kernel
theorem dX4_timesHeard_2 : decode cX4_timesHeard 2 = .ok (.iconst 0, 1) := by decide +kernel
theorem dX4_timesHeard_3 : decode cX4_timesHeard 3 = .ok (.istore_n 3, 1) := by decide +kernel
theorem dX4_timesHeard_4 : decode cX4_timesHeard 4 = .ok (.iload_n 3, 1) := by decide +kernel
theorem dX4_timesHeard_5 : decode cX4_timesHeard 5 = .ok (.bipush 32, 2) := by decide +kernel
theorem dX4_timesHeard_7 : decode cX4_timesHeard 7 = .ok (.if_icmp .ge 25, 3) := by decide +kernel
theorem dX4_timesHeard_10 : decode cX4_timesHeard 10 = .ok (.aload_n 0, 1) := by decide +kernel
theorem dX4_timesHeard_11 : decode cX4_timesHeard 11 = .ok (.getfield 9, 3) := by decide +kernel
theorem dX4_timesHeard_14 : decode cX4_timesHeard 14 = .ok (.iload_n 3, 1) := by decide +kernel
theorem dX4_timesHeard_15 : decode cX4_timesHeard 15 = .ok (.iaload, 1) := by decide +kernel
theorem dX4_timesHeard_16 : decode cX4_timesHeard 16 = .ok (.iload_n 1, 1) := by decide +kernel
theorem dX4_timesHeard_17 : decode cX4_timesHeard 17 = .ok (.invokestatic 47, 3) := by decide +kernel
theorem dX4_timesHeard_20 : decode cX4_timesHeard 20 = .ok (.ifCond .eq 6, 3) := by decide +kernel
theorem dX4_timesHeard_23 : decode cX4_timesHeard 23 = .ok (.iinc 2 1, 3) := by decide +kernel
theorem dX4_timesHeard_26 : decode cX4_timesHeard 26 = .ok (.iinc 3 1, 3) := by decide +kernel
theorem dX4_timesHeard_29 : decode cX4_timesHeard 29 = .ok (.goto (-25), 3) := by decide +kernel
theorem dX4_timesHeard_32 : decode cX4_timesHeard 32 = .ok (.iload_n 2, 1) := by decide +kernel
theorem dX4_timesHeard_33 : decode cX4_timesHeard 33 = .ok (.ireturn, 1) := by decide +kernel
set_option maxRecDepth 20000 in
theorem ggX5_init_X0_init : GoodIn wsX5_init wsX0_init := goodIn_r _ [23, 24, 2, 3, 25, 26, 27, 28, 29, 30, 31, 32, 33, 34, 35, 36, 37, 38, 39, 40, 41, 42, 43, 44, 45, 46, 47, 48, 70, 71, 72, 73, 74, 75, 76, 77, 78, 79, 91] (by decide +kernel) (by decide +kernel)
set_option maxRecDepth 20000 in
theorem gX5_init_X0_init : GoodIn wsX5_init (wsX0_init) := ggX5_init_X0_init
set_option maxRecDepth 20000 in
theorem ggX5_init_X4_init : GoodIn wsX5_init wsX4_init := goodIn_r _ [50, 51, 2, 3, 25, 52, 53, 31, 32, 54, 55, 40, 41, 42, 43, 44, 45, 46, 47, 85, 86, 91] (by decide +kernel) (by decide +kernel)
set_option maxRecDepth 20000 in
theorem gX5_init_X4_init_n18 : GoodIn wsX5_init (wsX4_init) := ggX5_init_X4_init
set_option maxRecDepth 20000 in
theorem ggX5_init_X3_init : GoodIn wsX5_init wsX3_init := goodIn_r _ [57, 58, 2, 3, 59, 60, 61, 87, 88] (by decide +kernel) (by decide +kernel)
set_option maxRecDepth 20000 in
theorem gX5_init_X3_init_n25 : GoodIn wsX5_init (wsX3_init) := ggX5_init_X3_init
set_option maxRecDepth 20000 in
theorem ggX5_init_X2_init : GoodIn wsX5_init wsX2_init := goodIn_r _ [64, 65, 2, 3, 66, 67, 68, 5, 6, 69, 22, 23, 24, 25, 26, 27, 28, 29, 30, 31, 32, 33, 34, 35, 36, 37, 38, 39, 40, 41, 42, 43, 44, 45, 46, 47, 48, 89, 90, 70, 71, 72, 73, 74, 75, 76, 77, 78, 79, 91] (by decide +kernel) (by decide +kernel)
set_option maxRecDepth 20000 in
theorem gX5_init_X2_init : GoodIn wsX5_init (wsX2_init) := ggX5_init_X2_init
theorem dX5_init_0 : decode cX5_init 0 = .ok (.aload_n 0, 1) := by decide +kernel
theorem dX5_init_1 : decode cX5_init 1 = .ok (.invokespecial 1, 3) := by decide +kernel
theorem dX5_init_4 : decode cX5_init 4 = .ok (.aload_n 0, 1) := by decide +kernel
theorem dX5_init_5 : decode cX5_init 5 = .ok (.new 7, 3) := by decide +kernel
theorem dX5_init_8 : decode cX5_init 8 = .ok (.dup, 1) := by decide +kernel
theorem dX5_init_9 : decode cX5_init 9 = .ok (.invokespecial 9, 3) := by decide +kernel
theorem dX5_init_12 : decode cX5_init 12 = .ok (.putfield 10, 3) := by decide +kernel
theorem dX5_init_15 : decode cX5_init 15 = .ok (.aload_n 0, 1) := by decide +kernel
theorem dX5_init_16 : decode cX5_init 16 = .ok (.new 16, 3) := by decide +kernel
theorem dX5_init_19 : decode cX5_init 19 = .ok (.dup, 1) := by decide +kernel
theorem dX5_init_20 : decode cX5_init 20 = .ok (.invokespecial 18, 3) := by decide +kernel
theorem dX5_init_23 : decode cX5_init 23 = .ok (.putfield 19, 3) := by decide +kernel
theorem dX5_init_26 : decode cX5_init 26 = .ok (.aload_n 0, 1) := by decide +kernel
theorem dX5_init_27 : decode cX5_init 27 = .ok (.new 23, 3) := by decide +kernel
theorem dX5_init_30 : decode cX5_init 30 = .ok (.dup, 1) := by decide +kernel
theorem dX5_init_31 : decode cX5_init 31 = .ok (.invokespecial 25, 3) := by decide +kernel
theorem dX5_init_34 : decode cX5_init 34 = .ok (.putfield 26, 3) := by decide +kernel
theorem dX5_init_37 : decode cX5_init 37 = .ok (.aload_n 0, 1) := by decide +kernel
theorem dX5_init_38 : decode cX5_init 38 = .ok (.new 30, 3) := by decide +kernel
theorem dX5_init_41 : decode cX5_init 41 = .ok (.dup, 1) := by decide +kernel
theorem dX5_init_42 : decode cX5_init 42 = .ok (.invokespecial 32, 3) := by decide +kernel
theorem dX5_init_45 : decode cX5_init 45 = .ok (.putfield 33, 3) := by decide +kernel
theorem dX5_init_48 : decode cX5_init 48 = .ok (.aload_n 0, 1) := by decide +kernel
theorem dX5_init_49 : decode cX5_init 49 = .ok (.iconst 2, 1) := by decide +kernel
theorem dX5_init_50 : decode cX5_init 50 = .ok (.anewarray 7, 3) := by decide +kernel
theorem dX5_init_53 : decode cX5_init 53 = .ok (.putfield 37, 3) := by decide +kernel
theorem dX5_init_56 : decode cX5_init 56 = .ok (.return_, 1) := by decide +kernel
set_option maxRecDepth 20000 in
theorem ggX5_turnPeg_X5_isColumn : GoodIn wsX5_turnPeg wsX5_isColumn := goodIn_r _ [9] (by decide +kernel) (by decide +kernel)
set_option maxRecDepth 20000 in
theorem gX5_turnPeg_X5_isColumn : GoodIn wsX5_turnPeg (va_wsS RX5 41 yX5_isColumn wsX5_isColumn) := goodIn_app (goodIn_of _ (by decide +kernel)) ggX5_turnPeg_X5_isColumn
set_option maxRecDepth 20000 in
theorem ggX5_turnPeg_X5_isBell : GoodIn wsX5_turnPeg wsX5_isBell := goodIn_r _ [12] (by decide +kernel) (by decide +kernel)
set_option maxRecDepth 20000 in
theorem gX5_turnPeg_X5_isBell : GoodIn wsX5_turnPeg (va_wsS RX5 45 yX5_isBell wsX5_isBell) := goodIn_app (goodIn_of _ (by decide +kernel)) ggX5_turnPeg_X5_isBell
set_option maxRecDepth 20000 in
theorem ggX5_turnPeg_X2_add : GoodIn wsX5_turnPeg wsX2_add := goodIn_r _ [17, 18, 19, 20, 21, 22, 16, 23, 24, 25, 26, 27, 28, 29, 30, 31, 32, 33, 34, 35, 36, 37, 38, 39, 40, 41, 42, 43, 44, 45, 46, 47, 48, 49, 68, 69, 58, 59, 60, 61, 62, 63, 64, 65, 66, 67, 70] (by decide +kernel) (by decide +kernel)
set_option maxRecDepth 20000 in
theorem gX5_turnPeg_X2_add : GoodIn wsX5_turnPeg (wsV RX5 55 RX2 yX2_add wsX2_add) := goodIn_app (goodIn_of _ (by decide +kernel)) ggX5_turnPeg_X2_add
set_option maxRecDepth 20000 in
theorem ggX5_turnPeg_X5_holds : GoodIn wsX5_turnPeg wsX5_holds := goodIn_r _ [52] (by decide +kernel) (by decide +kernel)
set_option maxRecDepth 20000 in
theorem gX5_turnPeg_X5_holds : GoodIn wsX5_turnPeg (va_wsS RX5 63 yX5_holds wsX5_holds) := goodIn_app (goodIn_of _ (by decide +kernel)) ggX5_turnPeg_X5_holds
theorem dX5_turnPeg_0 : decode cX5_turnPeg 0 = .ok (.iload_n 1, 1) := by decide +kernel
theorem dX5_turnPeg_1 : decode cX5_turnPeg 1 = .ok (.invokestatic 41, 3) := by decide +kernel
theorem dX5_turnPeg_4 : decode cX5_turnPeg 4 = .ok (.ifCond .eq 10, 3) := by decide +kernel
theorem dX5_turnPeg_7 : decode cX5_turnPeg 7 = .ok (.iload_n 2, 1) := by decide +kernel
theorem dX5_turnPeg_8 : decode cX5_turnPeg 8 = .ok (.invokestatic 45, 3) := by decide +kernel
theorem dX5_turnPeg_11 : decode cX5_turnPeg 11 = .ok (.ifCond .ne 13, 3) := by decide +kernel
theorem dX5_turnPeg_14 : decode cX5_turnPeg 14 = .ok (.new 48, 3) := by decide +kernel
theorem dX5_turnPeg_17 : decode cX5_turnPeg 17 = .ok (.dup, 1) := by decide +kernel
theorem dX5_turnPeg_18 : decode cX5_turnPeg 18 = .ok (.ldc 50, 2) := by decide +kernel
theorem dX5_turnPeg_20 : decode cX5_turnPeg 20 = .ok (.invokespecial 52, 3) := by decide +kernel
theorem dX5_turnPeg_23 : decode cX5_turnPeg 23 = .ok (.athrow, 1) := by decide +kernel
theorem dX5_turnPeg_24 : decode cX5_turnPeg 24 = .ok (.aload_n 0, 1) := by decide +kernel
theorem dX5_turnPeg_25 : decode cX5_turnPeg 25 = .ok (.getfield 33, 3) := by decide +kernel
theorem dX5_turnPeg_28 : decode cX5_turnPeg 28 = .ok (.aload_n 0, 1) := by decide +kernel
theorem dX5_turnPeg_29 : decode cX5_turnPeg 29 = .ok (.getfield 10, 3) := by decide +kernel
theorem dX5_turnPeg_32 : decode cX5_turnPeg 32 = .ok (.invokevirtual 55, 3) := by decide +kernel
theorem dX5_turnPeg_35 : decode cX5_turnPeg 35 = .ok (.pop, 1) := by decide +kernel
theorem dX5_turnPeg_36 : decode cX5_turnPeg 36 = .ok (.aload_n 0, 1) := by decide +kernel
theorem dX5_turnPeg_37 : decode cX5_turnPeg 37 = .ok (.getfield 10, 3) := by decide +kernel
theorem dX5_turnPeg_40 : decode cX5_turnPeg 40 = .ok (.getfield 59, 3) := by decide +kernel
theorem dX5_turnPeg_43 : decode cX5_turnPeg 43 = .ok (.iload_n 1, 1) := by decide +kernel
theorem dX5_turnPeg_44 : decode cX5_turnPeg 44 = .ok (.dup2, 1) := by decide +kernel
theorem dX5_turnPeg_45 : decode cX5_turnPeg 45 = .ok (.iaload, 1) := by decide +kernel
theorem dX5_turnPeg_46 : decode cX5_turnPeg 46 = .ok (.iconst 1, 1) := by decide +kernel
theorem dX5_turnPeg_47 : decode cX5_turnPeg 47 = .ok (.iload_n 2, 1) := by decide +kernel
theorem dX5_turnPeg_48 : decode cX5_turnPeg 48 = .ok (.ishl, 1) := by decide +kernel
theorem dX5_turnPeg_49 : decode cX5_turnPeg 49 = .ok (.ixor, 1) := by decide +kernel
theorem dX5_turnPeg_50 : decode cX5_turnPeg 50 = .ok (.iastore, 1) := by decide +kernel
theorem dX5_turnPeg_51 : decode cX5_turnPeg 51 = .ok (.aload_n 0, 1) := by decide +kernel
theorem dX5_turnPeg_52 : decode cX5_turnPeg 52 = .ok (.getfield 10, 3) := by decide +kernel
theorem dX5_turnPeg_55 : decode cX5_turnPeg 55 = .ok (.getfield 59, 3) := by decide +kernel
theorem dX5_turnPeg_58 : decode cX5_turnPeg 58 = .ok (.iload_n 1, 1) := by decide +kernel
theorem dX5_turnPeg_59 : decode cX5_turnPeg 59 = .ok (.iaload, 1) := by decide +kernel
theorem dX5_turnPeg_60 : decode cX5_turnPeg 60 = .ok (.iload_n 2, 1) := by decide +kernel
theorem dX5_turnPeg_61 : decode cX5_turnPeg 61 = .ok (.invokestatic 63, 3) := by decide +kernel
theorem dX5_turnPeg_64 : decode cX5_turnPeg 64 = .ok (.ireturn, 1) := by decide +kernel
set_option maxRecDepth 20000 in
theorem ggX5_setColumn_X5_isColumn : GoodIn wsX5_setColumn wsX5_isColumn := goodIn_r _ [11] (by decide +kernel) (by decide +kernel)
set_option maxRecDepth 20000 in
theorem gX5_setColumn_X5_isColumn : GoodIn wsX5_setColumn (va_wsS RX5 41 yX5_isColumn wsX5_isColumn) := goodIn_app (goodIn_of _ (by decide +kernel)) ggX5_setColumn_X5_isColumn
set_option maxRecDepth 20000 in
theorem ggX5_setColumn_X2_add : GoodIn wsX5_setColumn wsX2_add := goodIn_r _ [16, 17, 18, 19, 20, 21, 15, 22, 23, 24, 25, 26, 27, 28, 29, 30, 31, 32, 33, 34, 35, 36, 37, 38, 39, 40, 41, 42, 43, 44, 45, 46, 47, 48, 75, 76, 65, 66, 67, 68, 69, 70, 71, 72, 73, 74, 77] (by decide +kernel) (by decide +kernel)
set_option maxRecDepth 20000 in
theorem gX5_setColumn_X2_add : GoodIn wsX5_setColumn (wsV RX5 55 RX2 yX2_add wsX2_add) := goodIn_app (goodIn_of _ (by decide +kernel)) ggX5_setColumn_X2_add
set_option maxRecDepth 20000 in
theorem ggX5_setColumn_X0_pegsOtherThan : GoodIn wsX5_setColumn wsX0_pegsOtherThan := goodIn_r _ [52, 28, 53, 54, 55, 56, 57, 58, 59, 65, 66, 67, 68, 69, 70, 71, 72, 73, 74] (by decide +kernel) (by decide +kernel)
set_option maxRecDepth 20000 in
theorem gX5_setColumn_X0_pegsOtherThan : GoodIn wsX5_setColumn (wsV RX5 74 RX0 yX0_pegsOtherThan wsX0_pegsOtherThan) := goodIn_app (goodIn_of _ (by decide +kernel)) ggX5_setColumn_X0_pegsOtherThan
theorem dX5_setColumn_0 : decode cX5_setColumn 0 = .ok (.iload_n 1, 1) := by decide +kernel
theorem dX5_setColumn_1 : decode cX5_setColumn 1 = .ok (.invokestatic 41, 3) := by decide +kernel
theorem dX5_setColumn_4 : decode cX5_setColumn 4 = .ok (.ifCond .ne 13, 3) := by decide +kernel
theorem dX5_setColumn_7 : decode cX5_setColumn 7 = .ok (.new 48, 3) := by decide +kernel
theorem dX5_setColumn_10 : decode cX5_setColumn 10 = .ok (.dup, 1) := by decide +kernel
theorem dX5_setColumn_11 : decode cX5_setColumn 11 = .ok (.ldc 67, 2) := by decide +kernel
theorem dX5_setColumn_13 : decode cX5_setColumn 13 = .ok (.invokespecial 52, 3) := by decide +kernel
theorem dX5_setColumn_16 : decode cX5_setColumn 16 = .ok (.athrow, 1) := by decide +kernel
theorem dX5_setColumn_17 : decode cX5_setColumn 17 = .ok (.iload_n 2, 1) := by decide +kernel
theorem dX5_setColumn_18 : decode cX5_setColumn 18 = .ok (.ifCond .lt 10, 3) := by decide +kernel
theorem dX5_setColumn_21 : decode cX5_setColumn 21 = .ok (.iload_n 2, 1) := by decide +kernel
theorem dX5_setColumn_22 : decode cX5_setColumn 22 = .ok (.sipush 1023, 3) := by decide +kernel
theorem dX5_setColumn_25 : decode cX5_setColumn 25 = .ok (.if_icmp .le 13, 3) := by decide +kernel
theorem dX5_setColumn_28 : decode cX5_setColumn 28 = .ok (.new 69, 3) := by decide +kernel
theorem dX5_setColumn_31 : decode cX5_setColumn 31 = .ok (.dup, 1) := by decide +kernel
theorem dX5_setColumn_32 : decode cX5_setColumn 32 = .ok (.ldc 71, 2) := by decide +kernel
theorem dX5_setColumn_34 : decode cX5_setColumn 34 = .ok (.invokespecial 73, 3) := by decide +kernel
theorem dX5_setColumn_37 : decode cX5_setColumn 37 = .ok (.athrow, 1) := by decide +kernel
theorem dX5_setColumn_38 : decode cX5_setColumn 38 = .ok (.aload_n 0, 1) := by decide +kernel
theorem dX5_setColumn_39 : decode cX5_setColumn 39 = .ok (.getfield 33, 3) := by decide +kernel
theorem dX5_setColumn_42 : decode cX5_setColumn 42 = .ok (.aload_n 0, 1) := by decide +kernel
theorem dX5_setColumn_43 : decode cX5_setColumn 43 = .ok (.getfield 10, 3) := by decide +kernel
theorem dX5_setColumn_46 : decode cX5_setColumn 46 = .ok (.invokevirtual 55, 3) := by decide +kernel
theorem dX5_setColumn_49 : decode cX5_setColumn 49 = .ok (.astore_n 3, 1) := by decide +kernel
theorem dX5_setColumn_50 : decode cX5_setColumn 50 = .ok (.aload_n 0, 1) := by decide +kernel
theorem dX5_setColumn_51 : decode cX5_setColumn 51 = .ok (.getfield 10, 3) := by decide +kernel
theorem dX5_setColumn_54 : decode cX5_setColumn 54 = .ok (.getfield 59, 3) := by decide +kernel
theorem dX5_setColumn_57 : decode cX5_setColumn 57 = .ok (.iload_n 1, 1) := by decide +kernel
theorem dX5_setColumn_58 : decode cX5_setColumn 58 = .ok (.iload_n 2, 1) := by decide +kernel
theorem dX5_setColumn_59 : decode cX5_setColumn 59 = .ok (.iastore, 1) := by decide +kernel
theorem dX5_setColumn_60 : decode cX5_setColumn 60 = .ok (.aload_n 0, 1) := by decide +kernel
theorem dX5_setColumn_61 : decode cX5_setColumn 61 = .ok (.getfield 10, 3) := by decide +kernel
theorem dX5_setColumn_64 : decode cX5_setColumn 64 = .ok (.aload_n 3, 1) := by decide +kernel
theorem dX5_setColumn_65 : decode cX5_setColumn 65 = .ok (.invokevirtual 74, 3) := by decide +kernel
theorem dX5_setColumn_68 : decode cX5_setColumn 68 = .ok (.ireturn, 1) := by decide +kernel
set_option maxRecDepth 20000 in
theorem ggX5_setTempo_X5_isBar : GoodIn wsX5_setTempo wsX5_isBar := goodIn_r _ [11] (by decide +kernel) (by decide +kernel)
set_option maxRecDepth 20000 in
theorem gX5_setTempo_X5_isBar : GoodIn wsX5_setTempo (va_wsS RX5 78 yX5_isBar wsX5_isBar) := goodIn_app (goodIn_of _ (by decide +kernel)) ggX5_setTempo_X5_isBar
set_option maxRecDepth 20000 in
theorem ggX5_setTempo_X2_add : GoodIn wsX5_setTempo wsX2_add := goodIn_r _ [16, 17, 18, 19, 20, 21, 15, 22, 23, 24, 25, 26, 27, 28, 29, 30, 31, 32, 33, 34, 35, 36, 37, 38, 39, 40, 41, 42, 43, 44, 45, 46, 47, 48, 64, 65, 54, 55, 56, 57, 58, 59, 60, 61, 62, 63, 66] (by decide +kernel) (by decide +kernel)
set_option maxRecDepth 20000 in
theorem gX5_setTempo_X2_add : GoodIn wsX5_setTempo (wsV RX5 55 RX2 yX2_add wsX2_add) := goodIn_app (goodIn_of _ (by decide +kernel)) ggX5_setTempo_X2_add
theorem dX5_setTempo_0 : decode cX5_setTempo 0 = .ok (.iload_n 1, 1) := by decide +kernel
theorem dX5_setTempo_1 : decode cX5_setTempo 1 = .ok (.invokestatic 78, 3) := by decide +kernel
theorem dX5_setTempo_4 : decode cX5_setTempo 4 = .ok (.ifCond .ne 13, 3) := by decide +kernel
theorem dX5_setTempo_7 : decode cX5_setTempo 7 = .ok (.new 48, 3) := by decide +kernel
theorem dX5_setTempo_10 : decode cX5_setTempo 10 = .ok (.dup, 1) := by decide +kernel
theorem dX5_setTempo_11 : decode cX5_setTempo 11 = .ok (.ldc 81, 2) := by decide +kernel
theorem dX5_setTempo_13 : decode cX5_setTempo 13 = .ok (.invokespecial 52, 3) := by decide +kernel
theorem dX5_setTempo_16 : decode cX5_setTempo 16 = .ok (.athrow, 1) := by decide +kernel
theorem dX5_setTempo_17 : decode cX5_setTempo 17 = .ok (.iload_n 2, 1) := by decide +kernel
theorem dX5_setTempo_18 : decode cX5_setTempo 18 = .ok (.iconst 1, 1) := by decide +kernel
theorem dX5_setTempo_19 : decode cX5_setTempo 19 = .ok (.if_icmp .lt 9, 3) := by decide +kernel
theorem dX5_setTempo_22 : decode cX5_setTempo 22 = .ok (.iload_n 2, 1) := by decide +kernel
theorem dX5_setTempo_23 : decode cX5_setTempo 23 = .ok (.bipush 9, 2) := by decide +kernel
theorem dX5_setTempo_25 : decode cX5_setTempo 25 = .ok (.if_icmp .le 13, 3) := by decide +kernel
theorem dX5_setTempo_28 : decode cX5_setTempo 28 = .ok (.new 69, 3) := by decide +kernel
theorem dX5_setTempo_31 : decode cX5_setTempo 31 = .ok (.dup, 1) := by decide +kernel
theorem dX5_setTempo_32 : decode cX5_setTempo 32 = .ok (.ldc 83, 2) := by decide +kernel
theorem dX5_setTempo_34 : decode cX5_setTempo 34 = .ok (.invokespecial 73, 3) := by decide +kernel
theorem dX5_setTempo_37 : decode cX5_setTempo 37 = .ok (.athrow, 1) := by decide +kernel
theorem dX5_setTempo_38 : decode cX5_setTempo 38 = .ok (.aload_n 0, 1) := by decide +kernel
theorem dX5_setTempo_39 : decode cX5_setTempo 39 = .ok (.getfield 33, 3) := by decide +kernel
theorem dX5_setTempo_42 : decode cX5_setTempo 42 = .ok (.aload_n 0, 1) := by decide +kernel
theorem dX5_setTempo_43 : decode cX5_setTempo 43 = .ok (.getfield 10, 3) := by decide +kernel
theorem dX5_setTempo_46 : decode cX5_setTempo 46 = .ok (.invokevirtual 55, 3) := by decide +kernel
theorem dX5_setTempo_49 : decode cX5_setTempo 49 = .ok (.astore_n 3, 1) := by decide +kernel
theorem dX5_setTempo_50 : decode cX5_setTempo 50 = .ok (.aload_n 0, 1) := by decide +kernel
theorem dX5_setTempo_51 : decode cX5_setTempo 51 = .ok (.getfield 10, 3) := by decide +kernel
theorem dX5_setTempo_54 : decode cX5_setTempo 54 = .ok (.getfield 85, 3) := by decide +kernel
theorem dX5_setTempo_57 : decode cX5_setTempo 57 = .ok (.iload_n 1, 1) := by decide +kernel
theorem dX5_setTempo_58 : decode cX5_setTempo 58 = .ok (.iload_n 2, 1) := by decide +kernel
theorem dX5_setTempo_59 : decode cX5_setTempo 59 = .ok (.iastore, 1) := by decide +kernel
theorem dX5_setTempo_60 : decode cX5_setTempo 60 = .ok (.aload_n 3, 1) := by decide +kernel
theorem dX5_setTempo_61 : decode cX5_setTempo 61 = .ok (.getfield 85, 3) := by decide +kernel
theorem dX5_setTempo_64 : decode cX5_setTempo 64 = .ok (.iload_n 1, 1) := by decide +kernel
theorem dX5_setTempo_65 : decode cX5_setTempo 65 = .ok (.iaload, 1) := by decide +kernel
theorem dX5_setTempo_66 : decode cX5_setTempo 66 = .ok (.ireturn, 1) := by decide +kernel
set_option maxRecDepth 20000 in
theorem ggX5_setWeight_X5_isBell : GoodIn wsX5_setWeight wsX5_isBell := goodIn_r _ [11] (by decide +kernel) (by decide +kernel)
set_option maxRecDepth 20000 in
theorem gX5_setWeight_X5_isBell : GoodIn wsX5_setWeight (va_wsS RX5 45 yX5_isBell wsX5_isBell) := goodIn_app (goodIn_of _ (by decide +kernel)) ggX5_setWeight_X5_isBell
set_option maxRecDepth 20000 in
theorem ggX5_setWeight_X2_add : GoodIn wsX5_setWeight wsX2_add := goodIn_r _ [16, 17, 18, 19, 20, 21, 15, 22, 23, 24, 25, 26, 27, 28, 29, 30, 31, 32, 33, 34, 35, 36, 37, 38, 39, 40, 41, 42, 43, 44, 45, 46, 47, 48, 64, 65, 54, 55, 56, 57, 58, 59, 60, 61, 62, 63, 66] (by decide +kernel) (by decide +kernel)
set_option maxRecDepth 20000 in
theorem gX5_setWeight_X2_add : GoodIn wsX5_setWeight (wsV RX5 55 RX2 yX2_add wsX2_add) := goodIn_app (goodIn_of _ (by decide +kernel)) ggX5_setWeight_X2_add
theorem dX5_setWeight_0 : decode cX5_setWeight 0 = .ok (.iload_n 1, 1) := by decide +kernel
theorem dX5_setWeight_1 : decode cX5_setWeight 1 = .ok (.invokestatic 45, 3) := by decide +kernel
theorem dX5_setWeight_4 : decode cX5_setWeight 4 = .ok (.ifCond .ne 13, 3) := by decide +kernel
theorem dX5_setWeight_7 : decode cX5_setWeight 7 = .ok (.new 48, 3) := by decide +kernel
theorem dX5_setWeight_10 : decode cX5_setWeight 10 = .ok (.dup, 1) := by decide +kernel
theorem dX5_setWeight_11 : decode cX5_setWeight 11 = .ok (.ldc 88, 2) := by decide +kernel
theorem dX5_setWeight_13 : decode cX5_setWeight 13 = .ok (.invokespecial 52, 3) := by decide +kernel
theorem dX5_setWeight_16 : decode cX5_setWeight 16 = .ok (.athrow, 1) := by decide +kernel
theorem dX5_setWeight_17 : decode cX5_setWeight 17 = .ok (.iload_n 2, 1) := by decide +kernel
theorem dX5_setWeight_18 : decode cX5_setWeight 18 = .ok (.iconst 1, 1) := by decide +kernel
theorem dX5_setWeight_19 : decode cX5_setWeight 19 = .ok (.if_icmp .lt 9, 3) := by decide +kernel
theorem dX5_setWeight_22 : decode cX5_setWeight 22 = .ok (.iload_n 2, 1) := by decide +kernel
theorem dX5_setWeight_23 : decode cX5_setWeight 23 = .ok (.bipush 60, 2) := by decide +kernel
theorem dX5_setWeight_25 : decode cX5_setWeight 25 = .ok (.if_icmp .le 13, 3) := by decide +kernel
theorem dX5_setWeight_28 : decode cX5_setWeight 28 = .ok (.new 69, 3) := by decide +kernel
theorem dX5_setWeight_31 : decode cX5_setWeight 31 = .ok (.dup, 1) := by decide +kernel
theorem dX5_setWeight_32 : decode cX5_setWeight 32 = .ok (.ldc 90, 2) := by decide +kernel
theorem dX5_setWeight_34 : decode cX5_setWeight 34 = .ok (.invokespecial 73, 3) := by decide +kernel
theorem dX5_setWeight_37 : decode cX5_setWeight 37 = .ok (.athrow, 1) := by decide +kernel
theorem dX5_setWeight_38 : decode cX5_setWeight 38 = .ok (.aload_n 0, 1) := by decide +kernel
theorem dX5_setWeight_39 : decode cX5_setWeight 39 = .ok (.getfield 33, 3) := by decide +kernel
theorem dX5_setWeight_42 : decode cX5_setWeight 42 = .ok (.aload_n 0, 1) := by decide +kernel
theorem dX5_setWeight_43 : decode cX5_setWeight 43 = .ok (.getfield 10, 3) := by decide +kernel
theorem dX5_setWeight_46 : decode cX5_setWeight 46 = .ok (.invokevirtual 55, 3) := by decide +kernel
theorem dX5_setWeight_49 : decode cX5_setWeight 49 = .ok (.astore_n 3, 1) := by decide +kernel
theorem dX5_setWeight_50 : decode cX5_setWeight 50 = .ok (.aload_n 0, 1) := by decide +kernel
theorem dX5_setWeight_51 : decode cX5_setWeight 51 = .ok (.getfield 10, 3) := by decide +kernel
theorem dX5_setWeight_54 : decode cX5_setWeight 54 = .ok (.getfield 92, 3) := by decide +kernel
theorem dX5_setWeight_57 : decode cX5_setWeight 57 = .ok (.iload_n 1, 1) := by decide +kernel
theorem dX5_setWeight_58 : decode cX5_setWeight 58 = .ok (.iload_n 2, 1) := by decide +kernel
theorem dX5_setWeight_59 : decode cX5_setWeight 59 = .ok (.iastore, 1) := by decide +kernel
theorem dX5_setWeight_60 : decode cX5_setWeight 60 = .ok (.aload_n 3, 1) := by decide +kernel
theorem dX5_setWeight_61 : decode cX5_setWeight 61 = .ok (.getfield 92, 3) := by decide +kernel
theorem dX5_setWeight_64 : decode cX5_setWeight 64 = .ok (.iload_n 1, 1) := by decide +kernel
theorem dX5_setWeight_65 : decode cX5_setWeight 65 = .ok (.iaload, 1) := by decide +kernel
theorem dX5_setWeight_66 : decode cX5_setWeight 66 = .ok (.ireturn, 1) := by decide +kernel
set_option maxRecDepth 20000 in
theorem ggX5_setBound_X2_add : GoodIn wsX5_setBound wsX2_add := goodIn_r _ [10, 11, 12, 13, 14, 15, 9, 16, 17, 18, 19, 20, 21, 22, 23, 24, 25, 26, 27, 28, 29, 30, 31, 32, 33, 34, 35, 36, 37, 38, 39, 40, 41, 42, 58, 59, 48, 49, 50, 51, 52, 53, 54, 55, 56, 57, 60] (by decide +kernel) (by decide +kernel)
set_option maxRecDepth 20000 in
theorem gX5_setBound_X2_add : GoodIn wsX5_setBound (wsV RX5 55 RX2 yX2_add wsX2_add) := goodIn_app (goodIn_of _ (by decide +kernel)) ggX5_setBound_X2_add
theorem dX5_setBound_0 : decode cX5_setBound 0 = .ok (.iload_n 1, 1) := by decide +kernel
theorem dX5_setBound_1 : decode cX5_setBound 1 = .ok (.iconst 1, 1) := by decide +kernel
theorem dX5_setBound_2 : decode cX5_setBound 2 = .ok (.if_icmp .lt 10, 3) := by decide +kernel
theorem dX5_setBound_5 : decode cX5_setBound 5 = .ok (.iload_n 1, 1) := by decide +kernel
theorem dX5_setBound_6 : decode cX5_setBound 6 = .ok (.sipush 300, 3) := by decide +kernel
theorem dX5_setBound_9 : decode cX5_setBound 9 = .ok (.if_icmp .le 13, 3) := by decide +kernel
theorem dX5_setBound_12 : decode cX5_setBound 12 = .ok (.new 69, 3) := by decide +kernel
theorem dX5_setBound_15 : decode cX5_setBound 15 = .ok (.dup, 1) := by decide +kernel
theorem dX5_setBound_16 : decode cX5_setBound 16 = .ok (.ldc 95, 2) := by decide +kernel
theorem dX5_setBound_18 : decode cX5_setBound 18 = .ok (.invokespecial 73, 3) := by decide +kernel
theorem dX5_setBound_21 : decode cX5_setBound 21 = .ok (.athrow, 1) := by decide +kernel
theorem dX5_setBound_22 : decode cX5_setBound 22 = .ok (.aload_n 0, 1) := by decide +kernel
theorem dX5_setBound_23 : decode cX5_setBound 23 = .ok (.getfield 33, 3) := by decide +kernel
theorem dX5_setBound_26 : decode cX5_setBound 26 = .ok (.aload_n 0, 1) := by decide +kernel
theorem dX5_setBound_27 : decode cX5_setBound 27 = .ok (.getfield 10, 3) := by decide +kernel
theorem dX5_setBound_30 : decode cX5_setBound 30 = .ok (.invokevirtual 55, 3) := by decide +kernel
theorem dX5_setBound_33 : decode cX5_setBound 33 = .ok (.astore_n 2, 1) := by decide +kernel
theorem dX5_setBound_34 : decode cX5_setBound 34 = .ok (.aload_n 0, 1) := by decide +kernel
theorem dX5_setBound_35 : decode cX5_setBound 35 = .ok (.getfield 10, 3) := by decide +kernel
theorem dX5_setBound_38 : decode cX5_setBound 38 = .ok (.iload_n 1, 1) := by decide +kernel
theorem dX5_setBound_39 : decode cX5_setBound 39 = .ok (.putfield 97, 3) := by decide +kernel
theorem dX5_setBound_42 : decode cX5_setBound 42 = .ok (.aload_n 2, 1) := by decide +kernel
theorem dX5_setBound_43 : decode cX5_setBound 43 = .ok (.getfield 97, 3) := by decide +kernel
theorem dX5_setBound_46 : decode cX5_setBound 46 = .ok (.ireturn, 1) := by decide +kernel
set_option maxRecDepth 20000 in
theorem ggX5_turnRound_X2_add : GoodIn wsX5_turnRound wsX2_add := goodIn_r _ [8, 9, 10, 11, 12, 13, 7, 14, 15, 16, 17, 18, 19, 20, 21, 22, 23, 24, 25, 26, 27, 28, 29, 30, 31, 32, 33, 34, 35, 36, 37, 38, 39, 40, 67, 68, 57, 58, 59, 60, 61, 62, 63, 64, 65, 66, 69] (by decide +kernel) (by decide +kernel)
set_option maxRecDepth 20000 in
theorem gX5_turnRound_X2_add : GoodIn wsX5_turnRound (wsV RX5 55 RX2 yX2_add wsX2_add) := goodIn_app (goodIn_of _ (by decide +kernel)) ggX5_turnRound_X2_add
set_option maxRecDepth 20000 in
theorem ggX5_turnRound_X0_pegsOtherThan : GoodIn wsX5_turnRound wsX0_pegsOtherThan := goodIn_r _ [44, 20, 45, 46, 47, 48, 49, 50, 51, 57, 58, 59, 60, 61, 62, 63, 64, 65, 66] (by decide +kernel) (by decide +kernel)
set_option maxRecDepth 20000 in
theorem gX5_turnRound_X0_pegsOtherThan : GoodIn wsX5_turnRound (wsV RX5 74 RX0 yX0_pegsOtherThan wsX0_pegsOtherThan) := goodIn_app (goodIn_of _ (by decide +kernel)) ggX5_turnRound_X0_pegsOtherThan
theorem dX5_turnRound_0 : decode cX5_turnRound 0 = .ok (.aload_n 0, 1) := by decide +kernel
theorem dX5_turnRound_1 : decode cX5_turnRound 1 = .ok (.getfield 33, 3) := by decide +kernel
theorem dX5_turnRound_4 : decode cX5_turnRound 4 = .ok (.aload_n 0, 1) := by decide +kernel
theorem dX5_turnRound_5 : decode cX5_turnRound 5 = .ok (.getfield 10, 3) := by decide +kernel
theorem dX5_turnRound_8 : decode cX5_turnRound 8 = .ok (.invokevirtual 55, 3) := by decide +kernel
theorem dX5_turnRound_11 : decode cX5_turnRound 11 = .ok (.astore_n 1, 1) := by decide +kernel
theorem dX5_turnRound_12 : decode cX5_turnRound 12 = .ok (.iconst 0, 1) := by decide +kernel
theorem dX5_turnRound_13 : decode cX5_turnRound 13 = .ok (.istore_n 2, 1) := by decide +kernel
theorem dX5_turnRound_14 : decode cX5_turnRound 14 = .ok (.iload_n 2, 1) := by decide +kernel
theorem dX5_turnRound_15 : decode cX5_turnRound 15 = .ok (.bipush 32, 2) := by decide +kernel
theorem dX5_turnRound_17 : decode cX5_turnRound 17 = .ok (.if_icmp .ge 27, 3) := by decide +kernel
theorem dX5_turnRound_20 : decode cX5_turnRound 20 = .ok (.aload_n 0, 1) := by decide +kernel
theorem dX5_turnRound_21 : decode cX5_turnRound 21 = .ok (.getfield 10, 3) := by decide +kernel
theorem dX5_turnRound_24 : decode cX5_turnRound 24 = .ok (.getfield 59, 3) := by decide +kernel
theorem dX5_turnRound_27 : decode cX5_turnRound 27 = .ok (.bipush 31, 2) := by decide +kernel
theorem dX5_turnRound_29 : decode cX5_turnRound 29 = .ok (.iload_n 2, 1) := by decide +kernel
theorem dX5_turnRound_30 : decode cX5_turnRound 30 = .ok (.isub, 1) := by decide +kernel
theorem dX5_turnRound_31 : decode cX5_turnRound 31 = .ok (.aload_n 1, 1) := by decide +kernel
theorem dX5_turnRound_32 : decode cX5_turnRound 32 = .ok (.getfield 59, 3) := by decide +kernel
theorem dX5_turnRound_35 : decode cX5_turnRound 35 = .ok (.iload_n 2, 1) := by decide +kernel
theorem dX5_turnRound_36 : decode cX5_turnRound 36 = .ok (.iaload, 1) := by decide +kernel
theorem dX5_turnRound_37 : decode cX5_turnRound 37 = .ok (.iastore, 1) := by decide +kernel
theorem dX5_turnRound_38 : decode cX5_turnRound 38 = .ok (.iinc 2 1, 3) := by decide +kernel
theorem dX5_turnRound_41 : decode cX5_turnRound 41 = .ok (.goto (-27), 3) := by decide +kernel
theorem dX5_turnRound_44 : decode cX5_turnRound 44 = .ok (.aload_n 0, 1) := by decide +kernel
theorem dX5_turnRound_45 : decode cX5_turnRound 45 = .ok (.getfield 10, 3) := by decide +kernel
theorem dX5_turnRound_48 : decode cX5_turnRound 48 = .ok (.aload_n 1, 1) := by decide +kernel
theorem dX5_turnRound_49 : decode cX5_turnRound 49 = .ok (.invokevirtual 74, 3) := by decide +kernel
theorem dX5_turnRound_52 : decode cX5_turnRound 52 = .ok (.ireturn, 1) := by decide +kernel
set_option maxRecDepth 20000 in
theorem ggX5_move_X2_add : GoodIn wsX5_move wsX2_add := goodIn_r _ [10, 11, 12, 13, 14, 15, 9, 16, 17, 18, 19, 20, 21, 22, 23, 24, 25, 26, 27, 28, 29, 30, 31, 32, 33, 34, 35, 36, 37, 38, 39, 40, 41, 42, 69, 70, 59, 60, 61, 62, 63, 64, 65, 66, 67, 68, 71] (by decide +kernel) (by decide +kernel)
set_option maxRecDepth 20000 in
theorem gX5_move_X2_add : GoodIn wsX5_move (wsV RX5 55 RX2 yX2_add wsX2_add) := goodIn_app (goodIn_of _ (by decide +kernel)) ggX5_move_X2_add
set_option maxRecDepth 20000 in
theorem ggX5_move_X0_pegsOtherThan : GoodIn wsX5_move wsX0_pegsOtherThan := goodIn_r _ [46, 22, 47, 48, 49, 50, 51, 52, 53, 59, 60, 61, 62, 63, 64, 65, 66, 67, 68] (by decide +kernel) (by decide +kernel)
set_option maxRecDepth 20000 in
theorem gX5_move_X0_pegsOtherThan : GoodIn wsX5_move (wsV RX5 74 RX0 yX0_pegsOtherThan wsX0_pegsOtherThan) := goodIn_app (goodIn_of _ (by decide +kernel)) ggX5_move_X0_pegsOtherThan
theorem dX5_move_0 : decode cX5_move 0 = .ok (.iload_n 1, 1) := by decide +kernel
theorem dX5_move_1 : decode cX5_move 1 = .ok (.iconst 1, 1) := by decide +kernel
theorem dX5_move_2 : decode cX5_move 2 = .ok (.if_icmp .lt 9, 3) := by decide +kernel
theorem dX5_move_5 : decode cX5_move 5 = .ok (.iload_n 1, 1) := by decide +kernel
theorem dX5_move_6 : decode cX5_move 6 = .ok (.bipush 32, 2) := by decide +kernel
theorem dX5_move_8 : decode cX5_move 8 = .ok (.if_icmp .lt 13, 3) := by decide +kernel
theorem dX5_move_11 : decode cX5_move 11 = .ok (.new 69, 3) := by decide +kernel
theorem dX5_move_14 : decode cX5_move 14 = .ok (.dup, 1) := by decide +kernel
theorem dX5_move_15 : decode cX5_move 15 = .ok (.ldc 101, 2) := by decide +kernel
theorem dX5_move_17 : decode cX5_move 17 = .ok (.invokespecial 73, 3) := by decide +kernel
theorem dX5_move_20 : decode cX5_move 20 = .ok (.athrow, 1) := by decide +kernel
theorem dX5_move_21 : decode cX5_move 21 = .ok (.aload_n 0, 1) := by decide +kernel
theorem dX5_move_22 : decode cX5_move 22 = .ok (.getfield 33, 3) := by decide +kernel
theorem dX5_move_25 : decode cX5_move 25 = .ok (.aload_n 0, 1) := by decide +kernel
theorem dX5_move_26 : decode cX5_move 26 = .ok (.getfield 10, 3) := by decide +kernel
theorem dX5_move_29 : decode cX5_move 29 = .ok (.invokevirtual 55, 3) := by decide +kernel
theorem dX5_move_32 : decode cX5_move 32 = .ok (.astore_n 2, 1) := by decide +kernel
theorem dX5_move_33 : decode cX5_move 33 = .ok (.iconst 0, 1) := by decide +kernel
theorem dX5_move_34 : decode cX5_move 34 = .ok (.istore_n 3, 1) := by decide +kernel
theorem dX5_move_35 : decode cX5_move 35 = .ok (.iload_n 3, 1) := by decide +kernel
theorem dX5_move_36 : decode cX5_move 36 = .ok (.bipush 32, 2) := by decide +kernel
theorem dX5_move_38 : decode cX5_move 38 = .ok (.if_icmp .ge 29, 3) := by decide +kernel
theorem dX5_move_41 : decode cX5_move 41 = .ok (.aload_n 0, 1) := by decide +kernel
theorem dX5_move_42 : decode cX5_move 42 = .ok (.getfield 10, 3) := by decide +kernel
theorem dX5_move_45 : decode cX5_move 45 = .ok (.getfield 59, 3) := by decide +kernel
theorem dX5_move_48 : decode cX5_move 48 = .ok (.iload_n 3, 1) := by decide +kernel
theorem dX5_move_49 : decode cX5_move 49 = .ok (.iload_n 1, 1) := by decide +kernel
theorem dX5_move_50 : decode cX5_move 50 = .ok (.iadd, 1) := by decide +kernel
theorem dX5_move_51 : decode cX5_move 51 = .ok (.bipush 32, 2) := by decide +kernel
theorem dX5_move_53 : decode cX5_move 53 = .ok (.irem, 1) := by decide +kernel
theorem dX5_move_54 : decode cX5_move 54 = .ok (.aload_n 2, 1) := by decide +kernel
theorem dX5_move_55 : decode cX5_move 55 = .ok (.getfield 59, 3) := by decide +kernel
theorem dX5_move_58 : decode cX5_move 58 = .ok (.iload_n 3, 1) := by decide +kernel
theorem dX5_move_59 : decode cX5_move 59 = .ok (.iaload, 1) := by decide +kernel
theorem dX5_move_60 : decode cX5_move 60 = .ok (.iastore, 1) := by decide +kernel
theorem dX5_move_61 : decode cX5_move 61 = .ok (.iinc 3 1, 3) := by decide +kernel
theorem dX5_move_64 : decode cX5_move 64 = .ok (.goto (-29), 3) := by decide +kernel
theorem dX5_move_67 : decode cX5_move 67 = .ok (.aload_n 0, 1) := by decide +kernel
theorem dX5_move_68 : decode cX5_move 68 = .ok (.getfield 10, 3) := by decide +kernel
theorem dX5_move_71 : decode cX5_move 71 = .ok (.aload_n 2, 1) := by decide +kernel
theorem dX5_move_72 : decode cX5_move 72 = .ok (.invokevirtual 74, 3) := by decide +kernel
theorem dX5_move_75 : decode cX5_move 75 = .ok (.ireturn, 1) := by decide +kernel
set_option maxRecDepth 20000 in
theorem ggX5_raise_X2_add : GoodIn wsX5_raise wsX2_add := goodIn_r _ [8, 9, 10, 11, 12, 13, 7, 14, 15, 16, 17, 18, 19, 20, 21, 22, 23, 24, 25, 26, 27, 28, 29, 30, 31, 32, 33, 34, 35, 36, 37, 38, 39, 40, 60, 61, 50, 51, 52, 53, 54, 55, 56, 57, 58, 59, 62] (by decide +kernel) (by decide +kernel)
set_option maxRecDepth 20000 in
theorem gX5_raise_X2_add : GoodIn wsX5_raise (wsV RX5 55 RX2 yX2_add wsX2_add) := goodIn_app (goodIn_of _ (by decide +kernel)) ggX5_raise_X2_add
set_option maxRecDepth 20000 in
theorem ggX5_raise_X5_holds : GoodIn wsX5_raise wsX5_holds := goodIn_r _ [44] (by decide +kernel) (by decide +kernel)
set_option maxRecDepth 20000 in
theorem gX5_raise_X5_holds : GoodIn wsX5_raise (va_wsS RX5 63 yX5_holds wsX5_holds) := goodIn_app (goodIn_of _ (by decide +kernel)) ggX5_raise_X5_holds
theorem dX5_raise_0 : decode cX5_raise 0 = .ok (.aload_n 0, 1) := by decide +kernel
theorem dX5_raise_1 : decode cX5_raise 1 = .ok (.getfield 33, 3) := by decide +kernel
theorem dX5_raise_4 : decode cX5_raise 4 = .ok (.aload_n 0, 1) := by decide +kernel
theorem dX5_raise_5 : decode cX5_raise 5 = .ok (.getfield 10, 3) := by decide +kernel
theorem dX5_raise_8 : decode cX5_raise 8 = .ok (.invokevirtual 55, 3) := by decide +kernel
theorem dX5_raise_11 : decode cX5_raise 11 = .ok (.pop, 1) := by decide +kernel
theorem dX5_raise_12 : decode cX5_raise 12 = .ok (.iconst 0, 1) := by decide +kernel
theorem dX5_raise_13 : decode cX5_raise 13 = .ok (.istore_n 1, 1) := by decide +kernel
theorem dX5_raise_14 : decode cX5_raise 14 = .ok (.iconst 0, 1) := by decide +kernel
theorem dX5_raise_15 : decode cX5_raise 15 = .ok (.istore_n 2, 1) := by decide +kernel
theorem dX5_raise_16 : decode cX5_raise 16 = .ok (.iload_n 2, 1) := by decide +kernel
theorem dX5_raise_17 : decode cX5_raise 17 = .ok (.bipush 32, 2) := by decide +kernel
theorem dX5_raise_19 : decode cX5_raise 19 = .ok (.if_icmp .ge 47, 3) := by decide +kernel
theorem dX5_raise_22 : decode cX5_raise 22 = .ok (.aload_n 0, 1) := by decide +kernel
theorem dX5_raise_23 : decode cX5_raise 23 = .ok (.getfield 10, 3) := by decide +kernel
theorem dX5_raise_26 : decode cX5_raise 26 = .ok (.getfield 59, 3) := by decide +kernel
theorem dX5_raise_29 : decode cX5_raise 29 = .ok (.iload_n 2, 1) := by decide +kernel
theorem dX5_raise_30 : decode cX5_raise 30 = .ok (.iaload, 1) := by decide +kernel
theorem dX5_raise_31 : decode cX5_raise 31 = .ok (.istore_n 3, 1) := by decide +kernel
theorem dX5_raise_32 : decode cX5_raise 32 = .ok (.iload_n 3, 1) := by decide +kernel
theorem dX5_raise_33 : decode cX5_raise 33 = .ok (.bipush 9, 2) := by decide +kernel
theorem dX5_raise_35 : decode cX5_raise 35 = .ok (.invokestatic 63, 3) := by decide +kernel
theorem dX5_raise_38 : decode cX5_raise 38 = .ok (.ifCond .eq 6, 3) := by decide +kernel
theorem dX5_raise_41 : decode cX5_raise 41 = .ok (.iinc 1 1, 3) := by decide +kernel
theorem dX5_raise_44 : decode cX5_raise 44 = .ok (.aload_n 0, 1) := by decide +kernel
theorem dX5_raise_45 : decode cX5_raise 45 = .ok (.getfield 10, 3) := by decide +kernel
theorem dX5_raise_48 : decode cX5_raise 48 = .ok (.getfield 59, 3) := by decide +kernel
theorem dX5_raise_51 : decode cX5_raise 51 = .ok (.iload_n 2, 1) := by decide +kernel
theorem dX5_raise_52 : decode cX5_raise 52 = .ok (.iload_n 3, 1) := by decide +kernel
theorem dX5_raise_53 : decode cX5_raise 53 = .ok (.iconst 1, 1) := by decide +kernel
theorem dX5_raise_54 : decode cX5_raise 54 = .ok (.ishl, 1) := by decide +kernel
theorem dX5_raise_55 : decode cX5_raise 55 = .ok (.sipush 1023, 3) := by decide +kernel
theorem dX5_raise_58 : decode cX5_raise 58 = .ok (.iand, 1) := by decide +kernel
theorem dX5_raise_59 : decode cX5_raise 59 = .ok (.iastore, 1) := by decide +kernel
theorem dX5_raise_60 : decode cX5_raise 60 = .ok (.iinc 2 1, 3) := by decide +kernel
theorem dX5_raise_63 : decode cX5_raise 63 = .ok (.goto (-47), 3) := by decide +kernel
theorem dX5_raise_66 : decode cX5_raise 66 = .ok (.iload_n 1, 1) := by decide +kernel
theorem dX5_raise_67 : decode cX5_raise 67 = .ok (.ireturn, 1) := by decide +kernel
set_option maxRecDepth 20000 in
theorem ggX5_crank_X2_add : GoodIn wsX5_crank wsX2_add := goodIn_r _ [9, 10, 11, 12, 13, 14, 8, 15, 16, 17, 18, 19, 20, 21, 22, 23, 24, 25, 26, 27, 28, 29, 30, 31, 32, 33, 34, 35, 36, 37, 38, 39, 40, 41, 89, 90, 91, 92, 93, 94, 95, 96, 97, 98, 99, 100, 101] (by decide +kernel) (by decide +kernel)
set_option maxRecDepth 20000 in
theorem gX5_crank_X2_add : GoodIn wsX5_crank (wsV RX5 55 RX2 yX2_add wsX2_add) := goodIn_app (goodIn_of _ (by decide +kernel)) ggX5_crank_X2_add
set_option maxRecDepth 20000 in
theorem ggX5_crank_X0_strikeColumns : GoodIn wsX5_crank wsX0_strikeColumns := goodIn_r _ [45, 33, 46, 47, 48, 19, 49, 29, 34, 21, 31, 32, 26, 50, 51, 52, 53, 27, 30, 54, 55, 56, 38, 57, 58, 59, 60, 61, 62, 63, 64, 40, 65, 66, 67, 68, 69, 70, 71, 72, 73, 74, 75, 76, 28, 77, 78, 79, 80, 81, 82, 83, 91, 92, 93, 94, 95, 96, 97, 98, 99, 100, 101] (by decide +kernel) (by decide +kernel)
set_option maxRecDepth 20000 in
theorem gX5_crank_X0_strikeColumns : GoodIn wsX5_crank (wsV RX5 105 RX0 yX0_strikeColumns wsX0_strikeColumns) := goodIn_app (goodIn_of _ (by decide +kernel)) ggX5_crank_X0_strikeColumns
theorem dX5_crank_0 : decode cX5_crank 0 = .ok (.iload_n 1, 1) := by decide +kernel
theorem dX5_crank_1 : decode cX5_crank 1 = .ok (.iconst 1, 1) := by decide +kernel
theorem dX5_crank_2 : decode cX5_crank 2 = .ok (.if_icmp .lt 10, 3) := by decide +kernel
theorem dX5_crank_5 : decode cX5_crank 5 = .ok (.iload_n 1, 1) := by decide +kernel
theorem dX5_crank_6 : decode cX5_crank 6 = .ok (.sipush 200, 3) := by decide +kernel
theorem dX5_crank_9 : decode cX5_crank 9 = .ok (.if_icmp .le 13, 3) := by decide +kernel
theorem dX5_crank_12 : decode cX5_crank 12 = .ok (.new 69, 3) := by decide +kernel
theorem dX5_crank_15 : decode cX5_crank 15 = .ok (.dup, 1) := by decide +kernel
theorem dX5_crank_16 : decode cX5_crank 16 = .ok (.ldc 103, 2) := by decide +kernel
theorem dX5_crank_18 : decode cX5_crank 18 = .ok (.invokespecial 73, 3) := by decide +kernel
theorem dX5_crank_21 : decode cX5_crank 21 = .ok (.athrow, 1) := by decide +kernel
theorem dX5_crank_22 : decode cX5_crank 22 = .ok (.aload_n 0, 1) := by decide +kernel
theorem dX5_crank_23 : decode cX5_crank 23 = .ok (.getfield 33, 3) := by decide +kernel
theorem dX5_crank_26 : decode cX5_crank 26 = .ok (.aload_n 0, 1) := by decide +kernel
theorem dX5_crank_27 : decode cX5_crank 27 = .ok (.getfield 10, 3) := by decide +kernel
theorem dX5_crank_30 : decode cX5_crank 30 = .ok (.invokevirtual 55, 3) := by decide +kernel
theorem dX5_crank_33 : decode cX5_crank 33 = .ok (.pop, 1) := by decide +kernel
theorem dX5_crank_34 : decode cX5_crank 34 = .ok (.aload_n 0, 1) := by decide +kernel
theorem dX5_crank_35 : decode cX5_crank 35 = .ok (.getfield 10, 3) := by decide +kernel
theorem dX5_crank_38 : decode cX5_crank 38 = .ok (.iload_n 1, 1) := by decide +kernel
theorem dX5_crank_39 : decode cX5_crank 39 = .ok (.invokevirtual 105, 3) := by decide +kernel
theorem dX5_crank_42 : decode cX5_crank 42 = .ok (.ireturn, 1) := by decide +kernel
set_option maxRecDepth 20000 in
theorem ggX5_turnBack_X2_add : GoodIn wsX5_turnBack wsX2_add := goodIn_r _ [9, 10, 11, 12, 13, 14, 8, 15, 16, 17, 18, 19, 20, 21, 22, 23, 24, 25, 26, 27, 28, 29, 30, 31, 32, 33, 34, 35, 36, 37, 38, 39, 40, 41, 65, 66, 55, 56, 57, 58, 59, 60, 61, 62, 63, 64, 67] (by decide +kernel) (by decide +kernel)
set_option maxRecDepth 20000 in
theorem gX5_turnBack_X2_add : GoodIn wsX5_turnBack (wsV RX5 55 RX2 yX2_add wsX2_add) := goodIn_app (goodIn_of _ (by decide +kernel)) ggX5_turnBack_X2_add
set_option maxRecDepth 20000 in
theorem ggX5_turnBack_X1_allBack : GoodIn wsX5_turnBack wsX1_allBack := goodIn_r _ [45, 40, 46, 47, 48, 49, 67] (by decide +kernel) (by decide +kernel)
set_option maxRecDepth 20000 in
theorem gX5_turnBack_X1_allBack : GoodIn wsX5_turnBack (wsV RX5 116 RX1 yX1_allBack wsX1_allBack) := goodIn_app (goodIn_of _ (by decide +kernel)) ggX5_turnBack_X1_allBack
theorem dX5_turnBack_0 : decode cX5_turnBack 0 = .ok (.aload_n 0, 1) := by decide +kernel
theorem dX5_turnBack_1 : decode cX5_turnBack 1 = .ok (.getfield 33, 3) := by decide +kernel
theorem dX5_turnBack_4 : decode cX5_turnBack 4 = .ok (.aload_n 0, 1) := by decide +kernel
theorem dX5_turnBack_5 : decode cX5_turnBack 5 = .ok (.getfield 10, 3) := by decide +kernel
theorem dX5_turnBack_8 : decode cX5_turnBack 8 = .ok (.invokevirtual 55, 3) := by decide +kernel
theorem dX5_turnBack_11 : decode cX5_turnBack 11 = .ok (.astore_n 1, 1) := by decide +kernel
theorem dX5_turnBack_12 : decode cX5_turnBack 12 = .ok (.aload_n 0, 1) := by decide +kernel
theorem dX5_turnBack_13 : decode cX5_turnBack 13 = .ok (.getfield 10, 3) := by decide +kernel
theorem dX5_turnBack_16 : decode cX5_turnBack 16 = .ok (.iconst 0, 1) := by decide +kernel
theorem dX5_turnBack_17 : decode cX5_turnBack 17 = .ok (.putfield 109, 3) := by decide +kernel
theorem dX5_turnBack_20 : decode cX5_turnBack 20 = .ok (.aload_n 0, 1) := by decide +kernel
theorem dX5_turnBack_21 : decode cX5_turnBack 21 = .ok (.getfield 10, 3) := by decide +kernel
theorem dX5_turnBack_24 : decode cX5_turnBack 24 = .ok (.getfield 112, 3) := by decide +kernel
theorem dX5_turnBack_27 : decode cX5_turnBack 27 = .ok (.invokevirtual 116, 3) := by decide +kernel
theorem dX5_turnBack_30 : decode cX5_turnBack 30 = .ok (.aload_n 1, 1) := by decide +kernel
theorem dX5_turnBack_31 : decode cX5_turnBack 31 = .ok (.getfield 109, 3) := by decide +kernel
theorem dX5_turnBack_34 : decode cX5_turnBack 34 = .ok (.ireturn, 1) := by decide +kernel
set_option maxRecDepth 20000 in
theorem ggX5_read_X3_firstFault : GoodIn wsX5_read wsX3_firstFault := goodIn_r _ [11, 12, 13, 14, 15, 10, 16, 17, 18, 19, 20, 21, 22, 23, 24, 25, 26, 27, 28, 155, 156] (by decide +kernel) (by decide +kernel)
set_option maxRecDepth 20000 in
theorem gX5_read_X3_firstFault : GoodIn wsX5_read (wsV RX5 121 RX3 yX3_firstFault wsX3_firstFault) := goodIn_app (goodIn_of _ (by decide +kernel)) ggX5_read_X3_firstFault
set_option maxRecDepth 20000 in
theorem ggX5_read_X2_add : GoodIn wsX5_read wsX2_add := goodIn_r _ [33, 34, 35, 36, 37, 38, 32, 39, 40, 41, 42, 43, 44, 45, 46, 47, 48, 49, 50, 51, 52, 53, 54, 55, 56, 57, 58, 59, 60, 61, 62, 63, 64, 65, 157, 158, 159, 160, 161, 162, 163, 164, 165, 166, 167, 168, 169] (by decide +kernel) (by decide +kernel)
set_option maxRecDepth 20000 in
theorem gX5_read_X2_add : GoodIn wsX5_read (wsV RX5 55 RX2 yX2_add wsX2_add) := goodIn_app (goodIn_of _ (by decide +kernel)) ggX5_read_X2_add
set_option maxRecDepth 20000 in
theorem ggX5_read_X3_at : GoodIn wsX5_read wsX3_at := goodIn_r _ [69, 12, 13, 155, 156] (by decide +kernel) (by decide +kernel)
set_option maxRecDepth 20000 in
theorem gX5_read_X3_at : GoodIn wsX5_read (wsV RX5 130 RX3 yX3_at wsX3_at) := goodIn_app (goodIn_of _ (by decide +kernel)) ggX5_read_X3_at
set_option maxRecDepth 20000 in
theorem ggX5_read_X5_doPart : GoodIn wsX5_read wsX5_doPart := goodIn_r _ [74, 3, 5, 66, 67, 68, 10, 69, 12, 13, 75, 76, 77, 78, 79, 80, 81, 82, 43, 83, 57, 84, 85, 86, 87, 53, 58, 45, 55, 56, 50, 88, 89, 90, 91, 51, 54, 92, 93, 94, 62, 95, 96, 73, 97, 98, 99, 100, 101, 64, 102, 103, 104, 105, 106, 107, 108, 109, 110, 111, 112, 113, 52, 114, 115, 116, 117, 118, 119, 120, 121, 122, 123, 124, 125, 126, 127, 128, 129, 130, 131, 132, 133, 134, 135, 136, 137, 138, 139, 140, 141, 142, 143, 144, 145, 150, 151, 152, 153, 154, 155, 156, 159, 160, 161, 162, 163, 164, 165, 166, 167, 168, 169] (by decide +kernel) (by decide +kernel)
set_option maxRecDepth 20000 in
theorem gX5_read_X5_doPart : GoodIn wsX5_read (wsV RX5 134 RX5 yX5_doPart wsX5_doPart) := goodIn_app (goodIn_of _ (by decide +kernel)) ggX5_read_X5_doPart
set_option maxRecDepth 20000 in
theorem ggX5_read_X3_clear : GoodIn wsX5_read wsX3_clear := goodIn_r _ [149, 12, 155, 156] (by decide +kernel) (by decide +kernel)
set_option maxRecDepth 20000 in
theorem gX5_read_X3_clear : GoodIn wsX5_read (wsV RX5 138 RX3 yX3_clear wsX3_clear) := goodIn_app (goodIn_of _ (by decide +kernel)) ggX5_read_X3_clear
theorem dX5_read_0 : decode cX5_read 0 = .ok (.aload_n 0, 1) := by decide +kernel
theorem dX5_read_1 : decode cX5_read 1 = .ok (.getfield 26, 3) := by decide +kernel
theorem dX5_read_4 : decode cX5_read 4 = .ok (.invokevirtual 121, 3) := by decide +kernel
theorem dX5_read_7 : decode cX5_read 7 = .ok (.iconst (-1), 1) := by decide +kernel
theorem dX5_read_8 : decode cX5_read 8 = .ok (.if_icmp .eq 13, 3) := by decide +kernel
theorem dX5_read_11 : decode cX5_read 11 = .ok (.new 69, 3) := by decide +kernel
theorem dX5_read_14 : decode cX5_read 14 = .ok (.dup, 1) := by decide +kernel
theorem dX5_read_15 : decode cX5_read 15 = .ok (.ldc 125, 2) := by decide +kernel
theorem dX5_read_17 : decode cX5_read 17 = .ok (.invokespecial 73, 3) := by decide +kernel
theorem dX5_read_20 : decode cX5_read 20 = .ok (.athrow, 1) := by decide +kernel
theorem dX5_read_21 : decode cX5_read 21 = .ok (.aload_n 0, 1) := by decide +kernel
theorem dX5_read_22 : decode cX5_read 22 = .ok (.getfield 33, 3) := by decide +kernel
theorem dX5_read_25 : decode cX5_read 25 = .ok (.aload_n 0, 1) := by decide +kernel
theorem dX5_read_26 : decode cX5_read 26 = .ok (.getfield 10, 3) := by decide +kernel
theorem dX5_read_29 : decode cX5_read 29 = .ok (.invokevirtual 55, 3) := by decide +kernel
theorem dX5_read_32 : decode cX5_read 32 = .ok (.pop, 1) := by decide +kernel
theorem dX5_read_33 : decode cX5_read 33 = .ok (.iconst 0, 1) := by decide +kernel
theorem dX5_read_34 : decode cX5_read 34 = .ok (.istore_n 1, 1) := by decide +kernel
theorem dX5_read_35 : decode cX5_read 35 = .ok (.iconst 0, 1) := by decide +kernel
theorem dX5_read_36 : decode cX5_read 36 = .ok (.istore_n 2, 1) := by decide +kernel
theorem dX5_read_37 : decode cX5_read 37 = .ok (.iconst 0, 1) := by decide +kernel
theorem dX5_read_38 : decode cX5_read 38 = .ok (.istore_n 3, 1) := by decide +kernel
theorem dX5_read_39 : decode cX5_read 39 = .ok (.iload_n 3, 1) := by decide +kernel
theorem dX5_read_40 : decode cX5_read 40 = .ok (.aload_n 0, 1) := by decide +kernel
theorem dX5_read_41 : decode cX5_read 41 = .ok (.getfield 26, 3) := by decide +kernel
theorem dX5_read_44 : decode cX5_read 44 = .ok (.getfield 127, 3) := by decide +kernel
theorem dX5_read_47 : decode cX5_read 47 = .ok (.if_icmp .gt 46, 3) := by decide +kernel
theorem dX5_read_50 : decode cX5_read 50 = .ok (.iload_n 3, 1) := by decide +kernel
theorem dX5_read_51 : decode cX5_read 51 = .ok (.aload_n 0, 1) := by decide +kernel
theorem dX5_read_52 : decode cX5_read 52 = .ok (.getfield 26, 3) := by decide +kernel
theorem dX5_read_55 : decode cX5_read 55 = .ok (.getfield 127, 3) := by decide +kernel
theorem dX5_read_58 : decode cX5_read 58 = .ok (.if_icmp .eq 16, 3) := by decide +kernel
theorem dX5_read_61 : decode cX5_read 61 = .ok (.aload_n 0, 1) := by decide +kernel
theorem dX5_read_62 : decode cX5_read 62 = .ok (.getfield 26, 3) := by decide +kernel
theorem dX5_read_65 : decode cX5_read 65 = .ok (.iload_n 3, 1) := by decide +kernel
theorem dX5_read_66 : decode cX5_read 66 = .ok (.invokevirtual 130, 3) := by decide +kernel
theorem dX5_read_69 : decode cX5_read 69 = .ok (.bipush 59, 2) := by decide +kernel
theorem dX5_read_71 : decode cX5_read 71 = .ok (.if_icmp .ne 16, 3) := by decide +kernel
theorem dX5_read_74 : decode cX5_read 74 = .ok (.iload_n 1, 1) := by decide +kernel
theorem dX5_read_75 : decode cX5_read 75 = .ok (.aload_n 0, 1) := by decide +kernel
theorem dX5_read_76 : decode cX5_read 76 = .ok (.iload_n 2, 1) := by decide +kernel
theorem dX5_read_77 : decode cX5_read 77 = .ok (.iload_n 3, 1) := by decide +kernel
theorem dX5_read_78 : decode cX5_read 78 = .ok (.invokevirtual 134, 3) := by decide +kernel
theorem dX5_read_81 : decode cX5_read 81 = .ok (.iadd, 1) := by decide +kernel
theorem dX5_read_82 : decode cX5_read 82 = .ok (.istore_n 1, 1) := by decide +kernel
theorem dX5_read_83 : decode cX5_read 83 = .ok (.iload_n 3, 1) := by decide +kernel
theorem dX5_read_84 : decode cX5_read 84 = .ok (.iconst 1, 1) := by decide +kernel
theorem dX5_read_85 : decode cX5_read 85 = .ok (.iadd, 1) := by decide +kernel
theorem dX5_read_86 : decode cX5_read 86 = .ok (.istore_n 2, 1) := by decide +kernel
theorem dX5_read_87 : decode cX5_read 87 = .ok (.iinc 3 1, 3) := by decide +kernel
theorem dX5_read_90 : decode cX5_read 90 = .ok (.goto (-51), 3) := by decide +kernel
theorem dX5_read_93 : decode cX5_read 93 = .ok (.aload_n 0, 1) := by decide +kernel
theorem dX5_read_94 : decode cX5_read 94 = .ok (.getfield 26, 3) := by decide +kernel
theorem dX5_read_97 : decode cX5_read 97 = .ok (.invokevirtual 138, 3) := by decide +kernel
theorem dX5_read_100 : decode cX5_read 100 = .ok (.iload_n 1, 1) := by decide +kernel
theorem dX5_read_101 : decode cX5_read 101 = .ok (.ireturn, 1) := by decide +kernel
set_option maxRecDepth 20000 in
theorem ggX5_pegsIn_X5_isColumn : GoodIn wsX5_pegsIn wsX5_isColumn := goodIn_r _ [8] (by decide +kernel) (by decide +kernel)
set_option maxRecDepth 20000 in
theorem gX5_pegsIn_X5_isColumn : GoodIn wsX5_pegsIn (va_wsS RX5 41 yX5_isColumn wsX5_isColumn) := goodIn_app (goodIn_of _ (by decide +kernel)) ggX5_pegsIn_X5_isColumn
theorem dX5_pegsIn_0 : decode cX5_pegsIn 0 = .ok (.iload_n 1, 1) := by decide +kernel
theorem dX5_pegsIn_1 : decode cX5_pegsIn 1 = .ok (.invokestatic 41, 3) := by decide +kernel
theorem dX5_pegsIn_4 : decode cX5_pegsIn 4 = .ok (.ifCond .ne 13, 3) := by decide +kernel
theorem dX5_pegsIn_7 : decode cX5_pegsIn 7 = .ok (.new 48, 3) := by decide +kernel
theorem dX5_pegsIn_10 : decode cX5_pegsIn 10 = .ok (.dup, 1) := by decide +kernel
theorem dX5_pegsIn_11 : decode cX5_pegsIn 11 = .ok (.ldc 67, 2) := by decide +kernel
theorem dX5_pegsIn_13 : decode cX5_pegsIn 13 = .ok (.invokespecial 52, 3) := by decide +kernel
theorem dX5_pegsIn_16 : decode cX5_pegsIn 16 = .ok (.athrow, 1) := by decide +kernel
theorem dX5_pegsIn_17 : decode cX5_pegsIn 17 = .ok (.aload_n 0, 1) := by decide +kernel
theorem dX5_pegsIn_18 : decode cX5_pegsIn 18 = .ok (.getfield 10, 3) := by decide +kernel
theorem dX5_pegsIn_21 : decode cX5_pegsIn 21 = .ok (.getfield 59, 3) := by decide +kernel
theorem dX5_pegsIn_24 : decode cX5_pegsIn 24 = .ok (.iload_n 1, 1) := by decide +kernel
theorem dX5_pegsIn_25 : decode cX5_pegsIn 25 = .ok (.iaload, 1) := by decide +kernel
theorem dX5_pegsIn_26 : decode cX5_pegsIn 26 = .ok (.ireturn, 1) := by decide +kernel
set_option maxRecDepth 20000 in
theorem ggX5_pegs_X0_countPegs : GoodIn wsX5_pegs wsX0_countPegs := goodIn_r _ [6, 7, 8, 9, 10, 11, 12, 13, 14, 20, 21, 22, 23, 24, 25, 26, 27, 28, 29] (by decide +kernel) (by decide +kernel)
set_option maxRecDepth 20000 in
theorem gX5_pegs_X0_countPegs : GoodIn wsX5_pegs (wsV RX5 141 RX0 yX0_countPegs wsX0_countPegs) := goodIn_app (goodIn_of _ (by decide +kernel)) ggX5_pegs_X0_countPegs
theorem dX5_pegs_0 : decode cX5_pegs 0 = .ok (.aload_n 0, 1) := by decide +kernel
theorem dX5_pegs_1 : decode cX5_pegs 1 = .ok (.getfield 10, 3) := by decide +kernel
theorem dX5_pegs_4 : decode cX5_pegs 4 = .ok (.invokevirtual 141, 3) := by decide +kernel
theorem dX5_pegs_7 : decode cX5_pegs 7 = .ok (.ireturn, 1) := by decide +kernel
set_option maxRecDepth 20000 in
theorem ggX5_tempoOf_X5_isBar : GoodIn wsX5_tempoOf wsX5_isBar := goodIn_r _ [8] (by decide +kernel) (by decide +kernel)
set_option maxRecDepth 20000 in
theorem gX5_tempoOf_X5_isBar : GoodIn wsX5_tempoOf (va_wsS RX5 78 yX5_isBar wsX5_isBar) := goodIn_app (goodIn_of _ (by decide +kernel)) ggX5_tempoOf_X5_isBar
theorem dX5_tempoOf_0 : decode cX5_tempoOf 0 = .ok (.iload_n 1, 1) := by decide +kernel
theorem dX5_tempoOf_1 : decode cX5_tempoOf 1 = .ok (.invokestatic 78, 3) := by decide +kernel
theorem dX5_tempoOf_4 : decode cX5_tempoOf 4 = .ok (.ifCond .ne 13, 3) := by decide +kernel
theorem dX5_tempoOf_7 : decode cX5_tempoOf 7 = .ok (.new 48, 3) := by decide +kernel
theorem dX5_tempoOf_10 : decode cX5_tempoOf 10 = .ok (.dup, 1) := by decide +kernel
theorem dX5_tempoOf_11 : decode cX5_tempoOf 11 = .ok (.ldc 81, 2) := by decide +kernel
theorem dX5_tempoOf_13 : decode cX5_tempoOf 13 = .ok (.invokespecial 52, 3) := by decide +kernel
theorem dX5_tempoOf_16 : decode cX5_tempoOf 16 = .ok (.athrow, 1) := by decide +kernel
theorem dX5_tempoOf_17 : decode cX5_tempoOf 17 = .ok (.aload_n 0, 1) := by decide +kernel
theorem dX5_tempoOf_18 : decode cX5_tempoOf 18 = .ok (.getfield 10, 3) := by decide +kernel
theorem dX5_tempoOf_21 : decode cX5_tempoOf 21 = .ok (.getfield 85, 3) := by decide +kernel
theorem dX5_tempoOf_24 : decode cX5_tempoOf 24 = .ok (.iload_n 1, 1) := by decide +kernel
theorem dX5_tempoOf_25 : decode cX5_tempoOf 25 = .ok (.iaload, 1) := by decide +kernel
theorem dX5_tempoOf_26 : decode cX5_tempoOf 26 = .ok (.ireturn, 1) := by decide +kernel
set_option maxRecDepth 20000 in
theorem ggX5_weightOf_X5_isBell : GoodIn wsX5_weightOf wsX5_isBell := goodIn_r _ [8] (by decide +kernel) (by decide +kernel)
set_option maxRecDepth 20000 in
theorem gX5_weightOf_X5_isBell : GoodIn wsX5_weightOf (va_wsS RX5 45 yX5_isBell wsX5_isBell) := goodIn_app (goodIn_of _ (by decide +kernel)) ggX5_weightOf_X5_isBell
theorem dX5_weightOf_0 : decode cX5_weightOf 0 = .ok (.iload_n 1, 1) := by decide +kernel
theorem dX5_weightOf_1 : decode cX5_weightOf 1 = .ok (.invokestatic 45, 3) := by decide +kernel
theorem dX5_weightOf_4 : decode cX5_weightOf 4 = .ok (.ifCond .ne 13, 3) := by decide +kernel
theorem dX5_weightOf_7 : decode cX5_weightOf 7 = .ok (.new 48, 3) := by decide +kernel
theorem dX5_weightOf_10 : decode cX5_weightOf 10 = .ok (.dup, 1) := by decide +kernel
theorem dX5_weightOf_11 : decode cX5_weightOf 11 = .ok (.ldc 88, 2) := by decide +kernel
theorem dX5_weightOf_13 : decode cX5_weightOf 13 = .ok (.invokespecial 52, 3) := by decide +kernel
theorem dX5_weightOf_16 : decode cX5_weightOf 16 = .ok (.athrow, 1) := by decide +kernel
theorem dX5_weightOf_17 : decode cX5_weightOf 17 = .ok (.aload_n 0, 1) := by decide +kernel
theorem dX5_weightOf_18 : decode cX5_weightOf 18 = .ok (.getfield 10, 3) := by decide +kernel
theorem dX5_weightOf_21 : decode cX5_weightOf 21 = .ok (.getfield 92, 3) := by decide +kernel
theorem dX5_weightOf_24 : decode cX5_weightOf 24 = .ok (.iload_n 1, 1) := by decide +kernel
theorem dX5_weightOf_25 : decode cX5_weightOf 25 = .ok (.iaload, 1) := by decide +kernel
theorem dX5_weightOf_26 : decode cX5_weightOf 26 = .ok (.ireturn, 1) := by decide +kernel
theorem dX5_column_0 : decode cX5_column 0 = .ok (.aload_n 0, 1) := by decide +kernel
theorem dX5_column_1 : decode cX5_column 1 = .ok (.getfield 10, 3) := by decide +kernel
theorem dX5_column_4 : decode cX5_column 4 = .ok (.getfield 109, 3) := by decide +kernel
theorem dX5_column_7 : decode cX5_column 7 = .ok (.ireturn, 1) := by decide +kernel
theorem dX5_time_0 : decode cX5_time 0 = .ok (.aload_n 0, 1) := by decide +kernel
theorem dX5_time_1 : decode cX5_time 1 = .ok (.getfield 10, 3) := by decide +kernel
theorem dX5_time_4 : decode cX5_time 4 = .ok (.getfield 144, 3) := by decide +kernel
theorem dX5_time_7 : decode cX5_time 7 = .ok (.ireturn, 1) := by decide +kernel
set_option maxRecDepth 20000 in
theorem ggX5_heardOf_X5_isBell : GoodIn wsX5_heardOf wsX5_isBell := goodIn_r _ [8] (by decide +kernel) (by decide +kernel)
set_option maxRecDepth 20000 in
theorem gX5_heardOf_X5_isBell : GoodIn wsX5_heardOf (va_wsS RX5 45 yX5_isBell wsX5_isBell) := goodIn_app (goodIn_of _ (by decide +kernel)) ggX5_heardOf_X5_isBell
theorem dX5_heardOf_0 : decode cX5_heardOf 0 = .ok (.iload_n 1, 1) := by decide +kernel
theorem dX5_heardOf_1 : decode cX5_heardOf 1 = .ok (.invokestatic 45, 3) := by decide +kernel
theorem dX5_heardOf_4 : decode cX5_heardOf 4 = .ok (.ifCond .ne 13, 3) := by decide +kernel
theorem dX5_heardOf_7 : decode cX5_heardOf 7 = .ok (.new 48, 3) := by decide +kernel
theorem dX5_heardOf_10 : decode cX5_heardOf 10 = .ok (.dup, 1) := by decide +kernel
theorem dX5_heardOf_11 : decode cX5_heardOf 11 = .ok (.ldc 88, 2) := by decide +kernel
theorem dX5_heardOf_13 : decode cX5_heardOf 13 = .ok (.invokespecial 52, 3) := by decide +kernel
theorem dX5_heardOf_16 : decode cX5_heardOf 16 = .ok (.athrow, 1) := by decide +kernel
theorem dX5_heardOf_17 : decode cX5_heardOf 17 = .ok (.aload_n 0, 1) := by decide +kernel
theorem dX5_heardOf_18 : decode cX5_heardOf 18 = .ok (.getfield 10, 3) := by decide +kernel
theorem dX5_heardOf_21 : decode cX5_heardOf 21 = .ok (.getfield 147, 3) := by decide +kernel
theorem dX5_heardOf_24 : decode cX5_heardOf 24 = .ok (.iload_n 1, 1) := by decide +kernel
theorem dX5_heardOf_25 : decode cX5_heardOf 25 = .ok (.iaload, 1) := by decide +kernel
theorem dX5_heardOf_26 : decode cX5_heardOf 26 = .ok (.ireturn, 1) := by decide +kernel
set_option maxRecDepth 20000 in
theorem ggX5_heard_X0_sumOfTimesHeard : GoodIn wsX5_heard wsX0_sumOfTimesHeard := goodIn_r _ [7, 8, 14, 15, 16, 17, 18, 19, 20, 21, 22, 23] (by decide +kernel) (by decide +kernel)
set_option maxRecDepth 20000 in
theorem gX5_heard_X0_sumOfTimesHeard : GoodIn wsX5_heard (wsV RX5 150 RX0 yX0_sumOfTimesHeard wsX0_sumOfTimesHeard) := goodIn_app (goodIn_of _ (by decide +kernel)) ggX5_heard_X0_sumOfTimesHeard
theorem dX5_heard_0 : decode cX5_heard 0 = .ok (.iload_n 1, 1) := by decide +kernel
theorem dX5_heard_1 : decode cX5_heard 1 = .ok (.ifCond .eq 13, 3) := by decide +kernel
theorem dX5_heard_4 : decode cX5_heard 4 = .ok (.aload_n 0, 1) := by decide +kernel
theorem dX5_heard_5 : decode cX5_heard 5 = .ok (.getfield 10, 3) := by decide +kernel
theorem dX5_heard_8 : decode cX5_heard 8 = .ok (.invokevirtual 150, 3) := by decide +kernel
theorem dX5_heard_11 : decode cX5_heard 11 = .ok (.goto 10, 3) := by decide +kernel
theorem dX5_heard_14 : decode cX5_heard 14 = .ok (.aload_n 0, 1) := by decide +kernel
theorem dX5_heard_15 : decode cX5_heard 15 = .ok (.getfield 10, 3) := by decide +kernel
theorem dX5_heard_18 : decode cX5_heard 18 = .ok (.getfield 153, 3) := by decide +kernel
theorem dX5_heard_21 : decode cX5_heard 21 = .ok (.ireturn, 1) := by decide +kernel
theorem dX5_missed_0 : decode cX5_missed 0 = .ok (.aload_n 0, 1) := by decide +kernel
theorem dX5_missed_1 : decode cX5_missed 1 = .ok (.getfield 10, 3) := by decide +kernel
theorem dX5_missed_4 : decode cX5_missed 4 = .ok (.getfield 156, 3) := by decide +kernel
theorem dX5_missed_7 : decode cX5_missed 7 = .ok (.ireturn, 1) := by decide +kernel
set_option maxRecDepth 20000 in
theorem ggX5_whyMissed_X5_isBell : GoodIn wsX5_whyMissed wsX5_isBell := goodIn_r _ [11] (by decide +kernel) (by decide +kernel)
set_option maxRecDepth 20000 in
theorem gX5_whyMissed_X5_isBell : GoodIn wsX5_whyMissed (va_wsS RX5 45 yX5_isBell wsX5_isBell) := goodIn_app (goodIn_of _ (by decide +kernel)) ggX5_whyMissed_X5_isBell
set_option maxRecDepth 20000 in
theorem ggX5_whyMissed_X5_holds : GoodIn wsX5_whyMissed wsX5_holds := goodIn_r _ [14] (by decide +kernel) (by decide +kernel)
set_option maxRecDepth 20000 in
theorem gX5_whyMissed_X5_holds : GoodIn wsX5_whyMissed (va_wsS RX5 63 yX5_holds wsX5_holds) := goodIn_app (goodIn_of _ (by decide +kernel)) ggX5_whyMissed_X5_holds
set_option maxRecDepth 20000 in
theorem ggX5_whyMissed_X1_isBack : GoodIn wsX5_whyMissed wsX1_isBack := goodIn_r _ [19, 20, 51] (by decide +kernel) (by decide +kernel)
set_option maxRecDepth 20000 in
theorem gX5_whyMissed_X1_isBack : GoodIn wsX5_whyMissed (wsV RX5 159 RX1 yX1_isBack wsX1_isBack) := goodIn_app (goodIn_of _ (by decide +kernel)) ggX5_whyMissed_X1_isBack
set_option maxRecDepth 20000 in
theorem ggX5_whyMissed_X0_heardAtHand : GoodIn wsX5_whyMissed wsX0_heardAtHand := goodIn_r _ [25, 26, 27, 28, 29, 30, 31, 32, 33, 18, 34, 13, 10, 14, 35, 16, 17, 19, 20, 41, 42, 43, 44, 45, 46, 47, 48, 49, 50, 51] (by decide +kernel) (by decide +kernel)
set_option maxRecDepth 20000 in
theorem gX5_whyMissed_X0_heardAtHand : GoodIn wsX5_whyMissed (wsV RX5 162 RX0 yX0_heardAtHand wsX0_heardAtHand) := goodIn_app (goodIn_of _ (by decide +kernel)) ggX5_whyMissed_X0_heardAtHand
theorem dX5_whyMissed_0 : decode cX5_whyMissed 0 = .ok (.iload_n 1, 1) := by decide +kernel
theorem dX5_whyMissed_1 : decode cX5_whyMissed 1 = .ok (.invokestatic 45, 3) := by decide +kernel
theorem dX5_whyMissed_4 : decode cX5_whyMissed 4 = .ok (.ifCond .ne 13, 3) := by decide +kernel
theorem dX5_whyMissed_7 : decode cX5_whyMissed 7 = .ok (.new 48, 3) := by decide +kernel
theorem dX5_whyMissed_10 : decode cX5_whyMissed 10 = .ok (.dup, 1) := by decide +kernel
theorem dX5_whyMissed_11 : decode cX5_whyMissed 11 = .ok (.ldc 88, 2) := by decide +kernel
theorem dX5_whyMissed_13 : decode cX5_whyMissed 13 = .ok (.invokespecial 52, 3) := by decide +kernel
theorem dX5_whyMissed_16 : decode cX5_whyMissed 16 = .ok (.athrow, 1) := by decide +kernel
theorem dX5_whyMissed_17 : decode cX5_whyMissed 17 = .ok (.aload_n 0, 1) := by decide +kernel
theorem dX5_whyMissed_18 : decode cX5_whyMissed 18 = .ok (.getfield 10, 3) := by decide +kernel
theorem dX5_whyMissed_21 : decode cX5_whyMissed 21 = .ok (.getfield 59, 3) := by decide +kernel
theorem dX5_whyMissed_24 : decode cX5_whyMissed 24 = .ok (.aload_n 0, 1) := by decide +kernel
theorem dX5_whyMissed_25 : decode cX5_whyMissed 25 = .ok (.getfield 10, 3) := by decide +kernel
theorem dX5_whyMissed_28 : decode cX5_whyMissed 28 = .ok (.getfield 109, 3) := by decide +kernel
theorem dX5_whyMissed_31 : decode cX5_whyMissed 31 = .ok (.iaload, 1) := by decide +kernel
theorem dX5_whyMissed_32 : decode cX5_whyMissed 32 = .ok (.iload_n 1, 1) := by decide +kernel
theorem dX5_whyMissed_33 : decode cX5_whyMissed 33 = .ok (.invokestatic 63, 3) := by decide +kernel
theorem dX5_whyMissed_36 : decode cX5_whyMissed 36 = .ok (.ifCond .ne 5, 3) := by decide +kernel
theorem dX5_whyMissed_39 : decode cX5_whyMissed 39 = .ok (.iconst 3, 1) := by decide +kernel
theorem dX5_whyMissed_40 : decode cX5_whyMissed 40 = .ok (.ireturn, 1) := by decide +kernel
theorem dX5_whyMissed_41 : decode cX5_whyMissed 41 = .ok (.aload_n 0, 1) := by decide +kernel
theorem dX5_whyMissed_42 : decode cX5_whyMissed 42 = .ok (.getfield 10, 3) := by decide +kernel
theorem dX5_whyMissed_45 : decode cX5_whyMissed 45 = .ok (.getfield 112, 3) := by decide +kernel
theorem dX5_whyMissed_48 : decode cX5_whyMissed 48 = .ok (.iload_n 1, 1) := by decide +kernel
theorem dX5_whyMissed_49 : decode cX5_whyMissed 49 = .ok (.aload_n 0, 1) := by decide +kernel
theorem dX5_whyMissed_50 : decode cX5_whyMissed 50 = .ok (.getfield 10, 3) := by decide +kernel
theorem dX5_whyMissed_53 : decode cX5_whyMissed 53 = .ok (.getfield 92, 3) := by decide +kernel
theorem dX5_whyMissed_56 : decode cX5_whyMissed 56 = .ok (.iload_n 1, 1) := by decide +kernel
theorem dX5_whyMissed_57 : decode cX5_whyMissed 57 = .ok (.iaload, 1) := by decide +kernel
theorem dX5_whyMissed_58 : decode cX5_whyMissed 58 = .ok (.invokevirtual 159, 3) := by decide +kernel
theorem dX5_whyMissed_61 : decode cX5_whyMissed 61 = .ok (.ifCond .ne 5, 3) := by decide +kernel
theorem dX5_whyMissed_64 : decode cX5_whyMissed 64 = .ok (.iconst 1, 1) := by decide +kernel
theorem dX5_whyMissed_65 : decode cX5_whyMissed 65 = .ok (.ireturn, 1) := by decide +kernel
theorem dX5_whyMissed_66 : decode cX5_whyMissed 66 = .ok (.aload_n 0, 1) := by decide +kernel
theorem dX5_whyMissed_67 : decode cX5_whyMissed 67 = .ok (.getfield 10, 3) := by decide +kernel
theorem dX5_whyMissed_70 : decode cX5_whyMissed 70 = .ok (.invokevirtual 162, 3) := by decide +kernel
theorem dX5_whyMissed_73 : decode cX5_whyMissed 73 = .ok (.iload_n 1, 1) := by decide +kernel
theorem dX5_whyMissed_74 : decode cX5_whyMissed 74 = .ok (.invokestatic 63, 3) := by decide +kernel
theorem dX5_whyMissed_77 : decode cX5_whyMissed 77 = .ok (.ifCond .eq 7, 3) := by decide +kernel
theorem dX5_whyMissed_80 : decode cX5_whyMissed 80 = .ok (.iconst 0, 1) := by decide +kernel
theorem dX5_whyMissed_81 : decode cX5_whyMissed 81 = .ok (.goto 4, 3) := by decide +kernel
theorem dX5_whyMissed_84 : decode cX5_whyMissed 84 = .ok (.iconst 2, 1) := by decide +kernel
theorem dX5_whyMissed_85 : decode cX5_whyMissed 85 = .ok (.ireturn, 1) := by decide +kernel
set_option maxRecDepth 20000 in
theorem ggX5_inRound_X5_isColumn : GoodIn wsX5_inRound wsX5_isColumn := goodIn_r _ [10] (by decide +kernel) (by decide +kernel)
set_option maxRecDepth 20000 in
theorem gX5_inRound_X5_isColumn : GoodIn wsX5_inRound (va_wsS RX5 41 yX5_isColumn wsX5_isColumn) := goodIn_app (goodIn_of _ (by decide +kernel)) ggX5_inRound_X5_isColumn
set_option maxRecDepth 20000 in
theorem ggX5_inRound_X4_play : GoodIn wsX5_inRound wsX4_play := goodIn_r _ [15, 16, 17, 18, 19, 20, 21, 22, 23, 24, 25, 26, 27, 28, 29, 30, 31, 32, 33, 34, 9, 35, 36, 37, 38, 39, 40, 41, 42, 43, 44, 45, 46, 47, 48, 49, 50, 51, 52, 53, 54, 70, 71, 60, 61, 62, 63, 64, 65, 66, 67, 68, 69, 72] (by decide +kernel) (by decide +kernel)
set_option maxRecDepth 20000 in
theorem gX5_inRound_X4_play : GoodIn wsX5_inRound (wsV RX5 165 RX4 yX4_play wsX4_play) := goodIn_app (goodIn_of _ (by decide +kernel)) ggX5_inRound_X4_play
theorem dX5_inRound_0 : decode cX5_inRound 0 = .ok (.iload_n 1, 1) := by decide +kernel
theorem dX5_inRound_1 : decode cX5_inRound 1 = .ok (.invokestatic 41, 3) := by decide +kernel
theorem dX5_inRound_4 : decode cX5_inRound 4 = .ok (.ifCond .ne 13, 3) := by decide +kernel
theorem dX5_inRound_7 : decode cX5_inRound 7 = .ok (.new 48, 3) := by decide +kernel
theorem dX5_inRound_10 : decode cX5_inRound 10 = .ok (.dup, 1) := by decide +kernel
theorem dX5_inRound_11 : decode cX5_inRound 11 = .ok (.ldc 67, 2) := by decide +kernel
theorem dX5_inRound_13 : decode cX5_inRound 13 = .ok (.invokespecial 52, 3) := by decide +kernel
theorem dX5_inRound_16 : decode cX5_inRound 16 = .ok (.athrow, 1) := by decide +kernel
theorem dX5_inRound_17 : decode cX5_inRound 17 = .ok (.aload_n 0, 1) := by decide +kernel
theorem dX5_inRound_18 : decode cX5_inRound 18 = .ok (.getfield 19, 3) := by decide +kernel
theorem dX5_inRound_21 : decode cX5_inRound 21 = .ok (.aload_n 0, 1) := by decide +kernel
theorem dX5_inRound_22 : decode cX5_inRound 22 = .ok (.getfield 10, 3) := by decide +kernel
theorem dX5_inRound_25 : decode cX5_inRound 25 = .ok (.aload_n 0, 1) := by decide +kernel
theorem dX5_inRound_26 : decode cX5_inRound 26 = .ok (.getfield 10, 3) := by decide +kernel
theorem dX5_inRound_29 : decode cX5_inRound 29 = .ok (.getfield 97, 3) := by decide +kernel
theorem dX5_inRound_32 : decode cX5_inRound 32 = .ok (.invokevirtual 165, 3) := by decide +kernel
theorem dX5_inRound_35 : decode cX5_inRound 35 = .ok (.pop, 1) := by decide +kernel
theorem dX5_inRound_36 : decode cX5_inRound 36 = .ok (.aload_n 0, 1) := by decide +kernel
theorem dX5_inRound_37 : decode cX5_inRound 37 = .ok (.getfield 19, 3) := by decide +kernel
theorem dX5_inRound_40 : decode cX5_inRound 40 = .ok (.getfield 169, 3) := by decide +kernel
theorem dX5_inRound_43 : decode cX5_inRound 43 = .ok (.iload_n 1, 1) := by decide +kernel
theorem dX5_inRound_44 : decode cX5_inRound 44 = .ok (.iaload, 1) := by decide +kernel
theorem dX5_inRound_45 : decode cX5_inRound 45 = .ok (.ireturn, 1) := by decide +kernel
set_option maxRecDepth 20000 in
theorem ggX5_heardInRound_X4_play : GoodIn wsX5_heardInRound wsX4_play := goodIn_r _ [8, 9, 10, 11, 12, 13, 14, 15, 16, 17, 18, 19, 20, 21, 22, 23, 24, 25, 26, 27, 28, 29, 30, 31, 32, 33, 34, 35, 36, 37, 38, 39, 40, 41, 42, 43, 44, 45, 46, 47, 48, 68, 69, 58, 59, 60, 61, 62, 63, 64, 65, 66, 67, 70] (by decide +kernel) (by decide +kernel)
set_option maxRecDepth 20000 in
theorem gX5_heardInRound_X4_play : GoodIn wsX5_heardInRound (wsV RX5 165 RX4 yX4_play wsX4_play) := goodIn_app (goodIn_of _ (by decide +kernel)) ggX5_heardInRound_X4_play
set_option maxRecDepth 20000 in
theorem ggX5_heardInRound_X4_sumOfColumns : GoodIn wsX5_heardInRound wsX4_sumOfColumns := goodIn_r _ [52, 12, 42, 43, 44, 45, 46, 47, 48, 68, 69] (by decide +kernel) (by decide +kernel)
set_option maxRecDepth 20000 in
theorem gX5_heardInRound_X4_sumOfColumns : GoodIn wsX5_heardInRound (wsV RX5 172 RX4 yX4_sumOfColumns wsX4_sumOfColumns) := goodIn_app (goodIn_of _ (by decide +kernel)) ggX5_heardInRound_X4_sumOfColumns
theorem dX5_heardInRound_0 : decode cX5_heardInRound 0 = .ok (.aload_n 0, 1) := by decide +kernel
theorem dX5_heardInRound_1 : decode cX5_heardInRound 1 = .ok (.getfield 19, 3) := by decide +kernel
theorem dX5_heardInRound_4 : decode cX5_heardInRound 4 = .ok (.aload_n 0, 1) := by decide +kernel
theorem dX5_heardInRound_5 : decode cX5_heardInRound 5 = .ok (.getfield 10, 3) := by decide +kernel
theorem dX5_heardInRound_8 : decode cX5_heardInRound 8 = .ok (.aload_n 0, 1) := by decide +kernel
theorem dX5_heardInRound_9 : decode cX5_heardInRound 9 = .ok (.getfield 10, 3) := by decide +kernel
theorem dX5_heardInRound_12 : decode cX5_heardInRound 12 = .ok (.getfield 97, 3) := by decide +kernel
theorem dX5_heardInRound_15 : decode cX5_heardInRound 15 = .ok (.invokevirtual 165, 3) := by decide +kernel
theorem dX5_heardInRound_18 : decode cX5_heardInRound 18 = .ok (.istore_n 2, 1) := by decide +kernel
theorem dX5_heardInRound_19 : decode cX5_heardInRound 19 = .ok (.iload_n 1, 1) := by decide +kernel
theorem dX5_heardInRound_20 : decode cX5_heardInRound 20 = .ok (.ifCond .eq 13, 3) := by decide +kernel
theorem dX5_heardInRound_23 : decode cX5_heardInRound 23 = .ok (.aload_n 0, 1) := by decide +kernel
theorem dX5_heardInRound_24 : decode cX5_heardInRound 24 = .ok (.getfield 19, 3) := by decide +kernel
theorem dX5_heardInRound_27 : decode cX5_heardInRound 27 = .ok (.invokevirtual 172, 3) := by decide +kernel
theorem dX5_heardInRound_30 : decode cX5_heardInRound 30 = .ok (.goto 4, 3) := by decide +kernel
theorem dX5_heardInRound_33 : decode cX5_heardInRound 33 = .ok (.iload_n 2, 1) := by decide +kernel
theorem dX5_heardInRound_34 : decode cX5_heardInRound 34 = .ok (.ireturn, 1) := by decide +kernel
set_option maxRecDepth 20000 in
theorem ggX5_ticksOfRound_X0_ticksByBars : GoodIn wsX5_ticksOfRound wsX0_ticksByBars := goodIn_r _ [6, 7, 17, 18, 19, 20, 21, 22, 23, 24, 25, 26] (by decide +kernel) (by decide +kernel)
set_option maxRecDepth 20000 in
theorem gX5_ticksOfRound_X0_ticksByBars : GoodIn wsX5_ticksOfRound (wsV RX5 175 RX0 yX0_ticksByBars wsX0_ticksByBars) := goodIn_app (goodIn_of _ (by decide +kernel)) ggX5_ticksOfRound_X0_ticksByBars
set_option maxRecDepth 20000 in
theorem ggX5_ticksOfRound_X0_ticksByColumns : GoodIn wsX5_ticksOfRound wsX0_ticksByColumns := goodIn_r _ [11, 7, 17, 18, 19, 20, 21, 22, 23, 24, 25, 26] (by decide +kernel) (by decide +kernel)
set_option maxRecDepth 20000 in
theorem gX5_ticksOfRound_X0_ticksByColumns : GoodIn wsX5_ticksOfRound (wsV RX5 178 RX0 yX0_ticksByColumns wsX0_ticksByColumns) := goodIn_app (goodIn_of _ (by decide +kernel)) ggX5_ticksOfRound_X0_ticksByColumns
theorem dX5_ticksOfRound_0 : decode cX5_ticksOfRound 0 = .ok (.iload_n 1, 1) := by decide +kernel
theorem dX5_ticksOfRound_1 : decode cX5_ticksOfRound 1 = .ok (.ifCond .eq 13, 3) := by decide +kernel
theorem dX5_ticksOfRound_4 : decode cX5_ticksOfRound 4 = .ok (.aload_n 0, 1) := by decide +kernel
theorem dX5_ticksOfRound_5 : decode cX5_ticksOfRound 5 = .ok (.getfield 10, 3) := by decide +kernel
theorem dX5_ticksOfRound_8 : decode cX5_ticksOfRound 8 = .ok (.invokevirtual 175, 3) := by decide +kernel
theorem dX5_ticksOfRound_11 : decode cX5_ticksOfRound 11 = .ok (.goto 10, 3) := by decide +kernel
theorem dX5_ticksOfRound_14 : decode cX5_ticksOfRound 14 = .ok (.aload_n 0, 1) := by decide +kernel
theorem dX5_ticksOfRound_15 : decode cX5_ticksOfRound 15 = .ok (.getfield 10, 3) := by decide +kernel
theorem dX5_ticksOfRound_18 : decode cX5_ticksOfRound 18 = .ok (.invokevirtual 178, 3) := by decide +kernel
theorem dX5_ticksOfRound_21 : decode cX5_ticksOfRound 21 = .ok (.ireturn, 1) := by decide +kernel
set_option maxRecDepth 20000 in
theorem ggX5_missedInRound_X0_countPegs : GoodIn wsX5_missedInRound wsX0_countPegs := goodIn_r _ [8, 9, 10, 11, 12, 13, 14, 15, 16, 61, 62, 63, 64, 65, 66, 67, 68, 69, 70] (by decide +kernel) (by decide +kernel)
set_option maxRecDepth 20000 in
theorem gX5_missedInRound_X0_countPegs : GoodIn wsX5_missedInRound (wsV RX5 141 RX0 yX0_countPegs wsX0_countPegs) := goodIn_app (goodIn_of _ (by decide +kernel)) ggX5_missedInRound_X0_countPegs
set_option maxRecDepth 20000 in
theorem ggX5_missedInRound_X4_play : GoodIn wsX5_missedInRound wsX4_play := goodIn_r _ [21, 22, 23, 24, 25, 26, 27, 28, 29, 30, 31, 32, 33, 34, 35, 36, 37, 38, 39, 40, 41, 42, 43, 44, 45, 46, 47, 48, 49, 50, 51, 52, 53, 54, 55, 11, 12, 13, 14, 15, 16, 71, 72, 61, 62, 63, 64, 65, 66, 67, 68, 69, 70, 73] (by decide +kernel) (by decide +kernel)
set_option maxRecDepth 20000 in
theorem gX5_missedInRound_X4_play : GoodIn wsX5_missedInRound (wsV RX5 165 RX4 yX4_play wsX4_play) := goodIn_app (goodIn_of _ (by decide +kernel)) ggX5_missedInRound_X4_play
theorem dX5_missedInRound_0 : decode cX5_missedInRound 0 = .ok (.aload_n 0, 1) := by decide +kernel
theorem dX5_missedInRound_1 : decode cX5_missedInRound 1 = .ok (.getfield 10, 3) := by decide +kernel
theorem dX5_missedInRound_4 : decode cX5_missedInRound 4 = .ok (.invokevirtual 141, 3) := by decide +kernel
theorem dX5_missedInRound_7 : decode cX5_missedInRound 7 = .ok (.aload_n 0, 1) := by decide +kernel
theorem dX5_missedInRound_8 : decode cX5_missedInRound 8 = .ok (.getfield 19, 3) := by decide +kernel
theorem dX5_missedInRound_11 : decode cX5_missedInRound 11 = .ok (.aload_n 0, 1) := by decide +kernel
theorem dX5_missedInRound_12 : decode cX5_missedInRound 12 = .ok (.getfield 10, 3) := by decide +kernel
theorem dX5_missedInRound_15 : decode cX5_missedInRound 15 = .ok (.aload_n 0, 1) := by decide +kernel
theorem dX5_missedInRound_16 : decode cX5_missedInRound 16 = .ok (.getfield 10, 3) := by decide +kernel
theorem dX5_missedInRound_19 : decode cX5_missedInRound 19 = .ok (.getfield 97, 3) := by decide +kernel
theorem dX5_missedInRound_22 : decode cX5_missedInRound 22 = .ok (.invokevirtual 165, 3) := by decide +kernel
theorem dX5_missedInRound_25 : decode cX5_missedInRound 25 = .ok (.isub, 1) := by decide +kernel
theorem dX5_missedInRound_26 : decode cX5_missedInRound 26 = .ok (.ireturn, 1) := by decide +kernel
set_option maxRecDepth 20000 in
theorem ggX5_busiest_X4_play : GoodIn wsX5_busiest wsX4_play := goodIn_r _ [8, 9, 10, 11, 12, 13, 14, 15, 16, 17, 18, 19, 20, 21, 22, 23, 24, 25, 26, 27, 28, 29, 30, 31, 32, 33, 34, 35, 36, 37, 38, 39, 40, 41, 42, 43, 44, 45, 46, 47, 48, 68, 69, 58, 59, 60, 61, 62, 63, 64, 65, 66, 67, 70] (by decide +kernel) (by decide +kernel)
set_option maxRecDepth 20000 in
theorem gX5_busiest_X4_play : GoodIn wsX5_busiest (wsV RX5 165 RX4 yX4_play wsX4_play) := goodIn_app (goodIn_of _ (by decide +kernel)) ggX5_busiest_X4_play
set_option maxRecDepth 20000 in
theorem ggX5_busiest_X4_timesHeard : GoodIn wsX5_busiest wsX4_timesHeard := goodIn_r _ [52, 12, 27, 28, 29, 68, 69] (by decide +kernel) (by decide +kernel)
set_option maxRecDepth 20000 in
theorem gX5_busiest_X4_timesHeard : GoodIn wsX5_busiest (wsV RX5 181 RX4 yX4_timesHeard wsX4_timesHeard) := goodIn_app (goodIn_of _ (by decide +kernel)) ggX5_busiest_X4_timesHeard
theorem dX5_busiest_0 : decode cX5_busiest 0 = .ok (.aload_n 0, 1) := by decide +kernel
theorem dX5_busiest_1 : decode cX5_busiest 1 = .ok (.getfield 19, 3) := by decide +kernel
theorem dX5_busiest_4 : decode cX5_busiest 4 = .ok (.aload_n 0, 1) := by decide +kernel
theorem dX5_busiest_5 : decode cX5_busiest 5 = .ok (.getfield 10, 3) := by decide +kernel
theorem dX5_busiest_8 : decode cX5_busiest 8 = .ok (.aload_n 0, 1) := by decide +kernel
theorem dX5_busiest_9 : decode cX5_busiest 9 = .ok (.getfield 10, 3) := by decide +kernel
theorem dX5_busiest_12 : decode cX5_busiest 12 = .ok (.getfield 97, 3) := by decide +kernel
theorem dX5_busiest_15 : decode cX5_busiest 15 = .ok (.invokevirtual 165, 3) := by decide +kernel
theorem dX5_busiest_18 : decode cX5_busiest 18 = .ok (.pop, 1) := by decide +kernel
theorem dX5_busiest_19 : decode cX5_busiest 19 = .ok (.iconst (-1), 1) := by decide +kernel
theorem dX5_busiest_20 : decode cX5_busiest 20 = .ok (.istore_n 1, 1) := by decide +kernel
theorem dX5_busiest_21 : decode cX5_busiest 21 = .ok (.iconst 0, 1) := by decide +kernel
theorem dX5_busiest_22 : decode cX5_busiest 22 = .ok (.istore_n 2, 1) := by decide +kernel
theorem dX5_busiest_23 : decode cX5_busiest 23 = .ok (.iconst 0, 1) := by decide +kernel
theorem dX5_busiest_24 : decode cX5_busiest 24 = .ok (.istore_n 3, 1) := by decide +kernel
theorem dX5_busiest_25 : decode cX5_busiest 25 = .ok (.iload_n 3, 1) := by decide +kernel
theorem dX5_busiest_26 : decode cX5_busiest 26 = .ok (.bipush 10, 2) := by decide +kernel
theorem dX5_busiest_28 : decode cX5_busiest 28 = .ok (.if_icmp .ge 30, 3) := by decide +kernel
theorem dX5_busiest_31 : decode cX5_busiest 31 = .ok (.aload_n 0, 1) := by decide +kernel
theorem dX5_busiest_32 : decode cX5_busiest 32 = .ok (.getfield 19, 3) := by decide +kernel
theorem dX5_busiest_35 : decode cX5_busiest 35 = .ok (.iload_n 3, 1) := by decide +kernel
theorem dX5_busiest_36 : decode cX5_busiest 36 = .ok (.invokevirtual 181, 3) := by decide +kernel
theorem dX5_busiest_39 : decode cX5_busiest 39 = .ok (.istore 4, 2) := by decide +kernel
theorem dX5_busiest_41 : decode cX5_busiest 41 = .ok (.iload 4, 2) := by decide +kernel
theorem dX5_busiest_43 : decode cX5_busiest 43 = .ok (.iload_n 2, 1) := by decide +kernel
theorem dX5_busiest_44 : decode cX5_busiest 44 = .ok (.if_icmp .le 8, 3) := by decide +kernel
theorem dX5_busiest_47 : decode cX5_busiest 47 = .ok (.iload 4, 2) := by decide +kernel
theorem dX5_busiest_49 : decode cX5_busiest 49 = .ok (.istore_n 2, 1) := by decide +kernel
theorem dX5_busiest_50 : decode cX5_busiest 50 = .ok (.iload_n 3, 1) := by decide +kernel
theorem dX5_busiest_51 : decode cX5_busiest 51 = .ok (.istore_n 1, 1) := by decide +kernel
theorem dX5_busiest_52 : decode cX5_busiest 52 = .ok (.iinc 3 1, 3) := by decide +kernel
theorem dX5_busiest_55 : decode cX5_busiest 55 = .ok (.goto (-30), 3) := by decide +kernel
theorem dX5_busiest_58 : decode cX5_busiest 58 = .ok (.iload_n 1, 1) := by decide +kernel
theorem dX5_busiest_59 : decode cX5_busiest 59 = .ok (.ireturn, 1) := by decide +kernel
set_option maxRecDepth 20000 in
theorem ggX5_longestSilence_X4_play : GoodIn wsX5_longestSilence wsX4_play := goodIn_r _ [13, 14, 15, 16, 17, 18, 19, 20, 21, 22, 23, 24, 25, 26, 27, 28, 29, 30, 31, 32, 33, 34, 35, 36, 37, 38, 39, 40, 41, 42, 43, 44, 7, 45, 46, 47, 48, 49, 50, 51, 52, 68, 69, 58, 59, 60, 61, 62, 63, 64, 65, 66, 67, 70] (by decide +kernel) (by decide +kernel)
set_option maxRecDepth 20000 in
theorem gX5_longestSilence_X4_play : GoodIn wsX5_longestSilence (wsV RX5 165 RX4 yX4_play wsX4_play) := goodIn_app (goodIn_of _ (by decide +kernel)) ggX5_longestSilence_X4_play
theorem dX5_longestSilence_0 : decode cX5_longestSilence 0 = .ok (.aload_n 0, 1) := by decide +kernel
theorem dX5_longestSilence_1 : decode cX5_longestSilence 1 = .ok (.getfield 19, 3) := by decide +kernel
theorem dX5_longestSilence_4 : decode cX5_longestSilence 4 = .ok (.aload_n 0, 1) := by decide +kernel
theorem dX5_longestSilence_5 : decode cX5_longestSilence 5 = .ok (.getfield 10, 3) := by decide +kernel
theorem dX5_longestSilence_8 : decode cX5_longestSilence 8 = .ok (.aload_n 0, 1) := by decide +kernel
theorem dX5_longestSilence_9 : decode cX5_longestSilence 9 = .ok (.getfield 10, 3) := by decide +kernel
theorem dX5_longestSilence_12 : decode cX5_longestSilence 12 = .ok (.getfield 97, 3) := by decide +kernel
theorem dX5_longestSilence_15 : decode cX5_longestSilence 15 = .ok (.invokevirtual 165, 3) := by decide +kernel
theorem dX5_longestSilence_18 : decode cX5_longestSilence 18 = .ok (.pop, 1) := by decide +kernel
theorem dX5_longestSilence_19 : decode cX5_longestSilence 19 = .ok (.iconst 0, 1) := by decide +kernel
theorem dX5_longestSilence_20 : decode cX5_longestSilence 20 = .ok (.istore_n 1, 1) := by decide +kernel
theorem dX5_longestSilence_21 : decode cX5_longestSilence 21 = .ok (.iconst 0, 1) := by decide +kernel
theorem dX5_longestSilence_22 : decode cX5_longestSilence 22 = .ok (.istore_n 2, 1) := by decide +kernel
theorem dX5_longestSilence_23 : decode cX5_longestSilence 23 = .ok (.iconst 0, 1) := by decide +kernel
theorem dX5_longestSilence_24 : decode cX5_longestSilence 24 = .ok (.istore_n 3, 1) := by decide +kernel
theorem dX5_longestSilence_25 : decode cX5_longestSilence 25 = .ok (.iload_n 3, 1) := by decide +kernel
theorem dX5_longestSilence_26 : decode cX5_longestSilence 26 = .ok (.bipush 32, 2) := by decide +kernel
theorem dX5_longestSilence_28 : decode cX5_longestSilence 28 = .ok (.if_icmp .ge 35, 3) := by decide +kernel
theorem dX5_longestSilence_31 : decode cX5_longestSilence 31 = .ok (.aload_n 0, 1) := by decide +kernel
theorem dX5_longestSilence_32 : decode cX5_longestSilence 32 = .ok (.getfield 19, 3) := by decide +kernel
theorem dX5_longestSilence_35 : decode cX5_longestSilence 35 = .ok (.getfield 169, 3) := by decide +kernel
theorem dX5_longestSilence_38 : decode cX5_longestSilence 38 = .ok (.iload_n 3, 1) := by decide +kernel
theorem dX5_longestSilence_39 : decode cX5_longestSilence 39 = .ok (.iaload, 1) := by decide +kernel
theorem dX5_longestSilence_40 : decode cX5_longestSilence 40 = .ok (.ifCond .ne 9, 3) := by decide +kernel
theorem dX5_longestSilence_43 : decode cX5_longestSilence 43 = .ok (.iload_n 2, 1) := by decide +kernel
theorem dX5_longestSilence_44 : decode cX5_longestSilence 44 = .ok (.iconst 1, 1) := by decide +kernel
theorem dX5_longestSilence_45 : decode cX5_longestSilence 45 = .ok (.iadd, 1) := by decide +kernel
theorem dX5_longestSilence_46 : decode cX5_longestSilence 46 = .ok (.goto 4, 3) := by decide +kernel
theorem dX5_longestSilence_49 : decode cX5_longestSilence 49 = .ok (.iconst 0, 1) := by decide +kernel
theorem dX5_longestSilence_50 : decode cX5_longestSilence 50 = .ok (.istore_n 2, 1) := by decide +kernel
theorem dX5_longestSilence_51 : decode cX5_longestSilence 51 = .ok (.iload_n 1, 1) := by decide +kernel
theorem dX5_longestSilence_52 : decode cX5_longestSilence 52 = .ok (.iload_n 2, 1) := by decide +kernel
theorem dX5_longestSilence_53 : decode cX5_longestSilence 53 = .ok (.invokestatic 183, 3) := by decide +kernel
theorem dX5_longestSilence_56 : decode cX5_longestSilence 56 = .ok (.istore_n 1, 1) := by decide +kernel
theorem dX5_longestSilence_57 : decode cX5_longestSilence 57 = .ok (.iinc 3 1, 3) := by decide +kernel
theorem dX5_longestSilence_60 : decode cX5_longestSilence 60 = .ok (.goto (-35), 3) := by decide +kernel
theorem dX5_longestSilence_63 : decode cX5_longestSilence 63 = .ok (.iload_n 1, 1) := by decide +kernel
theorem dX5_longestSilence_64 : decode cX5_longestSilence 64 = .ok (.ireturn, 1) := by decide +kernel
set_option maxRecDepth 20000 in
theorem ggX5_enoughBound_X4_play : GoodIn wsX5_enoughBound wsX4_play := goodIn_r _ [12, 13, 14, 15, 16, 17, 18, 19, 20, 21, 22, 23, 24, 25, 26, 27, 28, 29, 30, 31, 32, 33, 34, 35, 36, 37, 38, 39, 40, 41, 42, 43, 6, 44, 45, 46, 47, 48, 49, 50, 51, 63, 64, 65, 66, 67, 68, 69, 70, 71, 72, 73, 74, 75] (by decide +kernel) (by decide +kernel)
set_option maxRecDepth 20000 in
theorem gX5_enoughBound_X4_play : GoodIn wsX5_enoughBound (wsV RX5 165 RX4 yX4_play wsX4_play) := goodIn_app (goodIn_of _ (by decide +kernel)) ggX5_enoughBound_X4_play
set_option maxRecDepth 20000 in
theorem ggX5_enoughBound_X0_weightOfAll : GoodIn wsX5_enoughBound wsX0_weightOfAll := goodIn_r _ [56, 57, 31, 32, 33, 65, 66, 67, 68, 69, 70, 71, 72, 73, 74] (by decide +kernel) (by decide +kernel)
set_option maxRecDepth 20000 in
theorem gX5_enoughBound_X0_weightOfAll : GoodIn wsX5_enoughBound (wsV RX5 188 RX0 yX0_weightOfAll wsX0_weightOfAll) := goodIn_app (goodIn_of _ (by decide +kernel)) ggX5_enoughBound_X0_weightOfAll
theorem dX5_enoughBound_0 : decode cX5_enoughBound 0 = .ok (.aload_n 0, 1) := by decide +kernel
theorem dX5_enoughBound_1 : decode cX5_enoughBound 1 = .ok (.getfield 19, 3) := by decide +kernel
theorem dX5_enoughBound_4 : decode cX5_enoughBound 4 = .ok (.aload_n 0, 1) := by decide +kernel
theorem dX5_enoughBound_5 : decode cX5_enoughBound 5 = .ok (.getfield 10, 3) := by decide +kernel
theorem dX5_enoughBound_8 : decode cX5_enoughBound 8 = .ok (.sipush 601, 3) := by decide +kernel
theorem dX5_enoughBound_11 : decode cX5_enoughBound 11 = .ok (.invokevirtual 165, 3) := by decide +kernel
theorem dX5_enoughBound_14 : decode cX5_enoughBound 14 = .ok (.pop, 1) := by decide +kernel
theorem dX5_enoughBound_15 : decode cX5_enoughBound 15 = .ok (.iconst 1, 1) := by decide +kernel
theorem dX5_enoughBound_16 : decode cX5_enoughBound 16 = .ok (.istore_n 1, 1) := by decide +kernel
theorem dX5_enoughBound_17 : decode cX5_enoughBound 17 = .ok (.iconst 0, 1) := by decide +kernel
theorem dX5_enoughBound_18 : decode cX5_enoughBound 18 = .ok (.istore_n 2, 1) := by decide +kernel
theorem dX5_enoughBound_19 : decode cX5_enoughBound 19 = .ok (.iload_n 2, 1) := by decide +kernel
theorem dX5_enoughBound_20 : decode cX5_enoughBound 20 = .ok (.bipush 32, 2) := by decide +kernel
theorem dX5_enoughBound_22 : decode cX5_enoughBound 22 = .ok (.if_icmp .ge 30, 3) := by decide +kernel
theorem dX5_enoughBound_25 : decode cX5_enoughBound 25 = .ok (.iload_n 1, 1) := by decide +kernel
theorem dX5_enoughBound_26 : decode cX5_enoughBound 26 = .ok (.aload_n 0, 1) := by decide +kernel
theorem dX5_enoughBound_27 : decode cX5_enoughBound 27 = .ok (.getfield 10, 3) := by decide +kernel
theorem dX5_enoughBound_30 : decode cX5_enoughBound 30 = .ok (.aload_n 0, 1) := by decide +kernel
theorem dX5_enoughBound_31 : decode cX5_enoughBound 31 = .ok (.getfield 19, 3) := by decide +kernel
theorem dX5_enoughBound_34 : decode cX5_enoughBound 34 = .ok (.getfield 169, 3) := by decide +kernel
theorem dX5_enoughBound_37 : decode cX5_enoughBound 37 = .ok (.iload_n 2, 1) := by decide +kernel
theorem dX5_enoughBound_38 : decode cX5_enoughBound 38 = .ok (.iaload, 1) := by decide +kernel
theorem dX5_enoughBound_39 : decode cX5_enoughBound 39 = .ok (.invokevirtual 188, 3) := by decide +kernel
theorem dX5_enoughBound_42 : decode cX5_enoughBound 42 = .ok (.invokestatic 183, 3) := by decide +kernel
theorem dX5_enoughBound_45 : decode cX5_enoughBound 45 = .ok (.istore_n 1, 1) := by decide +kernel
theorem dX5_enoughBound_46 : decode cX5_enoughBound 46 = .ok (.iinc 2 1, 3) := by decide +kernel
theorem dX5_enoughBound_49 : decode cX5_enoughBound 49 = .ok (.goto (-30), 3) := by decide +kernel
theorem dX5_enoughBound_52 : decode cX5_enoughBound 52 = .ok (.iload_n 1, 1) := by decide +kernel
theorem dX5_enoughBound_53 : decode cX5_enoughBound 53 = .ok (.sipush 300, 3) := by decide +kernel
theorem dX5_enoughBound_56 : decode cX5_enoughBound 56 = .ok (.if_icmp .gt 7, 3) := by decide +kernel
theorem dX5_enoughBound_59 : decode cX5_enoughBound 59 = .ok (.iload_n 1, 1) := by decide +kernel
theorem dX5_enoughBound_60 : decode cX5_enoughBound 60 = .ok (.goto 4, 3) := by decide +kernel
theorem dX5_enoughBound_63 : decode cX5_enoughBound 63 = .ok (.iconst (-1), 1) := by decide +kernel
theorem dX5_enoughBound_64 : decode cX5_enoughBound 64 = .ok (.ireturn, 1) := by decide +kernel
set_option maxRecDepth 20000 in
theorem ggX5_heaviestColumn_X4_play : GoodIn wsX5_heaviestColumn wsX4_play := goodIn_r _ [9, 10, 11, 12, 13, 14, 15, 16, 17, 18, 19, 20, 21, 22, 23, 24, 25, 26, 27, 28, 29, 30, 31, 32, 33, 34, 35, 36, 37, 38, 39, 40, 41, 42, 43, 44, 45, 46, 47, 48, 49, 71, 72, 61, 62, 63, 64, 65, 66, 67, 68, 69, 70, 73] (by decide +kernel) (by decide +kernel)
set_option maxRecDepth 20000 in
theorem gX5_heaviestColumn_X4_play : GoodIn wsX5_heaviestColumn (wsV RX5 165 RX4 yX4_play wsX4_play) := goodIn_app (goodIn_of _ (by decide +kernel)) ggX5_heaviestColumn_X4_play
set_option maxRecDepth 20000 in
theorem ggX5_heaviestColumn_X0_weightOfAll : GoodIn wsX5_heaviestColumn wsX0_weightOfAll := goodIn_r _ [54, 55, 28, 29, 30, 61, 62, 63, 64, 65, 66, 67, 68, 69, 70] (by decide +kernel) (by decide +kernel)
set_option maxRecDepth 20000 in
theorem gX5_heaviestColumn_X0_weightOfAll : GoodIn wsX5_heaviestColumn (wsV RX5 188 RX0 yX0_weightOfAll wsX0_weightOfAll) := goodIn_app (goodIn_of _ (by decide +kernel)) ggX5_heaviestColumn_X0_weightOfAll
theorem dX5_heaviestColumn_0 : decode cX5_heaviestColumn 0 = .ok (.aload_n 0, 1) := by decide +kernel
theorem dX5_heaviestColumn_1 : decode cX5_heaviestColumn 1 = .ok (.getfield 19, 3) := by decide +kernel
theorem dX5_heaviestColumn_4 : decode cX5_heaviestColumn 4 = .ok (.aload_n 0, 1) := by decide +kernel
theorem dX5_heaviestColumn_5 : decode cX5_heaviestColumn 5 = .ok (.getfield 10, 3) := by decide +kernel
theorem dX5_heaviestColumn_8 : decode cX5_heaviestColumn 8 = .ok (.aload_n 0, 1) := by decide +kernel
theorem dX5_heaviestColumn_9 : decode cX5_heaviestColumn 9 = .ok (.getfield 10, 3) := by decide +kernel
theorem dX5_heaviestColumn_12 : decode cX5_heaviestColumn 12 = .ok (.getfield 97, 3) := by decide +kernel
theorem dX5_heaviestColumn_15 : decode cX5_heaviestColumn 15 = .ok (.invokevirtual 165, 3) := by decide +kernel
theorem dX5_heaviestColumn_18 : decode cX5_heaviestColumn 18 = .ok (.pop, 1) := by decide +kernel
theorem dX5_heaviestColumn_19 : decode cX5_heaviestColumn 19 = .ok (.iconst (-1), 1) := by decide +kernel
theorem dX5_heaviestColumn_20 : decode cX5_heaviestColumn 20 = .ok (.istore_n 1, 1) := by decide +kernel
theorem dX5_heaviestColumn_21 : decode cX5_heaviestColumn 21 = .ok (.iconst 0, 1) := by decide +kernel
theorem dX5_heaviestColumn_22 : decode cX5_heaviestColumn 22 = .ok (.istore_n 2, 1) := by decide +kernel
theorem dX5_heaviestColumn_23 : decode cX5_heaviestColumn 23 = .ok (.iconst 0, 1) := by decide +kernel
theorem dX5_heaviestColumn_24 : decode cX5_heaviestColumn 24 = .ok (.istore_n 3, 1) := by decide +kernel
theorem dX5_heaviestColumn_25 : decode cX5_heaviestColumn 25 = .ok (.iload_n 3, 1) := by decide +kernel
theorem dX5_heaviestColumn_26 : decode cX5_heaviestColumn 26 = .ok (.bipush 32, 2) := by decide +kernel
theorem dX5_heaviestColumn_28 : decode cX5_heaviestColumn 28 = .ok (.if_icmp .ge 38, 3) := by decide +kernel
theorem dX5_heaviestColumn_31 : decode cX5_heaviestColumn 31 = .ok (.aload_n 0, 1) := by decide +kernel
theorem dX5_heaviestColumn_32 : decode cX5_heaviestColumn 32 = .ok (.getfield 10, 3) := by decide +kernel
theorem dX5_heaviestColumn_35 : decode cX5_heaviestColumn 35 = .ok (.aload_n 0, 1) := by decide +kernel
theorem dX5_heaviestColumn_36 : decode cX5_heaviestColumn 36 = .ok (.getfield 19, 3) := by decide +kernel
theorem dX5_heaviestColumn_39 : decode cX5_heaviestColumn 39 = .ok (.getfield 169, 3) := by decide +kernel
theorem dX5_heaviestColumn_42 : decode cX5_heaviestColumn 42 = .ok (.iload_n 3, 1) := by decide +kernel
theorem dX5_heaviestColumn_43 : decode cX5_heaviestColumn 43 = .ok (.iaload, 1) := by decide +kernel
theorem dX5_heaviestColumn_44 : decode cX5_heaviestColumn 44 = .ok (.invokevirtual 188, 3) := by decide +kernel
theorem dX5_heaviestColumn_47 : decode cX5_heaviestColumn 47 = .ok (.istore 4, 2) := by decide +kernel
theorem dX5_heaviestColumn_49 : decode cX5_heaviestColumn 49 = .ok (.iload 4, 2) := by decide +kernel
theorem dX5_heaviestColumn_51 : decode cX5_heaviestColumn 51 = .ok (.iload_n 2, 1) := by decide +kernel
theorem dX5_heaviestColumn_52 : decode cX5_heaviestColumn 52 = .ok (.if_icmp .le 8, 3) := by decide +kernel
theorem dX5_heaviestColumn_55 : decode cX5_heaviestColumn 55 = .ok (.iload 4, 2) := by decide +kernel
theorem dX5_heaviestColumn_57 : decode cX5_heaviestColumn 57 = .ok (.istore_n 2, 1) := by decide +kernel
theorem dX5_heaviestColumn_58 : decode cX5_heaviestColumn 58 = .ok (.iload_n 3, 1) := by decide +kernel
theorem dX5_heaviestColumn_59 : decode cX5_heaviestColumn 59 = .ok (.istore_n 1, 1) := by decide +kernel
theorem dX5_heaviestColumn_60 : decode cX5_heaviestColumn 60 = .ok (.iinc 3 1, 3) := by decide +kernel
theorem dX5_heaviestColumn_63 : decode cX5_heaviestColumn 63 = .ok (.goto (-38), 3) := by decide +kernel
theorem dX5_heaviestColumn_66 : decode cX5_heaviestColumn 66 = .ok (.iload_n 1, 1) := by decide +kernel
theorem dX5_heaviestColumn_67 : decode cX5_heaviestColumn 67 = .ok (.ireturn, 1) := by decide +kernel
set_option maxRecDepth 20000 in
theorem ggX5_put_X3_charactersIn : GoodIn wsX5_put wsX3_charactersIn := goodIn_r _ [10, 11, 12, 13] (by decide +kernel) (by decide +kernel)
set_option maxRecDepth 20000 in
theorem gX5_put_X3_charactersIn : GoodIn wsX5_put (va_wsS RX5 191 yX3_charactersIn wsX3_charactersIn) := goodIn_app (goodIn_of _ (by decide +kernel)) ggX5_put_X3_charactersIn
set_option maxRecDepth 20000 in
theorem ggX5_put_X3_hasRoomFor : GoodIn wsX5_put wsX3_hasRoomFor := goodIn_r _ [17, 18, 29, 30] (by decide +kernel) (by decide +kernel)
set_option maxRecDepth 20000 in
theorem gX5_put_X3_hasRoomFor : GoodIn wsX5_put (wsV RX5 197 RX3 yX3_hasRoomFor wsX3_hasRoomFor) := goodIn_app (goodIn_of _ (by decide +kernel)) ggX5_put_X3_hasRoomFor
set_option maxRecDepth 20000 in
theorem ggX5_put_X3_append : GoodIn wsX5_put wsX3_append := goodIn_r _ [22, 18, 23, 11, 29, 30] (by decide +kernel) (by decide +kernel)
set_option maxRecDepth 20000 in
theorem gX5_put_X3_append : GoodIn wsX5_put (wsV RX5 205 RX3 yX3_append wsX3_append) := goodIn_app (goodIn_of _ (by decide +kernel)) ggX5_put_X3_append
theorem dX5_put_0 : decode cX5_put 0 = .ok (.lload_n 1, 1) := by decide +kernel
theorem dX5_put_1 : decode cX5_put 1 = .ok (.invokestatic 191, 3) := by decide +kernel
theorem dX5_put_4 : decode cX5_put 4 = .ok (.istore_n 3, 1) := by decide +kernel
theorem dX5_put_5 : decode cX5_put 5 = .ok (.iload_n 3, 1) := by decide +kernel
theorem dX5_put_6 : decode cX5_put 6 = .ok (.ifCond .ne 13, 3) := by decide +kernel
theorem dX5_put_9 : decode cX5_put 9 = .ok (.new 69, 3) := by decide +kernel
theorem dX5_put_12 : decode cX5_put 12 = .ok (.dup, 1) := by decide +kernel
theorem dX5_put_13 : decode cX5_put 13 = .ok (.ldc 195, 2) := by decide +kernel
theorem dX5_put_15 : decode cX5_put 15 = .ok (.invokespecial 73, 3) := by decide +kernel
theorem dX5_put_18 : decode cX5_put 18 = .ok (.athrow, 1) := by decide +kernel
theorem dX5_put_19 : decode cX5_put 19 = .ok (.aload_n 0, 1) := by decide +kernel
theorem dX5_put_20 : decode cX5_put 20 = .ok (.getfield 26, 3) := by decide +kernel
theorem dX5_put_23 : decode cX5_put 23 = .ok (.iload_n 3, 1) := by decide +kernel
theorem dX5_put_24 : decode cX5_put 24 = .ok (.invokevirtual 197, 3) := by decide +kernel
theorem dX5_put_27 : decode cX5_put 27 = .ok (.ifCond .ne 13, 3) := by decide +kernel
theorem dX5_put_30 : decode cX5_put 30 = .ok (.new 200, 3) := by decide +kernel
theorem dX5_put_33 : decode cX5_put 33 = .ok (.dup, 1) := by decide +kernel
theorem dX5_put_34 : decode cX5_put 34 = .ok (.ldc 202, 2) := by decide +kernel
theorem dX5_put_36 : decode cX5_put 36 = .ok (.invokespecial 204, 3) := by decide +kernel
theorem dX5_put_39 : decode cX5_put 39 = .ok (.athrow, 1) := by decide +kernel
theorem dX5_put_40 : decode cX5_put 40 = .ok (.aload_n 0, 1) := by decide +kernel
theorem dX5_put_41 : decode cX5_put 41 = .ok (.getfield 26, 3) := by decide +kernel
theorem dX5_put_44 : decode cX5_put 44 = .ok (.lload_n 1, 1) := by decide +kernel
theorem dX5_put_45 : decode cX5_put 45 = .ok (.iload_n 3, 1) := by decide +kernel
theorem dX5_put_46 : decode cX5_put 46 = .ok (.invokevirtual 205, 3) := by decide +kernel
theorem dX5_put_49 : decode cX5_put 49 = .ok (.aload_n 0, 1) := by decide +kernel
theorem dX5_put_50 : decode cX5_put 50 = .ok (.getfield 26, 3) := by decide +kernel
theorem dX5_put_53 : decode cX5_put 53 = .ok (.getfield 127, 3) := by decide +kernel
theorem dX5_put_56 : decode cX5_put 56 = .ok (.ireturn, 1) := by decide +kernel
set_option maxRecDepth 20000 in
theorem ggX5_wipe_X3_clear : GoodIn wsX5_wipe wsX3_clear := goodIn_r _ [7, 8, 14, 15] (by decide +kernel) (by decide +kernel)
set_option maxRecDepth 20000 in
theorem gX5_wipe_X3_clear : GoodIn wsX5_wipe (wsV RX5 138 RX3 yX3_clear wsX3_clear) := goodIn_app (goodIn_of _ (by decide +kernel)) ggX5_wipe_X3_clear
theorem dX5_wipe_0 : decode cX5_wipe 0 = .ok (.aload_n 0, 1) := by decide +kernel
theorem dX5_wipe_1 : decode cX5_wipe 1 = .ok (.getfield 26, 3) := by decide +kernel
theorem dX5_wipe_4 : decode cX5_wipe 4 = .ok (.getfield 127, 3) := by decide +kernel
theorem dX5_wipe_7 : decode cX5_wipe 7 = .ok (.istore_n 1, 1) := by decide +kernel
theorem dX5_wipe_8 : decode cX5_wipe 8 = .ok (.aload_n 0, 1) := by decide +kernel
theorem dX5_wipe_9 : decode cX5_wipe 9 = .ok (.getfield 26, 3) := by decide +kernel
theorem dX5_wipe_12 : decode cX5_wipe 12 = .ok (.invokevirtual 138, 3) := by decide +kernel
theorem dX5_wipe_15 : decode cX5_wipe 15 = .ok (.iload_n 1, 1) := by decide +kernel
theorem dX5_wipe_16 : decode cX5_wipe 16 = .ok (.ireturn, 1) := by decide +kernel
theorem dX5_padLength_0 : decode cX5_padLength 0 = .ok (.aload_n 0, 1) := by decide +kernel
theorem dX5_padLength_1 : decode cX5_padLength 1 = .ok (.getfield 26, 3) := by decide +kernel
theorem dX5_padLength_4 : decode cX5_padLength 4 = .ok (.getfield 127, 3) := by decide +kernel
theorem dX5_padLength_7 : decode cX5_padLength 7 = .ok (.ireturn, 1) := by decide +kernel
set_option maxRecDepth 20000 in
theorem ggX5_fault_X3_firstFault : GoodIn wsX5_fault wsX3_firstFault := goodIn_r _ [6, 7, 8, 9, 10, 5, 11, 12, 13, 14, 15, 16, 17, 18, 19, 20, 21, 22, 23, 29, 30] (by decide +kernel) (by decide +kernel)
set_option maxRecDepth 20000 in
theorem gX5_fault_X3_firstFault : GoodIn wsX5_fault (wsV RX5 121 RX3 yX3_firstFault wsX3_firstFault) := goodIn_app (goodIn_of _ (by decide +kernel)) ggX5_fault_X3_firstFault
theorem dX5_fault_0 : decode cX5_fault 0 = .ok (.aload_n 0, 1) := by decide +kernel
theorem dX5_fault_1 : decode cX5_fault 1 = .ok (.getfield 26, 3) := by decide +kernel
theorem dX5_fault_4 : decode cX5_fault 4 = .ok (.invokevirtual 121, 3) := by decide +kernel
theorem dX5_fault_7 : decode cX5_fault 7 = .ok (.ireturn, 1) := by decide +kernel
set_option maxRecDepth 20000 in
theorem ggX5_undo_X2_takeLatest : GoodIn wsX5_undo wsX2_takeLatest := goodIn_ca (goodIn_r _ [8, 9, 10, 11, 12, 44, 45] (by decide +kernel) (by decide +kernel)) (goodIn_sub (fun _ h => List.mem_cons_of_mem _ (List.mem_append_right _ h)) (by decide +kernel))
set_option maxRecDepth 20000 in
theorem gX5_undo_X2_takeLatest : GoodIn wsX5_undo (wsV RX5 209 RX2 yX2_takeLatest wsX2_takeLatest) := goodIn_app (goodIn_of _ (by decide +kernel)) ggX5_undo_X2_takeLatest
end
section
set_option maxRecDepth 20000 in
theorem ggX5_undo_X0_copyFrom : GoodIn wsX5_undo wsX0_copyFrom := goodIn_r _ [17, 18, 19, 20, 21, 22, 23, 24, 25, 26, 27, 28, 29, 30, 31, 32, 33, 34, 35, 36, 37, 38, 46, 47, 48, 49, 50, 51, 52, 53, 54, 55, 56] (by decide +kernel) (by decide +kernel)
set_option maxRecDepth 20000 in
theorem gX5_undo_X0_copyFrom : GoodIn wsX5_undo (wsV RX5 213 RX0 yX0_copyFrom wsX0_copyFrom) := goodIn_app (goodIn_of _ (by decide +kernel)) ggX5_undo_X0_copyFrom
theorem dX5_undo_0 : decode cX5_undo 0 = .ok (.aload_n 0, 1) := by decide +kernel
theorem dX5_undo_1 : decode cX5_undo 1 = .ok (.getfield 10, 3) := by decide +kernel
theorem dX5_undo_4 : decode cX5_undo 4 = .ok (.aload_n 0, 1) := by decide +kernel
theorem dX5_undo_5 : decode cX5_undo 5 = .ok (.getfield 33, 3) := by decide +kernel
theorem dX5_undo_8 : decode cX5_undo 8 = .ok (.invokevirtual 209, 3) := by decide +kernel
theorem dX5_undo_11 : decode cX5_undo 11 = .ok (.invokevirtual 213, 3) := by decide +kernel
theorem dX5_undo_14 : decode cX5_undo 14 = .ok (.aload_n 0, 1) := by decide +kernel
theorem dX5_undo_15 : decode cX5_undo 15 = .ok (.getfield 33, 3) := by decide +kernel
theorem dX5_undo_18 : decode cX5_undo 18 = .ok (.getfield 217, 3) := by decide +kernel
theorem dX5_undo_21 : decode cX5_undo 21 = .ok (.ireturn, 1) := by decide +kernel
theorem dX5_undoable_0 : decode cX5_undoable 0 = .ok (.aload_n 0, 1) := by decide +kernel
theorem dX5_undoable_1 : decode cX5_undoable 1 = .ok (.getfield 33, 3) := by decide +kernel
theorem dX5_undoable_4 : decode cX5_undoable 4 = .ok (.getfield 217, 3) := by decide +kernel
theorem dX5_undoable_7 : decode cX5_undoable 7 = .ok (.ireturn, 1) := by decide +kernel
set_option maxRecDepth 20000 in
theorem ggX5_save_X5_isSlot : GoodIn wsX5_save wsX5_isSlot := goodIn_r _ [11] (by decide +kernel) (by decide +kernel)
set_option maxRecDepth 20000 in
theorem gX5_save_X5_isSlot : GoodIn wsX5_save (va_wsS RX5 220 yX5_isSlot wsX5_isSlot) := goodIn_app (goodIn_of _ (by decide +kernel)) ggX5_save_X5_isSlot
set_option maxRecDepth 20000 in
theorem ggX5_save_X0_init : GoodIn wsX5_save wsX0_init := goodIn_r _ [14, 15, 16, 17, 18, 19, 20, 21, 22, 23, 24, 25, 26, 27, 28, 29, 30, 31, 32, 33, 34, 35, 36, 37, 38, 39, 40, 41, 71, 72, 73, 74, 75, 76, 77, 78, 79, 80, 81] (by decide +kernel) (by decide +kernel)
set_option maxRecDepth 20000 in
theorem gX5_save_X0_init : GoodIn wsX5_save (wsX0_init) := ggX5_save_X0_init
set_option maxRecDepth 20000 in
theorem ggX5_save_X0_copyFrom : GoodIn wsX5_save wsX0_copyFrom := goodIn_r _ [45, 19, 46, 47, 48, 49, 20, 21, 22, 26, 27, 28, 29, 30, 31, 50, 51, 52, 25, 53, 36, 54, 71, 72, 73, 74, 75, 76, 77, 78, 79, 80, 81] (by decide +kernel) (by decide +kernel)
set_option maxRecDepth 20000 in
theorem gX5_save_X0_copyFrom : GoodIn wsX5_save (wsV RX5 213 RX0 yX0_copyFrom wsX0_copyFrom) := goodIn_app (goodIn_of _ (by decide +kernel)) ggX5_save_X0_copyFrom
set_option maxRecDepth 20000 in
theorem ggX5_save_X0_countPegs : GoodIn wsX5_save wsX0_countPegs := goodIn_r _ [58, 19, 59, 60, 61, 62, 63, 64, 65, 71, 72, 73, 74, 75, 76, 77, 78, 79, 80] (by decide +kernel) (by decide +kernel)
set_option maxRecDepth 20000 in
theorem gX5_save_X0_countPegs : GoodIn wsX5_save (wsV RX5 141 RX0 yX0_countPegs wsX0_countPegs) := goodIn_app (goodIn_of _ (by decide +kernel)) ggX5_save_X0_countPegs
theorem dX5_save_0 : decode cX5_save 0 = .ok (.iload_n 1, 1) := by decide +kernel
theorem dX5_save_1 : decode cX5_save 1 = .ok (.invokestatic 220, 3) := by decide +kernel
theorem dX5_save_4 : decode cX5_save 4 = .ok (.ifCond .ne 13, 3) := by decide +kernel
theorem dX5_save_7 : decode cX5_save 7 = .ok (.new 48, 3) := by decide +kernel
theorem dX5_save_10 : decode cX5_save 10 = .ok (.dup, 1) := by decide +kernel
theorem dX5_save_11 : decode cX5_save 11 = .ok (.ldc 223, 2) := by decide +kernel
theorem dX5_save_13 : decode cX5_save 13 = .ok (.invokespecial 52, 3) := by decide +kernel
theorem dX5_save_16 : decode cX5_save 16 = .ok (.athrow, 1) := by decide +kernel
theorem dX5_save_17 : decode cX5_save 17 = .ok (.aload_n 0, 1) := by decide +kernel
theorem dX5_save_18 : decode cX5_save 18 = .ok (.getfield 37, 3) := by decide +kernel
theorem dX5_save_21 : decode cX5_save 21 = .ok (.iload_n 1, 1) := by decide +kernel
theorem dX5_save_22 : decode cX5_save 22 = .ok (.aaload, 1) := by decide +kernel
theorem dX5_save_23 : decode cX5_save 23 = .ok (.astore_n 2, 1) := by decide +kernel
theorem dX5_save_24 : decode cX5_save 24 = .ok (.aload_n 2, 1) := by decide +kernel
theorem dX5_save_25 : decode cX5_save 25 = .ok (.ifnonnull 18, 3) := by decide +kernel
theorem dX5_save_28 : decode cX5_save 28 = .ok (.new 7, 3) := by decide +kernel
theorem dX5_save_31 : decode cX5_save 31 = .ok (.dup, 1) := by decide +kernel
theorem dX5_save_32 : decode cX5_save 32 = .ok (.invokespecial 9, 3) := by decide +kernel
theorem dX5_save_35 : decode cX5_save 35 = .ok (.astore_n 2, 1) := by decide +kernel
theorem dX5_save_36 : decode cX5_save 36 = .ok (.aload_n 0, 1) := by decide +kernel
theorem dX5_save_37 : decode cX5_save 37 = .ok (.getfield 37, 3) := by decide +kernel
theorem dX5_save_40 : decode cX5_save 40 = .ok (.iload_n 1, 1) := by decide +kernel
theorem dX5_save_41 : decode cX5_save 41 = .ok (.aload_n 2, 1) := by decide +kernel
theorem dX5_save_42 : decode cX5_save 42 = .ok (.aastore, 1) := by decide +kernel
theorem dX5_save_43 : decode cX5_save 43 = .ok (.aload_n 2, 1) := by decide +kernel
theorem dX5_save_44 : decode cX5_save 44 = .ok (.aload_n 0, 1) := by decide +kernel
theorem dX5_save_45 : decode cX5_save 45 = .ok (.getfield 10, 3) := by decide +kernel
theorem dX5_save_48 : decode cX5_save 48 = .ok (.invokevirtual 213, 3) := by decide +kernel
theorem dX5_save_51 : decode cX5_save 51 = .ok (.aload_n 0, 1) := by decide +kernel
theorem dX5_save_52 : decode cX5_save 52 = .ok (.getfield 10, 3) := by decide +kernel
theorem dX5_save_55 : decode cX5_save 55 = .ok (.invokevirtual 141, 3) := by decide +kernel
theorem dX5_save_58 : decode cX5_save 58 = .ok (.ireturn, 1) := by decide +kernel
set_option maxRecDepth 20000 in
theorem ggX5_restore_X5_isSlot : GoodIn wsX5_restore wsX5_isSlot := goodIn_r _ [11] (by decide +kernel) (by decide +kernel)
set_option maxRecDepth 20000 in
theorem gX5_restore_X5_isSlot : GoodIn wsX5_restore (va_wsS RX5 220 yX5_isSlot wsX5_isSlot) := goodIn_app (goodIn_of _ (by decide +kernel)) ggX5_restore_X5_isSlot
set_option maxRecDepth 20000 in
theorem ggX5_restore_X2_add : GoodIn wsX5_restore wsX2_add := goodIn_r _ [16, 17, 18, 19, 20, 21, 15, 22, 23, 24, 25, 26, 27, 28, 29, 30, 31, 32, 33, 34, 35, 36, 37, 38, 39, 40, 41, 42, 43, 44, 45, 46, 47, 48, 66, 67, 68, 69, 70, 71, 72, 73, 74, 75, 76, 77, 78] (by decide +kernel) (by decide +kernel)
set_option maxRecDepth 20000 in
theorem gX5_restore_X2_add : GoodIn wsX5_restore (wsV RX5 55 RX2 yX2_add wsX2_add) := goodIn_app (goodIn_of _ (by decide +kernel)) ggX5_restore_X2_add
set_option maxRecDepth 20000 in
theorem ggX5_restore_X0_copyFrom : GoodIn wsX5_restore wsX0_copyFrom := goodIn_r _ [27, 28, 29, 30, 31, 32, 33, 34, 35, 36, 37, 38, 39, 40, 41, 42, 43, 44, 45, 46, 47, 48, 68, 69, 70, 71, 72, 73, 74, 75, 76, 77, 78] (by decide +kernel) (by decide +kernel)
set_option maxRecDepth 20000 in
theorem gX5_restore_X0_copyFrom : GoodIn wsX5_restore (wsV RX5 213 RX0 yX0_copyFrom wsX0_copyFrom) := goodIn_app (goodIn_of _ (by decide +kernel)) ggX5_restore_X0_copyFrom
set_option maxRecDepth 20000 in
theorem ggX5_restore_X0_countPegs : GoodIn wsX5_restore wsX0_countPegs := goodIn_r _ [53, 28, 54, 55, 56, 57, 58, 59, 60, 68, 69, 70, 71, 72, 73, 74, 75, 76, 77] (by decide +kernel) (by decide +kernel)
set_option maxRecDepth 20000 in
theorem gX5_restore_X0_countPegs : GoodIn wsX5_restore (wsV RX5 141 RX0 yX0_countPegs wsX0_countPegs) := goodIn_app (goodIn_of _ (by decide +kernel)) ggX5_restore_X0_countPegs
theorem dX5_restore_0 : decode cX5_restore 0 = .ok (.iload_n 1, 1) := by decide +kernel
theorem dX5_restore_1 : decode cX5_restore 1 = .ok (.invokestatic 220, 3) := by decide +kernel
theorem dX5_restore_4 : decode cX5_restore 4 = .ok (.ifCond .ne 13, 3) := by decide +kernel
theorem dX5_restore_7 : decode cX5_restore 7 = .ok (.new 48, 3) := by decide +kernel
theorem dX5_restore_10 : decode cX5_restore 10 = .ok (.dup, 1) := by decide +kernel
theorem dX5_restore_11 : decode cX5_restore 11 = .ok (.ldc 223, 2) := by decide +kernel
theorem dX5_restore_13 : decode cX5_restore 13 = .ok (.invokespecial 52, 3) := by decide +kernel
theorem dX5_restore_16 : decode cX5_restore 16 = .ok (.athrow, 1) := by decide +kernel
theorem dX5_restore_17 : decode cX5_restore 17 = .ok (.aload_n 0, 1) := by decide +kernel
theorem dX5_restore_18 : decode cX5_restore 18 = .ok (.getfield 37, 3) := by decide +kernel
theorem dX5_restore_21 : decode cX5_restore 21 = .ok (.iload_n 1, 1) := by decide +kernel
theorem dX5_restore_22 : decode cX5_restore 22 = .ok (.aaload, 1) := by decide +kernel
theorem dX5_restore_23 : decode cX5_restore 23 = .ok (.astore_n 2, 1) := by decide +kernel
theorem dX5_restore_24 : decode cX5_restore 24 = .ok (.aload_n 2, 1) := by decide +kernel
theorem dX5_restore_25 : decode cX5_restore 25 = .ok (.ifnonnull 13, 3) := by decide +kernel
theorem dX5_restore_28 : decode cX5_restore 28 = .ok (.new 200, 3) := by decide +kernel
theorem dX5_restore_31 : decode cX5_restore 31 = .ok (.dup, 1) := by decide +kernel
theorem dX5_restore_32 : decode cX5_restore 32 = .ok (.ldc 225, 2) := by decide +kernel
theorem dX5_restore_34 : decode cX5_restore 34 = .ok (.invokespecial 204, 3) := by decide +kernel
theorem dX5_restore_37 : decode cX5_restore 37 = .ok (.athrow, 1) := by decide +kernel
theorem dX5_restore_38 : decode cX5_restore 38 = .ok (.aload_n 0, 1) := by decide +kernel
theorem dX5_restore_39 : decode cX5_restore 39 = .ok (.getfield 33, 3) := by decide +kernel
theorem dX5_restore_42 : decode cX5_restore 42 = .ok (.aload_n 0, 1) := by decide +kernel
theorem dX5_restore_43 : decode cX5_restore 43 = .ok (.getfield 10, 3) := by decide +kernel
theorem dX5_restore_46 : decode cX5_restore 46 = .ok (.invokevirtual 55, 3) := by decide +kernel
theorem dX5_restore_49 : decode cX5_restore 49 = .ok (.pop, 1) := by decide +kernel
theorem dX5_restore_50 : decode cX5_restore 50 = .ok (.aload_n 0, 1) := by decide +kernel
theorem dX5_restore_51 : decode cX5_restore 51 = .ok (.getfield 10, 3) := by decide +kernel
theorem dX5_restore_54 : decode cX5_restore 54 = .ok (.aload_n 2, 1) := by decide +kernel
theorem dX5_restore_55 : decode cX5_restore 55 = .ok (.invokevirtual 213, 3) := by decide +kernel
theorem dX5_restore_58 : decode cX5_restore 58 = .ok (.aload_n 0, 1) := by decide +kernel
theorem dX5_restore_59 : decode cX5_restore 59 = .ok (.getfield 10, 3) := by decide +kernel
theorem dX5_restore_62 : decode cX5_restore 62 = .ok (.invokevirtual 141, 3) := by decide +kernel
theorem dX5_restore_65 : decode cX5_restore 65 = .ok (.ireturn, 1) := by decide +kernel
set_option maxRecDepth 20000 in
theorem ggX5_doPart_X3_at : GoodIn wsX5_doPart wsX3_at := goodIn_r _ [7, 8, 9, 100, 101] (by decide +kernel) (by decide +kernel)
set_option maxRecDepth 20000 in
theorem gX5_doPart_X3_at : GoodIn wsX5_doPart (wsV RX5 130 RX3 yX3_at wsX3_at) := goodIn_app (goodIn_of _ (by decide +kernel)) ggX5_doPart_X3_at
set_option maxRecDepth 20000 in
theorem ggX5_doPart_X3_digitAt : GoodIn wsX5_doPart wsX3_digitAt := goodIn_r _ [13, 14, 4, 5, 6, 7, 8, 9, 100, 101] (by decide +kernel) (by decide +kernel)
set_option maxRecDepth 20000 in
theorem gX5_doPart_X3_digitAt : GoodIn wsX5_doPart (wsV RX5 227 RX3 yX3_digitAt wsX3_digitAt) := goodIn_app (goodIn_of _ (by decide +kernel)) ggX5_doPart_X3_digitAt
set_option maxRecDepth 20000 in
theorem ggX5_doPart_X0_strikeColumns : GoodIn wsX5_doPart wsX0_strikeColumns := goodIn_r _ [19, 20, 21, 22, 23, 18, 24, 25, 26, 27, 28, 29, 30, 31, 32, 33, 34, 35, 36, 37, 38, 39, 40, 41, 42, 43, 44, 45, 46, 47, 48, 49, 50, 51, 52, 53, 54, 55, 56, 57, 58, 59, 60, 61, 62, 63, 64, 65, 66, 67, 68, 69, 102, 103, 104, 105, 106, 107, 108, 109, 110, 111, 112] (by decide +kernel) (by decide +kernel)
set_option maxRecDepth 20000 in
theorem gX5_doPart_X0_strikeColumns : GoodIn wsX5_doPart (wsV RX5 105 RX0 yX0_strikeColumns wsX0_strikeColumns) := goodIn_app (goodIn_of _ (by decide +kernel)) ggX5_doPart_X0_strikeColumns
set_option maxRecDepth 20000 in
theorem ggX5_doPart_X5_changeTempo : GoodIn wsX5_doPart wsX5_changeTempo := goodIn_r _ [73, 2, 74, 75, 76, 43, 77, 95, 96, 97, 98, 99, 102, 103, 104, 105, 106, 107, 108, 109, 110, 111] (by decide +kernel) (by decide +kernel)
set_option maxRecDepth 20000 in
theorem gX5_doPart_X5_changeTempo : GoodIn wsX5_doPart (wsV RX5 230 RX5 yX5_changeTempo wsX5_changeTempo) := goodIn_app (goodIn_of _ (by decide +kernel)) ggX5_doPart_X5_changeTempo
set_option maxRecDepth 20000 in
theorem ggX5_doPart_X5_turnPegs : GoodIn wsX5_doPart wsX5_turnPegs := goodIn_r _ [81, 1, 2, 82, 83, 84, 85, 6, 86, 8, 14, 4, 5, 7, 9, 87, 88, 89, 90, 91, 11, 12, 13, 92, 93, 43, 94, 10, 95, 96, 97, 98, 99, 102, 103, 104, 105, 106, 107, 108, 109, 110, 111, 100, 101] (by decide +kernel) (by decide +kernel)
set_option maxRecDepth 20000 in
theorem gX5_doPart_X5_turnPegs : GoodIn wsX5_doPart (wsV RX5 234 RX5 yX5_turnPegs wsX5_turnPegs) := goodIn_app (goodIn_of _ (by decide +kernel)) ggX5_doPart_X5_turnPegs
theorem dX5_doPart_0 : decode cX5_doPart 0 = .ok (.aload_n 0, 1) := by decide +kernel
theorem dX5_doPart_1 : decode cX5_doPart 1 = .ok (.getfield 26, 3) := by decide +kernel
theorem dX5_doPart_4 : decode cX5_doPart 4 = .ok (.iload_n 1, 1) := by decide +kernel
theorem dX5_doPart_5 : decode cX5_doPart 5 = .ok (.invokevirtual 130, 3) := by decide +kernel
theorem dX5_doPart_8 : decode cX5_doPart 8 = .ok (.istore_n 3, 1) := by decide +kernel
theorem dX5_doPart_9 : decode cX5_doPart 9 = .ok (.iload_n 3, 1) := by decide +kernel
theorem dX5_doPart_10 : decode cX5_doPart 10 = .ok (.bipush 46, 2) := by decide +kernel
theorem dX5_doPart_12 : decode cX5_doPart 12 = .ok (.if_icmp .ne 44, 3) := by decide +kernel
theorem dX5_doPart_15 : decode cX5_doPart 15 = .ok (.iload_n 1, 1) := by decide +kernel
theorem dX5_doPart_16 : decode cX5_doPart 16 = .ok (.iconst 1, 1) := by decide +kernel
theorem dX5_doPart_17 : decode cX5_doPart 17 = .ok (.iadd, 1) := by decide +kernel
theorem dX5_doPart_18 : decode cX5_doPart 18 = .ok (.iload_n 2, 1) := by decide +kernel
theorem dX5_doPart_19 : decode cX5_doPart 19 = .ok (.if_icmp .ne 7, 3) := by decide +kernel
theorem dX5_doPart_22 : decode cX5_doPart 22 = .ok (.iconst 1, 1) := by decide +kernel
theorem dX5_doPart_23 : decode cX5_doPart 23 = .ok (.goto 4, 3) := by decide +kernel
theorem dX5_doPart_26 : decode cX5_doPart 26 = .ok (.iconst 0, 1) := by decide +kernel
theorem dX5_doPart_27 : decode cX5_doPart 27 = .ok (.istore 4, 2) := by decide +kernel
theorem dX5_doPart_29 : decode cX5_doPart 29 = .ok (.aload_n 0, 1) := by decide +kernel
theorem dX5_doPart_30 : decode cX5_doPart 30 = .ok (.getfield 10, 3) := by decide +kernel
theorem dX5_doPart_33 : decode cX5_doPart 33 = .ok (.iload 4, 2) := by decide +kernel
theorem dX5_doPart_35 : decode cX5_doPart 35 = .ok (.ifCond .eq 7, 3) := by decide +kernel
theorem dX5_doPart_38 : decode cX5_doPart 38 = .ok (.iconst 1, 1) := by decide +kernel
theorem dX5_doPart_39 : decode cX5_doPart 39 = .ok (.goto 13, 3) := by decide +kernel
theorem dX5_doPart_42 : decode cX5_doPart 42 = .ok (.aload_n 0, 1) := by decide +kernel
theorem dX5_doPart_43 : decode cX5_doPart 43 = .ok (.getfield 26, 3) := by decide +kernel
theorem dX5_doPart_46 : decode cX5_doPart 46 = .ok (.iload_n 1, 1) := by decide +kernel
theorem dX5_doPart_47 : decode cX5_doPart 47 = .ok (.iconst 1, 1) := by decide +kernel
theorem dX5_doPart_48 : decode cX5_doPart 48 = .ok (.iadd, 1) := by decide +kernel
theorem dX5_doPart_49 : decode cX5_doPart 49 = .ok (.invokevirtual 227, 3) := by decide +kernel
theorem dX5_doPart_52 : decode cX5_doPart 52 = .ok (.invokevirtual 105, 3) := by decide +kernel
theorem dX5_doPart_55 : decode cX5_doPart 55 = .ok (.ireturn, 1) := by decide +kernel
theorem dX5_doPart_56 : decode cX5_doPart 56 = .ok (.iload_n 3, 1) := by decide +kernel
theorem dX5_doPart_57 : decode cX5_doPart 57 = .ok (.bipush 116, 2) := by decide +kernel
theorem dX5_doPart_59 : decode cX5_doPart 59 = .ok (.if_icmp .ne 30, 3) := by decide +kernel
theorem dX5_doPart_62 : decode cX5_doPart 62 = .ok (.aload_n 0, 1) := by decide +kernel
theorem dX5_doPart_63 : decode cX5_doPart 63 = .ok (.aload_n 0, 1) := by decide +kernel
theorem dX5_doPart_64 : decode cX5_doPart 64 = .ok (.getfield 26, 3) := by decide +kernel
theorem dX5_doPart_67 : decode cX5_doPart 67 = .ok (.iload_n 1, 1) := by decide +kernel
theorem dX5_doPart_68 : decode cX5_doPart 68 = .ok (.iconst 1, 1) := by decide +kernel
theorem dX5_doPart_69 : decode cX5_doPart 69 = .ok (.iadd, 1) := by decide +kernel
theorem dX5_doPart_70 : decode cX5_doPart 70 = .ok (.invokevirtual 227, 3) := by decide +kernel
theorem dX5_doPart_73 : decode cX5_doPart 73 = .ok (.aload_n 0, 1) := by decide +kernel
theorem dX5_doPart_74 : decode cX5_doPart 74 = .ok (.getfield 26, 3) := by decide +kernel
theorem dX5_doPart_77 : decode cX5_doPart 77 = .ok (.iload_n 1, 1) := by decide +kernel
theorem dX5_doPart_78 : decode cX5_doPart 78 = .ok (.iconst 2, 1) := by decide +kernel
theorem dX5_doPart_79 : decode cX5_doPart 79 = .ok (.iadd, 1) := by decide +kernel
theorem dX5_doPart_80 : decode cX5_doPart 80 = .ok (.invokevirtual 227, 3) := by decide +kernel
theorem dX5_doPart_83 : decode cX5_doPart 83 = .ok (.invokevirtual 230, 3) := by decide +kernel
theorem dX5_doPart_86 : decode cX5_doPart 86 = .ok (.goto 9, 3) := by decide +kernel
theorem dX5_doPart_89 : decode cX5_doPart 89 = .ok (.aload_n 0, 1) := by decide +kernel
theorem dX5_doPart_90 : decode cX5_doPart 90 = .ok (.iload_n 1, 1) := by decide +kernel
theorem dX5_doPart_91 : decode cX5_doPart 91 = .ok (.iload_n 2, 1) := by decide +kernel
theorem dX5_doPart_92 : decode cX5_doPart 92 = .ok (.invokevirtual 234, 3) := by decide +kernel
theorem dX5_doPart_95 : decode cX5_doPart 95 = .ok (.iconst 0, 1) := by decide +kernel
theorem dX5_doPart_96 : decode cX5_doPart 96 = .ok (.ireturn, 1) := by decide +kernel
set_option maxRecDepth 20000 in
theorem ggX5_changeTempo_X5_isBar : GoodIn wsX5_changeTempo wsX5_isBar := goodIn_r _ [6] (by decide +kernel) (by decide +kernel)
set_option maxRecDepth 20000 in
theorem gX5_changeTempo_X5_isBar : GoodIn wsX5_changeTempo (va_wsS RX5 78 yX5_isBar wsX5_isBar) := goodIn_app (goodIn_of _ (by decide +kernel)) ggX5_changeTempo_X5_isBar
theorem dX5_changeTempo_0 : decode cX5_changeTempo 0 = .ok (.iload_n 1, 1) := by decide +kernel
theorem dX5_changeTempo_1 : decode cX5_changeTempo 1 = .ok (.invokestatic 78, 3) := by decide +kernel
theorem dX5_changeTempo_4 : decode cX5_changeTempo 4 = .ok (.ifCond .eq 13, 3) := by decide +kernel
theorem dX5_changeTempo_7 : decode cX5_changeTempo 7 = .ok (.aload_n 0, 1) := by decide +kernel
theorem dX5_changeTempo_8 : decode cX5_changeTempo 8 = .ok (.getfield 10, 3) := by decide +kernel
theorem dX5_changeTempo_11 : decode cX5_changeTempo 11 = .ok (.getfield 85, 3) := by decide +kernel
theorem dX5_changeTempo_14 : decode cX5_changeTempo 14 = .ok (.iload_n 1, 1) := by decide +kernel
theorem dX5_changeTempo_15 : decode cX5_changeTempo 15 = .ok (.iload_n 2, 1) := by decide +kernel
theorem dX5_changeTempo_16 : decode cX5_changeTempo 16 = .ok (.iastore, 1) := by decide +kernel
theorem dX5_changeTempo_17 : decode cX5_changeTempo 17 = .ok (.return_, 1) := by decide +kernel
set_option maxRecDepth 20000 in
theorem ggX5_turnPegs_X3_colonFrom : GoodIn wsX5_turnPegs wsX3_colonFrom := goodIn_r _ [8, 9, 10, 11, 12, 7, 13, 14, 43, 44] (by decide +kernel) (by decide +kernel)
set_option maxRecDepth 20000 in
theorem gX5_turnPegs_X3_colonFrom : GoodIn wsX5_turnPegs (wsV RX5 237 RX3 yX3_colonFrom wsX3_colonFrom) := goodIn_app (goodIn_of _ (by decide +kernel)) ggX5_turnPegs_X3_colonFrom
set_option maxRecDepth 20000 in
theorem ggX5_turnPegs_X3_numberIn : GoodIn wsX5_turnPegs wsX3_numberIn := goodIn_r _ [18, 19, 20, 21, 7, 22, 10, 11, 12, 13, 9, 14, 43, 44] (by decide +kernel) (by decide +kernel)
set_option maxRecDepth 20000 in
theorem gX5_turnPegs_X3_numberIn : GoodIn wsX5_turnPegs (wsV RX5 240 RX3 yX3_numberIn wsX3_numberIn) := goodIn_app (goodIn_of _ (by decide +kernel)) ggX5_turnPegs_X3_numberIn
set_option maxRecDepth 20000 in
theorem ggX5_turnPegs_X5_isColumn : GoodIn wsX5_turnPegs wsX5_isColumn := goodIn_r _ [26] (by decide +kernel) (by decide +kernel)
set_option maxRecDepth 20000 in
theorem gX5_turnPegs_X5_isColumn : GoodIn wsX5_turnPegs (va_wsS RX5 41 yX5_isColumn wsX5_isColumn) := goodIn_app (goodIn_of _ (by decide +kernel)) ggX5_turnPegs_X5_isColumn
set_option maxRecDepth 20000 in
theorem ggX5_turnPegs_X3_digitAt : GoodIn wsX5_turnPegs wsX3_digitAt := goodIn_r _ [22, 10, 11, 12, 7, 13, 9, 14, 43, 44] (by decide +kernel) (by decide +kernel)
set_option maxRecDepth 20000 in
theorem gX5_turnPegs_X3_digitAt : GoodIn wsX5_turnPegs (wsV RX5 227 RX3 yX3_digitAt wsX3_digitAt) := goodIn_app (goodIn_of _ (by decide +kernel)) ggX5_turnPegs_X3_digitAt
theorem dX5_turnPegs_0 : decode cX5_turnPegs 0 = .ok (.aload_n 0, 1) := by decide +kernel
theorem dX5_turnPegs_1 : decode cX5_turnPegs 1 = .ok (.getfield 26, 3) := by decide +kernel
theorem dX5_turnPegs_4 : decode cX5_turnPegs 4 = .ok (.iload_n 1, 1) := by decide +kernel
theorem dX5_turnPegs_5 : decode cX5_turnPegs 5 = .ok (.invokevirtual 237, 3) := by decide +kernel
theorem dX5_turnPegs_8 : decode cX5_turnPegs 8 = .ok (.istore_n 3, 1) := by decide +kernel
theorem dX5_turnPegs_9 : decode cX5_turnPegs 9 = .ok (.aload_n 0, 1) := by decide +kernel
theorem dX5_turnPegs_10 : decode cX5_turnPegs 10 = .ok (.getfield 26, 3) := by decide +kernel
theorem dX5_turnPegs_13 : decode cX5_turnPegs 13 = .ok (.iload_n 1, 1) := by decide +kernel
theorem dX5_turnPegs_14 : decode cX5_turnPegs 14 = .ok (.iload_n 3, 1) := by decide +kernel
theorem dX5_turnPegs_15 : decode cX5_turnPegs 15 = .ok (.invokevirtual 240, 3) := by decide +kernel
theorem dX5_turnPegs_18 : decode cX5_turnPegs 18 = .ok (.istore 4, 2) := by decide +kernel
theorem dX5_turnPegs_20 : decode cX5_turnPegs 20 = .ok (.iload 4, 2) := by decide +kernel
theorem dX5_turnPegs_22 : decode cX5_turnPegs 22 = .ok (.invokestatic 41, 3) := by decide +kernel
theorem dX5_turnPegs_25 : decode cX5_turnPegs 25 = .ok (.ifCond .eq 44, 3) := by decide +kernel
theorem dX5_turnPegs_28 : decode cX5_turnPegs 28 = .ok (.iload_n 3, 1) := by decide +kernel
theorem dX5_turnPegs_29 : decode cX5_turnPegs 29 = .ok (.iconst 1, 1) := by decide +kernel
theorem dX5_turnPegs_30 : decode cX5_turnPegs 30 = .ok (.iadd, 1) := by decide +kernel
theorem dX5_turnPegs_31 : decode cX5_turnPegs 31 = .ok (.istore 5, 2) := by decide +kernel
theorem dX5_turnPegs_33 : decode cX5_turnPegs 33 = .ok (.iload 5, 2) := by decide +kernel
theorem dX5_turnPegs_35 : decode cX5_turnPegs 35 = .ok (.iload_n 2, 1) := by decide +kernel
theorem dX5_turnPegs_36 : decode cX5_turnPegs 36 = .ok (.if_icmp .ge 33, 3) := by decide +kernel
theorem dX5_turnPegs_39 : decode cX5_turnPegs 39 = .ok (.aload_n 0, 1) := by decide +kernel
theorem dX5_turnPegs_40 : decode cX5_turnPegs 40 = .ok (.getfield 10, 3) := by decide +kernel
theorem dX5_turnPegs_43 : decode cX5_turnPegs 43 = .ok (.getfield 59, 3) := by decide +kernel
theorem dX5_turnPegs_46 : decode cX5_turnPegs 46 = .ok (.iload 4, 2) := by decide +kernel
theorem dX5_turnPegs_48 : decode cX5_turnPegs 48 = .ok (.dup2, 1) := by decide +kernel
theorem dX5_turnPegs_49 : decode cX5_turnPegs 49 = .ok (.iaload, 1) := by decide +kernel
theorem dX5_turnPegs_50 : decode cX5_turnPegs 50 = .ok (.iconst 1, 1) := by decide +kernel
theorem dX5_turnPegs_51 : decode cX5_turnPegs 51 = .ok (.aload_n 0, 1) := by decide +kernel
theorem dX5_turnPegs_52 : decode cX5_turnPegs 52 = .ok (.getfield 26, 3) := by decide +kernel
theorem dX5_turnPegs_55 : decode cX5_turnPegs 55 = .ok (.iload 5, 2) := by decide +kernel
theorem dX5_turnPegs_57 : decode cX5_turnPegs 57 = .ok (.invokevirtual 227, 3) := by decide +kernel
theorem dX5_turnPegs_60 : decode cX5_turnPegs 60 = .ok (.ishl, 1) := by decide +kernel
theorem dX5_turnPegs_61 : decode cX5_turnPegs 61 = .ok (.ixor, 1) := by decide +kernel
theorem dX5_turnPegs_62 : decode cX5_turnPegs 62 = .ok (.iastore, 1) := by decide +kernel
theorem dX5_turnPegs_63 : decode cX5_turnPegs 63 = .ok (.iinc 5 1, 3) := by decide +kernel
theorem dX5_turnPegs_66 : decode cX5_turnPegs 66 = .ok (.goto (-33), 3) := by decide +kernel
theorem dX5_turnPegs_69 : decode cX5_turnPegs 69 = .ok (.return_, 1) := by decide +kernel
theorem dX5_isColumn_0 : decode cX5_isColumn 0 = .ok (.iload_n 0, 1) := by decide +kernel
theorem dX5_isColumn_1 : decode cX5_isColumn 1 = .ok (.ifCond .lt 13, 3) := by decide +kernel
theorem dX5_isColumn_4 : decode cX5_isColumn 4 = .ok (.iload_n 0, 1) := by decide +kernel
theorem dX5_isColumn_5 : decode cX5_isColumn 5 = .ok (.bipush 32, 2) := by decide +kernel
theorem dX5_isColumn_7 : decode cX5_isColumn 7 = .ok (.if_icmp .ge 7, 3) := by decide +kernel
theorem dX5_isColumn_10 : decode cX5_isColumn 10 = .ok (.iconst 1, 1) := by decide +kernel
theorem dX5_isColumn_11 : decode cX5_isColumn 11 = .ok (.goto 4, 3) := by decide +kernel
theorem dX5_isColumn_14 : decode cX5_isColumn 14 = .ok (.iconst 0, 1) := by decide +kernel
theorem dX5_isColumn_15 : decode cX5_isColumn 15 = .ok (.ireturn, 1) := by decide +kernel
theorem dX5_isBar_0 : decode cX5_isBar 0 = .ok (.iload_n 0, 1) := by decide +kernel
theorem dX5_isBar_1 : decode cX5_isBar 1 = .ok (.ifCond .lt 12, 3) := by decide +kernel
theorem dX5_isBar_4 : decode cX5_isBar 4 = .ok (.iload_n 0, 1) := by decide +kernel
theorem dX5_isBar_5 : decode cX5_isBar 5 = .ok (.iconst 4, 1) := by decide +kernel
theorem dX5_isBar_6 : decode cX5_isBar 6 = .ok (.if_icmp .ge 7, 3) := by decide +kernel
theorem dX5_isBar_9 : decode cX5_isBar 9 = .ok (.iconst 1, 1) := by decide +kernel
theorem dX5_isBar_10 : decode cX5_isBar 10 = .ok (.goto 4, 3) := by decide +kernel
theorem dX5_isBar_13 : decode cX5_isBar 13 = .ok (.iconst 0, 1) := by decide +kernel
theorem dX5_isBar_14 : decode cX5_isBar 14 = .ok (.ireturn, 1) := by decide +kernel
theorem dX5_isBell_0 : decode cX5_isBell 0 = .ok (.iload_n 0, 1) := by decide +kernel
theorem dX5_isBell_1 : decode cX5_isBell 1 = .ok (.ifCond .lt 13, 3) := by decide +kernel
theorem dX5_isBell_4 : decode cX5_isBell 4 = .ok (.iload_n 0, 1) := by decide +kernel
theorem dX5_isBell_5 : decode cX5_isBell 5 = .ok (.bipush 10, 2) := by decide +kernel
theorem dX5_isBell_7 : decode cX5_isBell 7 = .ok (.if_icmp .ge 7, 3) := by decide +kernel
theorem dX5_isBell_10 : decode cX5_isBell 10 = .ok (.iconst 1, 1) := by decide +kernel
theorem dX5_isBell_11 : decode cX5_isBell 11 = .ok (.goto 4, 3) := by decide +kernel
theorem dX5_isBell_14 : decode cX5_isBell 14 = .ok (.iconst 0, 1) := by decide +kernel
theorem dX5_isBell_15 : decode cX5_isBell 15 = .ok (.ireturn, 1) := by decide +kernel
theorem dX5_isSlot_0 : decode cX5_isSlot 0 = .ok (.iload_n 0, 1) := by decide +kernel
theorem dX5_isSlot_1 : decode cX5_isSlot 1 = .ok (.ifCond .lt 12, 3) := by decide +kernel
theorem dX5_isSlot_4 : decode cX5_isSlot 4 = .ok (.iload_n 0, 1) := by decide +kernel
theorem dX5_isSlot_5 : decode cX5_isSlot 5 = .ok (.iconst 2, 1) := by decide +kernel
theorem dX5_isSlot_6 : decode cX5_isSlot 6 = .ok (.if_icmp .ge 7, 3) := by decide +kernel
theorem dX5_isSlot_9 : decode cX5_isSlot 9 = .ok (.iconst 1, 1) := by decide +kernel
theorem dX5_isSlot_10 : decode cX5_isSlot 10 = .ok (.goto 4, 3) := by decide +kernel
theorem dX5_isSlot_13 : decode cX5_isSlot 13 = .ok (.iconst 0, 1) := by decide +kernel
theorem dX5_isSlot_14 : decode cX5_isSlot 14 = .ok (.ireturn, 1) := by decide +kernel
theorem dX5_holds_0 : decode cX5_holds 0 = .ok (.iload_n 0, 1) := by decide +kernel
theorem dX5_holds_1 : decode cX5_holds 1 = .ok (.iload_n 1, 1) := by decide +kernel
theorem dX5_holds_2 : decode cX5_holds 2 = .ok (.ishr, 1) := by decide +kernel
theorem dX5_holds_3 : decode cX5_holds 3 = .ok (.iconst 1, 1) := by decide +kernel
theorem dX5_holds_4 : decode cX5_holds 4 = .ok (.iand, 1) := by decide +kernel
theorem dX5_holds_5 : decode cX5_holds 5 = .ok (.iconst 1, 1) := by decide +kernel
theorem dX5_holds_6 : decode cX5_holds 6 = .ok (.if_icmp .ne 7, 3) := by decide +kernel
theorem dX5_holds_9 : decode cX5_holds 9 = .ok (.iconst 1, 1) := by decide +kernel
theorem dX5_holds_10 : decode cX5_holds 10 = .ok (.goto 4, 3) := by decide +kernel
theorem dX5_holds_13 : decode cX5_holds 13 = .ok (.iconst 0, 1) := by decide +kernel
theorem dX5_holds_14 : decode cX5_holds 14 = .ok (.ireturn, 1) := by decide +kernel
theorem dX6_init_0 : decode cX6_init 0 = .ok (.aload_n 0, 1) := by decide +kernel
theorem dX6_init_1 : decode cX6_init 1 = .ok (.invokespecial 1, 3) := by decide +kernel
theorem dX6_init_4 : decode cX6_init 4 = .ok (.aload_n 0, 1) := by decide +kernel
theorem dX6_init_5 : decode cX6_init 5 = .ok (.bipush 70, 2) := by decide +kernel
theorem dX6_init_7 : decode cX6_init 7 = .ok (.newarray .int, 2) := by decide +kernel
theorem dX6_init_9 : decode cX6_init 9 = .ok (.putfield 7, 3) := by decide +kernel
theorem dX6_init_12 : decode cX6_init 12 = .ok (.aload_n 0, 1) := by decide +kernel
theorem dX6_init_13 : decode cX6_init 13 = .ok (.sipush 140, 3) := by decide +kernel
theorem dX6_init_16 : decode cX6_init 16 = .ok (.newarray .int, 2) := by decide +kernel
theorem dX6_init_18 : decode cX6_init 18 = .ok (.putfield 13, 3) := by decide +kernel
theorem dX6_init_21 : decode cX6_init 21 = .ok (.aload_n 0, 1) := by decide +kernel
theorem dX6_init_22 : decode cX6_init 22 = .ok (.iconst 2, 1) := by decide +kernel
theorem dX6_init_23 : decode cX6_init 23 = .ok (.newarray .boolean, 2) := by decide +kernel
theorem dX6_init_25 : decode cX6_init 25 = .ok (.putfield 16, 3) := by decide +kernel
theorem dX6_init_28 : decode cX6_init 28 = .ok (.aload_n 0, 1) := by decide +kernel
theorem dX6_init_29 : decode cX6_init 29 = .ok (.sipush 420, 3) := by decide +kernel
theorem dX6_init_32 : decode cX6_init 32 = .ok (.newarray .int, 2) := by decide +kernel
theorem dX6_init_34 : decode cX6_init 34 = .ok (.putfield 20, 3) := by decide +kernel
theorem dX6_init_37 : decode cX6_init 37 = .ok (.aload_n 0, 1) := by decide +kernel
theorem dX6_init_38 : decode cX6_init 38 = .ok (.bipush 60, 2) := by decide +kernel
theorem dX6_init_40 : decode cX6_init 40 = .ok (.newarray .int, 2) := by decide +kernel
theorem dX6_init_42 : decode cX6_init 42 = .ok (.putfield 23, 3) := by decide +kernel
theorem dX6_init_45 : decode cX6_init 45 = .ok (.aload_n 0, 1) := by decide +kernel
theorem dX6_init_46 : decode cX6_init 46 = .ok (.bipush 10, 2) := by decide +kernel
theorem dX6_init_48 : decode cX6_init 48 = .ok (.newarray .int, 2) := by decide +kernel
theorem dX6_init_50 : decode cX6_init 50 = .ok (.putfield 26, 3) := by decide +kernel
theorem dX6_init_53 : decode cX6_init 53 = .ok (.aload_n 0, 1) := by decide +kernel
theorem dX6_init_54 : decode cX6_init 54 = .ok (.bipush 32, 2) := by decide +kernel
theorem dX6_init_56 : decode cX6_init 56 = .ok (.newarray .int, 2) := by decide +kernel
theorem dX6_init_58 : decode cX6_init 58 = .ok (.putfield 29, 3) := by decide +kernel
theorem dX6_init_61 : decode cX6_init 61 = .ok (.iconst 0, 1) := by decide +kernel
theorem dX6_init_62 : decode cX6_init 62 = .ok (.istore_n 1, 1) := by decide +kernel
theorem dX6_init_63 : decode cX6_init 63 = .ok (.iload_n 1, 1) := by decide +kernel
theorem dX6_init_64 : decode cX6_init 64 = .ok (.iconst 4, 1) := by decide +kernel
theorem dX6_init_65 : decode cX6_init 65 = .ok (.if_icmp .ge 19, 3) := by decide +kernel
theorem dX6_init_68 : decode cX6_init 68 = .ok (.aload_n 0, 1) := by decide +kernel
theorem dX6_init_69 : decode cX6_init 69 = .ok (.getfield 7, 3) := by decide +kernel
theorem dX6_init_72 : decode cX6_init 72 = .ok (.bipush 32, 2) := by decide +kernel
theorem dX6_init_74 : decode cX6_init 74 = .ok (.iload_n 1, 1) := by decide +kernel
theorem dX6_init_75 : decode cX6_init 75 = .ok (.iadd, 1) := by decide +kernel
theorem dX6_init_76 : decode cX6_init 76 = .ok (.iconst 4, 1) := by decide +kernel
theorem dX6_init_77 : decode cX6_init 77 = .ok (.iastore, 1) := by decide +kernel
theorem dX6_init_78 : decode cX6_init 78 = .ok (.iinc 1 1, 3) := by decide +kernel
theorem dX6_init_81 : decode cX6_init 81 = .ok (.goto (-18), 3) := by decide +kernel
theorem dX6_init_84 : decode cX6_init 84 = .ok (.iconst 0, 1) := by decide +kernel
theorem dX6_init_85 : decode cX6_init 85 = .ok (.istore_n 1, 1) := by decide +kernel
theorem dX6_init_86 : decode cX6_init 86 = .ok (.iload_n 1, 1) := by decide +kernel
theorem dX6_init_87 : decode cX6_init 87 = .ok (.bipush 10, 2) := by decide +kernel
theorem dX6_init_89 : decode cX6_init 89 = .ok (.if_icmp .ge 36, 3) := by decide +kernel
theorem dX6_init_92 : decode cX6_init 92 = .ok (.aload_n 0, 1) := by decide +kernel
theorem dX6_init_93 : decode cX6_init 93 = .ok (.getfield 7, 3) := by decide +kernel
theorem dX6_init_96 : decode cX6_init 96 = .ok (.bipush 36, 2) := by decide +kernel
theorem dX6_init_98 : decode cX6_init 98 = .ok (.iload_n 1, 1) := by decide +kernel
theorem dX6_init_99 : decode cX6_init 99 = .ok (.iadd, 1) := by decide +kernel
theorem dX6_init_100 : decode cX6_init 100 = .ok (.bipush 60, 2) := by decide +kernel
theorem dX6_init_102 : decode cX6_init 102 = .ok (.bipush 6, 2) := by decide +kernel
theorem dX6_init_104 : decode cX6_init 104 = .ok (.iload_n 1, 1) := by decide +kernel
theorem dX6_init_105 : decode cX6_init 105 = .ok (.imul, 1) := by decide +kernel
theorem dX6_init_106 : decode cX6_init 106 = .ok (.isub, 1) := by decide +kernel
theorem dX6_init_107 : decode cX6_init 107 = .ok (.iastore, 1) := by decide +kernel
theorem dX6_init_108 : decode cX6_init 108 = .ok (.aload_n 0, 1) := by decide +kernel
theorem dX6_init_109 : decode cX6_init 109 = .ok (.getfield 7, 3) := by decide +kernel
theorem dX6_init_112 : decode cX6_init 112 = .ok (.bipush 60, 2) := by decide +kernel
theorem dX6_init_114 : decode cX6_init 114 = .ok (.iload_n 1, 1) := by decide +kernel
theorem dX6_init_115 : decode cX6_init 115 = .ok (.iadd, 1) := by decide +kernel
theorem dX6_init_116 : decode cX6_init 116 = .ok (.bipush 9, 2) := by decide +kernel
theorem dX6_init_118 : decode cX6_init 118 = .ok (.iastore, 1) := by decide +kernel
theorem dX6_init_119 : decode cX6_init 119 = .ok (.iinc 1 1, 3) := by decide +kernel
theorem dX6_init_122 : decode cX6_init 122 = .ok (.goto (-36), 3) := by decide +kernel
theorem dX6_init_125 : decode cX6_init 125 = .ok (.aload_n 0, 1) := by decide +kernel
theorem dX6_init_126 : decode cX6_init 126 = .ok (.getfield 7, 3) := by decide +kernel
theorem dX6_init_129 : decode cX6_init 129 = .ok (.bipush 46, 2) := by decide +kernel
theorem dX6_init_131 : decode cX6_init 131 = .ok (.bipush 120, 2) := by decide +kernel
theorem dX6_init_133 : decode cX6_init 133 = .ok (.iastore, 1) := by decide +kernel
theorem dX6_init_134 : decode cX6_init 134 = .ok (.return_, 1) := by decide +kernel
theorem dX6_thrown_0 : decode cX6_thrown 0 = .ok (.aload_n 0, 1) := by decide +kernel
theorem dX6_thrown_1 : decode cX6_thrown 1 = .ok (.getfield 32, 3) := by decide +kernel
theorem dX6_thrown_4 : decode cX6_thrown 4 = .ok (.ireturn, 1) := by decide +kernel
theorem dX6_in_0 : decode cX6_in 0 = .ok (.iload_n 0, 1) := by decide +kernel
theorem dX6_in_1 : decode cX6_in 1 = .ok (.iload_n 1, 1) := by decide +kernel
theorem dX6_in_2 : decode cX6_in 2 = .ok (.if_icmp .lt 12, 3) := by decide +kernel
theorem dX6_in_5 : decode cX6_in 5 = .ok (.iload_n 0, 1) := by decide +kernel
theorem dX6_in_6 : decode cX6_in 6 = .ok (.iload_n 2, 1) := by decide +kernel
theorem dX6_in_7 : decode cX6_in 7 = .ok (.if_icmp .gt 7, 3) := by decide +kernel
theorem dX6_in_10 : decode cX6_in 10 = .ok (.iconst 1, 1) := by decide +kernel
theorem dX6_in_11 : decode cX6_in 11 = .ok (.goto 4, 3) := by decide +kernel
theorem dX6_in_14 : decode cX6_in 14 = .ok (.iconst 0, 1) := by decide +kernel
theorem dX6_in_15 : decode cX6_in 15 = .ok (.ireturn, 1) := by decide +kernel
theorem dX6_holds_0 : decode cX6_holds 0 = .ok (.aload_n 0, 1) := by decide +kernel
theorem dX6_holds_1 : decode cX6_holds 1 = .ok (.iload_n 1, 1) := by decide +kernel
theorem dX6_holds_2 : decode cX6_holds 2 = .ok (.putfield 32, 3) := by decide +kernel
theorem dX6_holds_5 : decode cX6_holds 5 = .ok (.iload_n 1, 1) := by decide +kernel
theorem dX6_holds_6 : decode cX6_holds 6 = .ok (.ifCond .ne 7, 3) := by decide +kernel
theorem dX6_holds_9 : decode cX6_holds 9 = .ok (.iconst 1, 1) := by decide +kernel
theorem dX6_holds_10 : decode cX6_holds 10 = .ok (.goto 4, 3) := by decide +kernel
theorem dX6_holds_13 : decode cX6_holds 13 = .ok (.iconst 0, 1) := by decide +kernel
theorem dX6_holds_14 : decode cX6_holds 14 = .ok (.ireturn, 1) := by decide +kernel
set_option maxRecDepth 20000 in
theorem ggX6_isColumn_X6_in : GoodIn wsX6_isColumn wsX6_in := goodIn_r _ [4] (by decide +kernel) (by decide +kernel)
set_option maxRecDepth 20000 in
theorem gX6_isColumn_X6_in : GoodIn wsX6_isColumn (va_wsS RX6 36 yX6_in wsX6_in) := goodIn_app (goodIn_of _ (by decide +kernel)) ggX6_isColumn_X6_in
theorem dX6_isColumn_0 : decode cX6_isColumn 0 = .ok (.iload_n 0, 1) := by decide +kernel
theorem dX6_isColumn_1 : decode cX6_isColumn 1 = .ok (.iconst 0, 1) := by decide +kernel
theorem dX6_isColumn_2 : decode cX6_isColumn 2 = .ok (.bipush 31, 2) := by decide +kernel
theorem dX6_isColumn_4 : decode cX6_isColumn 4 = .ok (.invokestatic 36, 3) := by decide +kernel
theorem dX6_isColumn_7 : decode cX6_isColumn 7 = .ok (.ireturn, 1) := by decide +kernel
set_option maxRecDepth 20000 in
theorem ggX6_isBell_X6_in : GoodIn wsX6_isBell wsX6_in := goodIn_r _ [4] (by decide +kernel) (by decide +kernel)
set_option maxRecDepth 20000 in
theorem gX6_isBell_X6_in : GoodIn wsX6_isBell (va_wsS RX6 36 yX6_in wsX6_in) := goodIn_app (goodIn_of _ (by decide +kernel)) ggX6_isBell_X6_in
theorem dX6_isBell_0 : decode cX6_isBell 0 = .ok (.iload_n 0, 1) := by decide +kernel
theorem dX6_isBell_1 : decode cX6_isBell 1 = .ok (.iconst 0, 1) := by decide +kernel
theorem dX6_isBell_2 : decode cX6_isBell 2 = .ok (.bipush 9, 2) := by decide +kernel
theorem dX6_isBell_4 : decode cX6_isBell 4 = .ok (.invokestatic 36, 3) := by decide +kernel
theorem dX6_isBell_7 : decode cX6_isBell 7 = .ok (.ireturn, 1) := by decide +kernel
set_option maxRecDepth 20000 in
theorem ggX6_isBar_X6_in : GoodIn wsX6_isBar wsX6_in := goodIn_r _ [4] (by decide +kernel) (by decide +kernel)
set_option maxRecDepth 20000 in
theorem gX6_isBar_X6_in : GoodIn wsX6_isBar (va_wsS RX6 36 yX6_in wsX6_in) := goodIn_app (goodIn_of _ (by decide +kernel)) ggX6_isBar_X6_in
theorem dX6_isBar_0 : decode cX6_isBar 0 = .ok (.iload_n 0, 1) := by decide +kernel
theorem dX6_isBar_1 : decode cX6_isBar 1 = .ok (.iconst 0, 1) := by decide +kernel
theorem dX6_isBar_2 : decode cX6_isBar 2 = .ok (.iconst 3, 1) := by decide +kernel
theorem dX6_isBar_3 : decode cX6_isBar 3 = .ok (.invokestatic 36, 3) := by decide +kernel
theorem dX6_isBar_6 : decode cX6_isBar 6 = .ok (.ireturn, 1) := by decide +kernel
theorem dX6_records_0 : decode cX6_records 0 = .ok (.aload_n 0, 1) := by decide +kernel
theorem dX6_records_1 : decode cX6_records 1 = .ok (.getfield 40, 3) := by decide +kernel
theorem dX6_records_4 : decode cX6_records 4 = .ok (.bipush 6, 2) := by decide +kernel
theorem dX6_records_6 : decode cX6_records 6 = .ok (.if_icmp .ne 43, 3) := by decide +kernel
theorem dX6_records_9 : decode cX6_records 9 = .ok (.iconst 0, 1) := by decide +kernel
theorem dX6_records_10 : decode cX6_records 10 = .ok (.istore_n 1, 1) := by decide +kernel
theorem dX6_records_11 : decode cX6_records 11 = .ok (.iload_n 1, 1) := by decide +kernel
theorem dX6_records_12 : decode cX6_records 12 = .ok (.sipush 350, 3) := by decide +kernel
theorem dX6_records_15 : decode cX6_records 15 = .ok (.if_icmp .ge 24, 3) := by decide +kernel
theorem dX6_records_18 : decode cX6_records 18 = .ok (.aload_n 0, 1) := by decide +kernel
theorem dX6_records_19 : decode cX6_records 19 = .ok (.getfield 20, 3) := by decide +kernel
theorem dX6_records_22 : decode cX6_records 22 = .ok (.iload_n 1, 1) := by decide +kernel
theorem dX6_records_23 : decode cX6_records 23 = .ok (.aload_n 0, 1) := by decide +kernel
theorem dX6_records_24 : decode cX6_records 24 = .ok (.getfield 20, 3) := by decide +kernel
theorem dX6_records_27 : decode cX6_records 27 = .ok (.bipush 70, 2) := by decide +kernel
theorem dX6_records_29 : decode cX6_records 29 = .ok (.iload_n 1, 1) := by decide +kernel
theorem dX6_records_30 : decode cX6_records 30 = .ok (.iadd, 1) := by decide +kernel
theorem dX6_records_31 : decode cX6_records 31 = .ok (.iaload, 1) := by decide +kernel
theorem dX6_records_32 : decode cX6_records 32 = .ok (.iastore, 1) := by decide +kernel
theorem dX6_records_33 : decode cX6_records 33 = .ok (.iinc 1 1, 3) := by decide +kernel
theorem dX6_records_36 : decode cX6_records 36 = .ok (.goto (-25), 3) := by decide +kernel
theorem dX6_records_39 : decode cX6_records 39 = .ok (.aload_n 0, 1) := by decide +kernel
theorem dX6_records_40 : decode cX6_records 40 = .ok (.dup, 1) := by decide +kernel
theorem dX6_records_41 : decode cX6_records 41 = .ok (.getfield 40, 3) := by decide +kernel
theorem dX6_records_44 : decode cX6_records 44 = .ok (.iconst 1, 1) := by decide +kernel
theorem dX6_records_45 : decode cX6_records 45 = .ok (.isub, 1) := by decide +kernel
theorem dX6_records_46 : decode cX6_records 46 = .ok (.putfield 40, 3) := by decide +kernel
theorem dX6_records_49 : decode cX6_records 49 = .ok (.iconst 0, 1) := by decide +kernel
theorem dX6_records_50 : decode cX6_records 50 = .ok (.istore_n 1, 1) := by decide +kernel
theorem dX6_records_51 : decode cX6_records 51 = .ok (.iload_n 1, 1) := by decide +kernel
theorem dX6_records_52 : decode cX6_records 52 = .ok (.bipush 70, 2) := by decide +kernel
theorem dX6_records_54 : decode cX6_records 54 = .ok (.if_icmp .ge 29, 3) := by decide +kernel
theorem dX6_records_57 : decode cX6_records 57 = .ok (.aload_n 0, 1) := by decide +kernel
theorem dX6_records_58 : decode cX6_records 58 = .ok (.getfield 20, 3) := by decide +kernel
theorem dX6_records_61 : decode cX6_records 61 = .ok (.bipush 70, 2) := by decide +kernel
theorem dX6_records_63 : decode cX6_records 63 = .ok (.aload_n 0, 1) := by decide +kernel
theorem dX6_records_64 : decode cX6_records 64 = .ok (.getfield 40, 3) := by decide +kernel
theorem dX6_records_67 : decode cX6_records 67 = .ok (.imul, 1) := by decide +kernel
theorem dX6_records_68 : decode cX6_records 68 = .ok (.iload_n 1, 1) := by decide +kernel
theorem dX6_records_69 : decode cX6_records 69 = .ok (.iadd, 1) := by decide +kernel
theorem dX6_records_70 : decode cX6_records 70 = .ok (.aload_n 0, 1) := by decide +kernel
theorem dX6_records_71 : decode cX6_records 71 = .ok (.getfield 7, 3) := by decide +kernel
theorem dX6_records_74 : decode cX6_records 74 = .ok (.iload_n 1, 1) := by decide +kernel
theorem dX6_records_75 : decode cX6_records 75 = .ok (.iaload, 1) := by decide +kernel
theorem dX6_records_76 : decode cX6_records 76 = .ok (.iastore, 1) := by decide +kernel
theorem dX6_records_77 : decode cX6_records 77 = .ok (.iinc 1 1, 3) := by decide +kernel
theorem dX6_records_80 : decode cX6_records 80 = .ok (.goto (-29), 3) := by decide +kernel
theorem dX6_records_83 : decode cX6_records 83 = .ok (.aload_n 0, 1) := by decide +kernel
theorem dX6_records_84 : decode cX6_records 84 = .ok (.dup, 1) := by decide +kernel
theorem dX6_records_85 : decode cX6_records 85 = .ok (.getfield 40, 3) := by decide +kernel
theorem dX6_records_88 : decode cX6_records 88 = .ok (.iconst 1, 1) := by decide +kernel
theorem dX6_records_89 : decode cX6_records 89 = .ok (.iadd, 1) := by decide +kernel
theorem dX6_records_90 : decode cX6_records 90 = .ok (.putfield 40, 3) := by decide +kernel
theorem dX6_records_93 : decode cX6_records 93 = .ok (.return_, 1) := by decide +kernel
theorem dX6_count_0 : decode cX6_count 0 = .ok (.iconst 0, 1) := by decide +kernel
theorem dX6_count_1 : decode cX6_count 1 = .ok (.istore_n 1, 1) := by decide +kernel
theorem dX6_count_2 : decode cX6_count 2 = .ok (.iconst 0, 1) := by decide +kernel
theorem dX6_count_3 : decode cX6_count 3 = .ok (.istore_n 2, 1) := by decide +kernel
theorem dX6_count_4 : decode cX6_count 4 = .ok (.iload_n 2, 1) := by decide +kernel
theorem dX6_count_5 : decode cX6_count 5 = .ok (.bipush 10, 2) := by decide +kernel
theorem dX6_count_7 : decode cX6_count 7 = .ok (.if_icmp .ge 17, 3) := by decide +kernel
theorem dX6_count_10 : decode cX6_count 10 = .ok (.iload_n 1, 1) := by decide +kernel
theorem dX6_count_11 : decode cX6_count 11 = .ok (.iload_n 0, 1) := by decide +kernel
theorem dX6_count_12 : decode cX6_count 12 = .ok (.iload_n 2, 1) := by decide +kernel
theorem dX6_count_13 : decode cX6_count 13 = .ok (.ishr, 1) := by decide +kernel
theorem dX6_count_14 : decode cX6_count 14 = .ok (.iconst 1, 1) := by decide +kernel
theorem dX6_count_15 : decode cX6_count 15 = .ok (.iand, 1) := by decide +kernel
theorem dX6_count_16 : decode cX6_count 16 = .ok (.iadd, 1) := by decide +kernel
theorem dX6_count_17 : decode cX6_count 17 = .ok (.istore_n 1, 1) := by decide +kernel
theorem dX6_count_18 : decode cX6_count 18 = .ok (.iinc 2 1, 3) := by decide +kernel
theorem dX6_count_21 : decode cX6_count 21 = .ok (.goto (-17), 3) := by decide +kernel
theorem dX6_count_24 : decode cX6_count 24 = .ok (.iload_n 1, 1) := by decide +kernel
theorem dX6_count_25 : decode cX6_count 25 = .ok (.ireturn, 1) := by decide +kernel
set_option maxRecDepth 20000 in
theorem ggX6_allPegs_X6_count : GoodIn wsX6_allPegs wsX6_count := goodIn_r _ [5] (by decide +kernel) (by decide +kernel)
set_option maxRecDepth 20000 in
theorem gX6_allPegs_X6_count : GoodIn wsX6_allPegs (va_wsS RX6 43 yX6_count wsX6_count) := goodIn_app (goodIn_of _ (by decide +kernel)) ggX6_allPegs_X6_count
theorem dX6_allPegs_0 : decode cX6_allPegs 0 = .ok (.iconst 0, 1) := by decide +kernel
theorem dX6_allPegs_1 : decode cX6_allPegs 1 = .ok (.istore_n 1, 1) := by decide +kernel
theorem dX6_allPegs_2 : decode cX6_allPegs 2 = .ok (.iconst 0, 1) := by decide +kernel
theorem dX6_allPegs_3 : decode cX6_allPegs 3 = .ok (.istore_n 2, 1) := by decide +kernel
theorem dX6_allPegs_4 : decode cX6_allPegs 4 = .ok (.iload_n 2, 1) := by decide +kernel
theorem dX6_allPegs_5 : decode cX6_allPegs 5 = .ok (.bipush 32, 2) := by decide +kernel
theorem dX6_allPegs_7 : decode cX6_allPegs 7 = .ok (.if_icmp .ge 23, 3) := by decide +kernel
theorem dX6_allPegs_10 : decode cX6_allPegs 10 = .ok (.iload_n 1, 1) := by decide +kernel
theorem dX6_allPegs_11 : decode cX6_allPegs 11 = .ok (.aload_n 0, 1) := by decide +kernel
theorem dX6_allPegs_12 : decode cX6_allPegs 12 = .ok (.getfield 7, 3) := by decide +kernel
theorem dX6_allPegs_15 : decode cX6_allPegs 15 = .ok (.iconst 0, 1) := by decide +kernel
theorem dX6_allPegs_16 : decode cX6_allPegs 16 = .ok (.iload_n 2, 1) := by decide +kernel
theorem dX6_allPegs_17 : decode cX6_allPegs 17 = .ok (.iadd, 1) := by decide +kernel
theorem dX6_allPegs_18 : decode cX6_allPegs 18 = .ok (.iaload, 1) := by decide +kernel
theorem dX6_allPegs_19 : decode cX6_allPegs 19 = .ok (.invokestatic 43, 3) := by decide +kernel
theorem dX6_allPegs_22 : decode cX6_allPegs 22 = .ok (.iadd, 1) := by decide +kernel
theorem dX6_allPegs_23 : decode cX6_allPegs 23 = .ok (.istore_n 1, 1) := by decide +kernel
theorem dX6_allPegs_24 : decode cX6_allPegs 24 = .ok (.iinc 2 1, 3) := by decide +kernel
theorem dX6_allPegs_27 : decode cX6_allPegs 27 = .ok (.goto (-23), 3) := by decide +kernel
theorem dX6_allPegs_30 : decode cX6_allPegs 30 = .ok (.iload_n 1, 1) := by decide +kernel
theorem dX6_allPegs_31 : decode cX6_allPegs 31 = .ok (.ireturn, 1) := by decide +kernel
theorem dX6_weightIn_0 : decode cX6_weightIn 0 = .ok (.iconst 0, 1) := by decide +kernel
theorem dX6_weightIn_1 : decode cX6_weightIn 1 = .ok (.istore_n 2, 1) := by decide +kernel
theorem dX6_weightIn_2 : decode cX6_weightIn 2 = .ok (.iconst 0, 1) := by decide +kernel
theorem dX6_weightIn_3 : decode cX6_weightIn 3 = .ok (.istore_n 3, 1) := by decide +kernel
theorem dX6_weightIn_4 : decode cX6_weightIn 4 = .ok (.iload_n 3, 1) := by decide +kernel
theorem dX6_weightIn_5 : decode cX6_weightIn 5 = .ok (.bipush 10, 2) := by decide +kernel
theorem dX6_weightIn_7 : decode cX6_weightIn 7 = .ok (.if_icmp .ge 27, 3) := by decide +kernel
theorem dX6_weightIn_10 : decode cX6_weightIn 10 = .ok (.iload_n 2, 1) := by decide +kernel
theorem dX6_weightIn_11 : decode cX6_weightIn 11 = .ok (.iload_n 1, 1) := by decide +kernel
theorem dX6_weightIn_12 : decode cX6_weightIn 12 = .ok (.iload_n 3, 1) := by decide +kernel
theorem dX6_weightIn_13 : decode cX6_weightIn 13 = .ok (.ishr, 1) := by decide +kernel
theorem dX6_weightIn_14 : decode cX6_weightIn 14 = .ok (.iconst 1, 1) := by decide +kernel
theorem dX6_weightIn_15 : decode cX6_weightIn 15 = .ok (.iand, 1) := by decide +kernel
theorem dX6_weightIn_16 : decode cX6_weightIn 16 = .ok (.aload_n 0, 1) := by decide +kernel
theorem dX6_weightIn_17 : decode cX6_weightIn 17 = .ok (.getfield 7, 3) := by decide +kernel
theorem dX6_weightIn_20 : decode cX6_weightIn 20 = .ok (.bipush 36, 2) := by decide +kernel
theorem dX6_weightIn_22 : decode cX6_weightIn 22 = .ok (.iload_n 3, 1) := by decide +kernel
theorem dX6_weightIn_23 : decode cX6_weightIn 23 = .ok (.iadd, 1) := by decide +kernel
theorem dX6_weightIn_24 : decode cX6_weightIn 24 = .ok (.iaload, 1) := by decide +kernel
theorem dX6_weightIn_25 : decode cX6_weightIn 25 = .ok (.imul, 1) := by decide +kernel
theorem dX6_weightIn_26 : decode cX6_weightIn 26 = .ok (.iadd, 1) := by decide +kernel
theorem dX6_weightIn_27 : decode cX6_weightIn 27 = .ok (.istore_n 2, 1) := by decide +kernel
theorem dX6_weightIn_28 : decode cX6_weightIn 28 = .ok (.iinc 3 1, 3) := by decide +kernel
theorem dX6_weightIn_31 : decode cX6_weightIn 31 = .ok (.goto (-27), 3) := by decide +kernel
theorem dX6_weightIn_34 : decode cX6_weightIn 34 = .ok (.iload_n 2, 1) := by decide +kernel
theorem dX6_weightIn_35 : decode cX6_weightIn 35 = .ok (.ireturn, 1) := by decide +kernel
set_option maxRecDepth 20000 in
theorem ggX6_missedFor_X6_weightIn : GoodIn wsX6_missedFor wsX6_weightIn := goodIn_r _ [6, 1, 7, 8, 9, 10, 11, 12, 13, 14, 15, 16, 17] (by decide +kernel) (by decide +kernel)
set_option maxRecDepth 20000 in
theorem gX6_missedFor_X6_weightIn : GoodIn wsX6_missedFor (wsV RX6 47 RX6 yX6_weightIn wsX6_weightIn) := goodIn_app (goodIn_of _ (by decide +kernel)) ggX6_missedFor_X6_weightIn
theorem dX6_missedFor_0 : decode cX6_missedFor 0 = .ok (.iload_n 3, 1) := by decide +kernel
theorem dX6_missedFor_1 : decode cX6_missedFor 1 = .ok (.bipush 9, 2) := by decide +kernel
theorem dX6_missedFor_3 : decode cX6_missedFor 3 = .ok (.if_icmp .ge 25, 3) := by decide +kernel
theorem dX6_missedFor_6 : decode cX6_missedFor 6 = .ok (.iload_n 3, 1) := by decide +kernel
theorem dX6_missedFor_7 : decode cX6_missedFor 7 = .ok (.iconst 1, 1) := by decide +kernel
theorem dX6_missedFor_8 : decode cX6_missedFor 8 = .ok (.iadd, 1) := by decide +kernel
theorem dX6_missedFor_9 : decode cX6_missedFor 9 = .ok (.aload_n 0, 1) := by decide +kernel
theorem dX6_missedFor_10 : decode cX6_missedFor 10 = .ok (.getfield 7, 3) := by decide +kernel
theorem dX6_missedFor_13 : decode cX6_missedFor 13 = .ok (.bipush 36, 2) := by decide +kernel
theorem dX6_missedFor_15 : decode cX6_missedFor 15 = .ok (.iload_n 1, 1) := by decide +kernel
theorem dX6_missedFor_16 : decode cX6_missedFor 16 = .ok (.iadd, 1) := by decide +kernel
theorem dX6_missedFor_17 : decode cX6_missedFor 17 = .ok (.iaload, 1) := by decide +kernel
theorem dX6_missedFor_18 : decode cX6_missedFor 18 = .ok (.bipush 20, 2) := by decide +kernel
theorem dX6_missedFor_20 : decode cX6_missedFor 20 = .ok (.idiv, 1) := by decide +kernel
theorem dX6_missedFor_21 : decode cX6_missedFor 21 = .ok (.iconst 1, 1) := by decide +kernel
theorem dX6_missedFor_22 : decode cX6_missedFor 22 = .ok (.iadd, 1) := by decide +kernel
theorem dX6_missedFor_23 : decode cX6_missedFor 23 = .ok (.if_icmp .ge 5, 3) := by decide +kernel
theorem dX6_missedFor_26 : decode cX6_missedFor 26 = .ok (.iconst 1, 1) := by decide +kernel
theorem dX6_missedFor_27 : decode cX6_missedFor 27 = .ok (.ireturn, 1) := by decide +kernel
theorem dX6_missedFor_28 : decode cX6_missedFor 28 = .ok (.aload_n 0, 1) := by decide +kernel
theorem dX6_missedFor_29 : decode cX6_missedFor 29 = .ok (.iload_n 2, 1) := by decide +kernel
theorem dX6_missedFor_30 : decode cX6_missedFor 30 = .ok (.invokevirtual 47, 3) := by decide +kernel
theorem dX6_missedFor_33 : decode cX6_missedFor 33 = .ok (.aload_n 0, 1) := by decide +kernel
theorem dX6_missedFor_34 : decode cX6_missedFor 34 = .ok (.getfield 7, 3) := by decide +kernel
theorem dX6_missedFor_37 : decode cX6_missedFor 37 = .ok (.bipush 36, 2) := by decide +kernel
theorem dX6_missedFor_39 : decode cX6_missedFor 39 = .ok (.iload_n 1, 1) := by decide +kernel
theorem dX6_missedFor_40 : decode cX6_missedFor 40 = .ok (.iadd, 1) := by decide +kernel
theorem dX6_missedFor_41 : decode cX6_missedFor 41 = .ok (.iaload, 1) := by decide +kernel
theorem dX6_missedFor_42 : decode cX6_missedFor 42 = .ok (.iadd, 1) := by decide +kernel
theorem dX6_missedFor_43 : decode cX6_missedFor 43 = .ok (.iload 4, 2) := by decide +kernel
theorem dX6_missedFor_45 : decode cX6_missedFor 45 = .ok (.if_icmp .le 7, 3) := by decide +kernel
theorem dX6_missedFor_48 : decode cX6_missedFor 48 = .ok (.iconst 2, 1) := by decide +kernel
theorem dX6_missedFor_49 : decode cX6_missedFor 49 = .ok (.goto 4, 3) := by decide +kernel
theorem dX6_missedFor_52 : decode cX6_missedFor 52 = .ok (.iconst 0, 1) := by decide +kernel
theorem dX6_missedFor_53 : decode cX6_missedFor 53 = .ok (.ireturn, 1) := by decide +kernel
theorem dX6_later_0 : decode cX6_later 0 = .ok (.iload_n 0, 1) := by decide +kernel
theorem dX6_later_1 : decode cX6_later 1 = .ok (.bipush 9, 2) := by decide +kernel
theorem dX6_later_3 : decode cX6_later 3 = .ok (.if_icmp .ge 9, 3) := by decide +kernel
theorem dX6_later_6 : decode cX6_later 6 = .ok (.iload_n 0, 1) := by decide +kernel
theorem dX6_later_7 : decode cX6_later 7 = .ok (.iconst 1, 1) := by decide +kernel
theorem dX6_later_8 : decode cX6_later 8 = .ok (.iadd, 1) := by decide +kernel
theorem dX6_later_9 : decode cX6_later 9 = .ok (.goto 5, 3) := by decide +kernel
theorem dX6_later_12 : decode cX6_later 12 = .ok (.bipush 9, 2) := by decide +kernel
theorem dX6_later_14 : decode cX6_later 14 = .ok (.ireturn, 1) := by decide +kernel
set_option maxRecDepth 20000 in
theorem ggX6_strikes_X6_missedFor : GoodIn wsX6_strikes wsX6_missedFor := goodIn_r _ [6, 1, 7, 8, 9, 5, 10, 17, 18, 19, 20, 21, 22, 23, 24, 25, 26, 27] (by decide +kernel) (by decide +kernel)
set_option maxRecDepth 20000 in
theorem gX6_strikes_X6_missedFor : GoodIn wsX6_strikes (wsV RX6 50 RX6 yX6_missedFor wsX6_missedFor) := goodIn_app (goodIn_of _ (by decide +kernel)) ggX6_strikes_X6_missedFor
set_option maxRecDepth 20000 in
theorem ggX6_strikes_X6_later : GoodIn wsX6_strikes wsX6_later := goodIn_r _ [13] (by decide +kernel) (by decide +kernel)
set_option maxRecDepth 20000 in
theorem gX6_strikes_X6_later : GoodIn wsX6_strikes (va_wsS RX6 54 yX6_later wsX6_later) := goodIn_app (goodIn_of _ (by decide +kernel)) ggX6_strikes_X6_later
set_option maxRecDepth 20000 in
theorem ggX6_strikes_X6_count : GoodIn wsX6_strikes wsX6_count := goodIn_r _ [16] (by decide +kernel) (by decide +kernel)
set_option maxRecDepth 20000 in
theorem gX6_strikes_X6_count : GoodIn wsX6_strikes (va_wsS RX6 43 yX6_count wsX6_count) := goodIn_app (goodIn_of _ (by decide +kernel)) ggX6_strikes_X6_count
theorem dX6_strikes_0 : decode cX6_strikes 0 = .ok (.aload_n 0, 1) := by decide +kernel
theorem dX6_strikes_1 : decode cX6_strikes 1 = .ok (.getfield 7, 3) := by decide +kernel
theorem dX6_strikes_4 : decode cX6_strikes 4 = .ok (.bipush 47, 2) := by decide +kernel
theorem dX6_strikes_6 : decode cX6_strikes 6 = .ok (.iaload, 1) := by decide +kernel
theorem dX6_strikes_7 : decode cX6_strikes 7 = .ok (.istore_n 1, 1) := by decide +kernel
theorem dX6_strikes_8 : decode cX6_strikes 8 = .ok (.iconst 0, 1) := by decide +kernel
theorem dX6_strikes_9 : decode cX6_strikes 9 = .ok (.istore_n 2, 1) := by decide +kernel
theorem dX6_strikes_10 : decode cX6_strikes 10 = .ok (.iconst 0, 1) := by decide +kernel
theorem dX6_strikes_11 : decode cX6_strikes 11 = .ok (.istore_n 3, 1) := by decide +kernel
theorem dX6_strikes_12 : decode cX6_strikes 12 = .ok (.iload_n 3, 1) := by decide +kernel
theorem dX6_strikes_13 : decode cX6_strikes 13 = .ok (.bipush 10, 2) := by decide +kernel
theorem dX6_strikes_15 : decode cX6_strikes 15 = .ok (.if_icmp .ge 161, 3) := by decide +kernel
theorem dX6_strikes_18 : decode cX6_strikes 18 = .ok (.aload_n 0, 1) := by decide +kernel
theorem dX6_strikes_19 : decode cX6_strikes 19 = .ok (.getfield 7, 3) := by decide +kernel
theorem dX6_strikes_22 : decode cX6_strikes 22 = .ok (.iconst 0, 1) := by decide +kernel
theorem dX6_strikes_23 : decode cX6_strikes 23 = .ok (.iload_n 1, 1) := by decide +kernel
theorem dX6_strikes_24 : decode cX6_strikes 24 = .ok (.iadd, 1) := by decide +kernel
theorem dX6_strikes_25 : decode cX6_strikes 25 = .ok (.iaload, 1) := by decide +kernel
theorem dX6_strikes_26 : decode cX6_strikes 26 = .ok (.iload_n 3, 1) := by decide +kernel
theorem dX6_strikes_27 : decode cX6_strikes 27 = .ok (.ishr, 1) := by decide +kernel
theorem dX6_strikes_28 : decode cX6_strikes 28 = .ok (.iconst 1, 1) := by decide +kernel
theorem dX6_strikes_29 : decode cX6_strikes 29 = .ok (.iand, 1) := by decide +kernel
theorem dX6_strikes_30 : decode cX6_strikes 30 = .ok (.iconst 1, 1) := by decide +kernel
theorem dX6_strikes_31 : decode cX6_strikes 31 = .ok (.if_icmp .ne 7, 3) := by decide +kernel
theorem dX6_strikes_34 : decode cX6_strikes 34 = .ok (.iconst 1, 1) := by decide +kernel
theorem dX6_strikes_35 : decode cX6_strikes 35 = .ok (.goto 4, 3) := by decide +kernel
theorem dX6_strikes_38 : decode cX6_strikes 38 = .ok (.iconst 0, 1) := by decide +kernel
theorem dX6_strikes_39 : decode cX6_strikes 39 = .ok (.istore 4, 2) := by decide +kernel
theorem dX6_strikes_41 : decode cX6_strikes 41 = .ok (.iload 4, 2) := by decide +kernel
theorem dX6_strikes_43 : decode cX6_strikes 43 = .ok (.ifCond .eq 32, 3) := by decide +kernel
theorem dX6_strikes_46 : decode cX6_strikes 46 = .ok (.aload_n 0, 1) := by decide +kernel
theorem dX6_strikes_47 : decode cX6_strikes 47 = .ok (.iload_n 3, 1) := by decide +kernel
theorem dX6_strikes_48 : decode cX6_strikes 48 = .ok (.iload_n 2, 1) := by decide +kernel
theorem dX6_strikes_49 : decode cX6_strikes 49 = .ok (.aload_n 0, 1) := by decide +kernel
theorem dX6_strikes_50 : decode cX6_strikes 50 = .ok (.getfield 7, 3) := by decide +kernel
theorem dX6_strikes_53 : decode cX6_strikes 53 = .ok (.bipush 60, 2) := by decide +kernel
theorem dX6_strikes_55 : decode cX6_strikes 55 = .ok (.iload_n 3, 1) := by decide +kernel
theorem dX6_strikes_56 : decode cX6_strikes 56 = .ok (.iadd, 1) := by decide +kernel
theorem dX6_strikes_57 : decode cX6_strikes 57 = .ok (.iaload, 1) := by decide +kernel
theorem dX6_strikes_58 : decode cX6_strikes 58 = .ok (.aload_n 0, 1) := by decide +kernel
theorem dX6_strikes_59 : decode cX6_strikes 59 = .ok (.getfield 7, 3) := by decide +kernel
theorem dX6_strikes_62 : decode cX6_strikes 62 = .ok (.bipush 46, 2) := by decide +kernel
theorem dX6_strikes_64 : decode cX6_strikes 64 = .ok (.iaload, 1) := by decide +kernel
theorem dX6_strikes_65 : decode cX6_strikes 65 = .ok (.invokevirtual 50, 3) := by decide +kernel
theorem dX6_strikes_68 : decode cX6_strikes 68 = .ok (.ifCond .ne 7, 3) := by decide +kernel
theorem dX6_strikes_71 : decode cX6_strikes 71 = .ok (.iconst 1, 1) := by decide +kernel
theorem dX6_strikes_72 : decode cX6_strikes 72 = .ok (.goto 4, 3) := by decide +kernel
theorem dX6_strikes_75 : decode cX6_strikes 75 = .ok (.iconst 0, 1) := by decide +kernel
theorem dX6_strikes_76 : decode cX6_strikes 76 = .ok (.istore 5, 2) := by decide +kernel
theorem dX6_strikes_78 : decode cX6_strikes 78 = .ok (.iload_n 2, 1) := by decide +kernel
theorem dX6_strikes_79 : decode cX6_strikes 79 = .ok (.iload 5, 2) := by decide +kernel
theorem dX6_strikes_81 : decode cX6_strikes 81 = .ok (.ifCond .eq 9, 3) := by decide +kernel
theorem dX6_strikes_84 : decode cX6_strikes 84 = .ok (.iconst 1, 1) := by decide +kernel
theorem dX6_strikes_85 : decode cX6_strikes 85 = .ok (.iload_n 3, 1) := by decide +kernel
theorem dX6_strikes_86 : decode cX6_strikes 86 = .ok (.ishl, 1) := by decide +kernel
theorem dX6_strikes_87 : decode cX6_strikes 87 = .ok (.goto 4, 3) := by decide +kernel
theorem dX6_strikes_90 : decode cX6_strikes 90 = .ok (.iconst 0, 1) := by decide +kernel
theorem dX6_strikes_91 : decode cX6_strikes 91 = .ok (.ior, 1) := by decide +kernel
theorem dX6_strikes_92 : decode cX6_strikes 92 = .ok (.istore_n 2, 1) := by decide +kernel
theorem dX6_strikes_93 : decode cX6_strikes 93 = .ok (.aload_n 0, 1) := by decide +kernel
theorem dX6_strikes_94 : decode cX6_strikes 94 = .ok (.getfield 7, 3) := by decide +kernel
theorem dX6_strikes_97 : decode cX6_strikes 97 = .ok (.bipush 49, 2) := by decide +kernel
theorem dX6_strikes_99 : decode cX6_strikes 99 = .ok (.iload_n 3, 1) := by decide +kernel
theorem dX6_strikes_100 : decode cX6_strikes 100 = .ok (.iadd, 1) := by decide +kernel
theorem dX6_strikes_101 : decode cX6_strikes 101 = .ok (.dup2, 1) := by decide +kernel
theorem dX6_strikes_102 : decode cX6_strikes 102 = .ok (.iaload, 1) := by decide +kernel
theorem dX6_strikes_103 : decode cX6_strikes 103 = .ok (.iload 5, 2) := by decide +kernel
theorem dX6_strikes_105 : decode cX6_strikes 105 = .ok (.ifCond .eq 7, 3) := by decide +kernel
theorem dX6_strikes_108 : decode cX6_strikes 108 = .ok (.iconst 1, 1) := by decide +kernel
theorem dX6_strikes_109 : decode cX6_strikes 109 = .ok (.goto 4, 3) := by decide +kernel
theorem dX6_strikes_112 : decode cX6_strikes 112 = .ok (.iconst 0, 1) := by decide +kernel
theorem dX6_strikes_113 : decode cX6_strikes 113 = .ok (.iadd, 1) := by decide +kernel
theorem dX6_strikes_114 : decode cX6_strikes 114 = .ok (.iastore, 1) := by decide +kernel
theorem dX6_strikes_115 : decode cX6_strikes 115 = .ok (.aload_n 0, 1) := by decide +kernel
theorem dX6_strikes_116 : decode cX6_strikes 116 = .ok (.getfield 7, 3) := by decide +kernel
theorem dX6_strikes_119 : decode cX6_strikes 119 = .ok (.bipush 59, 2) := by decide +kernel
theorem dX6_strikes_121 : decode cX6_strikes 121 = .ok (.dup2, 1) := by decide +kernel
theorem dX6_strikes_122 : decode cX6_strikes 122 = .ok (.iaload, 1) := by decide +kernel
theorem dX6_strikes_123 : decode cX6_strikes 123 = .ok (.iload 4, 2) := by decide +kernel
theorem dX6_strikes_125 : decode cX6_strikes 125 = .ok (.ifCond .eq 12, 3) := by decide +kernel
theorem dX6_strikes_128 : decode cX6_strikes 128 = .ok (.iload 5, 2) := by decide +kernel
theorem dX6_strikes_130 : decode cX6_strikes 130 = .ok (.ifCond .ne 7, 3) := by decide +kernel
theorem dX6_strikes_133 : decode cX6_strikes 133 = .ok (.iconst 1, 1) := by decide +kernel
theorem dX6_strikes_134 : decode cX6_strikes 134 = .ok (.goto 4, 3) := by decide +kernel
theorem dX6_strikes_137 : decode cX6_strikes 137 = .ok (.iconst 0, 1) := by decide +kernel
theorem dX6_strikes_138 : decode cX6_strikes 138 = .ok (.iadd, 1) := by decide +kernel
theorem dX6_strikes_139 : decode cX6_strikes 139 = .ok (.iastore, 1) := by decide +kernel
theorem dX6_strikes_140 : decode cX6_strikes 140 = .ok (.aload_n 0, 1) := by decide +kernel
theorem dX6_strikes_141 : decode cX6_strikes 141 = .ok (.getfield 7, 3) := by decide +kernel
theorem dX6_strikes_144 : decode cX6_strikes 144 = .ok (.bipush 60, 2) := by decide +kernel
theorem dX6_strikes_146 : decode cX6_strikes 146 = .ok (.iload_n 3, 1) := by decide +kernel
theorem dX6_strikes_147 : decode cX6_strikes 147 = .ok (.iadd, 1) := by decide +kernel
theorem dX6_strikes_148 : decode cX6_strikes 148 = .ok (.iload 5, 2) := by decide +kernel
theorem dX6_strikes_150 : decode cX6_strikes 150 = .ok (.ifCond .eq 7, 3) := by decide +kernel
theorem dX6_strikes_153 : decode cX6_strikes 153 = .ok (.iconst 0, 1) := by decide +kernel
theorem dX6_strikes_154 : decode cX6_strikes 154 = .ok (.goto 15, 3) := by decide +kernel
theorem dX6_strikes_157 : decode cX6_strikes 157 = .ok (.aload_n 0, 1) := by decide +kernel
theorem dX6_strikes_158 : decode cX6_strikes 158 = .ok (.getfield 7, 3) := by decide +kernel
theorem dX6_strikes_161 : decode cX6_strikes 161 = .ok (.bipush 60, 2) := by decide +kernel
theorem dX6_strikes_163 : decode cX6_strikes 163 = .ok (.iload_n 3, 1) := by decide +kernel
theorem dX6_strikes_164 : decode cX6_strikes 164 = .ok (.iadd, 1) := by decide +kernel
theorem dX6_strikes_165 : decode cX6_strikes 165 = .ok (.iaload, 1) := by decide +kernel
theorem dX6_strikes_166 : decode cX6_strikes 166 = .ok (.invokestatic 54, 3) := by decide +kernel
theorem dX6_strikes_169 : decode cX6_strikes 169 = .ok (.iastore, 1) := by decide +kernel
theorem dX6_strikes_170 : decode cX6_strikes 170 = .ok (.iinc 3 1, 3) := by decide +kernel
theorem dX6_strikes_173 : decode cX6_strikes 173 = .ok (.goto (-161), 3) := by decide +kernel
theorem dX6_strikes_176 : decode cX6_strikes 176 = .ok (.aload_n 0, 1) := by decide +kernel
theorem dX6_strikes_177 : decode cX6_strikes 177 = .ok (.getfield 7, 3) := by decide +kernel
theorem dX6_strikes_180 : decode cX6_strikes 180 = .ok (.bipush 48, 2) := by decide +kernel
theorem dX6_strikes_182 : decode cX6_strikes 182 = .ok (.dup2, 1) := by decide +kernel
theorem dX6_strikes_183 : decode cX6_strikes 183 = .ok (.iaload, 1) := by decide +kernel
theorem dX6_strikes_184 : decode cX6_strikes 184 = .ok (.aload_n 0, 1) := by decide +kernel
theorem dX6_strikes_185 : decode cX6_strikes 185 = .ok (.getfield 7, 3) := by decide +kernel
theorem dX6_strikes_188 : decode cX6_strikes 188 = .ok (.bipush 32, 2) := by decide +kernel
theorem dX6_strikes_190 : decode cX6_strikes 190 = .ok (.iload_n 1, 1) := by decide +kernel
theorem dX6_strikes_191 : decode cX6_strikes 191 = .ok (.bipush 8, 2) := by decide +kernel
theorem dX6_strikes_193 : decode cX6_strikes 193 = .ok (.idiv, 1) := by decide +kernel
theorem dX6_strikes_194 : decode cX6_strikes 194 = .ok (.iadd, 1) := by decide +kernel
theorem dX6_strikes_195 : decode cX6_strikes 195 = .ok (.iaload, 1) := by decide +kernel
theorem dX6_strikes_196 : decode cX6_strikes 196 = .ok (.iadd, 1) := by decide +kernel
theorem dX6_strikes_197 : decode cX6_strikes 197 = .ok (.iastore, 1) := by decide +kernel
theorem dX6_strikes_198 : decode cX6_strikes 198 = .ok (.aload_n 0, 1) := by decide +kernel
theorem dX6_strikes_199 : decode cX6_strikes 199 = .ok (.getfield 7, 3) := by decide +kernel
theorem dX6_strikes_202 : decode cX6_strikes 202 = .ok (.bipush 47, 2) := by decide +kernel
theorem dX6_strikes_204 : decode cX6_strikes 204 = .ok (.iload_n 1, 1) := by decide +kernel
theorem dX6_strikes_205 : decode cX6_strikes 205 = .ok (.iconst 1, 1) := by decide +kernel
theorem dX6_strikes_206 : decode cX6_strikes 206 = .ok (.iadd, 1) := by decide +kernel
theorem dX6_strikes_207 : decode cX6_strikes 207 = .ok (.bipush 32, 2) := by decide +kernel
theorem dX6_strikes_209 : decode cX6_strikes 209 = .ok (.irem, 1) := by decide +kernel
theorem dX6_strikes_210 : decode cX6_strikes 210 = .ok (.iastore, 1) := by decide +kernel
theorem dX6_strikes_211 : decode cX6_strikes 211 = .ok (.iload_n 2, 1) := by decide +kernel
theorem dX6_strikes_212 : decode cX6_strikes 212 = .ok (.invokestatic 43, 3) := by decide +kernel
theorem dX6_strikes_215 : decode cX6_strikes 215 = .ok (.ireturn, 1) := by decide +kernel
set_option maxRecDepth 20000 in
theorem ggX6_cranks_X6_strikes : GoodIn wsX6_cranks wsX6_strikes := goodIn_r _ [5, 6, 7, 8, 9, 4, 10, 11, 12, 13, 14, 15, 16, 17, 18, 19, 20, 21, 22, 23, 24, 25, 26, 27, 28, 29, 30, 31] (by decide +kernel) (by decide +kernel)
set_option maxRecDepth 20000 in
theorem gX6_cranks_X6_strikes : GoodIn wsX6_cranks (wsV RX6 57 RX6 yX6_strikes wsX6_strikes) := goodIn_app (goodIn_of _ (by decide +kernel)) ggX6_cranks_X6_strikes
theorem dX6_cranks_0 : decode cX6_cranks 0 = .ok (.iconst 0, 1) := by decide +kernel
theorem dX6_cranks_1 : decode cX6_cranks 1 = .ok (.istore_n 2, 1) := by decide +kernel
theorem dX6_cranks_2 : decode cX6_cranks 2 = .ok (.iconst 0, 1) := by decide +kernel
theorem dX6_cranks_3 : decode cX6_cranks 3 = .ok (.istore_n 3, 1) := by decide +kernel
theorem dX6_cranks_4 : decode cX6_cranks 4 = .ok (.iload_n 3, 1) := by decide +kernel
theorem dX6_cranks_5 : decode cX6_cranks 5 = .ok (.iload_n 1, 1) := by decide +kernel
theorem dX6_cranks_6 : decode cX6_cranks 6 = .ok (.if_icmp .ge 16, 3) := by decide +kernel
theorem dX6_cranks_9 : decode cX6_cranks 9 = .ok (.iload_n 2, 1) := by decide +kernel
theorem dX6_cranks_10 : decode cX6_cranks 10 = .ok (.aload_n 0, 1) := by decide +kernel
theorem dX6_cranks_11 : decode cX6_cranks 11 = .ok (.invokevirtual 57, 3) := by decide +kernel
theorem dX6_cranks_14 : decode cX6_cranks 14 = .ok (.iadd, 1) := by decide +kernel
theorem dX6_cranks_15 : decode cX6_cranks 15 = .ok (.istore_n 2, 1) := by decide +kernel
theorem dX6_cranks_16 : decode cX6_cranks 16 = .ok (.iinc 3 1, 3) := by decide +kernel
theorem dX6_cranks_19 : decode cX6_cranks 19 = .ok (.goto (-15), 3) := by decide +kernel
theorem dX6_cranks_22 : decode cX6_cranks 22 = .ok (.iload_n 2, 1) := by decide +kernel
theorem dX6_cranks_23 : decode cX6_cranks 23 = .ok (.ireturn, 1) := by decide +kernel
set_option maxRecDepth 20000 in
theorem ggX6_rounds_X6_missedFor : GoodIn wsX6_rounds wsX6_missedFor := goodIn_r _ [9, 3, 10, 11, 12, 8, 13, 17, 18, 19, 20, 21, 22, 23, 24, 25, 26, 27] (by decide +kernel) (by decide +kernel)
set_option maxRecDepth 20000 in
theorem gX6_rounds_X6_missedFor : GoodIn wsX6_rounds (wsV RX6 50 RX6 yX6_missedFor wsX6_missedFor) := goodIn_app (goodIn_of _ (by decide +kernel)) ggX6_rounds_X6_missedFor
set_option maxRecDepth 20000 in
theorem ggX6_rounds_X6_later : GoodIn wsX6_rounds wsX6_later := goodIn_r _ [16] (by decide +kernel) (by decide +kernel)
set_option maxRecDepth 20000 in
theorem gX6_rounds_X6_later : GoodIn wsX6_rounds (va_wsS RX6 54 yX6_later wsX6_later) := goodIn_app (goodIn_of _ (by decide +kernel)) ggX6_rounds_X6_later
theorem dX6_rounds_0 : decode cX6_rounds 0 = .ok (.aload_n 0, 1) := by decide +kernel
theorem dX6_rounds_1 : decode cX6_rounds 1 = .ok (.iconst 0, 1) := by decide +kernel
theorem dX6_rounds_2 : decode cX6_rounds 2 = .ok (.putfield 61, 3) := by decide +kernel
theorem dX6_rounds_5 : decode cX6_rounds 5 = .ok (.iconst 0, 1) := by decide +kernel
theorem dX6_rounds_6 : decode cX6_rounds 6 = .ok (.istore_n 2, 1) := by decide +kernel
theorem dX6_rounds_7 : decode cX6_rounds 7 = .ok (.iload_n 2, 1) := by decide +kernel
theorem dX6_rounds_8 : decode cX6_rounds 8 = .ok (.bipush 10, 2) := by decide +kernel
theorem dX6_rounds_10 : decode cX6_rounds 10 = .ok (.if_icmp .ge 17, 3) := by decide +kernel
theorem dX6_rounds_13 : decode cX6_rounds 13 = .ok (.aload_n 0, 1) := by decide +kernel
theorem dX6_rounds_14 : decode cX6_rounds 14 = .ok (.getfield 26, 3) := by decide +kernel
theorem dX6_rounds_17 : decode cX6_rounds 17 = .ok (.iload_n 2, 1) := by decide +kernel
theorem dX6_rounds_18 : decode cX6_rounds 18 = .ok (.bipush 9, 2) := by decide +kernel
theorem dX6_rounds_20 : decode cX6_rounds 20 = .ok (.iastore, 1) := by decide +kernel
theorem dX6_rounds_21 : decode cX6_rounds 21 = .ok (.iinc 2 1, 3) := by decide +kernel
theorem dX6_rounds_24 : decode cX6_rounds 24 = .ok (.goto (-17), 3) := by decide +kernel
theorem dX6_rounds_27 : decode cX6_rounds 27 = .ok (.iconst 0, 1) := by decide +kernel
theorem dX6_rounds_28 : decode cX6_rounds 28 = .ok (.istore_n 2, 1) := by decide +kernel
theorem dX6_rounds_29 : decode cX6_rounds 29 = .ok (.iload_n 2, 1) := by decide +kernel
theorem dX6_rounds_30 : decode cX6_rounds 30 = .ok (.bipush 32, 2) := by decide +kernel
theorem dX6_rounds_32 : decode cX6_rounds 32 = .ok (.if_icmp .ge 159, 3) := by decide +kernel
theorem dX6_rounds_35 : decode cX6_rounds 35 = .ok (.iconst 0, 1) := by decide +kernel
theorem dX6_rounds_36 : decode cX6_rounds 36 = .ok (.istore_n 3, 1) := by decide +kernel
theorem dX6_rounds_37 : decode cX6_rounds 37 = .ok (.iconst 0, 1) := by decide +kernel
theorem dX6_rounds_38 : decode cX6_rounds 38 = .ok (.istore 4, 2) := by decide +kernel
theorem dX6_rounds_40 : decode cX6_rounds 40 = .ok (.iload 4, 2) := by decide +kernel
theorem dX6_rounds_42 : decode cX6_rounds 42 = .ok (.bipush 10, 2) := by decide +kernel
theorem dX6_rounds_44 : decode cX6_rounds 44 = .ok (.if_icmp .ge 134, 3) := by decide +kernel
theorem dX6_rounds_47 : decode cX6_rounds 47 = .ok (.aload_n 0, 1) := by decide +kernel
theorem dX6_rounds_48 : decode cX6_rounds 48 = .ok (.getfield 7, 3) := by decide +kernel
theorem dX6_rounds_51 : decode cX6_rounds 51 = .ok (.iconst 0, 1) := by decide +kernel
theorem dX6_rounds_52 : decode cX6_rounds 52 = .ok (.iload_n 2, 1) := by decide +kernel
theorem dX6_rounds_53 : decode cX6_rounds 53 = .ok (.iadd, 1) := by decide +kernel
theorem dX6_rounds_54 : decode cX6_rounds 54 = .ok (.iaload, 1) := by decide +kernel
theorem dX6_rounds_55 : decode cX6_rounds 55 = .ok (.iload 4, 2) := by decide +kernel
theorem dX6_rounds_57 : decode cX6_rounds 57 = .ok (.ishr, 1) := by decide +kernel
theorem dX6_rounds_58 : decode cX6_rounds 58 = .ok (.iconst 1, 1) := by decide +kernel
theorem dX6_rounds_59 : decode cX6_rounds 59 = .ok (.iand, 1) := by decide +kernel
theorem dX6_rounds_60 : decode cX6_rounds 60 = .ok (.iconst 1, 1) := by decide +kernel
theorem dX6_rounds_61 : decode cX6_rounds 61 = .ok (.if_icmp .ne 7, 3) := by decide +kernel
theorem dX6_rounds_64 : decode cX6_rounds 64 = .ok (.iconst 1, 1) := by decide +kernel
theorem dX6_rounds_65 : decode cX6_rounds 65 = .ok (.goto 4, 3) := by decide +kernel
theorem dX6_rounds_68 : decode cX6_rounds 68 = .ok (.iconst 0, 1) := by decide +kernel
theorem dX6_rounds_69 : decode cX6_rounds 69 = .ok (.istore 5, 2) := by decide +kernel
theorem dX6_rounds_71 : decode cX6_rounds 71 = .ok (.aload_n 0, 1) := by decide +kernel
theorem dX6_rounds_72 : decode cX6_rounds 72 = .ok (.iload 4, 2) := by decide +kernel
theorem dX6_rounds_74 : decode cX6_rounds 74 = .ok (.iload_n 3, 1) := by decide +kernel
theorem dX6_rounds_75 : decode cX6_rounds 75 = .ok (.aload_n 0, 1) := by decide +kernel
theorem dX6_rounds_76 : decode cX6_rounds 76 = .ok (.getfield 26, 3) := by decide +kernel
theorem dX6_rounds_79 : decode cX6_rounds 79 = .ok (.iload 4, 2) := by decide +kernel
theorem dX6_rounds_81 : decode cX6_rounds 81 = .ok (.iaload, 1) := by decide +kernel
theorem dX6_rounds_82 : decode cX6_rounds 82 = .ok (.iload_n 1, 1) := by decide +kernel
theorem dX6_rounds_83 : decode cX6_rounds 83 = .ok (.invokevirtual 50, 3) := by decide +kernel
theorem dX6_rounds_86 : decode cX6_rounds 86 = .ok (.istore 6, 2) := by decide +kernel
theorem dX6_rounds_88 : decode cX6_rounds 88 = .ok (.iload 5, 2) := by decide +kernel
theorem dX6_rounds_90 : decode cX6_rounds 90 = .ok (.ifCond .eq 12, 3) := by decide +kernel
theorem dX6_rounds_93 : decode cX6_rounds 93 = .ok (.iload 6, 2) := by decide +kernel
theorem dX6_rounds_95 : decode cX6_rounds 95 = .ok (.ifCond .ne 7, 3) := by decide +kernel
theorem dX6_rounds_98 : decode cX6_rounds 98 = .ok (.iconst 1, 1) := by decide +kernel
theorem dX6_rounds_99 : decode cX6_rounds 99 = .ok (.goto 4, 3) := by decide +kernel
theorem dX6_rounds_102 : decode cX6_rounds 102 = .ok (.iconst 0, 1) := by decide +kernel
theorem dX6_rounds_103 : decode cX6_rounds 103 = .ok (.istore 7, 2) := by decide +kernel
theorem dX6_rounds_105 : decode cX6_rounds 105 = .ok (.iload_n 3, 1) := by decide +kernel
theorem dX6_rounds_106 : decode cX6_rounds 106 = .ok (.iload 7, 2) := by decide +kernel
theorem dX6_rounds_108 : decode cX6_rounds 108 = .ok (.ifCond .eq 10, 3) := by decide +kernel
theorem dX6_rounds_111 : decode cX6_rounds 111 = .ok (.iconst 1, 1) := by decide +kernel
theorem dX6_rounds_112 : decode cX6_rounds 112 = .ok (.iload 4, 2) := by decide +kernel
theorem dX6_rounds_114 : decode cX6_rounds 114 = .ok (.ishl, 1) := by decide +kernel
theorem dX6_rounds_115 : decode cX6_rounds 115 = .ok (.goto 4, 3) := by decide +kernel
theorem dX6_rounds_118 : decode cX6_rounds 118 = .ok (.iconst 0, 1) := by decide +kernel
theorem dX6_rounds_119 : decode cX6_rounds 119 = .ok (.ior, 1) := by decide +kernel
theorem dX6_rounds_120 : decode cX6_rounds 120 = .ok (.istore_n 3, 1) := by decide +kernel
theorem dX6_rounds_121 : decode cX6_rounds 121 = .ok (.aload_n 0, 1) := by decide +kernel
theorem dX6_rounds_122 : decode cX6_rounds 122 = .ok (.dup, 1) := by decide +kernel
theorem dX6_rounds_123 : decode cX6_rounds 123 = .ok (.getfield 61, 3) := by decide +kernel
theorem dX6_rounds_126 : decode cX6_rounds 126 = .ok (.iload 5, 2) := by decide +kernel
theorem dX6_rounds_128 : decode cX6_rounds 128 = .ok (.ifCond .eq 13, 3) := by decide +kernel
theorem dX6_rounds_131 : decode cX6_rounds 131 = .ok (.iload 6, 2) := by decide +kernel
theorem dX6_rounds_133 : decode cX6_rounds 133 = .ok (.iconst 2, 1) := by decide +kernel
theorem dX6_rounds_134 : decode cX6_rounds 134 = .ok (.if_icmp .ne 7, 3) := by decide +kernel
theorem dX6_rounds_137 : decode cX6_rounds 137 = .ok (.iconst 1, 1) := by decide +kernel
theorem dX6_rounds_138 : decode cX6_rounds 138 = .ok (.goto 4, 3) := by decide +kernel
theorem dX6_rounds_141 : decode cX6_rounds 141 = .ok (.iconst 0, 1) := by decide +kernel
theorem dX6_rounds_142 : decode cX6_rounds 142 = .ok (.iadd, 1) := by decide +kernel
theorem dX6_rounds_143 : decode cX6_rounds 143 = .ok (.putfield 61, 3) := by decide +kernel
theorem dX6_rounds_146 : decode cX6_rounds 146 = .ok (.aload_n 0, 1) := by decide +kernel
theorem dX6_rounds_147 : decode cX6_rounds 147 = .ok (.getfield 26, 3) := by decide +kernel
theorem dX6_rounds_150 : decode cX6_rounds 150 = .ok (.iload 4, 2) := by decide +kernel
theorem dX6_rounds_152 : decode cX6_rounds 152 = .ok (.iload 7, 2) := by decide +kernel
theorem dX6_rounds_154 : decode cX6_rounds 154 = .ok (.ifCond .eq 7, 3) := by decide +kernel
theorem dX6_rounds_157 : decode cX6_rounds 157 = .ok (.iconst 0, 1) := by decide +kernel
theorem dX6_rounds_158 : decode cX6_rounds 158 = .ok (.goto 13, 3) := by decide +kernel
theorem dX6_rounds_161 : decode cX6_rounds 161 = .ok (.aload_n 0, 1) := by decide +kernel
theorem dX6_rounds_162 : decode cX6_rounds 162 = .ok (.getfield 26, 3) := by decide +kernel
theorem dX6_rounds_165 : decode cX6_rounds 165 = .ok (.iload 4, 2) := by decide +kernel
theorem dX6_rounds_167 : decode cX6_rounds 167 = .ok (.iaload, 1) := by decide +kernel
theorem dX6_rounds_168 : decode cX6_rounds 168 = .ok (.invokestatic 54, 3) := by decide +kernel
theorem dX6_rounds_171 : decode cX6_rounds 171 = .ok (.iastore, 1) := by decide +kernel
theorem dX6_rounds_172 : decode cX6_rounds 172 = .ok (.iinc 4 1, 3) := by decide +kernel
theorem dX6_rounds_175 : decode cX6_rounds 175 = .ok (.goto (-135), 3) := by decide +kernel
theorem dX6_rounds_178 : decode cX6_rounds 178 = .ok (.aload_n 0, 1) := by decide +kernel
theorem dX6_rounds_179 : decode cX6_rounds 179 = .ok (.getfield 29, 3) := by decide +kernel
theorem dX6_rounds_182 : decode cX6_rounds 182 = .ok (.iload_n 2, 1) := by decide +kernel
theorem dX6_rounds_183 : decode cX6_rounds 183 = .ok (.iload_n 3, 1) := by decide +kernel
theorem dX6_rounds_184 : decode cX6_rounds 184 = .ok (.iastore, 1) := by decide +kernel
theorem dX6_rounds_185 : decode cX6_rounds 185 = .ok (.iinc 2 1, 3) := by decide +kernel
theorem dX6_rounds_188 : decode cX6_rounds 188 = .ok (.goto (-159), 3) := by decide +kernel
theorem dX6_rounds_191 : decode cX6_rounds 191 = .ok (.return_, 1) := by decide +kernel
set_option maxRecDepth 20000 in
theorem ggX6_heardOfRound_X6_rounds : GoodIn wsX6_heardOfRound wsX6_rounds := goodIn_r _ [7, 8, 9, 1, 2, 10, 11, 12, 6, 13, 14, 15, 16, 17, 18, 19, 20, 24, 25, 26, 27, 28, 29, 30, 31, 32, 33, 34] (by decide +kernel) (by decide +kernel)
set_option maxRecDepth 20000 in
theorem gX6_heardOfRound_X6_rounds : GoodIn wsX6_heardOfRound (wsV RX6 64 RX6 yX6_rounds wsX6_rounds) := goodIn_app (goodIn_of _ (by decide +kernel)) ggX6_heardOfRound_X6_rounds
set_option maxRecDepth 20000 in
theorem ggX6_heardOfRound_X6_count : GoodIn wsX6_heardOfRound wsX6_count := goodIn_r _ [23] (by decide +kernel) (by decide +kernel)
set_option maxRecDepth 20000 in
theorem gX6_heardOfRound_X6_count : GoodIn wsX6_heardOfRound (va_wsS RX6 43 yX6_count wsX6_count) := goodIn_app (goodIn_of _ (by decide +kernel)) ggX6_heardOfRound_X6_count
theorem dX6_heardOfRound_0 : decode cX6_heardOfRound 0 = .ok (.aload_n 0, 1) := by decide +kernel
theorem dX6_heardOfRound_1 : decode cX6_heardOfRound 1 = .ok (.aload_n 0, 1) := by decide +kernel
theorem dX6_heardOfRound_2 : decode cX6_heardOfRound 2 = .ok (.getfield 7, 3) := by decide +kernel
theorem dX6_heardOfRound_5 : decode cX6_heardOfRound 5 = .ok (.bipush 46, 2) := by decide +kernel
theorem dX6_heardOfRound_7 : decode cX6_heardOfRound 7 = .ok (.iaload, 1) := by decide +kernel
theorem dX6_heardOfRound_8 : decode cX6_heardOfRound 8 = .ok (.invokevirtual 64, 3) := by decide +kernel
theorem dX6_heardOfRound_11 : decode cX6_heardOfRound 11 = .ok (.iconst 0, 1) := by decide +kernel
theorem dX6_heardOfRound_12 : decode cX6_heardOfRound 12 = .ok (.istore_n 1, 1) := by decide +kernel
theorem dX6_heardOfRound_13 : decode cX6_heardOfRound 13 = .ok (.iconst 0, 1) := by decide +kernel
theorem dX6_heardOfRound_14 : decode cX6_heardOfRound 14 = .ok (.istore_n 2, 1) := by decide +kernel
theorem dX6_heardOfRound_15 : decode cX6_heardOfRound 15 = .ok (.iload_n 2, 1) := by decide +kernel
theorem dX6_heardOfRound_16 : decode cX6_heardOfRound 16 = .ok (.bipush 32, 2) := by decide +kernel
theorem dX6_heardOfRound_18 : decode cX6_heardOfRound 18 = .ok (.if_icmp .ge 21, 3) := by decide +kernel
theorem dX6_heardOfRound_21 : decode cX6_heardOfRound 21 = .ok (.iload_n 1, 1) := by decide +kernel
theorem dX6_heardOfRound_22 : decode cX6_heardOfRound 22 = .ok (.aload_n 0, 1) := by decide +kernel
theorem dX6_heardOfRound_23 : decode cX6_heardOfRound 23 = .ok (.getfield 29, 3) := by decide +kernel
theorem dX6_heardOfRound_26 : decode cX6_heardOfRound 26 = .ok (.iload_n 2, 1) := by decide +kernel
theorem dX6_heardOfRound_27 : decode cX6_heardOfRound 27 = .ok (.iaload, 1) := by decide +kernel
theorem dX6_heardOfRound_28 : decode cX6_heardOfRound 28 = .ok (.invokestatic 43, 3) := by decide +kernel
theorem dX6_heardOfRound_31 : decode cX6_heardOfRound 31 = .ok (.iadd, 1) := by decide +kernel
theorem dX6_heardOfRound_32 : decode cX6_heardOfRound 32 = .ok (.istore_n 1, 1) := by decide +kernel
theorem dX6_heardOfRound_33 : decode cX6_heardOfRound 33 = .ok (.iinc 2 1, 3) := by decide +kernel
theorem dX6_heardOfRound_36 : decode cX6_heardOfRound 36 = .ok (.goto (-21), 3) := by decide +kernel
theorem dX6_heardOfRound_39 : decode cX6_heardOfRound 39 = .ok (.iload_n 1, 1) := by decide +kernel
theorem dX6_heardOfRound_40 : decode cX6_heardOfRound 40 = .ok (.ireturn, 1) := by decide +kernel
set_option maxRecDepth 20000 in
theorem ggX6_turnPeg_X6_isColumn : GoodIn wsX6_turnPeg wsX6_isColumn := goodIn_r _ [5, 6, 7, 4, 8] (by decide +kernel) (by decide +kernel)
set_option maxRecDepth 20000 in
theorem gX6_turnPeg_X6_isColumn : GoodIn wsX6_turnPeg (va_wsS RX6 68 yX6_isColumn wsX6_isColumn) := goodIn_app (goodIn_of _ (by decide +kernel)) ggX6_turnPeg_X6_isColumn
set_option maxRecDepth 20000 in
theorem ggX6_turnPeg_X6_isBell : GoodIn wsX6_turnPeg wsX6_isBell := goodIn_r _ [11, 6, 7, 4, 8] (by decide +kernel) (by decide +kernel)
set_option maxRecDepth 20000 in
theorem gX6_turnPeg_X6_isBell : GoodIn wsX6_turnPeg (va_wsS RX6 72 yX6_isBell wsX6_isBell) := goodIn_app (goodIn_of _ (by decide +kernel)) ggX6_turnPeg_X6_isBell
set_option maxRecDepth 20000 in
theorem ggX6_turnPeg_X6_holds : GoodIn wsX6_turnPeg wsX6_holds := goodIn_r _ [15, 16, 23, 24, 25, 26, 27, 28, 29, 30, 31, 32, 33] (by decide +kernel) (by decide +kernel)
set_option maxRecDepth 20000 in
theorem gX6_turnPeg_X6_holds : GoodIn wsX6_turnPeg (wsV RX6 75 RX6 yX6_holds wsX6_holds) := goodIn_app (goodIn_of _ (by decide +kernel)) ggX6_turnPeg_X6_holds
set_option maxRecDepth 20000 in
theorem ggX6_turnPeg_X6_records : GoodIn wsX6_turnPeg wsX6_records := goodIn_r _ [20, 21, 22, 1, 23, 24, 25, 26, 27, 28, 29, 30, 31, 32, 33] (by decide +kernel) (by decide +kernel)
set_option maxRecDepth 20000 in
theorem gX6_turnPeg_X6_records : GoodIn wsX6_turnPeg (wsV RX6 78 RX6 yX6_records wsX6_records) := goodIn_app (goodIn_of _ (by decide +kernel)) ggX6_turnPeg_X6_records
theorem dX6_turnPeg_0 : decode cX6_turnPeg 0 = .ok (.aload_n 0, 1) := by decide +kernel
theorem dX6_turnPeg_1 : decode cX6_turnPeg 1 = .ok (.iload_n 1, 1) := by decide +kernel
theorem dX6_turnPeg_2 : decode cX6_turnPeg 2 = .ok (.invokestatic 68, 3) := by decide +kernel
theorem dX6_turnPeg_5 : decode cX6_turnPeg 5 = .ok (.ifCond .eq 14, 3) := by decide +kernel
theorem dX6_turnPeg_8 : decode cX6_turnPeg 8 = .ok (.iload_n 2, 1) := by decide +kernel
theorem dX6_turnPeg_9 : decode cX6_turnPeg 9 = .ok (.invokestatic 72, 3) := by decide +kernel
theorem dX6_turnPeg_12 : decode cX6_turnPeg 12 = .ok (.ifCond .eq 7, 3) := by decide +kernel
theorem dX6_turnPeg_15 : decode cX6_turnPeg 15 = .ok (.iconst 0, 1) := by decide +kernel
theorem dX6_turnPeg_16 : decode cX6_turnPeg 16 = .ok (.goto 4, 3) := by decide +kernel
theorem dX6_turnPeg_19 : decode cX6_turnPeg 19 = .ok (.iconst 1, 1) := by decide +kernel
theorem dX6_turnPeg_20 : decode cX6_turnPeg 20 = .ok (.invokevirtual 75, 3) := by decide +kernel
theorem dX6_turnPeg_23 : decode cX6_turnPeg 23 = .ok (.ifCond .ne 5, 3) := by decide +kernel
theorem dX6_turnPeg_26 : decode cX6_turnPeg 26 = .ok (.iconst 0, 1) := by decide +kernel
theorem dX6_turnPeg_27 : decode cX6_turnPeg 27 = .ok (.ireturn, 1) := by decide +kernel
theorem dX6_turnPeg_28 : decode cX6_turnPeg 28 = .ok (.aload_n 0, 1) := by decide +kernel
theorem dX6_turnPeg_29 : decode cX6_turnPeg 29 = .ok (.invokevirtual 78, 3) := by decide +kernel
theorem dX6_turnPeg_32 : decode cX6_turnPeg 32 = .ok (.aload_n 0, 1) := by decide +kernel
theorem dX6_turnPeg_33 : decode cX6_turnPeg 33 = .ok (.getfield 7, 3) := by decide +kernel
theorem dX6_turnPeg_36 : decode cX6_turnPeg 36 = .ok (.iconst 0, 1) := by decide +kernel
theorem dX6_turnPeg_37 : decode cX6_turnPeg 37 = .ok (.iload_n 1, 1) := by decide +kernel
theorem dX6_turnPeg_38 : decode cX6_turnPeg 38 = .ok (.iadd, 1) := by decide +kernel
theorem dX6_turnPeg_39 : decode cX6_turnPeg 39 = .ok (.dup2, 1) := by decide +kernel
theorem dX6_turnPeg_40 : decode cX6_turnPeg 40 = .ok (.iaload, 1) := by decide +kernel
theorem dX6_turnPeg_41 : decode cX6_turnPeg 41 = .ok (.iconst 1, 1) := by decide +kernel
theorem dX6_turnPeg_42 : decode cX6_turnPeg 42 = .ok (.iload_n 2, 1) := by decide +kernel
theorem dX6_turnPeg_43 : decode cX6_turnPeg 43 = .ok (.ishl, 1) := by decide +kernel
theorem dX6_turnPeg_44 : decode cX6_turnPeg 44 = .ok (.ixor, 1) := by decide +kernel
theorem dX6_turnPeg_45 : decode cX6_turnPeg 45 = .ok (.iastore, 1) := by decide +kernel
theorem dX6_turnPeg_46 : decode cX6_turnPeg 46 = .ok (.aload_n 0, 1) := by decide +kernel
theorem dX6_turnPeg_47 : decode cX6_turnPeg 47 = .ok (.getfield 7, 3) := by decide +kernel
theorem dX6_turnPeg_50 : decode cX6_turnPeg 50 = .ok (.iconst 0, 1) := by decide +kernel
theorem dX6_turnPeg_51 : decode cX6_turnPeg 51 = .ok (.iload_n 1, 1) := by decide +kernel
theorem dX6_turnPeg_52 : decode cX6_turnPeg 52 = .ok (.iadd, 1) := by decide +kernel
theorem dX6_turnPeg_53 : decode cX6_turnPeg 53 = .ok (.iaload, 1) := by decide +kernel
theorem dX6_turnPeg_54 : decode cX6_turnPeg 54 = .ok (.iload_n 2, 1) := by decide +kernel
theorem dX6_turnPeg_55 : decode cX6_turnPeg 55 = .ok (.ishr, 1) := by decide +kernel
theorem dX6_turnPeg_56 : decode cX6_turnPeg 56 = .ok (.iconst 1, 1) := by decide +kernel
theorem dX6_turnPeg_57 : decode cX6_turnPeg 57 = .ok (.iand, 1) := by decide +kernel
theorem dX6_turnPeg_58 : decode cX6_turnPeg 58 = .ok (.iconst 1, 1) := by decide +kernel
theorem dX6_turnPeg_59 : decode cX6_turnPeg 59 = .ok (.if_icmp .ne 7, 3) := by decide +kernel
theorem dX6_turnPeg_62 : decode cX6_turnPeg 62 = .ok (.iconst 1, 1) := by decide +kernel
theorem dX6_turnPeg_63 : decode cX6_turnPeg 63 = .ok (.goto 4, 3) := by decide +kernel
theorem dX6_turnPeg_66 : decode cX6_turnPeg 66 = .ok (.iconst 0, 1) := by decide +kernel
theorem dX6_turnPeg_67 : decode cX6_turnPeg 67 = .ok (.ireturn, 1) := by decide +kernel
set_option maxRecDepth 20000 in
theorem ggX6_lays_X6_count : GoodIn wsX6_lays wsX6_count := goodIn_r _ [5] (by decide +kernel) (by decide +kernel)
set_option maxRecDepth 20000 in
theorem gX6_lays_X6_count : GoodIn wsX6_lays (va_wsS RX6 43 yX6_count wsX6_count) := goodIn_app (goodIn_of _ (by decide +kernel)) ggX6_lays_X6_count
theorem dX6_lays_0 : decode cX6_lays 0 = .ok (.aload_n 0, 1) := by decide +kernel
theorem dX6_lays_1 : decode cX6_lays 1 = .ok (.getfield 7, 3) := by decide +kernel
theorem dX6_lays_4 : decode cX6_lays 4 = .ok (.iconst 0, 1) := by decide +kernel
theorem dX6_lays_5 : decode cX6_lays 5 = .ok (.iload_n 1, 1) := by decide +kernel
theorem dX6_lays_6 : decode cX6_lays 6 = .ok (.iadd, 1) := by decide +kernel
theorem dX6_lays_7 : decode cX6_lays 7 = .ok (.iaload, 1) := by decide +kernel
theorem dX6_lays_8 : decode cX6_lays 8 = .ok (.iload_n 2, 1) := by decide +kernel
theorem dX6_lays_9 : decode cX6_lays 9 = .ok (.ixor, 1) := by decide +kernel
theorem dX6_lays_10 : decode cX6_lays 10 = .ok (.invokestatic 43, 3) := by decide +kernel
theorem dX6_lays_13 : decode cX6_lays 13 = .ok (.istore_n 3, 1) := by decide +kernel
theorem dX6_lays_14 : decode cX6_lays 14 = .ok (.aload_n 0, 1) := by decide +kernel
theorem dX6_lays_15 : decode cX6_lays 15 = .ok (.getfield 7, 3) := by decide +kernel
theorem dX6_lays_18 : decode cX6_lays 18 = .ok (.iconst 0, 1) := by decide +kernel
theorem dX6_lays_19 : decode cX6_lays 19 = .ok (.iload_n 1, 1) := by decide +kernel
theorem dX6_lays_20 : decode cX6_lays 20 = .ok (.iadd, 1) := by decide +kernel
theorem dX6_lays_21 : decode cX6_lays 21 = .ok (.iload_n 2, 1) := by decide +kernel
theorem dX6_lays_22 : decode cX6_lays 22 = .ok (.iastore, 1) := by decide +kernel
theorem dX6_lays_23 : decode cX6_lays 23 = .ok (.iload_n 3, 1) := by decide +kernel
theorem dX6_lays_24 : decode cX6_lays 24 = .ok (.ireturn, 1) := by decide +kernel
set_option maxRecDepth 20000 in
theorem ggX6_setColumn_X6_isColumn : GoodIn wsX6_setColumn wsX6_isColumn := goodIn_r _ [4, 5, 6, 3, 7] (by decide +kernel) (by decide +kernel)
set_option maxRecDepth 20000 in
theorem gX6_setColumn_X6_isColumn : GoodIn wsX6_setColumn (va_wsS RX6 68 yX6_isColumn wsX6_isColumn) := goodIn_app (goodIn_of _ (by decide +kernel)) ggX6_setColumn_X6_isColumn
set_option maxRecDepth 20000 in
theorem ggX6_setColumn_X6_in : GoodIn wsX6_setColumn wsX6_in := goodIn_r _ [7] (by decide +kernel) (by decide +kernel)
set_option maxRecDepth 20000 in
theorem gX6_setColumn_X6_in : GoodIn wsX6_setColumn (va_wsS RX6 36 yX6_in wsX6_in) := goodIn_app (goodIn_of _ (by decide +kernel)) ggX6_setColumn_X6_in
set_option maxRecDepth 20000 in
theorem ggX6_setColumn_X6_holds : GoodIn wsX6_setColumn wsX6_holds := goodIn_r _ [11, 12, 27, 28, 29, 30, 31, 32, 33, 34, 35, 36, 37] (by decide +kernel) (by decide +kernel)
set_option maxRecDepth 20000 in
theorem gX6_setColumn_X6_holds : GoodIn wsX6_setColumn (wsV RX6 75 RX6 yX6_holds wsX6_holds) := goodIn_app (goodIn_of _ (by decide +kernel)) ggX6_setColumn_X6_holds
set_option maxRecDepth 20000 in
theorem ggX6_setColumn_X6_records : GoodIn wsX6_setColumn wsX6_records := goodIn_r _ [16, 17, 18, 19, 27, 28, 29, 30, 31, 32, 33, 34, 35, 36, 37] (by decide +kernel) (by decide +kernel)
set_option maxRecDepth 20000 in
theorem gX6_setColumn_X6_records : GoodIn wsX6_setColumn (wsV RX6 78 RX6 yX6_records wsX6_records) := goodIn_app (goodIn_of _ (by decide +kernel)) ggX6_setColumn_X6_records
set_option maxRecDepth 20000 in
theorem ggX6_setColumn_X6_lays : GoodIn wsX6_setColumn wsX6_lays := goodIn_r _ [23, 19, 24, 25, 3, 26, 27, 28, 29, 30, 31, 32, 33, 34, 35, 36, 37] (by decide +kernel) (by decide +kernel)
set_option maxRecDepth 20000 in
theorem gX6_setColumn_X6_lays : GoodIn wsX6_setColumn (wsV RX6 81 RX6 yX6_lays wsX6_lays) := goodIn_app (goodIn_of _ (by decide +kernel)) ggX6_setColumn_X6_lays
theorem dX6_setColumn_0 : decode cX6_setColumn 0 = .ok (.aload_n 0, 1) := by decide +kernel
theorem dX6_setColumn_1 : decode cX6_setColumn 1 = .ok (.iload_n 1, 1) := by decide +kernel
theorem dX6_setColumn_2 : decode cX6_setColumn 2 = .ok (.invokestatic 68, 3) := by decide +kernel
theorem dX6_setColumn_5 : decode cX6_setColumn 5 = .ok (.ifCond .ne 7, 3) := by decide +kernel
theorem dX6_setColumn_8 : decode cX6_setColumn 8 = .ok (.iconst 1, 1) := by decide +kernel
theorem dX6_setColumn_9 : decode cX6_setColumn 9 = .ok (.goto 19, 3) := by decide +kernel
theorem dX6_setColumn_12 : decode cX6_setColumn 12 = .ok (.iload_n 2, 1) := by decide +kernel
theorem dX6_setColumn_13 : decode cX6_setColumn 13 = .ok (.iconst 0, 1) := by decide +kernel
theorem dX6_setColumn_14 : decode cX6_setColumn 14 = .ok (.sipush 1023, 3) := by decide +kernel
theorem dX6_setColumn_17 : decode cX6_setColumn 17 = .ok (.invokestatic 36, 3) := by decide +kernel
theorem dX6_setColumn_20 : decode cX6_setColumn 20 = .ok (.ifCond .eq 7, 3) := by decide +kernel
theorem dX6_setColumn_23 : decode cX6_setColumn 23 = .ok (.iconst 0, 1) := by decide +kernel
theorem dX6_setColumn_24 : decode cX6_setColumn 24 = .ok (.goto 4, 3) := by decide +kernel
theorem dX6_setColumn_27 : decode cX6_setColumn 27 = .ok (.iconst 2, 1) := by decide +kernel
theorem dX6_setColumn_28 : decode cX6_setColumn 28 = .ok (.invokevirtual 75, 3) := by decide +kernel
theorem dX6_setColumn_31 : decode cX6_setColumn 31 = .ok (.ifCond .ne 5, 3) := by decide +kernel
theorem dX6_setColumn_34 : decode cX6_setColumn 34 = .ok (.iconst 0, 1) := by decide +kernel
theorem dX6_setColumn_35 : decode cX6_setColumn 35 = .ok (.ireturn, 1) := by decide +kernel
theorem dX6_setColumn_36 : decode cX6_setColumn 36 = .ok (.aload_n 0, 1) := by decide +kernel
theorem dX6_setColumn_37 : decode cX6_setColumn 37 = .ok (.invokevirtual 78, 3) := by decide +kernel
theorem dX6_setColumn_40 : decode cX6_setColumn 40 = .ok (.aload_n 0, 1) := by decide +kernel
theorem dX6_setColumn_41 : decode cX6_setColumn 41 = .ok (.iload_n 1, 1) := by decide +kernel
theorem dX6_setColumn_42 : decode cX6_setColumn 42 = .ok (.iload_n 2, 1) := by decide +kernel
theorem dX6_setColumn_43 : decode cX6_setColumn 43 = .ok (.invokevirtual 81, 3) := by decide +kernel
theorem dX6_setColumn_46 : decode cX6_setColumn 46 = .ok (.ireturn, 1) := by decide +kernel
set_option maxRecDepth 20000 in
theorem ggX6_changes_X6_records : GoodIn wsX6_changes wsX6_records := goodIn_r _ [6, 7, 8, 1, 9, 10, 11, 12, 13, 14, 15, 16, 17, 18, 19] (by decide +kernel) (by decide +kernel)
set_option maxRecDepth 20000 in
theorem gX6_changes_X6_records : GoodIn wsX6_changes (wsV RX6 78 RX6 yX6_records wsX6_records) := goodIn_app (goodIn_of _ (by decide +kernel)) ggX6_changes_X6_records
theorem dX6_changes_0 : decode cX6_changes 0 = .ok (.aload_n 0, 1) := by decide +kernel
theorem dX6_changes_1 : decode cX6_changes 1 = .ok (.invokevirtual 78, 3) := by decide +kernel
theorem dX6_changes_4 : decode cX6_changes 4 = .ok (.aload_n 0, 1) := by decide +kernel
theorem dX6_changes_5 : decode cX6_changes 5 = .ok (.getfield 7, 3) := by decide +kernel
theorem dX6_changes_8 : decode cX6_changes 8 = .ok (.iload_n 1, 1) := by decide +kernel
theorem dX6_changes_9 : decode cX6_changes 9 = .ok (.iaload, 1) := by decide +kernel
theorem dX6_changes_10 : decode cX6_changes 10 = .ok (.istore_n 3, 1) := by decide +kernel
theorem dX6_changes_11 : decode cX6_changes 11 = .ok (.aload_n 0, 1) := by decide +kernel
theorem dX6_changes_12 : decode cX6_changes 12 = .ok (.getfield 7, 3) := by decide +kernel
theorem dX6_changes_15 : decode cX6_changes 15 = .ok (.iload_n 1, 1) := by decide +kernel
theorem dX6_changes_16 : decode cX6_changes 16 = .ok (.iload_n 2, 1) := by decide +kernel
theorem dX6_changes_17 : decode cX6_changes 17 = .ok (.iastore, 1) := by decide +kernel
theorem dX6_changes_18 : decode cX6_changes 18 = .ok (.iload_n 3, 1) := by decide +kernel
theorem dX6_changes_19 : decode cX6_changes 19 = .ok (.ireturn, 1) := by decide +kernel
set_option maxRecDepth 20000 in
theorem ggX6_setTempo_X6_isBar : GoodIn wsX6_setTempo wsX6_isBar := goodIn_r _ [4, 5, 6, 3, 7] (by decide +kernel) (by decide +kernel)
set_option maxRecDepth 20000 in
theorem gX6_setTempo_X6_isBar : GoodIn wsX6_setTempo (va_wsS RX6 85 yX6_isBar wsX6_isBar) := goodIn_app (goodIn_of _ (by decide +kernel)) ggX6_setTempo_X6_isBar
set_option maxRecDepth 20000 in
theorem ggX6_setTempo_X6_in : GoodIn wsX6_setTempo wsX6_in := goodIn_r _ [7] (by decide +kernel) (by decide +kernel)
set_option maxRecDepth 20000 in
theorem gX6_setTempo_X6_in : GoodIn wsX6_setTempo (va_wsS RX6 36 yX6_in wsX6_in) := goodIn_app (goodIn_of _ (by decide +kernel)) ggX6_setTempo_X6_in
set_option maxRecDepth 20000 in
theorem ggX6_setTempo_X6_holds : GoodIn wsX6_setTempo wsX6_holds := goodIn_r _ [11, 12, 24, 25, 26, 27, 28, 29, 30, 31, 32, 33, 34] (by decide +kernel) (by decide +kernel)
set_option maxRecDepth 20000 in
theorem gX6_setTempo_X6_holds : GoodIn wsX6_setTempo (wsV RX6 75 RX6 yX6_holds wsX6_holds) := goodIn_app (goodIn_of _ (by decide +kernel)) ggX6_setTempo_X6_holds
set_option maxRecDepth 20000 in
theorem ggX6_setTempo_X6_changes : GoodIn wsX6_setTempo wsX6_changes := goodIn_r _ [16, 17, 18, 19, 20, 3, 21, 22, 23, 24, 25, 26, 27, 28, 29, 30, 31, 32, 33, 34] (by decide +kernel) (by decide +kernel)
set_option maxRecDepth 20000 in
theorem gX6_setTempo_X6_changes : GoodIn wsX6_setTempo (wsV RX6 88 RX6 yX6_changes wsX6_changes) := goodIn_app (goodIn_of _ (by decide +kernel)) ggX6_setTempo_X6_changes
theorem dX6_setTempo_0 : decode cX6_setTempo 0 = .ok (.aload_n 0, 1) := by decide +kernel
theorem dX6_setTempo_1 : decode cX6_setTempo 1 = .ok (.iload_n 1, 1) := by decide +kernel
theorem dX6_setTempo_2 : decode cX6_setTempo 2 = .ok (.invokestatic 85, 3) := by decide +kernel
theorem dX6_setTempo_5 : decode cX6_setTempo 5 = .ok (.ifCond .ne 7, 3) := by decide +kernel
theorem dX6_setTempo_8 : decode cX6_setTempo 8 = .ok (.iconst 1, 1) := by decide +kernel
theorem dX6_setTempo_9 : decode cX6_setTempo 9 = .ok (.goto 18, 3) := by decide +kernel
theorem dX6_setTempo_12 : decode cX6_setTempo 12 = .ok (.iload_n 2, 1) := by decide +kernel
theorem dX6_setTempo_13 : decode cX6_setTempo 13 = .ok (.iconst 1, 1) := by decide +kernel
theorem dX6_setTempo_14 : decode cX6_setTempo 14 = .ok (.bipush 9, 2) := by decide +kernel
theorem dX6_setTempo_16 : decode cX6_setTempo 16 = .ok (.invokestatic 36, 3) := by decide +kernel
theorem dX6_setTempo_19 : decode cX6_setTempo 19 = .ok (.ifCond .eq 7, 3) := by decide +kernel
theorem dX6_setTempo_22 : decode cX6_setTempo 22 = .ok (.iconst 0, 1) := by decide +kernel
theorem dX6_setTempo_23 : decode cX6_setTempo 23 = .ok (.goto 4, 3) := by decide +kernel
theorem dX6_setTempo_26 : decode cX6_setTempo 26 = .ok (.iconst 2, 1) := by decide +kernel
theorem dX6_setTempo_27 : decode cX6_setTempo 27 = .ok (.invokevirtual 75, 3) := by decide +kernel
theorem dX6_setTempo_30 : decode cX6_setTempo 30 = .ok (.ifCond .eq 15, 3) := by decide +kernel
theorem dX6_setTempo_33 : decode cX6_setTempo 33 = .ok (.aload_n 0, 1) := by decide +kernel
theorem dX6_setTempo_34 : decode cX6_setTempo 34 = .ok (.bipush 32, 2) := by decide +kernel
theorem dX6_setTempo_36 : decode cX6_setTempo 36 = .ok (.iload_n 1, 1) := by decide +kernel
theorem dX6_setTempo_37 : decode cX6_setTempo 37 = .ok (.iadd, 1) := by decide +kernel
theorem dX6_setTempo_38 : decode cX6_setTempo 38 = .ok (.iload_n 2, 1) := by decide +kernel
theorem dX6_setTempo_39 : decode cX6_setTempo 39 = .ok (.invokevirtual 88, 3) := by decide +kernel
theorem dX6_setTempo_42 : decode cX6_setTempo 42 = .ok (.goto 4, 3) := by decide +kernel
theorem dX6_setTempo_45 : decode cX6_setTempo 45 = .ok (.iconst 0, 1) := by decide +kernel
theorem dX6_setTempo_46 : decode cX6_setTempo 46 = .ok (.ireturn, 1) := by decide +kernel
set_option maxRecDepth 20000 in
theorem ggX6_setWeight_X6_isBell : GoodIn wsX6_setWeight wsX6_isBell := goodIn_r _ [4, 5, 6, 3, 7] (by decide +kernel) (by decide +kernel)
set_option maxRecDepth 20000 in
theorem gX6_setWeight_X6_isBell : GoodIn wsX6_setWeight (va_wsS RX6 72 yX6_isBell wsX6_isBell) := goodIn_app (goodIn_of _ (by decide +kernel)) ggX6_setWeight_X6_isBell
set_option maxRecDepth 20000 in
theorem ggX6_setWeight_X6_in : GoodIn wsX6_setWeight wsX6_in := goodIn_r _ [7] (by decide +kernel) (by decide +kernel)
set_option maxRecDepth 20000 in
theorem gX6_setWeight_X6_in : GoodIn wsX6_setWeight (va_wsS RX6 36 yX6_in wsX6_in) := goodIn_app (goodIn_of _ (by decide +kernel)) ggX6_setWeight_X6_in
set_option maxRecDepth 20000 in
theorem ggX6_setWeight_X6_holds : GoodIn wsX6_setWeight wsX6_holds := goodIn_r _ [11, 12, 24, 25, 26, 27, 28, 29, 30, 31, 32, 33, 34] (by decide +kernel) (by decide +kernel)
set_option maxRecDepth 20000 in
theorem gX6_setWeight_X6_holds : GoodIn wsX6_setWeight (wsV RX6 75 RX6 yX6_holds wsX6_holds) := goodIn_app (goodIn_of _ (by decide +kernel)) ggX6_setWeight_X6_holds
set_option maxRecDepth 20000 in
theorem ggX6_setWeight_X6_changes : GoodIn wsX6_setWeight wsX6_changes := goodIn_r _ [16, 17, 18, 19, 20, 3, 21, 22, 23, 24, 25, 26, 27, 28, 29, 30, 31, 32, 33, 34] (by decide +kernel) (by decide +kernel)
set_option maxRecDepth 20000 in
theorem gX6_setWeight_X6_changes : GoodIn wsX6_setWeight (wsV RX6 88 RX6 yX6_changes wsX6_changes) := goodIn_app (goodIn_of _ (by decide +kernel)) ggX6_setWeight_X6_changes
theorem dX6_setWeight_0 : decode cX6_setWeight 0 = .ok (.aload_n 0, 1) := by decide +kernel
theorem dX6_setWeight_1 : decode cX6_setWeight 1 = .ok (.iload_n 1, 1) := by decide +kernel
theorem dX6_setWeight_2 : decode cX6_setWeight 2 = .ok (.invokestatic 72, 3) := by decide +kernel
theorem dX6_setWeight_5 : decode cX6_setWeight 5 = .ok (.ifCond .ne 7, 3) := by decide +kernel
theorem dX6_setWeight_8 : decode cX6_setWeight 8 = .ok (.iconst 1, 1) := by decide +kernel
theorem dX6_setWeight_9 : decode cX6_setWeight 9 = .ok (.goto 18, 3) := by decide +kernel
theorem dX6_setWeight_12 : decode cX6_setWeight 12 = .ok (.iload_n 2, 1) := by decide +kernel
theorem dX6_setWeight_13 : decode cX6_setWeight 13 = .ok (.iconst 1, 1) := by decide +kernel
theorem dX6_setWeight_14 : decode cX6_setWeight 14 = .ok (.bipush 60, 2) := by decide +kernel
theorem dX6_setWeight_16 : decode cX6_setWeight 16 = .ok (.invokestatic 36, 3) := by decide +kernel
theorem dX6_setWeight_19 : decode cX6_setWeight 19 = .ok (.ifCond .eq 7, 3) := by decide +kernel
theorem dX6_setWeight_22 : decode cX6_setWeight 22 = .ok (.iconst 0, 1) := by decide +kernel
theorem dX6_setWeight_23 : decode cX6_setWeight 23 = .ok (.goto 4, 3) := by decide +kernel
theorem dX6_setWeight_26 : decode cX6_setWeight 26 = .ok (.iconst 2, 1) := by decide +kernel
theorem dX6_setWeight_27 : decode cX6_setWeight 27 = .ok (.invokevirtual 75, 3) := by decide +kernel
theorem dX6_setWeight_30 : decode cX6_setWeight 30 = .ok (.ifCond .eq 15, 3) := by decide +kernel
theorem dX6_setWeight_33 : decode cX6_setWeight 33 = .ok (.aload_n 0, 1) := by decide +kernel
theorem dX6_setWeight_34 : decode cX6_setWeight 34 = .ok (.bipush 36, 2) := by decide +kernel
theorem dX6_setWeight_36 : decode cX6_setWeight 36 = .ok (.iload_n 1, 1) := by decide +kernel
theorem dX6_setWeight_37 : decode cX6_setWeight 37 = .ok (.iadd, 1) := by decide +kernel
theorem dX6_setWeight_38 : decode cX6_setWeight 38 = .ok (.iload_n 2, 1) := by decide +kernel
theorem dX6_setWeight_39 : decode cX6_setWeight 39 = .ok (.invokevirtual 88, 3) := by decide +kernel
theorem dX6_setWeight_42 : decode cX6_setWeight 42 = .ok (.goto 4, 3) := by decide +kernel
theorem dX6_setWeight_45 : decode cX6_setWeight 45 = .ok (.iconst 0, 1) := by decide +kernel
theorem dX6_setWeight_46 : decode cX6_setWeight 46 = .ok (.ireturn, 1) := by decide +kernel
set_option maxRecDepth 20000 in
theorem ggX6_setBound_X6_in : GoodIn wsX6_setBound wsX6_in := goodIn_r _ [4] (by decide +kernel) (by decide +kernel)
set_option maxRecDepth 20000 in
theorem gX6_setBound_X6_in : GoodIn wsX6_setBound (va_wsS RX6 36 yX6_in wsX6_in) := goodIn_app (goodIn_of _ (by decide +kernel)) ggX6_setBound_X6_in
set_option maxRecDepth 20000 in
theorem ggX6_setBound_X6_holds : GoodIn wsX6_setBound wsX6_holds := goodIn_r _ [8, 9, 21, 22, 23, 24, 25, 26, 27, 28, 29, 30, 31] (by decide +kernel) (by decide +kernel)
set_option maxRecDepth 20000 in
theorem gX6_setBound_X6_holds : GoodIn wsX6_setBound (wsV RX6 75 RX6 yX6_holds wsX6_holds) := goodIn_app (goodIn_of _ (by decide +kernel)) ggX6_setBound_X6_holds
set_option maxRecDepth 20000 in
theorem ggX6_setBound_X6_changes : GoodIn wsX6_setBound wsX6_changes := goodIn_r _ [13, 14, 15, 16, 17, 3, 18, 19, 20, 21, 22, 23, 24, 25, 26, 27, 28, 29, 30, 31] (by decide +kernel) (by decide +kernel)
set_option maxRecDepth 20000 in
theorem gX6_setBound_X6_changes : GoodIn wsX6_setBound (wsV RX6 88 RX6 yX6_changes wsX6_changes) := goodIn_app (goodIn_of _ (by decide +kernel)) ggX6_setBound_X6_changes
theorem dX6_setBound_0 : decode cX6_setBound 0 = .ok (.aload_n 0, 1) := by decide +kernel
theorem dX6_setBound_1 : decode cX6_setBound 1 = .ok (.iload_n 1, 1) := by decide +kernel
theorem dX6_setBound_2 : decode cX6_setBound 2 = .ok (.iconst 1, 1) := by decide +kernel
theorem dX6_setBound_3 : decode cX6_setBound 3 = .ok (.sipush 300, 3) := by decide +kernel
theorem dX6_setBound_6 : decode cX6_setBound 6 = .ok (.invokestatic 36, 3) := by decide +kernel
theorem dX6_setBound_9 : decode cX6_setBound 9 = .ok (.ifCond .eq 7, 3) := by decide +kernel
theorem dX6_setBound_12 : decode cX6_setBound 12 = .ok (.iconst 0, 1) := by decide +kernel
theorem dX6_setBound_13 : decode cX6_setBound 13 = .ok (.goto 4, 3) := by decide +kernel
theorem dX6_setBound_16 : decode cX6_setBound 16 = .ok (.iconst 1, 1) := by decide +kernel
theorem dX6_setBound_17 : decode cX6_setBound 17 = .ok (.invokevirtual 75, 3) := by decide +kernel
theorem dX6_setBound_20 : decode cX6_setBound 20 = .ok (.ifCond .eq 13, 3) := by decide +kernel
theorem dX6_setBound_23 : decode cX6_setBound 23 = .ok (.aload_n 0, 1) := by decide +kernel
theorem dX6_setBound_24 : decode cX6_setBound 24 = .ok (.bipush 46, 2) := by decide +kernel
theorem dX6_setBound_26 : decode cX6_setBound 26 = .ok (.iload_n 1, 1) := by decide +kernel
theorem dX6_setBound_27 : decode cX6_setBound 27 = .ok (.invokevirtual 88, 3) := by decide +kernel
theorem dX6_setBound_30 : decode cX6_setBound 30 = .ok (.goto 4, 3) := by decide +kernel
theorem dX6_setBound_33 : decode cX6_setBound 33 = .ok (.iconst 0, 1) := by decide +kernel
theorem dX6_setBound_34 : decode cX6_setBound 34 = .ok (.ireturn, 1) := by decide +kernel
set_option maxRecDepth 20000 in
theorem ggX6_laysAll_X6_lays : GoodIn wsX6_laysAll wsX6_lays := goodIn_r _ [6, 7, 8, 9, 5, 10, 11, 12, 13, 14, 15, 16, 17, 18, 19, 20, 21] (by decide +kernel) (by decide +kernel)
set_option maxRecDepth 20000 in
theorem gX6_laysAll_X6_lays : GoodIn wsX6_laysAll (wsV RX6 81 RX6 yX6_lays wsX6_lays) := goodIn_app (goodIn_of _ (by decide +kernel)) ggX6_laysAll_X6_lays
theorem dX6_laysAll_0 : decode cX6_laysAll 0 = .ok (.iconst 0, 1) := by decide +kernel
theorem dX6_laysAll_1 : decode cX6_laysAll 1 = .ok (.istore_n 1, 1) := by decide +kernel
theorem dX6_laysAll_2 : decode cX6_laysAll 2 = .ok (.iconst 0, 1) := by decide +kernel
theorem dX6_laysAll_3 : decode cX6_laysAll 3 = .ok (.istore_n 2, 1) := by decide +kernel
theorem dX6_laysAll_4 : decode cX6_laysAll 4 = .ok (.iload_n 2, 1) := by decide +kernel
theorem dX6_laysAll_5 : decode cX6_laysAll 5 = .ok (.bipush 32, 2) := by decide +kernel
theorem dX6_laysAll_7 : decode cX6_laysAll 7 = .ok (.if_icmp .ge 23, 3) := by decide +kernel
theorem dX6_laysAll_10 : decode cX6_laysAll 10 = .ok (.iload_n 1, 1) := by decide +kernel
theorem dX6_laysAll_11 : decode cX6_laysAll 11 = .ok (.aload_n 0, 1) := by decide +kernel
theorem dX6_laysAll_12 : decode cX6_laysAll 12 = .ok (.iload_n 2, 1) := by decide +kernel
theorem dX6_laysAll_13 : decode cX6_laysAll 13 = .ok (.aload_n 0, 1) := by decide +kernel
theorem dX6_laysAll_14 : decode cX6_laysAll 14 = .ok (.getfield 29, 3) := by decide +kernel
theorem dX6_laysAll_17 : decode cX6_laysAll 17 = .ok (.iload_n 2, 1) := by decide +kernel
theorem dX6_laysAll_18 : decode cX6_laysAll 18 = .ok (.iaload, 1) := by decide +kernel
theorem dX6_laysAll_19 : decode cX6_laysAll 19 = .ok (.invokevirtual 81, 3) := by decide +kernel
theorem dX6_laysAll_22 : decode cX6_laysAll 22 = .ok (.iadd, 1) := by decide +kernel
theorem dX6_laysAll_23 : decode cX6_laysAll 23 = .ok (.istore_n 1, 1) := by decide +kernel
theorem dX6_laysAll_24 : decode cX6_laysAll 24 = .ok (.iinc 2 1, 3) := by decide +kernel
theorem dX6_laysAll_27 : decode cX6_laysAll 27 = .ok (.goto (-23), 3) := by decide +kernel
theorem dX6_laysAll_30 : decode cX6_laysAll 30 = .ok (.iload_n 1, 1) := by decide +kernel
theorem dX6_laysAll_31 : decode cX6_laysAll 31 = .ok (.ireturn, 1) := by decide +kernel
set_option maxRecDepth 20000 in
theorem ggX6_turnRound_X6_records : GoodIn wsX6_turnRound wsX6_records := goodIn_r _ [8, 9, 10, 3, 22, 23, 24, 25, 26, 27, 28, 29, 30, 31, 32] (by decide +kernel) (by decide +kernel)
set_option maxRecDepth 20000 in
theorem gX6_turnRound_X6_records : GoodIn wsX6_turnRound (wsV RX6 78 RX6 yX6_records wsX6_records) := goodIn_app (goodIn_of _ (by decide +kernel)) ggX6_turnRound_X6_records
set_option maxRecDepth 20000 in
theorem ggX6_turnRound_X6_laysAll : GoodIn wsX6_turnRound wsX6_laysAll := goodIn_r _ [14, 2, 15, 16, 17, 7, 18, 3, 19, 20, 21, 22, 23, 24, 25, 26, 27, 28, 29, 30, 31, 32] (by decide +kernel) (by decide +kernel)
set_option maxRecDepth 20000 in
theorem gX6_turnRound_X6_laysAll : GoodIn wsX6_turnRound (wsV RX6 91 RX6 yX6_laysAll wsX6_laysAll) := goodIn_app (goodIn_of _ (by decide +kernel)) ggX6_turnRound_X6_laysAll
theorem dX6_turnRound_0 : decode cX6_turnRound 0 = .ok (.aload_n 0, 1) := by decide +kernel
theorem dX6_turnRound_1 : decode cX6_turnRound 1 = .ok (.iconst 0, 1) := by decide +kernel
theorem dX6_turnRound_2 : decode cX6_turnRound 2 = .ok (.putfield 32, 3) := by decide +kernel
theorem dX6_turnRound_5 : decode cX6_turnRound 5 = .ok (.aload_n 0, 1) := by decide +kernel
theorem dX6_turnRound_6 : decode cX6_turnRound 6 = .ok (.invokevirtual 78, 3) := by decide +kernel
theorem dX6_turnRound_9 : decode cX6_turnRound 9 = .ok (.iconst 0, 1) := by decide +kernel
theorem dX6_turnRound_10 : decode cX6_turnRound 10 = .ok (.istore_n 1, 1) := by decide +kernel
theorem dX6_turnRound_11 : decode cX6_turnRound 11 = .ok (.iload_n 1, 1) := by decide +kernel
theorem dX6_turnRound_12 : decode cX6_turnRound 12 = .ok (.bipush 32, 2) := by decide +kernel
theorem dX6_turnRound_14 : decode cX6_turnRound 14 = .ok (.if_icmp .ge 26, 3) := by decide +kernel
theorem dX6_turnRound_17 : decode cX6_turnRound 17 = .ok (.aload_n 0, 1) := by decide +kernel
theorem dX6_turnRound_18 : decode cX6_turnRound 18 = .ok (.getfield 29, 3) := by decide +kernel
theorem dX6_turnRound_21 : decode cX6_turnRound 21 = .ok (.bipush 31, 2) := by decide +kernel
theorem dX6_turnRound_23 : decode cX6_turnRound 23 = .ok (.iload_n 1, 1) := by decide +kernel
theorem dX6_turnRound_24 : decode cX6_turnRound 24 = .ok (.isub, 1) := by decide +kernel
theorem dX6_turnRound_25 : decode cX6_turnRound 25 = .ok (.aload_n 0, 1) := by decide +kernel
theorem dX6_turnRound_26 : decode cX6_turnRound 26 = .ok (.getfield 7, 3) := by decide +kernel
theorem dX6_turnRound_29 : decode cX6_turnRound 29 = .ok (.iconst 0, 1) := by decide +kernel
theorem dX6_turnRound_30 : decode cX6_turnRound 30 = .ok (.iload_n 1, 1) := by decide +kernel
theorem dX6_turnRound_31 : decode cX6_turnRound 31 = .ok (.iadd, 1) := by decide +kernel
theorem dX6_turnRound_32 : decode cX6_turnRound 32 = .ok (.iaload, 1) := by decide +kernel
theorem dX6_turnRound_33 : decode cX6_turnRound 33 = .ok (.iastore, 1) := by decide +kernel
theorem dX6_turnRound_34 : decode cX6_turnRound 34 = .ok (.iinc 1 1, 3) := by decide +kernel
theorem dX6_turnRound_37 : decode cX6_turnRound 37 = .ok (.goto (-26), 3) := by decide +kernel
theorem dX6_turnRound_40 : decode cX6_turnRound 40 = .ok (.aload_n 0, 1) := by decide +kernel
theorem dX6_turnRound_41 : decode cX6_turnRound 41 = .ok (.invokevirtual 91, 3) := by decide +kernel
theorem dX6_turnRound_44 : decode cX6_turnRound 44 = .ok (.ireturn, 1) := by decide +kernel
set_option maxRecDepth 20000 in
theorem ggX6_move_X6_in : GoodIn wsX6_move wsX6_in := goodIn_r _ [6] (by decide +kernel) (by decide +kernel)
set_option maxRecDepth 20000 in
theorem gX6_move_X6_in : GoodIn wsX6_move (va_wsS RX6 36 yX6_in wsX6_in) := goodIn_app (goodIn_of _ (by decide +kernel)) ggX6_move_X6_in
set_option maxRecDepth 20000 in
theorem ggX6_move_X6_holds : GoodIn wsX6_move wsX6_holds := goodIn_r _ [10, 11, 29, 30, 31, 32, 33, 34, 35, 36, 37, 38, 39] (by decide +kernel) (by decide +kernel)
set_option maxRecDepth 20000 in
theorem gX6_move_X6_holds : GoodIn wsX6_move (wsV RX6 75 RX6 yX6_holds wsX6_holds) := goodIn_app (goodIn_of _ (by decide +kernel)) ggX6_move_X6_holds
set_option maxRecDepth 20000 in
theorem ggX6_move_X6_records : GoodIn wsX6_move wsX6_records := goodIn_r _ [15, 16, 17, 2, 29, 30, 31, 32, 33, 34, 35, 36, 37, 38, 39] (by decide +kernel) (by decide +kernel)
set_option maxRecDepth 20000 in
theorem gX6_move_X6_records : GoodIn wsX6_move (wsV RX6 78 RX6 yX6_records wsX6_records) := goodIn_app (goodIn_of _ (by decide +kernel)) ggX6_move_X6_records
set_option maxRecDepth 20000 in
theorem ggX6_move_X6_laysAll : GoodIn wsX6_move wsX6_laysAll := goodIn_r _ [21, 1, 22, 23, 24, 5, 25, 2, 26, 27, 28, 29, 30, 31, 32, 33, 34, 35, 36, 37, 38, 39] (by decide +kernel) (by decide +kernel)
set_option maxRecDepth 20000 in
theorem gX6_move_X6_laysAll : GoodIn wsX6_move (wsV RX6 91 RX6 yX6_laysAll wsX6_laysAll) := goodIn_app (goodIn_of _ (by decide +kernel)) ggX6_move_X6_laysAll
theorem dX6_move_0 : decode cX6_move 0 = .ok (.aload_n 0, 1) := by decide +kernel
theorem dX6_move_1 : decode cX6_move 1 = .ok (.iload_n 1, 1) := by decide +kernel
theorem dX6_move_2 : decode cX6_move 2 = .ok (.iconst 1, 1) := by decide +kernel
theorem dX6_move_3 : decode cX6_move 3 = .ok (.bipush 31, 2) := by decide +kernel
theorem dX6_move_5 : decode cX6_move 5 = .ok (.invokestatic 36, 3) := by decide +kernel
theorem dX6_move_8 : decode cX6_move 8 = .ok (.ifCond .eq 7, 3) := by decide +kernel
theorem dX6_move_11 : decode cX6_move 11 = .ok (.iconst 0, 1) := by decide +kernel
theorem dX6_move_12 : decode cX6_move 12 = .ok (.goto 4, 3) := by decide +kernel
theorem dX6_move_15 : decode cX6_move 15 = .ok (.iconst 1, 1) := by decide +kernel
theorem dX6_move_16 : decode cX6_move 16 = .ok (.invokevirtual 75, 3) := by decide +kernel
theorem dX6_move_19 : decode cX6_move 19 = .ok (.ifCond .ne 5, 3) := by decide +kernel
theorem dX6_move_22 : decode cX6_move 22 = .ok (.iconst 0, 1) := by decide +kernel
theorem dX6_move_23 : decode cX6_move 23 = .ok (.ireturn, 1) := by decide +kernel
theorem dX6_move_24 : decode cX6_move 24 = .ok (.aload_n 0, 1) := by decide +kernel
theorem dX6_move_25 : decode cX6_move 25 = .ok (.invokevirtual 78, 3) := by decide +kernel
theorem dX6_move_28 : decode cX6_move 28 = .ok (.iconst 0, 1) := by decide +kernel
theorem dX6_move_29 : decode cX6_move 29 = .ok (.istore_n 2, 1) := by decide +kernel
theorem dX6_move_30 : decode cX6_move 30 = .ok (.iload_n 2, 1) := by decide +kernel
theorem dX6_move_31 : decode cX6_move 31 = .ok (.bipush 32, 2) := by decide +kernel
theorem dX6_move_33 : decode cX6_move 33 = .ok (.if_icmp .ge 28, 3) := by decide +kernel
theorem dX6_move_36 : decode cX6_move 36 = .ok (.aload_n 0, 1) := by decide +kernel
theorem dX6_move_37 : decode cX6_move 37 = .ok (.getfield 29, 3) := by decide +kernel
theorem dX6_move_40 : decode cX6_move 40 = .ok (.iload_n 2, 1) := by decide +kernel
theorem dX6_move_41 : decode cX6_move 41 = .ok (.iload_n 1, 1) := by decide +kernel
theorem dX6_move_42 : decode cX6_move 42 = .ok (.iadd, 1) := by decide +kernel
theorem dX6_move_43 : decode cX6_move 43 = .ok (.bipush 32, 2) := by decide +kernel
theorem dX6_move_45 : decode cX6_move 45 = .ok (.irem, 1) := by decide +kernel
theorem dX6_move_46 : decode cX6_move 46 = .ok (.aload_n 0, 1) := by decide +kernel
theorem dX6_move_47 : decode cX6_move 47 = .ok (.getfield 7, 3) := by decide +kernel
theorem dX6_move_50 : decode cX6_move 50 = .ok (.iconst 0, 1) := by decide +kernel
theorem dX6_move_51 : decode cX6_move 51 = .ok (.iload_n 2, 1) := by decide +kernel
theorem dX6_move_52 : decode cX6_move 52 = .ok (.iadd, 1) := by decide +kernel
theorem dX6_move_53 : decode cX6_move 53 = .ok (.iaload, 1) := by decide +kernel
theorem dX6_move_54 : decode cX6_move 54 = .ok (.iastore, 1) := by decide +kernel
theorem dX6_move_55 : decode cX6_move 55 = .ok (.iinc 2 1, 3) := by decide +kernel
theorem dX6_move_58 : decode cX6_move 58 = .ok (.goto (-28), 3) := by decide +kernel
theorem dX6_move_61 : decode cX6_move 61 = .ok (.aload_n 0, 1) := by decide +kernel
theorem dX6_move_62 : decode cX6_move 62 = .ok (.invokevirtual 91, 3) := by decide +kernel
theorem dX6_move_65 : decode cX6_move 65 = .ok (.ireturn, 1) := by decide +kernel
set_option maxRecDepth 20000 in
theorem ggX6_raise_X6_records : GoodIn wsX6_raise wsX6_records := goodIn_r _ [7, 8, 9, 2, 10, 11, 12, 13, 14, 15, 16, 17, 18, 19, 20] (by decide +kernel) (by decide +kernel)
set_option maxRecDepth 20000 in
theorem gX6_raise_X6_records : GoodIn wsX6_raise (wsV RX6 78 RX6 yX6_records wsX6_records) := goodIn_app (goodIn_of _ (by decide +kernel)) ggX6_raise_X6_records
theorem dX6_raise_0 : decode cX6_raise 0 = .ok (.aload_n 0, 1) := by decide +kernel
theorem dX6_raise_1 : decode cX6_raise 1 = .ok (.iconst 0, 1) := by decide +kernel
theorem dX6_raise_2 : decode cX6_raise 2 = .ok (.putfield 32, 3) := by decide +kernel
theorem dX6_raise_5 : decode cX6_raise 5 = .ok (.aload_n 0, 1) := by decide +kernel
theorem dX6_raise_6 : decode cX6_raise 6 = .ok (.invokevirtual 78, 3) := by decide +kernel
theorem dX6_raise_9 : decode cX6_raise 9 = .ok (.iconst 0, 1) := by decide +kernel
theorem dX6_raise_10 : decode cX6_raise 10 = .ok (.istore_n 1, 1) := by decide +kernel
theorem dX6_raise_11 : decode cX6_raise 11 = .ok (.iconst 0, 1) := by decide +kernel
theorem dX6_raise_12 : decode cX6_raise 12 = .ok (.istore_n 2, 1) := by decide +kernel
theorem dX6_raise_13 : decode cX6_raise 13 = .ok (.iload_n 2, 1) := by decide +kernel
theorem dX6_raise_14 : decode cX6_raise 14 = .ok (.bipush 32, 2) := by decide +kernel
theorem dX6_raise_16 : decode cX6_raise 16 = .ok (.if_icmp .ge 45, 3) := by decide +kernel
theorem dX6_raise_19 : decode cX6_raise 19 = .ok (.iload_n 1, 1) := by decide +kernel
theorem dX6_raise_20 : decode cX6_raise 20 = .ok (.aload_n 0, 1) := by decide +kernel
theorem dX6_raise_21 : decode cX6_raise 21 = .ok (.getfield 7, 3) := by decide +kernel
theorem dX6_raise_24 : decode cX6_raise 24 = .ok (.iconst 0, 1) := by decide +kernel
theorem dX6_raise_25 : decode cX6_raise 25 = .ok (.iload_n 2, 1) := by decide +kernel
theorem dX6_raise_26 : decode cX6_raise 26 = .ok (.iadd, 1) := by decide +kernel
theorem dX6_raise_27 : decode cX6_raise 27 = .ok (.iaload, 1) := by decide +kernel
theorem dX6_raise_28 : decode cX6_raise 28 = .ok (.bipush 9, 2) := by decide +kernel
theorem dX6_raise_30 : decode cX6_raise 30 = .ok (.ishr, 1) := by decide +kernel
theorem dX6_raise_31 : decode cX6_raise 31 = .ok (.iadd, 1) := by decide +kernel
theorem dX6_raise_32 : decode cX6_raise 32 = .ok (.istore_n 1, 1) := by decide +kernel
theorem dX6_raise_33 : decode cX6_raise 33 = .ok (.aload_n 0, 1) := by decide +kernel
theorem dX6_raise_34 : decode cX6_raise 34 = .ok (.getfield 7, 3) := by decide +kernel
theorem dX6_raise_37 : decode cX6_raise 37 = .ok (.iconst 0, 1) := by decide +kernel
theorem dX6_raise_38 : decode cX6_raise 38 = .ok (.iload_n 2, 1) := by decide +kernel
theorem dX6_raise_39 : decode cX6_raise 39 = .ok (.iadd, 1) := by decide +kernel
theorem dX6_raise_40 : decode cX6_raise 40 = .ok (.aload_n 0, 1) := by decide +kernel
theorem dX6_raise_41 : decode cX6_raise 41 = .ok (.getfield 7, 3) := by decide +kernel
theorem dX6_raise_44 : decode cX6_raise 44 = .ok (.iconst 0, 1) := by decide +kernel
theorem dX6_raise_45 : decode cX6_raise 45 = .ok (.iload_n 2, 1) := by decide +kernel
theorem dX6_raise_46 : decode cX6_raise 46 = .ok (.iadd, 1) := by decide +kernel
theorem dX6_raise_47 : decode cX6_raise 47 = .ok (.iaload, 1) := by decide +kernel
theorem dX6_raise_48 : decode cX6_raise 48 = .ok (.iconst 1, 1) := by decide +kernel
theorem dX6_raise_49 : decode cX6_raise 49 = .ok (.ishl, 1) := by decide +kernel
theorem dX6_raise_50 : decode cX6_raise 50 = .ok (.sipush 1023, 3) := by decide +kernel
theorem dX6_raise_53 : decode cX6_raise 53 = .ok (.iand, 1) := by decide +kernel
theorem dX6_raise_54 : decode cX6_raise 54 = .ok (.iastore, 1) := by decide +kernel
theorem dX6_raise_55 : decode cX6_raise 55 = .ok (.iinc 2 1, 3) := by decide +kernel
theorem dX6_raise_58 : decode cX6_raise 58 = .ok (.goto (-45), 3) := by decide +kernel
theorem dX6_raise_61 : decode cX6_raise 61 = .ok (.iload_n 1, 1) := by decide +kernel
theorem dX6_raise_62 : decode cX6_raise 62 = .ok (.ireturn, 1) := by decide +kernel
set_option maxRecDepth 20000 in
theorem ggX6_crank_X6_in : GoodIn wsX6_crank wsX6_in := goodIn_r _ [4] (by decide +kernel) (by decide +kernel)
set_option maxRecDepth 20000 in
theorem gX6_crank_X6_in : GoodIn wsX6_crank (va_wsS RX6 36 yX6_in wsX6_in) := goodIn_app (goodIn_of _ (by decide +kernel)) ggX6_crank_X6_in
set_option maxRecDepth 20000 in
theorem ggX6_crank_X6_holds : GoodIn wsX6_crank wsX6_holds := goodIn_r _ [8, 9, 39, 40, 41, 42, 43, 44, 45, 46, 47, 48, 49] (by decide +kernel) (by decide +kernel)
set_option maxRecDepth 20000 in
theorem gX6_crank_X6_holds : GoodIn wsX6_crank (wsV RX6 75 RX6 yX6_holds wsX6_holds) := goodIn_app (goodIn_of _ (by decide +kernel)) ggX6_crank_X6_holds
set_option maxRecDepth 20000 in
theorem ggX6_crank_X6_records : GoodIn wsX6_crank wsX6_records := goodIn_r _ [13, 14, 15, 16, 39, 40, 41, 42, 43, 44, 45, 46, 47, 48, 49] (by decide +kernel) (by decide +kernel)
set_option maxRecDepth 20000 in
theorem gX6_crank_X6_records : GoodIn wsX6_crank (wsV RX6 78 RX6 yX6_records wsX6_records) := goodIn_app (goodIn_of _ (by decide +kernel)) ggX6_crank_X6_records
set_option maxRecDepth 20000 in
theorem ggX6_crank_X6_cranks : GoodIn wsX6_crank wsX6_cranks := goodIn_r _ [20, 21, 22, 23, 3, 24, 16, 25, 26, 27, 28, 29, 30, 31, 32, 33, 34, 35, 36, 37, 38, 39, 40, 41, 42, 43, 44, 45, 46, 47, 48, 49] (by decide +kernel) (by decide +kernel)
set_option maxRecDepth 20000 in
theorem gX6_crank_X6_cranks : GoodIn wsX6_crank (wsV RX6 94 RX6 yX6_cranks wsX6_cranks) := goodIn_app (goodIn_of _ (by decide +kernel)) ggX6_crank_X6_cranks
theorem dX6_crank_0 : decode cX6_crank 0 = .ok (.aload_n 0, 1) := by decide +kernel
theorem dX6_crank_1 : decode cX6_crank 1 = .ok (.iload_n 1, 1) := by decide +kernel
theorem dX6_crank_2 : decode cX6_crank 2 = .ok (.iconst 1, 1) := by decide +kernel
theorem dX6_crank_3 : decode cX6_crank 3 = .ok (.sipush 200, 3) := by decide +kernel
theorem dX6_crank_6 : decode cX6_crank 6 = .ok (.invokestatic 36, 3) := by decide +kernel
theorem dX6_crank_9 : decode cX6_crank 9 = .ok (.ifCond .eq 7, 3) := by decide +kernel
theorem dX6_crank_12 : decode cX6_crank 12 = .ok (.iconst 0, 1) := by decide +kernel
theorem dX6_crank_13 : decode cX6_crank 13 = .ok (.goto 4, 3) := by decide +kernel
theorem dX6_crank_16 : decode cX6_crank 16 = .ok (.iconst 1, 1) := by decide +kernel
theorem dX6_crank_17 : decode cX6_crank 17 = .ok (.invokevirtual 75, 3) := by decide +kernel
theorem dX6_crank_20 : decode cX6_crank 20 = .ok (.ifCond .ne 5, 3) := by decide +kernel
theorem dX6_crank_23 : decode cX6_crank 23 = .ok (.iconst 0, 1) := by decide +kernel
theorem dX6_crank_24 : decode cX6_crank 24 = .ok (.ireturn, 1) := by decide +kernel
theorem dX6_crank_25 : decode cX6_crank 25 = .ok (.aload_n 0, 1) := by decide +kernel
theorem dX6_crank_26 : decode cX6_crank 26 = .ok (.invokevirtual 78, 3) := by decide +kernel
theorem dX6_crank_29 : decode cX6_crank 29 = .ok (.aload_n 0, 1) := by decide +kernel
theorem dX6_crank_30 : decode cX6_crank 30 = .ok (.iload_n 1, 1) := by decide +kernel
theorem dX6_crank_31 : decode cX6_crank 31 = .ok (.invokevirtual 94, 3) := by decide +kernel
theorem dX6_crank_34 : decode cX6_crank 34 = .ok (.ireturn, 1) := by decide +kernel
set_option maxRecDepth 20000 in
theorem ggX6_turnBack_X6_records : GoodIn wsX6_turnBack wsX6_records := goodIn_r _ [7, 8, 9, 2, 10, 11, 12, 13, 14, 15, 16, 17, 18, 19, 20] (by decide +kernel) (by decide +kernel)
set_option maxRecDepth 20000 in
theorem gX6_turnBack_X6_records : GoodIn wsX6_turnBack (wsV RX6 78 RX6 yX6_records wsX6_records) := goodIn_app (goodIn_of _ (by decide +kernel)) ggX6_turnBack_X6_records
theorem dX6_turnBack_0 : decode cX6_turnBack 0 = .ok (.aload_n 0, 1) := by decide +kernel
theorem dX6_turnBack_1 : decode cX6_turnBack 1 = .ok (.iconst 0, 1) := by decide +kernel
theorem dX6_turnBack_2 : decode cX6_turnBack 2 = .ok (.putfield 32, 3) := by decide +kernel
theorem dX6_turnBack_5 : decode cX6_turnBack 5 = .ok (.aload_n 0, 1) := by decide +kernel
theorem dX6_turnBack_6 : decode cX6_turnBack 6 = .ok (.invokevirtual 78, 3) := by decide +kernel
theorem dX6_turnBack_9 : decode cX6_turnBack 9 = .ok (.aload_n 0, 1) := by decide +kernel
theorem dX6_turnBack_10 : decode cX6_turnBack 10 = .ok (.getfield 7, 3) := by decide +kernel
theorem dX6_turnBack_13 : decode cX6_turnBack 13 = .ok (.bipush 47, 2) := by decide +kernel
theorem dX6_turnBack_15 : decode cX6_turnBack 15 = .ok (.iaload, 1) := by decide +kernel
theorem dX6_turnBack_16 : decode cX6_turnBack 16 = .ok (.istore_n 1, 1) := by decide +kernel
theorem dX6_turnBack_17 : decode cX6_turnBack 17 = .ok (.aload_n 0, 1) := by decide +kernel
theorem dX6_turnBack_18 : decode cX6_turnBack 18 = .ok (.getfield 7, 3) := by decide +kernel
theorem dX6_turnBack_21 : decode cX6_turnBack 21 = .ok (.bipush 47, 2) := by decide +kernel
theorem dX6_turnBack_23 : decode cX6_turnBack 23 = .ok (.iconst 0, 1) := by decide +kernel
theorem dX6_turnBack_24 : decode cX6_turnBack 24 = .ok (.iastore, 1) := by decide +kernel
theorem dX6_turnBack_25 : decode cX6_turnBack 25 = .ok (.iconst 0, 1) := by decide +kernel
theorem dX6_turnBack_26 : decode cX6_turnBack 26 = .ok (.istore_n 2, 1) := by decide +kernel
theorem dX6_turnBack_27 : decode cX6_turnBack 27 = .ok (.iload_n 2, 1) := by decide +kernel
theorem dX6_turnBack_28 : decode cX6_turnBack 28 = .ok (.bipush 10, 2) := by decide +kernel
theorem dX6_turnBack_30 : decode cX6_turnBack 30 = .ok (.if_icmp .ge 20, 3) := by decide +kernel
theorem dX6_turnBack_33 : decode cX6_turnBack 33 = .ok (.aload_n 0, 1) := by decide +kernel
theorem dX6_turnBack_34 : decode cX6_turnBack 34 = .ok (.getfield 7, 3) := by decide +kernel
theorem dX6_turnBack_37 : decode cX6_turnBack 37 = .ok (.bipush 60, 2) := by decide +kernel
theorem dX6_turnBack_39 : decode cX6_turnBack 39 = .ok (.iload_n 2, 1) := by decide +kernel
theorem dX6_turnBack_40 : decode cX6_turnBack 40 = .ok (.iadd, 1) := by decide +kernel
theorem dX6_turnBack_41 : decode cX6_turnBack 41 = .ok (.bipush 9, 2) := by decide +kernel
theorem dX6_turnBack_43 : decode cX6_turnBack 43 = .ok (.iastore, 1) := by decide +kernel
theorem dX6_turnBack_44 : decode cX6_turnBack 44 = .ok (.iinc 2 1, 3) := by decide +kernel
theorem dX6_turnBack_47 : decode cX6_turnBack 47 = .ok (.goto (-20), 3) := by decide +kernel
theorem dX6_turnBack_50 : decode cX6_turnBack 50 = .ok (.iload_n 1, 1) := by decide +kernel
theorem dX6_turnBack_51 : decode cX6_turnBack 51 = .ok (.ireturn, 1) := by decide +kernel
set_option maxRecDepth 20000 in
theorem ggX6_pegsIn_X6_isColumn : GoodIn wsX6_pegsIn wsX6_isColumn := goodIn_r _ [5, 6, 7, 4, 8] (by decide +kernel) (by decide +kernel)
set_option maxRecDepth 20000 in
theorem gX6_pegsIn_X6_isColumn : GoodIn wsX6_pegsIn (va_wsS RX6 68 yX6_isColumn wsX6_isColumn) := goodIn_app (goodIn_of _ (by decide +kernel)) ggX6_pegsIn_X6_isColumn
set_option maxRecDepth 20000 in
theorem ggX6_pegsIn_X6_holds : GoodIn wsX6_pegsIn wsX6_holds := goodIn_r _ [12, 13, 14, 15, 16, 17, 18, 19, 20, 21, 22, 23, 24] (by decide +kernel) (by decide +kernel)
set_option maxRecDepth 20000 in
theorem gX6_pegsIn_X6_holds : GoodIn wsX6_pegsIn (wsV RX6 75 RX6 yX6_holds wsX6_holds) := goodIn_app (goodIn_of _ (by decide +kernel)) ggX6_pegsIn_X6_holds
theorem dX6_pegsIn_0 : decode cX6_pegsIn 0 = .ok (.aload_n 0, 1) := by decide +kernel
theorem dX6_pegsIn_1 : decode cX6_pegsIn 1 = .ok (.iload_n 1, 1) := by decide +kernel
theorem dX6_pegsIn_2 : decode cX6_pegsIn 2 = .ok (.invokestatic 68, 3) := by decide +kernel
theorem dX6_pegsIn_5 : decode cX6_pegsIn 5 = .ok (.ifCond .eq 7, 3) := by decide +kernel
theorem dX6_pegsIn_8 : decode cX6_pegsIn 8 = .ok (.iconst 0, 1) := by decide +kernel
theorem dX6_pegsIn_9 : decode cX6_pegsIn 9 = .ok (.goto 4, 3) := by decide +kernel
theorem dX6_pegsIn_12 : decode cX6_pegsIn 12 = .ok (.iconst 1, 1) := by decide +kernel
theorem dX6_pegsIn_13 : decode cX6_pegsIn 13 = .ok (.invokevirtual 75, 3) := by decide +kernel
theorem dX6_pegsIn_16 : decode cX6_pegsIn 16 = .ok (.ifCond .eq 14, 3) := by decide +kernel
theorem dX6_pegsIn_19 : decode cX6_pegsIn 19 = .ok (.aload_n 0, 1) := by decide +kernel
theorem dX6_pegsIn_20 : decode cX6_pegsIn 20 = .ok (.getfield 7, 3) := by decide +kernel
theorem dX6_pegsIn_23 : decode cX6_pegsIn 23 = .ok (.iconst 0, 1) := by decide +kernel
theorem dX6_pegsIn_24 : decode cX6_pegsIn 24 = .ok (.iload_n 1, 1) := by decide +kernel
theorem dX6_pegsIn_25 : decode cX6_pegsIn 25 = .ok (.iadd, 1) := by decide +kernel
theorem dX6_pegsIn_26 : decode cX6_pegsIn 26 = .ok (.iaload, 1) := by decide +kernel
theorem dX6_pegsIn_27 : decode cX6_pegsIn 27 = .ok (.goto 4, 3) := by decide +kernel
theorem dX6_pegsIn_30 : decode cX6_pegsIn 30 = .ok (.iconst 0, 1) := by decide +kernel
theorem dX6_pegsIn_31 : decode cX6_pegsIn 31 = .ok (.ireturn, 1) := by decide +kernel
set_option maxRecDepth 20000 in
theorem ggX6_pegs_X6_allPegs : GoodIn wsX6_pegs wsX6_allPegs := goodIn_r _ [6, 7, 8, 9, 5, 10, 11, 12, 13, 14, 15, 16, 17, 18, 19, 20, 21] (by decide +kernel) (by decide +kernel)
set_option maxRecDepth 20000 in
theorem gX6_pegs_X6_allPegs : GoodIn wsX6_pegs (wsV RX6 97 RX6 yX6_allPegs wsX6_allPegs) := goodIn_app (goodIn_of _ (by decide +kernel)) ggX6_pegs_X6_allPegs
theorem dX6_pegs_0 : decode cX6_pegs 0 = .ok (.aload_n 0, 1) := by decide +kernel
theorem dX6_pegs_1 : decode cX6_pegs 1 = .ok (.iconst 0, 1) := by decide +kernel
theorem dX6_pegs_2 : decode cX6_pegs 2 = .ok (.putfield 32, 3) := by decide +kernel
theorem dX6_pegs_5 : decode cX6_pegs 5 = .ok (.aload_n 0, 1) := by decide +kernel
theorem dX6_pegs_6 : decode cX6_pegs 6 = .ok (.invokevirtual 97, 3) := by decide +kernel
theorem dX6_pegs_9 : decode cX6_pegs 9 = .ok (.ireturn, 1) := by decide +kernel
set_option maxRecDepth 20000 in
theorem ggX6_tempoOf_X6_isBar : GoodIn wsX6_tempoOf wsX6_isBar := goodIn_r _ [5, 6, 7, 4, 8] (by decide +kernel) (by decide +kernel)
set_option maxRecDepth 20000 in
theorem gX6_tempoOf_X6_isBar : GoodIn wsX6_tempoOf (va_wsS RX6 85 yX6_isBar wsX6_isBar) := goodIn_app (goodIn_of _ (by decide +kernel)) ggX6_tempoOf_X6_isBar
set_option maxRecDepth 20000 in
theorem ggX6_tempoOf_X6_holds : GoodIn wsX6_tempoOf wsX6_holds := goodIn_r _ [12, 13, 14, 15, 16, 17, 18, 19, 20, 21, 22, 23, 24] (by decide +kernel) (by decide +kernel)
set_option maxRecDepth 20000 in
theorem gX6_tempoOf_X6_holds : GoodIn wsX6_tempoOf (wsV RX6 75 RX6 yX6_holds wsX6_holds) := goodIn_app (goodIn_of _ (by decide +kernel)) ggX6_tempoOf_X6_holds
theorem dX6_tempoOf_0 : decode cX6_tempoOf 0 = .ok (.aload_n 0, 1) := by decide +kernel
theorem dX6_tempoOf_1 : decode cX6_tempoOf 1 = .ok (.iload_n 1, 1) := by decide +kernel
theorem dX6_tempoOf_2 : decode cX6_tempoOf 2 = .ok (.invokestatic 85, 3) := by decide +kernel
theorem dX6_tempoOf_5 : decode cX6_tempoOf 5 = .ok (.ifCond .eq 7, 3) := by decide +kernel
theorem dX6_tempoOf_8 : decode cX6_tempoOf 8 = .ok (.iconst 0, 1) := by decide +kernel
theorem dX6_tempoOf_9 : decode cX6_tempoOf 9 = .ok (.goto 4, 3) := by decide +kernel
theorem dX6_tempoOf_12 : decode cX6_tempoOf 12 = .ok (.iconst 1, 1) := by decide +kernel
theorem dX6_tempoOf_13 : decode cX6_tempoOf 13 = .ok (.invokevirtual 75, 3) := by decide +kernel
theorem dX6_tempoOf_16 : decode cX6_tempoOf 16 = .ok (.ifCond .eq 15, 3) := by decide +kernel
theorem dX6_tempoOf_19 : decode cX6_tempoOf 19 = .ok (.aload_n 0, 1) := by decide +kernel
theorem dX6_tempoOf_20 : decode cX6_tempoOf 20 = .ok (.getfield 7, 3) := by decide +kernel
theorem dX6_tempoOf_23 : decode cX6_tempoOf 23 = .ok (.bipush 32, 2) := by decide +kernel
theorem dX6_tempoOf_25 : decode cX6_tempoOf 25 = .ok (.iload_n 1, 1) := by decide +kernel
theorem dX6_tempoOf_26 : decode cX6_tempoOf 26 = .ok (.iadd, 1) := by decide +kernel
theorem dX6_tempoOf_27 : decode cX6_tempoOf 27 = .ok (.iaload, 1) := by decide +kernel
theorem dX6_tempoOf_28 : decode cX6_tempoOf 28 = .ok (.goto 4, 3) := by decide +kernel
theorem dX6_tempoOf_31 : decode cX6_tempoOf 31 = .ok (.iconst 0, 1) := by decide +kernel
theorem dX6_tempoOf_32 : decode cX6_tempoOf 32 = .ok (.ireturn, 1) := by decide +kernel
set_option maxRecDepth 20000 in
theorem ggX6_weightOf_X6_isBell : GoodIn wsX6_weightOf wsX6_isBell := goodIn_r _ [5, 6, 7, 4, 8] (by decide +kernel) (by decide +kernel)
set_option maxRecDepth 20000 in
theorem gX6_weightOf_X6_isBell : GoodIn wsX6_weightOf (va_wsS RX6 72 yX6_isBell wsX6_isBell) := goodIn_app (goodIn_of _ (by decide +kernel)) ggX6_weightOf_X6_isBell
set_option maxRecDepth 20000 in
theorem ggX6_weightOf_X6_holds : GoodIn wsX6_weightOf wsX6_holds := goodIn_r _ [12, 13, 14, 15, 16, 17, 18, 19, 20, 21, 22, 23, 24] (by decide +kernel) (by decide +kernel)
set_option maxRecDepth 20000 in
theorem gX6_weightOf_X6_holds : GoodIn wsX6_weightOf (wsV RX6 75 RX6 yX6_holds wsX6_holds) := goodIn_app (goodIn_of _ (by decide +kernel)) ggX6_weightOf_X6_holds
theorem dX6_weightOf_0 : decode cX6_weightOf 0 = .ok (.aload_n 0, 1) := by decide +kernel
theorem dX6_weightOf_1 : decode cX6_weightOf 1 = .ok (.iload_n 1, 1) := by decide +kernel
theorem dX6_weightOf_2 : decode cX6_weightOf 2 = .ok (.invokestatic 72, 3) := by decide +kernel
theorem dX6_weightOf_5 : decode cX6_weightOf 5 = .ok (.ifCond .eq 7, 3) := by decide +kernel
theorem dX6_weightOf_8 : decode cX6_weightOf 8 = .ok (.iconst 0, 1) := by decide +kernel
theorem dX6_weightOf_9 : decode cX6_weightOf 9 = .ok (.goto 4, 3) := by decide +kernel
theorem dX6_weightOf_12 : decode cX6_weightOf 12 = .ok (.iconst 1, 1) := by decide +kernel
theorem dX6_weightOf_13 : decode cX6_weightOf 13 = .ok (.invokevirtual 75, 3) := by decide +kernel
theorem dX6_weightOf_16 : decode cX6_weightOf 16 = .ok (.ifCond .eq 15, 3) := by decide +kernel
theorem dX6_weightOf_19 : decode cX6_weightOf 19 = .ok (.aload_n 0, 1) := by decide +kernel
theorem dX6_weightOf_20 : decode cX6_weightOf 20 = .ok (.getfield 7, 3) := by decide +kernel
theorem dX6_weightOf_23 : decode cX6_weightOf 23 = .ok (.bipush 36, 2) := by decide +kernel
theorem dX6_weightOf_25 : decode cX6_weightOf 25 = .ok (.iload_n 1, 1) := by decide +kernel
theorem dX6_weightOf_26 : decode cX6_weightOf 26 = .ok (.iadd, 1) := by decide +kernel
theorem dX6_weightOf_27 : decode cX6_weightOf 27 = .ok (.iaload, 1) := by decide +kernel
theorem dX6_weightOf_28 : decode cX6_weightOf 28 = .ok (.goto 4, 3) := by decide +kernel
theorem dX6_weightOf_31 : decode cX6_weightOf 31 = .ok (.iconst 0, 1) := by decide +kernel
theorem dX6_weightOf_32 : decode cX6_weightOf 32 = .ok (.ireturn, 1) := by decide +kernel
theorem dX6_column_0 : decode cX6_column 0 = .ok (.aload_n 0, 1) := by decide +kernel
theorem dX6_column_1 : decode cX6_column 1 = .ok (.iconst 0, 1) := by decide +kernel
theorem dX6_column_2 : decode cX6_column 2 = .ok (.putfield 32, 3) := by decide +kernel
theorem dX6_column_5 : decode cX6_column 5 = .ok (.aload_n 0, 1) := by decide +kernel
theorem dX6_column_6 : decode cX6_column 6 = .ok (.getfield 7, 3) := by decide +kernel
theorem dX6_column_9 : decode cX6_column 9 = .ok (.bipush 47, 2) := by decide +kernel
theorem dX6_column_11 : decode cX6_column 11 = .ok (.iaload, 1) := by decide +kernel
theorem dX6_column_12 : decode cX6_column 12 = .ok (.ireturn, 1) := by decide +kernel
theorem dX6_time_0 : decode cX6_time 0 = .ok (.aload_n 0, 1) := by decide +kernel
theorem dX6_time_1 : decode cX6_time 1 = .ok (.iconst 0, 1) := by decide +kernel
theorem dX6_time_2 : decode cX6_time 2 = .ok (.putfield 32, 3) := by decide +kernel
theorem dX6_time_5 : decode cX6_time 5 = .ok (.aload_n 0, 1) := by decide +kernel
theorem dX6_time_6 : decode cX6_time 6 = .ok (.getfield 7, 3) := by decide +kernel
theorem dX6_time_9 : decode cX6_time 9 = .ok (.bipush 48, 2) := by decide +kernel
theorem dX6_time_11 : decode cX6_time 11 = .ok (.iaload, 1) := by decide +kernel
theorem dX6_time_12 : decode cX6_time 12 = .ok (.ireturn, 1) := by decide +kernel
set_option maxRecDepth 20000 in
theorem ggX6_heardOf_X6_isBell : GoodIn wsX6_heardOf wsX6_isBell := goodIn_r _ [5, 6, 7, 4, 8] (by decide +kernel) (by decide +kernel)
set_option maxRecDepth 20000 in
theorem gX6_heardOf_X6_isBell : GoodIn wsX6_heardOf (va_wsS RX6 72 yX6_isBell wsX6_isBell) := goodIn_app (goodIn_of _ (by decide +kernel)) ggX6_heardOf_X6_isBell
set_option maxRecDepth 20000 in
theorem ggX6_heardOf_X6_holds : GoodIn wsX6_heardOf wsX6_holds := goodIn_r _ [12, 13, 14, 15, 16, 17, 18, 19, 20, 21, 22, 23, 24] (by decide +kernel) (by decide +kernel)
set_option maxRecDepth 20000 in
theorem gX6_heardOf_X6_holds : GoodIn wsX6_heardOf (wsV RX6 75 RX6 yX6_holds wsX6_holds) := goodIn_app (goodIn_of _ (by decide +kernel)) ggX6_heardOf_X6_holds
theorem dX6_heardOf_0 : decode cX6_heardOf 0 = .ok (.aload_n 0, 1) := by decide +kernel
theorem dX6_heardOf_1 : decode cX6_heardOf 1 = .ok (.iload_n 1, 1) := by decide +kernel
theorem dX6_heardOf_2 : decode cX6_heardOf 2 = .ok (.invokestatic 72, 3) := by decide +kernel
theorem dX6_heardOf_5 : decode cX6_heardOf 5 = .ok (.ifCond .eq 7, 3) := by decide +kernel
theorem dX6_heardOf_8 : decode cX6_heardOf 8 = .ok (.iconst 0, 1) := by decide +kernel
theorem dX6_heardOf_9 : decode cX6_heardOf 9 = .ok (.goto 4, 3) := by decide +kernel
theorem dX6_heardOf_12 : decode cX6_heardOf 12 = .ok (.iconst 1, 1) := by decide +kernel
theorem dX6_heardOf_13 : decode cX6_heardOf 13 = .ok (.invokevirtual 75, 3) := by decide +kernel
theorem dX6_heardOf_16 : decode cX6_heardOf 16 = .ok (.ifCond .eq 15, 3) := by decide +kernel
theorem dX6_heardOf_19 : decode cX6_heardOf 19 = .ok (.aload_n 0, 1) := by decide +kernel
theorem dX6_heardOf_20 : decode cX6_heardOf 20 = .ok (.getfield 7, 3) := by decide +kernel
theorem dX6_heardOf_23 : decode cX6_heardOf 23 = .ok (.bipush 49, 2) := by decide +kernel
theorem dX6_heardOf_25 : decode cX6_heardOf 25 = .ok (.iload_n 1, 1) := by decide +kernel
theorem dX6_heardOf_26 : decode cX6_heardOf 26 = .ok (.iadd, 1) := by decide +kernel
theorem dX6_heardOf_27 : decode cX6_heardOf 27 = .ok (.iaload, 1) := by decide +kernel
theorem dX6_heardOf_28 : decode cX6_heardOf 28 = .ok (.goto 4, 3) := by decide +kernel
theorem dX6_heardOf_31 : decode cX6_heardOf 31 = .ok (.iconst 0, 1) := by decide +kernel
theorem dX6_heardOf_32 : decode cX6_heardOf 32 = .ok (.ireturn, 1) := by decide +kernel
theorem dX6_heard_0 : decode cX6_heard 0 = .ok (.aload_n 0, 1) := by decide +kernel
theorem dX6_heard_1 : decode cX6_heard 1 = .ok (.iconst 0, 1) := by decide +kernel
theorem dX6_heard_2 : decode cX6_heard 2 = .ok (.putfield 32, 3) := by decide +kernel
theorem dX6_heard_5 : decode cX6_heard 5 = .ok (.iconst 0, 1) := by decide +kernel
theorem dX6_heard_6 : decode cX6_heard 6 = .ok (.istore_n 2, 1) := by decide +kernel
theorem dX6_heard_7 : decode cX6_heard 7 = .ok (.iconst 0, 1) := by decide +kernel
theorem dX6_heard_8 : decode cX6_heard 8 = .ok (.istore_n 3, 1) := by decide +kernel
theorem dX6_heard_9 : decode cX6_heard 9 = .ok (.iload_n 3, 1) := by decide +kernel
theorem dX6_heard_10 : decode cX6_heard 10 = .ok (.bipush 10, 2) := by decide +kernel
theorem dX6_heard_12 : decode cX6_heard 12 = .ok (.if_icmp .ge 21, 3) := by decide +kernel
theorem dX6_heard_15 : decode cX6_heard 15 = .ok (.iload_n 2, 1) := by decide +kernel
theorem dX6_heard_16 : decode cX6_heard 16 = .ok (.aload_n 0, 1) := by decide +kernel
theorem dX6_heard_17 : decode cX6_heard 17 = .ok (.getfield 7, 3) := by decide +kernel
theorem dX6_heard_20 : decode cX6_heard 20 = .ok (.bipush 49, 2) := by decide +kernel
theorem dX6_heard_22 : decode cX6_heard 22 = .ok (.iload_n 3, 1) := by decide +kernel
theorem dX6_heard_23 : decode cX6_heard 23 = .ok (.iadd, 1) := by decide +kernel
theorem dX6_heard_24 : decode cX6_heard 24 = .ok (.iaload, 1) := by decide +kernel
theorem dX6_heard_25 : decode cX6_heard 25 = .ok (.iadd, 1) := by decide +kernel
theorem dX6_heard_26 : decode cX6_heard 26 = .ok (.istore_n 2, 1) := by decide +kernel
theorem dX6_heard_27 : decode cX6_heard 27 = .ok (.iinc 3 1, 3) := by decide +kernel
theorem dX6_heard_30 : decode cX6_heard 30 = .ok (.goto (-21), 3) := by decide +kernel
theorem dX6_heard_33 : decode cX6_heard 33 = .ok (.iload_n 2, 1) := by decide +kernel
theorem dX6_heard_34 : decode cX6_heard 34 = .ok (.ireturn, 1) := by decide +kernel
theorem dX6_missed_0 : decode cX6_missed 0 = .ok (.aload_n 0, 1) := by decide +kernel
theorem dX6_missed_1 : decode cX6_missed 1 = .ok (.iconst 0, 1) := by decide +kernel
theorem dX6_missed_2 : decode cX6_missed 2 = .ok (.putfield 32, 3) := by decide +kernel
theorem dX6_missed_5 : decode cX6_missed 5 = .ok (.aload_n 0, 1) := by decide +kernel
theorem dX6_missed_6 : decode cX6_missed 6 = .ok (.getfield 7, 3) := by decide +kernel
theorem dX6_missed_9 : decode cX6_missed 9 = .ok (.bipush 59, 2) := by decide +kernel
theorem dX6_missed_11 : decode cX6_missed 11 = .ok (.iaload, 1) := by decide +kernel
theorem dX6_missed_12 : decode cX6_missed 12 = .ok (.ireturn, 1) := by decide +kernel
set_option maxRecDepth 20000 in
theorem ggX6_whyMissed_X6_isBell : GoodIn wsX6_whyMissed wsX6_isBell := goodIn_r _ [5, 6, 7, 4, 8] (by decide +kernel) (by decide +kernel)
set_option maxRecDepth 20000 in
theorem gX6_whyMissed_X6_isBell : GoodIn wsX6_whyMissed (va_wsS RX6 72 yX6_isBell wsX6_isBell) := goodIn_app (goodIn_of _ (by decide +kernel)) ggX6_whyMissed_X6_isBell
set_option maxRecDepth 20000 in
theorem ggX6_whyMissed_X6_holds : GoodIn wsX6_whyMissed wsX6_holds := goodIn_r _ [12, 13, 22, 23, 24, 25, 26, 27, 28, 29, 30, 31, 32] (by decide +kernel) (by decide +kernel)
set_option maxRecDepth 20000 in
theorem gX6_whyMissed_X6_holds : GoodIn wsX6_whyMissed (wsV RX6 75 RX6 yX6_holds wsX6_holds) := goodIn_app (goodIn_of _ (by decide +kernel)) ggX6_whyMissed_X6_holds
set_option maxRecDepth 20000 in
theorem ggX6_whyMissed_X6_missedFor : GoodIn wsX6_whyMissed wsX6_missedFor := goodIn_r _ [17, 1, 18, 19, 20, 4, 21, 22, 23, 24, 25, 26, 27, 28, 29, 30, 31, 32] (by decide +kernel) (by decide +kernel)
set_option maxRecDepth 20000 in
theorem gX6_whyMissed_X6_missedFor : GoodIn wsX6_whyMissed (wsV RX6 50 RX6 yX6_missedFor wsX6_missedFor) := goodIn_app (goodIn_of _ (by decide +kernel)) ggX6_whyMissed_X6_missedFor
theorem dX6_whyMissed_0 : decode cX6_whyMissed 0 = .ok (.aload_n 0, 1) := by decide +kernel
theorem dX6_whyMissed_1 : decode cX6_whyMissed 1 = .ok (.iload_n 1, 1) := by decide +kernel
theorem dX6_whyMissed_2 : decode cX6_whyMissed 2 = .ok (.invokestatic 72, 3) := by decide +kernel
theorem dX6_whyMissed_5 : decode cX6_whyMissed 5 = .ok (.ifCond .eq 7, 3) := by decide +kernel
theorem dX6_whyMissed_8 : decode cX6_whyMissed 8 = .ok (.iconst 0, 1) := by decide +kernel
theorem dX6_whyMissed_9 : decode cX6_whyMissed 9 = .ok (.goto 4, 3) := by decide +kernel
theorem dX6_whyMissed_12 : decode cX6_whyMissed 12 = .ok (.iconst 1, 1) := by decide +kernel
theorem dX6_whyMissed_13 : decode cX6_whyMissed 13 = .ok (.invokevirtual 75, 3) := by decide +kernel
theorem dX6_whyMissed_16 : decode cX6_whyMissed 16 = .ok (.ifCond .ne 5, 3) := by decide +kernel
theorem dX6_whyMissed_19 : decode cX6_whyMissed 19 = .ok (.iconst 0, 1) := by decide +kernel
theorem dX6_whyMissed_20 : decode cX6_whyMissed 20 = .ok (.ireturn, 1) := by decide +kernel
theorem dX6_whyMissed_21 : decode cX6_whyMissed 21 = .ok (.aload_n 0, 1) := by decide +kernel
theorem dX6_whyMissed_22 : decode cX6_whyMissed 22 = .ok (.getfield 7, 3) := by decide +kernel
theorem dX6_whyMissed_25 : decode cX6_whyMissed 25 = .ok (.iconst 0, 1) := by decide +kernel
theorem dX6_whyMissed_26 : decode cX6_whyMissed 26 = .ok (.aload_n 0, 1) := by decide +kernel
theorem dX6_whyMissed_27 : decode cX6_whyMissed 27 = .ok (.getfield 7, 3) := by decide +kernel
theorem dX6_whyMissed_30 : decode cX6_whyMissed 30 = .ok (.bipush 47, 2) := by decide +kernel
theorem dX6_whyMissed_32 : decode cX6_whyMissed 32 = .ok (.iaload, 1) := by decide +kernel
theorem dX6_whyMissed_33 : decode cX6_whyMissed 33 = .ok (.iadd, 1) := by decide +kernel
theorem dX6_whyMissed_34 : decode cX6_whyMissed 34 = .ok (.iaload, 1) := by decide +kernel
theorem dX6_whyMissed_35 : decode cX6_whyMissed 35 = .ok (.istore_n 2, 1) := by decide +kernel
theorem dX6_whyMissed_36 : decode cX6_whyMissed 36 = .ok (.iload_n 2, 1) := by decide +kernel
theorem dX6_whyMissed_37 : decode cX6_whyMissed 37 = .ok (.iload_n 1, 1) := by decide +kernel
theorem dX6_whyMissed_38 : decode cX6_whyMissed 38 = .ok (.ishr, 1) := by decide +kernel
theorem dX6_whyMissed_39 : decode cX6_whyMissed 39 = .ok (.iconst 1, 1) := by decide +kernel
theorem dX6_whyMissed_40 : decode cX6_whyMissed 40 = .ok (.iand, 1) := by decide +kernel
theorem dX6_whyMissed_41 : decode cX6_whyMissed 41 = .ok (.ifCond .ne 5, 3) := by decide +kernel
theorem dX6_whyMissed_44 : decode cX6_whyMissed 44 = .ok (.iconst 3, 1) := by decide +kernel
theorem dX6_whyMissed_45 : decode cX6_whyMissed 45 = .ok (.ireturn, 1) := by decide +kernel
theorem dX6_whyMissed_46 : decode cX6_whyMissed 46 = .ok (.iconst 0, 1) := by decide +kernel
theorem dX6_whyMissed_47 : decode cX6_whyMissed 47 = .ok (.istore_n 3, 1) := by decide +kernel
theorem dX6_whyMissed_48 : decode cX6_whyMissed 48 = .ok (.iconst 0, 1) := by decide +kernel
theorem dX6_whyMissed_49 : decode cX6_whyMissed 49 = .ok (.istore 4, 2) := by decide +kernel
theorem dX6_whyMissed_51 : decode cX6_whyMissed 51 = .ok (.iload 4, 2) := by decide +kernel
theorem dX6_whyMissed_53 : decode cX6_whyMissed 53 = .ok (.iload_n 1, 1) := by decide +kernel
theorem dX6_whyMissed_54 : decode cX6_whyMissed 54 = .ok (.if_icmp .ge 69, 3) := by decide +kernel
theorem dX6_whyMissed_57 : decode cX6_whyMissed 57 = .ok (.iload_n 2, 1) := by decide +kernel
theorem dX6_whyMissed_58 : decode cX6_whyMissed 58 = .ok (.iload 4, 2) := by decide +kernel
theorem dX6_whyMissed_60 : decode cX6_whyMissed 60 = .ok (.ishr, 1) := by decide +kernel
theorem dX6_whyMissed_61 : decode cX6_whyMissed 61 = .ok (.iconst 1, 1) := by decide +kernel
theorem dX6_whyMissed_62 : decode cX6_whyMissed 62 = .ok (.iand, 1) := by decide +kernel
theorem dX6_whyMissed_63 : decode cX6_whyMissed 63 = .ok (.iconst 1, 1) := by decide +kernel
theorem dX6_whyMissed_64 : decode cX6_whyMissed 64 = .ok (.if_icmp .ne 34, 3) := by decide +kernel
theorem dX6_whyMissed_67 : decode cX6_whyMissed 67 = .ok (.aload_n 0, 1) := by decide +kernel
theorem dX6_whyMissed_68 : decode cX6_whyMissed 68 = .ok (.iload 4, 2) := by decide +kernel
theorem dX6_whyMissed_70 : decode cX6_whyMissed 70 = .ok (.iload_n 3, 1) := by decide +kernel
theorem dX6_whyMissed_71 : decode cX6_whyMissed 71 = .ok (.aload_n 0, 1) := by decide +kernel
theorem dX6_whyMissed_72 : decode cX6_whyMissed 72 = .ok (.getfield 7, 3) := by decide +kernel
theorem dX6_whyMissed_75 : decode cX6_whyMissed 75 = .ok (.bipush 60, 2) := by decide +kernel
theorem dX6_whyMissed_77 : decode cX6_whyMissed 77 = .ok (.iload 4, 2) := by decide +kernel
theorem dX6_whyMissed_79 : decode cX6_whyMissed 79 = .ok (.iadd, 1) := by decide +kernel
theorem dX6_whyMissed_80 : decode cX6_whyMissed 80 = .ok (.iaload, 1) := by decide +kernel
theorem dX6_whyMissed_81 : decode cX6_whyMissed 81 = .ok (.aload_n 0, 1) := by decide +kernel
theorem dX6_whyMissed_82 : decode cX6_whyMissed 82 = .ok (.getfield 7, 3) := by decide +kernel
theorem dX6_whyMissed_85 : decode cX6_whyMissed 85 = .ok (.bipush 46, 2) := by decide +kernel
theorem dX6_whyMissed_87 : decode cX6_whyMissed 87 = .ok (.iaload, 1) := by decide +kernel
theorem dX6_whyMissed_88 : decode cX6_whyMissed 88 = .ok (.invokevirtual 50, 3) := by decide +kernel
theorem dX6_whyMissed_91 : decode cX6_whyMissed 91 = .ok (.ifCond .ne 7, 3) := by decide +kernel
theorem dX6_whyMissed_94 : decode cX6_whyMissed 94 = .ok (.iconst 1, 1) := by decide +kernel
theorem dX6_whyMissed_95 : decode cX6_whyMissed 95 = .ok (.goto 4, 3) := by decide +kernel
theorem dX6_whyMissed_98 : decode cX6_whyMissed 98 = .ok (.iconst 0, 1) := by decide +kernel
theorem dX6_whyMissed_99 : decode cX6_whyMissed 99 = .ok (.istore 5, 2) := by decide +kernel
theorem dX6_whyMissed_101 : decode cX6_whyMissed 101 = .ok (.iload_n 3, 1) := by decide +kernel
theorem dX6_whyMissed_102 : decode cX6_whyMissed 102 = .ok (.iload 5, 2) := by decide +kernel
theorem dX6_whyMissed_104 : decode cX6_whyMissed 104 = .ok (.ifCond .eq 10, 3) := by decide +kernel
theorem dX6_whyMissed_107 : decode cX6_whyMissed 107 = .ok (.iconst 1, 1) := by decide +kernel
theorem dX6_whyMissed_108 : decode cX6_whyMissed 108 = .ok (.iload 4, 2) := by decide +kernel
theorem dX6_whyMissed_110 : decode cX6_whyMissed 110 = .ok (.ishl, 1) := by decide +kernel
theorem dX6_whyMissed_111 : decode cX6_whyMissed 111 = .ok (.goto 4, 3) := by decide +kernel
theorem dX6_whyMissed_114 : decode cX6_whyMissed 114 = .ok (.iconst 0, 1) := by decide +kernel
theorem dX6_whyMissed_115 : decode cX6_whyMissed 115 = .ok (.ior, 1) := by decide +kernel
theorem dX6_whyMissed_116 : decode cX6_whyMissed 116 = .ok (.istore_n 3, 1) := by decide +kernel
theorem dX6_whyMissed_117 : decode cX6_whyMissed 117 = .ok (.iinc 4 1, 3) := by decide +kernel
theorem dX6_whyMissed_120 : decode cX6_whyMissed 120 = .ok (.goto (-69), 3) := by decide +kernel
theorem dX6_whyMissed_123 : decode cX6_whyMissed 123 = .ok (.aload_n 0, 1) := by decide +kernel
theorem dX6_whyMissed_124 : decode cX6_whyMissed 124 = .ok (.iload_n 1, 1) := by decide +kernel
theorem dX6_whyMissed_125 : decode cX6_whyMissed 125 = .ok (.iload_n 3, 1) := by decide +kernel
theorem dX6_whyMissed_126 : decode cX6_whyMissed 126 = .ok (.aload_n 0, 1) := by decide +kernel
theorem dX6_whyMissed_127 : decode cX6_whyMissed 127 = .ok (.getfield 7, 3) := by decide +kernel
theorem dX6_whyMissed_130 : decode cX6_whyMissed 130 = .ok (.bipush 60, 2) := by decide +kernel
theorem dX6_whyMissed_132 : decode cX6_whyMissed 132 = .ok (.iload_n 1, 1) := by decide +kernel
theorem dX6_whyMissed_133 : decode cX6_whyMissed 133 = .ok (.iadd, 1) := by decide +kernel
theorem dX6_whyMissed_134 : decode cX6_whyMissed 134 = .ok (.iaload, 1) := by decide +kernel
theorem dX6_whyMissed_135 : decode cX6_whyMissed 135 = .ok (.aload_n 0, 1) := by decide +kernel
theorem dX6_whyMissed_136 : decode cX6_whyMissed 136 = .ok (.getfield 7, 3) := by decide +kernel
theorem dX6_whyMissed_139 : decode cX6_whyMissed 139 = .ok (.bipush 46, 2) := by decide +kernel
theorem dX6_whyMissed_141 : decode cX6_whyMissed 141 = .ok (.iaload, 1) := by decide +kernel
theorem dX6_whyMissed_142 : decode cX6_whyMissed 142 = .ok (.invokevirtual 50, 3) := by decide +kernel
theorem dX6_whyMissed_145 : decode cX6_whyMissed 145 = .ok (.ireturn, 1) := by decide +kernel
set_option maxRecDepth 20000 in
theorem ggX6_inRound_X6_isColumn : GoodIn wsX6_inRound wsX6_isColumn := goodIn_r _ [6, 7, 8, 5, 9] (by decide +kernel) (by decide +kernel)
set_option maxRecDepth 20000 in
theorem gX6_inRound_X6_isColumn : GoodIn wsX6_inRound (va_wsS RX6 68 yX6_isColumn wsX6_isColumn) := goodIn_app (goodIn_of _ (by decide +kernel)) ggX6_inRound_X6_isColumn
set_option maxRecDepth 20000 in
theorem ggX6_inRound_X6_holds : GoodIn wsX6_inRound wsX6_holds := goodIn_r _ [13, 14, 32, 33, 34, 35, 36, 37, 38, 39, 40, 41, 42] (by decide +kernel) (by decide +kernel)
set_option maxRecDepth 20000 in
theorem gX6_inRound_X6_holds : GoodIn wsX6_inRound (wsV RX6 75 RX6 yX6_holds wsX6_holds) := goodIn_app (goodIn_of _ (by decide +kernel)) ggX6_inRound_X6_holds
set_option maxRecDepth 20000 in
theorem ggX6_inRound_X6_rounds : GoodIn wsX6_inRound wsX6_rounds := goodIn_r _ [18, 19, 20, 1, 2, 21, 22, 23, 5, 24, 25, 26, 27, 28, 29, 30, 31, 32, 33, 34, 35, 36, 37, 38, 39, 40, 41, 42] (by decide +kernel) (by decide +kernel)
set_option maxRecDepth 20000 in
theorem gX6_inRound_X6_rounds : GoodIn wsX6_inRound (wsV RX6 64 RX6 yX6_rounds wsX6_rounds) := goodIn_app (goodIn_of _ (by decide +kernel)) ggX6_inRound_X6_rounds
theorem dX6_inRound_0 : decode cX6_inRound 0 = .ok (.aload_n 0, 1) := by decide +kernel
theorem dX6_inRound_1 : decode cX6_inRound 1 = .ok (.iload_n 1, 1) := by decide +kernel
theorem dX6_inRound_2 : decode cX6_inRound 2 = .ok (.invokestatic 68, 3) := by decide +kernel
theorem dX6_inRound_5 : decode cX6_inRound 5 = .ok (.ifCond .eq 7, 3) := by decide +kernel
theorem dX6_inRound_8 : decode cX6_inRound 8 = .ok (.iconst 0, 1) := by decide +kernel
theorem dX6_inRound_9 : decode cX6_inRound 9 = .ok (.goto 4, 3) := by decide +kernel
theorem dX6_inRound_12 : decode cX6_inRound 12 = .ok (.iconst 1, 1) := by decide +kernel
theorem dX6_inRound_13 : decode cX6_inRound 13 = .ok (.invokevirtual 75, 3) := by decide +kernel
theorem dX6_inRound_16 : decode cX6_inRound 16 = .ok (.ifCond .ne 5, 3) := by decide +kernel
theorem dX6_inRound_19 : decode cX6_inRound 19 = .ok (.iconst 0, 1) := by decide +kernel
theorem dX6_inRound_20 : decode cX6_inRound 20 = .ok (.ireturn, 1) := by decide +kernel
theorem dX6_inRound_21 : decode cX6_inRound 21 = .ok (.aload_n 0, 1) := by decide +kernel
theorem dX6_inRound_22 : decode cX6_inRound 22 = .ok (.aload_n 0, 1) := by decide +kernel
theorem dX6_inRound_23 : decode cX6_inRound 23 = .ok (.getfield 7, 3) := by decide +kernel
theorem dX6_inRound_26 : decode cX6_inRound 26 = .ok (.bipush 46, 2) := by decide +kernel
theorem dX6_inRound_28 : decode cX6_inRound 28 = .ok (.iaload, 1) := by decide +kernel
theorem dX6_inRound_29 : decode cX6_inRound 29 = .ok (.invokevirtual 64, 3) := by decide +kernel
theorem dX6_inRound_32 : decode cX6_inRound 32 = .ok (.aload_n 0, 1) := by decide +kernel
theorem dX6_inRound_33 : decode cX6_inRound 33 = .ok (.getfield 29, 3) := by decide +kernel
theorem dX6_inRound_36 : decode cX6_inRound 36 = .ok (.iload_n 1, 1) := by decide +kernel
theorem dX6_inRound_37 : decode cX6_inRound 37 = .ok (.iaload, 1) := by decide +kernel
theorem dX6_inRound_38 : decode cX6_inRound 38 = .ok (.ireturn, 1) := by decide +kernel
set_option maxRecDepth 20000 in
theorem ggX6_heardInRound_X6_heardOfRound : GoodIn wsX6_heardInRound wsX6_heardOfRound := goodIn_r _ [6, 7, 8, 9, 10, 11, 5, 12, 13, 14, 15, 16, 17, 18, 19, 20, 21, 22, 23, 24, 25, 26, 27, 28, 29, 30, 31, 32, 33, 34, 35, 36, 37, 38, 39] (by decide +kernel) (by decide +kernel)
set_option maxRecDepth 20000 in
theorem gX6_heardInRound_X6_heardOfRound : GoodIn wsX6_heardInRound (wsV RX6 100 RX6 yX6_heardOfRound wsX6_heardOfRound) := goodIn_app (goodIn_of _ (by decide +kernel)) ggX6_heardInRound_X6_heardOfRound
theorem dX6_heardInRound_0 : decode cX6_heardInRound 0 = .ok (.aload_n 0, 1) := by decide +kernel
theorem dX6_heardInRound_1 : decode cX6_heardInRound 1 = .ok (.iconst 0, 1) := by decide +kernel
theorem dX6_heardInRound_2 : decode cX6_heardInRound 2 = .ok (.putfield 32, 3) := by decide +kernel
theorem dX6_heardInRound_5 : decode cX6_heardInRound 5 = .ok (.aload_n 0, 1) := by decide +kernel
theorem dX6_heardInRound_6 : decode cX6_heardInRound 6 = .ok (.invokevirtual 100, 3) := by decide +kernel
theorem dX6_heardInRound_9 : decode cX6_heardInRound 9 = .ok (.ireturn, 1) := by decide +kernel
theorem dX6_ticksOfRound_0 : decode cX6_ticksOfRound 0 = .ok (.aload_n 0, 1) := by decide +kernel
theorem dX6_ticksOfRound_1 : decode cX6_ticksOfRound 1 = .ok (.iconst 0, 1) := by decide +kernel
theorem dX6_ticksOfRound_2 : decode cX6_ticksOfRound 2 = .ok (.putfield 32, 3) := by decide +kernel
theorem dX6_ticksOfRound_5 : decode cX6_ticksOfRound 5 = .ok (.iconst 0, 1) := by decide +kernel
theorem dX6_ticksOfRound_6 : decode cX6_ticksOfRound 6 = .ok (.istore_n 2, 1) := by decide +kernel
theorem dX6_ticksOfRound_7 : decode cX6_ticksOfRound 7 = .ok (.iconst 0, 1) := by decide +kernel
theorem dX6_ticksOfRound_8 : decode cX6_ticksOfRound 8 = .ok (.istore_n 3, 1) := by decide +kernel
theorem dX6_ticksOfRound_9 : decode cX6_ticksOfRound 9 = .ok (.iload_n 3, 1) := by decide +kernel
theorem dX6_ticksOfRound_10 : decode cX6_ticksOfRound 10 = .ok (.iconst 4, 1) := by decide +kernel
theorem dX6_ticksOfRound_11 : decode cX6_ticksOfRound 11 = .ok (.if_icmp .ge 24, 3) := by decide +kernel
theorem dX6_ticksOfRound_14 : decode cX6_ticksOfRound 14 = .ok (.iload_n 2, 1) := by decide +kernel
theorem dX6_ticksOfRound_15 : decode cX6_ticksOfRound 15 = .ok (.bipush 8, 2) := by decide +kernel
theorem dX6_ticksOfRound_17 : decode cX6_ticksOfRound 17 = .ok (.aload_n 0, 1) := by decide +kernel
theorem dX6_ticksOfRound_18 : decode cX6_ticksOfRound 18 = .ok (.getfield 7, 3) := by decide +kernel
theorem dX6_ticksOfRound_21 : decode cX6_ticksOfRound 21 = .ok (.bipush 32, 2) := by decide +kernel
theorem dX6_ticksOfRound_23 : decode cX6_ticksOfRound 23 = .ok (.iload_n 3, 1) := by decide +kernel
theorem dX6_ticksOfRound_24 : decode cX6_ticksOfRound 24 = .ok (.iadd, 1) := by decide +kernel
theorem dX6_ticksOfRound_25 : decode cX6_ticksOfRound 25 = .ok (.iaload, 1) := by decide +kernel
theorem dX6_ticksOfRound_26 : decode cX6_ticksOfRound 26 = .ok (.imul, 1) := by decide +kernel
theorem dX6_ticksOfRound_27 : decode cX6_ticksOfRound 27 = .ok (.iadd, 1) := by decide +kernel
theorem dX6_ticksOfRound_28 : decode cX6_ticksOfRound 28 = .ok (.istore_n 2, 1) := by decide +kernel
theorem dX6_ticksOfRound_29 : decode cX6_ticksOfRound 29 = .ok (.iinc 3 1, 3) := by decide +kernel
theorem dX6_ticksOfRound_32 : decode cX6_ticksOfRound 32 = .ok (.goto (-23), 3) := by decide +kernel
theorem dX6_ticksOfRound_35 : decode cX6_ticksOfRound 35 = .ok (.iload_n 2, 1) := by decide +kernel
theorem dX6_ticksOfRound_36 : decode cX6_ticksOfRound 36 = .ok (.ireturn, 1) := by decide +kernel
set_option maxRecDepth 20000 in
theorem ggX6_missedInRound_X6_allPegs : GoodIn wsX6_missedInRound wsX6_allPegs := goodIn_r _ [6, 7, 8, 9, 5, 10, 33, 34, 35, 36, 37, 38, 39, 40, 41, 42, 43] (by decide +kernel) (by decide +kernel)
set_option maxRecDepth 20000 in
theorem gX6_missedInRound_X6_allPegs : GoodIn wsX6_missedInRound (wsV RX6 97 RX6 yX6_allPegs wsX6_allPegs) := goodIn_app (goodIn_of _ (by decide +kernel)) ggX6_missedInRound_X6_allPegs
set_option maxRecDepth 20000 in
theorem ggX6_missedInRound_X6_heardOfRound : GoodIn wsX6_missedInRound wsX6_heardOfRound := goodIn_r _ [14, 7, 15, 16, 17, 18, 5, 19, 20, 21, 22, 23, 24, 25, 26, 27, 28, 29, 30, 31, 32, 8, 9, 10, 33, 34, 35, 36, 37, 38, 39, 40, 41, 42, 43] (by decide +kernel) (by decide +kernel)
set_option maxRecDepth 20000 in
theorem gX6_missedInRound_X6_heardOfRound : GoodIn wsX6_missedInRound (wsV RX6 100 RX6 yX6_heardOfRound wsX6_heardOfRound) := goodIn_app (goodIn_of _ (by decide +kernel)) ggX6_missedInRound_X6_heardOfRound
theorem dX6_missedInRound_0 : decode cX6_missedInRound 0 = .ok (.aload_n 0, 1) := by decide +kernel
theorem dX6_missedInRound_1 : decode cX6_missedInRound 1 = .ok (.iconst 0, 1) := by decide +kernel
theorem dX6_missedInRound_2 : decode cX6_missedInRound 2 = .ok (.putfield 32, 3) := by decide +kernel
theorem dX6_missedInRound_5 : decode cX6_missedInRound 5 = .ok (.aload_n 0, 1) := by decide +kernel
theorem dX6_missedInRound_6 : decode cX6_missedInRound 6 = .ok (.invokevirtual 97, 3) := by decide +kernel
theorem dX6_missedInRound_9 : decode cX6_missedInRound 9 = .ok (.aload_n 0, 1) := by decide +kernel
theorem dX6_missedInRound_10 : decode cX6_missedInRound 10 = .ok (.invokevirtual 100, 3) := by decide +kernel
theorem dX6_missedInRound_13 : decode cX6_missedInRound 13 = .ok (.isub, 1) := by decide +kernel
theorem dX6_missedInRound_14 : decode cX6_missedInRound 14 = .ok (.ireturn, 1) := by decide +kernel
set_option maxRecDepth 20000 in
theorem ggX6_busiest_X6_rounds : GoodIn wsX6_busiest wsX6_rounds := goodIn_r _ [8, 9, 10, 2, 3, 11, 12, 13, 7, 14, 15, 16, 17, 18, 19, 20, 21, 22, 23, 24, 25, 26, 27, 28, 29, 30, 31, 32] (by decide +kernel) (by decide +kernel)
set_option maxRecDepth 20000 in
theorem gX6_busiest_X6_rounds : GoodIn wsX6_busiest (wsV RX6 64 RX6 yX6_rounds wsX6_rounds) := goodIn_app (goodIn_of _ (by decide +kernel)) ggX6_busiest_X6_rounds
theorem dX6_busiest_0 : decode cX6_busiest 0 = .ok (.aload_n 0, 1) := by decide +kernel
theorem dX6_busiest_1 : decode cX6_busiest 1 = .ok (.iconst 0, 1) := by decide +kernel
theorem dX6_busiest_2 : decode cX6_busiest 2 = .ok (.putfield 32, 3) := by decide +kernel
theorem dX6_busiest_5 : decode cX6_busiest 5 = .ok (.aload_n 0, 1) := by decide +kernel
theorem dX6_busiest_6 : decode cX6_busiest 6 = .ok (.aload_n 0, 1) := by decide +kernel
theorem dX6_busiest_7 : decode cX6_busiest 7 = .ok (.getfield 7, 3) := by decide +kernel
theorem dX6_busiest_10 : decode cX6_busiest 10 = .ok (.bipush 46, 2) := by decide +kernel
theorem dX6_busiest_12 : decode cX6_busiest 12 = .ok (.iaload, 1) := by decide +kernel
theorem dX6_busiest_13 : decode cX6_busiest 13 = .ok (.invokevirtual 64, 3) := by decide +kernel
theorem dX6_busiest_16 : decode cX6_busiest 16 = .ok (.iconst (-1), 1) := by decide +kernel
theorem dX6_busiest_17 : decode cX6_busiest 17 = .ok (.istore_n 1, 1) := by decide +kernel
theorem dX6_busiest_18 : decode cX6_busiest 18 = .ok (.iconst 0, 1) := by decide +kernel
theorem dX6_busiest_19 : decode cX6_busiest 19 = .ok (.istore_n 2, 1) := by decide +kernel
theorem dX6_busiest_20 : decode cX6_busiest 20 = .ok (.iconst 0, 1) := by decide +kernel
theorem dX6_busiest_21 : decode cX6_busiest 21 = .ok (.istore_n 3, 1) := by decide +kernel
theorem dX6_busiest_22 : decode cX6_busiest 22 = .ok (.iload_n 3, 1) := by decide +kernel
theorem dX6_busiest_23 : decode cX6_busiest 23 = .ok (.bipush 10, 2) := by decide +kernel
theorem dX6_busiest_25 : decode cX6_busiest 25 = .ok (.if_icmp .ge 69, 3) := by decide +kernel
theorem dX6_busiest_28 : decode cX6_busiest 28 = .ok (.iconst 0, 1) := by decide +kernel
theorem dX6_busiest_29 : decode cX6_busiest 29 = .ok (.istore 4, 2) := by decide +kernel
theorem dX6_busiest_31 : decode cX6_busiest 31 = .ok (.iconst 0, 1) := by decide +kernel
theorem dX6_busiest_32 : decode cX6_busiest 32 = .ok (.istore 5, 2) := by decide +kernel
theorem dX6_busiest_34 : decode cX6_busiest 34 = .ok (.iload 5, 2) := by decide +kernel
theorem dX6_busiest_36 : decode cX6_busiest 36 = .ok (.bipush 32, 2) := by decide +kernel
theorem dX6_busiest_38 : decode cX6_busiest 38 = .ok (.if_icmp .ge 25, 3) := by decide +kernel
theorem dX6_busiest_41 : decode cX6_busiest 41 = .ok (.iload 4, 2) := by decide +kernel
theorem dX6_busiest_43 : decode cX6_busiest 43 = .ok (.aload_n 0, 1) := by decide +kernel
theorem dX6_busiest_44 : decode cX6_busiest 44 = .ok (.getfield 29, 3) := by decide +kernel
theorem dX6_busiest_47 : decode cX6_busiest 47 = .ok (.iload 5, 2) := by decide +kernel
theorem dX6_busiest_49 : decode cX6_busiest 49 = .ok (.iaload, 1) := by decide +kernel
theorem dX6_busiest_50 : decode cX6_busiest 50 = .ok (.iload_n 3, 1) := by decide +kernel
theorem dX6_busiest_51 : decode cX6_busiest 51 = .ok (.ishr, 1) := by decide +kernel
theorem dX6_busiest_52 : decode cX6_busiest 52 = .ok (.iconst 1, 1) := by decide +kernel
theorem dX6_busiest_53 : decode cX6_busiest 53 = .ok (.iand, 1) := by decide +kernel
theorem dX6_busiest_54 : decode cX6_busiest 54 = .ok (.iadd, 1) := by decide +kernel
theorem dX6_busiest_55 : decode cX6_busiest 55 = .ok (.istore 4, 2) := by decide +kernel
theorem dX6_busiest_57 : decode cX6_busiest 57 = .ok (.iinc 5 1, 3) := by decide +kernel
theorem dX6_busiest_60 : decode cX6_busiest 60 = .ok (.goto (-26), 3) := by decide +kernel
theorem dX6_busiest_63 : decode cX6_busiest 63 = .ok (.iload 4, 2) := by decide +kernel
theorem dX6_busiest_65 : decode cX6_busiest 65 = .ok (.iload_n 2, 1) := by decide +kernel
theorem dX6_busiest_66 : decode cX6_busiest 66 = .ok (.if_icmp .le 7, 3) := by decide +kernel
theorem dX6_busiest_69 : decode cX6_busiest 69 = .ok (.iload_n 3, 1) := by decide +kernel
theorem dX6_busiest_70 : decode cX6_busiest 70 = .ok (.goto 4, 3) := by decide +kernel
theorem dX6_busiest_73 : decode cX6_busiest 73 = .ok (.iload_n 1, 1) := by decide +kernel
theorem dX6_busiest_74 : decode cX6_busiest 74 = .ok (.istore_n 1, 1) := by decide +kernel
theorem dX6_busiest_75 : decode cX6_busiest 75 = .ok (.iload 4, 2) := by decide +kernel
theorem dX6_busiest_77 : decode cX6_busiest 77 = .ok (.iload_n 2, 1) := by decide +kernel
theorem dX6_busiest_78 : decode cX6_busiest 78 = .ok (.if_icmp .le 8, 3) := by decide +kernel
theorem dX6_busiest_81 : decode cX6_busiest 81 = .ok (.iload 4, 2) := by decide +kernel
theorem dX6_busiest_83 : decode cX6_busiest 83 = .ok (.goto 4, 3) := by decide +kernel
theorem dX6_busiest_86 : decode cX6_busiest 86 = .ok (.iload_n 2, 1) := by decide +kernel
theorem dX6_busiest_87 : decode cX6_busiest 87 = .ok (.istore_n 2, 1) := by decide +kernel
theorem dX6_busiest_88 : decode cX6_busiest 88 = .ok (.iinc 3 1, 3) := by decide +kernel
theorem dX6_busiest_91 : decode cX6_busiest 91 = .ok (.goto (-69), 3) := by decide +kernel
theorem dX6_busiest_94 : decode cX6_busiest 94 = .ok (.iload_n 1, 1) := by decide +kernel
theorem dX6_busiest_95 : decode cX6_busiest 95 = .ok (.ireturn, 1) := by decide +kernel
set_option maxRecDepth 20000 in
theorem ggX6_longestSilence_X6_rounds : GoodIn wsX6_longestSilence wsX6_rounds := goodIn_r _ [8, 9, 10, 2, 3, 11, 12, 13, 7, 14, 15, 16, 17, 18, 19, 20, 21, 22, 23, 24, 25, 26, 27, 28, 29, 30, 31, 32] (by decide +kernel) (by decide +kernel)
set_option maxRecDepth 20000 in
theorem gX6_longestSilence_X6_rounds : GoodIn wsX6_longestSilence (wsV RX6 64 RX6 yX6_rounds wsX6_rounds) := goodIn_app (goodIn_of _ (by decide +kernel)) ggX6_longestSilence_X6_rounds
theorem dX6_longestSilence_0 : decode cX6_longestSilence 0 = .ok (.aload_n 0, 1) := by decide +kernel
theorem dX6_longestSilence_1 : decode cX6_longestSilence 1 = .ok (.iconst 0, 1) := by decide +kernel
theorem dX6_longestSilence_2 : decode cX6_longestSilence 2 = .ok (.putfield 32, 3) := by decide +kernel
theorem dX6_longestSilence_5 : decode cX6_longestSilence 5 = .ok (.aload_n 0, 1) := by decide +kernel
theorem dX6_longestSilence_6 : decode cX6_longestSilence 6 = .ok (.aload_n 0, 1) := by decide +kernel
theorem dX6_longestSilence_7 : decode cX6_longestSilence 7 = .ok (.getfield 7, 3) := by decide +kernel
theorem dX6_longestSilence_10 : decode cX6_longestSilence 10 = .ok (.bipush 46, 2) := by decide +kernel
theorem dX6_longestSilence_12 : decode cX6_longestSilence 12 = .ok (.iaload, 1) := by decide +kernel
theorem dX6_longestSilence_13 : decode cX6_longestSilence 13 = .ok (.invokevirtual 64, 3) := by decide +kernel
theorem dX6_longestSilence_16 : decode cX6_longestSilence 16 = .ok (.iconst 0, 1) := by decide +kernel
theorem dX6_longestSilence_17 : decode cX6_longestSilence 17 = .ok (.istore_n 1, 1) := by decide +kernel
theorem dX6_longestSilence_18 : decode cX6_longestSilence 18 = .ok (.iconst 0, 1) := by decide +kernel
theorem dX6_longestSilence_19 : decode cX6_longestSilence 19 = .ok (.istore_n 2, 1) := by decide +kernel
theorem dX6_longestSilence_20 : decode cX6_longestSilence 20 = .ok (.iconst 0, 1) := by decide +kernel
theorem dX6_longestSilence_21 : decode cX6_longestSilence 21 = .ok (.istore_n 3, 1) := by decide +kernel
theorem dX6_longestSilence_22 : decode cX6_longestSilence 22 = .ok (.iload_n 3, 1) := by decide +kernel
theorem dX6_longestSilence_23 : decode cX6_longestSilence 23 = .ok (.bipush 32, 2) := by decide +kernel
theorem dX6_longestSilence_25 : decode cX6_longestSilence 25 = .ok (.if_icmp .ge 37, 3) := by decide +kernel
theorem dX6_longestSilence_28 : decode cX6_longestSilence 28 = .ok (.aload_n 0, 1) := by decide +kernel
theorem dX6_longestSilence_29 : decode cX6_longestSilence 29 = .ok (.getfield 29, 3) := by decide +kernel
theorem dX6_longestSilence_32 : decode cX6_longestSilence 32 = .ok (.iload_n 3, 1) := by decide +kernel
theorem dX6_longestSilence_33 : decode cX6_longestSilence 33 = .ok (.iaload, 1) := by decide +kernel
theorem dX6_longestSilence_34 : decode cX6_longestSilence 34 = .ok (.ifCond .ne 9, 3) := by decide +kernel
theorem dX6_longestSilence_37 : decode cX6_longestSilence 37 = .ok (.iload_n 2, 1) := by decide +kernel
theorem dX6_longestSilence_38 : decode cX6_longestSilence 38 = .ok (.iconst 1, 1) := by decide +kernel
theorem dX6_longestSilence_39 : decode cX6_longestSilence 39 = .ok (.iadd, 1) := by decide +kernel
theorem dX6_longestSilence_40 : decode cX6_longestSilence 40 = .ok (.goto 4, 3) := by decide +kernel
theorem dX6_longestSilence_43 : decode cX6_longestSilence 43 = .ok (.iconst 0, 1) := by decide +kernel
theorem dX6_longestSilence_44 : decode cX6_longestSilence 44 = .ok (.istore_n 2, 1) := by decide +kernel
theorem dX6_longestSilence_45 : decode cX6_longestSilence 45 = .ok (.iload_n 2, 1) := by decide +kernel
theorem dX6_longestSilence_46 : decode cX6_longestSilence 46 = .ok (.iload_n 1, 1) := by decide +kernel
theorem dX6_longestSilence_47 : decode cX6_longestSilence 47 = .ok (.if_icmp .le 7, 3) := by decide +kernel
theorem dX6_longestSilence_50 : decode cX6_longestSilence 50 = .ok (.iload_n 2, 1) := by decide +kernel
theorem dX6_longestSilence_51 : decode cX6_longestSilence 51 = .ok (.goto 4, 3) := by decide +kernel
theorem dX6_longestSilence_54 : decode cX6_longestSilence 54 = .ok (.iload_n 1, 1) := by decide +kernel
theorem dX6_longestSilence_55 : decode cX6_longestSilence 55 = .ok (.istore_n 1, 1) := by decide +kernel
theorem dX6_longestSilence_56 : decode cX6_longestSilence 56 = .ok (.iinc 3 1, 3) := by decide +kernel
theorem dX6_longestSilence_59 : decode cX6_longestSilence 59 = .ok (.goto (-37), 3) := by decide +kernel
theorem dX6_longestSilence_62 : decode cX6_longestSilence 62 = .ok (.iload_n 1, 1) := by decide +kernel
theorem dX6_longestSilence_63 : decode cX6_longestSilence 63 = .ok (.ireturn, 1) := by decide +kernel
set_option maxRecDepth 20000 in
theorem ggX6_enoughBound_X6_rounds : GoodIn wsX6_enoughBound wsX6_rounds := goodIn_r _ [7, 2, 8, 9, 10, 11, 12, 13, 6, 14, 15, 16, 17, 18, 19, 20, 21, 22, 23, 24, 25, 26, 27, 28, 29, 30, 31, 32] (by decide +kernel) (by decide +kernel)
set_option maxRecDepth 20000 in
theorem gX6_enoughBound_X6_rounds : GoodIn wsX6_enoughBound (wsV RX6 64 RX6 yX6_rounds wsX6_rounds) := goodIn_app (goodIn_of _ (by decide +kernel)) ggX6_enoughBound_X6_rounds
theorem dX6_enoughBound_0 : decode cX6_enoughBound 0 = .ok (.aload_n 0, 1) := by decide +kernel
theorem dX6_enoughBound_1 : decode cX6_enoughBound 1 = .ok (.iconst 0, 1) := by decide +kernel
theorem dX6_enoughBound_2 : decode cX6_enoughBound 2 = .ok (.putfield 32, 3) := by decide +kernel
theorem dX6_enoughBound_5 : decode cX6_enoughBound 5 = .ok (.iconst 1, 1) := by decide +kernel
theorem dX6_enoughBound_6 : decode cX6_enoughBound 6 = .ok (.istore_n 1, 1) := by decide +kernel
theorem dX6_enoughBound_7 : decode cX6_enoughBound 7 = .ok (.iload_n 1, 1) := by decide +kernel
theorem dX6_enoughBound_8 : decode cX6_enoughBound 8 = .ok (.sipush 300, 3) := by decide +kernel
theorem dX6_enoughBound_11 : decode cX6_enoughBound 11 = .ok (.if_icmp .gt 23, 3) := by decide +kernel
theorem dX6_enoughBound_14 : decode cX6_enoughBound 14 = .ok (.aload_n 0, 1) := by decide +kernel
theorem dX6_enoughBound_15 : decode cX6_enoughBound 15 = .ok (.iload_n 1, 1) := by decide +kernel
theorem dX6_enoughBound_16 : decode cX6_enoughBound 16 = .ok (.invokevirtual 64, 3) := by decide +kernel
theorem dX6_enoughBound_19 : decode cX6_enoughBound 19 = .ok (.aload_n 0, 1) := by decide +kernel
theorem dX6_enoughBound_20 : decode cX6_enoughBound 20 = .ok (.getfield 61, 3) := by decide +kernel
theorem dX6_enoughBound_23 : decode cX6_enoughBound 23 = .ok (.ifCond .ne 5, 3) := by decide +kernel
theorem dX6_enoughBound_26 : decode cX6_enoughBound 26 = .ok (.iload_n 1, 1) := by decide +kernel
theorem dX6_enoughBound_27 : decode cX6_enoughBound 27 = .ok (.ireturn, 1) := by decide +kernel
theorem dX6_enoughBound_28 : decode cX6_enoughBound 28 = .ok (.iinc 1 1, 3) := by decide +kernel
theorem dX6_enoughBound_31 : decode cX6_enoughBound 31 = .ok (.goto (-24), 3) := by decide +kernel
theorem dX6_enoughBound_34 : decode cX6_enoughBound 34 = .ok (.iconst (-1), 1) := by decide +kernel
theorem dX6_enoughBound_35 : decode cX6_enoughBound 35 = .ok (.ireturn, 1) := by decide +kernel
set_option maxRecDepth 20000 in
theorem ggX6_heaviestColumn_X6_rounds : GoodIn wsX6_heaviestColumn wsX6_rounds := goodIn_r _ [8, 9, 10, 2, 3, 11, 12, 13, 7, 14, 15, 16, 17, 18, 19, 20, 21, 22, 23, 24, 25, 26, 27, 28, 29, 30, 31, 32] (by decide +kernel) (by decide +kernel)
set_option maxRecDepth 20000 in
theorem gX6_heaviestColumn_X6_rounds : GoodIn wsX6_heaviestColumn (wsV RX6 64 RX6 yX6_rounds wsX6_rounds) := goodIn_app (goodIn_of _ (by decide +kernel)) ggX6_heaviestColumn_X6_rounds
set_option maxRecDepth 20000 in
theorem ggX6_heaviestColumn_X6_weightIn : GoodIn wsX6_heaviestColumn wsX6_weightIn := goodIn_r _ [18, 2, 22, 23, 24, 25, 26, 27, 28, 29, 30, 31, 32] (by decide +kernel) (by decide +kernel)
set_option maxRecDepth 20000 in
theorem gX6_heaviestColumn_X6_weightIn : GoodIn wsX6_heaviestColumn (wsV RX6 47 RX6 yX6_weightIn wsX6_weightIn) := goodIn_app (goodIn_of _ (by decide +kernel)) ggX6_heaviestColumn_X6_weightIn
theorem dX6_heaviestColumn_0 : decode cX6_heaviestColumn 0 = .ok (.aload_n 0, 1) := by decide +kernel
theorem dX6_heaviestColumn_1 : decode cX6_heaviestColumn 1 = .ok (.iconst 0, 1) := by decide +kernel
theorem dX6_heaviestColumn_2 : decode cX6_heaviestColumn 2 = .ok (.putfield 32, 3) := by decide +kernel
theorem dX6_heaviestColumn_5 : decode cX6_heaviestColumn 5 = .ok (.aload_n 0, 1) := by decide +kernel
theorem dX6_heaviestColumn_6 : decode cX6_heaviestColumn 6 = .ok (.aload_n 0, 1) := by decide +kernel
theorem dX6_heaviestColumn_7 : decode cX6_heaviestColumn 7 = .ok (.getfield 7, 3) := by decide +kernel
theorem dX6_heaviestColumn_10 : decode cX6_heaviestColumn 10 = .ok (.bipush 46, 2) := by decide +kernel
theorem dX6_heaviestColumn_12 : decode cX6_heaviestColumn 12 = .ok (.iaload, 1) := by decide +kernel
theorem dX6_heaviestColumn_13 : decode cX6_heaviestColumn 13 = .ok (.invokevirtual 64, 3) := by decide +kernel
theorem dX6_heaviestColumn_16 : decode cX6_heaviestColumn 16 = .ok (.iconst (-1), 1) := by decide +kernel
theorem dX6_heaviestColumn_17 : decode cX6_heaviestColumn 17 = .ok (.istore_n 1, 1) := by decide +kernel
theorem dX6_heaviestColumn_18 : decode cX6_heaviestColumn 18 = .ok (.iconst 0, 1) := by decide +kernel
theorem dX6_heaviestColumn_19 : decode cX6_heaviestColumn 19 = .ok (.istore_n 2, 1) := by decide +kernel
theorem dX6_heaviestColumn_20 : decode cX6_heaviestColumn 20 = .ok (.iconst 0, 1) := by decide +kernel
theorem dX6_heaviestColumn_21 : decode cX6_heaviestColumn 21 = .ok (.istore_n 3, 1) := by decide +kernel
theorem dX6_heaviestColumn_22 : decode cX6_heaviestColumn 22 = .ok (.iload_n 3, 1) := by decide +kernel
theorem dX6_heaviestColumn_23 : decode cX6_heaviestColumn 23 = .ok (.bipush 32, 2) := by decide +kernel
theorem dX6_heaviestColumn_25 : decode cX6_heaviestColumn 25 = .ok (.if_icmp .ge 46, 3) := by decide +kernel
theorem dX6_heaviestColumn_28 : decode cX6_heaviestColumn 28 = .ok (.aload_n 0, 1) := by decide +kernel
theorem dX6_heaviestColumn_29 : decode cX6_heaviestColumn 29 = .ok (.aload_n 0, 1) := by decide +kernel
theorem dX6_heaviestColumn_30 : decode cX6_heaviestColumn 30 = .ok (.getfield 29, 3) := by decide +kernel
theorem dX6_heaviestColumn_33 : decode cX6_heaviestColumn 33 = .ok (.iload_n 3, 1) := by decide +kernel
theorem dX6_heaviestColumn_34 : decode cX6_heaviestColumn 34 = .ok (.iaload, 1) := by decide +kernel
theorem dX6_heaviestColumn_35 : decode cX6_heaviestColumn 35 = .ok (.invokevirtual 47, 3) := by decide +kernel
theorem dX6_heaviestColumn_38 : decode cX6_heaviestColumn 38 = .ok (.istore 4, 2) := by decide +kernel
theorem dX6_heaviestColumn_40 : decode cX6_heaviestColumn 40 = .ok (.iload 4, 2) := by decide +kernel
theorem dX6_heaviestColumn_42 : decode cX6_heaviestColumn 42 = .ok (.iload_n 2, 1) := by decide +kernel
theorem dX6_heaviestColumn_43 : decode cX6_heaviestColumn 43 = .ok (.if_icmp .le 7, 3) := by decide +kernel
theorem dX6_heaviestColumn_46 : decode cX6_heaviestColumn 46 = .ok (.iload_n 3, 1) := by decide +kernel
theorem dX6_heaviestColumn_47 : decode cX6_heaviestColumn 47 = .ok (.goto 4, 3) := by decide +kernel
theorem dX6_heaviestColumn_50 : decode cX6_heaviestColumn 50 = .ok (.iload_n 1, 1) := by decide +kernel
theorem dX6_heaviestColumn_51 : decode cX6_heaviestColumn 51 = .ok (.istore_n 1, 1) := by decide +kernel
theorem dX6_heaviestColumn_52 : decode cX6_heaviestColumn 52 = .ok (.iload 4, 2) := by decide +kernel
theorem dX6_heaviestColumn_54 : decode cX6_heaviestColumn 54 = .ok (.iload_n 2, 1) := by decide +kernel
theorem dX6_heaviestColumn_55 : decode cX6_heaviestColumn 55 = .ok (.if_icmp .le 8, 3) := by decide +kernel
theorem dX6_heaviestColumn_58 : decode cX6_heaviestColumn 58 = .ok (.iload 4, 2) := by decide +kernel
theorem dX6_heaviestColumn_60 : decode cX6_heaviestColumn 60 = .ok (.goto 4, 3) := by decide +kernel
theorem dX6_heaviestColumn_63 : decode cX6_heaviestColumn 63 = .ok (.iload_n 2, 1) := by decide +kernel
theorem dX6_heaviestColumn_64 : decode cX6_heaviestColumn 64 = .ok (.istore_n 2, 1) := by decide +kernel
theorem dX6_heaviestColumn_65 : decode cX6_heaviestColumn 65 = .ok (.iinc 3 1, 3) := by decide +kernel
theorem dX6_heaviestColumn_68 : decode cX6_heaviestColumn 68 = .ok (.goto (-46), 3) := by decide +kernel
theorem dX6_heaviestColumn_71 : decode cX6_heaviestColumn 71 = .ok (.iload_n 1, 1) := by decide +kernel
theorem dX6_heaviestColumn_72 : decode cX6_heaviestColumn 72 = .ok (.ireturn, 1) := by decide +kernel
set_option maxRecDepth 20000 in
theorem ggX6_put_X6_in : GoodIn wsX6_put wsX6_in := goodIn_r _ [7] (by decide +kernel) (by decide +kernel)
set_option maxRecDepth 20000 in
theorem gX6_put_X6_in : GoodIn wsX6_put (va_wsS RX6 36 yX6_in wsX6_in) := goodIn_app (goodIn_of _ (by decide +kernel)) ggX6_put_X6_in
set_option maxRecDepth 20000 in
theorem ggX6_put_X6_holds : GoodIn wsX6_put wsX6_holds := goodIn_r _ [11, 12, 13, 14, 15, 16, 17, 18, 19, 20, 21, 22, 23] (by decide +kernel) (by decide +kernel)
set_option maxRecDepth 20000 in
theorem gX6_put_X6_holds : GoodIn wsX6_put (wsV RX6 75 RX6 yX6_holds wsX6_holds) := goodIn_app (goodIn_of _ (by decide +kernel)) ggX6_put_X6_holds
theorem dX6_put_0 : decode cX6_put 0 = .ok (.iconst 0, 1) := by decide +kernel
theorem dX6_put_1 : decode cX6_put 1 = .ok (.istore_n 3, 1) := by decide +kernel
theorem dX6_put_2 : decode cX6_put 2 = .ok (.iconst 0, 1) := by decide +kernel
theorem dX6_put_3 : decode cX6_put 3 = .ok (.istore 4, 2) := by decide +kernel
theorem dX6_put_5 : decode cX6_put 5 = .ok (.iconst 0, 1) := by decide +kernel
theorem dX6_put_6 : decode cX6_put 6 = .ok (.istore 5, 2) := by decide +kernel
theorem dX6_put_8 : decode cX6_put 8 = .ok (.iload 5, 2) := by decide +kernel
theorem dX6_put_10 : decode cX6_put 10 = .ok (.bipush 8, 2) := by decide +kernel
theorem dX6_put_12 : decode cX6_put 12 = .ok (.if_icmp .ge 89, 3) := by decide +kernel
theorem dX6_put_15 : decode cX6_put 15 = .ok (.lload_n 1, 1) := by decide +kernel
theorem dX6_put_16 : decode cX6_put 16 = .ok (.bipush 8, 2) := by decide +kernel
theorem dX6_put_18 : decode cX6_put 18 = .ok (.iload 5, 2) := by decide +kernel
theorem dX6_put_20 : decode cX6_put 20 = .ok (.imul, 1) := by decide +kernel
theorem dX6_put_21 : decode cX6_put 21 = .ok (.lushr, 1) := by decide +kernel
theorem dX6_put_22 : decode cX6_put 22 = .ok (.ldc2_w 103, 3) := by decide +kernel
theorem dX6_put_25 : decode cX6_put 25 = .ok (.land, 1) := by decide +kernel
theorem dX6_put_26 : decode cX6_put 26 = .ok (.l2i, 1) := by decide +kernel
theorem dX6_put_27 : decode cX6_put 27 = .ok (.istore 6, 2) := by decide +kernel
theorem dX6_put_29 : decode cX6_put 29 = .ok (.iload 5, 2) := by decide +kernel
theorem dX6_put_31 : decode cX6_put 31 = .ok (.ifCond .le 19, 3) := by decide +kernel
theorem dX6_put_34 : decode cX6_put 34 = .ok (.lload_n 1, 1) := by decide +kernel
theorem dX6_put_35 : decode cX6_put 35 = .ok (.bipush 8, 2) := by decide +kernel
theorem dX6_put_37 : decode cX6_put 37 = .ok (.iload 5, 2) := by decide +kernel
theorem dX6_put_39 : decode cX6_put 39 = .ok (.imul, 1) := by decide +kernel
theorem dX6_put_40 : decode cX6_put 40 = .ok (.lushr, 1) := by decide +kernel
theorem dX6_put_41 : decode cX6_put 41 = .ok (.lconst 0, 1) := by decide +kernel
theorem dX6_put_42 : decode cX6_put 42 = .ok (.lcmp, 1) := by decide +kernel
theorem dX6_put_43 : decode cX6_put 43 = .ok (.ifCond .ne 7, 3) := by decide +kernel
theorem dX6_put_46 : decode cX6_put 46 = .ok (.iconst 1, 1) := by decide +kernel
theorem dX6_put_47 : decode cX6_put 47 = .ok (.goto 4, 3) := by decide +kernel
theorem dX6_put_50 : decode cX6_put 50 = .ok (.iconst 0, 1) := by decide +kernel
theorem dX6_put_51 : decode cX6_put 51 = .ok (.istore 7, 2) := by decide +kernel
theorem dX6_put_53 : decode cX6_put 53 = .ok (.iload 4, 2) := by decide +kernel
theorem dX6_put_55 : decode cX6_put 55 = .ok (.ifCond .ne 20, 3) := by decide +kernel
theorem dX6_put_58 : decode cX6_put 58 = .ok (.iload 7, 2) := by decide +kernel
theorem dX6_put_60 : decode cX6_put 60 = .ok (.ifCond .ne 19, 3) := by decide +kernel
theorem dX6_put_63 : decode cX6_put 63 = .ok (.iload 6, 2) := by decide +kernel
theorem dX6_put_65 : decode cX6_put 65 = .ok (.bipush 33, 2) := by decide +kernel
theorem dX6_put_67 : decode cX6_put 67 = .ok (.bipush 126, 2) := by decide +kernel
theorem dX6_put_69 : decode cX6_put 69 = .ok (.invokestatic 36, 3) := by decide +kernel
theorem dX6_put_72 : decode cX6_put 72 = .ok (.ifCond .ne 7, 3) := by decide +kernel
theorem dX6_put_75 : decode cX6_put 75 = .ok (.iconst 1, 1) := by decide +kernel
theorem dX6_put_76 : decode cX6_put 76 = .ok (.goto 4, 3) := by decide +kernel
theorem dX6_put_79 : decode cX6_put 79 = .ok (.iconst 0, 1) := by decide +kernel
theorem dX6_put_80 : decode cX6_put 80 = .ok (.istore 4, 2) := by decide +kernel
theorem dX6_put_82 : decode cX6_put 82 = .ok (.iload_n 3, 1) := by decide +kernel
theorem dX6_put_83 : decode cX6_put 83 = .ok (.iload 7, 2) := by decide +kernel
theorem dX6_put_85 : decode cX6_put 85 = .ok (.ifCond .eq 7, 3) := by decide +kernel
theorem dX6_put_88 : decode cX6_put 88 = .ok (.iconst 0, 1) := by decide +kernel
theorem dX6_put_89 : decode cX6_put 89 = .ok (.goto 4, 3) := by decide +kernel
theorem dX6_put_92 : decode cX6_put 92 = .ok (.iconst 1, 1) := by decide +kernel
theorem dX6_put_93 : decode cX6_put 93 = .ok (.iadd, 1) := by decide +kernel
theorem dX6_put_94 : decode cX6_put 94 = .ok (.istore_n 3, 1) := by decide +kernel
theorem dX6_put_95 : decode cX6_put 95 = .ok (.iinc 5 1, 3) := by decide +kernel
theorem dX6_put_98 : decode cX6_put 98 = .ok (.goto (-90), 3) := by decide +kernel
theorem dX6_put_101 : decode cX6_put 101 = .ok (.aload_n 0, 1) := by decide +kernel
theorem dX6_put_102 : decode cX6_put 102 = .ok (.iload 4, 2) := by decide +kernel
theorem dX6_put_104 : decode cX6_put 104 = .ok (.ifCond .eq 7, 3) := by decide +kernel
theorem dX6_put_107 : decode cX6_put 107 = .ok (.iconst 1, 1) := by decide +kernel
theorem dX6_put_108 : decode cX6_put 108 = .ok (.goto 19, 3) := by decide +kernel
theorem dX6_put_111 : decode cX6_put 111 = .ok (.aload_n 0, 1) := by decide +kernel
theorem dX6_put_112 : decode cX6_put 112 = .ok (.getfield 105, 3) := by decide +kernel
theorem dX6_put_115 : decode cX6_put 115 = .ok (.iload_n 3, 1) := by decide +kernel
theorem dX6_put_116 : decode cX6_put 116 = .ok (.iadd, 1) := by decide +kernel
theorem dX6_put_117 : decode cX6_put 117 = .ok (.bipush 60, 2) := by decide +kernel
theorem dX6_put_119 : decode cX6_put 119 = .ok (.if_icmp .le 7, 3) := by decide +kernel
theorem dX6_put_122 : decode cX6_put 122 = .ok (.iconst 2, 1) := by decide +kernel
theorem dX6_put_123 : decode cX6_put 123 = .ok (.goto 4, 3) := by decide +kernel
theorem dX6_put_126 : decode cX6_put 126 = .ok (.iconst 0, 1) := by decide +kernel
theorem dX6_put_127 : decode cX6_put 127 = .ok (.invokevirtual 75, 3) := by decide +kernel
theorem dX6_put_130 : decode cX6_put 130 = .ok (.ifCond .ne 5, 3) := by decide +kernel
theorem dX6_put_133 : decode cX6_put 133 = .ok (.iconst 0, 1) := by decide +kernel
theorem dX6_put_134 : decode cX6_put 134 = .ok (.ireturn, 1) := by decide +kernel
theorem dX6_put_135 : decode cX6_put 135 = .ok (.iconst 0, 1) := by decide +kernel
theorem dX6_put_136 : decode cX6_put 136 = .ok (.istore 5, 2) := by decide +kernel
theorem dX6_put_138 : decode cX6_put 138 = .ok (.iload 5, 2) := by decide +kernel
theorem dX6_put_140 : decode cX6_put 140 = .ok (.iload_n 3, 1) := by decide +kernel
theorem dX6_put_141 : decode cX6_put 141 = .ok (.if_icmp .ge 37, 3) := by decide +kernel
theorem dX6_put_144 : decode cX6_put 144 = .ok (.aload_n 0, 1) := by decide +kernel
theorem dX6_put_145 : decode cX6_put 145 = .ok (.getfield 23, 3) := by decide +kernel
theorem dX6_put_148 : decode cX6_put 148 = .ok (.aload_n 0, 1) := by decide +kernel
theorem dX6_put_149 : decode cX6_put 149 = .ok (.getfield 105, 3) := by decide +kernel
theorem dX6_put_152 : decode cX6_put 152 = .ok (.iload_n 3, 1) := by decide +kernel
theorem dX6_put_153 : decode cX6_put 153 = .ok (.iadd, 1) := by decide +kernel
theorem dX6_put_154 : decode cX6_put 154 = .ok (.iconst 1, 1) := by decide +kernel
theorem dX6_put_155 : decode cX6_put 155 = .ok (.isub, 1) := by decide +kernel
theorem dX6_put_156 : decode cX6_put 156 = .ok (.iload 5, 2) := by decide +kernel
theorem dX6_put_158 : decode cX6_put 158 = .ok (.isub, 1) := by decide +kernel
theorem dX6_put_159 : decode cX6_put 159 = .ok (.lload_n 1, 1) := by decide +kernel
theorem dX6_put_160 : decode cX6_put 160 = .ok (.bipush 8, 2) := by decide +kernel
theorem dX6_put_162 : decode cX6_put 162 = .ok (.iload 5, 2) := by decide +kernel
theorem dX6_put_164 : decode cX6_put 164 = .ok (.imul, 1) := by decide +kernel
theorem dX6_put_165 : decode cX6_put 165 = .ok (.lushr, 1) := by decide +kernel
theorem dX6_put_166 : decode cX6_put 166 = .ok (.ldc2_w 103, 3) := by decide +kernel
theorem dX6_put_169 : decode cX6_put 169 = .ok (.land, 1) := by decide +kernel
theorem dX6_put_170 : decode cX6_put 170 = .ok (.l2i, 1) := by decide +kernel
theorem dX6_put_171 : decode cX6_put 171 = .ok (.iastore, 1) := by decide +kernel
theorem dX6_put_172 : decode cX6_put 172 = .ok (.iinc 5 1, 3) := by decide +kernel
theorem dX6_put_175 : decode cX6_put 175 = .ok (.goto (-37), 3) := by decide +kernel
theorem dX6_put_178 : decode cX6_put 178 = .ok (.aload_n 0, 1) := by decide +kernel
theorem dX6_put_179 : decode cX6_put 179 = .ok (.dup, 1) := by decide +kernel
theorem dX6_put_180 : decode cX6_put 180 = .ok (.getfield 105, 3) := by decide +kernel
theorem dX6_put_183 : decode cX6_put 183 = .ok (.iload_n 3, 1) := by decide +kernel
theorem dX6_put_184 : decode cX6_put 184 = .ok (.iadd, 1) := by decide +kernel
theorem dX6_put_185 : decode cX6_put 185 = .ok (.putfield 105, 3) := by decide +kernel
theorem dX6_put_188 : decode cX6_put 188 = .ok (.aload_n 0, 1) := by decide +kernel
theorem dX6_put_189 : decode cX6_put 189 = .ok (.getfield 105, 3) := by decide +kernel
theorem dX6_put_192 : decode cX6_put 192 = .ok (.ireturn, 1) := by decide +kernel
theorem dX6_wipe_0 : decode cX6_wipe 0 = .ok (.aload_n 0, 1) := by decide +kernel
theorem dX6_wipe_1 : decode cX6_wipe 1 = .ok (.iconst 0, 1) := by decide +kernel
theorem dX6_wipe_2 : decode cX6_wipe 2 = .ok (.putfield 32, 3) := by decide +kernel
theorem dX6_wipe_5 : decode cX6_wipe 5 = .ok (.aload_n 0, 1) := by decide +kernel
theorem dX6_wipe_6 : decode cX6_wipe 6 = .ok (.getfield 105, 3) := by decide +kernel
theorem dX6_wipe_9 : decode cX6_wipe 9 = .ok (.istore_n 1, 1) := by decide +kernel
theorem dX6_wipe_10 : decode cX6_wipe 10 = .ok (.aload_n 0, 1) := by decide +kernel
theorem dX6_wipe_11 : decode cX6_wipe 11 = .ok (.iconst 0, 1) := by decide +kernel
theorem dX6_wipe_12 : decode cX6_wipe 12 = .ok (.putfield 105, 3) := by decide +kernel
theorem dX6_wipe_15 : decode cX6_wipe 15 = .ok (.iload_n 1, 1) := by decide +kernel
theorem dX6_wipe_16 : decode cX6_wipe 16 = .ok (.ireturn, 1) := by decide +kernel
theorem dX6_padLength_0 : decode cX6_padLength 0 = .ok (.aload_n 0, 1) := by decide +kernel
theorem dX6_padLength_1 : decode cX6_padLength 1 = .ok (.iconst 0, 1) := by decide +kernel
theorem dX6_padLength_2 : decode cX6_padLength 2 = .ok (.putfield 32, 3) := by decide +kernel
theorem dX6_padLength_5 : decode cX6_padLength 5 = .ok (.aload_n 0, 1) := by decide +kernel
theorem dX6_padLength_6 : decode cX6_padLength 6 = .ok (.getfield 105, 3) := by decide +kernel
theorem dX6_padLength_9 : decode cX6_padLength 9 = .ok (.ireturn, 1) := by decide +kernel
theorem dX6_charAt_0 : decode cX6_charAt 0 = .ok (.iload_n 1, 1) := by decide +kernel
theorem dX6_charAt_1 : decode cX6_charAt 1 = .ok (.aload_n 0, 1) := by decide +kernel
theorem dX6_charAt_2 : decode cX6_charAt 2 = .ok (.getfield 105, 3) := by decide +kernel
theorem dX6_charAt_5 : decode cX6_charAt 5 = .ok (.if_icmp .ge 12, 3) := by decide +kernel
theorem dX6_charAt_8 : decode cX6_charAt 8 = .ok (.aload_n 0, 1) := by decide +kernel
theorem dX6_charAt_9 : decode cX6_charAt 9 = .ok (.getfield 23, 3) := by decide +kernel
theorem dX6_charAt_12 : decode cX6_charAt 12 = .ok (.iload_n 1, 1) := by decide +kernel
theorem dX6_charAt_13 : decode cX6_charAt 13 = .ok (.iaload, 1) := by decide +kernel
theorem dX6_charAt_14 : decode cX6_charAt 14 = .ok (.goto 4, 3) := by decide +kernel
theorem dX6_charAt_17 : decode cX6_charAt 17 = .ok (.iconst 0, 1) := by decide +kernel
theorem dX6_charAt_18 : decode cX6_charAt 18 = .ok (.ireturn, 1) := by decide +kernel
set_option maxRecDepth 20000 in
theorem ggX6_isDigit_X6_charAt : GoodIn wsX6_isDigit wsX6_charAt := goodIn_r _ [5, 6, 7, 11, 12, 13, 14, 15, 16, 17, 18, 19, 20, 21] (by decide +kernel) (by decide +kernel)
set_option maxRecDepth 20000 in
theorem gX6_isDigit_X6_charAt : GoodIn wsX6_isDigit (wsV RX6 108 RX6 yX6_charAt wsX6_charAt) := goodIn_app (goodIn_of _ (by decide +kernel)) ggX6_isDigit_X6_charAt
set_option maxRecDepth 20000 in
theorem ggX6_isDigit_X6_in : GoodIn wsX6_isDigit wsX6_in := goodIn_r _ [10] (by decide +kernel) (by decide +kernel)
set_option maxRecDepth 20000 in
theorem gX6_isDigit_X6_in : GoodIn wsX6_isDigit (va_wsS RX6 36 yX6_in wsX6_in) := goodIn_app (goodIn_of _ (by decide +kernel)) ggX6_isDigit_X6_in
theorem dX6_isDigit_0 : decode cX6_isDigit 0 = .ok (.aload_n 0, 1) := by decide +kernel
theorem dX6_isDigit_1 : decode cX6_isDigit 1 = .ok (.iload_n 1, 1) := by decide +kernel
theorem dX6_isDigit_2 : decode cX6_isDigit 2 = .ok (.invokevirtual 108, 3) := by decide +kernel
theorem dX6_isDigit_5 : decode cX6_isDigit 5 = .ok (.bipush 48, 2) := by decide +kernel
theorem dX6_isDigit_7 : decode cX6_isDigit 7 = .ok (.bipush 57, 2) := by decide +kernel
theorem dX6_isDigit_9 : decode cX6_isDigit 9 = .ok (.invokestatic 36, 3) := by decide +kernel
theorem dX6_isDigit_12 : decode cX6_isDigit 12 = .ok (.ireturn, 1) := by decide +kernel
set_option maxRecDepth 20000 in
theorem ggX6_behindColumn_X6_charAt : GoodIn wsX6_behindColumn wsX6_charAt := goodIn_r _ [5, 6, 7, 15, 16, 17, 18, 19, 20, 21, 22, 23, 24, 25] (by decide +kernel) (by decide +kernel)
set_option maxRecDepth 20000 in
theorem gX6_behindColumn_X6_charAt : GoodIn wsX6_behindColumn (wsV RX6 108 RX6 yX6_charAt wsX6_charAt) := goodIn_app (goodIn_of _ (by decide +kernel)) ggX6_behindColumn_X6_charAt
set_option maxRecDepth 20000 in
theorem ggX6_behindColumn_X6_isDigit : GoodIn wsX6_behindColumn wsX6_isDigit := goodIn_r _ [11, 1, 2, 3, 4, 5, 6, 7, 12, 13, 14, 15, 16, 17, 18, 19, 20, 21, 22, 23, 24, 25] (by decide +kernel) (by decide +kernel)
set_option maxRecDepth 20000 in
theorem gX6_behindColumn_X6_isDigit : GoodIn wsX6_behindColumn (wsV RX6 111 RX6 yX6_isDigit wsX6_isDigit) := goodIn_app (goodIn_of _ (by decide +kernel)) ggX6_behindColumn_X6_isDigit
set_option maxRecDepth 20000 in
theorem ggX6_behindColumn_X6_in : GoodIn wsX6_behindColumn wsX6_in := goodIn_r _ [14] (by decide +kernel) (by decide +kernel)
set_option maxRecDepth 20000 in
theorem gX6_behindColumn_X6_in : GoodIn wsX6_behindColumn (va_wsS RX6 36 yX6_in wsX6_in) := goodIn_app (goodIn_of _ (by decide +kernel)) ggX6_behindColumn_X6_in
theorem dX6_behindColumn_0 : decode cX6_behindColumn 0 = .ok (.bipush 10, 2) := by decide +kernel
theorem dX6_behindColumn_2 : decode cX6_behindColumn 2 = .ok (.aload_n 0, 1) := by decide +kernel
theorem dX6_behindColumn_3 : decode cX6_behindColumn 3 = .ok (.iload_n 1, 1) := by decide +kernel
theorem dX6_behindColumn_4 : decode cX6_behindColumn 4 = .ok (.invokevirtual 108, 3) := by decide +kernel
theorem dX6_behindColumn_7 : decode cX6_behindColumn 7 = .ok (.bipush 48, 2) := by decide +kernel
theorem dX6_behindColumn_9 : decode cX6_behindColumn 9 = .ok (.isub, 1) := by decide +kernel
theorem dX6_behindColumn_10 : decode cX6_behindColumn 10 = .ok (.imul, 1) := by decide +kernel
theorem dX6_behindColumn_11 : decode cX6_behindColumn 11 = .ok (.aload_n 0, 1) := by decide +kernel
theorem dX6_behindColumn_12 : decode cX6_behindColumn 12 = .ok (.iload_n 1, 1) := by decide +kernel
theorem dX6_behindColumn_13 : decode cX6_behindColumn 13 = .ok (.iconst 1, 1) := by decide +kernel
theorem dX6_behindColumn_14 : decode cX6_behindColumn 14 = .ok (.iadd, 1) := by decide +kernel
theorem dX6_behindColumn_15 : decode cX6_behindColumn 15 = .ok (.invokevirtual 108, 3) := by decide +kernel
theorem dX6_behindColumn_18 : decode cX6_behindColumn 18 = .ok (.iadd, 1) := by decide +kernel
theorem dX6_behindColumn_19 : decode cX6_behindColumn 19 = .ok (.bipush 48, 2) := by decide +kernel
theorem dX6_behindColumn_21 : decode cX6_behindColumn 21 = .ok (.isub, 1) := by decide +kernel
theorem dX6_behindColumn_22 : decode cX6_behindColumn 22 = .ok (.istore_n 2, 1) := by decide +kernel
theorem dX6_behindColumn_23 : decode cX6_behindColumn 23 = .ok (.aload_n 0, 1) := by decide +kernel
theorem dX6_behindColumn_24 : decode cX6_behindColumn 24 = .ok (.iload_n 1, 1) := by decide +kernel
theorem dX6_behindColumn_25 : decode cX6_behindColumn 25 = .ok (.iconst 1, 1) := by decide +kernel
theorem dX6_behindColumn_26 : decode cX6_behindColumn 26 = .ok (.iadd, 1) := by decide +kernel
theorem dX6_behindColumn_27 : decode cX6_behindColumn 27 = .ok (.invokevirtual 111, 3) := by decide +kernel
theorem dX6_behindColumn_30 : decode cX6_behindColumn 30 = .ok (.ifCond .eq 20, 3) := by decide +kernel
theorem dX6_behindColumn_33 : decode cX6_behindColumn 33 = .ok (.iload_n 2, 1) := by decide +kernel
theorem dX6_behindColumn_34 : decode cX6_behindColumn 34 = .ok (.bipush 10, 2) := by decide +kernel
theorem dX6_behindColumn_36 : decode cX6_behindColumn 36 = .ok (.bipush 31, 2) := by decide +kernel
theorem dX6_behindColumn_38 : decode cX6_behindColumn 38 = .ok (.invokestatic 36, 3) := by decide +kernel
theorem dX6_behindColumn_41 : decode cX6_behindColumn 41 = .ok (.ifCond .eq 9, 3) := by decide +kernel
theorem dX6_behindColumn_44 : decode cX6_behindColumn 44 = .ok (.iload_n 1, 1) := by decide +kernel
theorem dX6_behindColumn_45 : decode cX6_behindColumn 45 = .ok (.iconst 2, 1) := by decide +kernel
theorem dX6_behindColumn_46 : decode cX6_behindColumn 46 = .ok (.iadd, 1) := by decide +kernel
theorem dX6_behindColumn_47 : decode cX6_behindColumn 47 = .ok (.goto 6, 3) := by decide +kernel
theorem dX6_behindColumn_50 : decode cX6_behindColumn 50 = .ok (.iload_n 1, 1) := by decide +kernel
end
section
theorem dX6_behindColumn_51 : decode cX6_behindColumn 51 = .ok (.iconst 1, 1) := by decide +kernel
theorem dX6_behindColumn_52 : decode cX6_behindColumn 52 = .ok (.iadd, 1) := by decide +kernel
theorem dX6_behindColumn_53 : decode cX6_behindColumn 53 = .ok (.ireturn, 1) := by decide +kernel
set_option maxRecDepth 20000 in
theorem ggX6_behindPart_X6_charAt : GoodIn wsX6_behindPart wsX6_charAt := goodIn_r _ [5, 6, 7, 19, 20, 21, 22, 23, 24, 25, 26, 27, 28, 29] (by decide +kernel) (by decide +kernel)
set_option maxRecDepth 20000 in
theorem gX6_behindPart_X6_charAt : GoodIn wsX6_behindPart (wsV RX6 108 RX6 yX6_charAt wsX6_charAt) := goodIn_app (goodIn_of _ (by decide +kernel)) ggX6_behindPart_X6_charAt
set_option maxRecDepth 20000 in
theorem ggX6_behindPart_X6_in : GoodIn wsX6_behindPart wsX6_in := goodIn_r _ [10] (by decide +kernel) (by decide +kernel)
set_option maxRecDepth 20000 in
theorem gX6_behindPart_X6_in : GoodIn wsX6_behindPart (va_wsS RX6 36 yX6_in wsX6_in) := goodIn_app (goodIn_of _ (by decide +kernel)) ggX6_behindPart_X6_in
set_option maxRecDepth 20000 in
theorem ggX6_behindPart_X6_isDigit : GoodIn wsX6_behindPart wsX6_isDigit := goodIn_r _ [14, 1, 2, 3, 4, 5, 6, 7, 8, 9, 10, 19, 20, 21, 22, 23, 24, 25, 26, 27, 28, 29] (by decide +kernel) (by decide +kernel)
set_option maxRecDepth 20000 in
theorem gX6_behindPart_X6_isDigit : GoodIn wsX6_behindPart (wsV RX6 111 RX6 yX6_isDigit wsX6_isDigit) := goodIn_app (goodIn_of _ (by decide +kernel)) ggX6_behindPart_X6_isDigit
set_option maxRecDepth 20000 in
theorem ggX6_behindPart_X6_behindColumn : GoodIn wsX6_behindPart wsX6_behindColumn := goodIn_r _ [18, 1, 2, 3, 4, 5, 6, 7, 11, 12, 13, 14, 8, 9, 10, 19, 20, 21, 22, 23, 24, 25, 26, 27, 28, 29] (by decide +kernel) (by decide +kernel)
set_option maxRecDepth 20000 in
theorem gX6_behindPart_X6_behindColumn : GoodIn wsX6_behindPart (wsV RX6 114 RX6 yX6_behindColumn wsX6_behindColumn) := goodIn_app (goodIn_of _ (by decide +kernel)) ggX6_behindPart_X6_behindColumn
theorem dX6_behindPart_0 : decode cX6_behindPart 0 = .ok (.aload_n 0, 1) := by decide +kernel
theorem dX6_behindPart_1 : decode cX6_behindPart 1 = .ok (.iload_n 1, 1) := by decide +kernel
theorem dX6_behindPart_2 : decode cX6_behindPart 2 = .ok (.invokevirtual 108, 3) := by decide +kernel
theorem dX6_behindPart_5 : decode cX6_behindPart 5 = .ok (.bipush 46, 2) := by decide +kernel
theorem dX6_behindPart_7 : decode cX6_behindPart 7 = .ok (.if_icmp .ne 30, 3) := by decide +kernel
theorem dX6_behindPart_10 : decode cX6_behindPart 10 = .ok (.aload_n 0, 1) := by decide +kernel
theorem dX6_behindPart_11 : decode cX6_behindPart 11 = .ok (.iload_n 1, 1) := by decide +kernel
theorem dX6_behindPart_12 : decode cX6_behindPart 12 = .ok (.iconst 1, 1) := by decide +kernel
theorem dX6_behindPart_13 : decode cX6_behindPart 13 = .ok (.iadd, 1) := by decide +kernel
theorem dX6_behindPart_14 : decode cX6_behindPart 14 = .ok (.invokevirtual 108, 3) := by decide +kernel
theorem dX6_behindPart_17 : decode cX6_behindPart 17 = .ok (.bipush 50, 2) := by decide +kernel
theorem dX6_behindPart_19 : decode cX6_behindPart 19 = .ok (.bipush 57, 2) := by decide +kernel
theorem dX6_behindPart_21 : decode cX6_behindPart 21 = .ok (.invokestatic 36, 3) := by decide +kernel
theorem dX6_behindPart_24 : decode cX6_behindPart 24 = .ok (.ifCond .eq 9, 3) := by decide +kernel
theorem dX6_behindPart_27 : decode cX6_behindPart 27 = .ok (.iload_n 1, 1) := by decide +kernel
theorem dX6_behindPart_28 : decode cX6_behindPart 28 = .ok (.iconst 2, 1) := by decide +kernel
theorem dX6_behindPart_29 : decode cX6_behindPart 29 = .ok (.iadd, 1) := by decide +kernel
theorem dX6_behindPart_30 : decode cX6_behindPart 30 = .ok (.goto 6, 3) := by decide +kernel
theorem dX6_behindPart_33 : decode cX6_behindPart 33 = .ok (.iload_n 1, 1) := by decide +kernel
theorem dX6_behindPart_34 : decode cX6_behindPart 34 = .ok (.iconst 1, 1) := by decide +kernel
theorem dX6_behindPart_35 : decode cX6_behindPart 35 = .ok (.iadd, 1) := by decide +kernel
theorem dX6_behindPart_36 : decode cX6_behindPart 36 = .ok (.ireturn, 1) := by decide +kernel
theorem dX6_behindPart_37 : decode cX6_behindPart 37 = .ok (.aload_n 0, 1) := by decide +kernel
theorem dX6_behindPart_38 : decode cX6_behindPart 38 = .ok (.iload_n 1, 1) := by decide +kernel
theorem dX6_behindPart_39 : decode cX6_behindPart 39 = .ok (.invokevirtual 108, 3) := by decide +kernel
theorem dX6_behindPart_42 : decode cX6_behindPart 42 = .ok (.bipush 116, 2) := by decide +kernel
theorem dX6_behindPart_44 : decode cX6_behindPart 44 = .ok (.if_icmp .ne 63, 3) := by decide +kernel
theorem dX6_behindPart_47 : decode cX6_behindPart 47 = .ok (.aload_n 0, 1) := by decide +kernel
theorem dX6_behindPart_48 : decode cX6_behindPart 48 = .ok (.iload_n 1, 1) := by decide +kernel
theorem dX6_behindPart_49 : decode cX6_behindPart 49 = .ok (.iconst 1, 1) := by decide +kernel
theorem dX6_behindPart_50 : decode cX6_behindPart 50 = .ok (.iadd, 1) := by decide +kernel
theorem dX6_behindPart_51 : decode cX6_behindPart 51 = .ok (.invokevirtual 108, 3) := by decide +kernel
theorem dX6_behindPart_54 : decode cX6_behindPart 54 = .ok (.bipush 48, 2) := by decide +kernel
theorem dX6_behindPart_56 : decode cX6_behindPart 56 = .ok (.bipush 51, 2) := by decide +kernel
theorem dX6_behindPart_58 : decode cX6_behindPart 58 = .ok (.invokestatic 36, 3) := by decide +kernel
theorem dX6_behindPart_61 : decode cX6_behindPart 61 = .ok (.ifCond .ne 7, 3) := by decide +kernel
theorem dX6_behindPart_64 : decode cX6_behindPart 64 = .ok (.iconst 1, 1) := by decide +kernel
theorem dX6_behindPart_65 : decode cX6_behindPart 65 = .ok (.goto 25, 3) := by decide +kernel
theorem dX6_behindPart_68 : decode cX6_behindPart 68 = .ok (.aload_n 0, 1) := by decide +kernel
theorem dX6_behindPart_69 : decode cX6_behindPart 69 = .ok (.iload_n 1, 1) := by decide +kernel
theorem dX6_behindPart_70 : decode cX6_behindPart 70 = .ok (.iconst 2, 1) := by decide +kernel
theorem dX6_behindPart_71 : decode cX6_behindPart 71 = .ok (.iadd, 1) := by decide +kernel
theorem dX6_behindPart_72 : decode cX6_behindPart 72 = .ok (.invokevirtual 108, 3) := by decide +kernel
theorem dX6_behindPart_75 : decode cX6_behindPart 75 = .ok (.bipush 49, 2) := by decide +kernel
theorem dX6_behindPart_77 : decode cX6_behindPart 77 = .ok (.bipush 57, 2) := by decide +kernel
theorem dX6_behindPart_79 : decode cX6_behindPart 79 = .ok (.invokestatic 36, 3) := by decide +kernel
theorem dX6_behindPart_82 : decode cX6_behindPart 82 = .ok (.ifCond .eq 7, 3) := by decide +kernel
theorem dX6_behindPart_85 : decode cX6_behindPart 85 = .ok (.iconst 0, 1) := by decide +kernel
theorem dX6_behindPart_86 : decode cX6_behindPart 86 = .ok (.goto 4, 3) := by decide +kernel
theorem dX6_behindPart_89 : decode cX6_behindPart 89 = .ok (.iconst 2, 1) := by decide +kernel
theorem dX6_behindPart_90 : decode cX6_behindPart 90 = .ok (.istore_n 2, 1) := by decide +kernel
theorem dX6_behindPart_91 : decode cX6_behindPart 91 = .ok (.iload_n 2, 1) := by decide +kernel
theorem dX6_behindPart_92 : decode cX6_behindPart 92 = .ok (.ifCond .le 11, 3) := by decide +kernel
theorem dX6_behindPart_95 : decode cX6_behindPart 95 = .ok (.iconst (-1), 1) := by decide +kernel
theorem dX6_behindPart_96 : decode cX6_behindPart 96 = .ok (.iload_n 1, 1) := by decide +kernel
theorem dX6_behindPart_97 : decode cX6_behindPart 97 = .ok (.isub, 1) := by decide +kernel
theorem dX6_behindPart_98 : decode cX6_behindPart 98 = .ok (.iload_n 2, 1) := by decide +kernel
theorem dX6_behindPart_99 : decode cX6_behindPart 99 = .ok (.isub, 1) := by decide +kernel
theorem dX6_behindPart_100 : decode cX6_behindPart 100 = .ok (.goto 6, 3) := by decide +kernel
theorem dX6_behindPart_103 : decode cX6_behindPart 103 = .ok (.iload_n 1, 1) := by decide +kernel
theorem dX6_behindPart_104 : decode cX6_behindPart 104 = .ok (.iconst 3, 1) := by decide +kernel
theorem dX6_behindPart_105 : decode cX6_behindPart 105 = .ok (.iadd, 1) := by decide +kernel
theorem dX6_behindPart_106 : decode cX6_behindPart 106 = .ok (.ireturn, 1) := by decide +kernel
theorem dX6_behindPart_107 : decode cX6_behindPart 107 = .ok (.aload_n 0, 1) := by decide +kernel
theorem dX6_behindPart_108 : decode cX6_behindPart 108 = .ok (.iload_n 1, 1) := by decide +kernel
theorem dX6_behindPart_109 : decode cX6_behindPart 109 = .ok (.invokevirtual 111, 3) := by decide +kernel
theorem dX6_behindPart_112 : decode cX6_behindPart 112 = .ok (.ifCond .ne 7, 3) := by decide +kernel
theorem dX6_behindPart_115 : decode cX6_behindPart 115 = .ok (.iconst (-1), 1) := by decide +kernel
theorem dX6_behindPart_116 : decode cX6_behindPart 116 = .ok (.iload_n 1, 1) := by decide +kernel
theorem dX6_behindPart_117 : decode cX6_behindPart 117 = .ok (.isub, 1) := by decide +kernel
theorem dX6_behindPart_118 : decode cX6_behindPart 118 = .ok (.ireturn, 1) := by decide +kernel
theorem dX6_behindPart_119 : decode cX6_behindPart 119 = .ok (.aload_n 0, 1) := by decide +kernel
theorem dX6_behindPart_120 : decode cX6_behindPart 120 = .ok (.iload_n 1, 1) := by decide +kernel
theorem dX6_behindPart_121 : decode cX6_behindPart 121 = .ok (.invokevirtual 114, 3) := by decide +kernel
theorem dX6_behindPart_124 : decode cX6_behindPart 124 = .ok (.istore_n 2, 1) := by decide +kernel
theorem dX6_behindPart_125 : decode cX6_behindPart 125 = .ok (.aload_n 0, 1) := by decide +kernel
theorem dX6_behindPart_126 : decode cX6_behindPart 126 = .ok (.iload_n 2, 1) := by decide +kernel
theorem dX6_behindPart_127 : decode cX6_behindPart 127 = .ok (.invokevirtual 108, 3) := by decide +kernel
theorem dX6_behindPart_130 : decode cX6_behindPart 130 = .ok (.bipush 58, 2) := by decide +kernel
theorem dX6_behindPart_132 : decode cX6_behindPart 132 = .ok (.if_icmp .ne 13, 3) := by decide +kernel
theorem dX6_behindPart_135 : decode cX6_behindPart 135 = .ok (.aload_n 0, 1) := by decide +kernel
theorem dX6_behindPart_136 : decode cX6_behindPart 136 = .ok (.iload_n 2, 1) := by decide +kernel
theorem dX6_behindPart_137 : decode cX6_behindPart 137 = .ok (.iconst 1, 1) := by decide +kernel
theorem dX6_behindPart_138 : decode cX6_behindPart 138 = .ok (.iadd, 1) := by decide +kernel
theorem dX6_behindPart_139 : decode cX6_behindPart 139 = .ok (.invokevirtual 111, 3) := by decide +kernel
theorem dX6_behindPart_142 : decode cX6_behindPart 142 = .ok (.ifCond .ne 24, 3) := by decide +kernel
theorem dX6_behindPart_145 : decode cX6_behindPart 145 = .ok (.aload_n 0, 1) := by decide +kernel
theorem dX6_behindPart_146 : decode cX6_behindPart 146 = .ok (.iload_n 2, 1) := by decide +kernel
theorem dX6_behindPart_147 : decode cX6_behindPart 147 = .ok (.invokevirtual 108, 3) := by decide +kernel
theorem dX6_behindPart_150 : decode cX6_behindPart 150 = .ok (.bipush 58, 2) := by decide +kernel
theorem dX6_behindPart_152 : decode cX6_behindPart 152 = .ok (.if_icmp .eq 9, 3) := by decide +kernel
theorem dX6_behindPart_155 : decode cX6_behindPart 155 = .ok (.iconst (-1), 1) := by decide +kernel
theorem dX6_behindPart_156 : decode cX6_behindPart 156 = .ok (.iload_n 2, 1) := by decide +kernel
theorem dX6_behindPart_157 : decode cX6_behindPart 157 = .ok (.isub, 1) := by decide +kernel
theorem dX6_behindPart_158 : decode cX6_behindPart 158 = .ok (.goto 7, 3) := by decide +kernel
theorem dX6_behindPart_161 : decode cX6_behindPart 161 = .ok (.bipush (-2), 2) := by decide +kernel
theorem dX6_behindPart_163 : decode cX6_behindPart 163 = .ok (.iload_n 2, 1) := by decide +kernel
theorem dX6_behindPart_164 : decode cX6_behindPart 164 = .ok (.isub, 1) := by decide +kernel
theorem dX6_behindPart_165 : decode cX6_behindPart 165 = .ok (.ireturn, 1) := by decide +kernel
theorem dX6_behindPart_166 : decode cX6_behindPart 166 = .ok (.iload_n 2, 1) := by decide +kernel
theorem dX6_behindPart_167 : decode cX6_behindPart 167 = .ok (.iconst 1, 1) := by decide +kernel
theorem dX6_behindPart_168 : decode cX6_behindPart 168 = .ok (.iadd, 1) := by decide +kernel
theorem dX6_behindPart_169 : decode cX6_behindPart 169 = .ok (.istore_n 3, 1) := by decide +kernel
theorem dX6_behindPart_170 : decode cX6_behindPart 170 = .ok (.aload_n 0, 1) := by decide +kernel
theorem dX6_behindPart_171 : decode cX6_behindPart 171 = .ok (.iload_n 3, 1) := by decide +kernel
theorem dX6_behindPart_172 : decode cX6_behindPart 172 = .ok (.invokevirtual 111, 3) := by decide +kernel
theorem dX6_behindPart_175 : decode cX6_behindPart 175 = .ok (.ifCond .eq 9, 3) := by decide +kernel
theorem dX6_behindPart_178 : decode cX6_behindPart 178 = .ok (.iinc 3 1, 3) := by decide +kernel
theorem dX6_behindPart_181 : decode cX6_behindPart 181 = .ok (.goto (-11), 3) := by decide +kernel
theorem dX6_behindPart_184 : decode cX6_behindPart 184 = .ok (.iload_n 3, 1) := by decide +kernel
theorem dX6_behindPart_185 : decode cX6_behindPart 185 = .ok (.ireturn, 1) := by decide +kernel
set_option maxRecDepth 20000 in
theorem ggX6_wrong_X6_behindPart : GoodIn wsX6_wrong wsX6_behindPart := goodIn_r _ [7, 8, 9, 10, 6, 11, 1, 2, 12, 13, 14, 15, 16, 17, 18, 19, 20, 21, 22, 23, 24, 25, 26, 27, 28, 29, 30, 31, 32, 33] (by decide +kernel) (by decide +kernel)
set_option maxRecDepth 20000 in
theorem gX6_wrong_X6_behindPart : GoodIn wsX6_wrong (wsV RX6 117 RX6 yX6_behindPart wsX6_behindPart) := goodIn_app (goodIn_of _ (by decide +kernel)) ggX6_wrong_X6_behindPart
theorem dX6_wrong_0 : decode cX6_wrong 0 = .ok (.iconst 0, 1) := by decide +kernel
theorem dX6_wrong_1 : decode cX6_wrong 1 = .ok (.istore_n 1, 1) := by decide +kernel
theorem dX6_wrong_2 : decode cX6_wrong 2 = .ok (.iconst 1, 1) := by decide +kernel
theorem dX6_wrong_3 : decode cX6_wrong 3 = .ok (.istore_n 2, 1) := by decide +kernel
theorem dX6_wrong_4 : decode cX6_wrong 4 = .ok (.iload_n 2, 1) := by decide +kernel
theorem dX6_wrong_5 : decode cX6_wrong 5 = .ok (.ifCond .eq 63, 3) := by decide +kernel
theorem dX6_wrong_8 : decode cX6_wrong 8 = .ok (.aload_n 0, 1) := by decide +kernel
theorem dX6_wrong_9 : decode cX6_wrong 9 = .ok (.iload_n 1, 1) := by decide +kernel
theorem dX6_wrong_10 : decode cX6_wrong 10 = .ok (.invokevirtual 117, 3) := by decide +kernel
theorem dX6_wrong_13 : decode cX6_wrong 13 = .ok (.istore_n 1, 1) := by decide +kernel
theorem dX6_wrong_14 : decode cX6_wrong 14 = .ok (.iload_n 1, 1) := by decide +kernel
theorem dX6_wrong_15 : decode cX6_wrong 15 = .ok (.ifCond .ge 7, 3) := by decide +kernel
theorem dX6_wrong_18 : decode cX6_wrong 18 = .ok (.iconst (-1), 1) := by decide +kernel
theorem dX6_wrong_19 : decode cX6_wrong 19 = .ok (.iload_n 1, 1) := by decide +kernel
theorem dX6_wrong_20 : decode cX6_wrong 20 = .ok (.isub, 1) := by decide +kernel
theorem dX6_wrong_21 : decode cX6_wrong 21 = .ok (.ireturn, 1) := by decide +kernel
theorem dX6_wrong_22 : decode cX6_wrong 22 = .ok (.iload_n 1, 1) := by decide +kernel
theorem dX6_wrong_23 : decode cX6_wrong 23 = .ok (.aload_n 0, 1) := by decide +kernel
theorem dX6_wrong_24 : decode cX6_wrong 24 = .ok (.getfield 105, 3) := by decide +kernel
theorem dX6_wrong_27 : decode cX6_wrong 27 = .ok (.if_icmp .ge 7, 3) := by decide +kernel
theorem dX6_wrong_30 : decode cX6_wrong 30 = .ok (.iconst 1, 1) := by decide +kernel
theorem dX6_wrong_31 : decode cX6_wrong 31 = .ok (.goto 4, 3) := by decide +kernel
theorem dX6_wrong_34 : decode cX6_wrong 34 = .ok (.iconst 0, 1) := by decide +kernel
theorem dX6_wrong_35 : decode cX6_wrong 35 = .ok (.istore_n 2, 1) := by decide +kernel
theorem dX6_wrong_36 : decode cX6_wrong 36 = .ok (.iload_n 2, 1) := by decide +kernel
theorem dX6_wrong_37 : decode cX6_wrong 37 = .ok (.ifCond .eq 16, 3) := by decide +kernel
theorem dX6_wrong_40 : decode cX6_wrong 40 = .ok (.aload_n 0, 1) := by decide +kernel
theorem dX6_wrong_41 : decode cX6_wrong 41 = .ok (.getfield 23, 3) := by decide +kernel
theorem dX6_wrong_44 : decode cX6_wrong 44 = .ok (.iload_n 1, 1) := by decide +kernel
theorem dX6_wrong_45 : decode cX6_wrong 45 = .ok (.iaload, 1) := by decide +kernel
theorem dX6_wrong_46 : decode cX6_wrong 46 = .ok (.bipush 59, 2) := by decide +kernel
theorem dX6_wrong_48 : decode cX6_wrong 48 = .ok (.if_icmp .eq 5, 3) := by decide +kernel
theorem dX6_wrong_51 : decode cX6_wrong 51 = .ok (.iload_n 1, 1) := by decide +kernel
theorem dX6_wrong_52 : decode cX6_wrong 52 = .ok (.ireturn, 1) := by decide +kernel
theorem dX6_wrong_53 : decode cX6_wrong 53 = .ok (.iload_n 1, 1) := by decide +kernel
theorem dX6_wrong_54 : decode cX6_wrong 54 = .ok (.iload_n 2, 1) := by decide +kernel
theorem dX6_wrong_55 : decode cX6_wrong 55 = .ok (.ifCond .eq 7, 3) := by decide +kernel
theorem dX6_wrong_58 : decode cX6_wrong 58 = .ok (.iconst 1, 1) := by decide +kernel
theorem dX6_wrong_59 : decode cX6_wrong 59 = .ok (.goto 4, 3) := by decide +kernel
theorem dX6_wrong_62 : decode cX6_wrong 62 = .ok (.iconst 0, 1) := by decide +kernel
theorem dX6_wrong_63 : decode cX6_wrong 63 = .ok (.iadd, 1) := by decide +kernel
theorem dX6_wrong_64 : decode cX6_wrong 64 = .ok (.istore_n 1, 1) := by decide +kernel
theorem dX6_wrong_65 : decode cX6_wrong 65 = .ok (.goto (-61), 3) := by decide +kernel
theorem dX6_wrong_68 : decode cX6_wrong 68 = .ok (.iconst (-1), 1) := by decide +kernel
theorem dX6_wrong_69 : decode cX6_wrong 69 = .ok (.ireturn, 1) := by decide +kernel
set_option maxRecDepth 20000 in
theorem ggX6_fault_X6_wrong : GoodIn wsX6_fault wsX6_wrong := goodIn_r _ [6, 7, 8, 9, 10, 11, 5, 12, 13, 14, 15, 16, 17, 18, 19, 20, 21, 22, 23, 24, 25, 26, 27, 28, 29, 30, 31, 32, 33, 34, 35, 36, 37, 38] (by decide +kernel) (by decide +kernel)
set_option maxRecDepth 20000 in
theorem gX6_fault_X6_wrong : GoodIn wsX6_fault (wsV RX6 120 RX6 yX6_wrong wsX6_wrong) := goodIn_app (goodIn_of _ (by decide +kernel)) ggX6_fault_X6_wrong
theorem dX6_fault_0 : decode cX6_fault 0 = .ok (.aload_n 0, 1) := by decide +kernel
theorem dX6_fault_1 : decode cX6_fault 1 = .ok (.iconst 0, 1) := by decide +kernel
theorem dX6_fault_2 : decode cX6_fault 2 = .ok (.putfield 32, 3) := by decide +kernel
theorem dX6_fault_5 : decode cX6_fault 5 = .ok (.aload_n 0, 1) := by decide +kernel
theorem dX6_fault_6 : decode cX6_fault 6 = .ok (.invokevirtual 120, 3) := by decide +kernel
theorem dX6_fault_9 : decode cX6_fault 9 = .ok (.ireturn, 1) := by decide +kernel
set_option maxRecDepth 20000 in
theorem ggX6_does_X6_behindPart : GoodIn wsX6_does wsX6_behindPart := goodIn_r _ [6, 7, 8, 9, 5, 10, 11, 12, 13, 14, 15, 16, 17, 18, 19, 20, 21, 22, 23, 46, 47, 48, 49, 50, 51, 52, 53, 54, 55, 56] (by decide +kernel) (by decide +kernel)
set_option maxRecDepth 20000 in
theorem gX6_does_X6_behindPart : GoodIn wsX6_does (wsV RX6 117 RX6 yX6_behindPart wsX6_behindPart) := goodIn_app (goodIn_of _ (by decide +kernel)) ggX6_does_X6_behindPart
set_option maxRecDepth 20000 in
theorem ggX6_does_X6_charAt : GoodIn wsX6_does wsX6_charAt := goodIn_r _ [10, 11, 12, 46, 47, 48, 49, 50, 51, 52, 53, 54, 55, 56] (by decide +kernel) (by decide +kernel)
set_option maxRecDepth 20000 in
theorem gX6_does_X6_charAt : GoodIn wsX6_does (wsV RX6 108 RX6 yX6_charAt wsX6_charAt) := goodIn_app (goodIn_of _ (by decide +kernel)) ggX6_does_X6_charAt
set_option maxRecDepth 20000 in
theorem ggX6_does_X6_cranks : GoodIn wsX6_does wsX6_cranks := goodIn_r _ [27, 28, 29, 30, 5, 31, 1, 32, 33, 34, 35, 36, 37, 38, 39, 40, 41, 42, 43, 44, 45, 46, 47, 48, 49, 50, 51, 52, 53, 54, 55, 56] (by decide +kernel) (by decide +kernel)
set_option maxRecDepth 20000 in
theorem gX6_does_X6_cranks : GoodIn wsX6_does (wsV RX6 94 RX6 yX6_cranks wsX6_cranks) := goodIn_app (goodIn_of _ (by decide +kernel)) ggX6_does_X6_cranks
set_option maxRecDepth 20000 in
theorem ggX6_does_X6_behindColumn : GoodIn wsX6_does wsX6_behindColumn := goodIn_r _ [23, 7, 8, 9, 5, 10, 11, 12, 16, 17, 18, 19, 13, 14, 15, 46, 47, 48, 49, 50, 51, 52, 53, 54, 55, 56] (by decide +kernel) (by decide +kernel)
set_option maxRecDepth 20000 in
theorem gX6_does_X6_behindColumn : GoodIn wsX6_does (wsV RX6 114 RX6 yX6_behindColumn wsX6_behindColumn) := goodIn_app (goodIn_of _ (by decide +kernel)) ggX6_does_X6_behindColumn
theorem dX6_does_0 : decode cX6_does 0 = .ok (.aload_n 0, 1) := by decide +kernel
theorem dX6_does_1 : decode cX6_does 1 = .ok (.iload_n 1, 1) := by decide +kernel
theorem dX6_does_2 : decode cX6_does 2 = .ok (.invokevirtual 117, 3) := by decide +kernel
theorem dX6_does_5 : decode cX6_does 5 = .ok (.istore_n 2, 1) := by decide +kernel
theorem dX6_does_6 : decode cX6_does 6 = .ok (.aload_n 0, 1) := by decide +kernel
theorem dX6_does_7 : decode cX6_does 7 = .ok (.iload_n 1, 1) := by decide +kernel
theorem dX6_does_8 : decode cX6_does 8 = .ok (.invokevirtual 108, 3) := by decide +kernel
theorem dX6_does_11 : decode cX6_does 11 = .ok (.bipush 46, 2) := by decide +kernel
theorem dX6_does_13 : decode cX6_does 13 = .ok (.if_icmp .ne 29, 3) := by decide +kernel
theorem dX6_does_16 : decode cX6_does 16 = .ok (.aload_n 0, 1) := by decide +kernel
theorem dX6_does_17 : decode cX6_does 17 = .ok (.iload_n 2, 1) := by decide +kernel
theorem dX6_does_18 : decode cX6_does 18 = .ok (.iload_n 1, 1) := by decide +kernel
theorem dX6_does_19 : decode cX6_does 19 = .ok (.iconst 2, 1) := by decide +kernel
theorem dX6_does_20 : decode cX6_does 20 = .ok (.iadd, 1) := by decide +kernel
theorem dX6_does_21 : decode cX6_does 21 = .ok (.if_icmp .ne 16, 3) := by decide +kernel
theorem dX6_does_24 : decode cX6_does 24 = .ok (.aload_n 0, 1) := by decide +kernel
theorem dX6_does_25 : decode cX6_does 25 = .ok (.iload_n 1, 1) := by decide +kernel
theorem dX6_does_26 : decode cX6_does 26 = .ok (.iconst 1, 1) := by decide +kernel
theorem dX6_does_27 : decode cX6_does 27 = .ok (.iadd, 1) := by decide +kernel
theorem dX6_does_28 : decode cX6_does 28 = .ok (.invokevirtual 108, 3) := by decide +kernel
theorem dX6_does_31 : decode cX6_does 31 = .ok (.bipush 48, 2) := by decide +kernel
theorem dX6_does_33 : decode cX6_does 33 = .ok (.isub, 1) := by decide +kernel
theorem dX6_does_34 : decode cX6_does 34 = .ok (.goto 4, 3) := by decide +kernel
theorem dX6_does_37 : decode cX6_does 37 = .ok (.iconst 1, 1) := by decide +kernel
theorem dX6_does_38 : decode cX6_does 38 = .ok (.invokevirtual 94, 3) := by decide +kernel
theorem dX6_does_41 : decode cX6_does 41 = .ok (.ireturn, 1) := by decide +kernel
theorem dX6_does_42 : decode cX6_does 42 = .ok (.aload_n 0, 1) := by decide +kernel
theorem dX6_does_43 : decode cX6_does 43 = .ok (.iload_n 1, 1) := by decide +kernel
theorem dX6_does_44 : decode cX6_does 44 = .ok (.invokevirtual 108, 3) := by decide +kernel
theorem dX6_does_47 : decode cX6_does 47 = .ok (.bipush 116, 2) := by decide +kernel
theorem dX6_does_49 : decode cX6_does 49 = .ok (.if_icmp .ne 33, 3) := by decide +kernel
theorem dX6_does_52 : decode cX6_does 52 = .ok (.aload_n 0, 1) := by decide +kernel
theorem dX6_does_53 : decode cX6_does 53 = .ok (.getfield 7, 3) := by decide +kernel
theorem dX6_does_56 : decode cX6_does 56 = .ok (.bipush 32, 2) := by decide +kernel
theorem dX6_does_58 : decode cX6_does 58 = .ok (.aload_n 0, 1) := by decide +kernel
theorem dX6_does_59 : decode cX6_does 59 = .ok (.iload_n 1, 1) := by decide +kernel
theorem dX6_does_60 : decode cX6_does 60 = .ok (.iconst 1, 1) := by decide +kernel
theorem dX6_does_61 : decode cX6_does 61 = .ok (.iadd, 1) := by decide +kernel
theorem dX6_does_62 : decode cX6_does 62 = .ok (.invokevirtual 108, 3) := by decide +kernel
theorem dX6_does_65 : decode cX6_does 65 = .ok (.iadd, 1) := by decide +kernel
theorem dX6_does_66 : decode cX6_does 66 = .ok (.bipush 48, 2) := by decide +kernel
theorem dX6_does_68 : decode cX6_does 68 = .ok (.isub, 1) := by decide +kernel
theorem dX6_does_69 : decode cX6_does 69 = .ok (.aload_n 0, 1) := by decide +kernel
theorem dX6_does_70 : decode cX6_does 70 = .ok (.iload_n 1, 1) := by decide +kernel
theorem dX6_does_71 : decode cX6_does 71 = .ok (.iconst 2, 1) := by decide +kernel
theorem dX6_does_72 : decode cX6_does 72 = .ok (.iadd, 1) := by decide +kernel
theorem dX6_does_73 : decode cX6_does 73 = .ok (.invokevirtual 108, 3) := by decide +kernel
theorem dX6_does_76 : decode cX6_does 76 = .ok (.bipush 48, 2) := by decide +kernel
theorem dX6_does_78 : decode cX6_does 78 = .ok (.isub, 1) := by decide +kernel
theorem dX6_does_79 : decode cX6_does 79 = .ok (.iastore, 1) := by decide +kernel
theorem dX6_does_80 : decode cX6_does 80 = .ok (.iconst 0, 1) := by decide +kernel
theorem dX6_does_81 : decode cX6_does 81 = .ok (.ireturn, 1) := by decide +kernel
theorem dX6_does_82 : decode cX6_does 82 = .ok (.aload_n 0, 1) := by decide +kernel
theorem dX6_does_83 : decode cX6_does 83 = .ok (.iload_n 1, 1) := by decide +kernel
theorem dX6_does_84 : decode cX6_does 84 = .ok (.invokevirtual 114, 3) := by decide +kernel
theorem dX6_does_87 : decode cX6_does 87 = .ok (.istore_n 3, 1) := by decide +kernel
theorem dX6_does_88 : decode cX6_does 88 = .ok (.iload_n 3, 1) := by decide +kernel
theorem dX6_does_89 : decode cX6_does 89 = .ok (.iload_n 1, 1) := by decide +kernel
theorem dX6_does_90 : decode cX6_does 90 = .ok (.iconst 2, 1) := by decide +kernel
theorem dX6_does_91 : decode cX6_does 91 = .ok (.iadd, 1) := by decide +kernel
theorem dX6_does_92 : decode cX6_does 92 = .ok (.if_icmp .ne 28, 3) := by decide +kernel
theorem dX6_does_95 : decode cX6_does 95 = .ok (.bipush 10, 2) := by decide +kernel
theorem dX6_does_97 : decode cX6_does 97 = .ok (.aload_n 0, 1) := by decide +kernel
theorem dX6_does_98 : decode cX6_does 98 = .ok (.iload_n 1, 1) := by decide +kernel
theorem dX6_does_99 : decode cX6_does 99 = .ok (.invokevirtual 108, 3) := by decide +kernel
theorem dX6_does_102 : decode cX6_does 102 = .ok (.bipush 48, 2) := by decide +kernel
theorem dX6_does_104 : decode cX6_does 104 = .ok (.isub, 1) := by decide +kernel
theorem dX6_does_105 : decode cX6_does 105 = .ok (.imul, 1) := by decide +kernel
theorem dX6_does_106 : decode cX6_does 106 = .ok (.aload_n 0, 1) := by decide +kernel
theorem dX6_does_107 : decode cX6_does 107 = .ok (.iload_n 1, 1) := by decide +kernel
theorem dX6_does_108 : decode cX6_does 108 = .ok (.iconst 1, 1) := by decide +kernel
theorem dX6_does_109 : decode cX6_does 109 = .ok (.iadd, 1) := by decide +kernel
theorem dX6_does_110 : decode cX6_does 110 = .ok (.invokevirtual 108, 3) := by decide +kernel
theorem dX6_does_113 : decode cX6_does 113 = .ok (.iadd, 1) := by decide +kernel
theorem dX6_does_114 : decode cX6_does 114 = .ok (.bipush 48, 2) := by decide +kernel
theorem dX6_does_116 : decode cX6_does 116 = .ok (.isub, 1) := by decide +kernel
theorem dX6_does_117 : decode cX6_does 117 = .ok (.goto 11, 3) := by decide +kernel
theorem dX6_does_120 : decode cX6_does 120 = .ok (.aload_n 0, 1) := by decide +kernel
theorem dX6_does_121 : decode cX6_does 121 = .ok (.iload_n 1, 1) := by decide +kernel
theorem dX6_does_122 : decode cX6_does 122 = .ok (.invokevirtual 108, 3) := by decide +kernel
theorem dX6_does_125 : decode cX6_does 125 = .ok (.bipush 48, 2) := by decide +kernel
theorem dX6_does_127 : decode cX6_does 127 = .ok (.isub, 1) := by decide +kernel
theorem dX6_does_128 : decode cX6_does 128 = .ok (.istore 4, 2) := by decide +kernel
theorem dX6_does_130 : decode cX6_does 130 = .ok (.iload_n 3, 1) := by decide +kernel
theorem dX6_does_131 : decode cX6_does 131 = .ok (.iconst 1, 1) := by decide +kernel
theorem dX6_does_132 : decode cX6_does 132 = .ok (.iadd, 1) := by decide +kernel
theorem dX6_does_133 : decode cX6_does 133 = .ok (.istore 5, 2) := by decide +kernel
theorem dX6_does_135 : decode cX6_does 135 = .ok (.iload 5, 2) := by decide +kernel
theorem dX6_does_137 : decode cX6_does 137 = .ok (.iload_n 2, 1) := by decide +kernel
theorem dX6_does_138 : decode cX6_does 138 = .ok (.if_icmp .ge 32, 3) := by decide +kernel
theorem dX6_does_141 : decode cX6_does 141 = .ok (.aload_n 0, 1) := by decide +kernel
theorem dX6_does_142 : decode cX6_does 142 = .ok (.getfield 7, 3) := by decide +kernel
theorem dX6_does_145 : decode cX6_does 145 = .ok (.iconst 0, 1) := by decide +kernel
theorem dX6_does_146 : decode cX6_does 146 = .ok (.iload 4, 2) := by decide +kernel
theorem dX6_does_148 : decode cX6_does 148 = .ok (.iadd, 1) := by decide +kernel
theorem dX6_does_149 : decode cX6_does 149 = .ok (.dup2, 1) := by decide +kernel
theorem dX6_does_150 : decode cX6_does 150 = .ok (.iaload, 1) := by decide +kernel
theorem dX6_does_151 : decode cX6_does 151 = .ok (.iconst 1, 1) := by decide +kernel
theorem dX6_does_152 : decode cX6_does 152 = .ok (.aload_n 0, 1) := by decide +kernel
theorem dX6_does_153 : decode cX6_does 153 = .ok (.iload 5, 2) := by decide +kernel
theorem dX6_does_155 : decode cX6_does 155 = .ok (.invokevirtual 108, 3) := by decide +kernel
theorem dX6_does_158 : decode cX6_does 158 = .ok (.bipush 48, 2) := by decide +kernel
theorem dX6_does_160 : decode cX6_does 160 = .ok (.isub, 1) := by decide +kernel
theorem dX6_does_161 : decode cX6_does 161 = .ok (.ishl, 1) := by decide +kernel
theorem dX6_does_162 : decode cX6_does 162 = .ok (.ixor, 1) := by decide +kernel
theorem dX6_does_163 : decode cX6_does 163 = .ok (.iastore, 1) := by decide +kernel
theorem dX6_does_164 : decode cX6_does 164 = .ok (.iinc 5 1, 3) := by decide +kernel
theorem dX6_does_167 : decode cX6_does 167 = .ok (.goto (-32), 3) := by decide +kernel
theorem dX6_does_170 : decode cX6_does 170 = .ok (.iconst 0, 1) := by decide +kernel
theorem dX6_does_171 : decode cX6_does 171 = .ok (.ireturn, 1) := by decide +kernel
set_option maxRecDepth 20000 in
theorem ggX6_read_X6_wrong : GoodIn wsX6_read wsX6_wrong := goodIn_r _ [6, 1, 7, 8, 9, 10, 5, 11, 12, 13, 14, 15, 16, 17, 18, 19, 20, 21, 22, 23, 24, 25, 26, 65, 66, 67, 68, 69, 70, 71, 72, 73, 74, 75] (by decide +kernel) (by decide +kernel)
set_option maxRecDepth 20000 in
theorem gX6_read_X6_wrong : GoodIn wsX6_read (wsV RX6 120 RX6 yX6_wrong wsX6_wrong) := goodIn_app (goodIn_of _ (by decide +kernel)) ggX6_read_X6_wrong
set_option maxRecDepth 20000 in
theorem ggX6_read_X6_holds : GoodIn wsX6_read wsX6_holds := goodIn_r _ [30, 31, 65, 66, 67, 68, 69, 70, 71, 72, 73, 74, 75] (by decide +kernel) (by decide +kernel)
set_option maxRecDepth 20000 in
theorem gX6_read_X6_holds : GoodIn wsX6_read (wsV RX6 75 RX6 yX6_holds wsX6_holds) := goodIn_app (goodIn_of _ (by decide +kernel)) ggX6_read_X6_holds
set_option maxRecDepth 20000 in
theorem ggX6_read_X6_records : GoodIn wsX6_read wsX6_records := goodIn_r _ [35, 36, 37, 38, 65, 66, 67, 68, 69, 70, 71, 72, 73, 74, 75] (by decide +kernel) (by decide +kernel)
set_option maxRecDepth 20000 in
theorem gX6_read_X6_records : GoodIn wsX6_read (wsV RX6 78 RX6 yX6_records wsX6_records) := goodIn_app (goodIn_of _ (by decide +kernel)) ggX6_read_X6_records
set_option maxRecDepth 20000 in
theorem ggX6_read_X6_does : GoodIn wsX6_read wsX6_does := goodIn_r _ [42, 38, 8, 9, 10, 5, 11, 12, 13, 14, 15, 1, 7, 16, 17, 18, 19, 20, 21, 22, 23, 24, 25, 26, 43, 44, 45, 46, 47, 48, 49, 50, 51, 52, 53, 54, 55, 56, 57, 58, 59, 60, 61, 62, 63, 64, 65, 66, 67, 68, 69, 70, 71, 72, 73, 74, 75] (by decide +kernel) (by decide +kernel)
set_option maxRecDepth 20000 in
theorem gX6_read_X6_does : GoodIn wsX6_read (wsV RX6 123 RX6 yX6_does wsX6_does) := goodIn_app (goodIn_of _ (by decide +kernel)) ggX6_read_X6_does
set_option maxRecDepth 20000 in
theorem ggX6_read_X6_behindPart : GoodIn wsX6_read wsX6_behindPart := goodIn_r _ [11, 12, 13, 14, 5, 15, 1, 7, 16, 17, 18, 19, 20, 21, 22, 23, 24, 25, 26, 65, 66, 67, 68, 69, 70, 71, 72, 73, 74, 75] (by decide +kernel) (by decide +kernel)
set_option maxRecDepth 20000 in
theorem gX6_read_X6_behindPart : GoodIn wsX6_read (wsV RX6 117 RX6 yX6_behindPart wsX6_behindPart) := goodIn_app (goodIn_of _ (by decide +kernel)) ggX6_read_X6_behindPart
theorem dX6_read_0 : decode cX6_read 0 = .ok (.aload_n 0, 1) := by decide +kernel
theorem dX6_read_1 : decode cX6_read 1 = .ok (.aload_n 0, 1) := by decide +kernel
theorem dX6_read_2 : decode cX6_read 2 = .ok (.invokevirtual 120, 3) := by decide +kernel
theorem dX6_read_5 : decode cX6_read 5 = .ok (.iconst (-1), 1) := by decide +kernel
theorem dX6_read_6 : decode cX6_read 6 = .ok (.if_icmp .ne 7, 3) := by decide +kernel
theorem dX6_read_9 : decode cX6_read 9 = .ok (.iconst 0, 1) := by decide +kernel
theorem dX6_read_10 : decode cX6_read 10 = .ok (.goto 4, 3) := by decide +kernel
theorem dX6_read_13 : decode cX6_read 13 = .ok (.iconst 1, 1) := by decide +kernel
theorem dX6_read_14 : decode cX6_read 14 = .ok (.invokevirtual 75, 3) := by decide +kernel
theorem dX6_read_17 : decode cX6_read 17 = .ok (.ifCond .ne 5, 3) := by decide +kernel
theorem dX6_read_20 : decode cX6_read 20 = .ok (.iconst 0, 1) := by decide +kernel
theorem dX6_read_21 : decode cX6_read 21 = .ok (.ireturn, 1) := by decide +kernel
theorem dX6_read_22 : decode cX6_read 22 = .ok (.aload_n 0, 1) := by decide +kernel
theorem dX6_read_23 : decode cX6_read 23 = .ok (.invokevirtual 78, 3) := by decide +kernel
theorem dX6_read_26 : decode cX6_read 26 = .ok (.iconst 0, 1) := by decide +kernel
theorem dX6_read_27 : decode cX6_read 27 = .ok (.istore_n 1, 1) := by decide +kernel
theorem dX6_read_28 : decode cX6_read 28 = .ok (.iconst 0, 1) := by decide +kernel
theorem dX6_read_29 : decode cX6_read 29 = .ok (.istore_n 2, 1) := by decide +kernel
theorem dX6_read_30 : decode cX6_read 30 = .ok (.iload_n 2, 1) := by decide +kernel
theorem dX6_read_31 : decode cX6_read 31 = .ok (.aload_n 0, 1) := by decide +kernel
theorem dX6_read_32 : decode cX6_read 32 = .ok (.getfield 105, 3) := by decide +kernel
theorem dX6_read_35 : decode cX6_read 35 = .ok (.if_icmp .ge 22, 3) := by decide +kernel
theorem dX6_read_38 : decode cX6_read 38 = .ok (.iload_n 1, 1) := by decide +kernel
theorem dX6_read_39 : decode cX6_read 39 = .ok (.aload_n 0, 1) := by decide +kernel
theorem dX6_read_40 : decode cX6_read 40 = .ok (.iload_n 2, 1) := by decide +kernel
theorem dX6_read_41 : decode cX6_read 41 = .ok (.invokevirtual 123, 3) := by decide +kernel
theorem dX6_read_44 : decode cX6_read 44 = .ok (.iadd, 1) := by decide +kernel
theorem dX6_read_45 : decode cX6_read 45 = .ok (.istore_n 1, 1) := by decide +kernel
theorem dX6_read_46 : decode cX6_read 46 = .ok (.aload_n 0, 1) := by decide +kernel
theorem dX6_read_47 : decode cX6_read 47 = .ok (.iload_n 2, 1) := by decide +kernel
theorem dX6_read_48 : decode cX6_read 48 = .ok (.invokevirtual 117, 3) := by decide +kernel
theorem dX6_read_51 : decode cX6_read 51 = .ok (.iconst 1, 1) := by decide +kernel
theorem dX6_read_52 : decode cX6_read 52 = .ok (.iadd, 1) := by decide +kernel
theorem dX6_read_53 : decode cX6_read 53 = .ok (.istore_n 2, 1) := by decide +kernel
theorem dX6_read_54 : decode cX6_read 54 = .ok (.goto (-24), 3) := by decide +kernel
theorem dX6_read_57 : decode cX6_read 57 = .ok (.aload_n 0, 1) := by decide +kernel
theorem dX6_read_58 : decode cX6_read 58 = .ok (.iconst 0, 1) := by decide +kernel
theorem dX6_read_59 : decode cX6_read 59 = .ok (.putfield 105, 3) := by decide +kernel
theorem dX6_read_62 : decode cX6_read 62 = .ok (.iload_n 1, 1) := by decide +kernel
theorem dX6_read_63 : decode cX6_read 63 = .ok (.ireturn, 1) := by decide +kernel
set_option maxRecDepth 20000 in
theorem ggX6_undo_X6_holds : GoodIn wsX6_undo wsX6_holds := goodIn_r _ [8, 9, 10, 11, 12, 13, 14, 15, 16, 17, 18, 19, 20] (by decide +kernel) (by decide +kernel)
set_option maxRecDepth 20000 in
theorem gX6_undo_X6_holds : GoodIn wsX6_undo (wsV RX6 75 RX6 yX6_holds wsX6_holds) := goodIn_app (goodIn_of _ (by decide +kernel)) ggX6_undo_X6_holds
theorem dX6_undo_0 : decode cX6_undo 0 = .ok (.aload_n 0, 1) := by decide +kernel
theorem dX6_undo_1 : decode cX6_undo 1 = .ok (.aload_n 0, 1) := by decide +kernel
theorem dX6_undo_2 : decode cX6_undo 2 = .ok (.getfield 40, 3) := by decide +kernel
theorem dX6_undo_5 : decode cX6_undo 5 = .ok (.ifCond .le 7, 3) := by decide +kernel
theorem dX6_undo_8 : decode cX6_undo 8 = .ok (.iconst 0, 1) := by decide +kernel
theorem dX6_undo_9 : decode cX6_undo 9 = .ok (.goto 4, 3) := by decide +kernel
theorem dX6_undo_12 : decode cX6_undo 12 = .ok (.iconst 1, 1) := by decide +kernel
theorem dX6_undo_13 : decode cX6_undo 13 = .ok (.invokevirtual 75, 3) := by decide +kernel
theorem dX6_undo_16 : decode cX6_undo 16 = .ok (.ifCond .ne 5, 3) := by decide +kernel
theorem dX6_undo_19 : decode cX6_undo 19 = .ok (.iconst 0, 1) := by decide +kernel
theorem dX6_undo_20 : decode cX6_undo 20 = .ok (.ireturn, 1) := by decide +kernel
theorem dX6_undo_21 : decode cX6_undo 21 = .ok (.aload_n 0, 1) := by decide +kernel
theorem dX6_undo_22 : decode cX6_undo 22 = .ok (.dup, 1) := by decide +kernel
theorem dX6_undo_23 : decode cX6_undo 23 = .ok (.getfield 40, 3) := by decide +kernel
theorem dX6_undo_26 : decode cX6_undo 26 = .ok (.iconst 1, 1) := by decide +kernel
theorem dX6_undo_27 : decode cX6_undo 27 = .ok (.isub, 1) := by decide +kernel
theorem dX6_undo_28 : decode cX6_undo 28 = .ok (.putfield 40, 3) := by decide +kernel
theorem dX6_undo_31 : decode cX6_undo 31 = .ok (.iconst 0, 1) := by decide +kernel
theorem dX6_undo_32 : decode cX6_undo 32 = .ok (.istore_n 1, 1) := by decide +kernel
theorem dX6_undo_33 : decode cX6_undo 33 = .ok (.iload_n 1, 1) := by decide +kernel
theorem dX6_undo_34 : decode cX6_undo 34 = .ok (.bipush 70, 2) := by decide +kernel
theorem dX6_undo_36 : decode cX6_undo 36 = .ok (.if_icmp .ge 29, 3) := by decide +kernel
theorem dX6_undo_39 : decode cX6_undo 39 = .ok (.aload_n 0, 1) := by decide +kernel
theorem dX6_undo_40 : decode cX6_undo 40 = .ok (.getfield 7, 3) := by decide +kernel
theorem dX6_undo_43 : decode cX6_undo 43 = .ok (.iload_n 1, 1) := by decide +kernel
theorem dX6_undo_44 : decode cX6_undo 44 = .ok (.aload_n 0, 1) := by decide +kernel
theorem dX6_undo_45 : decode cX6_undo 45 = .ok (.getfield 20, 3) := by decide +kernel
theorem dX6_undo_48 : decode cX6_undo 48 = .ok (.bipush 70, 2) := by decide +kernel
theorem dX6_undo_50 : decode cX6_undo 50 = .ok (.aload_n 0, 1) := by decide +kernel
theorem dX6_undo_51 : decode cX6_undo 51 = .ok (.getfield 40, 3) := by decide +kernel
theorem dX6_undo_54 : decode cX6_undo 54 = .ok (.imul, 1) := by decide +kernel
theorem dX6_undo_55 : decode cX6_undo 55 = .ok (.iload_n 1, 1) := by decide +kernel
theorem dX6_undo_56 : decode cX6_undo 56 = .ok (.iadd, 1) := by decide +kernel
theorem dX6_undo_57 : decode cX6_undo 57 = .ok (.iaload, 1) := by decide +kernel
theorem dX6_undo_58 : decode cX6_undo 58 = .ok (.iastore, 1) := by decide +kernel
theorem dX6_undo_59 : decode cX6_undo 59 = .ok (.iinc 1 1, 3) := by decide +kernel
theorem dX6_undo_62 : decode cX6_undo 62 = .ok (.goto (-29), 3) := by decide +kernel
theorem dX6_undo_65 : decode cX6_undo 65 = .ok (.aload_n 0, 1) := by decide +kernel
theorem dX6_undo_66 : decode cX6_undo 66 = .ok (.getfield 40, 3) := by decide +kernel
theorem dX6_undo_69 : decode cX6_undo 69 = .ok (.ireturn, 1) := by decide +kernel
theorem dX6_undoable_0 : decode cX6_undoable 0 = .ok (.aload_n 0, 1) := by decide +kernel
theorem dX6_undoable_1 : decode cX6_undoable 1 = .ok (.iconst 0, 1) := by decide +kernel
theorem dX6_undoable_2 : decode cX6_undoable 2 = .ok (.putfield 32, 3) := by decide +kernel
theorem dX6_undoable_5 : decode cX6_undoable 5 = .ok (.aload_n 0, 1) := by decide +kernel
theorem dX6_undoable_6 : decode cX6_undoable 6 = .ok (.getfield 40, 3) := by decide +kernel
theorem dX6_undoable_9 : decode cX6_undoable 9 = .ok (.ireturn, 1) := by decide +kernel
set_option maxRecDepth 20000 in
theorem ggX6_save_X6_in : GoodIn wsX6_save wsX6_in := goodIn_r _ [7] (by decide +kernel) (by decide +kernel)
set_option maxRecDepth 20000 in
theorem gX6_save_X6_in : GoodIn wsX6_save (va_wsS RX6 36 yX6_in wsX6_in) := goodIn_app (goodIn_of _ (by decide +kernel)) ggX6_save_X6_in
set_option maxRecDepth 20000 in
theorem ggX6_save_X6_holds : GoodIn wsX6_save wsX6_holds := goodIn_r _ [11, 12, 20, 21, 22, 23, 24, 25, 26, 27, 28, 29, 30] (by decide +kernel) (by decide +kernel)
set_option maxRecDepth 20000 in
theorem gX6_save_X6_holds : GoodIn wsX6_save (wsV RX6 75 RX6 yX6_holds wsX6_holds) := goodIn_app (goodIn_of _ (by decide +kernel)) ggX6_save_X6_holds
set_option maxRecDepth 20000 in
theorem ggX6_save_X6_allPegs : GoodIn wsX6_save wsX6_allPegs := goodIn_r _ [16, 2, 17, 18, 6, 19, 20, 21, 22, 23, 24, 25, 26, 27, 28, 29, 30] (by decide +kernel) (by decide +kernel)
set_option maxRecDepth 20000 in
theorem gX6_save_X6_allPegs : GoodIn wsX6_save (wsV RX6 97 RX6 yX6_allPegs wsX6_allPegs) := goodIn_app (goodIn_of _ (by decide +kernel)) ggX6_save_X6_allPegs
theorem dX6_save_0 : decode cX6_save 0 = .ok (.aload_n 0, 1) := by decide +kernel
theorem dX6_save_1 : decode cX6_save 1 = .ok (.iload_n 1, 1) := by decide +kernel
theorem dX6_save_2 : decode cX6_save 2 = .ok (.iconst 0, 1) := by decide +kernel
theorem dX6_save_3 : decode cX6_save 3 = .ok (.iconst 1, 1) := by decide +kernel
theorem dX6_save_4 : decode cX6_save 4 = .ok (.invokestatic 36, 3) := by decide +kernel
theorem dX6_save_7 : decode cX6_save 7 = .ok (.ifCond .eq 7, 3) := by decide +kernel
theorem dX6_save_10 : decode cX6_save 10 = .ok (.iconst 0, 1) := by decide +kernel
theorem dX6_save_11 : decode cX6_save 11 = .ok (.goto 4, 3) := by decide +kernel
theorem dX6_save_14 : decode cX6_save 14 = .ok (.iconst 1, 1) := by decide +kernel
theorem dX6_save_15 : decode cX6_save 15 = .ok (.invokevirtual 75, 3) := by decide +kernel
theorem dX6_save_18 : decode cX6_save 18 = .ok (.ifCond .ne 5, 3) := by decide +kernel
theorem dX6_save_21 : decode cX6_save 21 = .ok (.iconst 0, 1) := by decide +kernel
theorem dX6_save_22 : decode cX6_save 22 = .ok (.ireturn, 1) := by decide +kernel
theorem dX6_save_23 : decode cX6_save 23 = .ok (.iconst 0, 1) := by decide +kernel
theorem dX6_save_24 : decode cX6_save 24 = .ok (.istore_n 2, 1) := by decide +kernel
theorem dX6_save_25 : decode cX6_save 25 = .ok (.iload_n 2, 1) := by decide +kernel
theorem dX6_save_26 : decode cX6_save 26 = .ok (.bipush 70, 2) := by decide +kernel
theorem dX6_save_28 : decode cX6_save 28 = .ok (.if_icmp .ge 26, 3) := by decide +kernel
theorem dX6_save_31 : decode cX6_save 31 = .ok (.aload_n 0, 1) := by decide +kernel
theorem dX6_save_32 : decode cX6_save 32 = .ok (.getfield 13, 3) := by decide +kernel
theorem dX6_save_35 : decode cX6_save 35 = .ok (.bipush 70, 2) := by decide +kernel
theorem dX6_save_37 : decode cX6_save 37 = .ok (.iload_n 1, 1) := by decide +kernel
theorem dX6_save_38 : decode cX6_save 38 = .ok (.imul, 1) := by decide +kernel
theorem dX6_save_39 : decode cX6_save 39 = .ok (.iload_n 2, 1) := by decide +kernel
theorem dX6_save_40 : decode cX6_save 40 = .ok (.iadd, 1) := by decide +kernel
theorem dX6_save_41 : decode cX6_save 41 = .ok (.aload_n 0, 1) := by decide +kernel
theorem dX6_save_42 : decode cX6_save 42 = .ok (.getfield 7, 3) := by decide +kernel
theorem dX6_save_45 : decode cX6_save 45 = .ok (.iload_n 2, 1) := by decide +kernel
theorem dX6_save_46 : decode cX6_save 46 = .ok (.iaload, 1) := by decide +kernel
theorem dX6_save_47 : decode cX6_save 47 = .ok (.iastore, 1) := by decide +kernel
theorem dX6_save_48 : decode cX6_save 48 = .ok (.iinc 2 1, 3) := by decide +kernel
theorem dX6_save_51 : decode cX6_save 51 = .ok (.goto (-26), 3) := by decide +kernel
theorem dX6_save_54 : decode cX6_save 54 = .ok (.aload_n 0, 1) := by decide +kernel
theorem dX6_save_55 : decode cX6_save 55 = .ok (.getfield 16, 3) := by decide +kernel
theorem dX6_save_58 : decode cX6_save 58 = .ok (.iload_n 1, 1) := by decide +kernel
theorem dX6_save_59 : decode cX6_save 59 = .ok (.iconst 1, 1) := by decide +kernel
theorem dX6_save_60 : decode cX6_save 60 = .ok (.bastore, 1) := by decide +kernel
theorem dX6_save_61 : decode cX6_save 61 = .ok (.aload_n 0, 1) := by decide +kernel
theorem dX6_save_62 : decode cX6_save 62 = .ok (.invokevirtual 97, 3) := by decide +kernel
theorem dX6_save_65 : decode cX6_save 65 = .ok (.ireturn, 1) := by decide +kernel
set_option maxRecDepth 20000 in
theorem ggX6_restore_X6_in : GoodIn wsX6_restore wsX6_in := goodIn_r _ [7] (by decide +kernel) (by decide +kernel)
set_option maxRecDepth 20000 in
theorem gX6_restore_X6_in : GoodIn wsX6_restore (va_wsS RX6 36 yX6_in wsX6_in) := goodIn_app (goodIn_of _ (by decide +kernel)) ggX6_restore_X6_in
set_option maxRecDepth 20000 in
theorem ggX6_restore_X6_holds : GoodIn wsX6_restore wsX6_holds := goodIn_r _ [11, 12, 26, 27, 28, 29, 30, 31, 32, 33, 34, 35, 36] (by decide +kernel) (by decide +kernel)
set_option maxRecDepth 20000 in
theorem gX6_restore_X6_holds : GoodIn wsX6_restore (wsV RX6 75 RX6 yX6_holds wsX6_holds) := goodIn_app (goodIn_of _ (by decide +kernel)) ggX6_restore_X6_holds
set_option maxRecDepth 20000 in
theorem ggX6_restore_X6_records : GoodIn wsX6_restore wsX6_records := goodIn_r _ [16, 17, 18, 2, 26, 27, 28, 29, 30, 31, 32, 33, 34, 35, 36] (by decide +kernel) (by decide +kernel)
set_option maxRecDepth 20000 in
theorem gX6_restore_X6_records : GoodIn wsX6_restore (wsV RX6 78 RX6 yX6_records wsX6_records) := goodIn_app (goodIn_of _ (by decide +kernel)) ggX6_restore_X6_records
set_option maxRecDepth 20000 in
theorem ggX6_restore_X6_allPegs : GoodIn wsX6_restore wsX6_allPegs := goodIn_r _ [22, 2, 23, 24, 6, 25, 26, 27, 28, 29, 30, 31, 32, 33, 34, 35, 36] (by decide +kernel) (by decide +kernel)
set_option maxRecDepth 20000 in
theorem gX6_restore_X6_allPegs : GoodIn wsX6_restore (wsV RX6 97 RX6 yX6_allPegs wsX6_allPegs) := goodIn_app (goodIn_of _ (by decide +kernel)) ggX6_restore_X6_allPegs
theorem dX6_restore_0 : decode cX6_restore 0 = .ok (.iload_n 1, 1) := by decide +kernel
theorem dX6_restore_1 : decode cX6_restore 1 = .ok (.iconst 0, 1) := by decide +kernel
theorem dX6_restore_2 : decode cX6_restore 2 = .ok (.iconst 1, 1) := by decide +kernel
theorem dX6_restore_3 : decode cX6_restore 3 = .ok (.invokestatic 36, 3) := by decide +kernel
theorem dX6_restore_6 : decode cX6_restore 6 = .ok (.istore_n 2, 1) := by decide +kernel
theorem dX6_restore_7 : decode cX6_restore 7 = .ok (.aload_n 0, 1) := by decide +kernel
theorem dX6_restore_8 : decode cX6_restore 8 = .ok (.iload_n 2, 1) := by decide +kernel
theorem dX6_restore_9 : decode cX6_restore 9 = .ok (.ifCond .ne 7, 3) := by decide +kernel
theorem dX6_restore_12 : decode cX6_restore 12 = .ok (.iconst 1, 1) := by decide +kernel
theorem dX6_restore_13 : decode cX6_restore 13 = .ok (.goto 17, 3) := by decide +kernel
theorem dX6_restore_16 : decode cX6_restore 16 = .ok (.aload_n 0, 1) := by decide +kernel
theorem dX6_restore_17 : decode cX6_restore 17 = .ok (.getfield 16, 3) := by decide +kernel
theorem dX6_restore_20 : decode cX6_restore 20 = .ok (.iload_n 1, 1) := by decide +kernel
theorem dX6_restore_21 : decode cX6_restore 21 = .ok (.baload, 1) := by decide +kernel
theorem dX6_restore_22 : decode cX6_restore 22 = .ok (.ifCond .ne 7, 3) := by decide +kernel
theorem dX6_restore_25 : decode cX6_restore 25 = .ok (.iconst 2, 1) := by decide +kernel
theorem dX6_restore_26 : decode cX6_restore 26 = .ok (.goto 4, 3) := by decide +kernel
theorem dX6_restore_29 : decode cX6_restore 29 = .ok (.iconst 0, 1) := by decide +kernel
theorem dX6_restore_30 : decode cX6_restore 30 = .ok (.invokevirtual 75, 3) := by decide +kernel
theorem dX6_restore_33 : decode cX6_restore 33 = .ok (.ifCond .ne 5, 3) := by decide +kernel
theorem dX6_restore_36 : decode cX6_restore 36 = .ok (.iconst 0, 1) := by decide +kernel
theorem dX6_restore_37 : decode cX6_restore 37 = .ok (.ireturn, 1) := by decide +kernel
theorem dX6_restore_38 : decode cX6_restore 38 = .ok (.aload_n 0, 1) := by decide +kernel
theorem dX6_restore_39 : decode cX6_restore 39 = .ok (.invokevirtual 78, 3) := by decide +kernel
theorem dX6_restore_42 : decode cX6_restore 42 = .ok (.iconst 0, 1) := by decide +kernel
theorem dX6_restore_43 : decode cX6_restore 43 = .ok (.istore_n 3, 1) := by decide +kernel
theorem dX6_restore_44 : decode cX6_restore 44 = .ok (.iload_n 3, 1) := by decide +kernel
theorem dX6_restore_45 : decode cX6_restore 45 = .ok (.bipush 70, 2) := by decide +kernel
theorem dX6_restore_47 : decode cX6_restore 47 = .ok (.if_icmp .ge 26, 3) := by decide +kernel
theorem dX6_restore_50 : decode cX6_restore 50 = .ok (.aload_n 0, 1) := by decide +kernel
theorem dX6_restore_51 : decode cX6_restore 51 = .ok (.getfield 7, 3) := by decide +kernel
theorem dX6_restore_54 : decode cX6_restore 54 = .ok (.iload_n 3, 1) := by decide +kernel
theorem dX6_restore_55 : decode cX6_restore 55 = .ok (.aload_n 0, 1) := by decide +kernel
theorem dX6_restore_56 : decode cX6_restore 56 = .ok (.getfield 13, 3) := by decide +kernel
theorem dX6_restore_59 : decode cX6_restore 59 = .ok (.bipush 70, 2) := by decide +kernel
theorem dX6_restore_61 : decode cX6_restore 61 = .ok (.iload_n 1, 1) := by decide +kernel
theorem dX6_restore_62 : decode cX6_restore 62 = .ok (.imul, 1) := by decide +kernel
theorem dX6_restore_63 : decode cX6_restore 63 = .ok (.iload_n 3, 1) := by decide +kernel
theorem dX6_restore_64 : decode cX6_restore 64 = .ok (.iadd, 1) := by decide +kernel
theorem dX6_restore_65 : decode cX6_restore 65 = .ok (.iaload, 1) := by decide +kernel
theorem dX6_restore_66 : decode cX6_restore 66 = .ok (.iastore, 1) := by decide +kernel
theorem dX6_restore_67 : decode cX6_restore 67 = .ok (.iinc 3 1, 3) := by decide +kernel
theorem dX6_restore_70 : decode cX6_restore 70 = .ok (.goto (-26), 3) := by decide +kernel
theorem dX6_restore_73 : decode cX6_restore 73 = .ok (.aload_n 0, 1) := by decide +kernel
theorem dX6_restore_74 : decode cX6_restore 74 = .ok (.invokevirtual 97, 3) := by decide +kernel
theorem dX6_restore_77 : decode cX6_restore 77 = .ok (.ireturn, 1) := by decide +kernel
theorem dJ6_bitCount_0f7a4_0 : decode cJ6_bitCount_0f7a4 0 = .ok (.iload_n 0, 1) := by decide +kernel
theorem dJ6_bitCount_0f7a4_1 : decode cJ6_bitCount_0f7a4 1 = .ok (.iload_n 0, 1) := by decide +kernel
theorem dJ6_bitCount_0f7a4_2 : decode cJ6_bitCount_0f7a4 2 = .ok (.iconst 1, 1) := by decide +kernel
theorem dJ6_bitCount_0f7a4_3 : decode cJ6_bitCount_0f7a4 3 = .ok (.iushr, 1) := by decide +kernel
theorem dJ6_bitCount_0f7a4_4 : decode cJ6_bitCount_0f7a4 4 = .ok (.ldc_w 265, 3) := by decide +kernel
theorem dJ6_bitCount_0f7a4_7 : decode cJ6_bitCount_0f7a4 7 = .ok (.iand, 1) := by decide +kernel
theorem dJ6_bitCount_0f7a4_8 : decode cJ6_bitCount_0f7a4 8 = .ok (.isub, 1) := by decide +kernel
theorem dJ6_bitCount_0f7a4_9 : decode cJ6_bitCount_0f7a4 9 = .ok (.istore_n 0, 1) := by decide +kernel
theorem dJ6_bitCount_0f7a4_10 : decode cJ6_bitCount_0f7a4 10 = .ok (.iload_n 0, 1) := by decide +kernel
theorem dJ6_bitCount_0f7a4_11 : decode cJ6_bitCount_0f7a4 11 = .ok (.ldc_w 266, 3) := by decide +kernel
theorem dJ6_bitCount_0f7a4_14 : decode cJ6_bitCount_0f7a4 14 = .ok (.iand, 1) := by decide +kernel
theorem dJ6_bitCount_0f7a4_15 : decode cJ6_bitCount_0f7a4 15 = .ok (.iload_n 0, 1) := by decide +kernel
theorem dJ6_bitCount_0f7a4_16 : decode cJ6_bitCount_0f7a4 16 = .ok (.iconst 2, 1) := by decide +kernel
theorem dJ6_bitCount_0f7a4_17 : decode cJ6_bitCount_0f7a4 17 = .ok (.iushr, 1) := by decide +kernel
theorem dJ6_bitCount_0f7a4_18 : decode cJ6_bitCount_0f7a4 18 = .ok (.ldc_w 266, 3) := by decide +kernel
theorem dJ6_bitCount_0f7a4_21 : decode cJ6_bitCount_0f7a4 21 = .ok (.iand, 1) := by decide +kernel
theorem dJ6_bitCount_0f7a4_22 : decode cJ6_bitCount_0f7a4 22 = .ok (.iadd, 1) := by decide +kernel
theorem dJ6_bitCount_0f7a4_23 : decode cJ6_bitCount_0f7a4 23 = .ok (.istore_n 0, 1) := by decide +kernel
theorem dJ6_bitCount_0f7a4_24 : decode cJ6_bitCount_0f7a4 24 = .ok (.iload_n 0, 1) := by decide +kernel
theorem dJ6_bitCount_0f7a4_25 : decode cJ6_bitCount_0f7a4 25 = .ok (.iload_n 0, 1) := by decide +kernel
theorem dJ6_bitCount_0f7a4_26 : decode cJ6_bitCount_0f7a4 26 = .ok (.iconst 4, 1) := by decide +kernel
theorem dJ6_bitCount_0f7a4_27 : decode cJ6_bitCount_0f7a4 27 = .ok (.iushr, 1) := by decide +kernel
theorem dJ6_bitCount_0f7a4_28 : decode cJ6_bitCount_0f7a4 28 = .ok (.iadd, 1) := by decide +kernel
theorem dJ6_bitCount_0f7a4_29 : decode cJ6_bitCount_0f7a4 29 = .ok (.ldc_w 267, 3) := by decide +kernel
theorem dJ6_bitCount_0f7a4_32 : decode cJ6_bitCount_0f7a4 32 = .ok (.iand, 1) := by decide +kernel
theorem dJ6_bitCount_0f7a4_33 : decode cJ6_bitCount_0f7a4 33 = .ok (.istore_n 0, 1) := by decide +kernel
theorem dJ6_bitCount_0f7a4_34 : decode cJ6_bitCount_0f7a4 34 = .ok (.iload_n 0, 1) := by decide +kernel
theorem dJ6_bitCount_0f7a4_35 : decode cJ6_bitCount_0f7a4 35 = .ok (.iload_n 0, 1) := by decide +kernel
theorem dJ6_bitCount_0f7a4_36 : decode cJ6_bitCount_0f7a4 36 = .ok (.bipush 8, 2) := by decide +kernel
theorem dJ6_bitCount_0f7a4_38 : decode cJ6_bitCount_0f7a4 38 = .ok (.iushr, 1) := by decide +kernel
theorem dJ6_bitCount_0f7a4_39 : decode cJ6_bitCount_0f7a4 39 = .ok (.iadd, 1) := by decide +kernel
theorem dJ6_bitCount_0f7a4_40 : decode cJ6_bitCount_0f7a4 40 = .ok (.istore_n 0, 1) := by decide +kernel
theorem dJ6_bitCount_0f7a4_41 : decode cJ6_bitCount_0f7a4 41 = .ok (.iload_n 0, 1) := by decide +kernel
theorem dJ6_bitCount_0f7a4_42 : decode cJ6_bitCount_0f7a4 42 = .ok (.iload_n 0, 1) := by decide +kernel
theorem dJ6_bitCount_0f7a4_43 : decode cJ6_bitCount_0f7a4 43 = .ok (.bipush 16, 2) := by decide +kernel
theorem dJ6_bitCount_0f7a4_45 : decode cJ6_bitCount_0f7a4 45 = .ok (.iushr, 1) := by decide +kernel
theorem dJ6_bitCount_0f7a4_46 : decode cJ6_bitCount_0f7a4 46 = .ok (.iadd, 1) := by decide +kernel
theorem dJ6_bitCount_0f7a4_47 : decode cJ6_bitCount_0f7a4 47 = .ok (.istore_n 0, 1) := by decide +kernel
theorem dJ6_bitCount_0f7a4_48 : decode cJ6_bitCount_0f7a4 48 = .ok (.iload_n 0, 1) := by decide +kernel
theorem dJ6_bitCount_0f7a4_49 : decode cJ6_bitCount_0f7a4 49 = .ok (.bipush 63, 2) := by decide +kernel
theorem dJ6_bitCount_0f7a4_51 : decode cJ6_bitCount_0f7a4 51 = .ok (.iand, 1) := by decide +kernel
theorem dJ6_bitCount_0f7a4_52 : decode cJ6_bitCount_0f7a4 52 = .ok (.ireturn, 1) := by decide +kernel
theorem dJ9_max_7cf53_0 : decode cJ9_max_7cf53 0 = .ok (.iload_n 0, 1) := by decide +kernel
theorem dJ9_max_7cf53_1 : decode cJ9_max_7cf53 1 = .ok (.iload_n 1, 1) := by decide +kernel
theorem dJ9_max_7cf53_2 : decode cJ9_max_7cf53 2 = .ok (.if_icmp .lt 7, 3) := by decide +kernel
theorem dJ9_max_7cf53_5 : decode cJ9_max_7cf53 5 = .ok (.iload_n 0, 1) := by decide +kernel
theorem dJ9_max_7cf53_6 : decode cJ9_max_7cf53 6 = .ok (.goto 4, 3) := by decide +kernel
theorem dJ9_max_7cf53_9 : decode cJ9_max_7cf53 9 = .ok (.iload_n 1, 1) := by decide +kernel
theorem dJ9_max_7cf53_10 : decode cJ9_max_7cf53 10 = .ok (.ireturn, 1) := by decide +kernel
theorem dJ9_min_7cf53_0 : decode cJ9_min_7cf53 0 = .ok (.iload_n 0, 1) := by decide +kernel
theorem dJ9_min_7cf53_1 : decode cJ9_min_7cf53 1 = .ok (.iload_n 1, 1) := by decide +kernel
theorem dJ9_min_7cf53_2 : decode cJ9_min_7cf53 2 = .ok (.if_icmp .gt 7, 3) := by decide +kernel
theorem dJ9_min_7cf53_5 : decode cJ9_min_7cf53 5 = .ok (.iload_n 0, 1) := by decide +kernel
theorem dJ9_min_7cf53_6 : decode cJ9_min_7cf53 6 = .ok (.goto 4, 3) := by decide +kernel
theorem dJ9_min_7cf53_9 : decode cJ9_min_7cf53 9 = .ok (.iload_n 1, 1) := by decide +kernel
theorem dJ9_min_7cf53_10 : decode cJ9_min_7cf53 10 = .ok (.ireturn, 1) := by decide +kernel
theorem dJ7_fill_53178_0 : decode cJ7_fill_53178 0 = .ok (.iconst 0, 1) := by decide +kernel
theorem dJ7_fill_53178_1 : decode cJ7_fill_53178 1 = .ok (.istore_n 2, 1) := by decide +kernel
theorem dJ7_fill_53178_2 : decode cJ7_fill_53178 2 = .ok (.aload_n 0, 1) := by decide +kernel
theorem dJ7_fill_53178_3 : decode cJ7_fill_53178 3 = .ok (.arraylength, 1) := by decide +kernel
theorem dJ7_fill_53178_4 : decode cJ7_fill_53178 4 = .ok (.istore_n 3, 1) := by decide +kernel
theorem dJ7_fill_53178_5 : decode cJ7_fill_53178 5 = .ok (.iload_n 2, 1) := by decide +kernel
theorem dJ7_fill_53178_6 : decode cJ7_fill_53178 6 = .ok (.iload_n 3, 1) := by decide +kernel
theorem dJ7_fill_53178_7 : decode cJ7_fill_53178 7 = .ok (.if_icmp .ge 13, 3) := by decide +kernel
theorem dJ7_fill_53178_10 : decode cJ7_fill_53178 10 = .ok (.aload_n 0, 1) := by decide +kernel
theorem dJ7_fill_53178_11 : decode cJ7_fill_53178 11 = .ok (.iload_n 2, 1) := by decide +kernel
theorem dJ7_fill_53178_12 : decode cJ7_fill_53178 12 = .ok (.iload_n 1, 1) := by decide +kernel
theorem dJ7_fill_53178_13 : decode cJ7_fill_53178 13 = .ok (.iastore, 1) := by decide +kernel
theorem dJ7_fill_53178_14 : decode cJ7_fill_53178 14 = .ok (.iinc 2 1, 3) := by decide +kernel
theorem dJ7_fill_53178_17 : decode cJ7_fill_53178 17 = .ok (.goto (-12), 3) := by decide +kernel
theorem dJ7_fill_53178_20 : decode cJ7_fill_53178 20 = .ok (.return_, 1) := by decide +kernel
end
section
/-! THE BASE: the tables' knowledge, the judgement V (frame, locals, stack, a world in blocks), its rows -/
abbrev gT : Type := va_G × (Nat → ClassId)
abbrev tyL (G : gT) : List (ClassId × FieldType) := [(G.2 0, .int), (G.2 1, .char), (G.2 2, .boolean), (G.2 3, .object "PeggedBells$Drum"), (G.2 4, .long)]
abbrev xI : String := "java/lang/IndexOutOfBoundsException"
abbrev xA : String := "java/lang/IllegalArgumentException"
abbrev xS : String := "java/lang/IllegalStateException"
def tbStrs : List (String × Nat × String) := [(RX5, 50, "no such column or bell"), (RX5, 67, "no such column"), (RX5, 71, "no set of bells"), (RX5, 81, "no such bar"), (RX5, 83, "no tempo"), (RX5, 88, "no such bell"), (RX5, 90, "no weight"), (RX5, 95, "no bound"), (RX5, 101, "no number of columns to move by"), (RX5, 103, "no number of columns to crank"), (RX5, 125, "the pad has a fault"), (RX5, 195, "no characters for the pad"), (RX5, 202, "the pad would be too long"), (RX5, 223, "no such slot"), (RX5, 225, "nothing was saved in this slot"), (RX2, 31, "nothing can be undone")]
/-- what the tables say, all that the methods need beside their words; it depends on the tables alone -/
def TB (l : Launch) (G : gT) (U : State) : Prop :=
  va_K G.1 vwCl (tyL G) U ∧ l.stackTraces = false ∧ (va_Nw (.castable xI xI) U ∧ va_Nw (.castable xA xA) U ∧ va_Nw (.castable xS xS) U) ∧
  (va_Nc xA xI U ∧ va_Nc xS xA U ∧ va_Nc xS xI U) ∧
  (va_Nw (.methodLinkNest RX5 18 yX4_init RX5) U ∧ va_Nw (.methodLinkNest RX5 25 yX3_init RX5) U ∧ va_Nw (.methodLinkNest RX0 87 yX5_holds RX5) U ∧ va_Nw (.methodLinkNest RX1 27 yX5_holds RX5) U ∧ va_Nw (.methodLinkNest RX4 47 yX5_holds RX5) U) ∧
  va_AO "PeggedBells$Drum" U ∧ ∀ q ∈ tbStrs, ∃ a, vk_R q.1 q.2.1 q.2.2 a U
theorem TB.warm {l : Launch} {G : gT} {s U : State} (hW : s.WarmedH U.vm) (h : TB l G s) : TB l G U := by
  obtain ⟨h1, h2, ⟨c1, c2, c3⟩, ⟨n1, n2, n3⟩, ⟨m1, m2, m3, m4, m5⟩, h6, h7⟩ := h
  exact ⟨va_K.moved hW.alike h1, h2, ⟨va_Nw.warmC hW c1, va_Nw.warmC hW c2, va_Nw.warmC hW c3⟩, ⟨va_Nc.moved hW.alike n1, va_Nc.moved hW.alike n2, va_Nc.moved hW.alike n3⟩,
    ⟨va_Nw.warmM hW m1, va_Nw.warmM hW m2, va_Nw.warmM hW m3, va_Nw.warmM hW m4, va_Nw.warmM hW m5⟩, va_AO.moved hW.alike h6, fun q hq => by obtain ⟨a, ha⟩ := h7 q hq; exact ⟨a, vk_R.warm hW ha⟩⟩
/-- the two statics that a throw reads: they lie outside A -/
def ZZ (A : Nat → Prop) (U : State) (H : Heap) : Prop := vx_Zq Bundle.tN "UNASSIGNED_STACK" Bundle.steD A U H ∧ vx_Zq Bundle.tN "SUPPRESSED_SENTINEL" Bundle.listD A U H
theorem ZZ.moved {A : Nat → Prop} {u U : State} {H : Heap} (hvm : u.vm.Alike U.vm) (h : ZZ A u H) : ZZ A U H := ⟨vx_Zq.moved hvm h.1, vx_Zq.moved hvm h.2⟩
theorem ZZ.kept {A : Nat → Prop} {U : State} {H H1 : Heap} (h : ZZ A U H) (hq : ∀ a : Nat, a < H.size → ¬ A a → H1[a]? = H[a]?) : ZZ A U H1 := ⟨vx_Zq.kept h.1 hq, vx_Zq.kept h.2 hq⟩
theorem ZZ.narrow {A B : Nat → Prop} {U : State} {H : Heap} (h : ZZ A U H) (hAB : ∀ q, B q → A q) : ZZ B U H := ⟨vx_Zq.narrow h.1 hAB, vx_Zq.narrow h.2 hAB⟩
/-! worlds by their members -/
theorem va_P_iff {D : va_G} {cl : List vw_C} {ws : va_W} {H : Heap} : va_P D cl ws H ↔ ∀ q ∈ ws, va_at D cl q H :=
  ⟨fun h q hq => by obtain ⟨k, hk⟩ := List.getElem?_of_mem hq; exact h k q hk, fun h _ q hk => h q (List.mem_of_getElem? hk)⟩
theorem va_D_iff {A : Nat → Prop} {ws : va_W} : va_D A ws ↔ (ws.map (·.1)).Nodup ∧ ∀ q ∈ ws, A q.1 := by
  constructor
  · intro h
    refine ⟨?_, fun q hq => by obtain ⟨k, hk⟩ := List.getElem?_of_mem hq; exact h.2 k q hk⟩
    rw [List.nodup_iff_pairwise_ne, List.pairwise_iff_getElem]
    intro i j hi hj hij he
    rw [List.length_map] at hi hj
    rw [List.getElem_map, List.getElem_map] at he
    exact absurd (h.1 i j _ _ (List.getElem?_eq_getElem hi) (List.getElem?_eq_getElem hj) he) (by omega)
  · intro h
    refine ⟨fun i j p q hi hj hpq => ?_, fun k q hk => h.2 q (List.mem_of_getElem? hk)⟩
    have hn := h.1
    rw [List.nodup_iff_pairwise_ne, List.pairwise_iff_getElem] at hn
    obtain ⟨hi1, hi2⟩ := List.getElem?_eq_some_iff.mp hi
    obtain ⟨hj1, hj2⟩ := List.getElem?_eq_some_iff.mp hj
    rcases Nat.lt_trichotomy i j with c | c | c
    · exact absurd (by rw [List.getElem_map, List.getElem_map, hi2, hj2]; exact hpq) (hn i j (by rw [List.length_map]; exact hi1) (by rw [List.length_map]; exact hj1) c)
    · exact c
    · exact absurd (by rw [List.getElem_map, List.getElem_map, hi2, hj2]; exact hpq.symm) (hn j i (by rw [List.length_map]; exact hj1) (by rw [List.length_map]; exact hi1) c)
theorem va_P_perm {D : va_G} {cl : List vw_C} {ws ws' : va_W} {H : Heap} (p : ws.Perm ws') (h : va_P D cl ws H) : va_P D cl ws' H := va_P_iff.mpr fun q hq => va_P_iff.mp h q (p.mem_iff.mpr hq)
theorem va_D_perm {A : Nat → Prop} {ws ws' : va_W} (p : ws.Perm ws') (h : va_D A ws) : va_D A ws' := by
  obtain ⟨h1, h2⟩ := va_D_iff.mp h
  exact va_D_iff.mpr ⟨(p.map (·.1)).nodup_iff.mp h1, fun q hq => h2 q (p.mem_iff.mpr hq)⟩
/-- blocks by their places -/
def pk (bs : List va_W) (is : List Nat) : List va_W := is.filterMap (fun i => bs[i]?)
theorem pk_perm (bs : List va_W) {is js : List Nat} (p : is.Perm js) : (pk bs is).Perm (pk bs js) := p.filterMap _
theorem flatten_perm {a b : List va_W} (p : a.Perm b) : a.flatten.Perm b.flatten := by
  induction p with
  | nil => exact List.Perm.refl _
  | cons x _ ih => rw [List.flatten_cons, List.flatten_cons]; exact List.Perm.append_left x ih
  | swap x y l =>
    simp only [List.flatten_cons]
    rw [← List.append_assoc, ← List.append_assoc]
    exact List.Perm.append_right _ List.perm_append_comm
  | trans _ _ i1 i2 => exact i1.trans i2
theorem pk_range (bs : List va_W) : pk bs (List.range bs.length) = bs := by
  unfold pk
  apply List.ext_getElem?
  intro i
  have h : ∀ (l : List va_W) (n : Nat), n ≤ l.length → (List.range n).filterMap (fun i => l[i]?) = l.take n := by
    intro l n
    induction n with
    | zero => intro _; simp
    | succ n ih =>
      intro hn
      rw [List.range_succ, List.filterMap_append, ih (by omega)]
      simp only [List.filterMap_cons, List.filterMap_nil]
      rw [List.getElem?_eq_getElem (by omega : n < l.length)]
      simp only []
      rw [List.take_append_getElem (by omega)]
  rw [h bs bs.length (Nat.le_refl _), List.take_length]
/-- cells that hold the same: rows that agree below their length -/
theorem arrV_congr {cA : ClassId} {n : Nat} {f g : Nat → Value} (h : ∀ k, k < n → f k = g k) : arrV cA n f = arrV cA n g := by
  unfold arrV
  congr 1
  apply Array.ext
  · simp
  · intro i h1 h2
    simp at h1
    simp [h i h1]
def weq (e e' : va_E) : Prop := ∀ (D : va_G) (cl : List vw_C) (a : Nat) (H : Heap), va_at D cl (a, e) H → va_at D cl (a, e') H
theorem weq.rf (e : va_E) : weq e e := fun _ _ _ _ h => h
theorem weq.row {cA : ClassId} {n : Nat} {f g : Nat → Int32} (h : ∀ k, k < n → f k = g k) : weq (.inl (cA, n, .inl f)) (.inl (cA, n, .inl g)) := by
  intro D cl a H hh
  have h1 : H[a]? = some (vp_cell cA (n, .inl f)) := hh
  show H[a]? = some (vp_cell cA (n, .inl g))
  rw [h1, vp_cell_i, vp_cell_i, arrV_congr (fun k hk => by rw [h k hk])]
theorem weq.rowq {cA : ClassId} {n : Nat} {f g : Nat → Option Nat} (h : ∀ k, k < n → f k = g k) : weq (.inl (cA, n, .inr (.inr (.inr (.inr f))))) (.inl (cA, n, .inr (.inr (.inr (.inr g))))) := by
  intro D cl a H hh
  have h1 : H[a]? = some (vp_cell cA (n, .inr (.inr (.inr (.inr f))))) := hh
  show H[a]? = some (vp_cell cA (n, .inr (.inr (.inr (.inr g)))))
  rw [h1, vp_cell_q, vp_cell_q, arrV_congr (fun k hk => by rw [h k hk])]
def wsq (w w' : va_W) : Prop := ∀ (D : va_G) (cl : List vw_C) (A : Nat → Prop) (H : Heap), (va_P D cl w H → va_P D cl w' H) ∧ w.map (·.1) = w'.map (·.1)
theorem wsq.rf (w : va_W) : wsq w w := fun _ _ _ _ => ⟨id, rfl⟩
theorem wsq.cons {a : Nat} {e e' : va_E} {w w' : va_W} (h : weq e e') (k : wsq w w') : wsq ((a, e) :: w) ((a, e') :: w') := by
  intro D cl A H
  obtain ⟨k1, k2⟩ := k D cl A H
  refine ⟨fun hP => va_P_iff.mpr fun q hq => ?_, by simp [k2]⟩
  have hP' := va_P_iff.mp hP
  rcases List.mem_cons.mp hq with rfl | hq
  · exact h D cl a H (hP' _ List.mem_cons_self)
  · exact va_P_iff.mp (k1 (va_P_iff.mpr fun q hq => hP' q (List.mem_cons_of_mem _ hq))) q hq
theorem wsq.app {a a' b b' : va_W} (h : wsq a a') (k : wsq b b') : wsq (a ++ b) (a' ++ b') := by
  intro D cl A H
  obtain ⟨h1, h2⟩ := h D cl A H
  obtain ⟨k1, k2⟩ := k D cl A H
  refine ⟨fun hP => va_P_iff.mpr fun q hq => ?_, by simp [h2, k2]⟩
  have hP' := va_P_iff.mp hP
  rcases List.mem_append.mp hq with hq | hq
  · exact va_P_iff.mp (h1 (va_P_iff.mpr fun q hq => hP' q (List.mem_append_left _ hq))) q hq
  · exact va_P_iff.mp (k1 (va_P_iff.mpr fun q hq => hP' q (List.mem_append_right _ hq))) q hq
theorem wsq.D {A : Nat → Prop} {w w' : va_W} (h : wsq w w') (hD : va_D A w) : va_D A w' := by
  obtain ⟨h1, h2⟩ := va_D_iff.mp hD
  have e : w.map (·.1) = w'.map (·.1) := (h (fun _ => 0, fun _ _ => 0) [] A #[]).2
  refine va_D_iff.mpr ⟨e ▸ h1, fun q hq => ?_⟩
  have h3 : q.1 ∈ w.map (·.1) := by rw [e]; exact List.mem_map_of_mem hq
  obtain ⟨q', hq', e'⟩ := List.mem_map.mp h3
  exact e' ▸ h2 q' hq'
/-! the judgement -/
abbrev EE := Program × Launch × Env × Room × State × MethodId × Array Value × List Frame × Method × Code
abbrev e_p (E : EE) : Program := E.1
abbrev e_l (E : EE) : Launch := E.2.1
abbrev e_e (E : EE) : Env := E.2.2.1
abbrev e_R (E : EE) : Room := E.2.2.2.1
abbrev e_s (E : EE) : State := E.2.2.2.2.1
abbrev e_m (E : EE) : MethodId := E.2.2.2.2.2.1
abbrev e_a (E : EE) : Array Value := E.2.2.2.2.2.2.1
abbrev e_b (E : EE) : List Frame := E.2.2.2.2.2.2.2.1
abbrev e_h (E : EE) : Method := E.2.2.2.2.2.2.2.2.1
abbrev e_c (E : EE) : Code := E.2.2.2.2.2.2.2.2.2
/-- what stands fixed in a body: the machine, the code, the words, the tables, the statics; A: what it may change -/
def Cx (E : EE) (G : gT) (A : Nat → Prop) (nL : Nat) (cc : ByteArray) (own : String) (Ts : List Cond) (rm : Room) (l : Launch) : Prop :=
  CallFix (e_p E) (e_m E) (e_c E) cc nL (e_s E) (e_a E) Ts own ∧ TB (e_l E) G (e_s E) ∧ ZZ A (e_s E) (e_s E).heap ∧ (∀ q, (e_s E).heap.size ≤ q → A q) ∧ (e_h E).locks = false ∧ e_R E = rm ∧ e_l E = l
/-- from here (pc, locals, stack, the world in blocks) the body comes to Q -/
def V (E : EE) (G : gT) (A : Nat → Prop) (nL : Nat) (bs : List va_W) (kc ks : Nat) (Q : State → Prop) (pc : Nat) (lv : List (Nat × Value)) (st : List Value) : Prop :=
  ∀ (H : Heap) (locs : List Loc) (ls : Array Slot), va_P G.1 vwCl bs.flatten H → va_D A bs.flatten → va_S A (e_s E).heap H locs → lv_has ls nL lv →
    W (e_p E) (e_l E) (e_e E) (e_R E) (e_s E) (e_m E) (e_a E) (e_b E) (e_h E) (e_c E) H locs kc ks Q (F0 (e_m E) pc ls st)
section VR
variable {E : EE} {G : gT} {A : Nat → Prop} {nL : Nat} {bs bs' : List va_W} {kc ks : Nat} {Q : State → Prop} {pc pc' : Nat} {lv lv' : List (Nat × Value)} {st : List Value} {cc : ByteArray} {own : String} {Ts : List Cond} {rm : Room} {l : Launch}
theorem V_iconst {n : Int} (v : Int32) (X : Cx E G A nL cc own Ts rm l) (d : decode cc pc = .ok (.iconst n, 1)) (hv : Int32.ofInt n = v) (hq : pc + 1 = pc') (kk : V E G A nL bs kc ks Q pc' lv (.int v :: st)) : V E G A nL bs kc ks Q pc lv st := by
  subst hq; intro H locs ls hP hD hS hl; exact lv_iconst X.1.1 X.1.2.1 d hv (kk H locs ls hP hD hS hl)
theorem V_bipush {n : Int} (v : Int32) (X : Cx E G A nL cc own Ts rm l) (d : decode cc pc = .ok (.bipush n, 2)) (hv : (Int8.ofInt n).toInt32 = v) (hq : pc + 2 = pc') (kk : V E G A nL bs kc ks Q pc' lv (.int v :: st)) : V E G A nL bs kc ks Q pc lv st := by
  subst hq; intro H locs ls hP hD hS hl; exact lv_bipush X.1.1 X.1.2.1 d hv (kk H locs ls hP hD hS hl)
theorem V_sipush {n : Int} (v : Int32) (X : Cx E G A nL cc own Ts rm l) (d : decode cc pc = .ok (.sipush n, 3)) (hv : (Int16.ofInt n).toInt32 = v) (hq : pc + 3 = pc') (kk : V E G A nL bs kc ks Q pc' lv (.int v :: st)) : V E G A nL bs kc ks Q pc lv st := by
  subst hq; intro H locs ls hP hD hS hl; exact lv_sipush X.1.1 X.1.2.1 d hv (kk H locs ls hP hD hS hl)
theorem V_ldc {i : Nat} {v : Int32} (X : Cx E G A nL cc own Ts rm l) (hc : Cond.constant own i v ∈ Ts) (d : decode cc pc = .ok (.ldc i, 2)) (hq : pc + 2 = pc') (kk : V E G A nL bs kc ks Q pc' lv (.int v :: st)) : V E G A nL bs kc ks Q pc lv st := by
  subst hq; intro H locs ls hP hD hS hl; exact lv_ldc X.1.1 X.1.2.1 X.1.2.2.2.1 (X.1.2.2.2.2 _ hc) d (kk H locs ls hP hD hS hl)
theorem V_ldcw {i : Nat} {v : Int32} (X : Cx E G A nL cc own Ts rm l) (hc : Cond.constant own i v ∈ Ts) (d : decode cc pc = .ok (.ldc_w i, 3)) (hq : pc + 3 = pc') (kk : V E G A nL bs kc ks Q pc' lv (.int v :: st)) : V E G A nL bs kc ks Q pc lv st := by
  subst hq; intro H locs ls hP hD hS hl; exact lv_ldcw X.1.1 X.1.2.1 X.1.2.2.2.1 (X.1.2.2.2.2 _ hc) d (kk H locs ls hP hD hS hl)
theorem V_lconst {n : Fin 2} (v : Int64) (X : Cx E G A nL cc own Ts rm l) (d : decode cc pc = .ok (.lconst n, 1)) (hv : Int64.ofNat (n : Nat) = v) (hq : pc + 1 = pc') (kk : V E G A nL bs kc ks Q pc' lv (.long v :: st)) : V E G A nL bs kc ks Q pc lv st := by
  subst hq; intro H locs ls hP hD hS hl; exact lv_lconst X.1.1 X.1.2.1 d hv (kk H locs ls hP hD hS hl)
theorem V_ldc2 {i : Nat} {v : Int64} (w : Int64) (X : Cx E G A nL cc own Ts rm l) (hc : Cond.constantLong own i v ∈ Ts) (hw : v = w) (d : decode cc pc = .ok (.ldc2_w i, 3)) (hq : pc + 3 = pc') (kk : V E G A nL bs kc ks Q pc' lv (.long w :: st)) : V E G A nL bs kc ks Q pc lv st := by
  subst hq; subst hw; intro H locs ls hP hD hS hl; exact lv_ldc2 X.1.1 X.1.2.1 X.1.2.2.2.1 (X.1.2.2.2.2 _ hc) d (kk H locs ls hP hD hS hl)
theorem V_iload_n {k : Fin 4} {i : Nat} {x : Int32} (j : Nat) (X : Cx E G A nL cc own Ts rm l) (d : decode cc pc = .ok (.iload_n k, 1)) (hi : (k : Nat) = i) (hj : lv[j]? = some (i, .int x)) (hq : pc + 1 = pc') (kk : V E G A nL bs kc ks Q pc' lv (.int x :: st)) : V E G A nL bs kc ks Q pc lv st := by
  subst hq; intro H locs ls hP hD hS hl; exact lv_iload_n X.1.1 X.1.2.1 d hi (lv_at hl j hj) (kk H locs ls hP hD hS hl)
theorem V_iload {i : Nat} {x : Int32} (j : Nat) (X : Cx E G A nL cc own Ts rm l) (d : decode cc pc = .ok (.iload i, 2)) (hj : lv[j]? = some (i, .int x)) (hq : pc + 2 = pc') (kk : V E G A nL bs kc ks Q pc' lv (.int x :: st)) : V E G A nL bs kc ks Q pc lv st := by
  subst hq; intro H locs ls hP hD hS hl; exact lv_iload X.1.1 X.1.2.1 d (lv_at hl j hj) (kk H locs ls hP hD hS hl)
theorem V_lload_n {k : Fin 4} {i : Nat} {x : Int64} (j : Nat) (X : Cx E G A nL cc own Ts rm l) (d : decode cc pc = .ok (.lload_n k, 1)) (hi : (k : Nat) = i) (hj : lv[j]? = some (i, .long x)) (hq : pc + 1 = pc') (kk : V E G A nL bs kc ks Q pc' lv (.long x :: st)) : V E G A nL bs kc ks Q pc lv st := by
  subst hq; intro H locs ls hP hD hS hl; exact lv_lload_n X.1.1 X.1.2.1 d hi (lv_at hl j hj) (kk H locs ls hP hD hS hl)
theorem V_lload {i : Nat} {x : Int64} (j : Nat) (X : Cx E G A nL cc own Ts rm l) (d : decode cc pc = .ok (.lload i, 2)) (hj : lv[j]? = some (i, .long x)) (hq : pc + 2 = pc') (kk : V E G A nL bs kc ks Q pc' lv (.long x :: st)) : V E G A nL bs kc ks Q pc lv st := by
  subst hq; intro H locs ls hP hD hS hl; exact lv_lload X.1.1 X.1.2.1 d (lv_at hl j hj) (kk H locs ls hP hD hS hl)
theorem V_aload_n {k : Fin 4} {i : Nat} {x : Nat} (j : Nat) (X : Cx E G A nL cc own Ts rm l) (d : decode cc pc = .ok (.aload_n k, 1)) (hi : (k : Nat) = i) (hj : lv[j]? = some (i, .ref x)) (hq : pc + 1 = pc') (kk : V E G A nL bs kc ks Q pc' lv (.ref x :: st)) : V E G A nL bs kc ks Q pc lv st := by
  subst hq; intro H locs ls hP hD hS hl; exact lv_aload_n X.1.1 X.1.2.1 d hi (lv_at hl j hj) (kk H locs ls hP hD hS hl)
theorem V_aload {i : Nat} {x : Nat} (j : Nat) (X : Cx E G A nL cc own Ts rm l) (d : decode cc pc = .ok (.aload i, 2)) (hj : lv[j]? = some (i, .ref x)) (hq : pc + 2 = pc') (kk : V E G A nL bs kc ks Q pc' lv (.ref x :: st)) : V E G A nL bs kc ks Q pc lv st := by
  subst hq; intro H locs ls hP hD hS hl; exact lv_aload X.1.1 X.1.2.1 d (lv_at hl j hj) (kk H locs ls hP hD hS hl)
theorem V_aload_nN {k : Fin 4} {i : Nat} (j : Nat) (X : Cx E G A nL cc own Ts rm l) (d : decode cc pc = .ok (.aload_n k, 1)) (hi : (k : Nat) = i) (hj : lv[j]? = some (i, .null)) (hq : pc + 1 = pc') (kk : V E G A nL bs kc ks Q pc' lv (.null :: st)) : V E G A nL bs kc ks Q pc lv st := by
  subst hq; intro H locs ls hP hD hS hl; exact lv_aload_nN X.1.1 X.1.2.1 d hi (lv_at hl j hj) (kk H locs ls hP hD hS hl)
theorem V_istore_n {k : Fin 4} {i : Nat} {x : Int32} (lv' : List (Nat × Value)) (js : List Nat) (X : Cx E G A nL cc own Ts rm l) (d : decode cc pc = .ok (.istore_n k, 1)) (hi : (k : Nat) = i) (hn : i < nL) (hl' : lv_pick ((i, Value.int x) :: lv.filter (fun q => !(q.1 == i) && !(q.1 + 1 == i && q.2.category == 2))) js = lv') (hq : pc + 1 = pc') (kk : V E G A nL bs kc ks Q pc' lv' st) : V E G A nL bs kc ks Q pc lv (.int x :: st) := by
  subst hq; intro H locs ls hP hD hS hl; exact lv_istore_n X.1.1 X.1.2.1 d hi hl hn rfl (fun ls' h' => kk H locs ls' hP hD hS (lv_sub h' js hl'))
theorem V_istore {i : Nat} {x : Int32} (lv' : List (Nat × Value)) (js : List Nat) (X : Cx E G A nL cc own Ts rm l) (d : decode cc pc = .ok (.istore i, 2)) (hn : i < nL) (hl' : lv_pick ((i, Value.int x) :: lv.filter (fun q => !(q.1 == i) && !(q.1 + 1 == i && q.2.category == 2))) js = lv') (hq : pc + 2 = pc') (kk : V E G A nL bs kc ks Q pc' lv' st) : V E G A nL bs kc ks Q pc lv (.int x :: st) := by
  subst hq; intro H locs ls hP hD hS hl; exact lv_istore X.1.1 X.1.2.1 d hl hn rfl (fun ls' h' => kk H locs ls' hP hD hS (lv_sub h' js hl'))
theorem V_astore_n {k : Fin 4} {i : Nat} {x : Nat} (lv' : List (Nat × Value)) (js : List Nat) (X : Cx E G A nL cc own Ts rm l) (d : decode cc pc = .ok (.astore_n k, 1)) (hi : (k : Nat) = i) (hn : i < nL) (hl' : lv_pick ((i, Value.ref x) :: lv.filter (fun q => !(q.1 == i) && !(q.1 + 1 == i && q.2.category == 2))) js = lv') (hq : pc + 1 = pc') (kk : V E G A nL bs kc ks Q pc' lv' st) : V E G A nL bs kc ks Q pc lv (.ref x :: st) := by
  subst hq; intro H locs ls hP hD hS hl; exact lv_astore_n X.1.1 X.1.2.1 d hi hl hn rfl (fun ls' h' => kk H locs ls' hP hD hS (lv_sub h' js hl'))
theorem V_astore {i : Nat} {x : Nat} (lv' : List (Nat × Value)) (js : List Nat) (X : Cx E G A nL cc own Ts rm l) (d : decode cc pc = .ok (.astore i, 2)) (hn : i < nL) (hl' : lv_pick ((i, Value.ref x) :: lv.filter (fun q => !(q.1 == i) && !(q.1 + 1 == i && q.2.category == 2))) js = lv') (hq : pc + 2 = pc') (kk : V E G A nL bs kc ks Q pc' lv' st) : V E G A nL bs kc ks Q pc lv (.ref x :: st) := by
  subst hq; intro H locs ls hP hD hS hl; exact lv_astore X.1.1 X.1.2.1 d hl hn rfl (fun ls' h' => kk H locs ls' hP hD hS (lv_sub h' js hl'))
theorem V_astore_nN {k : Fin 4} {i : Nat} (lv' : List (Nat × Value)) (js : List Nat) (X : Cx E G A nL cc own Ts rm l) (d : decode cc pc = .ok (.astore_n k, 1)) (hi : (k : Nat) = i) (hn : i < nL) (hl' : lv_pick ((i, Value.null) :: lv.filter (fun q => !(q.1 == i) && !(q.1 + 1 == i && q.2.category == 2))) js = lv') (hq : pc + 1 = pc') (kk : V E G A nL bs kc ks Q pc' lv' st) : V E G A nL bs kc ks Q pc lv (.null :: st) := by
  subst hq; intro H locs ls hP hD hS hl; exact lv_astore_nN X.1.1 X.1.2.1 d hi hl hn rfl (fun ls' h' => kk H locs ls' hP hD hS (lv_sub h' js hl'))
theorem V_lstore_n {k : Fin 4} {i : Nat} {x : Int64} (lv' : List (Nat × Value)) (js : List Nat) (X : Cx E G A nL cc own Ts rm l) (d : decode cc pc = .ok (.lstore_n k, 1)) (hi : (k : Nat) = i) (hn : i + 1 < nL) (hl' : lv_pick ((i, Value.long x) :: lv.filter (fun q => !(q.1 == i) && (!(q.1 == i + 1) && !(q.1 + 1 == i && q.2.category == 2)))) js = lv') (hq : pc + 1 = pc') (kk : V E G A nL bs kc ks Q pc' lv' st) : V E G A nL bs kc ks Q pc lv (.long x :: st) := by
  subst hq; intro H locs ls hP hD hS hl; exact lv_lstore_n X.1.1 X.1.2.1 d hi hl hn rfl (fun ls' h' => kk H locs ls' hP hD hS (lv_sub h' js hl'))
theorem V_lstore {i : Nat} {x : Int64} (lv' : List (Nat × Value)) (js : List Nat) (X : Cx E G A nL cc own Ts rm l) (d : decode cc pc = .ok (.lstore i, 2)) (hn : i + 1 < nL) (hl' : lv_pick ((i, Value.long x) :: lv.filter (fun q => !(q.1 == i) && (!(q.1 == i + 1) && !(q.1 + 1 == i && q.2.category == 2)))) js = lv') (hq : pc + 2 = pc') (kk : V E G A nL bs kc ks Q pc' lv' st) : V E G A nL bs kc ks Q pc lv (.long x :: st) := by
  subst hq; intro H locs ls hP hD hS hl; exact lv_lstore X.1.1 X.1.2.1 d hl hn rfl (fun ls' h' => kk H locs ls' hP hD hS (lv_sub h' js hl'))
theorem V_iinc {i : Nat} {n : Int} {x v : Int32} (lv' : List (Nat × Value)) (j : Nat) (js : List Nat) (X : Cx E G A nL cc own Ts rm l) (d : decode cc pc = .ok (.iinc i n, 3)) (hj : lv[j]? = some (i, .int x)) (hv : x + Int32.ofInt n = v) (hn : i < nL) (hl' : lv_pick ((i, Value.int v) :: lv.filter (fun q => !(q.1 == i) && !(q.1 + 1 == i && q.2.category == 2))) js = lv') (hq : pc + 3 = pc') (kk : V E G A nL bs kc ks Q pc' lv' st) : V E G A nL bs kc ks Q pc lv st := by
  subst hq; intro H locs ls hP hD hS hl; exact lv_iinc X.1.1 X.1.2.1 d hl hj hv hn rfl (fun ls' h' => kk H locs ls' hP hD hS (lv_sub h' js hl'))
theorem V_iadd {x y : Int32} (v : Int32) (X : Cx E G A nL cc own Ts rm l) (d : decode cc pc = .ok (.iadd, 1)) (hv : x + y = v) (hq : pc + 1 = pc') (kk : V E G A nL bs kc ks Q pc' lv (.int v :: st)) : V E G A nL bs kc ks Q pc lv (.int y :: .int x :: st) := by
  subst hq; subst hv; intro H locs ls hP hD hS hl; exact lv_iadd X.1.1 X.1.2.1 d (kk H locs ls hP hD hS hl)
theorem V_isub {x y : Int32} (v : Int32) (X : Cx E G A nL cc own Ts rm l) (d : decode cc pc = .ok (.isub, 1)) (hv : x - y = v) (hq : pc + 1 = pc') (kk : V E G A nL bs kc ks Q pc' lv (.int v :: st)) : V E G A nL bs kc ks Q pc lv (.int y :: .int x :: st) := by
  subst hq; subst hv; intro H locs ls hP hD hS hl; exact lv_isub X.1.1 X.1.2.1 d (kk H locs ls hP hD hS hl)
theorem V_imul {x y : Int32} (v : Int32) (X : Cx E G A nL cc own Ts rm l) (d : decode cc pc = .ok (.imul, 1)) (hv : x * y = v) (hq : pc + 1 = pc') (kk : V E G A nL bs kc ks Q pc' lv (.int v :: st)) : V E G A nL bs kc ks Q pc lv (.int y :: .int x :: st) := by
  subst hq; subst hv; intro H locs ls hP hD hS hl; exact lv_imul X.1.1 X.1.2.1 d (kk H locs ls hP hD hS hl)
theorem V_iand {x y : Int32} (v : Int32) (X : Cx E G A nL cc own Ts rm l) (d : decode cc pc = .ok (.iand, 1)) (hv : x &&& y = v) (hq : pc + 1 = pc') (kk : V E G A nL bs kc ks Q pc' lv (.int v :: st)) : V E G A nL bs kc ks Q pc lv (.int y :: .int x :: st) := by
  subst hq; subst hv; intro H locs ls hP hD hS hl; exact lv_iand X.1.1 X.1.2.1 d (kk H locs ls hP hD hS hl)
theorem V_ior {x y : Int32} (v : Int32) (X : Cx E G A nL cc own Ts rm l) (d : decode cc pc = .ok (.ior, 1)) (hv : x ||| y = v) (hq : pc + 1 = pc') (kk : V E G A nL bs kc ks Q pc' lv (.int v :: st)) : V E G A nL bs kc ks Q pc lv (.int y :: .int x :: st) := by
  subst hq; subst hv; intro H locs ls hP hD hS hl; exact lv_ior X.1.1 X.1.2.1 d (kk H locs ls hP hD hS hl)
theorem V_ixor {x y : Int32} (v : Int32) (X : Cx E G A nL cc own Ts rm l) (d : decode cc pc = .ok (.ixor, 1)) (hv : x ^^^ y = v) (hq : pc + 1 = pc') (kk : V E G A nL bs kc ks Q pc' lv (.int v :: st)) : V E G A nL bs kc ks Q pc lv (.int y :: .int x :: st) := by
  subst hq; subst hv; intro H locs ls hP hD hS hl; exact lv_ixor X.1.1 X.1.2.1 d (kk H locs ls hP hD hS hl)
theorem V_ishl {x y : Int32} (v : Int32) (X : Cx E G A nL cc own Ts rm l) (d : decode cc pc = .ok (.ishl, 1)) (hv : x <<< (y &&& 31) = v) (hq : pc + 1 = pc') (kk : V E G A nL bs kc ks Q pc' lv (.int v :: st)) : V E G A nL bs kc ks Q pc lv (.int y :: .int x :: st) := by
  subst hq; subst hv; intro H locs ls hP hD hS hl; exact lv_ishl X.1.1 X.1.2.1 d (kk H locs ls hP hD hS hl)
theorem V_ishr {x y : Int32} (v : Int32) (X : Cx E G A nL cc own Ts rm l) (d : decode cc pc = .ok (.ishr, 1)) (hv : x >>> (y &&& 31) = v) (hq : pc + 1 = pc') (kk : V E G A nL bs kc ks Q pc' lv (.int v :: st)) : V E G A nL bs kc ks Q pc lv (.int y :: .int x :: st) := by
  subst hq; subst hv; intro H locs ls hP hD hS hl; exact lv_ishr X.1.1 X.1.2.1 d (kk H locs ls hP hD hS hl)
theorem V_iushr {x y : Int32} (v : Int32) (X : Cx E G A nL cc own Ts rm l) (d : decode cc pc = .ok (.iushr, 1)) (hv : (x.toUInt32 >>> (y.toUInt32 &&& Int32.toUInt32 31)).toInt32 = v) (hq : pc + 1 = pc') (kk : V E G A nL bs kc ks Q pc' lv (.int v :: st)) : V E G A nL bs kc ks Q pc lv (.int y :: .int x :: st) := by
  subst hq; intro H locs ls hP hD hS hl; exact lv_iushr X.1.1 X.1.2.1 d hv (kk H locs ls hP hD hS hl)
theorem V_idiv {x y : Int32} (v : Int32) (X : Cx E G A nL cc own Ts rm l) (d : decode cc pc = .ok (.idiv, 1)) (hn : ¬ y = 0) (hv : x / y = v) (hq : pc + 1 = pc') (kk : V E G A nL bs kc ks Q pc' lv (.int v :: st)) : V E G A nL bs kc ks Q pc lv (.int y :: .int x :: st) := by
  subst hq; subst hv; intro H locs ls hP hD hS hl; exact lv_idiv X.1.1 X.1.2.1 d hn (kk H locs ls hP hD hS hl)
theorem V_irem {x y : Int32} (v : Int32) (X : Cx E G A nL cc own Ts rm l) (d : decode cc pc = .ok (.irem, 1)) (hn : ¬ y = 0) (hv : x - x / y * y = v) (hq : pc + 1 = pc') (kk : V E G A nL bs kc ks Q pc' lv (.int v :: st)) : V E G A nL bs kc ks Q pc lv (.int y :: .int x :: st) := by
  subst hq; subst hv; intro H locs ls hP hD hS hl; exact lv_irem X.1.1 X.1.2.1 d hn (kk H locs ls hP hD hS hl)
theorem V_i2l {x : Int32} (v : Int64) (X : Cx E G A nL cc own Ts rm l) (d : decode cc pc = .ok (.i2l, 1)) (hv : x.toInt64 = v) (hq : pc + 1 = pc') (kk : V E G A nL bs kc ks Q pc' lv (.long v :: st)) : V E G A nL bs kc ks Q pc lv (.int x :: st) := by
  subst hq; intro H locs ls hP hD hS hl; exact lv_i2l X.1.1 X.1.2.1 d hv (kk H locs ls hP hD hS hl)
theorem V_l2i {x : Int64} (v : Int32) (X : Cx E G A nL cc own Ts rm l) (d : decode cc pc = .ok (.l2i, 1)) (hv : x.toInt32 = v) (hq : pc + 1 = pc') (kk : V E G A nL bs kc ks Q pc' lv (.int v :: st)) : V E G A nL bs kc ks Q pc lv (.long x :: st) := by
  subst hq; intro H locs ls hP hD hS hl; exact lv_l2i X.1.1 X.1.2.1 d hv (kk H locs ls hP hD hS hl)
theorem V_i2c {x : Int32} (v : Int32) (X : Cx E G A nL cc own Ts rm l) (d : decode cc pc = .ok (.i2c, 1)) (hv : (x.toUInt32 % 65536).toInt32 = v) (hq : pc + 1 = pc') (kk : V E G A nL bs kc ks Q pc' lv (.int v :: st)) : V E G A nL bs kc ks Q pc lv (.int x :: st) := by
  subst hq; intro H locs ls hP hD hS hl; exact lv_i2c X.1.1 X.1.2.1 d hv (kk H locs ls hP hD hS hl)
theorem V_lushr {x : Int64} {y : Int32} (v : Int64) (X : Cx E G A nL cc own Ts rm l) (d : decode cc pc = .ok (.lushr, 1)) (hv : (x.toUInt64 >>> (y.toInt64.toUInt64 &&& Int64.toUInt64 63)).toInt64 = v) (hq : pc + 1 = pc') (kk : V E G A nL bs kc ks Q pc' lv (.long v :: st)) : V E G A nL bs kc ks Q pc lv (.int y :: .long x :: st) := by
  subst hq; intro H locs ls hP hD hS hl; exact lv_lushr X.1.1 X.1.2.1 d hv (kk H locs ls hP hD hS hl)
theorem V_lshl {x : Int64} {y : Int32} (v : Int64) (X : Cx E G A nL cc own Ts rm l) (d : decode cc pc = .ok (.lshl, 1)) (hv : x <<< (y.toInt64 &&& 63) = v) (hq : pc + 1 = pc') (kk : V E G A nL bs kc ks Q pc' lv (.long v :: st)) : V E G A nL bs kc ks Q pc lv (.int y :: .long x :: st) := by
  subst hq; intro H locs ls hP hD hS hl; exact lv_lshl X.1.1 X.1.2.1 d hv (kk H locs ls hP hD hS hl)
theorem V_land {x y : Int64} (v : Int64) (X : Cx E G A nL cc own Ts rm l) (d : decode cc pc = .ok (.land, 1)) (hv : x &&& y = v) (hq : pc + 1 = pc') (kk : V E G A nL bs kc ks Q pc' lv (.long v :: st)) : V E G A nL bs kc ks Q pc lv (.long y :: .long x :: st) := by
  subst hq; subst hv; intro H locs ls hP hD hS hl; exact lv_land X.1.1 X.1.2.1 d (kk H locs ls hP hD hS hl)
theorem V_lor {x y : Int64} (v : Int64) (X : Cx E G A nL cc own Ts rm l) (d : decode cc pc = .ok (.lor, 1)) (hv : x ||| y = v) (hq : pc + 1 = pc') (kk : V E G A nL bs kc ks Q pc' lv (.long v :: st)) : V E G A nL bs kc ks Q pc lv (.long y :: .long x :: st) := by
  subst hq; subst hv; intro H locs ls hP hD hS hl; exact lv_lor X.1.1 X.1.2.1 d (kk H locs ls hP hD hS hl)
theorem V_dup {a : Value} (X : Cx E G A nL cc own Ts rm l) (d : decode cc pc = .ok (.dup, 1)) (ha : a.category = 1) (hq : pc + 1 = pc') (kk : V E G A nL bs kc ks Q pc' lv (a :: a :: st)) : V E G A nL bs kc ks Q pc lv (a :: st) := by
  subst hq; intro H locs ls hP hD hS hl; exact lv_dup X.1.1 X.1.2.1 d ha (kk H locs ls hP hD hS hl)
theorem V_pop {a : Value} (X : Cx E G A nL cc own Ts rm l) (d : decode cc pc = .ok (.pop, 1)) (ha : a.category = 1) (hq : pc + 1 = pc') (kk : V E G A nL bs kc ks Q pc' lv st) : V E G A nL bs kc ks Q pc lv (a :: st) := by
  subst hq; intro H locs ls hP hD hS hl; exact lv_pop X.1.1 X.1.2.1 d ha (kk H locs ls hP hD hS hl)
theorem V_dup_x1 {a b : Value} (X : Cx E G A nL cc own Ts rm l) (d : decode cc pc = .ok (.dup_x1, 1)) (ha : a.category = 1) (hb : b.category = 1) (hq : pc + 1 = pc') (kk : V E G A nL bs kc ks Q pc' lv (a :: b :: a :: st)) : V E G A nL bs kc ks Q pc lv (a :: b :: st) := by
  subst hq; intro H locs ls hP hD hS hl; exact lv_dup_x1 X.1.1 X.1.2.1 d ha hb (kk H locs ls hP hD hS hl)
theorem V_dup_x2 {a b c : Value} (X : Cx E G A nL cc own Ts rm l) (d : decode cc pc = .ok (.dup_x2, 1)) (ha : a.category = 1) (hb : b.category = 1) (hc : c.category = 1) (hq : pc + 1 = pc') (kk : V E G A nL bs kc ks Q pc' lv (a :: b :: c :: a :: st)) : V E G A nL bs kc ks Q pc lv (a :: b :: c :: st) := by
  subst hq; intro H locs ls hP hD hS hl; exact lv_dup_x2 X.1.1 X.1.2.1 d ha hb hc (kk H locs ls hP hD hS hl)
theorem V_dup2 {a b : Value} (X : Cx E G A nL cc own Ts rm l) (d : decode cc pc = .ok (.dup2, 1)) (ha : a.category = 1) (hb : b.category = 1) (hq : pc + 1 = pc') (kk : V E G A nL bs kc ks Q pc' lv (a :: b :: a :: b :: st)) : V E G A nL bs kc ks Q pc lv (a :: b :: st) := by
  subst hq; intro H locs ls hP hD hS hl; exact lv_dup2_11 X.1.1 X.1.2.1 d ha hb (kk H locs ls hP hD hS hl)
theorem V_lcmp {x y : Int64} (v : Int32) (X : Cx E G A nL cc own Ts rm l) (d : decode cc pc = .ok (.lcmp, 1)) (hv : lg_cmp x y = v) (hq : pc + 1 = pc') (kk : V E G A nL bs kc ks Q pc' lv (.int v :: st)) : V E G A nL bs kc ks Q pc lv (.long y :: .long x :: st) := by
  subst hq; subst hv; intro H locs ls hP hD hS hl
  exact W.lcmp X.1.1 X.1.2.1 d (kk H locs ls hP hD hS hl)
theorem V_goto {off : Int} (X : Cx E G A nL cc own Ts rm l) (d : decode cc pc = .ok (.goto off, 3)) (ht : (pc : Int) + off = (pc' : Int)) (kk : V E G A nL bs kc ks Q pc' lv st) : V E G A nL bs kc ks Q pc lv st := by
  intro H locs ls hP hD hS hl; exact lv_goto X.1.1 X.1.2.1 d ht (kk H locs ls hP hD hS hl)
theorem V_tableIn {dflt lo hi : Int} {offs : Array Int} {len : Nat} {x : Int32} {off : Int} {tgt : Nat} (X : Cx E G A nL cc own Ts rm l) (d : decode cc pc = .ok (.tableswitch dflt lo hi offs, len)) (h1 : ¬ x.toInt < lo) (h2 : ¬ hi < x.toInt) (ho : offs[(x.toInt - lo).toNat]? = some off) (ht : (pc : Int) + off = (tgt : Int)) (kk : V E G A nL bs kc ks Q tgt lv st) : V E G A nL bs kc ks Q pc lv (.int x :: st) := by
  intro H locs ls hP hD hS hl; exact lv_tableIn X.1.1 X.1.2.1 d h1 h2 ho ht (kk H locs ls hP hD hS hl)
theorem V_tableOut {dflt lo hi : Int} {offs : Array Int} {len : Nat} {x : Int32} {tgt : Nat} (X : Cx E G A nL cc own Ts rm l) (d : decode cc pc = .ok (.tableswitch dflt lo hi offs, len)) (h : x.toInt < lo ∨ hi < x.toInt) (ht : (pc : Int) + dflt = (tgt : Int)) (kk : V E G A nL bs kc ks Q tgt lv st) : V E G A nL bs kc ks Q pc lv (.int x :: st) := by
  intro H locs ls hP hD hS hl; exact lv_tableOut X.1.1 X.1.2.1 d h ht (kk H locs ls hP hD hS hl)
theorem V_ifnull {x : Nat} {off : Int} (X : Cx E G A nL cc own Ts rm l) (d : decode cc pc = .ok (.ifnull off, 3)) (hq : pc + 3 = pc') (kk : V E G A nL bs kc ks Q pc' lv st) : V E G A nL bs kc ks Q pc lv (.ref x :: st) := by
  subst hq; intro H locs ls hP hD hS hl; exact lv_ifnull X.1.1 X.1.2.1 d (kk H locs ls hP hD hS hl)
theorem V_ifnullN {off : Int} (X : Cx E G A nL cc own Ts rm l) (d : decode cc pc = .ok (.ifnull off, 3)) (ht : (pc : Int) + off = (pc' : Int)) (kk : V E G A nL bs kc ks Q pc' lv st) : V E G A nL bs kc ks Q pc lv (.null :: st) := by
  intro H locs ls hP hD hS hl; exact lv_ifnullN X.1.1 X.1.2.1 d ht (kk H locs ls hP hD hS hl)
theorem V_ifnonnull {x : Nat} {off : Int} (X : Cx E G A nL cc own Ts rm l) (d : decode cc pc = .ok (.ifnonnull off, 3)) (ht : (pc : Int) + off = (pc' : Int)) (kk : V E G A nL bs kc ks Q pc' lv st) : V E G A nL bs kc ks Q pc lv (.ref x :: st) := by
  intro H locs ls hP hD hS hl; exact lv_ifnonnull X.1.1 X.1.2.1 d ht (kk H locs ls hP hD hS hl)
theorem V_ifnonnullN {off : Int} (X : Cx E G A nL cc own Ts rm l) (d : decode cc pc = .ok (.ifnonnull off, 3)) (hq : pc + 3 = pc') (kk : V E G A nL bs kc ks Q pc' lv st) : V E G A nL bs kc ks Q pc lv (.null :: st) := by
  subst hq; intro H locs ls hP hD hS hl; exact lv_ifnonnullN X.1.1 X.1.2.1 d (kk H locs ls hP hD hS hl)
theorem V_if_eq {x : Int32} {off : Int} {C : Prop} (tgt : Nat) (X : Cx E G A nL cc own Ts rm l) (d : decode cc pc = .ok (.ifCond .eq off, 3)) (ht : (pc : Int) + off = (tgt : Int)) (hq : pc + 3 = pc') (hc : (x = 0) ↔ C) (kt : C → V E G A nL bs kc ks Q tgt lv st) (kf : ¬ C → V E G A nL bs kc ks Q pc' lv st) : V E G A nL bs kc ks Q pc lv (.int x :: st) := by
  subst hq; intro H locs ls hP hD hS hl; exact lv_if_eq X.1.1 X.1.2.1 d ht (fun h => kt (hc.mp h) H locs ls hP hD hS hl) (fun h => kf (fun q => h (hc.mpr q)) H locs ls hP hD hS hl)
theorem V_icmp_eq {x y : Int32} {off : Int} {C : Prop} (tgt : Nat) (X : Cx E G A nL cc own Ts rm l) (d : decode cc pc = .ok (.if_icmp .eq off, 3)) (ht : (pc : Int) + off = (tgt : Int)) (hq : pc + 3 = pc') (hc : (x = y) ↔ C) (kt : C → V E G A nL bs kc ks Q tgt lv st) (kf : ¬ C → V E G A nL bs kc ks Q pc' lv st) : V E G A nL bs kc ks Q pc lv (.int y :: .int x :: st) := by
  subst hq; intro H locs ls hP hD hS hl; exact lv_icmp_eq X.1.1 X.1.2.1 d ht (fun h => kt (hc.mp h) H locs ls hP hD hS hl) (fun h => kf (fun q => h (hc.mpr q)) H locs ls hP hD hS hl)
theorem V_if_ne {x : Int32} {off : Int} {C : Prop} (tgt : Nat) (X : Cx E G A nL cc own Ts rm l) (d : decode cc pc = .ok (.ifCond .ne off, 3)) (ht : (pc : Int) + off = (tgt : Int)) (hq : pc + 3 = pc') (hc : (x = 0) ↔ C) (kt : ¬ C → V E G A nL bs kc ks Q tgt lv st) (kf : C → V E G A nL bs kc ks Q pc' lv st) : V E G A nL bs kc ks Q pc lv (.int x :: st) := by
  subst hq; intro H locs ls hP hD hS hl; exact lv_if_ne X.1.1 X.1.2.1 d ht (fun h => kt (fun q => h (hc.mpr q)) H locs ls hP hD hS hl) (fun h => kf (hc.mp h) H locs ls hP hD hS hl)
theorem V_icmp_ne {x y : Int32} {off : Int} {C : Prop} (tgt : Nat) (X : Cx E G A nL cc own Ts rm l) (d : decode cc pc = .ok (.if_icmp .ne off, 3)) (ht : (pc : Int) + off = (tgt : Int)) (hq : pc + 3 = pc') (hc : (x = y) ↔ C) (kt : ¬ C → V E G A nL bs kc ks Q tgt lv st) (kf : C → V E G A nL bs kc ks Q pc' lv st) : V E G A nL bs kc ks Q pc lv (.int y :: .int x :: st) := by
  subst hq; intro H locs ls hP hD hS hl; exact lv_icmp_ne X.1.1 X.1.2.1 d ht (fun h => kt (fun q => h (hc.mpr q)) H locs ls hP hD hS hl) (fun h => kf (hc.mp h) H locs ls hP hD hS hl)
theorem V_if_lt {x : Int32} {off : Int} {C : Prop} (tgt : Nat) (X : Cx E G A nL cc own Ts rm l) (d : decode cc pc = .ok (.ifCond .lt off, 3)) (ht : (pc : Int) + off = (tgt : Int)) (hq : pc + 3 = pc') (hc : (x < 0) ↔ C) (kt : C → V E G A nL bs kc ks Q tgt lv st) (kf : ¬ C → V E G A nL bs kc ks Q pc' lv st) : V E G A nL bs kc ks Q pc lv (.int x :: st) := by
  subst hq; intro H locs ls hP hD hS hl; exact lv_if_lt X.1.1 X.1.2.1 d ht (fun h => kt (hc.mp h) H locs ls hP hD hS hl) (fun h => kf (fun q => h (hc.mpr q)) H locs ls hP hD hS hl)
theorem V_icmp_lt {x y : Int32} {off : Int} {C : Prop} (tgt : Nat) (X : Cx E G A nL cc own Ts rm l) (d : decode cc pc = .ok (.if_icmp .lt off, 3)) (ht : (pc : Int) + off = (tgt : Int)) (hq : pc + 3 = pc') (hc : (x < y) ↔ C) (kt : C → V E G A nL bs kc ks Q tgt lv st) (kf : ¬ C → V E G A nL bs kc ks Q pc' lv st) : V E G A nL bs kc ks Q pc lv (.int y :: .int x :: st) := by
  subst hq; intro H locs ls hP hD hS hl; exact lv_icmp_lt X.1.1 X.1.2.1 d ht (fun h => kt (hc.mp h) H locs ls hP hD hS hl) (fun h => kf (fun q => h (hc.mpr q)) H locs ls hP hD hS hl)
theorem V_if_ge {x : Int32} {off : Int} {C : Prop} (tgt : Nat) (X : Cx E G A nL cc own Ts rm l) (d : decode cc pc = .ok (.ifCond .ge off, 3)) (ht : (pc : Int) + off = (tgt : Int)) (hq : pc + 3 = pc') (hc : (0 ≤ x) ↔ C) (kt : C → V E G A nL bs kc ks Q tgt lv st) (kf : ¬ C → V E G A nL bs kc ks Q pc' lv st) : V E G A nL bs kc ks Q pc lv (.int x :: st) := by
  subst hq; intro H locs ls hP hD hS hl; exact lv_if_ge X.1.1 X.1.2.1 d ht (fun h => kt (hc.mp h) H locs ls hP hD hS hl) (fun h => kf (fun q => h (hc.mpr q)) H locs ls hP hD hS hl)
theorem V_icmp_ge {x y : Int32} {off : Int} {C : Prop} (tgt : Nat) (X : Cx E G A nL cc own Ts rm l) (d : decode cc pc = .ok (.if_icmp .ge off, 3)) (ht : (pc : Int) + off = (tgt : Int)) (hq : pc + 3 = pc') (hc : (y ≤ x) ↔ C) (kt : C → V E G A nL bs kc ks Q tgt lv st) (kf : ¬ C → V E G A nL bs kc ks Q pc' lv st) : V E G A nL bs kc ks Q pc lv (.int y :: .int x :: st) := by
  subst hq; intro H locs ls hP hD hS hl; exact lv_icmp_ge X.1.1 X.1.2.1 d ht (fun h => kt (hc.mp h) H locs ls hP hD hS hl) (fun h => kf (fun q => h (hc.mpr q)) H locs ls hP hD hS hl)
theorem V_if_gt {x : Int32} {off : Int} {C : Prop} (tgt : Nat) (X : Cx E G A nL cc own Ts rm l) (d : decode cc pc = .ok (.ifCond .gt off, 3)) (ht : (pc : Int) + off = (tgt : Int)) (hq : pc + 3 = pc') (hc : (0 < x) ↔ C) (kt : C → V E G A nL bs kc ks Q tgt lv st) (kf : ¬ C → V E G A nL bs kc ks Q pc' lv st) : V E G A nL bs kc ks Q pc lv (.int x :: st) := by
  subst hq; intro H locs ls hP hD hS hl; exact lv_if_gt X.1.1 X.1.2.1 d ht (fun h => kt (hc.mp h) H locs ls hP hD hS hl) (fun h => kf (fun q => h (hc.mpr q)) H locs ls hP hD hS hl)
theorem V_icmp_gt {x y : Int32} {off : Int} {C : Prop} (tgt : Nat) (X : Cx E G A nL cc own Ts rm l) (d : decode cc pc = .ok (.if_icmp .gt off, 3)) (ht : (pc : Int) + off = (tgt : Int)) (hq : pc + 3 = pc') (hc : (y < x) ↔ C) (kt : C → V E G A nL bs kc ks Q tgt lv st) (kf : ¬ C → V E G A nL bs kc ks Q pc' lv st) : V E G A nL bs kc ks Q pc lv (.int y :: .int x :: st) := by
  subst hq; intro H locs ls hP hD hS hl; exact lv_icmp_gt X.1.1 X.1.2.1 d ht (fun h => kt (hc.mp h) H locs ls hP hD hS hl) (fun h => kf (fun q => h (hc.mpr q)) H locs ls hP hD hS hl)
theorem V_if_le {x : Int32} {off : Int} {C : Prop} (tgt : Nat) (X : Cx E G A nL cc own Ts rm l) (d : decode cc pc = .ok (.ifCond .le off, 3)) (ht : (pc : Int) + off = (tgt : Int)) (hq : pc + 3 = pc') (hc : (x ≤ 0) ↔ C) (kt : C → V E G A nL bs kc ks Q tgt lv st) (kf : ¬ C → V E G A nL bs kc ks Q pc' lv st) : V E G A nL bs kc ks Q pc lv (.int x :: st) := by
  subst hq; intro H locs ls hP hD hS hl; exact lv_if_le X.1.1 X.1.2.1 d ht (fun h => kt (hc.mp h) H locs ls hP hD hS hl) (fun h => kf (fun q => h (hc.mpr q)) H locs ls hP hD hS hl)
theorem V_icmp_le {x y : Int32} {off : Int} {C : Prop} (tgt : Nat) (X : Cx E G A nL cc own Ts rm l) (d : decode cc pc = .ok (.if_icmp .le off, 3)) (ht : (pc : Int) + off = (tgt : Int)) (hq : pc + 3 = pc') (hc : (x ≤ y) ↔ C) (kt : C → V E G A nL bs kc ks Q tgt lv st) (kf : ¬ C → V E G A nL bs kc ks Q pc' lv st) : V E G A nL bs kc ks Q pc lv (.int y :: .int x :: st) := by
  subst hq; intro H locs ls hP hD hS hl; exact lv_icmp_le X.1.1 X.1.2.1 d ht (fun h => kt (hc.mp h) H locs ls hP hD hS hl) (fun h => kf (fun q => h (hc.mpr q)) H locs ls hP hD hS hl)
end VR
def cN (ci : Nat) : Nat := match ci with | 0 => 10 | 1 => 1 | 2 => 2 | 3 => 2 | 4 => 2 | 5 => 5 | _ => 11
def cT (ci : Nat) : u_T := match ci with | 0 => TX0 | 1 => TX1 | 2 => TX2 | 3 => TX3 | 4 => TX4 | 5 => TX5 | _ => TX6
def cR (ci : Nat) : String := match ci with | 0 => RX0 | 1 => RX1 | 2 => RX2 | 3 => RX3 | 4 => RX4 | 5 => RX5 | _ => RX6
def cty (ci : Nat) : Nat → FieldType := match ci with | 0 => tyX0 | 1 => tyX1 | 2 => tyX2 | 3 => tyX3 | 4 => tyX4 | 5 => tyX5 | _ => tyX6
theorem c_cl : ∀ {ci : Nat}, ci < 7 → vwCl[ci]? = some (cR ci, cT ci, cN ci)
  | 0, _ => rfl | 1, _ => rfl | 2, _ => rfl | 3, _ => rfl | 4, _ => rfl | 5, _ => rfl | 6, _ => rfl
  | n + 7, h => absurd h (by omega)
theorem c_nm : ∀ {ci : Nat}, ci < 7 → ∀ a, a < cN ci → ∀ b, b < cN ci → a ≠ b → (cT ci a).2.1 ≠ (cT ci b).2.1
  | 0, _ => nmX0 | 1, _ => nmX1 | 2, _ => nmX2 | 3, _ => nmX3 | 4, _ => nmX4 | 5, _ => nmX5 | 6, _ => nmX6
  | n + 7, h => absurd h (by omega)
theorem c_ty : ∀ {ci : Nat}, ci < 7 → ∀ k, k < cN ci → parseFieldDescriptor (cT ci k).2.2.1 = some (cty ci k)
  | 0, _ => tyX0_ok | 1, _ => tyX1_ok | 2, _ => tyX2_ok | 3, _ => tyX3_ok | 4, _ => tyX4_ok | 5, _ => tyX5_ok | 6, _ => tyX6_ok
  | n + 7, h => absurd h (by omega)
/-- a field's link from this body -/
def Fld (E : EE) (own : String) (ci k idx : Nat) : Prop := ci < 7 ∧ k < cN ci ∧ (Cond.fieldLink own idx (cT ci k).1 (cT ci k).2.1 (cT ci k).2.2.1).before (e_a E) (e_s E) = true ∧ ∀ w ∈ u_ws (cR ci) (cT ci) (cN ci), w.before (e_a E) (e_s E) = true
theorem va_K_id {D : va_G} {cl : List vw_C} {tys : List (ClassId × FieldType)} {cA c0 : ClassId} {ty : FieldType} {U : State} (h : va_K D cl (tys ++ [(cA, ty)]) U) (k : Nat) (hk : tys[k]? = some (c0, ty)) : cA = c0 := by
  have h1 := (h.2 tys.length (cA, ty) (by rw [List.getElem?_append_right (Nat.le_refl _), Nat.sub_self]; rfl)).2
  have hl : k < tys.length := (List.getElem?_eq_some_iff.mp hk).1
  have h2 := (h.2 k (c0, ty) (by rw [List.getElem?_append_left hl]; exact hk)).2
  cases ty with
  | object C =>
    obtain ⟨_, _, -, -, -, e1⟩ := h1
    obtain ⟨_, _, -, -, -, e2⟩ := h2
    exact Option.some.inj (e1.symm.trans e2)
  | _ => exact Option.some.inj (Eq.trans (Eq.symm h1) h2)
section VM
variable {E : EE} {G : gT} {A : Nat → Prop} {nL : Nat} {bs bs' : List va_W} {kc ks : Nat} {Q : State → Prop} {pc pc' : Nat} {lv lv' : List (Nat × Value)} {st : List Value} {cc : ByteArray} {own : String} {Ts : List Cond} {rm : Room} {l : Launch}
theorem Fld_of {idx : Nat} (ci k : Nat) (X : Cx E G A nL cc own Ts rm l) (h1 : ci < 7) (h2 : k < cN ci) (h3 : Cond.fieldLink own idx (cT ci k).1 (cT ci k).2.1 (cT ci k).2.2.1 ∈ Ts) (h4 : ∀ w ∈ u_ws (cR ci) (cT ci) (cN ci), w ∈ Ts) : Fld E own ci k idx :=
  ⟨h1, h2, X.1.2.2.2.2 _ h3, fun w hw => X.1.2.2.2.2 w (h4 w hw)⟩
theorem V_get {ci k idx a : Nat} {fs : List Value} {v : Value} (q0 : Nat) (X : Cx E G A nL cc own Ts rm l) (F : Fld E own ci k idx) (he : bs.flatten[q0]? = some (a, .inr (ci, fs))) (hv : fs[k]? = some v) (d : decode cc pc = .ok (.getfield idx, 3)) (hq : pc + 3 = pc') (kk : V E G A nL bs kc ks Q pc' lv (v :: st)) : V E G A nL bs kc ks Q pc lv (.ref a :: st) := by
  subst hq; intro H locs ls hP hD hS hl
  exact va_get X.1.1 X.1.2.1 F.2.2.2 (fun _ h => h) X.1.2.2.2.1 X.2.1.1 hP q0 he (c_cl F.1) k F.2.1 F.2.2.1 (fun _ h => h) hv d (kk H locs ls hP hD hS hl)
theorem V_put {ci k idx a : Nat} {fs : List Value} {v : Value} (q0 : Nat) (bs' : List va_W) (X : Cx E G A nL cc own Ts rm l) (F : Fld E own ci k idx) (he : bs.flatten[q0]? = some (a, .inr (ci, fs))) (hfin : (cT ci k).2.2.2 = false) (hn : narrow (cty ci k) v = v) (hf : fits (cty ci k) v = true) (hk : k < fs.length) (hw : bs.flatten.set q0 (a, .inr (ci, fs.set k v)) = bs'.flatten) (d : decode cc pc = .ok (.putfield idx, 3)) (hq : pc + 3 = pc') (kk : V E G A nL bs' kc ks Q pc' lv st) : V E G A nL bs kc ks Q pc lv (v :: .ref a :: st) := by
  subst hq; intro H locs ls hP hD hS hl
  refine va_put X.1.1 X.1.2.1 F.2.2.2 (fun _ h => h) (cty ci) (c_ty F.1) (c_nm F.1) X.1.2.2.2.1 X.2.1.1 hP hD hS q0 he (c_cl F.1) k F.2.1 F.2.2.1 (fun _ h => h) hfin (c_ty F.1 k F.2.1) hn hf hk d (fun H1 locs1 hP hD hS => ?_)
  rw [hw] at hP hD
  exact kk H1 locs1 ls hP hD hS hl
theorem V_putF {ci k idx a : Nat} {fs : List Value} {v : Value} (q0 : Nat) (bs' : List va_W) (X : Cx E G A nL cc own Ts rm l) (F : Fld E own ci k idx) (he : bs.flatten[q0]? = some (a, .inr (ci, fs))) (hfin : (cT ci k).2.2.2 = true) (hi : (e_h E).name = "<init>") (hdc : (cT ci k).1 = own) (hn : narrow (cty ci k) v = v) (hf : fits (cty ci k) v = true) (hk : k < fs.length) (hw : bs.flatten.set q0 (a, .inr (ci, fs.set k v)) = bs'.flatten) (d : decode cc pc = .ok (.putfield idx, 3)) (hq : pc + 3 = pc') (kk : V E G A nL bs' kc ks Q pc' lv st) : V E G A nL bs kc ks Q pc lv (v :: .ref a :: st) := by
  subst hq; intro H locs ls hP hD hS hl
  refine va_putF X.1.1 X.1.2.1 F.2.2.2 (fun _ h => h) (cty ci) (c_ty F.1) (c_nm F.1) X.1.2.2.2.1 X.2.1.1 hP hD hS q0 he (c_cl F.1) k F.2.1 F.2.2.1 (fun _ h => h) hfin hi hdc (c_ty F.1 k F.2.1) hn hf hk d (fun H1 locs1 hP hD hS => ?_)
  rw [hw] at hP hD
  exact kk H1 locs1 ls hP hD hS hl
theorem V_iald {a n : Nat} {f : Nat → Int32} {v : Int32} (q0 j : Nat) (X : Cx E G A nL cc own Ts rm l) (he : bs.flatten[q0]? = some (a, .inl (G.2 0, n, .inl f))) (hj : j < n) (hn : n < 2 ^ 31) (hv : f j = v) (d : decode cc pc = .ok (.iaload, 1)) (hq : pc + 1 = pc') (kk : V E G A nL bs kc ks Q pc' lv (.int v :: st)) : V E G A nL bs kc ks Q pc lv (.int (nI j) :: .ref a :: st) := by
  subst hq; subst hv; intro H locs ls hP hD hS hl
  refine va_iald X.1.1 X.1.2.1 X.2.1.1 hP q0 0 he rfl (vp_in_nI hj hn) d ?_
  rw [nI_clamp (Nat.lt_trans hj hn)]
  exact kk H locs ls hP hD hS hl
theorem V_cald {a n : Nat} {f : Nat → Int32} {v : Int32} (q0 j : Nat) (X : Cx E G A nL cc own Ts rm l) (he : bs.flatten[q0]? = some (a, .inl (G.2 1, n, .inl f))) (hj : j < n) (hn : n < 2 ^ 31) (hv : f j = v) (d : decode cc pc = .ok (.caload, 1)) (hq : pc + 1 = pc') (kk : V E G A nL bs kc ks Q pc' lv (.int v :: st)) : V E G A nL bs kc ks Q pc lv (.int (nI j) :: .ref a :: st) := by
  subst hq; subst hv; intro H locs ls hP hD hS hl
  refine va_cald X.1.1 X.1.2.1 X.2.1.1 hP q0 1 he rfl (vp_in_nI hj hn) d ?_
  rw [nI_clamp (Nat.lt_trans hj hn)]
  exact kk H locs ls hP hD hS hl
theorem V_zald {a n : Nat} {f : Nat → Int32} {v : Int32} (q0 j : Nat) (X : Cx E G A nL cc own Ts rm l) (he : bs.flatten[q0]? = some (a, .inl (G.2 2, n, .inl f))) (hj : j < n) (hn : n < 2 ^ 31) (hv : f j = v) (d : decode cc pc = .ok (.baload, 1)) (hq : pc + 1 = pc') (kk : V E G A nL bs kc ks Q pc' lv (.int v :: st)) : V E G A nL bs kc ks Q pc lv (.int (nI j) :: .ref a :: st) := by
  subst hq; subst hv; intro H locs ls hP hD hS hl
  refine va_zald X.1.1 X.1.2.1 X.2.1.1 hP q0 2 he rfl (vp_in_nI hj hn) d ?_
  rw [nI_clamp (Nat.lt_trans hj hn)]
  exact kk H locs ls hP hD hS hl
theorem V_lald {a n : Nat} {f : Nat → Int64} {v : Int64} (q0 j : Nat) (X : Cx E G A nL cc own Ts rm l) (he : bs.flatten[q0]? = some (a, .inl (G.2 4, n, .inr (.inl f)))) (hj : j < n) (hn : n < 2 ^ 31) (hv : f j = v) (d : decode cc pc = .ok (.laload, 1)) (hq : pc + 1 = pc') (kk : V E G A nL bs kc ks Q pc' lv (.long v :: st)) : V E G A nL bs kc ks Q pc lv (.int (nI j) :: .ref a :: st) := by
  subst hq; subst hv; intro H locs ls hP hD hS hl
  refine va_lald X.1.1 X.1.2.1 X.2.1.1 hP q0 4 he rfl (vp_in_nI hj hn) d ?_
  rw [nI_clamp (Nat.lt_trans hj hn)]
  exact kk H locs ls hP hD hS hl
theorem V_aald {a n : Nat} {f : Nat → Option Nat} {v : Value} (q0 j : Nat) (X : Cx E G A nL cc own Ts rm l) (he : bs.flatten[q0]? = some (a, .inl (G.2 3, n, .inr (.inr (.inr (.inr f)))))) (hj : j < n) (hn : n < 2 ^ 31) (hv : va_rf (f j) = v) (d : decode cc pc = .ok (.aaload, 1)) (hq : pc + 1 = pc') (kk : V E G A nL bs kc ks Q pc' lv (v :: st)) : V E G A nL bs kc ks Q pc lv (.int (nI j) :: .ref a :: st) := by
  subst hq; subst hv; intro H locs ls hP hD hS hl
  refine va_aldq X.1.1 X.1.2.1 X.2.1.1 hP q0 3 he rfl (vp_in_nI hj hn) d ?_
  rw [nI_clamp (Nat.lt_trans hj hn)]
  exact kk H locs ls hP hD hS hl
theorem V_iast {a n : Nat} {f : Nat → Int32} {x : Int32} (q0 j : Nat) (bs' : List va_W) (X : Cx E G A nL cc own Ts rm l) (he : bs.flatten[q0]? = some (a, .inl (G.2 0, n, .inl f))) (hj : j < n) (hn : n < 2 ^ 31) (hw : bs.flatten.set q0 (a, .inl (G.2 0, n, .inl (upd f j x))) = bs'.flatten) (d : decode cc pc = .ok (.iastore, 1)) (hq : pc + 1 = pc') (kk : V E G A nL bs' kc ks Q pc' lv st) : V E G A nL bs kc ks Q pc lv (.int x :: .int (nI j) :: .ref a :: st) := by
  subst hq; intro H locs ls hP hD hS hl
  refine va_iast X.1.1 X.1.2.1 X.2.1.1 hP hD hS q0 0 he rfl (vp_in_nI hj hn) d (fun H1 locs1 hP hD hS => ?_)
  rw [nI_clamp (Nat.lt_trans hj hn), hw] at hP hD
  exact kk H1 locs1 ls hP hD hS hl
theorem V_cast {a n : Nat} {f : Nat → Int32} {x y : Int32} (q0 j : Nat) (bs' : List va_W) (X : Cx E G A nL cc own Ts rm l) (he : bs.flatten[q0]? = some (a, .inl (G.2 1, n, .inl f))) (hj : j < n) (hn : n < 2 ^ 31) (hx : vp_nar .char x = y) (hw : bs.flatten.set q0 (a, .inl (G.2 1, n, .inl (upd f j y))) = bs'.flatten) (d : decode cc pc = .ok (.castore, 1)) (hq : pc + 1 = pc') (kk : V E G A nL bs' kc ks Q pc' lv st) : V E G A nL bs kc ks Q pc lv (.int x :: .int (nI j) :: .ref a :: st) := by
  subst hq; intro H locs ls hP hD hS hl
  refine va_cast X.1.1 X.1.2.1 X.2.1.1 hP hD hS q0 1 he rfl (vp_in_nI hj hn) d (fun H1 locs1 hP hD hS => ?_)
  rw [nI_clamp (Nat.lt_trans hj hn), hx, hw] at hP hD
  exact kk H1 locs1 ls hP hD hS hl
theorem V_zast {a n : Nat} {f : Nat → Int32} {x y : Int32} (q0 j : Nat) (bs' : List va_W) (X : Cx E G A nL cc own Ts rm l) (he : bs.flatten[q0]? = some (a, .inl (G.2 2, n, .inl f))) (hj : j < n) (hn : n < 2 ^ 31) (hx : vp_nar .boolean x = y) (hw : bs.flatten.set q0 (a, .inl (G.2 2, n, .inl (upd f j y))) = bs'.flatten) (d : decode cc pc = .ok (.bastore, 1)) (hq : pc + 1 = pc') (kk : V E G A nL bs' kc ks Q pc' lv st) : V E G A nL bs kc ks Q pc lv (.int x :: .int (nI j) :: .ref a :: st) := by
  subst hq; intro H locs ls hP hD hS hl
  refine va_zast X.1.1 X.1.2.1 X.2.1.1 hP hD hS q0 2 he rfl (vp_in_nI hj hn) d (fun H1 locs1 hP hD hS => ?_)
  rw [nI_clamp (Nat.lt_trans hj hn), hx, hw] at hP hD
  exact kk H1 locs1 ls hP hD hS hl
theorem V_last {a n : Nat} {f : Nat → Int64} {x : Int64} (q0 j : Nat) (bs' : List va_W) (X : Cx E G A nL cc own Ts rm l) (he : bs.flatten[q0]? = some (a, .inl (G.2 4, n, .inr (.inl f)))) (hj : j < n) (hn : n < 2 ^ 31) (hw : bs.flatten.set q0 (a, .inl (G.2 4, n, .inr (.inl (vp_updL f j x)))) = bs'.flatten) (d : decode cc pc = .ok (.lastore, 1)) (hq : pc + 1 = pc') (kk : V E G A nL bs' kc ks Q pc' lv st) : V E G A nL bs kc ks Q pc lv (.long x :: .int (nI j) :: .ref a :: st) := by
  subst hq; intro H locs ls hP hD hS hl
  refine va_last X.1.1 X.1.2.1 X.2.1.1 hP hD hS q0 4 he rfl (vp_in_nI hj hn) d (fun H1 locs1 hP hD hS => ?_)
  rw [nI_clamp (Nat.lt_trans hj hn), hw] at hP hD
  exact kk H1 locs1 ls hP hD hS hl
theorem V_aast {a n v : Nat} {vs : List Value} {f : Nat → Option Nat} (q0 qk j : Nat) (bs' : List va_W) (X : Cx E G A nL cc own Ts rm l) (he : bs.flatten[q0]? = some (a, .inl (G.2 3, n, .inr (.inr (.inr (.inr f)))))) (hv : bs.flatten[qk]? = some (v, .inr (0, vs))) (hj : j < n) (hn : n < 2 ^ 31) (hw : bs.flatten.set q0 (a, .inl (G.2 3, n, .inr (.inr (.inr (.inr (va_up f j (some v))))))) = bs'.flatten) (d : decode cc pc = .ok (.aastore, 1)) (hq : pc + 1 = pc') (kk : V E G A nL bs' kc ks Q pc' lv st) : V E G A nL bs kc ks Q pc lv (.ref v :: .int (nI j) :: .ref a :: st) := by
  subst hq; intro H locs ls hP hD hS hl
  refine va_astq X.1.1 X.1.2.1 X.2.1.1 hP hD hS q0 3 qk 0 (r := (cR 0, cT 0, cN 0)) he rfl hv rfl (vp_in_nI hj hn) d (fun H1 locs1 hP hD hS => ?_)
  rw [nI_clamp (Nat.lt_trans hj hn), hw] at hP hD
  exact kk H1 locs1 ls hP hD hS hl
theorem V_newi {n : Nat} (X : Cx E G A nL cc own Ts rm l) (har : Cond.arrayClass .int ∈ Ts) (hn : n < 2 ^ 20) (hc : kc + 1 ≤ rm.cells) (hs : ks + n ≤ rm.slots) (d : decode cc pc = .ok (.newarray .int, 2)) (hq : pc + 2 = pc') (kk : ∀ q, V E G A nL (bs ++ [[(q, .inl (G.2 0, n, .inl (fun _ => 0)))]]) (kc + 1) (ks + n) Q pc' lv (.ref q :: st)) : V E G A nL bs kc ks Q pc lv (.int (nI n) :: st) := by
  have hR := X.2.2.2.2.2.1
  subst hR
  subst hq; intro H locs ls hP hD hS hl
  have h31 : n < 2 ^ 31 := Nat.lt_trans hn (by decide)
  refine va_newa (a0 := (n, .inl (fun _ => 0))) X.1.1 X.1.2.1 (atype := .int) (X.1.2.2.2.2 _ har) rfl X.2.1.1 hP hD hS X.2.2.2.1 (fun cA => by rw [vp_cell_i] <;> rfl) (nI_pos h31) (nI_clamp h31) (by show n * 4 ≤ _; omega) hc hs d (fun q cA H1 hK hP hD hS => ?_)
  have e := va_K_id hK 0 rfl
  subst e
  exact kk q H1 locs ls (by rw [List.flatten_append]; simpa using hP) (by rw [List.flatten_append]; simpa using hD) hS hl
theorem V_newc {n : Nat} (X : Cx E G A nL cc own Ts rm l) (har : Cond.arrayClass .char ∈ Ts) (hn : n < 2 ^ 20) (hc : kc + 1 ≤ rm.cells) (hs : ks + n ≤ rm.slots) (d : decode cc pc = .ok (.newarray .char, 2)) (hq : pc + 2 = pc') (kk : ∀ q, V E G A nL (bs ++ [[(q, .inl (G.2 1, n, .inl (fun _ => 0)))]]) (kc + 1) (ks + n) Q pc' lv (.ref q :: st)) : V E G A nL bs kc ks Q pc lv (.int (nI n) :: st) := by
  have hR := X.2.2.2.2.2.1
  subst hR
  subst hq; intro H locs ls hP hD hS hl
  have h31 : n < 2 ^ 31 := Nat.lt_trans hn (by decide)
  refine va_newa (a0 := (n, .inl (fun _ => 0))) X.1.1 X.1.2.1 (atype := .char) (X.1.2.2.2.2 _ har) rfl X.2.1.1 hP hD hS X.2.2.2.1 (fun cA => by rw [vp_cell_i] <;> rfl) (nI_pos h31) (nI_clamp h31) (by show n * 2 ≤ _; omega) hc hs d (fun q cA H1 hK hP hD hS => ?_)
  have e := va_K_id hK 1 rfl
  subst e
  exact kk q H1 locs ls (by rw [List.flatten_append]; simpa using hP) (by rw [List.flatten_append]; simpa using hD) hS hl
theorem V_newz {n : Nat} (X : Cx E G A nL cc own Ts rm l) (har : Cond.arrayClass .boolean ∈ Ts) (hn : n < 2 ^ 20) (hc : kc + 1 ≤ rm.cells) (hs : ks + n ≤ rm.slots) (d : decode cc pc = .ok (.newarray .boolean, 2)) (hq : pc + 2 = pc') (kk : ∀ q, V E G A nL (bs ++ [[(q, .inl (G.2 2, n, .inl (fun _ => 0)))]]) (kc + 1) (ks + n) Q pc' lv (.ref q :: st)) : V E G A nL bs kc ks Q pc lv (.int (nI n) :: st) := by
  have hR := X.2.2.2.2.2.1
  subst hR
  subst hq; intro H locs ls hP hD hS hl
  have h31 : n < 2 ^ 31 := Nat.lt_trans hn (by decide)
  refine va_newa (a0 := (n, .inl (fun _ => 0))) X.1.1 X.1.2.1 (atype := .boolean) (X.1.2.2.2.2 _ har) rfl X.2.1.1 hP hD hS X.2.2.2.1 (fun cA => by rw [vp_cell_i] <;> rfl) (nI_pos h31) (nI_clamp h31) (by show n * 1 ≤ _; omega) hc hs d (fun q cA H1 hK hP hD hS => ?_)
  have e := va_K_id hK 2 rfl
  subst e
  exact kk q H1 locs ls (by rw [List.flatten_append]; simpa using hP) (by rw [List.flatten_append]; simpa using hD) hS hl
theorem V_newl {n : Nat} (X : Cx E G A nL cc own Ts rm l) (har : Cond.arrayClass .long ∈ Ts) (hn : n < 2 ^ 20) (hc : kc + 1 ≤ rm.cells) (hs : ks + n ≤ rm.slots) (d : decode cc pc = .ok (.newarray .long, 2)) (hq : pc + 2 = pc') (kk : ∀ q, V E G A nL (bs ++ [[(q, .inl (G.2 4, n, .inr (.inl (fun _ => 0))))]]) (kc + 1) (ks + n) Q pc' lv (.ref q :: st)) : V E G A nL bs kc ks Q pc lv (.int (nI n) :: st) := by
  have hR := X.2.2.2.2.2.1
  subst hR
  subst hq; intro H locs ls hP hD hS hl
  have h31 : n < 2 ^ 31 := Nat.lt_trans hn (by decide)
  refine va_newa (a0 := (n, .inr (.inl (fun _ => 0)))) X.1.1 X.1.2.1 (atype := .long) (X.1.2.2.2.2 _ har) rfl X.2.1.1 hP hD hS X.2.2.2.1 (fun cA => by rw [vp_cell_l] <;> rfl) (nI_pos h31) (nI_clamp h31) (by show n * 8 ≤ _; omega) hc hs d (fun q cA H1 hK hP hD hS => ?_)
  have e := va_K_id hK 4 rfl
  subst e
  exact kk q H1 locs ls (by rw [List.flatten_append]; simpa using hP) (by rw [List.flatten_append]; simpa using hD) hS hl
theorem V_newq {n idx : Nat} (X : Cx E G A nL cc own Ts rm l) (hcl : Cond.classLink own idx RX0 ∈ Ts) (hn : n < 2 ^ 20) (hc : kc + 1 ≤ rm.cells) (hs : ks + n ≤ rm.slots) (d : decode cc pc = .ok (.anewarray idx, 3)) (hq : pc + 3 = pc') (kk : ∀ q, V E G A nL (bs ++ [[(q, .inl (G.2 3, n, .inr (.inr (.inr (.inr (fun _ => none))))))]]) (kc + 1) (ks + n) Q pc' lv (.ref q :: st)) : V E G A nL bs kc ks Q pc lv (.int (nI n) :: st) := by
  have hR := X.2.2.2.2.2.1
  subst hR
  subst hq; intro H locs ls hP hD hS hl
  have h31 : n < 2 ^ 31 := Nat.lt_trans hn (by decide)
  refine va_newq (C := RX0) X.1.1 X.1.2.1 X.1.2.2.2.1 (X.1.2.2.2.2 _ hcl) X.2.1.2.2.2.2.2.1 X.2.1.1 hP hD hS X.2.2.2.1 (nI_pos h31) (nI_clamp h31) (by omega) hc hs d (fun q cA H1 hK hP hD hS => ?_)
  have e := va_K_id hK 3 rfl
  subst e
  exact kk q H1 locs ls (by rw [List.flatten_append]; simpa using hP) (by rw [List.flatten_append]; simpa using hD) hS hl
theorem V_new {idx : Nat} (ci : Nat) (fs : List Value) (X : Cx E G A nL cc own Ts rm l) (h1 : ci < 7) (hcl : Cond.classLink own idx (cR ci) ∈ Ts) (hin : Cond.instantiable (cR ci) (cN ci) ∈ Ts) (hini : Cond.initialized (cR ci) ∈ Ts) (hws : ∀ w ∈ u_ws (cR ci) (cT ci) (cN ci), w ∈ Ts) (hfs : ∀ j, j < cN ci → defaultValue (cty ci j) = vp_V fs j) (hc : kc + 1 ≤ rm.cells) (hs : ks + cN ci ≤ rm.slots) (d : decode cc pc = .ok (.new idx, 3)) (hq : pc + 3 = pc') (kk : ∀ q, V E G A nL (bs ++ [[(q, .inr (ci, fs))]]) (kc + 1) (ks + cN ci) Q pc' lv (.ref q :: st)) : V E G A nL bs kc ks Q pc lv st := by
  have hR := X.2.2.2.2.2.1
  subst hR
  subst hq; intro H locs ls hP hD hS hl
  refine va_new X.1.1 X.1.2.1 X.1.2.2.2.2 hws (cty ci) (c_ty h1) X.1.2.2.2.1 (X.1.2.2.2.2 _ hcl) (X.1.2.2.2.2 _ hin) (X.1.2.2.2.2 _ hini) X.2.1.1 hP hD hS X.2.2.2.1 (c_cl h1) hfs hc hs d (fun q H1 hP hD hS => ?_)
  exact kk q H1 locs ls (by rw [List.flatten_append]; simpa using hP) (by rw [List.flatten_append]; simpa using hD) hS hl
theorem V_obj {idx a : Nat} (X : Cx E G A nL cc own Ts rm l) (h1 : Cond.methodLink own idx objectInit ∈ Ts) (h2 : Cond.instanceMethod objectInit ∈ Ts) (h3 : Cond.code objectInit ⟨#[0xb1]⟩ 1 none ∈ Ts) (d : decode cc pc = .ok (.invokespecial idx, 3)) (hf : 1 ≤ rm.frames) (hr : (st.map fun v => v.category).sum + 12 ≤ rm.locals) (hq : pc + 3 = pc') (kk : V E G A nL bs kc ks Q pc' lv st) : V E G A nL bs kc ks Q pc lv (.ref a :: st) := by
  have hR := X.2.2.2.2.2.1
  subst hR
  subst hq; intro H locs ls hP hD hS hl
  refine W.objInit X.1.1 X.1.2.1 X.1.2.2.2.1 (X.1.2.2.2.2 _ h1) (X.1.2.2.2.2 _ h2) (X.1.2.2.2.2 _ h3) rfl (by rw [X.1.2.2.1]; exact hl.1) rfl d hf (by show 2 * 0 + _ + 12 ≤ _; omega) ?_
  exact kk H locs ls hP hD hS hl
theorem V_max {x y : Int32} {idx : Nat} (v : Int32) (X : Cx E G A nL cc own Ts rm l) (h1 : Cond.methodLink own idx Lib.Math.max.name ∈ Ts) (h2 : Cond.static Lib.Math.max.name ∈ Ts) (h3 : Cond.initialized "java/lang/Math" ∈ Ts) (h4 : Cond.code Lib.Math.max.name Lib.Math.max.code 2 (some .int) ∈ Ts) (hf : 1 ≤ rm.frames) (hr : (st.map fun v => v.category).sum + 13 ≤ rm.locals) (hc : kc ≤ rm.cells) (hs : ks ≤ rm.slots) (d : decode cc pc = .ok (.invokestatic idx, 3)) (hv : (if x < y then y else x) = v) (hq : pc + 3 = pc') (kk : V E G A nL bs kc ks Q pc' lv (.int v :: st)) : V E G A nL bs kc ks Q pc lv (.int y :: .int x :: st) := by
  have hR := X.2.2.2.2.2.1
  subst hR
  subst hq; subst hv; intro H locs ls hP hD hS hl
  exact va_mmax X.1.1 X.1.2.1 (by rw [X.1.2.2.1]; exact hl.1.symm) X.1.2.2.2.1 (X.1.2.2.2.2 _ h1) (X.1.2.2.2.2 _ h2) (X.1.2.2.2.2 _ h3) (X.1.2.2.2.2 _ h4) hf hr hc hs d (kk H locs ls hP hD hS hl)
theorem V_min {x y : Int32} {idx : Nat} (v : Int32) (X : Cx E G A nL cc own Ts rm l) (h1 : Cond.methodLink own idx Lib.Math.min.name ∈ Ts) (h2 : Cond.static Lib.Math.min.name ∈ Ts) (h3 : Cond.initialized "java/lang/Math" ∈ Ts) (h4 : Cond.code Lib.Math.min.name Lib.Math.min.code 2 (some .int) ∈ Ts) (hf : 1 ≤ rm.frames) (hr : (st.map fun v => v.category).sum + 13 ≤ rm.locals) (hc : kc ≤ rm.cells) (hs : ks ≤ rm.slots) (d : decode cc pc = .ok (.invokestatic idx, 3)) (hv : (if y < x then y else x) = v) (hq : pc + 3 = pc') (kk : V E G A nL bs kc ks Q pc' lv (.int v :: st)) : V E G A nL bs kc ks Q pc lv (.int y :: .int x :: st) := by
  have hR := X.2.2.2.2.2.1
  subst hR
  subst hq; subst hv; intro H locs ls hP hD hS hl
  exact va_mmin X.1.1 X.1.2.1 (by rw [X.1.2.2.1]; exact hl.1.symm) X.1.2.2.2.1 (X.1.2.2.2.2 _ h1) (X.1.2.2.2.2 _ h2) (X.1.2.2.2.2 _ h3) (X.1.2.2.2.2 _ h4) hf hr hc hs d (kk H locs ls hP hD hS hl)
theorem V_copy {a0 a n0 n1 sp dp n idx : Nat} {f g : Nat → Int32} (q0 q1 : Nat) (bs' : List va_W) (X : Cx E G A nL cc own Ts rm l) (h1 : Cond.methodLink own idx arraycopyName ∈ Ts) (h2 : Cond.native arraycopyName ∈ Ts) (h3 : Cond.static arraycopyName ∈ Ts) (h4 : Cond.initialized "java/lang/System" ∈ Ts) (he0 : bs.flatten[q0]? = some (a0, .inl (G.2 0, n0, .inl f))) (he1 : bs.flatten[q1]? = some (a, .inl (G.2 0, n1, .inl g))) (b1 : sp + n ≤ n0) (b2 : dp + n ≤ n1) (b3 : n0 < 2 ^ 31) (b4 : n1 < 2 ^ 31) (hf : 1 ≤ rm.frames) (hr : (st.map fun v => v.category).sum + (nativeFrameWords "java/lang/System" "arraycopy" 5 + 11) ≤ rm.locals)
    (hw : bs.flatten.set q1 (a, .inl (G.2 0, n1, .inl (va_cpy f g sp dp n))) = bs'.flatten) (d : decode cc pc = .ok (.invokestatic idx, 3)) (hq : pc + 3 = pc') (kk : V E G A nL bs' kc ks Q pc' lv st) : V E G A nL bs kc ks Q pc lv (.int (nI n) :: .int (nI dp) :: .ref a :: .int (nI sp) :: .ref a0 :: st) := by
  have hR := X.2.2.2.2.2.1
  subst hR
  subst hq; intro H locs ls hP hD hS hl
  have e1 : (nI n).toNatClampNeg = n := nI_clamp (by omega)
  have e2 : (nI dp).toNatClampNeg = dp := nI_clamp (by omega)
  have e3 : (nI sp).toNatClampNeg = sp := nI_clamp (by omega)
  refine va_copyi X.1.1 X.1.2.1 (by rw [X.1.2.2.1]; exact hl.1.symm) X.1.2.2.2.1 (X.1.2.2.2.2 _ h1) (X.1.2.2.2.2 _ h2) (X.1.2.2.2.2 _ h3) (X.1.2.2.2.2 _ h4) X.2.1.1 hP hD hS q0 q1 0 0 he0 he1 rfl rfl rfl (nI_pos (by omega)) (nI_pos (by omega)) (nI_pos (by omega)) (by rw [e1, e3]; exact b1) (by rw [e1, e2]; exact b2) (fun _ _ => rfl) hf hr d (fun H1 locs1 hP hD hS => ?_)
  rw [e1, e2, e3, hw] at hP hD
  exact kk H1 locs1 ls hP hD hS hl
theorem V_sld {b L j : Nat} {xs : Nat → Int32} {v : Int32} (X : Cx E G A nL cc own Ts rm l) (hX : va_X b L xs (e_s E) (e_s E).heap) (hbl : b < (e_s E).heap.size) (hbA : ¬ A b) (hj : j < L) (hL : L < 2 ^ 31) (hv : xs j = v) (d : decode cc pc = .ok (.iaload, 1)) (hq : pc + 1 = pc') (kk : V E G A nL bs kc ks Q pc' lv (.int v :: st)) : V E G A nL bs kc ks Q pc lv (.int (nI j) :: .ref b :: st) := by
  subst hq; subst hv; intro H locs ls hP hD hS hl
  refine va_sld X.1.1 X.1.2.1 hX hbl hbA hS (vp_in_nI hj hL) d ?_
  rw [nI_clamp (Nat.lt_trans hj hL)]
  exact kk H locs ls hP hD hS hl
theorem V_slen {b L : Nat} {xs : Nat → Int32} (X : Cx E G A nL cc own Ts rm l) (hX : va_X b L xs (e_s E) (e_s E).heap) (hbl : b < (e_s E).heap.size) (hbA : ¬ A b) (d : decode cc pc = .ok (.arraylength, 1)) (hq : pc + 1 = pc') (kk : V E G A nL bs kc ks Q pc' lv (.int (nI L) :: st)) : V E G A nL bs kc ks Q pc lv (.ref b :: st) := by
  subst hq; intro H locs ls hP hD hS hl
  exact va_slen X.1.1 X.1.2.1 hX hbl hbA hS d (kk H locs ls hP hD hS hl)
/-! the world told otherwise -/
theorem V_ws (bs' : List va_W) (h : bs.flatten = bs'.flatten) (kk : V E G A nL bs' kc ks Q pc lv st) : V E G A nL bs kc ks Q pc lv st := by
  intro H locs ls hP hD hS hl
  rw [h] at hP hD
  exact kk H locs ls hP hD hS hl
theorem V_perm (bs' : List va_W) (h : bs.flatten.Perm bs'.flatten) (kk : V E G A nL bs' kc ks Q pc lv st) : V E G A nL bs kc ks Q pc lv st :=
  fun H locs ls hP hD hS hl => kk H locs ls (va_P_perm h hP) (va_D_perm h hD) hS hl
theorem V_ord (is : List Nat) (bs' : List va_W) (h : (List.range bs.length).Perm is) (hb : pk bs is = bs') (kk : V E G A nL bs' kc ks Q pc lv st) : V E G A nL bs kc ks Q pc lv st :=
  V_perm bs' (by subst hb; have h1 := flatten_perm (pk_perm bs h); rwa [pk_range] at h1) kk
theorem V_wsq (bs' : List va_W) (h : wsq bs.flatten bs'.flatten) (kk : V E G A nL bs' kc ks Q pc lv st) : V E G A nL bs kc ks Q pc lv st :=
  fun H locs ls hP hD hS hl => kk H locs ls ((h _ _ A H).1 hP) (h.D hD) hS hl
theorem V_lv (js : List Nat) (lv' : List (Nat × Value)) (h : lv_pick lv js = lv') (kk : V E G A nL bs kc ks Q pc lv' st) : V E G A nL bs kc ks Q pc lv st :=
  fun H locs ls hP hD hS hl => kk H locs ls hP hD hS (lv_sub hl js h)
theorem V_eq (kk : V E G A nL bs' kc ks Q pc lv' st) (e1 : bs = bs') (e2 : lv = lv') : V E G A nL bs kc ks Q pc lv st := by
  subst e1; subst e2; exact kk
theorem V_widen {k n : Nat} (h1 : kc ≤ k) (h2 : ks ≤ n) (kk : V E G A nL bs k n Q pc lv st) : V E G A nL bs kc ks Q pc lv st :=
  fun H locs ls hP hD hS hl => W.widen h1 h2 (kk H locs ls hP hD hS hl)
end VM
theorem loopD {P : Nat → Prop} (n : Nat) (h1 : P n) (h2 : ∀ i, i < n → P (i + 1) → P i) : ∀ i, i ≤ n → P i := by
  have key : ∀ d i, i + d = n → P i := by
    intro d
    induction d with
    | zero => intro i h; have e : i = n := by omega
              rw [e]; exact h1
    | succ d ih => intro i h; exact h2 i (by omega) (ih (i + 1) (by omega))
  exact fun i hi => key (n - i) i (by omega)
/-! contracts: from the blocks bs the method y returns r and leaves the blocks u with 'post r u'; nf, nl: the frames and words of locals that a call of it wants; n: how many arguments -/
def va_Qo {S : Type} (post : Option Value → S → Prop) (B : S → State → Prop) (A : Nat → Prop) : Array Value → State → Outcome → State → Prop := fun _ st oc t => (∃ (r : Option Value) (u : S), oc = .returned r ∧ post r u ∧ B u t) ∧ va_F A st t
def PcC (l : Launch) (G : gT) (av : List Value) (bs : List va_W) (sz : Nat) : Array Value → State → Prop := va_Pc av (fun U => U.heap.size = sz ∧ va_P G.1 vwCl bs.flatten U.heap ∧ TB l G U ∧ va_D (fun _ => True) bs.flatten ∧ ZZ (va_A bs.flatten sz) U U.heap)
def QcC (G : gT) (A : Nat → Prop) (post : Option Value → List va_W → Prop) : Array Value → State → Outcome → State → Prop := va_Qo post (fun u t => va_P G.1 vwCl u.flatten t.heap ∧ va_D A u.flatten) A
def XcC (G : gT) (A : Nat → Prop) (xpost : String → List va_W → Prop) : String → State → State → Prop := fun Ex st t => ∃ u : List va_W, xpost Ex u ∧ (va_P G.1 vwCl u.flatten t.heap ∧ va_D A u.flatten) ∧ va_F A st t
def CM (l : Launch) (G : gT) (y : MethodName) (ws : List Cond) (nf nl n : Nat) (av : List Value) (bs : List va_W) (mc ms : Nat) (post : Option Value → List va_W → Prop) : Prop :=
  ∃ (rm : Room) (bytes : ByteArray) (maxL : Nat) (ret : Option FieldType) (ws' : List Cond), ws = Cond.code y bytes maxL ret :: ws' ∧ rm.cells = mc ∧ rm.slots = ms ∧ rm.frames + 1 ≤ nf ∧ 8 + (maxL + 11) + rm.locals ≤ nl ∧
    (y.cls ≠ "java/lang/invoke/MethodHandle" ∧ y.cls ≠ "java/lang/invoke/VarHandle" ∧ (parseMethodDescriptor y.desc).map (fun d => d.parameters.length) = some n) ∧
    ∀ sz : Nat, Met l y ws rm (PcC l G av bs sz) (QcC G (va_A bs.flatten sz) post) mc ms (va_A bs.flatten sz)
def CX (l : Launch) (G : gT) (y : MethodName) (ws : List Cond) (nf nl n : Nat) (av : List Value) (bs : List va_W) (mc ms : Nat) (post : Option Value → List va_W → Prop) (xpost : String → List va_W → Prop) : Prop :=
  ∃ (rm : Room) (bytes : ByteArray) (maxL : Nat) (ret : Option FieldType) (ws' : List Cond), ws = Cond.code y bytes maxL ret :: ws' ∧ rm.cells = mc ∧ rm.slots = ms ∧ rm.frames + 1 ≤ nf ∧ 8 + (maxL + 11) + rm.locals ≤ nl ∧
    (y.cls ≠ "java/lang/invoke/MethodHandle" ∧ y.cls ≠ "java/lang/invoke/VarHandle" ∧ (parseMethodDescriptor y.desc).map (fun d => d.parameters.length) = some n) ∧
    ∀ sz : Nat, vx_Met l y ws rm (PcC l G av bs sz) (QcC G (va_A bs.flatten sz) post) (XcC G (va_A bs.flatten sz) xpost) mc ms (va_A bs.flatten sz)
theorem PcC.blind {l : Launch} {G : gT} {av : List Value} {bs : List va_W} {sz : Nat} : FrameBlind (PcC l G av bs sz) := by
  intro a U g mk h
  obtain ⟨h0, h1, h2, h3, h4, h5⟩ := h
  exact ⟨h0, h1, h2, TB.warm (s := U) (U := U.calling g mk a) (State.WarmedH.refl U) h3, h4, ZZ.moved (u := U) (U := U.calling g mk a) (Vm.Alike.refl U.vm) h5⟩
/-- what a body owes at its end -/
def QM (E : EE) (G : gT) (A : Nat → Prop) (post : Option Value → List va_W → Prop) (mc ms : Nat) : State → Prop := MQ (e_b E) (QcC G A post) (e_a E) (e_s E) mc ms A
def QX (E : EE) (G : gT) (A : Nat → Prop) (post : Option Value → List va_W → Prop) (xpost : String → List va_W → Prop) (mc ms : Nat) : State → Prop := vx_MQ (e_b E) (QcC G A post) (XcC G A xpost) (e_a E) (e_s E) mc ms A
theorem CM_of {l : Launch} {G : gT} {y : MethodName} {ws ws' : List Cond} {n nL : Nat} {av : List Value} {bs : List va_W} {mc ms : Nat} {post : Option Value → List va_W → Prop} {cc : ByteArray} {ret : Option FieldType} (own : String) (fr lo : Nat) (hw : ws = Cond.code y cc nL ret :: ws') (ho : own = y.cls) (hy : plainName y.cls = true)
    (hd : y.cls ≠ "java/lang/invoke/MethodHandle" ∧ y.cls ≠ "java/lang/invoke/VarHandle" ∧ (parseMethodDescriptor y.desc).map (fun d => d.parameters.length) = some n) (hle : (lg_sl av).length ≤ nL)
    (body : ∀ (E : EE) (A : Nat → Prop), Cx E G A nL cc own ws ({ frames := fr, cells := mc, slots := ms, locals := lo } : Room) l → (e_h E).sig.returnType = ret → (e_h E).name = y.name → V E G A nL bs 0 0 (QM E G A post mc ms) 0 (lv_args 0 av) []) :
    CM l G y ws (fr + 1) (nL + 19 + lo) n av bs mc ms post := by
  refine ⟨{ frames := fr, cells := mc, slots := ms, locals := lo }, cc, nL, ret, ws', hw, rfl, rfl, Nat.le_refl _, by show 8 + (nL + 11) + lo ≤ _; omega, hd, fun sz => ?_⟩
  refine Met.ofW (cc := cc) (maxL := nL) (ret := ret) hy hw ?_
  intro p e s m args below meth c s₁ B hml hv
  obtain ⟨rfl, hsz, hP, hK, hD0, hZ⟩ := hv
  have hts := atoms_spec (ws := ws) B.pre
  have hown : s.vm.findClass own = some m.cls := by rw [ho]; exact findClass_of_methodNamed B.named
  subst hsz
  have hl := lv_entry av (n := nL) hle
  rw [lg_entry_eq]
  exact body (p, l, e, _, s, m, av.toArray, below, meth, c) (va_A bs.flatten s.heap.size) ⟨⟨B.exec, B.bytes, hml, hown, hts⟩, hK, hZ, fun q h => Or.inr h, B.notSynchronized, rfl, rfl⟩ B.returns (name_of_methodNamed B.named B.method).1 s.heap [] _ hP hD0.self va_S.rf hl
theorem CX_of {l : Launch} {G : gT} {y : MethodName} {ws ws' : List Cond} {n nL : Nat} {av : List Value} {bs : List va_W} {mc ms : Nat} {post : Option Value → List va_W → Prop} {xpost : String → List va_W → Prop} {cc : ByteArray} {ret : Option FieldType} (own : String) (fr lo : Nat) (hw : ws = Cond.code y cc nL ret :: ws') (ho : own = y.cls) (hy : plainName y.cls = true)
    (hd : y.cls ≠ "java/lang/invoke/MethodHandle" ∧ y.cls ≠ "java/lang/invoke/VarHandle" ∧ (parseMethodDescriptor y.desc).map (fun d => d.parameters.length) = some n) (hle : (lg_sl av).length ≤ nL)
    (body : ∀ (E : EE) (A : Nat → Prop), Cx E G A nL cc own ws ({ frames := fr, cells := mc, slots := ms, locals := lo } : Room) l → (e_h E).sig.returnType = ret → (e_h E).name = y.name → (∀ x ∈ (e_c E).exceptionTable.toList, False) → V E G A nL bs 0 0 (QX E G A post xpost mc ms) 0 (lv_args 0 av) []) :
    CX l G y ws (fr + 1) (nL + 19 + lo) n av bs mc ms post xpost := by
  refine ⟨{ frames := fr, cells := mc, slots := ms, locals := lo }, cc, nL, ret, ws', hw, rfl, rfl, Nat.le_refl _, by show 8 + (nL + 11) + lo ≤ _; omega, hd, fun sz => ?_⟩
  refine vx_ofW (cc := cc) (maxL := nL) (ret := ret) hy hw ?_
  intro p e s m args below meth c s₁ B hml ht hv
  obtain ⟨rfl, hsz, hP, hK, hD0, hZ⟩ := hv
  have hts := atoms_spec (ws := ws) B.pre
  have hown : s.vm.findClass own = some m.cls := by rw [ho]; exact findClass_of_methodNamed B.named
  subst hsz
  have hl := lv_entry av (n := nL) hle
  rw [lg_entry_eq]
  exact body (p, l, e, _, s, m, av.toArray, below, meth, c) (va_A bs.flatten s.heap.size) ⟨⟨B.exec, B.bytes, hml, hown, hts⟩, hK, hZ, fun q h => Or.inr h, B.notSynchronized, rfl, rfl⟩ B.returns (name_of_methodNamed B.named B.method).1 ht s.heap [] _ hP hD0.self va_S.rf hl
section VC
variable {E : EE} {G : gT} {A : Nat → Prop} {nL : Nat} {bs bs' : List va_W} {kc ks : Nat} {Q : State → Prop} {pc pc' : Nat} {lv lv' : List (Nat × Value)} {st st0 : List Value} {cc : ByteArray} {own : String} {Ts : List Cond} {rm : Room} {l : Launch} {mc ms : Nat} {post : Option Value → List va_W → Prop} {xpost : String → List va_W → Prop}
/-! ends -/
theorem QM.end_ {H : Heap} {locs : List Loc} {r : Option Value} {u : List va_W} (hp : post r u) (h : bs.flatten.Perm u.flatten) (hP : va_P G.1 vwCl bs.flatten H) (hD : va_D A bs.flatten) (hS : va_S A (e_s E).heap H locs) : ∀ t : State, t.heap = H → (e_s E).WarmedH t.vm → QcC G A post (e_a E) (e_s E) (.returned r) t :=
  fun t ht _ => ⟨⟨r, u, rfl, hp, by rw [ht]; exact va_P_perm h hP, va_D_perm h hD⟩, hS.F ht⟩
theorem V_ireturn {v : Int32} {ty : FieldType} (u : List va_W) (hQ : QM E G A post mc ms = Q) (X : Cx E G A nL cc own Ts rm l) (hr : (e_h E).sig.returnType = some ty) (hn : narrow ty (.int v) = .int v) (d : decode cc pc = .ok (.ireturn, 1)) (hc : kc ≤ mc) (hs : ks ≤ ms) (h : bs.flatten.Perm u.flatten) (hp : post (some (.int v)) u) : V E G A nL bs kc ks Q pc lv [.int v] := by
  subst hQ
  exact fun H locs ls hP hD hS hl => W.widen hc hs (W.zret X.1.1 X.1.2.1 hr hn (QM.end_ hp h hP hD hS) hS.2.2 d X.2.2.2.2.1)
theorem V_return (u : List va_W) (hQ : QM E G A post mc ms = Q) (X : Cx E G A nL cc own Ts rm l) (hr : (e_h E).sig.returnType = none) (d : decode cc pc = .ok (.return_, 1)) (hc : kc ≤ mc) (hs : ks ≤ ms) (h : bs.flatten.Perm u.flatten) (hp : post none u) : V E G A nL bs kc ks Q pc lv [] := by
  subst hQ
  exact fun H locs ls hP hD hS hl => W.widen hc hs (W.vret X.1.1 X.1.2.1 hr (QM.end_ hp h hP hD hS) hS.2.2 d X.2.2.2.2.1)
theorem V_areturn {a : Nat} {C : String} (u : List va_W) (hQ : QM E G A post mc ms = Q) (X : Cx E G A nL cc own Ts rm l) (hr : (e_h E).sig.returnType = some (.object C)) (d : decode cc pc = .ok (.areturn, 1)) (hc : kc ≤ mc) (hs : ks ≤ ms) (h : bs.flatten.Perm u.flatten) (hp : post (some (.ref a)) u) : V E G A nL bs kc ks Q pc lv [.ref a] := by
  subst hQ
  exact fun H locs ls hP hD hS hl => W.widen hc hs (W.aret X.1.1 X.1.2.1 hr (Or.inl ⟨C, rfl⟩) (Or.inr ⟨a, rfl⟩) (QM.end_ hp h hP hD hS) hS.2.2 d X.2.2.2.2.1)
theorem V_retX (hQ : QX E G A post xpost mc ms = Q) (kk : V E G A nL bs kc ks (QM E G A post mc ms) pc lv st) : V E G A nL bs kc ks Q pc lv st := by
  subst hQ
  exact fun H locs ls hP hD hS hl => vx_ret (kk H locs ls hP hD hS hl)
/-! calls -/
theorem cut_blocks (ic ir : List Nat) (hp : (List.range bs.length).Perm (ic ++ ir)) : bs.flatten.Perm ((pk bs ir).flatten ++ (pk bs ic).flatten) := by
  have h1 := flatten_perm (pk_perm bs hp)
  rw [pk_range] at h1
  have h2 : pk bs (ic ++ ir) = pk bs ic ++ pk bs ir := by unfold pk; rw [List.filterMap_append]
  rw [h2, List.flatten_append] at h1
  exact h1.trans List.perm_append_comm
theorem va_D_left {A : Nat → Prop} {a b : va_W} (h : va_D A (a ++ b)) : va_D A a := by
  obtain ⟨h1, h2⟩ := va_D_iff.mp h
  rw [List.map_append, List.nodup_append] at h1
  exact va_D_iff.mpr ⟨h1.1, fun q hq => h2 q (List.mem_append_left _ hq)⟩
theorem va_D_right {A : Nat → Prop} {a b : va_W} (h : va_D A (a ++ b)) : va_D A b := by
  obtain ⟨h1, h2⟩ := va_D_iff.mp h
  rw [List.map_append, List.nodup_append] at h1
  exact va_D_iff.mpr ⟨h1.2.1, fun q hq => h2 q (List.mem_append_right _ hq)⟩
theorem va_P_left {D : va_G} {cl : List vw_C} {a b : va_W} {H : Heap} (h : va_P D cl (a ++ b) H) : va_P D cl a H := va_P_iff.mpr fun q hq => va_P_iff.mp h q (List.mem_append_left _ hq)
theorem va_P_right {D : va_G} {cl : List vw_C} {a b : va_W} {H : Heap} (h : va_P D cl (a ++ b) H) : va_P D cl b H := va_P_iff.mpr fun q hq => va_P_iff.mp h q (List.mem_append_right _ hq)
theorem va_A_iff {ws : va_W} {sz q : Nat} : va_A ws sz q ↔ q ∈ ws.map (·.1) ∨ sz ≤ q := by
  constructor
  · rintro (⟨k, e, h⟩ | h)
    · exact Or.inl (List.mem_map.mpr ⟨(q, e), List.mem_of_getElem? h, rfl⟩)
    · exact Or.inr h
  · rintro (h | h)
    · obtain ⟨⟨a, e⟩, h1, rfl⟩ := List.mem_map.mp h
      obtain ⟨k, hk⟩ := List.getElem?_of_mem h1
      exact Or.inl ⟨k, e, hk⟩
    · exact Or.inr h
/-- behind a call: the rest as it was, beside what the callee left -/
theorem frame_ {D : va_G} {cl : List vw_C} {wr wc w1 : va_W} {H H1 : Heap} (hP : va_P D cl (wr ++ wc) H) (hD : va_D A (wr ++ wc)) (hk : ∀ q : Nat, q < H.size → ¬ va_A wc H.size q → H1[q]? = H[q]?) (hF : ∀ q, va_A wc H.size q → A q) (hP1 : va_P D cl w1 H1) (hD1 : va_D (va_A wc H.size) w1) : va_P D cl (wr ++ w1) H1 ∧ va_D A (wr ++ w1) := by
  obtain ⟨d1, d2⟩ := va_D_iff.mp hD
  rw [List.map_append, List.nodup_append] at d1
  obtain ⟨e1, e2⟩ := va_D_iff.mp hD1
  have ap : ∀ q ∈ wr, q.1 < H.size ∧ ¬ va_A wc H.size q.1 := by
    intro q hq
    have hlt : q.1 < H.size := (va_P_iff.mp hP q (List.mem_append_left _ hq)).lt
    refine ⟨hlt, fun h => ?_⟩
    rcases va_A_iff.mp h with h | h
    · exact d1.2.2 _ (List.mem_map_of_mem hq) _ h rfl
    · omega
  refine ⟨va_P_iff.mpr fun q hq => ?_, va_D_iff.mpr ⟨?_, fun q hq => ?_⟩⟩
  · rcases List.mem_append.mp hq with hq | hq
    · exact (va_P_iff.mp hP q (List.mem_append_left _ hq)).kept (hk _ (ap q hq).1 (ap q hq).2)
    · exact va_P_iff.mp hP1 q hq
  · rw [List.map_append, List.nodup_append]
    refine ⟨d1.1, e1, fun a ha b hb hab => ?_⟩
    obtain ⟨q, hq, rfl⟩ := List.mem_map.mp ha
    obtain ⟨q', hq', rfl⟩ := List.mem_map.mp hb
    exact (ap q hq).2 (hab ▸ e2 q' hq')
  · rcases List.mem_append.mp hq with hq | hq
    · exact d2 q (List.mem_append_left _ hq)
    · exact hF _ (e2 q hq)
/-- a call, its run given -/
theorem V_run {a : Array Value} (ic ir : List Nat) (hp : (List.range bs.length).Perm (ic ++ ir)) (hq : pc + 3 = pc')
    (run : ∀ (H : Heap) (locs : List Loc) (ls : Array Slot), va_P G.1 vwCl bs.flatten H → va_P G.1 vwCl (pk bs ic).flatten H → va_D (fun _ => True) (pk bs ic).flatten → ZZ (va_A (pk bs ic).flatten H.size) (e_s E) H → lv_has ls nL lv →
      va_Run (e_p E) (e_l E) (e_e E) (e_R E) (e_s E) (e_m E) (e_a E) (e_b E) (e_h E) (e_c E) H locs kc ks mc ms (F0 (e_m E) pc ls st0) st (QcC G (va_A (pk bs ic).flatten H.size) post a) (va_A (pk bs ic).flatten H.size))
    (X : Cx E G A nL cc own Ts rm l) (kk : ∀ v u, post v u → V E G A nL (pk bs ir ++ u) (kc + mc) (ks + ms) Q pc' lv (v.toList ++ st)) : V E G A nL bs kc ks Q pc lv st0 := by
  subst hq
  intro H locs ls hP hD hS hl T hT XS
  have hc := cut_blocks ic ir hp
  have hP' := va_P_perm hc hP
  have hD' := va_D_perm hc hD
  have hF : ∀ q, va_A (pk bs ic).flatten H.size q → A q := by
    intro q h
    rcases va_A_iff.mp h with h | h
    · obtain ⟨q', hq', rfl⟩ := List.mem_map.mp h
      exact (va_D_iff.mp hD').2 q' (List.mem_append_right _ hq')
    · exact X.2.2.2.1 q (Nat.le_trans hS.1 h)
  have hZ : ZZ (va_A (pk bs ic).flatten H.size) (e_s E) H := (X.2.2.1.kept hS.2.1).narrow hF
  have hDc : va_D (fun _ => True) (pk bs ic).flatten := (va_D_right hD').weaken (fun _ _ _ _ => trivial)
  obtain ⟨v, st₀, t, T', L, h0, X', hL, e1, e2, ⟨⟨r, u, hv, hpo, hb1, hb2⟩, hz, hk⟩, stp⟩ := run H locs ls hP (va_P_right hP') hDc hZ hl T hT XS
  cases hv
  rw [h0] at hz hk
  obtain ⟨f1, f2⟩ := frame_ (H1 := t.heap) hP' hD' hk hF hb1 hb2
  rw [← List.flatten_append] at f1 f2
  obtain ⟨t2, a1, b1⟩ := kk v u hpo t.heap (locs ++ L) ls f1 f2
    ⟨Nat.le_trans hS.1 hz, fun q h1 h2 => by rw [hk q (Nat.lt_of_lt_of_le h1 hS.1) (fun z => h2 (hF q z))]; exact hS.2.1 q h1 h2, fun q hq => by
      rcases List.mem_append.mp hq with h | h
      · exact hS.2.2 q h
      · exact hF _ (hL q h)⟩ hl T' e1 X'
  exact ⟨t2, stp t2 a1, b1⟩
theorem pre_ {H : Heap} {av : List Value} {bsc : List va_W} (X : Cx E G A nL cc own Ts rm l) (hP : va_P G.1 vwCl bsc.flatten H) (hD : va_D (fun _ => True) bsc.flatten) (hZ : ZZ (va_A bsc.flatten H.size) (e_s E) H) : ∀ U : State, U.heap = H → (e_s E).WarmedH U.vm → PcC (e_l E) G av bsc H.size av.toArray U :=
  fun U hU hW => ⟨rfl, by rw [hU], by rw [hU]; exact hP, TB.warm hW X.2.1, hD, by rw [hU]; exact ZZ.moved hW.alike hZ⟩
theorem V_callV {y : MethodName} {ws : List Cond} {nf nl n b index : Nat} {As : List Value} {fs : List Value} {bsc : List va_W} (ci q0 : Nat) (ic ir : List Nat) (hp : (List.range bs.length).Perm (ic ++ ir)) (X : Cx E G A nL cc own Ts rm l) (hM : CM l G y ws nf nl n (.ref b :: As) bsc mc ms post) (hbc : pk bs ic = bsc) (hG : GoodIn Ts (wsV own index (cR ci) y ws)) (hC : y.cls = cR ci) (h7 : ci < 7) (he : bs.flatten[q0]? = some (b, .inr (ci, fs)))
    (hst : st0 = As.reverse ++ .ref b :: st) (hn : As.length = n) (hW : (st.map fun v => v.category).sum ≤ 8) (hR : nf ≤ rm.frames ∧ nl ≤ rm.locals) (hf : kc + mc ≤ rm.cells ∧ ks + ms ≤ rm.slots) (d : decode cc pc = .ok (.invokevirtual index, 3)) (hq : pc + 3 = pc')
    (kk : ∀ v u, post v u → V E G A nL (pk bs ir ++ u) (kc + mc) (ks + ms) Q pc' lv (v.toList ++ st)) : V E G A nL bs kc ks Q pc lv st0 := by
  have hR := X.2.2.2.2.2.1
  subst hR
  have hL := X.2.2.2.2.2.2
  subst hL
  subst hst
  subst hbc
  obtain ⟨rm, bytes, maxL, ret, ws', hw, hrc, hrs, hfr, hlo, hd, hMet⟩ := hM
  refine V_run (a := (Value.ref b :: As).toArray) ic ir hp hq (fun H locs ls hP hPc hDc hZ hl => ?_) X kk
  exact va_runV (n := n) X.1 (hMet H.size) (cwV n X.1.2.2.2.2 hG hw hrc hrs ⟨hC, hd⟩ ⟨Nat.le_trans hfr hR.1, Nat.le_trans hlo hR.2⟩)
    ⟨PcC.blind, va_recv X.2.1.1 hP (c_cl h7) he, pre_ X hPc hDc hZ⟩ rfl hn hl.1 rfl (lv_room hW) d hf
theorem V_callS {y : MethodName} {ws : List Cond} {nf nl n index : Nat} {As : List Value} {bsc : List va_W} (ic ir : List Nat) (hp : (List.range bs.length).Perm (ic ++ ir)) (X : Cx E G A nL cc own Ts rm l) (hM : CM l G y ws nf nl n As bsc mc ms post) (hbc : pk bs ic = bsc) (hG : GoodIn Ts (va_wsS own index y ws))
    (hst : st0 = As.reverse ++ st) (hn : As.length = n) (hW : (st.map fun v => v.category).sum ≤ 8) (hR : nf ≤ rm.frames ∧ nl ≤ rm.locals) (hf : kc + mc ≤ rm.cells ∧ ks + ms ≤ rm.slots) (d : decode cc pc = .ok (.invokestatic index, 3)) (hq : pc + 3 = pc')
    (kk : ∀ v u, post v u → V E G A nL (pk bs ir ++ u) (kc + mc) (ks + ms) Q pc' lv (v.toList ++ st)) : V E G A nL bs kc ks Q pc lv st0 := by
  have hR := X.2.2.2.2.2.1
  subst hR
  have hL := X.2.2.2.2.2.2
  subst hL
  subst hst
  subst hbc
  obtain ⟨rm, bytes, maxL, ret, ws', hw, hrc, hrs, hfr, hlo, hd, hMet⟩ := hM
  refine V_run (a := As.toArray) ic ir hp hq (fun H locs ls hP hPc hDc hZ hl => ?_) X kk
  exact va_runS (n := n) X.1 (hMet H.size) (va_cwS n X.1.2.2.2.2 hG hw hrc hrs hd ⟨Nat.le_trans hfr hR.1, Nat.le_trans hlo hR.2⟩)
    ⟨PcC.blind, pre_ X hPc hDc hZ⟩ rfl hn hl.1 rfl (lv_room hW) d hf
theorem V_callI {y : MethodName} {ws : List Cond} {nf nl n b index : Nat} {As : List Value} {bsc : List va_W} (ic ir : List Nat) (hp : (List.range bs.length).Perm (ic ++ ir)) (X : Cx E G A nL cc own Ts rm l) (hM : CM l G y ws nf nl n (.ref b :: As) bsc mc ms post) (hbc : pk bs ic = bsc) (hG : GoodIn Ts ws) (h1 : Cond.initialized y.cls ∈ Ts) (h2 : Cond.methodLink own index y ∈ Ts) (h3 : Cond.instanceMethod y ∈ Ts) (hy : y.name = "<init>") (hret : ∀ bytes maxL ret ws', ws = Cond.code y bytes maxL ret :: ws' → ret = none)
    (hst : st0 = As.reverse ++ .ref b :: st) (hn : As.length = n) (hW : (st.map fun v => v.category).sum ≤ 8) (hR : nf ≤ rm.frames ∧ nl ≤ rm.locals) (hf : kc + mc ≤ rm.cells ∧ ks + ms ≤ rm.slots) (d : decode cc pc = .ok (.invokespecial index, 3)) (hq : pc + 3 = pc')
    (kk : ∀ v u, post v u → V E G A nL (pk bs ir ++ u) (kc + mc) (ks + ms) Q pc' lv (v.toList ++ st)) : V E G A nL bs kc ks Q pc lv st0 := by
  have hR := X.2.2.2.2.2.1
  subst hR
  have hL := X.2.2.2.2.2.2
  subst hL
  subst hst
  subst hbc
  obtain ⟨rm, bytes, maxL, ret, ws', hw, hrc, hrs, hfr, hlo, hd, hMet⟩ := hM
  have hr := hret _ _ _ _ hw
  subst hr
  refine V_run (a := (Value.ref b :: As).toArray) ic ir hp hq (fun H locs ls hP hPc hDc hZ hl => ?_) X kk
  exact va_runI (n := n) X.1 (hMet H.size) (cwI n X.1.2.2.2.2 hG hw hrc hrs (X.1.2.2.2.2 _ h1) (X.1.2.2.2.2 _ h2) (X.1.2.2.2.2 _ h3) hy hd ⟨Nat.le_trans hfr hR.1, Nat.le_trans hlo hR.2⟩)
    ⟨PcC.blind, pre_ X hPc hDc hZ⟩ rfl hn hl.1 rfl (lv_room hW) d hf
theorem V_callSN {y : MethodName} {ws : List Cond} {nf nl n index : Nat} {As : List Value} {bsc : List va_W} {host : String} (ic ir : List Nat) (hp : (List.range bs.length).Perm (ic ++ ir)) (X : Cx E G A nL cc own Ts rm l) (hM : CM l G y ws nf nl n As bsc mc ms post) (hbc : pk bs ic = bsc) (hG : GoodIn Ts ws) (hl0 : va_Nw (.methodLinkNest own index y host) (e_s E)) (h1 : Cond.initialized y.cls ∈ Ts) (h2 : Cond.static y ∈ Ts)
    (hst : st0 = As.reverse ++ st) (hn : As.length = n) (hW : (st.map fun v => v.category).sum ≤ 8) (hR : nf ≤ rm.frames ∧ nl ≤ rm.locals) (hf : kc + mc ≤ rm.cells ∧ ks + ms ≤ rm.slots) (d : decode cc pc = .ok (.invokestatic index, 3)) (hq : pc + 3 = pc')
    (kk : ∀ v u, post v u → V E G A nL (pk bs ir ++ u) (kc + mc) (ks + ms) Q pc' lv (v.toList ++ st)) : V E G A nL bs kc ks Q pc lv st0 := by
  have hR := X.2.2.2.2.2.1
  subst hR
  have hL := X.2.2.2.2.2.2
  subst hL
  subst hst
  subst hbc
  obtain ⟨rm, bytes, maxL, ret, ws', hw, hrc, hrs, hfr, hlo, hd, hMet⟩ := hM
  refine V_run (a := As.toArray) ic ir hp hq (fun H locs ls hP hPc hDc hZ hl => ?_) X kk
  exact va_runSN (n := n) X.1 (hMet H.size) ⟨va_cnB n X.1.2.2.2.2 hG hw hrc hrs hl0 (X.1.2.2.2.2 _ h1) hd ⟨Nat.le_trans hfr hR.1, Nat.le_trans hlo hR.2⟩, X.1.2.2.2.2 _ h2, trivial⟩
    ⟨PcC.blind, pre_ X hPc hDc hZ⟩ rfl hn hl.1 rfl (lv_room hW) d hf
theorem V_callIN {y : MethodName} {ws : List Cond} {nf nl n b index : Nat} {As : List Value} {bsc : List va_W} {host : String} (ic ir : List Nat) (hp : (List.range bs.length).Perm (ic ++ ir)) (X : Cx E G A nL cc own Ts rm l) (hM : CM l G y ws nf nl n (.ref b :: As) bsc mc ms post) (hbc : pk bs ic = bsc) (hG : GoodIn Ts ws) (hl0 : va_Nw (.methodLinkNest own index y host) (e_s E)) (h1 : Cond.initialized y.cls ∈ Ts) (h3 : Cond.instanceMethod y ∈ Ts) (hy : y.name = "<init>") (hret : ∀ bytes maxL ret ws', ws = Cond.code y bytes maxL ret :: ws' → ret = none)
    (hst : st0 = As.reverse ++ .ref b :: st) (hn : As.length = n) (hW : (st.map fun v => v.category).sum ≤ 8) (hR : nf ≤ rm.frames ∧ nl ≤ rm.locals) (hf : kc + mc ≤ rm.cells ∧ ks + ms ≤ rm.slots) (d : decode cc pc = .ok (.invokespecial index, 3)) (hq : pc + 3 = pc')
    (kk : ∀ v u, post v u → V E G A nL (pk bs ir ++ u) (kc + mc) (ks + ms) Q pc' lv (v.toList ++ st)) : V E G A nL bs kc ks Q pc lv st0 := by
  have hR := X.2.2.2.2.2.1
  subst hR
  have hL := X.2.2.2.2.2.2
  subst hL
  subst hst
  subst hbc
  obtain ⟨rm, bytes, maxL, ret, ws', hw, hrc, hrs, hfr, hlo, hd, hMet⟩ := hM
  have hr := hret _ _ _ _ hw
  subst hr
  refine V_run (a := (Value.ref b :: As).toArray) ic ir hp hq (fun H locs ls hP hPc hDc hZ hl => ?_) X kk
  exact va_runIN (n := n) X.1 (hMet H.size) ⟨va_cnB n X.1.2.2.2.2 hG hw hrc hrs hl0 (X.1.2.2.2.2 _ h1) hd ⟨Nat.le_trans hfr hR.1, Nat.le_trans hlo hR.2⟩, hy, X.1.2.2.2.2 _ h3⟩
    ⟨PcC.blind, pre_ X hPc hDc hZ⟩ rfl hn hl.1 rfl (lv_room hW) d hf
end VC
/-! exceptions -/
/-- an exception of the class Ex is thrown over this frame -/
def VX (E : EE) (G : gT) (A : Nat → Prop) (nL : Nat) (bs : List va_W) (kc ks : Nat) (Q : State → Prop) (pc : Nat) (lv : List (Nat × Value)) (st : List Value) (Ex : String) : Prop :=
  ∀ (H : Heap) (locs : List Loc) (ls : Array Slot) (q : Addr) (ce : Cell), va_P G.1 vwCl bs.flatten H → va_D A bs.flatten → va_S A (e_s E).heap H locs → lv_has ls nL lv → H[q]? = some ce → ce.vm = .none → (e_s E).vm.findClass Ex = some ce.cls →
    vx_W (e_p E) (e_l E) (e_e E) (e_R E) (e_s E) (e_m E) (e_a E) (e_b E) (e_h E) (e_c E) H locs kc ks Q (F0 (e_m E) pc ls st) q
section VE
variable {E : EE} {G : gT} {A : Nat → Prop} {nL : Nat} {bs bs' : List va_W} {kc ks : Nat} {Q : State → Prop} {pc pc' : Nat} {lv lv' : List (Nat × Value)} {st st0 : List Value} {cc : ByteArray} {own : String} {Ts : List Cond} {rm : Room} {l : Launch} {mc ms : Nat} {post : Option Value → List va_W → Prop} {xpost : String → List va_W → Prop} {Ex : String}
theorem V_runX {a : Array Value} (ic ir : List Nat) (hp : (List.range bs.length).Perm (ic ++ ir)) (hq : pc + 3 = pc')
    (run : ∀ (H : Heap) (locs : List Loc) (ls : Array Slot), va_P G.1 vwCl bs.flatten H → va_P G.1 vwCl (pk bs ic).flatten H → va_D (fun _ => True) (pk bs ic).flatten → ZZ (va_A (pk bs ic).flatten H.size) (e_s E) H → lv_has ls nL lv →
      vx_Run (e_p E) (e_l E) (e_e E) (e_R E) (e_s E) (e_m E) (e_a E) (e_b E) (e_h E) (e_c E) H locs kc ks mc ms (F0 (e_m E) pc ls st0) st (QcC G (va_A (pk bs ic).flatten H.size) post a) (XcC G (va_A (pk bs ic).flatten H.size) xpost) (va_A (pk bs ic).flatten H.size))
    (X : Cx E G A nL cc own Ts rm l) (kk : ∀ v u, post v u → V E G A nL (pk bs ir ++ u) (kc + mc) (ks + ms) Q pc' lv (v.toList ++ st))
    (kx : ∀ Ex u, xpost Ex u → VX E G A nL (pk bs ir ++ u) (kc + mc) (ks + ms) Q pc lv st Ex) : V E G A nL bs kc ks Q pc lv st0 := by
  subst hq
  intro H locs ls hP hD hS hl T hT XS
  have hc := cut_blocks ic ir hp
  have hP' := va_P_perm hc hP
  have hD' := va_D_perm hc hD
  have hF : ∀ q, va_A (pk bs ic).flatten H.size q → A q := by
    intro q h
    rcases va_A_iff.mp h with h | h
    · obtain ⟨q', hq', rfl⟩ := List.mem_map.mp h
      exact (va_D_iff.mp hD').2 q' (List.mem_append_right _ hq')
    · exact X.2.2.2.1 q (Nat.le_trans hS.1 h)
  have hZ : ZZ (va_A (pk bs ic).flatten H.size) (e_s E) H := (X.2.2.1.kept hS.2.1).narrow hF
  have hDc : va_D (fun _ => True) (pk bs ic).flatten := (va_D_right hD').weaken (fun _ _ _ _ => trivial)
  rcases run H locs ls hP (va_P_right hP') hDc hZ hl T hT XS with ⟨v, st₀, t, T', L, h0, X', hL, e1, e2, ⟨⟨r, u, hv, hpo, hb1, hb2⟩, hz, hk⟩, stp⟩ | ⟨q, st₀, t, T', L, Ex, ce, h0, X', hL, e1, e2, ⟨u, hpo, ⟨hb1, hb2⟩, hz, hk⟩, hce, hcv, hcl, stp⟩
  · cases hv
    rw [h0] at hz hk
    obtain ⟨f1, f2⟩ := frame_ (H1 := t.heap) hP' hD' hk hF hb1 hb2
    rw [← List.flatten_append] at f1 f2
    obtain ⟨t2, a1, b1⟩ := kk v u hpo t.heap (locs ++ L) ls f1 f2
      ⟨Nat.le_trans hS.1 hz, fun q h1 h2 => by rw [hk q (Nat.lt_of_lt_of_le h1 hS.1) (fun z => h2 (hF q z))]; exact hS.2.1 q h1 h2, fun q hq => by
        rcases List.mem_append.mp hq with h | h
        · exact hS.2.2 q h
        · exact hF _ (hL q h)⟩ hl T' e1 X'
    exact ⟨t2, stp t2 a1, b1⟩
  · rw [h0] at hz hk
    obtain ⟨f1, f2⟩ := frame_ (H1 := t.heap) hP' hD' hk hF hb1 hb2
    rw [← List.flatten_append] at f1 f2
    obtain ⟨t2, a1, b1⟩ := kx Ex u hpo t.heap (locs ++ L) ls q ce f1 f2
      ⟨Nat.le_trans hS.1 hz, fun q h1 h2 => by rw [hk q (Nat.lt_of_lt_of_le h1 hS.1) (fun z => h2 (hF q z))]; exact hS.2.1 q h1 h2, fun q hq => by
        rcases List.mem_append.mp hq with h | h
        · exact hS.2.2 q h
        · exact hF _ (hL q h)⟩ hl hce hcv hcl T' e1 X'
    exact ⟨t2, stp.trans a1, b1⟩
theorem V_callXV {y : MethodName} {ws : List Cond} {nf nl n b index : Nat} {As : List Value} {fs : List Value} {bsc : List va_W} (ci q0 : Nat) (ic ir : List Nat) (hp : (List.range bs.length).Perm (ic ++ ir)) (X : Cx E G A nL cc own Ts rm l) (hM : CX l G y ws nf nl n (.ref b :: As) bsc mc ms post xpost) (hbc : pk bs ic = bsc) (hG : GoodIn Ts (wsV own index (cR ci) y ws)) (hC : y.cls = cR ci) (h7 : ci < 7) (he : bs.flatten[q0]? = some (b, .inr (ci, fs)))
    (hst : st0 = As.reverse ++ .ref b :: st) (hn : As.length = n) (hW : (st.map fun v => v.category).sum ≤ 8) (hR : nf ≤ rm.frames ∧ nl ≤ rm.locals) (hf : kc + mc ≤ rm.cells ∧ ks + ms ≤ rm.slots) (d : decode cc pc = .ok (.invokevirtual index, 3)) (hq : pc + 3 = pc')
    (kk : ∀ v u, post v u → V E G A nL (pk bs ir ++ u) (kc + mc) (ks + ms) Q pc' lv (v.toList ++ st))
    (kx : ∀ Ex u, xpost Ex u → VX E G A nL (pk bs ir ++ u) (kc + mc) (ks + ms) Q pc lv st Ex) : V E G A nL bs kc ks Q pc lv st0 := by
  have hR := X.2.2.2.2.2.1
  subst hR
  have hL := X.2.2.2.2.2.2
  subst hL
  subst hst
  subst hbc
  obtain ⟨rm, bytes, maxL, ret, ws', hw, hrc, hrs, hfr, hlo, hd, hMet⟩ := hM
  refine V_runX (a := (Value.ref b :: As).toArray) ic ir hp hq (fun H locs ls hP hPc hDc hZ hl => ?_) X kk kx
  exact vx_runV (n := n) X.1 (hMet H.size) (cwV n X.1.2.2.2.2 hG hw hrc hrs ⟨hC, hd⟩ ⟨Nat.le_trans hfr hR.1, Nat.le_trans hlo hR.2⟩)
    ⟨PcC.blind, va_recv X.2.1.1 hP (c_cl h7) he, pre_ X hPc hDc hZ⟩ rfl hn hl.1 rfl (lv_room hW) d hf
theorem VX_catch {name : String} (pre : List ExceptionTableEntry) (x : ExceptionTableEntry) (suf : List ExceptionTableEntry) (X : Cx E G A nL cc own Ts rm l) (ht : (e_c E).exceptionTable.toList = pre ++ x :: suf) (hpass : ∀ z ∈ pre, covers z pc = false ∨ (z.catchType ≠ 0 ∧ ∃ nm : String, Cond.classLink own z.catchType nm ∈ Ts ∧ va_Nc Ex nm (e_s E))) (hx : covers x pc = true) (h0 : x.catchType ≠ 0) (hlink : Cond.classLink own x.catchType name ∈ Ts) (hcast : va_Nw (.castable Ex name) (e_s E)) (hpc : x.handlerPc = pc')
    (kk : ∀ q, V E G A nL bs kc ks Q pc' lv [.ref q]) : VX E G A nL bs kc ks Q pc lv st Ex := by
  subst hpc
  intro H locs ls q ce hP hD hS hl hce hcv hcl
  exact vx_catch X.1.2.2.2.1 pre x suf ht (fun z hz => (hpass z hz).imp id (fun ⟨h1, nm, h2, h3⟩ => ⟨h1, nm, X.1.2.2.2.2 _ h2, h3⟩)) hx h0 (X.1.2.2.2.2 _ hlink) (va_Nw.use rfl hcast) hce hcv hcl (kk q H locs ls hP hD hS hl)
theorem VX_out (u : List va_W) (hQ : QX E G A post xpost mc ms = Q) (X : Cx E G A nL cc own Ts rm l) (hout : ∀ x ∈ (e_c E).exceptionTable.toList, False) (hc : kc ≤ mc) (hs : ks ≤ ms) (h : bs.flatten.Perm u.flatten) (hx : xpost Ex u) : VX E G A nL bs kc ks Q pc lv st Ex := by
  subst hQ
  intro H locs ls q ce hP hD hS hl hce hcv hcl
  exact vx_out (fun x hx => (hout x hx).elim) X.2.2.2.2.1 hce hcv hcl (fun t ht _ => ⟨u, hx, ⟨by rw [ht]; exact va_P_perm h hP, va_D_perm h hD⟩, hS.F ht⟩) hS.2.2 hc hs
theorem V_throwS {cls text : String} {names : List String} {ik is ic : Nat} (u : List va_W) (hQ : QX E G A post xpost mc ms = Q) (X : Cx E G A nL cc own Ts rm l) (hcls : Bundle.fit cls = true) (hnames : ∀ n ∈ names, Bundle.fit n = true) (hk : Cond.classLink own ik cls ∈ Ts) (hini : Cond.initialized cls ∈ Ts) (hstr : (own, is, text) ∈ tbStrs) (hat : ∀ w ∈ (vx_atS own ic cls names).filter goodWord, w ∈ Ts) (hB : ∀ w ∈ (vx_atS own ic cls names).filter (fun w => !goodWord w), w ∈ [Cond.castable cls cls]) (hca : va_Nw (.castable cls cls) (e_s E)) (hgood : ∀ w ∈ Cond.classLink own ik cls :: Cond.initialized cls :: vx_atS own ic cls names, vx_ot w = true)
    (d0 : decode cc pc = .ok (.new ik, 3)) (d3 : decode cc (pc + 3) = .ok (.dup, 1)) (d4 : decode cc (pc + 4) = .ok (.ldc is, 2)) (d6 : decode cc (pc + 6) = .ok (.invokespecial ic, 3)) (d9 : decode cc (pc + 9) = .ok (.athrow, 1)) (hout : ∀ x ∈ (e_c E).exceptionTable.toList, False)
    (hf : names.length + 3 < rm.frames) (hlo : (st.map fun v => v.category).sum + (13 * (names.length + 1) + 43) ≤ rm.locals) (hrc : kc + 1 ≤ rm.cells) (hrs : ks + 6 ≤ rm.slots) (hc : kc + 1 ≤ mc) (hs : ks + 6 ≤ ms) (h : bs.flatten.Perm u.flatten) (hx : xpost cls u) : V E G A nL bs kc ks Q pc lv st := by
  subst hQ
  have hR := X.2.2.2.2.2.1
  subst hR
  intro H locs ls hP hD hS hl
  obtain ⟨sa, hsa⟩ := X.2.1.2.2.2.2.2.2 _ hstr
  refine vx_throwS X.1.1 X.1.2.1 X.2.1.2.1 X.1.2.2.2.1 hcls hnames (X.1.2.2.2.2 _ hk) (X.1.2.2.2.2 _ hini) hsa
    (vx_hat (fun w hw => X.1.2.2.2.2 w (hat w hw)) hB (fun w hw => by rw [List.mem_singleton.mp hw]; exact va_Nw.use rfl hca)) hgood X.2.2.1.1 X.2.2.1.2 hS (by rw [X.1.2.2.1]; exact hl.1) d0 d3 d4 d6 d9 (fun x hx => (hout x hx).elim) hf hlo hrc hrs X.2.2.2.2.1 ?_ hS.2.2 hc hs
  intro t _ hz hk
  refine ⟨u, hx, ⟨?_, va_D_perm h hD⟩, Nat.le_trans hS.1 hz, fun q h1 h2 => (hk q (Nat.lt_of_lt_of_le h1 hS.1)).trans (hS.2.1 q h1 h2)⟩
  exact va_P_iff.mpr fun q hq => (va_P_iff.mp (va_P_perm h hP) q hq).kept (hk _ (va_P_iff.mp (va_P_perm h hP) q hq).lt)
theorem V_throwSW {cls text : String} {names : List String} {ik is ic : Nat} (u : List va_W) (hQ : QX E G A post xpost mc ms = Q) (X : Cx E G A nL cc own Ts rm l) (hcls : Bundle.fit cls = true) (hnames : ∀ n ∈ names, Bundle.fit n = true) (hk : Cond.classLink own ik cls ∈ Ts) (hini : Cond.initialized cls ∈ Ts) (hstr : (own, is, text) ∈ tbStrs) (hat : ∀ w ∈ (vx_atS own ic cls names).filter goodWord, w ∈ Ts) (hB : ∀ w ∈ (vx_atS own ic cls names).filter (fun w => !goodWord w), w ∈ [Cond.castable cls cls]) (hca : va_Nw (.castable cls cls) (e_s E)) (hgood : ∀ w ∈ Cond.classLink own ik cls :: Cond.initialized cls :: vx_atS own ic cls names, vx_ot w = true)
    (d0 : decode cc pc = .ok (.new ik, 3)) (d3 : decode cc (pc + 3) = .ok (.dup, 1)) (d4 : decode cc (pc + 4) = .ok (.ldc_w is, 3)) (d7 : decode cc (pc + 7) = .ok (.invokespecial ic, 3)) (d10 : decode cc (pc + 10) = .ok (.athrow, 1)) (hout : ∀ x ∈ (e_c E).exceptionTable.toList, False)
    (hf : names.length + 3 < rm.frames) (hlo : (st.map fun v => v.category).sum + (13 * (names.length + 1) + 43) ≤ rm.locals) (hrc : kc + 1 ≤ rm.cells) (hrs : ks + 6 ≤ rm.slots) (hc : kc + 1 ≤ mc) (hs : ks + 6 ≤ ms) (h : bs.flatten.Perm u.flatten) (hx : xpost cls u) : V E G A nL bs kc ks Q pc lv st := by
  subst hQ
  have hR := X.2.2.2.2.2.1
  subst hR
  intro H locs ls hP hD hS hl
  obtain ⟨sa, hsa⟩ := X.2.1.2.2.2.2.2.2 _ hstr
  refine vx_throwSW X.1.1 X.1.2.1 X.2.1.2.1 X.1.2.2.2.1 hcls hnames (X.1.2.2.2.2 _ hk) (X.1.2.2.2.2 _ hini) hsa
    (vx_hat (fun w hw => X.1.2.2.2.2 w (hat w hw)) hB (fun w hw => by rw [List.mem_singleton.mp hw]; exact va_Nw.use rfl hca)) hgood X.2.2.1.1 X.2.2.1.2 hS (by rw [X.1.2.2.1]; exact hl.1) d0 d3 d4 d7 d10 (fun x hx => (hout x hx).elim) hf hlo hrc hrs X.2.2.2.2.1 ?_ hS.2.2 hc hs
  intro t _ hz hk
  refine ⟨u, hx, ⟨?_, va_D_perm h hD⟩, Nat.le_trans hS.1 hz, fun q h1 h2 => (hk q (Nat.lt_of_lt_of_le h1 hS.1)).trans (hS.2.1 q h1 h2)⟩
  exact va_P_iff.mpr fun q hq => (va_P_iff.mp (va_P_perm h hP) q hq).kept (hk _ (va_P_iff.mp (va_P_perm h hP) q hq).lt)
end VE
/-! methods with a table of handlers that return whatever is thrown -/
def CW (l : Launch) (G : gT) (y : MethodName) (ws : List Cond) (hh : List (Nat × Nat × Nat × Nat)) (nf nl n : Nat) (av : List Value) (bs : List va_W) (mc ms : Nat) (post : Option Value → List va_W → Prop) : Prop :=
  ∃ (rm : Room) (bytes : ByteArray) (maxL : Nat) (ret : Option FieldType) (ws' : List Cond), ws = Cond.codeWith y bytes maxL ret hh :: ws' ∧ rm.cells = mc ∧ rm.slots = ms ∧ rm.frames + 1 ≤ nf ∧ 8 + (maxL + 11) + rm.locals ≤ nl ∧
    (y.cls ≠ "java/lang/invoke/MethodHandle" ∧ y.cls ≠ "java/lang/invoke/VarHandle" ∧ (parseMethodDescriptor y.desc).map (fun d => d.parameters.length) = some n) ∧
    ∀ sz : Nat, Met l y ws rm (PcC l G av bs sz) (QcC G (va_A bs.flatten sz) post) mc ms (va_A bs.flatten sz)
theorem CW_of {l : Launch} {G : gT} {y : MethodName} {ws ws' : List Cond} {hh : List (Nat × Nat × Nat × Nat)} {n nL : Nat} {av : List Value} {bs : List va_W} {mc ms : Nat} {post : Option Value → List va_W → Prop} {cc : ByteArray} {ret : Option FieldType} (own : String) (fr lo : Nat) (hw : ws = Cond.codeWith y cc nL ret hh :: ws') (ho : own = y.cls) (hy : plainName y.cls = true)
    (hd : y.cls ≠ "java/lang/invoke/MethodHandle" ∧ y.cls ≠ "java/lang/invoke/VarHandle" ∧ (parseMethodDescriptor y.desc).map (fun d => d.parameters.length) = some n) (hle : (lg_sl av).length ≤ nL)
    (body : ∀ (E : EE) (A : Nat → Prop), Cx E G A nL cc own ws ({ frames := fr, cells := mc, slots := ms, locals := lo } : Room) l → (e_h E).sig.returnType = ret → (e_c E).exceptionTable.toList = tableOf hh → V E G A nL bs 0 0 (QM E G A post mc ms) 0 (lv_args 0 av) []) :
    CW l G y ws hh (fr + 1) (nL + 19 + lo) n av bs mc ms post := by
  refine ⟨{ frames := fr, cells := mc, slots := ms, locals := lo }, cc, nL, ret, ws', hw, rfl, rfl, Nat.le_refl _, by show 8 + (nL + 11) + lo ≤ _; omega, hd, fun sz => ?_⟩
  refine va_MetW (cc := cc) (maxL := nL) (ret := ret) (hh := hh) hy hw ?_
  intro p e s m args below meth c s₁ B hml hv
  obtain ⟨rfl, hsz, hP, hK, hD0, hZ⟩ := hv
  have hts := atoms_spec (ws := ws) B.pre
  have hown : s.vm.findClass own = some m.cls := by rw [ho]; exact findClass_of_methodNamed B.named
  subst hsz
  have hl := lv_entry av (n := nL) hle
  rw [lg_entry_eq]
  exact body (p, l, e, _, s, m, av.toArray, below, meth, c) (va_A bs.flatten s.heap.size) ⟨⟨B.exec, B.bytes, hml, hown, hts⟩, hK, hZ, fun q h => Or.inr h, B.notSynchronized, rfl, rfl⟩ B.returns (vx_table (x := y) B (hts _ (by rw [hw]; exact List.mem_cons_self))) s.heap [] _ hP hD0.self va_S.rf hl
section VW
variable {E : EE} {G : gT} {A : Nat → Prop} {nL : Nat} {bs bs' : List va_W} {kc ks : Nat} {Q : State → Prop} {pc pc' : Nat} {lv lv' : List (Nat × Value)} {st st0 : List Value} {cc : ByteArray} {own : String} {Ts : List Cond} {rm : Room} {l : Launch} {mc ms : Nat} {post : Option Value → List va_W → Prop}
theorem V_callSW {y : MethodName} {ws : List Cond} {hh : List (Nat × Nat × Nat × Nat)} {nf nl n index : Nat} {As : List Value} {bsc : List va_W} (ic ir : List Nat) (hp : (List.range bs.length).Perm (ic ++ ir)) (X : Cx E G A nL cc own Ts rm l) (hM : CW l G y ws hh nf nl n As bsc mc ms post) (hbc : pk bs ic = bsc) (hG : GoodIn Ts (va_wsS own index y ws))
    (hst : st0 = As.reverse ++ st) (hn : As.length = n) (hW : (st.map fun v => v.category).sum ≤ 8) (hR : nf ≤ rm.frames ∧ nl ≤ rm.locals) (hf : kc + mc ≤ rm.cells ∧ ks + ms ≤ rm.slots) (d : decode cc pc = .ok (.invokestatic index, 3)) (hq : pc + 3 = pc')
    (kk : ∀ v u, post v u → V E G A nL (pk bs ir ++ u) (kc + mc) (ks + ms) Q pc' lv (v.toList ++ st)) : V E G A nL bs kc ks Q pc lv st0 := by
  have hR := X.2.2.2.2.2.1
  subst hR
  have hL := X.2.2.2.2.2.2
  subst hL
  subst hst
  subst hbc
  obtain ⟨rm, bytes, maxL, ret, ws', hw, hrc, hrs, hfr, hlo, hd, hMet⟩ := hM
  refine V_run (a := As.toArray) ic ir hp hq (fun H locs ls hP hPc hDc hZ hl => ?_) X kk
  exact vx_runSW (n := n) X.1 (hMet H.size) (vx_cwSW n X.1.2.2.2.2 hG hw hrc hrs hd ⟨Nat.le_trans hfr hR.1, Nat.le_trans hlo hR.2⟩)
    ⟨PcC.blind, pre_ X hPc hDc hZ⟩ rfl hn hl.1 rfl (lv_room hW) d hf
end VW
end
