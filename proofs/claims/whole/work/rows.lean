section
-- ===== PART A: goes FIRST, ahead of the names: the tables' words, and 'selects' of the private methods out of them =====
/-- a private method of a class that the tables say can be made, by its rows of tables_1 -/
def lw_okq (q : MethodName × Nat) : Prop := (q.1.cls ≠ "java/lang/invoke/MethodHandle" ∧ q.1.cls ≠ "java/lang/invoke/VarHandle") ∧ Cond.instantiable q.1.cls q.2 ∈ tables_1 ∧ Cond.privateMethod q.1 ∈ tables_1 ∧ Cond.instanceMethod q.1 ∈ tables_1
theorem lw_p0 : lw_okq (⟨"DutyLedger", "batchThatIs", "(II)LDutyLedger$Batch;"⟩, 11) := ⟨⟨by decide +kernel, by decide +kernel⟩, List.mem_of_getElem? (i := 15) (by decide +kernel), List.mem_of_getElem? (i := 113) (by decide +kernel), List.mem_of_getElem? (i := 114) (by decide +kernel)⟩
theorem lw_p1 : lw_okq (⟨"DutyLedger", "batchAt", "(I)LDutyLedger$Batch;"⟩, 11) := ⟨⟨by decide +kernel, by decide +kernel⟩, List.mem_of_getElem? (i := 15) (by decide +kernel), List.mem_of_getElem? (i := 117) (by decide +kernel), List.mem_of_getElem? (i := 118) (by decide +kernel)⟩
theorem lw_p2 : lw_okq (⟨"DutyLedger", "isAccount", "(I)Z"⟩, 11) := ⟨⟨by decide +kernel, by decide +kernel⟩, List.mem_of_getElem? (i := 15) (by decide +kernel), List.mem_of_getElem? (i := 121) (by decide +kernel), List.mem_of_getElem? (i := 122) (by decide +kernel)⟩
theorem lw_p3 : lw_okq (⟨"java/lang/Throwable", "fillInStackTrace", "(I)Ljava/lang/Throwable;"⟩, 6) := ⟨⟨by decide +kernel, by decide +kernel⟩, List.mem_of_getElem? (i := 220) (by decide +kernel), List.mem_of_getElem? (i := 218) (by decide +kernel), List.mem_of_getElem? (i := 219) (by decide +kernel)⟩
theorem lw_p4 : lw_okq (⟨"DutyLedger", "keep", "(LDutyLedger$Batch;)I"⟩, 11) := ⟨⟨by decide +kernel, by decide +kernel⟩, List.mem_of_getElem? (i := 15) (by decide +kernel), List.mem_of_getElem? (i := 321) (by decide +kernel), List.mem_of_getElem? (i := 322) (by decide +kernel)⟩
theorem lw_p5 : lw_okq (⟨"DutyLedger", "whatIsWrongWith", "(LDutyLedger$Batch;)I"⟩, 11) := ⟨⟨by decide +kernel, by decide +kernel⟩, List.mem_of_getElem? (i := 15) (by decide +kernel), List.mem_of_getElem? (i := 334) (by decide +kernel), List.mem_of_getElem? (i := 335) (by decide +kernel)⟩
theorem lw_p6 : lw_okq (⟨"DutyLedger", "makeVoid", "(LDutyLedger$Batch;I)V"⟩, 11) := ⟨⟨by decide +kernel, by decide +kernel⟩, List.mem_of_getElem? (i := 15) (by decide +kernel), List.mem_of_getElem? (i := 346) (by decide +kernel), List.mem_of_getElem? (i := 347) (by decide +kernel)⟩
theorem lw_p7 : lw_okq (⟨"DutyLedger", "accountFarthestFromZero", "(LDutyLedger$Batch;)I"⟩, 11) := ⟨⟨by decide +kernel, by decide +kernel⟩, List.mem_of_getElem? (i := 15) (by decide +kernel), List.mem_of_getElem? (i := 350) (by decide +kernel), List.mem_of_getElem? (i := 351) (by decide +kernel)⟩
theorem lw_p8 : lw_okq (⟨"DutyLedger", "failHalfway", "(ILDutyLedger$Batch;)V"⟩, 11) := ⟨⟨by decide +kernel, by decide +kernel⟩, List.mem_of_getElem? (i := 15) (by decide +kernel), List.mem_of_getElem? (i := 362) (by decide +kernel), List.mem_of_getElem? (i := 363) (by decide +kernel)⟩
theorem lw_p9 : lw_okq (⟨"DutyLedger", "enter", "(ILDutyLedger$Batch;)V"⟩, 11) := ⟨⟨by decide +kernel, by decide +kernel⟩, List.mem_of_getElem? (i := 15) (by decide +kernel), List.mem_of_getElem? (i := 390) (by decide +kernel), List.mem_of_getElem? (i := 391) (by decide +kernel)⟩
theorem lw_p10 : lw_okq (⟨"DutyLedger", "collectedOf", "(II)J"⟩, 11) := ⟨⟨by decide +kernel, by decide +kernel⟩, List.mem_of_getElem? (i := 15) (by decide +kernel), List.mem_of_getElem? (i := 442) (by decide +kernel), List.mem_of_getElem? (i := 443) (by decide +kernel)⟩
theorem lw_p11 : lw_okq (⟨"DutyLedger$Shares", "allParts", "(I)I"⟩, 2) := ⟨⟨by decide +kernel, by decide +kernel⟩, List.mem_of_getElem? (i := 62) (by decide +kernel), List.mem_of_getElem? (i := 462) (by decide +kernel), List.mem_of_getElem? (i := 463) (by decide +kernel)⟩
theorem lw_p12 : lw_okq (⟨"DutyLedger$Shares", "wholeShare", "(IIJ)J"⟩, 2) := ⟨⟨by decide +kernel, by decide +kernel⟩, List.mem_of_getElem? (i := 62) (by decide +kernel), List.mem_of_getElem? (i := 466) (by decide +kernel), List.mem_of_getElem? (i := 467) (by decide +kernel)⟩
theorem lw_p13 : lw_okq (⟨"DutyLedger$Shares", "placeByRemainder", "(IIJ)I"⟩, 2) := ⟨⟨by decide +kernel, by decide +kernel⟩, List.mem_of_getElem? (i := 62) (by decide +kernel), List.mem_of_getElem? (i := 470) (by decide +kernel), List.mem_of_getElem? (i := 471) (by decide +kernel)⟩
theorem lw_p14 : lw_okq (⟨"DutyLedger$Shares", "remainder", "(IIJ)J"⟩, 2) := ⟨⟨by decide +kernel, by decide +kernel⟩, List.mem_of_getElem? (i := 62) (by decide +kernel), List.mem_of_getElem? (i := 474) (by decide +kernel), List.mem_of_getElem? (i := 475) (by decide +kernel)⟩
theorem lw_p15 : lw_okq (⟨"DutyLedger$Shares", "centsLeft", "(IJ)J"⟩, 2) := ⟨⟨by decide +kernel, by decide +kernel⟩, List.mem_of_getElem? (i := 62) (by decide +kernel), List.mem_of_getElem? (i := 478) (by decide +kernel), List.mem_of_getElem? (i := 479) (by decide +kernel)⟩
def lw_privs_1 : List (MethodName × Nat) := [(⟨"DutyLedger", "batchThatIs", "(II)LDutyLedger$Batch;"⟩, 11), (⟨"DutyLedger", "batchAt", "(I)LDutyLedger$Batch;"⟩, 11), (⟨"DutyLedger", "isAccount", "(I)Z"⟩, 11), (⟨"java/lang/Throwable", "fillInStackTrace", "(I)Ljava/lang/Throwable;"⟩, 6), (⟨"DutyLedger", "keep", "(LDutyLedger$Batch;)I"⟩, 11), (⟨"DutyLedger", "whatIsWrongWith", "(LDutyLedger$Batch;)I"⟩, 11), (⟨"DutyLedger", "makeVoid", "(LDutyLedger$Batch;I)V"⟩, 11), (⟨"DutyLedger", "accountFarthestFromZero", "(LDutyLedger$Batch;)I"⟩, 11), (⟨"DutyLedger", "failHalfway", "(ILDutyLedger$Batch;)V"⟩, 11), (⟨"DutyLedger", "enter", "(ILDutyLedger$Batch;)V"⟩, 11), (⟨"DutyLedger", "collectedOf", "(II)J"⟩, 11), (⟨"DutyLedger$Shares", "allParts", "(I)I"⟩, 2), (⟨"DutyLedger$Shares", "wholeShare", "(IIJ)J"⟩, 2), (⟨"DutyLedger$Shares", "placeByRemainder", "(IIJ)I"⟩, 2), (⟨"DutyLedger$Shares", "remainder", "(IIJ)J"⟩, 2), (⟨"DutyLedger$Shares", "centsLeft", "(IJ)J"⟩, 2)]
theorem lw_r1 : ∀ q ∈ lw_privs_1, lw_okq q := List.forall_mem_cons.mpr ⟨lw_p0, List.forall_mem_cons.mpr ⟨lw_p1, List.forall_mem_cons.mpr ⟨lw_p2, List.forall_mem_cons.mpr ⟨lw_p3, List.forall_mem_cons.mpr ⟨lw_p4, List.forall_mem_cons.mpr ⟨lw_p5, List.forall_mem_cons.mpr ⟨lw_p6, List.forall_mem_cons.mpr ⟨lw_p7, List.forall_mem_cons.mpr ⟨lw_p8, List.forall_mem_cons.mpr ⟨lw_p9, List.forall_mem_cons.mpr ⟨lw_p10, List.forall_mem_cons.mpr ⟨lw_p11, List.forall_mem_cons.mpr ⟨lw_p12, List.forall_mem_cons.mpr ⟨lw_p13, List.forall_mem_cons.mpr ⟨lw_p14, List.forall_mem_cons.mpr ⟨lw_p15, fun _ h => absurd h List.not_mem_nil⟩⟩⟩⟩⟩⟩⟩⟩⟩⟩⟩⟩⟩⟩⟩⟩
theorem lw_p16 : lw_okq (⟨"DutyLedgerModel", "begin", "(III)V"⟩, 22) := ⟨⟨by decide +kernel, by decide +kernel⟩, List.mem_of_getElem? (i := 524) (by decide +kernel), List.mem_of_getElem? (i := 621) (by decide +kernel), List.mem_of_getElem? (i := 622) (by decide +kernel)⟩
theorem lw_p17 : lw_okq (⟨"DutyLedgerModel", "isOpen", "(I)Z"⟩, 22) := ⟨⟨by decide +kernel, by decide +kernel⟩, List.mem_of_getElem? (i := 524) (by decide +kernel), List.mem_of_getElem? (i := 629) (by decide +kernel), List.mem_of_getElem? (i := 630) (by decide +kernel)⟩
theorem lw_p18 : lw_okq (⟨"DutyLedgerModel", "isAccount", "(I)Z"⟩, 22) := ⟨⟨by decide +kernel, by decide +kernel⟩, List.mem_of_getElem? (i := 524) (by decide +kernel), List.mem_of_getElem? (i := 633) (by decide +kernel), List.mem_of_getElem? (i := 634) (by decide +kernel)⟩
theorem lw_p19 : lw_okq (⟨"DutyLedgerModel", "wrongWith", "(I)I"⟩, 22) := ⟨⟨by decide +kernel, by decide +kernel⟩, List.mem_of_getElem? (i := 524) (by decide +kernel), List.mem_of_getElem? (i := 647) (by decide +kernel), List.mem_of_getElem? (i := 648) (by decide +kernel)⟩
theorem lw_p20 : lw_okq (⟨"DutyLedgerModel", "sumIn", "(II)J"⟩, 22) := ⟨⟨by decide +kernel, by decide +kernel⟩, List.mem_of_getElem? (i := 524) (by decide +kernel), List.mem_of_getElem? (i := 651) (by decide +kernel), List.mem_of_getElem? (i := 652) (by decide +kernel)⟩
theorem lw_p21 : lw_okq (⟨"DutyLedgerModel", "greatestIn", "(I)I"⟩, 22) := ⟨⟨by decide +kernel, by decide +kernel⟩, List.mem_of_getElem? (i := 524) (by decide +kernel), List.mem_of_getElem? (i := 655) (by decide +kernel), List.mem_of_getElem? (i := 656) (by decide +kernel)⟩
theorem lw_p22 : lw_okq (⟨"DutyLedgerModel", "enter", "(I)V"⟩, 22) := ⟨⟨by decide +kernel, by decide +kernel⟩, List.mem_of_getElem? (i := 524) (by decide +kernel), List.mem_of_getElem? (i := 659) (by decide +kernel), List.mem_of_getElem? (i := 660) (by decide +kernel)⟩
theorem lw_p23 : lw_okq (⟨"DutyLedgerModel", "sum", "(IIII)J"⟩, 22) := ⟨⟨by decide +kernel, by decide +kernel⟩, List.mem_of_getElem? (i := 524) (by decide +kernel), List.mem_of_getElem? (i := 675) (by decide +kernel), List.mem_of_getElem? (i := 676) (by decide +kernel)⟩
theorem lw_p24 : lw_okq (⟨"DutyLedgerModel", "sumOf", "(II)J"⟩, 22) := ⟨⟨by decide +kernel, by decide +kernel⟩, List.mem_of_getElem? (i := 524) (by decide +kernel), List.mem_of_getElem? (i := 699) (by decide +kernel), List.mem_of_getElem? (i := 700) (by decide +kernel)⟩
theorem lw_p25 : lw_okq (⟨"DutyLedgerModel", "share", "(IIJ)J"⟩, 22) := ⟨⟨by decide +kernel, by decide +kernel⟩, List.mem_of_getElem? (i := 524) (by decide +kernel), List.mem_of_getElem? (i := 704) (by decide +kernel), List.mem_of_getElem? (i := 705) (by decide +kernel)⟩
theorem lw_p26 : lw_okq (⟨"DutyLedgerModel", "partsOf", "(I)I"⟩, 22) := ⟨⟨by decide +kernel, by decide +kernel⟩, List.mem_of_getElem? (i := 524) (by decide +kernel), List.mem_of_getElem? (i := 708) (by decide +kernel), List.mem_of_getElem? (i := 709) (by decide +kernel)⟩
def lw_privs_2 : List (MethodName × Nat) := [(⟨"DutyLedgerModel", "begin", "(III)V"⟩, 22), (⟨"DutyLedgerModel", "isOpen", "(I)Z"⟩, 22), (⟨"DutyLedgerModel", "isAccount", "(I)Z"⟩, 22), (⟨"DutyLedgerModel", "wrongWith", "(I)I"⟩, 22), (⟨"DutyLedgerModel", "sumIn", "(II)J"⟩, 22), (⟨"DutyLedgerModel", "greatestIn", "(I)I"⟩, 22), (⟨"DutyLedgerModel", "enter", "(I)V"⟩, 22), (⟨"DutyLedgerModel", "sum", "(IIII)J"⟩, 22), (⟨"DutyLedgerModel", "sumOf", "(II)J"⟩, 22), (⟨"DutyLedgerModel", "share", "(IIJ)J"⟩, 22), (⟨"DutyLedgerModel", "partsOf", "(I)I"⟩, 22)]
theorem lw_r2 : ∀ q ∈ lw_privs_2, lw_okq q := List.forall_mem_cons.mpr ⟨lw_p16, List.forall_mem_cons.mpr ⟨lw_p17, List.forall_mem_cons.mpr ⟨lw_p18, List.forall_mem_cons.mpr ⟨lw_p19, List.forall_mem_cons.mpr ⟨lw_p20, List.forall_mem_cons.mpr ⟨lw_p21, List.forall_mem_cons.mpr ⟨lw_p22, List.forall_mem_cons.mpr ⟨lw_p23, List.forall_mem_cons.mpr ⟨lw_p24, List.forall_mem_cons.mpr ⟨lw_p25, List.forall_mem_cons.mpr ⟨lw_p26, fun _ h => absurd h List.not_mem_nil⟩⟩⟩⟩⟩⟩⟩⟩⟩⟩⟩
def lw_privs : List (MethodName × Nat) := lw_privs_1 ++ (lw_privs_2)
def lw_tbl : List Cond := k2_sels lw_privs ++ tables_1
theorem lw_privs_ok : ∀ q ∈ lw_privs, lw_okq q := by
  show ∀ q ∈ lw_privs_1 ++ (lw_privs_2), lw_okq q
  exact List.forall_mem_append.mpr ⟨lw_r1, lw_r2⟩
end
section
/-! ===== BEGIN words of one list among another's, by their places ===== -/
theorem goodIn_r {big : List Cond} (ws : List Cond) (ps : List Nat) (hp : ws = ps.filterMap (fun i => big[i]?)) (h : ws.all goodWord = true) : GoodIn big ws := by
  intro w hw
  have h1 := List.all_eq_true.mp h w hw
  rw [hp] at hw
  obtain ⟨i, -, hi⟩ := List.mem_filterMap.mp hw
  have hm : w ∈ big := by first | exact List.mem_of_getElem? hi | exact List.getElem?_mem hi
  exact ⟨hm, good_of_word h1⟩
theorem goodIn_app {big a b : List Cond} (ha : GoodIn big a) (hb : GoodIn big b) : GoodIn big (a ++ b) := fun w h => (List.mem_append.mp h).elim (ha w) (hb w)
theorem goodIn_ca {big a b : List Cond} {c : Cond} (ha : GoodIn big (c :: a)) (hb : GoodIn big b) : GoodIn big (c :: (a ++ b)) := fun w h => (List.mem_cons.mp h).elim (fun e => ha w (List.mem_cons.mpr (Or.inl e))) (fun h => (List.mem_append.mp h).elim (fun h => ha w (List.mem_cons.mpr (Or.inr h))) (hb w))
theorem goodIn_sub {big ws : List Cond} (hm : ∀ w ∈ ws, w ∈ big) (h : ws.all goodWord = true) : GoodIn big ws := fun w hw => ⟨hm w hw, good_of_word (List.all_eq_true.mp h w hw)⟩
/-! ===== END ===== -/

/-! ===== BEGIN exceptions that leave a method, and their catching by the caller (launches without stack traces) ===== -/
section VXA
/-! The laws vx_back, vx_callV, vx_callS, vx_callSW, vx_throw0, vx_throwS follow proofs of the library, with one case more: JvmDerived/Free/Laws.lean (Back.of_free), Shelf42/LK1.lean (callV, callS), Shelf/KitTraced.lean (throwNew0V, throwNewS). -/
/-- where a method has thrown q: the class by its name, the cell, what was written, the world -/
def vx_T (XC : String → State → State → Prop) (st : State) (q : Addr) (t : State) (mc ms : Nat) (free : Addr → Prop) : Prop :=
  ∃ (E : String) (ce : Cell) (L : List Loc), XC E st t ∧ t.heap[q]? = some ce ∧ ce.vm = .none ∧ st.vm.findClass E = some ce.cls ∧ st.WarmedH t.vm ∧ st.sameButNew ({ t with vm := st.vm } : State) L mc ms ∧ ∀ z ∈ L, free z.base
def vx_Q (Qc : Array Value → State → Outcome → State → Prop) (XC : String → State → State → Prop) (mc ms : Nat) (free : Addr → Prop) : Array Value → State → Outcome → State → Prop := fun a st o t =>
  (Qc a st o t ∧ ∃ L, FrameEnd st o t L mc ms ∧ ∀ q ∈ L, free q.base) ∨ ∃ q, o = .threw q ∧ vx_T XC st q t mc ms free
/-- a callee that returns or throws -/
def vx_Met (l : Launch) (y : MethodName) (ws : List Cond) (rm : Room) (Pc : Array Value → State → Prop) (Qc : Array Value → State → Outcome → State → Prop) (XC : String → State → State → Prop) (mc ms : Nat) (free : Addr → Prop) : Prop :=
  MetFree l y (headSpec ws rm) Pc (fun _ _ _ _ _ => True) (vx_Q Qc XC mc ms free)
def vx_Post (XC : String → State → State → Prop) (mc ms : Nat) (free : Addr → Prop) : Pt → Array Value → Addr → Pt → Prop := fun A a q B =>
  ∃ (g : JFrame) (mk : MethodId) (t : State) (L : List Loc) (E : String) (ce : Cell), B.U.heap = t.heap ∧ B.U.vm = t.vm ∧ XC E (A.U.calling g mk a) t ∧ t.heap[q]? = some ce ∧ ce.vm = .none ∧ A.U.vm.findClass E = some ce.cls ∧ B.locs = A.locs ++ L ∧ (∀ z ∈ L, free z.base) ∧ B.cells = A.cells + mc ∧ B.slots = A.slots + ms
def vx_Back (l : Launch) (R : Room) (p : Program) (e : Env) (below : List Frame) (s : State) (sargs : Array Value) (y : MethodName) (len W9 : Nat)
    (Pre : Pt → Array Value → Prop) (Post : Pt → Array Value → Option Value → Pt → Prop) (PostX : Pt → Array Value → Addr → Pt → Prop) : Prop :=
  ∀ (m : MethodId) (meth : Method) (c : Code) (A : Pt) (g : JFrame) (ig : Instr) (mk : MethodId) (a : Array Value),
    Stand p l e R s m sargs below meth c A.U A.locs A.cells A.slots → g.method = m → g.locals.size = c.maxLocals → decode c.code g.pc = .ok (ig, len) →
    2 * g.monitorRoom + (g.stack.map fun v => v.category).sum ≤ W9 → A.U.methodNamed? y = some mk → Pre A a →
    (∃ (v : Option Value) (B : Pt), Stand p l e R s m sargs below meth c B.U B.locs B.cells B.slots ∧ Post A a v B ∧
      Steps p.tables e below (doInvoke e (A.U.setTop g) [] mk a).1 (B.U.setTop { g with pc := g.pc + len, stack := v.toList ++ g.stack })) ∨
    (∃ (q : Addr) (B : Pt), Stand p l e R s m sargs below meth c B.U B.locs B.cells B.slots ∧ PostX A a q B ∧
      Steps p.tables e below (doInvoke e (A.U.setTop g) [] mk a).1 ((B.U.setTop g).pushFrame (.throwing q)))
section Payer
variable {l : Launch} {R : Room} {p : Program} {e : Env} {below : List Frame} {s : State} {sargs : Array Value} {y : MethodName} {len W9 : Nat}
theorem vx_back {ws : List Cond} {rm : Room} {Pc : Array Value → State → Prop} {Qc : Array Value → State → Outcome → State → Prop} {XC : String → State → State → Prop} {mc ms : Nat} {free : Addr → Prop} {bytes : ByteArray} {maxL : Nat} {ret : Option FieldType}
    (hM : vx_Met l y ws rm Pc Qc XC mc ms free) (hblind : FrameBlind Pc) (hrc : rm.cells = mc) (hrs : rm.slots = ms)
    (hframes : rm.frames + 1 ≤ R.frames) (hlocals : W9 + (maxL + 11) + rm.locals ≤ R.locals)
    (hws : ∀ w ∈ ws, ∀ a' U, s.WarmedH U.vm → w.before a' U = true) (hcode : Cond.code y bytes maxL ret ∈ ws) (hinit : ∀ a' U, s.WarmedH U.vm → (Cond.initialized y.cls).before a' U = true) :
    vx_Back l R p e below s sargs y len W9 (PreOf R mc ms Pc) (PostOf Qc mc ms free) (vx_Post XC mc ms free) := by
  intro m meth c A g ig mk a X hg hsize hdg hW hn hp
  have h1 : (headSpec ws rm).pre.before a A.U = true := atoms_intro fun w hw => hws w hw _ _ X.warmed
  have h2 : (Cond.code y bytes maxL ret).before a A.U = true := hws _ hcode _ _ X.warmed
  have h3 : (Cond.initialized y.cls).before a A.U = true := hinit _ _ X.warmed
  have h4 : A.cells + (headSpec ws rm).room.cells ≤ R.cells := by rw [show (headSpec ws rm).room.cells = mc from hrc]; exact hp.1
  have h5 : A.slots + (headSpec ws rm).room.slots ≤ R.slots := by rw [show (headSpec ws rm).room.slots = ms from hrs]; exact hp.2.1
  have hPc : Pc a (A.U.calling g mk a) := hblind _ _ _ _ hp.2.2
  obtain ⟨U, Ls, c0, s0⟩ := A
  dsimp only [Pt.U, Pt.locs, Pt.cells, Pt.slots] at h1 h2 h3 h4 h5 X hn hPc ⊢
  obtain ⟨methY, cY, hmY, hcY, -, hlY, -, -, -, -⟩ := Cond.code_spec hn h2
  obtain ⟨kY, hkY, -⟩ := className_of_methodNamed hn
  have hinitY : kY.init = .initialized := Cond.initialized_spec (findClass_of_methodNamed hn) hkY h3
  have h : At U g.method c below := by rw [hg]; exact X.here
  have hlocals9 : W9 + (maxL + 11) + (headSpec ws rm).room.locals ≤ R.locals := hlocals
  have happ : (headSpec ws rm).appliesLoose y e.platform (U.calling g mk a) = true :=
    Spec.appliesLoose_calling (g := g) h hdg hn hkY hinitY
      (X.room_calling (g := g) (R' := (headSpec ws rm).room) hsize hmY hcY hframes (by rw [hlY]; omega) h4 h5) h1
  obtain ⟨mid, hmid⟩ := h.above
  have hfr : (U.setTop g).frames = (.java g :: mid) ++ below := by rw [State.frames_setTop' g h.top, hmid]; rfl
  obtain ⟨o, s₂, hsteps, -, hend, hq⟩ := Steps.callFree hM p X.admits X.cas X.clock (acts := []) hfr happ hPc trivial
  have hq' : vx_Q Qc XC mc ms free a (U.calling g mk a) o s₂ := hq
  rw [State.frames_setTop' g h.top] at hend
  obtain ⟨g₀, hg0⟩ := Option.isSome_iff_exists.mp h.top
  obtain ⟨r, hr⟩ := State.topJava?_eq_some.mp hg0
  have hr' : (({ U with heap := s₂.heap, slotsUsed := s₂.slotsUsed } : State).setVm s₂.vm).frames = .java g₀ :: r := hr
  rcases hq' with ⟨hqc, L, hfe, hL⟩ | ⟨q, rfl, E, ce, L, hx, hce, hcv, hcl, hW₂, hsm, hL⟩
  · obtain ⟨⟨v, rfl⟩, hW₂, e2, q2, q3, q4, q5, q6⟩ := id hfe
    have e3 : s₂ = ({ (U.calling g mk a).setFrames s₂.frames with heap := s₂.heap, slotsUsed := s₂.slotsUsed } : State).setVm s₂.vm := by
      have : s₂ = ({ s₂ with vm := (U.calling g mk a).vm } : State).setVm s₂.vm := rfl
      rw [e2] at this
      exact this
    obtain ⟨c₂, i₂, len₂, hc₂, hd₂, hf₂⟩ := hend
    have hW' : U.WarmedH s₂.vm := hW₂
    have hcc : c₂ = c := by
      have h1 : s₂.code? g.method = U.code? g.method := by
        rw [State.code?_eq, State.code?_eq, hW'.alike.method?]
      exact Option.some.inj (hc₂.symm.trans (h1.trans h.code))
    subst hcc
    have hlen : len₂ = len := by rw [hdg] at hd₂; cases hd₂; rfl
    subst hlen
    have hs₂ : s₂ = (({ U with heap := s₂.heap, slotsUsed := s₂.slotsUsed } : State).setVm s₂.vm).setTop { g with pc := g.pc + len₂, stack := v.toList ++ g.stack } := by
      refine e3.trans ?_
      rw [hf₂, State.calling_eq h.top, State.setFrames_setFrames, State.setTop_of_frames _ hr', hr]
      rfl
    have hsame : U.sameButNew ({ U with heap := s₂.heap, slotsUsed := s₂.slotsUsed } : State) L mc ms := by
      refine ⟨?_, q2, q3, q4, q5, q6⟩
      obtain ⟨t, ht, -⟩ := State.frames_cons hr
      show ({ U with heap := s₂.heap, slotsUsed := s₂.slotsUsed } : State) = { U.setFrames U.frames with heap := s₂.heap, slotsUsed := s₂.slotsUsed }
      rw [State.setFrames_self ht]
    subst hg
    refine Or.inl ⟨v, ⟨(({ U with heap := s₂.heap, slotsUsed := s₂.slotsUsed } : State).setVm s₂.vm), Ls ++ L, c0 + mc, s0 + ms⟩,
      ⟨X.admits, X.cas, X.clock, X.frames, X.room, X.hears, X.method, X.code, (X.here.setHeapUsed s₂.heap s₂.slotsUsed).setVm hW'.alike, X.tail, State.WarmedH.trans X.warmed hW', X.limits, X.bytes, X.same.trans (hsame.setVm s.vm)⟩,
      ⟨g, mk, s₂, L, rfl, rfl, hqc, rfl, hL, rfl, rfl⟩, ?_⟩
    show Steps p.tables e below _ ((({ U with heap := s₂.heap, slotsUsed := s₂.slotsUsed } : State).setVm s₂.vm).setTop { g with pc := g.pc + len₂, stack := v.toList ++ g.stack })
    rw [← hs₂]
    exact hsteps
  · obtain ⟨e2, q2, q3, q4, q5, q6⟩ := id hsm
    have e3 : s₂ = ({ (U.calling g mk a).setFrames s₂.frames with heap := s₂.heap, slotsUsed := s₂.slotsUsed } : State).setVm s₂.vm := by
      have : s₂ = ({ s₂ with vm := (U.calling g mk a).vm } : State).setVm s₂.vm := rfl
      rw [e2] at this
      exact this
    have hf₂ : s₂.frames = .throwing q :: .java g :: U.frames.tail := hend
    have hW' : U.WarmedH s₂.vm := hW₂
    have hs₂ : s₂ = ((({ U with heap := s₂.heap, slotsUsed := s₂.slotsUsed } : State).setVm s₂.vm).setTop g).pushFrame (.throwing q) := by
      refine e3.trans ?_
      rw [hf₂, State.calling_eq h.top, State.setFrames_setFrames, State.pushFrame, State.frames_setTop _ hr', State.setTop_of_frames _ hr', State.setFrames_setFrames, hr]
      rfl
    have hsame : U.sameButNew ({ U with heap := s₂.heap, slotsUsed := s₂.slotsUsed } : State) L mc ms := by
      refine ⟨?_, q2, q3, q4, q5, q6⟩
      obtain ⟨t, ht, -⟩ := State.frames_cons hr
      show ({ U with heap := s₂.heap, slotsUsed := s₂.slotsUsed } : State) = { U.setFrames U.frames with heap := s₂.heap, slotsUsed := s₂.slotsUsed }
      rw [State.setFrames_self ht]
    subst hg
    refine Or.inr ⟨q, ⟨(({ U with heap := s₂.heap, slotsUsed := s₂.slotsUsed } : State).setVm s₂.vm), Ls ++ L, c0 + mc, s0 + ms⟩,
      ⟨X.admits, X.cas, X.clock, X.frames, X.room, X.hears, X.method, X.code, (X.here.setHeapUsed s₂.heap s₂.slotsUsed).setVm hW'.alike, X.tail, State.WarmedH.trans X.warmed hW', X.limits, X.bytes, X.same.trans (hsame.setVm s.vm)⟩,
      ⟨g, mk, s₂, L, E, ce, rfl, rfl, hx, hce, hcv, hcl, rfl, hL, rfl, rfl⟩, ?_⟩
    show Steps p.tables e below _ (((({ U with heap := s₂.heap, slotsUsed := s₂.slotsUsed } : State).setVm s₂.vm).setTop g).pushFrame (.throwing q))
    rw [← hs₂]
    exact hsteps
end Payer
section Calls
variable {p : Program} {l : Launch} {e : Env} {R : Room} {s : State} {m : MethodId} {args : Array Value} {below : List Frame} {meth : Method} {c : Code} {T : State} {locs : List Loc} {cells slots : Nat}
theorem vx_callV (X : Stand p l e R s m args below meth c T locs cells slots) (hexec : p.tables.exec = Jvm.exec) {own C : String} {index : Nat} {y : MethodName} {bytes : ByteArray} {maxL : Nat} {ret : Option FieldType}
    (hown : s.vm.findClass own = some m.cls) (hlink : (Cond.methodLink own index y).before args s = true) (hinst : (Cond.instanceMethod y).before args s = true) (hsel : (Cond.selects C y y).before args s = true)
    (hcode : (Cond.code y bytes maxL ret).before args s = true) (hy : y.cls ≠ "java/lang/invoke/MethodHandle" ∧ y.cls ≠ "java/lang/invoke/VarHandle")
    {W9 : Nat} {Pre : Pt → Array Value → Prop} {Post : Pt → Array Value → Option Value → Pt → Prop} {PostX : Pt → Array Value → Addr → Pt → Prop} (hK : vx_Back l R p e below s args y 3 W9 Pre Post PostX)
    {b : Addr} {cellB : Cell} (hcell : T.heap[b]? = some cellB) (hobj : cellB.vm.isStatics = false) (hcls : s.vm.findClass C = some cellB.cls)
    {g : JFrame} (hg : g.method = m) (hsize : g.locals.size = c.maxLocals) {argsL rest : List Value} (hlen : ∀ sig, parseMethodDescriptor y.desc = some sig → argsL.length = sig.parameters.length)
    (hstack : g.stack = argsL.reverse ++ .ref b :: rest) (hW : 2 * g.monitorRoom + (rest.map fun v => v.category).sum ≤ W9) (hdg : decode c.code g.pc = .ok (.invokevirtual index, 3))
    (hpre : ∀ vm₁, s.WarmedH vm₁ → Pre ⟨T.setVm vm₁, locs, cells, slots⟩ (Value.ref b :: argsL).toArray) :
    (∃ (v : Option Value) (vm₁ : Vm) (B : Pt), s.WarmedH vm₁ ∧ Stand p l e R s m args below meth c B.U B.locs B.cells B.slots ∧ Post ⟨T.setVm vm₁, locs, cells, slots⟩ (Value.ref b :: argsL).toArray v B ∧
      ∀ target, Steps p.tables e below (B.U.setTop { g with pc := g.pc + 3, stack := v.toList ++ rest }) target → Steps p.tables e below (T.setTop g) target) ∨
    (∃ (q : Addr) (vm₁ : Vm) (B : Pt), s.WarmedH vm₁ ∧ Stand p l e R s m args below meth c B.U B.locs B.cells B.slots ∧ PostX ⟨T.setVm vm₁, locs, cells, slots⟩ (Value.ref b :: argsL).toArray q B ∧
      Steps p.tables e below (T.setTop g) ((B.U.setTop { g with stack := rest }).pushFrame (.throwing q))) := by
  obtain ⟨mk, methM, hnamed, hmethM, hstM, habM⟩ := Cond.instanceMethod_spec hinst
  obtain ⟨methM', cM, hmethM', -, -, -, -, -, -, hsigM⟩ := Cond.code_spec hnamed hcode
  cases hmethM.symm.trans hmethM'
  obtain ⟨c2, r2, m2, q1, q2, q3, q4, kP, hkP, hkPi⟩ := Cond.selects_spec hsel
  cases hcls.symm.trans q1
  cases (State.methodFound?_of_named hnamed hy).symm.trans q2
  cases hnamed.symm.trans q3
  have hselP : selectMethod e.platform s.vm cellB.cls mk = .method mk := by rw [Launch.admits_selectMethod X.admits]; exact q4
  obtain ⟨vm₁, X₁, hstep₁⟩ := X.invokevirtual hexec hown hlink hnamed hmethM hstM hkP hkPi hy (a := b) (cell := cellB) hcell
    (fun z h => by rw [h] at hobj; cases hobj) hselP hmethM habM hkP hkPi (g := g) hg (argsL := argsL) (rest := rest) (hlen _ hsigM) hstack hdg
  rcases hK m meth c ⟨T.setVm vm₁, locs, cells, slots⟩ { g with stack := rest } (.invokevirtual index) mk (Value.ref b :: argsL).toArray X₁ hg hsize hdg hW (X₁.named hnamed) (hpre vm₁ X₁.warmed) with ⟨v, B, X', hpost, hsteps⟩ | ⟨q, B, X', hpost, hsteps⟩
  · exact Or.inl ⟨v, vm₁, B, X₁.warmed, X', hpost, fun target h => hstep₁ _ fun acts => by rw [doInvoke_state]; exact hsteps.trans h⟩
  · exact Or.inr ⟨q, vm₁, B, X₁.warmed, X', hpost, hstep₁ _ fun acts => by rw [doInvoke_state]; exact hsteps⟩
theorem vx_callS (X : Stand p l e R s m args below meth c T locs cells slots) (hexec : p.tables.exec = Jvm.exec) {own : String} {index : Nat} {y : MethodName} {bytes : ByteArray} {maxL : Nat} {ret : Option FieldType}
    (hown : s.vm.findClass own = some m.cls) (hlink : (Cond.methodLink own index y).before args s = true) (hstat : (Cond.static y).before args s = true) (hinit : (Cond.initialized y.cls).before args s = true)
    (hcode : (Cond.code y bytes maxL ret).before args s = true) (hy : y.cls ≠ "java/lang/invoke/MethodHandle" ∧ y.cls ≠ "java/lang/invoke/VarHandle")
    {W9 : Nat} {Pre : Pt → Array Value → Prop} {Post : Pt → Array Value → Option Value → Pt → Prop} {PostX : Pt → Array Value → Addr → Pt → Prop} (hK : vx_Back l R p e below s args y 3 W9 Pre Post PostX)
    {g : JFrame} (hg : g.method = m) (hsize : g.locals.size = c.maxLocals) {argsL rest : List Value} (hlen : ∀ sig, parseMethodDescriptor y.desc = some sig → argsL.length = sig.parameters.length)
    (hstack : g.stack = argsL.reverse ++ rest) (hW : 2 * g.monitorRoom + (rest.map fun v => v.category).sum ≤ W9) (hdg : decode c.code g.pc = .ok (.invokestatic index, 3))
    (hpre : ∀ vm₁, s.WarmedH vm₁ → Pre ⟨T.setVm vm₁, locs, cells, slots⟩ argsL.toArray) :
    (∃ (v : Option Value) (vm₁ : Vm) (B : Pt), s.WarmedH vm₁ ∧ Stand p l e R s m args below meth c B.U B.locs B.cells B.slots ∧ Post ⟨T.setVm vm₁, locs, cells, slots⟩ argsL.toArray v B ∧
      ∀ target, Steps p.tables e below (B.U.setTop { g with pc := g.pc + 3, stack := v.toList ++ rest }) target → Steps p.tables e below (T.setTop g) target) ∨
    (∃ (q : Addr) (vm₁ : Vm) (B : Pt), s.WarmedH vm₁ ∧ Stand p l e R s m args below meth c B.U B.locs B.cells B.slots ∧ PostX ⟨T.setVm vm₁, locs, cells, slots⟩ argsL.toArray q B ∧
      Steps p.tables e below (T.setTop g) ((B.U.setTop { g with stack := rest }).pushFrame (.throwing q))) := by
  obtain ⟨mk, hnamed⟩ := Cond.code_named hcode
  obtain ⟨methM, cM, hmethM, -, -, -, -, -, -, hsigM⟩ := Cond.code_spec hnamed hcode
  have hstatic : methM.isStatic = true := Cond.static_spec hnamed hmethM hstat
  obtain ⟨kP, hkP, -⟩ := className_of_methodNamed hnamed
  have hinitP : kP.init = .initialized := Cond.initialized_spec (findClass_of_methodNamed hnamed) hkP hinit
  obtain ⟨vm₁, X₁, hstep₁⟩ := X.invokestatic hexec hown hlink hnamed hmethM hstatic hkP hinitP hy (g := g) hg (argsL := argsL) (rest := rest) (hlen _ hsigM) hstack hdg
  rcases hK m meth c ⟨T.setVm vm₁, locs, cells, slots⟩ { g with stack := rest } (.invokestatic index) mk argsL.toArray X₁ hg hsize hdg hW (X₁.named hnamed) (hpre vm₁ X₁.warmed) with ⟨v, B, X', hpost, hsteps⟩ | ⟨q, B, X', hpost, hsteps⟩
  · exact Or.inl ⟨v, vm₁, B, X₁.warmed, X', hpost, fun target h => hstep₁ _ fun acts => by rw [doInvoke_state]; exact hsteps.trans h⟩
  · exact Or.inr ⟨q, vm₁, B, X₁.warmed, X', hpost, hstep₁ _ fun acts => by rw [doInvoke_state]; exact hsteps⟩
end Calls
theorem vx_cls {s : State} {T : State} {vm₁ : Vm} {E : String} {k : ClassId} (hW : s.WarmedH vm₁) (h : (T.setVm vm₁).vm.findClass E = some k) : s.vm.findClass E = some k := by
  have h1 : vm₁.findClass E = some k := h
  rw [hW.alike.findClass] at h1
  exact h1
/-- the method's frame g, with q thrown over it -/
def vx_W (p : Program) (l : Launch) (e : Env) (R : Room) (s : State) (m : MethodId) (args : Array Value) (below : List Frame) (meth : Method) (c : Code) (H : Heap) (locs : List Loc) (cells slots : Nat) (Q : State → Prop) (g : JFrame) (q : Addr) : Prop :=
  ∀ T : State, T.heap = H → Stand p l e R s m args below meth c T locs cells slots → ∃ t, Steps p.tables e below ((T.setTop g).pushFrame (.throwing q)) t ∧ Q t
def vx_Run (p : Program) (l : Launch) (e : Env) (R : Room) (s : State) (m : MethodId) (args : Array Value) (below : List Frame) (meth : Method) (c : Code) (H : Heap) (locs : List Loc) (cells slots mc ms : Nat) (g : JFrame) (rest : List Value) (Qa : State → Outcome → State → Prop) (XC : String → State → State → Prop) (free : Addr → Prop) : Prop :=
  ∀ T : State, T.heap = H → Stand p l e R s m args below meth c T locs cells slots →
    (∃ (v : Option Value) (st₀ t T' : State) (L : List Loc), st₀.heap = H ∧ Stand p l e R s m args below meth c T' (locs ++ L) (cells + mc) (slots + ms) ∧ (∀ q ∈ L, free q.base) ∧ T'.heap = t.heap ∧ T'.vm = t.vm ∧ Qa st₀ (.returned v) t ∧
      Goes p e below T g T' { g with pc := g.pc + 3, stack := v.toList ++ rest }) ∨
    (∃ (q : Addr) (st₀ t T' : State) (L : List Loc) (E : String) (ce : Cell), st₀.heap = H ∧ Stand p l e R s m args below meth c T' (locs ++ L) (cells + mc) (slots + ms) ∧ (∀ z ∈ L, free z.base) ∧ T'.heap = t.heap ∧ T'.vm = t.vm ∧ XC E st₀ t ∧ t.heap[q]? = some ce ∧ ce.vm = .none ∧ s.vm.findClass E = some ce.cls ∧
      Steps p.tables e below (T.setTop g) ((T'.setTop { g with stack := rest }).pushFrame (.throwing q)))
def vx_X {S : Type} (px : S → Prop) (B : String → S → State → Prop) (A : Nat → Prop) : String → State → State → Prop := fun E st t => ∃ u : S, px u ∧ B E u t ∧ va_F A st t
section Runs
variable {p : Program} {l : Launch} {e : Env} {R : Room} {s : State} {m : MethodId} {args : Array Value} {below : List Frame} {meth : Method} {c : Code} {H : Heap} {locs : List Loc} {cells slots : Nat}
variable {y : MethodName} {bytes cc : ByteArray} {maxL nL mc ms n index : Nat} {ret : Option FieldType} {ws : List Cond} {rm : Room} {Pc : Array Value → State → Prop} {Qc : Array Value → State → Outcome → State → Prop} {XC : String → State → State → Prop} {free : Addr → Prop} {Ts : List Cond} {own C : String} {b : Addr} {As rest : List Value} {g : JFrame}
theorem vx_callBack (cb : CallB R s args own index y bytes maxL ret ws rm mc ms n) (hM : vx_Met l y ws rm Pc Qc XC mc ms free) (hbl : FrameBlind Pc) : vx_Back l R p e below s args y 3 8 (PreOf R mc ms Pc) (PostOf Qc mc ms free) (vx_Post XC mc ms free) := by
  obtain ⟨hrc, hrs, hfr, hlo, hws, hcw, -, hini, -⟩ := cb
  exact vx_back (bytes := bytes) (maxL := maxL) (ret := ret) hM hbl hrc hrs hfr hlo hws hcw (fun a' U hW => word_at hW (Or.inl (by first | rfl | simp [Cond.onTables, Cond.keeps, Cond.steady])) hini)
theorem vx_runV (S : CallFix p m c cc nL s args Ts own) (hM : vx_Met l y ws rm Pc Qc XC mc ms free) (cw : CallW R s args own C index y bytes maxL ret ws rm mc ms n) (hp : PreV s H C b Pc As)
    (hg : g.method = m) (hn : As.length = n) (hsize : g.locals.size = nL) (hstack : g.stack = As.reverse ++ .ref b :: rest) (hW : 2 * g.monitorRoom + (rest.map fun v => v.category).sum ≤ 8) (hdg : decode cc g.pc = .ok (.invokevirtual index, 3)) (hf : cells + mc ≤ R.cells ∧ slots + ms ≤ R.slots) :
    vx_Run p l e R s m args below meth c H locs cells slots mc ms g rest (Qc (Value.ref b :: As).toArray) XC free := by
  have hK : vx_Back l R p e below s args y 3 8 (PreOf R mc ms Pc) (PostOf Qc mc ms free) (vx_Post XC mc ms free) := vx_callBack cw.1 hM hp.1
  obtain ⟨⟨-, -, -, -, -, -, hcode, -, hy, hlen, hl⟩, hin, hse⟩ := cw
  obtain ⟨hx, hb, hml, ho, -⟩ := S
  obtain ⟨-, ⟨cellB, hcB, hoB, hclB⟩, hPc⟩ := hp
  intro T hT X
  rcases vx_callV X hx (C := C) (bytes := bytes) (maxL := maxL) (ret := ret) ho hl hin hse hcode hy hK (by rw [hT]; exact hcB) hoB hclB hg (hsize.trans hml.symm) (argsL := As) (rest := rest) (fun sig h => hn.trans (hlen sig h)) hstack hW (by rw [hb]; exact hdg)
    (fun vm₁ hW₁ => ⟨hf.1, hf.2, hPc (T.setVm vm₁) hT hW₁⟩) with ⟨v, vm₁, ⟨U', l2, c2, s2⟩, hW₁, X', ⟨g', mk, t, L, e1, e2, hq, h1, hL, h2, h3⟩, st⟩ | ⟨q, vm₁, ⟨U', l2, c2, s2⟩, hW₁, X', ⟨g', mk, t, L, E, ce, e1, e2, hq, hce, hcv, hcl, h1, hL, h2, h3⟩, st⟩
  · dsimp only [Pt.U, Pt.locs, Pt.cells, Pt.slots] at X' e1 e2 h1 h2 h3 st
    subst h1; subst h2; subst h3
    exact Or.inl ⟨v, (T.setVm vm₁).calling g' mk (Value.ref b :: As).toArray, t, U', L, hT, X', hL, e1, e2, hq, st⟩
  · dsimp only [Pt.U, Pt.locs, Pt.cells, Pt.slots] at X' e1 e2 h1 h2 h3 st hcl
    subst h1; subst h2; subst h3
    exact Or.inr ⟨q, (T.setVm vm₁).calling g' mk (Value.ref b :: As).toArray, t, U', L, E, ce, hT, X', hL, e1, e2, hq, hce, hcv, vx_cls hW₁ hcl, st⟩
theorem vx_runS (S : CallFix p m c cc nL s args Ts own) (hM : vx_Met l y ws rm Pc Qc XC mc ms free) (cw : CallB R s args own index y bytes maxL ret ws rm mc ms n ∧ (Cond.static y).before args s = true) (hp : PreS s H Pc As)
    (hg : g.method = m) (hn : As.length = n) (hsize : g.locals.size = nL) (hstack : g.stack = As.reverse ++ rest) (hW : 2 * g.monitorRoom + (rest.map fun v => v.category).sum ≤ 8) (hdg : decode cc g.pc = .ok (.invokestatic index, 3)) (hf : cells + mc ≤ R.cells ∧ slots + ms ≤ R.slots) :
    vx_Run p l e R s m args below meth c H locs cells slots mc ms g rest (Qc As.toArray) XC free := by
  have hK : vx_Back l R p e below s args y 3 8 (PreOf R mc ms Pc) (PostOf Qc mc ms free) (vx_Post XC mc ms free) := vx_callBack cw.1 hM hp.1
  obtain ⟨⟨-, -, -, -, -, -, hcode, hini, hy, hlen, hl⟩, hstt⟩ := cw
  obtain ⟨hx, hb, hml, ho, -⟩ := S
  intro T hT X
  rcases vx_callS X hx (bytes := bytes) (maxL := maxL) (ret := ret) ho hl hstt hini hcode hy hK hg (hsize.trans hml.symm) (argsL := As) (rest := rest) (fun sig h => hn.trans (hlen sig h)) hstack hW (by rw [hb]; exact hdg)
    (fun vm₁ hW₁ => ⟨hf.1, hf.2, hp.2 (T.setVm vm₁) hT hW₁⟩) with ⟨v, vm₁, ⟨U', l2, c2, s2⟩, hW₁, X', ⟨g', mk, t, L, e1, e2, hq, h1, hL, h2, h3⟩, st⟩ | ⟨q, vm₁, ⟨U', l2, c2, s2⟩, hW₁, X', ⟨g', mk, t, L, E, ce, e1, e2, hq, hce, hcv, hcl, h1, hL, h2, h3⟩, st⟩
  · dsimp only [Pt.U, Pt.locs, Pt.cells, Pt.slots] at X' e1 e2 h1 h2 h3 st
    subst h1; subst h2; subst h3
    exact Or.inl ⟨v, (T.setVm vm₁).calling g' mk As.toArray, t, U', L, hT, X', hL, e1, e2, hq, st⟩
  · dsimp only [Pt.U, Pt.locs, Pt.cells, Pt.slots] at X' e1 e2 h1 h2 h3 st hcl
    subst h1; subst h2; subst h3
    exact Or.inr ⟨q, (T.setVm vm₁).calling g' mk As.toArray, t, U', L, E, ce, hT, X', hL, e1, e2, hq, hce, hcv, vx_cls hW₁ hcl, st⟩
end Runs
section Rows
variable {p : Program} {l : Launch} {e : Env} {R : Room} {s : State} {m : MethodId} {args : Array Value} {below : List Frame} {meth : Method} {c : Code} {H : Heap} {locs : List Loc} {cells slots : Nat} {Q : State → Prop}
variable {mc ms : Nat} {free : Addr → Prop} {A0 A1 : Nat → Prop} {H0 : Heap} {a : Array Value} {pc : Nat} {ls : Array Slot} {st0 rest : List Value}
theorem vx_keep {st₀ t T' : State} {L : List Loc} (h0 : st₀.heap = H) (e1 : T'.heap = t.heap) (hS : va_S A0 H0 H locs) (hA : ∀ q, q < H.size → A1 q → A0 q) (hf : ∀ q, free q → A0 q) (hL : ∀ q ∈ L, free q.base) (hF : va_F A1 st₀ t) :
    H.size ≤ T'.heap.size ∧ (∀ q : Nat, q < H.size → ¬ A1 q → T'.heap[q]? = H[q]?) ∧ va_S A0 H0 T'.heap (locs ++ L) := by
  obtain ⟨hz, hk⟩ := hF
  rw [h0] at hz hk
  exact ⟨by rw [e1]; exact hz, fun q h1 h2 => by rw [e1]; exact hk q h1 h2,
    ⟨Nat.le_trans hS.1 (by rw [e1]; exact hz), fun q h1 h2 => by rw [e1, hk q (Nat.lt_of_lt_of_le h1 hS.1) (fun z => h2 (hA q (Nat.lt_of_lt_of_le h1 hS.1) z))]; exact hS.2.1 q h1 h2, fun q hq => by
      rcases List.mem_append.mp hq with h | h
      · exact hS.2.2 q h
      · exact hf _ (hL q h)⟩⟩
theorem vx_calli {S SX : Type} {post : Int32 → S → Prop} {px : SX → Prop} {B : S → State → Prop} {BX : String → SX → State → Prop} {AX : Nat → Prop} (hr : vx_Run p l e R s m args below meth c H locs cells slots mc ms (F0 m pc ls st0) rest (va_Qi post B A1 a) (vx_X px BX AX) free) (hS : va_S A0 H0 H locs) (hA : ∀ q, q < H.size → A1 q → A0 q) (hf : ∀ q, free q → A0 q) (hAX : ∀ q, q < H.size → AX q → A0 q)
    (kx : ∀ (E : String) (ce : Cell) (q9 : Addr) (u : SX) (t : State) (H1 : Heap) (locs1 : List Loc), t.heap = H1 → s.vm.Alike t.vm → px u → BX E u t → H.size ≤ H1.size → (∀ q : Nat, q < H.size → ¬ AX q → H1[q]? = H[q]?) → va_S A0 H0 H1 locs1 → H1[q9]? = some ce → ce.vm = .none → s.vm.findClass E = some ce.cls → vx_W p l e R s m args below meth c H1 locs1 (cells + mc) (slots + ms) Q (F0 m pc ls rest) q9)
    (kk : ∀ (r : Int32) (u : S) (t : State) (H1 : Heap) (locs1 : List Loc), t.heap = H1 → s.vm.Alike t.vm → post r u → B u t → H.size ≤ H1.size → (∀ q : Nat, q < H.size → ¬ A1 q → H1[q]? = H[q]?) → va_S A0 H0 H1 locs1 → W p l e R s m args below meth c H1 locs1 (cells + mc) (slots + ms) Q (F0 m (pc + 3) ls (.int r :: rest))) : W p l e R s m args below meth c H locs cells slots Q (F0 m pc ls st0) := by
  intro T hT X
  rcases hr T hT X with ⟨v, st₀, t, T', L, h0, X', hL, e1, e2, ⟨⟨r, u, hv, hp, hb⟩, hF⟩, st⟩ | ⟨q, st₀, t, T', L, E, ce, h0, X', hL, e1, e2, ⟨u, hp, hb, hF⟩, hce, hcv, hcl, st⟩
  · cases hv
    obtain ⟨k1, k2, k3⟩ := vx_keep h0 e1 hS hA hf hL hF
    obtain ⟨t2, a1, b1⟩ := kk r u t T'.heap (locs ++ L) e1.symm (by rw [← e2]; exact X'.warmed.alike) hp hb k1 k2 k3 T' rfl X'
    exact ⟨t2, st t2 a1, b1⟩
  · obtain ⟨k1, k2, k3⟩ := vx_keep h0 e1 hS hAX hf hL hF
    obtain ⟨t2, a1, b1⟩ := kx E ce q u t T'.heap (locs ++ L) e1.symm (by rw [← e2]; exact X'.warmed.alike) hp hb k1 k2 k3 (by rw [e1]; exact hce) hcv hcl T' rfl X'
    exact ⟨t2, st.trans a1, b1⟩
theorem vx_calll {S SX : Type} {post : Int64 → S → Prop} {px : SX → Prop} {B : S → State → Prop} {BX : String → SX → State → Prop} {AX : Nat → Prop} (hr : vx_Run p l e R s m args below meth c H locs cells slots mc ms (F0 m pc ls st0) rest (va_Ql post B A1 a) (vx_X px BX AX) free) (hS : va_S A0 H0 H locs) (hA : ∀ q, q < H.size → A1 q → A0 q) (hf : ∀ q, free q → A0 q) (hAX : ∀ q, q < H.size → AX q → A0 q)
    (kx : ∀ (E : String) (ce : Cell) (q9 : Addr) (u : SX) (t : State) (H1 : Heap) (locs1 : List Loc), t.heap = H1 → s.vm.Alike t.vm → px u → BX E u t → H.size ≤ H1.size → (∀ q : Nat, q < H.size → ¬ AX q → H1[q]? = H[q]?) → va_S A0 H0 H1 locs1 → H1[q9]? = some ce → ce.vm = .none → s.vm.findClass E = some ce.cls → vx_W p l e R s m args below meth c H1 locs1 (cells + mc) (slots + ms) Q (F0 m pc ls rest) q9)
    (kk : ∀ (r : Int64) (u : S) (t : State) (H1 : Heap) (locs1 : List Loc), t.heap = H1 → s.vm.Alike t.vm → post r u → B u t → H.size ≤ H1.size → (∀ q : Nat, q < H.size → ¬ A1 q → H1[q]? = H[q]?) → va_S A0 H0 H1 locs1 → W p l e R s m args below meth c H1 locs1 (cells + mc) (slots + ms) Q (F0 m (pc + 3) ls (.long r :: rest))) : W p l e R s m args below meth c H locs cells slots Q (F0 m pc ls st0) := by
  intro T hT X
  rcases hr T hT X with ⟨v, st₀, t, T', L, h0, X', hL, e1, e2, ⟨⟨r, u, hv, hp, hb⟩, hF⟩, st⟩ | ⟨q, st₀, t, T', L, E, ce, h0, X', hL, e1, e2, ⟨u, hp, hb, hF⟩, hce, hcv, hcl, st⟩
  · cases hv
    obtain ⟨k1, k2, k3⟩ := vx_keep h0 e1 hS hA hf hL hF
    obtain ⟨t2, a1, b1⟩ := kk r u t T'.heap (locs ++ L) e1.symm (by rw [← e2]; exact X'.warmed.alike) hp hb k1 k2 k3 T' rfl X'
    exact ⟨t2, st t2 a1, b1⟩
  · obtain ⟨k1, k2, k3⟩ := vx_keep h0 e1 hS hAX hf hL hF
    obtain ⟨t2, a1, b1⟩ := kx E ce q u t T'.heap (locs ++ L) e1.symm (by rw [← e2]; exact X'.warmed.alike) hp hb k1 k2 k3 (by rw [e1]; exact hce) hcv hcl T' rfl X'
    exact ⟨t2, st.trans a1, b1⟩
theorem vx_callf {S SX : Type} {post : UInt32 → S → Prop} {px : SX → Prop} {B : S → State → Prop} {BX : String → SX → State → Prop} {AX : Nat → Prop} (hr : vx_Run p l e R s m args below meth c H locs cells slots mc ms (F0 m pc ls st0) rest (va_Qf post B A1 a) (vx_X px BX AX) free) (hS : va_S A0 H0 H locs) (hA : ∀ q, q < H.size → A1 q → A0 q) (hf : ∀ q, free q → A0 q) (hAX : ∀ q, q < H.size → AX q → A0 q)
    (kx : ∀ (E : String) (ce : Cell) (q9 : Addr) (u : SX) (t : State) (H1 : Heap) (locs1 : List Loc), t.heap = H1 → s.vm.Alike t.vm → px u → BX E u t → H.size ≤ H1.size → (∀ q : Nat, q < H.size → ¬ AX q → H1[q]? = H[q]?) → va_S A0 H0 H1 locs1 → H1[q9]? = some ce → ce.vm = .none → s.vm.findClass E = some ce.cls → vx_W p l e R s m args below meth c H1 locs1 (cells + mc) (slots + ms) Q (F0 m pc ls rest) q9)
    (kk : ∀ (r : UInt32) (u : S) (t : State) (H1 : Heap) (locs1 : List Loc), t.heap = H1 → s.vm.Alike t.vm → post r u → B u t → H.size ≤ H1.size → (∀ q : Nat, q < H.size → ¬ A1 q → H1[q]? = H[q]?) → va_S A0 H0 H1 locs1 → W p l e R s m args below meth c H1 locs1 (cells + mc) (slots + ms) Q (F0 m (pc + 3) ls (.float r :: rest))) : W p l e R s m args below meth c H locs cells slots Q (F0 m pc ls st0) := by
  intro T hT X
  rcases hr T hT X with ⟨v, st₀, t, T', L, h0, X', hL, e1, e2, ⟨⟨r, u, hv, hp, hb⟩, hF⟩, st⟩ | ⟨q, st₀, t, T', L, E, ce, h0, X', hL, e1, e2, ⟨u, hp, hb, hF⟩, hce, hcv, hcl, st⟩
  · cases hv
    obtain ⟨k1, k2, k3⟩ := vx_keep h0 e1 hS hA hf hL hF
    obtain ⟨t2, a1, b1⟩ := kk r u t T'.heap (locs ++ L) e1.symm (by rw [← e2]; exact X'.warmed.alike) hp hb k1 k2 k3 T' rfl X'
    exact ⟨t2, st t2 a1, b1⟩
  · obtain ⟨k1, k2, k3⟩ := vx_keep h0 e1 hS hAX hf hL hF
    obtain ⟨t2, a1, b1⟩ := kx E ce q u t T'.heap (locs ++ L) e1.symm (by rw [← e2]; exact X'.warmed.alike) hp hb k1 k2 k3 (by rw [e1]; exact hce) hcv hcl T' rfl X'
    exact ⟨t2, st.trans a1, b1⟩
theorem vx_calld {S SX : Type} {post : UInt64 → S → Prop} {px : SX → Prop} {B : S → State → Prop} {BX : String → SX → State → Prop} {AX : Nat → Prop} (hr : vx_Run p l e R s m args below meth c H locs cells slots mc ms (F0 m pc ls st0) rest (va_Qd post B A1 a) (vx_X px BX AX) free) (hS : va_S A0 H0 H locs) (hA : ∀ q, q < H.size → A1 q → A0 q) (hf : ∀ q, free q → A0 q) (hAX : ∀ q, q < H.size → AX q → A0 q)
    (kx : ∀ (E : String) (ce : Cell) (q9 : Addr) (u : SX) (t : State) (H1 : Heap) (locs1 : List Loc), t.heap = H1 → s.vm.Alike t.vm → px u → BX E u t → H.size ≤ H1.size → (∀ q : Nat, q < H.size → ¬ AX q → H1[q]? = H[q]?) → va_S A0 H0 H1 locs1 → H1[q9]? = some ce → ce.vm = .none → s.vm.findClass E = some ce.cls → vx_W p l e R s m args below meth c H1 locs1 (cells + mc) (slots + ms) Q (F0 m pc ls rest) q9)
    (kk : ∀ (r : UInt64) (u : S) (t : State) (H1 : Heap) (locs1 : List Loc), t.heap = H1 → s.vm.Alike t.vm → post r u → B u t → H.size ≤ H1.size → (∀ q : Nat, q < H.size → ¬ A1 q → H1[q]? = H[q]?) → va_S A0 H0 H1 locs1 → W p l e R s m args below meth c H1 locs1 (cells + mc) (slots + ms) Q (F0 m (pc + 3) ls (.double r :: rest))) : W p l e R s m args below meth c H locs cells slots Q (F0 m pc ls st0) := by
  intro T hT X
  rcases hr T hT X with ⟨v, st₀, t, T', L, h0, X', hL, e1, e2, ⟨⟨r, u, hv, hp, hb⟩, hF⟩, st⟩ | ⟨q, st₀, t, T', L, E, ce, h0, X', hL, e1, e2, ⟨u, hp, hb, hF⟩, hce, hcv, hcl, st⟩
  · cases hv
    obtain ⟨k1, k2, k3⟩ := vx_keep h0 e1 hS hA hf hL hF
    obtain ⟨t2, a1, b1⟩ := kk r u t T'.heap (locs ++ L) e1.symm (by rw [← e2]; exact X'.warmed.alike) hp hb k1 k2 k3 T' rfl X'
    exact ⟨t2, st t2 a1, b1⟩
  · obtain ⟨k1, k2, k3⟩ := vx_keep h0 e1 hS hAX hf hL hF
    obtain ⟨t2, a1, b1⟩ := kx E ce q u t T'.heap (locs ++ L) e1.symm (by rw [← e2]; exact X'.warmed.alike) hp hb k1 k2 k3 (by rw [e1]; exact hce) hcv hcl T' rfl X'
    exact ⟨t2, st.trans a1, b1⟩
theorem vx_callv {S SX : Type} {post : S → Prop} {px : SX → Prop} {B : S → State → Prop} {BX : String → SX → State → Prop} {AX : Nat → Prop} (hr : vx_Run p l e R s m args below meth c H locs cells slots mc ms (F0 m pc ls st0) rest (va_Qv post B A1 a) (vx_X px BX AX) free) (hS : va_S A0 H0 H locs) (hA : ∀ q, q < H.size → A1 q → A0 q) (hf : ∀ q, free q → A0 q) (hAX : ∀ q, q < H.size → AX q → A0 q)
    (kx : ∀ (E : String) (ce : Cell) (q9 : Addr) (u : SX) (t : State) (H1 : Heap) (locs1 : List Loc), t.heap = H1 → s.vm.Alike t.vm → px u → BX E u t → H.size ≤ H1.size → (∀ q : Nat, q < H.size → ¬ AX q → H1[q]? = H[q]?) → va_S A0 H0 H1 locs1 → H1[q9]? = some ce → ce.vm = .none → s.vm.findClass E = some ce.cls → vx_W p l e R s m args below meth c H1 locs1 (cells + mc) (slots + ms) Q (F0 m pc ls rest) q9)
    (kk : ∀ (u : S) (t : State) (H1 : Heap) (locs1 : List Loc), t.heap = H1 → s.vm.Alike t.vm → post u → B u t → H.size ≤ H1.size → (∀ q : Nat, q < H.size → ¬ A1 q → H1[q]? = H[q]?) → va_S A0 H0 H1 locs1 → W p l e R s m args below meth c H1 locs1 (cells + mc) (slots + ms) Q (F0 m (pc + 3) ls (rest))) : W p l e R s m args below meth c H locs cells slots Q (F0 m pc ls st0) := by
  intro T hT X
  rcases hr T hT X with ⟨v, st₀, t, T', L, h0, X', hL, e1, e2, ⟨⟨u, hv, hp, hb⟩, hF⟩, st⟩ | ⟨q, st₀, t, T', L, E, ce, h0, X', hL, e1, e2, ⟨u, hp, hb, hF⟩, hce, hcv, hcl, st⟩
  · cases hv
    obtain ⟨k1, k2, k3⟩ := vx_keep h0 e1 hS hA hf hL hF
    obtain ⟨t2, a1, b1⟩ := kk u t T'.heap (locs ++ L) e1.symm (by rw [← e2]; exact X'.warmed.alike) hp hb k1 k2 k3 T' rfl X'
    exact ⟨t2, st t2 a1, b1⟩
  · obtain ⟨k1, k2, k3⟩ := vx_keep h0 e1 hS hAX hf hL hF
    obtain ⟨t2, a1, b1⟩ := kx E ce q u t T'.heap (locs ++ L) e1.symm (by rw [← e2]; exact X'.warmed.alike) hp hb k1 k2 k3 (by rw [e1]; exact hce) hcv hcl T' rfl X'
    exact ⟨t2, st.trans a1, b1⟩
/-- caught by the row x of this method's table; the rows ahead don't take it -/
theorem vx_catch {own name : String} {E : String} {ce : Cell} {q : Addr} (hown : s.vm.findClass own = some m.cls) (pre : List ExceptionTableEntry) (x : ExceptionTableEntry) (suf : List ExceptionTableEntry) (hsplit : c.exceptionTable.toList = pre ++ x :: suf)
    (hpass : ∀ z ∈ pre, covers z pc = false ∨ (z.catchType ≠ 0 ∧ ∃ nm : String, (Cond.classLink own z.catchType nm).before args s = true ∧ va_Nc E nm s)) (hx : covers x pc = true) (h0 : x.catchType ≠ 0)
    (hlink : (Cond.classLink own x.catchType name).before args s = true) (hcast : (Cond.castable E name).before args s = true) (hcell : H[q]? = some ce) (hv : ce.vm = .none) (hcl : s.vm.findClass E = some ce.cls)
    (kk : W p l e R s m args below meth c H locs cells slots Q (F0 m x.handlerPc ls [.ref q])) : vx_W p l e R s m args below meth c H locs cells slots Q (F0 m pc ls rest) q := by
  intro T hT X
  have hpl : e.platform.magicAccessors = ({} : Platform).magicAccessors := by rw [X.admits.platform]
  obtain ⟨c3, c4, hc3, hc4, hasg⟩ := Cond.castable_spec hcast
  cases Option.some.inj (hc3.symm.trans hcl)
  obtain ⟨c5, hc5, hcl5⟩ := Cond.classLink_spec hown hlink e.platform hpl
  cases Option.some.inj (hc4.symm.trans hc5)
  obtain ⟨vm', X', st⟩ := X.thenCaughtThrough q (g := F0 m pc ls rest) rfl (Steps.refl _) (by rw [hT]; exact hcell) (by rw [hv]; rfl) (by obtain ⟨k9, h9, -⟩ := Vm.findClass_spec hcl; exact ⟨k9, h9⟩) pre x suf hsplit
    (fun z hz => by
      rcases hpass z hz with h | ⟨hz0, nm, hl1, hn1⟩
      · exact Or.inl h
      · obtain ⟨c6, hc6, hcl6⟩ := Cond.classLink_spec hown hl1 e.platform hpl
        obtain ⟨a8, b8, h1, h2, h3⟩ := hn1
        cases Option.some.inj (h1.symm.trans hcl)
        cases Option.some.inj (h2.symm.trans hc6)
        exact Or.inr ⟨hz0, _, hcl6, h3⟩) hx (Or.inr ⟨h0, c4, hcl5, hasg⟩)
  obtain ⟨t, a1, b1⟩ := kk (T.setVm vm') hT X'
  exact ⟨t, st.trans a1, b1⟩
end Rows
section Ends
variable {p : Program} {l : Launch} {e : Env} {R : Room} {s : State} {m : MethodId} {args : Array Value} {below : List Frame} {meth : Method} {c : Code} {H : Heap} {locs : List Loc} {cells slots : Nat} {Q : State → Prop}
variable {mc ms : Nat} {free : Addr → Prop} {A0 A1 : Nat → Prop} {H0 : Heap} {a : Array Value} {ls : Array Slot} {st0 rest : List Value}
variable {Qc : Array Value → State → Outcome → State → Prop} {XC : String → State → State → Prop}
/-- what a body that may throw owes at its end -/
def vx_MQ (below : List Frame) (Qc : Array Value → State → Outcome → State → Prop) (XC : String → State → State → Prop) (a : Array Value) (s : State) (mc ms : Nat) (free : Addr → Prop) : State → Prop := fun t =>
  ∃ o, t.status = .running ∧ Ended t below o ∧ vx_Q Qc XC mc ms free a s o t
theorem vx_ret {g : JFrame} {mc ms : Nat} (k : W p l e R s m args below meth c H locs cells slots (MQ below Qc args s mc ms free) g) : W p l e R s m args below meth c H locs cells slots (vx_MQ below Qc XC args s mc ms free) g := by
  intro T hT X
  obtain ⟨t, a1, o, b1, b2, b3, b4⟩ := k T hT X
  exact ⟨t, a1, o, b1, b2, Or.inl ⟨b3, b4⟩⟩
/-- not caught here: it goes on to the caller -/
theorem vx_widen {g : JFrame} {q : Addr} {k n : Nat} (h1 : cells ≤ k) (h2 : slots ≤ n) (kk : vx_W p l e R s m args below meth c H locs k n Q g q) : vx_W p l e R s m args below meth c H locs cells slots Q g q := fun T hT X => kk T hT (stand_widen X h1 h2)
theorem vx_out {pc : Nat} {E : String} {ce : Cell} {q : Addr} {mc ms : Nat} (hout : ∀ x ∈ c.exceptionTable.toList, covers x pc = false) (hlocks : meth.locks = false) (hcell : H[q]? = some ce) (hv : ce.vm = .none) (hcl : s.vm.findClass E = some ce.cls)
    (hx : ∀ t : State, t.heap = H → s.vm.Alike t.vm → XC E s t) (hf : ∀ z ∈ locs, free z.base) (hc : cells ≤ mc) (hs : slots ≤ ms) :
    vx_W p l e R s m args below meth c H locs cells slots (vx_MQ below Qc XC args s mc ms free) (F0 m pc ls rest) q := by
  intro T hT X
  obtain ⟨st1, hrun, hend, hW, hsm⟩ := X.leaveThrown q (g := F0 m pc ls rest) rfl rfl rfl hout hlocks
  have hcell9 : (T.setFrames (.throwing q :: below)).heap[q]? = some ce := by
    show T.heap[q]? = some ce
    rw [hT]; exact hcell
  exact ⟨_, st1, .threw q, hrun, hend, Or.inr ⟨q, rfl, E, ce, locs, hx _ hT hW.alike, hcell9, hv, hcl, hW, hsm.mono hc hs, hf⟩⟩
theorem vx_frame {U : State} {k n : Nat} (h : s.sameButNew ({ U with vm := s.vm } : State) locs k n) : s.heap.size ≤ U.heap.size ∧ ∀ q : Nat, q < s.heap.size → (∀ z ∈ locs, z.base ≠ q) → U.heap[q]? = s.heap[q]? := by
  obtain ⟨-, h2, -, -, -, h6⟩ := h
  refine ⟨h2, fun q hq hz => ?_⟩
  obtain ⟨c9, e1, e2, e3, e4⟩ := h6 q _ (Array.getElem?_eq_getElem hq)
  have hs : c9.slots = (s.heap[q]).slots := Array.ext_getElem? fun i => e4 i fun hm => hz _ hm rfl
  have h9 : c9 = s.heap[q] := by
    rw [hs] at e2
    exact e2
  have e5 : U.heap[q]? = some c9 := e1
  rw [e5, h9, Array.getElem?_eq_getElem hq]
/-- the words of a throw but the four that speak of the heap -/
def vx_no (w : Cond) : Bool := decide (w ≠ .isRef (.static Bundle.tN "UNASSIGNED_STACK" Bundle.steD)) && decide (w ≠ .isRef (.static Bundle.tN "SUPPRESSED_SENTINEL" Bundle.listD)) && decide (w ≠ .laysStatic Bundle.tN "UNASSIGNED_STACK" Bundle.steD) && decide (w ≠ .laysStatic Bundle.tN "SUPPRESSED_SENTINEL" Bundle.listD)
def vx_at0 (own : String) (ic : Nat) (X : String) (names : List String) : List Cond := (Bundle.ownAtoms0 own ic X names).filter vx_no
def vx_atS (own : String) (ic : Nat) (X : String) (names : List String) : List Cond := (Bundle.ownAtoms own ic X names).filter vx_no
/-- a word that the tables alone decide, or a good one -/
def vx_ot (w : Cond) : Bool := w.onTables || goodWord w
theorem vx_ot_at {args a' : Array Value} {s U : State} {w : Cond} (hW : s.WarmedH U.vm) (hvm : s.vm = U.vm) (hg : vx_ot w = true) (h : w.before args s = true) : w.before a' U = true := by
  simp only [vx_ot, Bool.or_eq_true] at hg
  rcases hg with hg | hg
  · exact va_tabs hg hvm h
  · exact word_at hW (good_of_word hg) h
/-- a list's words: the good ones out of the method's own list, the others by premises of their own -/
theorem vx_hat {args : Array Value} {s : State} {L B : List Cond} (h1 : ∀ w ∈ L.filter goodWord, w.before args s = true) (h2 : ∀ w ∈ L.filter (fun w => !goodWord w), w ∈ B) (h3 : ∀ w ∈ B, w.before args s = true) : ∀ w ∈ L, w.before args s = true := by
  intro w hw
  by_cases g : goodWord w = true
  · exact h1 w (List.mem_filter.mpr ⟨hw, g⟩)
  · refine h3 w (h2 w (List.mem_filter.mpr ⟨hw, ?_⟩))
    show (!goodWord w) = true
    cases hgw : goodWord w
    · rfl
    · exact absurd hgw g
theorem vx_c {args : Array Value} {s : State} {w : Cond} {B : List Cond} (h : w.before args s = true) (t : ∀ w ∈ B, w.before args s = true) : ∀ w' ∈ w :: B, w'.before args s = true := fun w' h' => (List.mem_cons.mp h').elim (fun e => by rw [e]; exact h) (t w')
theorem vx_n {args : Array Value} {s : State} : ∀ w ∈ ([] : List Cond), w.before args s = true := fun _ h => nomatch h
theorem vx_own {args : Array Value} {s : State} {L : List Cond} (h1 : ∀ w ∈ L.filter vx_no, w.before args s = true)
    (hU : (Cond.isRef (.static Bundle.tN "UNASSIGNED_STACK" Bundle.steD)).before args s = true) (hN : (Cond.isRef (.static Bundle.tN "SUPPRESSED_SENTINEL" Bundle.listD)).before args s = true)
    (lU : (Cond.laysStatic Bundle.tN "UNASSIGNED_STACK" Bundle.steD).before args s = true) (lN : (Cond.laysStatic Bundle.tN "SUPPRESSED_SENTINEL" Bundle.listD).before args s = true) : ∀ w ∈ L, w.before args s = true := by
  intro w hw
  by_cases e1 : w = .isRef (.static Bundle.tN "UNASSIGNED_STACK" Bundle.steD)
  · rw [e1]; exact hU
  · by_cases e2 : w = .isRef (.static Bundle.tN "SUPPRESSED_SENTINEL" Bundle.listD)
    · rw [e2]; exact hN
    · by_cases e3 : w = .laysStatic Bundle.tN "UNASSIGNED_STACK" Bundle.steD
      · rw [e3]; exact lU
      · by_cases e4 : w = .laysStatic Bundle.tN "SUPPRESSED_SENTINEL" Bundle.listD
        · rw [e4]; exact lN
        · exact h1 w (List.mem_filter.mpr ⟨hw, by unfold vx_no; rw [decide_eq_true e1, decide_eq_true e2, decide_eq_true e3, decide_eq_true e4]; rfl⟩)
/-- where a static field lies, its class's statics cell in H -/
def vx_L (C n d : String) (A : Nat → Prop) (U : State) (H : Heap) : Prop := ∃ (c : ClassId) (k : Class) (i : Nat) (f : Field) (a : Nat) (cell : Cell), U.vm.findClass C = some c ∧ U.fieldFound? C n d = some (c, k, i, f) ∧ f.isStatic = true ∧ k.statics = some a ∧ H[a]? = some cell ∧ cell.vm.isStatics = true ∧ cell.cls = c ∧ f.slot < cell.slots.size ∧ k.staticTypes[f.slot]? = some f.type ∧ ¬ A a
theorem vx_L.moved {C n d : String} {A : Nat → Prop} {u U : State} {H : Heap} (hvm : u.vm.Alike U.vm) (h : vx_L C n d A u H) : vx_L C n d A U H := by
  obtain ⟨c, k, i, f, a, cell, h1, h2, h3, h4, h5, h6, h7, h8, h9, h10⟩ := h
  obtain ⟨k', hi', he⟩ := State.fieldFound?_setVm hvm h2
  exact ⟨c, k', i, f, a, cell, by rw [hvm.findClass]; exact h1, hi', h3, by rw [he]; exact h4, h5, h6, h7, h8, by rw [he]; exact h9, h10⟩
theorem vx_L.kept {C n d : String} {A : Nat → Prop} {U : State} {H H1 : Heap} (h : vx_L C n d A U H) (hq : ∀ a : Nat, a < H.size → ¬ A a → H1[a]? = H[a]?) : vx_L C n d A U H1 := by
  obtain ⟨c, k, i, f, a, cell, h1, h2, h3, h4, h5, h6, h7, h8, h9, h10⟩ := h
  exact ⟨c, k, i, f, a, cell, h1, h2, h3, h4, by rw [hq a (Array.getElem?_eq_some_iff.mp h5).1 h10]; exact h5, h6, h7, h8, h9, h10⟩
theorem vx_L.narrow {C n d : String} {A B : Nat → Prop} {U : State} {H : Heap} (h : vx_L C n d A U H) (hAB : ∀ q, B q → A q) : vx_L C n d B U H := by
  obtain ⟨c, k, i, f, a, cell, h1, h2, h3, h4, h5, h6, h7, h8, h9, h10⟩ := h
  exact ⟨c, k, i, f, a, cell, h1, h2, h3, h4, h5, h6, h7, h8, h9, fun z => h10 (hAB _ z)⟩
theorem vx_L.word {C n d : String} {A : Nat → Prop} {s : State} {args : Array Value} (h : vx_L C n d A s s.heap) : (Cond.laysStatic C n d).before args s = true := by
  obtain ⟨c, k, i, f, a, cell, h1, h2, h3, h4, h5, h6, h7, h8, h9, -⟩ := h
  show (Cond.laysStatic C n d).holds args s none s [] = true
  exact Cond.laysStatic_of h1 h2 h3 h4 h5 h6 h7 h8 h9
/-- .. and what it holds: null or some reference -/
def vx_Zq (C n d : String) (A : Nat → Prop) (U : State) (H : Heap) : Prop := va_Zq C n d A U H ∧ vx_L C n d A U H
theorem vx_Zq.moved {C n d : String} {A : Nat → Prop} {u U : State} {H : Heap} (hvm : u.vm.Alike U.vm) (h : vx_Zq C n d A u H) : vx_Zq C n d A U H := ⟨va_Zq.moved hvm h.1, vx_L.moved hvm h.2⟩
theorem vx_Zq.kept {C n d : String} {A : Nat → Prop} {U : State} {H H1 : Heap} (h : vx_Zq C n d A U H) (hq : ∀ a : Nat, a < H.size → ¬ A a → H1[a]? = H[a]?) : vx_Zq C n d A U H1 := ⟨va_Zq.kept h.1 hq, vx_L.kept h.2 hq⟩
theorem vx_Zq.narrow {C n d : String} {A B : Nat → Prop} {U : State} {H : Heap} (h : vx_Zq C n d A U H) (hAB : ∀ q, B q → A q) : vx_Zq C n d B U H := ⟨va_Zq.narrow h.1 hAB, vx_L.narrow h.2 hAB⟩
theorem vx_Zqof {args : Array Value} {s : State} {C n d : String} {A : Nat → Prop} (hl : (Cond.laysStatic C n d).before args s = true) (hini : (Cond.initialized C).before args s = true) (h : (Cond.isRef (.static C n d)).before args s = true) (hA : ∀ a : Nat, a < s.heap.size → ¬ A a) : vx_Zq C n d A s s.heap := by
  refine ⟨va_Zqof hl hini h hA, ?_⟩
  obtain ⟨c, k, i, f, a, cell, h1, h2, h3, h4, h5, h6, h7, h8, h9⟩ := Cond.laysStatic_spec hl
  exact ⟨c, k, i, f, a, cell, h1, h2, h3, h4, h5, h6, h7, h8, h9, hA a (Array.getElem?_eq_some_iff.mp h5).1⟩
theorem vx_isRef {C n d : String} {v : Value} {A : Nat → Prop} {s : State} {args : Array Value} (h : va_Z C n d v A s s.heap) (hv : v.isRef = true) : (Cond.isRef (.static C n d)).before args s = true := by
  obtain ⟨cf, kf, fi, f, a, cell, h1, h2, h3, h4, h5, h6, h7, -⟩ := h
  have he : (Term.static C n d).eval args s none [] s = some v := by
    simp [Term.eval, State.fieldNamed?, h1, h2, h4, h5, h6, h7]
  simp only [Cond.before, Cond.holds, Cond.value, he]
  cases v <;> simp_all [Value.isRef]
theorem vx_isRefq {C n d : String} {A : Nat → Prop} {s : State} {args : Array Value} (h : va_Zq C n d A s s.heap) : (Cond.isRef (.static C n d)).before args s = true := by
  rcases h with h | ⟨t, h⟩
  · exact vx_isRef h rfl
  · exact vx_isRef h rfl
/-- the same frame, seen from here: as if the method were called anew in this heap -/
theorem vx_rebase {T : State} (X : Stand p l e R s m args below meth c T locs cells slots) {R' : Room} (hf : R'.frames ≤ R.frames) (hl : R'.locals ≤ R.locals) (hc : cells + R'.cells ≤ R.cells) (hs : slots + R'.slots ≤ R.slots) :
    Stand p l e R' ((T.setVm s.vm).setFrames (.invoking m args :: below)) m args below meth c T [] 0 0 := by
  have htop : (T.setVm s.vm).topJava?.isSome := X.here.top
  have hF : ((T.setVm s.vm).setFrames (.invoking m args :: below)).frames = .invoking m args :: below := State.frames_setFrames _ (State.cur_lt_of_top htop)
  obtain ⟨g₀, hg0⟩ := Option.isSome_iff_exists.mp htop
  obtain ⟨r, hr⟩ := State.topJava?_eq_some.mp hg0
  have hl9 : e.platform.stackLimits (T.setVm s.vm).me = e.platform.stackLimits s.me := X.limits
  have hb9 : (T.setVm s.vm).me.stackBytes = s.me.stackBytes := X.bytes
  refine ⟨X.admits, X.cas, X.clock, hF, ?_, X.hears, X.method, X.code, X.here, X.tail, X.warmed, ?_, ?_, ?_⟩
  · have h := X.room
    have hU : ((T.setVm s.vm).setFrames (.invoking m args :: below)).localsInUse = s.localsInUse := by
      rw [State.localsInUse_invoking hF (meth := meth) (c := c) X.method X.code, State.localsInUse_invoking X.frames X.method X.code]
    simp only [State.hasRoom, Bool.and_eq_true, decide_eq_true_eq] at h ⊢
    obtain ⟨⟨⟨⟨h1, h2, h3, h4, h5, h6⟩, h7⟩, h8⟩, h9⟩ := h
    rw [X.frames, List.length_cons] at h2 h3
    have q1 := X.heapSize
    have q2 := X.used
    simp only [hF, hU, List.length_cons, State.stackLimits_setFrames, State.stackBytes_setFrames, hl9, hb9]
    refine ⟨⟨⟨⟨by omega, by omega, by omega, by omega, by omega, h6⟩, ?_⟩, ?_⟩, X.book⟩
    · show T.heap.size + R'.cells ≤ e.platform.maxCells
      omega
    · show T.slotsUsed + R'.slots ≤ e.platform.maxSlots
      omega
  · rw [State.stackLimits_setFrames]; rfl
  · rw [State.stackBytes_setFrames]; rfl
  · refine ⟨?_, Nat.le_refl _, Nat.le_refl _, ?_, ?_, fun a c9 h9 => ⟨c9, h9, rfl, rfl, fun _ _ => rfl⟩⟩
    · obtain ⟨t, ht, -⟩ := State.frames_cons hr
      show T.setVm s.vm = { ((T.setVm s.vm).setFrames (.invoking m args :: below)).setFrames (T.setVm s.vm).frames with heap := T.heap, slotsUsed := T.slotsUsed }
      rw [State.setFrames_setFrames, State.setFrames_self ht]
      rfl
    · show T.slotsUsed = T.slotsUsed + ((T.heap.toList.drop T.heap.size).map (·.slots.size)).sum
      rw [List.drop_eq_nil_of_le (Nat.le_of_eq Array.length_toList)]
      rfl
    · show ((T.heap.toList.drop T.heap.size).map (·.slots.size)).sum ≤ 0
      rw [List.drop_eq_nil_of_le (Nat.le_of_eq Array.length_toList)]
      exact Nat.le_refl _
/-- 'throw new E()': new; dup; invokespecial; athrow -/
theorem vx_throw0 {cc : ByteArray} {pc : Nat} (hexec : p.tables.exec = Jvm.exec) (hb : c.code = cc) (hl : l.stackTraces = false) {own cls : String} {names : List String} {ik ic mc ms : Nat} {A : Nat → Prop}
    (hown : s.vm.findClass own = some m.cls) (hcls : Bundle.fit cls = true) (hnames : ∀ n ∈ names, Bundle.fit n = true)
    (hk : (Cond.classLink own ik cls).before args s = true) (hini : (Cond.initialized cls).before args s = true) (hat : ∀ w ∈ vx_at0 own ic cls names, w.before args s = true)
    (hgood : ∀ w ∈ Cond.classLink own ik cls :: Cond.initialized cls :: vx_at0 own ic cls names, vx_ot w = true)
    (hU : vx_Zq Bundle.tN "UNASSIGNED_STACK" Bundle.steD A s s.heap) (hN : vx_Zq Bundle.tN "SUPPRESSED_SENTINEL" Bundle.listD A s s.heap) (hS : va_S A s.heap H locs) (hsize : ls.size = c.maxLocals)
    (d0 : decode cc pc = .ok (.new ik, 3)) (d3 : decode cc (pc + 3) = .ok (.dup, 1)) (d4 : decode cc (pc + 4) = .ok (.invokespecial ic, 3)) (d7 : decode cc (pc + 7) = .ok (.athrow, 1))
    (hout : ∀ x ∈ c.exceptionTable.toList, covers x (pc + 7) = false)
    (hRframes : names.length + 3 < R.frames) (hRlocals : (rest.map fun v => v.category).sum + (13 * (names.length + 1) + 42) ≤ R.locals) (hRcells : cells + 1 ≤ R.cells) (hRslots : slots + 6 ≤ R.slots) (hlocks : meth.locks = false)
    (hx : ∀ t : State, s.vm.Alike t.vm → H.size ≤ t.heap.size → (∀ q : Nat, q < H.size → t.heap[q]? = H[q]?) → XC cls s t)
    (hf : ∀ z ∈ locs, free z.base) (hc : cells + 1 ≤ mc) (hs : slots + 6 ≤ ms) :
    W p l e R s m args below meth c H locs cells slots (vx_MQ below Qc XC args s mc ms free) (F0 m pc ls rest) := by
  intro T hT X
  have htr : e.platform.stackTraces = false := (show e.platform.stackTraces = l.stackTraces by rw [X.admits.platform]).trans hl
  have Y := vx_rebase X (R' := { frames := R.frames, locals := R.locals, cells := 1, slots := 6 }) (Nat.le_refl _) (Nat.le_refl _) hRcells hRslots
  obtain ⟨s', hA⟩ : ∃ z, z = (T.setVm s.vm).setFrames (.invoking m args :: below) := ⟨_, rfl⟩
  rw [← hA] at Y
  have hvm : s'.vm = s.vm := by rw [hA]; rfl
  have hhp : s'.heap = H := by rw [hA]; exact hT
  have hW0 : s.WarmedH s'.vm := by rw [hvm]; exact State.WarmedH.refl s
  have hat' : ∀ w ∈ vx_at0 own ic cls names, w.before args s' = true := fun w hw => vx_ot_at hW0 hvm.symm (hgood w (List.mem_cons_of_mem _ (List.mem_cons_of_mem _ hw))) (hat w hw)
  have hk' : (Cond.classLink own ik cls).before args s' = true := vx_ot_at hW0 hvm.symm (hgood _ List.mem_cons_self) hk
  have hini' : (Cond.initialized cls).before args s' = true := vx_ot_at hW0 hvm.symm (hgood _ (List.mem_cons_of_mem _ List.mem_cons_self)) hini
  have hU' : vx_Zq Bundle.tN "UNASSIGNED_STACK" Bundle.steD A s' s'.heap := by rw [hhp]; exact vx_Zq.moved hW0.alike (hU.kept hS.2.1)
  have hN' : vx_Zq Bundle.tN "SUPPRESSED_SENTINEL" Bundle.listD A s' s'.heap := by rw [hhp]; exact vx_Zq.moved hW0.alike (hN.kept hS.2.1)
  have h : ∀ w ∈ Bundle.ownAtoms0 own ic cls names, w.before args s' = true := vx_own hat' (vx_isRefq hU'.1) (vx_isRefq hN'.1) hU'.2.word hN'.2.word
  have hown' : s'.vm.findClass own = some m.cls := by rw [hvm]; exact hown
  have hins : (Cond.instantiable cls 6).before args s' = true := h _ (by simp [Bundle.ownAtoms0])
  obtain ⟨vm₁, cX, kX, hfX, hkX, -, -, X₁, st1⟩ := Y.newCold hexec (own := own) (C := cls) (index := ik) (n := 6) hown' hk' hins hini'
    (g := F0 m pc ls rest) rfl (by rw [hb]; exact d0) (Nat.le_refl _) (Nat.le_refl _)
  generalize hT1 : (T.setVm vm₁).pushCell { cls := cX, slots := kX.instanceTypes.map defaultValue, vm := .none } = T1 at X₁ st1
  have hcat : (Value.ref T.heap.size).category = 1 := rfl
  have hcellA : T1.heap[T.heap.size]? = some (freshCell cX kX) := by rw [← hT1]; exact State.heap_pushCell_size _ _
  have d3' : decode c.code (pc + 3) = .ok (.dup, 1) := by rw [hb]; exact d3
  obtain ⟨U, hsteps, hrun, hend, hW, hsame, ce, hce, hO⟩ := X₁.ctorThrow0 hexec htr (own := own) (cls := cls) (names := names) (ic := ic) hown' hcls hnames h (fun x hx => nomatch hx) hfX hkX hcellA (by rw [hhp, hT]; exact Nat.le_refl _)
    (g := { method := m, pc := pc + 4, locals := ls, stack := .ref T.heap.size :: .ref T.heap.size :: rest, locked := none }) rfl hsize rfl rfl (rest := rest) rfl
    (by rw [hb]; exact d4) (by rw [hb]; exact d7) hout hRframes (by simp only [List.map_cons, List.sum_cons, hcat]; omega) hlocks
  obtain ⟨f1, f2⟩ := vx_frame hsame
  rw [hhp] at f1 f2
  have hWs : s.WarmedH U.vm := State.WarmedH.trans hW0 hW
  have hcl : s.vm.findClass cls = some ce.cls := by
    have h9 := hO.cls
    rw [hvm] at h9
    exact h9
  have hall : s.sameButNew ({ U with vm := s.vm } : State) locs mc ms := by
    subst hA
    obtain ⟨e1, e2⟩ := hsame
    rw [State.setFrames_setFrames] at e1
    have h2 : (T.setVm s.vm).sameButNew ({ U with vm := s.vm } : State) [] (0 + 1) (0 + 6) := ⟨e1, e2⟩
    have h3 := X.same.trans h2
    rw [List.append_nil] at h3
    exact h3.mono hc hs
  refine ⟨U, ?_, .threw T.heap.size, hrun, hend, Or.inr ⟨T.heap.size, rfl, cls, ce, locs, hx U hWs.alike f1 (fun q hq => f2 q hq (fun z hz => nomatch hz)), hce, hO.vm, hcl, hWs, hall, hf⟩⟩
  refine st1 _ ?_
  show Steps p.tables e below (T1.setTop { method := m, pc := pc + 3, locals := ls, stack := .ref T.heap.size :: rest, locked := none }) _
  jvm_step X₁.here [X₁.here.top, hexec, d3', Value.category]
  exact hsteps
/-- 'throw new E("text")': new; dup; ldc; invokespecial; athrow -/
theorem vx_throwS {cc : ByteArray} {pc : Nat} (hexec : p.tables.exec = Jvm.exec) (hb : c.code = cc) (hl : l.stackTraces = false) {own cls text : String} {names : List String} {ik is ic mc ms sa : Nat} {A : Nat → Prop}
    (hown : s.vm.findClass own = some m.cls) (hcls : Bundle.fit cls = true) (hnames : ∀ n ∈ names, Bundle.fit n = true)
    (hk : (Cond.classLink own ik cls).before args s = true) (hini : (Cond.initialized cls).before args s = true) (hstr : vk_R own is text sa s) (hat : ∀ w ∈ vx_atS own ic cls names, w.before args s = true)
    (hgood : ∀ w ∈ Cond.classLink own ik cls :: Cond.initialized cls :: vx_atS own ic cls names, vx_ot w = true)
    (hU : vx_Zq Bundle.tN "UNASSIGNED_STACK" Bundle.steD A s s.heap) (hN : vx_Zq Bundle.tN "SUPPRESSED_SENTINEL" Bundle.listD A s s.heap) (hS : va_S A s.heap H locs) (hsize : ls.size = c.maxLocals)
    (d0 : decode cc pc = .ok (.new ik, 3)) (d3 : decode cc (pc + 3) = .ok (.dup, 1)) (d4 : decode cc (pc + 4) = .ok (.ldc is, 2)) (d6 : decode cc (pc + 6) = .ok (.invokespecial ic, 3)) (d9 : decode cc (pc + 9) = .ok (.athrow, 1))
    (hout : ∀ x ∈ c.exceptionTable.toList, covers x (pc + 9) = false)
    (hRframes : names.length + 3 < R.frames) (hRlocals : (rest.map fun v => v.category).sum + (13 * (names.length + 1) + 43) ≤ R.locals) (hRcells : cells + 1 ≤ R.cells) (hRslots : slots + 6 ≤ R.slots) (hlocks : meth.locks = false)
    (hx : ∀ t : State, s.vm.Alike t.vm → H.size ≤ t.heap.size → (∀ q : Nat, q < H.size → t.heap[q]? = H[q]?) → XC cls s t)
    (hf : ∀ z ∈ locs, free z.base) (hc : cells + 1 ≤ mc) (hs : slots + 6 ≤ ms) :
    W p l e R s m args below meth c H locs cells slots (vx_MQ below Qc XC args s mc ms free) (F0 m pc ls rest) := by
  intro T hT X
  have htr : e.platform.stackTraces = false := (show e.platform.stackTraces = l.stackTraces by rw [X.admits.platform]).trans hl
  have Y := vx_rebase X (R' := { frames := R.frames, locals := R.locals, cells := 1, slots := 6 }) (Nat.le_refl _) (Nat.le_refl _) hRcells hRslots
  obtain ⟨s', hA⟩ : ∃ z, z = (T.setVm s.vm).setFrames (.invoking m args :: below) := ⟨_, rfl⟩
  rw [← hA] at Y
  have hvm : s'.vm = s.vm := by rw [hA]; rfl
  have hhp : s'.heap = H := by rw [hA]; exact hT
  have hW0 : s.WarmedH s'.vm := by rw [hvm]; exact State.WarmedH.refl s
  have hat' : ∀ w ∈ vx_atS own ic cls names, w.before args s' = true := fun w hw => vx_ot_at hW0 hvm.symm (hgood w (List.mem_cons_of_mem _ (List.mem_cons_of_mem _ hw))) (hat w hw)
  have hk' : (Cond.classLink own ik cls).before args s' = true := vx_ot_at hW0 hvm.symm (hgood _ List.mem_cons_self) hk
  have hini' : (Cond.initialized cls).before args s' = true := vx_ot_at hW0 hvm.symm (hgood _ (List.mem_cons_of_mem _ List.mem_cons_self)) hini
  have hU' : vx_Zq Bundle.tN "UNASSIGNED_STACK" Bundle.steD A s' s'.heap := by rw [hhp]; exact vx_Zq.moved hW0.alike (hU.kept hS.2.1)
  have hN' : vx_Zq Bundle.tN "SUPPRESSED_SENTINEL" Bundle.listD A s' s'.heap := by rw [hhp]; exact vx_Zq.moved hW0.alike (hN.kept hS.2.1)
  have h : ∀ w ∈ Bundle.ownAtoms own ic cls names, w.before args s' = true := vx_own hat' (vx_isRefq hU'.1) (vx_isRefq hN'.1) hU'.2.word hN'.2.word
  have hown' : s'.vm.findClass own = some m.cls := by rw [hvm]; exact hown
  have hins : (Cond.instantiable cls 6).before args s' = true := h _ (by simp [Bundle.ownAtoms])
  obtain ⟨vm₁, cX, kX, hfX, hkX, -, -, X₁, st1⟩ := Y.newCold hexec (own := own) (C := cls) (index := ik) (n := 6) hown' hk' hins hini'
    (g := F0 m pc ls rest) rfl (by rw [hb]; exact d0) (Nat.le_refl _) (Nat.le_refl _)
  generalize hT1 : (T.setVm vm₁).pushCell { cls := cX, slots := kX.instanceTypes.map defaultValue, vm := .none } = T1 at X₁ st1
  have hcat : (Value.ref T.heap.size).category = 1 := rfl
  have hcellA : T1.heap[T.heap.size]? = some (freshCell cX kX) := by rw [← hT1]; exact State.heap_pushCell_size _ _
  have d3' : decode c.code (pc + 3) = .ok (.dup, 1) := by rw [hb]; exact d3
  have d4' : decode c.code (pc + 4) = .ok (.ldc is, 2) := by rw [hb]; exact d4
  have hstr' : vk_R own is text sa s' := vk_R.warm hW0 hstr
  obtain ⟨U, hsteps, hrun, hend, hW, hsame, ce, hce, hO⟩ := X₁.ctorThrowS hexec htr (own := own) (cls := cls) (names := names) (ic := ic) hown' hcls hnames h (fun x hx => nomatch hx) hfX hkX hcellA (by rw [hhp, hT]; exact Nat.le_refl _) (msg := .ref sa) rfl
    (g := { method := m, pc := pc + 6, locals := ls, stack := .ref sa :: .ref T.heap.size :: .ref T.heap.size :: rest, locked := none }) rfl hsize rfl rfl (rest := rest) rfl
    (by rw [hb]; exact d6) (by rw [hb]; exact d9) hout hRframes (by simp only [List.map_cons, List.sum_cons, hcat]; omega) hlocks
  obtain ⟨f1, f2⟩ := vx_frame hsame
  rw [hhp] at f1 f2
  have hWs : s.WarmedH U.vm := State.WarmedH.trans hW0 hW
  have hcl : s.vm.findClass cls = some ce.cls := by
    have h9 := hO.cls
    rw [hvm] at h9
    exact h9
  have hall : s.sameButNew ({ U with vm := s.vm } : State) locs mc ms := by
    subst hA
    obtain ⟨e1, e2⟩ := hsame
    rw [State.setFrames_setFrames] at e1
    have h2 : (T.setVm s.vm).sameButNew ({ U with vm := s.vm } : State) [] (0 + 1) (0 + 6) := ⟨e1, e2⟩
    have h3 := X.same.trans h2
    rw [List.append_nil] at h3
    exact h3.mono hc hs
  refine ⟨U, ?_, .threw T.heap.size, hrun, hend, Or.inr ⟨T.heap.size, rfl, cls, ce, locs, hx U hWs.alike f1 (fun q hq => f2 q hq (fun z hz => nomatch hz)), hce, hO.vm, hcl, hWs, hall, hf⟩⟩
  refine st1 _ ?_
  show Steps p.tables e below (T1.setTop { method := m, pc := pc + 3, locals := ls, stack := .ref T.heap.size :: rest, locked := none }) _
  jvm_step X₁.here [X₁.here.top, hexec, d3', Value.category]
  exact X₁.ldcString hexec (own := own) (text := text) (index := is) (a := sa) hown' hstr'.1 hstr'.2
    (g := { method := m, pc := pc + 4, locals := ls, stack := .ref T.heap.size :: .ref T.heap.size :: rest, locked := none }) rfl d4' _ hsteps
/-- 'throw new E("text")', the text by a wide index -/
theorem vx_throwSW {cc : ByteArray} {pc : Nat} (hexec : p.tables.exec = Jvm.exec) (hb : c.code = cc) (hl : l.stackTraces = false) {own cls text : String} {names : List String} {ik is ic mc ms sa : Nat} {A : Nat → Prop}
    (hown : s.vm.findClass own = some m.cls) (hcls : Bundle.fit cls = true) (hnames : ∀ n ∈ names, Bundle.fit n = true)
    (hk : (Cond.classLink own ik cls).before args s = true) (hini : (Cond.initialized cls).before args s = true) (hstr : vk_R own is text sa s) (hat : ∀ w ∈ vx_atS own ic cls names, w.before args s = true)
    (hgood : ∀ w ∈ Cond.classLink own ik cls :: Cond.initialized cls :: vx_atS own ic cls names, vx_ot w = true)
    (hU : vx_Zq Bundle.tN "UNASSIGNED_STACK" Bundle.steD A s s.heap) (hN : vx_Zq Bundle.tN "SUPPRESSED_SENTINEL" Bundle.listD A s s.heap) (hS : va_S A s.heap H locs) (hsize : ls.size = c.maxLocals)
    (d0 : decode cc pc = .ok (.new ik, 3)) (d3 : decode cc (pc + 3) = .ok (.dup, 1)) (d4 : decode cc (pc + 4) = .ok (.ldc_w is, 3)) (d7 : decode cc (pc + 7) = .ok (.invokespecial ic, 3)) (d10 : decode cc (pc + 10) = .ok (.athrow, 1))
    (hout : ∀ x ∈ c.exceptionTable.toList, covers x (pc + 10) = false)
    (hRframes : names.length + 3 < R.frames) (hRlocals : (rest.map fun v => v.category).sum + (13 * (names.length + 1) + 43) ≤ R.locals) (hRcells : cells + 1 ≤ R.cells) (hRslots : slots + 6 ≤ R.slots) (hlocks : meth.locks = false)
    (hx : ∀ t : State, s.vm.Alike t.vm → H.size ≤ t.heap.size → (∀ q : Nat, q < H.size → t.heap[q]? = H[q]?) → XC cls s t)
    (hf : ∀ z ∈ locs, free z.base) (hc : cells + 1 ≤ mc) (hs : slots + 6 ≤ ms) :
    W p l e R s m args below meth c H locs cells slots (vx_MQ below Qc XC args s mc ms free) (F0 m pc ls rest) := by
  intro T hT X
  have htr : e.platform.stackTraces = false := (show e.platform.stackTraces = l.stackTraces by rw [X.admits.platform]).trans hl
  have Y := vx_rebase X (R' := { frames := R.frames, locals := R.locals, cells := 1, slots := 6 }) (Nat.le_refl _) (Nat.le_refl _) hRcells hRslots
  obtain ⟨s', hA⟩ : ∃ z, z = (T.setVm s.vm).setFrames (.invoking m args :: below) := ⟨_, rfl⟩
  rw [← hA] at Y
  have hvm : s'.vm = s.vm := by rw [hA]; rfl
  have hhp : s'.heap = H := by rw [hA]; exact hT
  have hW0 : s.WarmedH s'.vm := by rw [hvm]; exact State.WarmedH.refl s
  have hat' : ∀ w ∈ vx_atS own ic cls names, w.before args s' = true := fun w hw => vx_ot_at hW0 hvm.symm (hgood w (List.mem_cons_of_mem _ (List.mem_cons_of_mem _ hw))) (hat w hw)
  have hk' : (Cond.classLink own ik cls).before args s' = true := vx_ot_at hW0 hvm.symm (hgood _ List.mem_cons_self) hk
  have hini' : (Cond.initialized cls).before args s' = true := vx_ot_at hW0 hvm.symm (hgood _ (List.mem_cons_of_mem _ List.mem_cons_self)) hini
  have hU' : vx_Zq Bundle.tN "UNASSIGNED_STACK" Bundle.steD A s' s'.heap := by rw [hhp]; exact vx_Zq.moved hW0.alike (hU.kept hS.2.1)
  have hN' : vx_Zq Bundle.tN "SUPPRESSED_SENTINEL" Bundle.listD A s' s'.heap := by rw [hhp]; exact vx_Zq.moved hW0.alike (hN.kept hS.2.1)
  have h : ∀ w ∈ Bundle.ownAtoms own ic cls names, w.before args s' = true := vx_own hat' (vx_isRefq hU'.1) (vx_isRefq hN'.1) hU'.2.word hN'.2.word
  have hown' : s'.vm.findClass own = some m.cls := by rw [hvm]; exact hown
  have hins : (Cond.instantiable cls 6).before args s' = true := h _ (by simp [Bundle.ownAtoms])
  obtain ⟨vm₁, cX, kX, hfX, hkX, -, -, X₁, st1⟩ := Y.newCold hexec (own := own) (C := cls) (index := ik) (n := 6) hown' hk' hins hini'
    (g := F0 m pc ls rest) rfl (by rw [hb]; exact d0) (Nat.le_refl _) (Nat.le_refl _)
  generalize hT1 : (T.setVm vm₁).pushCell { cls := cX, slots := kX.instanceTypes.map defaultValue, vm := .none } = T1 at X₁ st1
  have hcat : (Value.ref T.heap.size).category = 1 := rfl
  have hcellA : T1.heap[T.heap.size]? = some (freshCell cX kX) := by rw [← hT1]; exact State.heap_pushCell_size _ _
  have d3' : decode c.code (pc + 3) = .ok (.dup, 1) := by rw [hb]; exact d3
  have d4' : decode c.code (pc + 4) = .ok (.ldc_w is, 3) := by rw [hb]; exact d4
  have hstr' : vk_R own is text sa s' := vk_R.warm hW0 hstr
  obtain ⟨U, hsteps, hrun, hend, hW, hsame, ce, hce, hO⟩ := X₁.ctorThrowS hexec htr (own := own) (cls := cls) (names := names) (ic := ic) hown' hcls hnames h (fun x hx => nomatch hx) hfX hkX hcellA (by rw [hhp, hT]; exact Nat.le_refl _) (msg := .ref sa) rfl
    (g := { method := m, pc := pc + 7, locals := ls, stack := .ref sa :: .ref T.heap.size :: .ref T.heap.size :: rest, locked := none }) rfl hsize rfl rfl (rest := rest) rfl
    (by rw [hb]; exact d7) (by rw [hb]; exact d10) hout hRframes (by simp only [List.map_cons, List.sum_cons, hcat]; omega) hlocks
  obtain ⟨f1, f2⟩ := vx_frame hsame
  rw [hhp] at f1 f2
  have hWs : s.WarmedH U.vm := State.WarmedH.trans hW0 hW
  have hcl : s.vm.findClass cls = some ce.cls := by
    have h9 := hO.cls
    rw [hvm] at h9
    exact h9
  have hall : s.sameButNew ({ U with vm := s.vm } : State) locs mc ms := by
    subst hA
    obtain ⟨e1, e2⟩ := hsame
    rw [State.setFrames_setFrames] at e1
    have h2 : (T.setVm s.vm).sameButNew ({ U with vm := s.vm } : State) [] (0 + 1) (0 + 6) := ⟨e1, e2⟩
    have h3 := X.same.trans h2
    rw [List.append_nil] at h3
    exact h3.mono hc hs
  refine ⟨U, ?_, .threw T.heap.size, hrun, hend, Or.inr ⟨T.heap.size, rfl, cls, ce, locs, hx U hWs.alike f1 (fun q hq => f2 q hq (fun z hz => nomatch hz)), hce, hO.vm, hcl, hWs, hall, hf⟩⟩
  refine st1 _ ?_
  show Steps p.tables e below (T1.setTop { method := m, pc := pc + 3, locals := ls, stack := .ref T.heap.size :: rest, locked := none }) _
  jvm_step X₁.here [X₁.here.top, hexec, d3', Value.category]
  exact X₁.ldcStringW hexec (own := own) (text := text) (index := is) (a := sa) hown' hstr'.1 hstr'.2
    (g := { method := m, pc := pc + 4, locals := ls, stack := .ref T.heap.size :: .ref T.heap.size :: rest, locked := none }) rfl d4' _ hsteps
end Ends
section Bodies
variable {l : Launch}
theorem vx_ofW {y : MethodName} {ws ws' : List Cond} {rm : Room} {Pc : Array Value → State → Prop} {Qc : Array Value → State → Outcome → State → Prop} {XC : String → State → State → Prop} {mc ms : Nat} {free : Addr → Prop} {cc : ByteArray} {maxL : Nat} {ret : Option FieldType}
    (hy : plainName y.cls = true) (hw : ws = Cond.code y cc maxL ret :: ws')
    (body : ∀ p e s m args below meth c s₁, BodyLoose p l y (headSpec ws rm) cc maxL ret e s m args below meth c s₁ → c.maxLocals = maxL → (∀ x ∈ c.exceptionTable.toList, False) → Pc args s →
      W p l e (headSpec ws rm).room s m args below meth c s.heap [] 0 0 (vx_MQ below Qc XC args s mc ms free) (entryFrame m args maxL)) : vx_Met l y ws rm Pc Qc XC mc ms free := by
  refine MetFree.of_bodyS (code := cc) (maxLocals := maxL) (ret := ret) hy ?_ ?_
  · intro args s m h hn
    obtain ⟨meth, c, h1, h2, h3, h4, h5, h6, -, -⟩ := Cond.code_spec hn (atoms_spec (ws := ws) h _ (by rw [hw]; exact List.mem_cons_self))
    exact ⟨meth, c, h1, h2, h3, h4, h5, h6⟩
  · intro p e s m args below meth c s₁ B hml hP _
    have hh0 : s₁.heap = s.heap := by rw [B.state]; rfl
    have ht : ∀ x ∈ c.exceptionTable.toList, False := by
      obtain ⟨meth9, c9, h1, h2, -, -, -, -, h7, -⟩ := Cond.code_spec B.named (atoms_spec (ws := ws) B.pre _ (by rw [hw]; exact List.mem_cons_self))
      cases Option.some.inj (h1.symm.trans B.method)
      cases Option.some.inj (h2.symm.trans (Stand.of_body B).code)
      intro x hx
      rw [Array.isEmpty_iff.mp h7] at hx
      cases hx
    obtain ⟨t, a1, o, b1, b2, b3⟩ := body p e s m args below meth c s₁ B hml ht hP s₁ hh0 (Stand.of_body B)
    exact ⟨t, o, a1, b1, b2, b3⟩
/-- the table of a body with handlers -/
theorem vx_table {p : Program} {x y : MethodName} {S : Spec} {cc bytes : ByteArray} {maxL maxL' : Nat} {ret ret' : Option FieldType} {e : Env} {s s₁ : State} {m : MethodId} {args : Array Value} {below : List Frame} {meth : Method} {c : Code} {hh : List (Nat × Nat × Nat × Nat)}
    (B : BodyLoose p l y S cc maxL ret e s m args below meth c s₁) (h : (Cond.codeWith y bytes maxL' ret' hh).before args s = true) : c.exceptionTable.toList = tableOf hh := by
  obtain ⟨m9, meth9, c9, hn9, h1, h2, -, -, h6, -⟩ := Cond.codeWith_spec h
  cases Option.some.inj (hn9.symm.trans B.named)
  cases Option.some.inj (h1.symm.trans B.method)
  cases Option.some.inj (h2.symm.trans (Stand.of_body B).code)
  rw [← h6, table_eq]
end Bodies
end VXA
/-! ===== END ===== -/
/-! ===== BEGIN a static call of a method with an exception table ===== -/
section VXS
variable {p : Program} {l : Launch} {e : Env} {R : Room} {s : State} {m : MethodId} {args : Array Value} {below : List Frame} {meth : Method} {c : Code} {T : State} {H : Heap} {locs : List Loc} {cells slots : Nat}
abbrev vx_CSW (R : Room) (s : State) (args : Array Value) (own : String) (index : Nat) (y : MethodName) (bytes : ByteArray) (maxL : Nat) (ret : Option FieldType) (hh : List (Nat × Nat × Nat × Nat)) (ws : List Cond) (rm : Room) (mc ms n : Nat) : Prop :=
  (rm.cells = mc ∧ rm.slots = ms ∧ rm.frames + 1 ≤ R.frames ∧ 8 + (maxL + 11) + rm.locals ≤ R.locals ∧ (∀ w ∈ ws, ∀ (a' : Array Value) (U : State), s.WarmedH U.vm → w.before a' U = true) ∧ Cond.codeWith y bytes maxL ret hh ∈ ws) ∧
  (Cond.codeWith y bytes maxL ret hh).before args s = true ∧ (Cond.initialized y.cls).before args s = true ∧ (y.cls ≠ "java/lang/invoke/MethodHandle" ∧ y.cls ≠ "java/lang/invoke/VarHandle") ∧
  (∀ sig, parseMethodDescriptor y.desc = some sig → n = sig.parameters.length) ∧ (Cond.methodLink own index y).before args s = true ∧ (Cond.static y).before args s = true
theorem vx_cwSW {own : String} {index maxL mc ms : Nat} {y : MethodName} {bytes : ByteArray} {ret : Option FieldType} {hh : List (Nat × Nat × Nat × Nat)} {Ts ws ws' : List Cond} {rm : Room} (n : Nat) (ht : ∀ w ∈ Ts, w.before args s = true) (hT : GoodIn Ts (va_wsS own index y ws)) (hw : ws = Cond.codeWith y bytes maxL ret hh :: ws') (hrc : rm.cells = mc) (hrs : rm.slots = ms)
    (hd : y.cls ≠ "java/lang/invoke/MethodHandle" ∧ y.cls ≠ "java/lang/invoke/VarHandle" ∧ (parseMethodDescriptor y.desc).map (fun d => d.parameters.length) = some n) (hR : rm.frames + 1 ≤ R.frames ∧ 8 + (maxL + 11) + rm.locals ≤ R.locals) :
    vx_CSW R s args own index y bytes maxL ret hh ws rm mc ms n := by
  have ok : ∀ w ∈ va_wsS own index y ws, w.before args s = true := fun w h => ht w (hT w h).1
  have hG : GoodIn Ts ws := fun w h => hT w (by unfold va_wsS; exact List.mem_append_right _ h)
  have hc : Cond.codeWith y bytes maxL ret hh ∈ ws := by rw [hw]; exact List.mem_cons_self
  refine ⟨⟨hrc, hrs, hR.1, hR.2, pay_in ht hG, hc⟩, ht _ (hG _ hc).1, ok _ (by simp [va_wsS]), ⟨hd.1, hd.2.1⟩, fun sig h => ?_, ok _ (by simp [va_wsS]), ok _ (by simp [va_wsS])⟩
  have h2 := hd.2.2
  rw [h] at h2
  exact (Option.some.inj h2).symm
theorem vx_callSW (X : Stand p l e R s m args below meth c T locs cells slots) (hexec : p.tables.exec = Jvm.exec) {own : String} {index : Nat} {y : MethodName} {bytes : ByteArray} {maxL : Nat} {ret : Option FieldType} {hh : List (Nat × Nat × Nat × Nat)}
    (hown : s.vm.findClass own = some m.cls) (hlink : (Cond.methodLink own index y).before args s = true) (hstat : (Cond.static y).before args s = true) (hinit : (Cond.initialized y.cls).before args s = true)
    (hcode : (Cond.codeWith y bytes maxL ret hh).before args s = true) (hy : y.cls ≠ "java/lang/invoke/MethodHandle" ∧ y.cls ≠ "java/lang/invoke/VarHandle")
    {W9 : Nat} {Pre : Pt → Array Value → Prop} {Post : Pt → Array Value → Option Value → Pt → Prop} (hK : Back l R p e below s args y 3 W9 Pre Post)
    {g : JFrame} (hg : g.method = m) (hsize : g.locals.size = c.maxLocals) {argsL rest : List Value} (hlen : ∀ sig, parseMethodDescriptor y.desc = some sig → argsL.length = sig.parameters.length)
    (hstack : g.stack = argsL.reverse ++ rest) (hW : 2 * g.monitorRoom + (rest.map fun v => v.category).sum ≤ W9) (hdg : decode c.code g.pc = .ok (.invokestatic index, 3))
    (hpre : ∀ vm₁, s.WarmedH vm₁ → Pre ⟨T.setVm vm₁, locs, cells, slots⟩ argsL.toArray) :
    ∃ (v : Option Value) (vm₁ : Vm) (B : Pt), s.WarmedH vm₁ ∧ Stand p l e R s m args below meth c B.U B.locs B.cells B.slots ∧ Post ⟨T.setVm vm₁, locs, cells, slots⟩ argsL.toArray v B ∧
      ∀ target, Steps p.tables e below (B.U.setTop { g with pc := g.pc + 3, stack := v.toList ++ rest }) target → Steps p.tables e below (T.setTop g) target := by
  obtain ⟨mk, methM, cM, hnamed, hmethM, -, -, -, -, -, -, hsigM⟩ := Cond.codeWith_spec hcode
  have hstatic : methM.isStatic = true := Cond.static_spec hnamed hmethM hstat
  obtain ⟨kP, hkP, -⟩ := className_of_methodNamed hnamed
  have hinitP : kP.init = .initialized := Cond.initialized_spec (findClass_of_methodNamed hnamed) hkP hinit
  obtain ⟨vm₁, X₁, hstep₁⟩ := X.invokestatic hexec hown hlink hnamed hmethM hstatic hkP hinitP hy (g := g) hg (argsL := argsL) (rest := rest) (hlen _ hsigM) hstack hdg
  obtain ⟨v, B, X', hpost, hsteps⟩ := hK m meth c ⟨T.setVm vm₁, locs, cells, slots⟩ { g with stack := rest } (.invokestatic index) mk argsL.toArray X₁ hg hsize hdg hW (X₁.named hnamed) (hpre vm₁ X₁.warmed)
  exact ⟨v, vm₁, B, X₁.warmed, X', hpost, fun target h => hstep₁ _ fun acts => by rw [doInvoke_state]; exact hsteps.trans h⟩
theorem vx_runSW {y : MethodName} {bytes cc : ByteArray} {maxL nL mc ms n index : Nat} {ret : Option FieldType} {hh : List (Nat × Nat × Nat × Nat)} {ws : List Cond} {rm : Room} {Pc : Array Value → State → Prop} {Qc : Array Value → State → Outcome → State → Prop} {free : Addr → Prop} {Ts : List Cond} {own : String} {As rest : List Value} {g : JFrame}
    (S : CallFix p m c cc nL s args Ts own) (hM : Met l y ws rm Pc Qc mc ms free) (cw : vx_CSW R s args own index y bytes maxL ret hh ws rm mc ms n) (hp : PreS s H Pc As)
    (hg : g.method = m) (hn : As.length = n) (hsize : g.locals.size = nL) (hstack : g.stack = As.reverse ++ rest) (hW : 2 * g.monitorRoom + (rest.map fun v => v.category).sum ≤ 8) (hdg : decode cc g.pc = .ok (.invokestatic index, 3)) (hf : cells + mc ≤ R.cells ∧ slots + ms ≤ R.slots) :
    va_Run p l e R s m args below meth c H locs cells slots mc ms g rest (Qc As.toArray) (free) := by
  obtain ⟨⟨hrc, hrs, hfr, hlo, hws, hcw⟩, hcode, hini, hy, hlen, hl, hstt⟩ := cw
  have hK : Back l R p e below s args y 3 8 (PreOf R mc ms Pc) (PostOf Qc mc ms free) := va_backW (hh := hh) (bytes := bytes) (maxL := maxL) (ret := ret) hM hp.1 hrc hrs hfr hlo hws hcw (fun a' U hW => word_at hW (Or.inl (by first | rfl | simp [Cond.onTables, Cond.keeps, Cond.steady])) hini)
  obtain ⟨hx, hb, hml, ho, -⟩ := S
  intro T hT X
  obtain ⟨v, vm₁, ⟨U', l2, c2, s2⟩, hW₁, X', ⟨g', mk, t, L, e1, e2, hq, h1, hL, h2, h3⟩, st⟩ := vx_callSW X hx (hh := hh) (bytes := bytes) (maxL := maxL) (ret := ret) ho hl hstt hini hcode hy hK hg (hsize.trans hml.symm) (argsL := As) (rest := rest) (fun sig h => hn.trans (hlen sig h)) hstack hW (by rw [hb]; exact hdg)
    (fun vm₁ hW₁ => ⟨hf.1, hf.2, hp.2 (T.setVm vm₁) hT hW₁⟩)
  dsimp only [Pt.U, Pt.locs, Pt.cells, Pt.slots] at X' e1 e2 h1 h2 h3 st
  subst h1; subst h2; subst h3
  exact ⟨v, (T.setVm vm₁).calling g' mk As.toArray, t, U', L, hT, X', hL, e1, e2, hq, st⟩
/-- not caught here, past rows that name other classes: it goes on to the caller -/
theorem vx_outP {p : Program} {l : Launch} {e : Env} {R : Room} {s : State} {m : MethodId} {args : Array Value} {below : List Frame} {meth : Method} {c : Code} {H : Heap} {locs : List Loc} {cells slots : Nat} {free : Addr → Prop} {ls : Array Slot} {rest : List Value} {Qc : Array Value → State → Outcome → State → Prop} {XC : String → State → State → Prop}
    {pc : Nat} {own E : String} {ce : Cell} {q : Addr} {mc ms : Nat} (hown : s.vm.findClass own = some m.cls) (hlocks : meth.locks = false)
    (hpass : ∀ z ∈ c.exceptionTable.toList, covers z pc = false ∨ (z.catchType ≠ 0 ∧ ∃ nm : String, (Cond.classLink own z.catchType nm).before args s = true ∧ va_Nc E nm s)) (hcell : H[q]? = some ce) (hv : ce.vm = .none) (hcl : s.vm.findClass E = some ce.cls)
    (hx : ∀ t : State, t.heap = H → s.vm.Alike t.vm → XC E s t) (hf : ∀ z ∈ locs, free z.base) (hc : cells ≤ mc) (hs : slots ≤ ms) :
    vx_W p l e R s m args below meth c H locs cells slots (vx_MQ below Qc XC args s mc ms free) (F0 m pc ls rest) q := by
  intro T hT X
  have hpl : e.platform.magicAccessors = ({} : Platform).magicAccessors := by rw [X.admits.platform]
  obtain ⟨vm', hW', X', st⟩ := X.outThrough hlocks q (g := F0 m pc ls rest) rfl rfl rfl (cell := ce) (by rw [hT]; exact hcell) (by rw [hv]; rfl)
    (by obtain ⟨k9, h9, -⟩ := Vm.findClass_spec hcl; exact ⟨k9, h9⟩) (fun z hz => by
      rcases hpass z hz with h | ⟨hz0, nm, hl1, hn1⟩
      · exact Or.inl h
      · obtain ⟨c6, hc6, hcl6⟩ := Cond.classLink_spec hown hl1 e.platform hpl
        obtain ⟨a8, b8, h1, h2, h3⟩ := hn1
        cases Option.some.inj (h1.symm.trans hcl)
        cases Option.some.inj (h2.symm.trans hc6)
        exact Or.inr ⟨hz0, _, hcl6, h3⟩)
  obtain ⟨g₀, hfr⟩ := X'.frames_eq
  have hcell9 : ((T.setVm vm').setFrames (.throwing q :: below)).heap[q]? = some ce := by
    show T.heap[q]? = some ce
    rw [hT]; exact hcell
  have hend : Ended ((T.setVm vm').setFrames (.throwing q :: below)) below (.threw q) := State.frames_setFrames _ (State.cur_lt_of_frames hfr)
  refine ⟨(T.setVm vm').setFrames (.throwing q :: below), ?_, .threw q, X'.here.running, hend, Or.inr ⟨q, rfl, E, ce, locs, hx _ hT (X'.ends _).1.alike, hcell9, hv, hcl, (X'.ends _).1, (X'.ends _).2.mono hc hs, hf⟩⟩
  rw [X.pushThrowing_eq]
  exact st
/-- a thing of a world lies in the heap -/
theorem vx_lt {D : va_G} {cl : List vw_C} {ws : va_W} {H1 : Heap} (h : va_P D cl ws H1) {k : Nat} {q : Nat × va_E} (hk : ws[k]? = some q) : q.1 < H1.size := (h k q hk).lt
end VXS
/-! ===== END ===== -/
/-! ===== BEGIN methods with a table of their own: called by a name, returning or throwing ===== -/
section VXH
/-! vx_backW, vx_callVX, vx_callSX, vx_callVW, vx_runVW, vx_runVX, vx_runSX, vx_ofWH follow the same proofs as their sisters above (Free/Laws.lean, Shelf42/LK1.lean); vx_outP calls Shelf42/NT130.lean (outThrough). -/
section
variable {l : Launch} {R : Room} {p : Program} {e : Env} {below : List Frame} {s : State} {sargs : Array Value} {y : MethodName} {len W9 : Nat}
theorem vx_backW {ws : List Cond} {rm : Room} {Pc : Array Value → State → Prop} {Qc : Array Value → State → Outcome → State → Prop} {XC : String → State → State → Prop} {mc ms : Nat} {free : Addr → Prop} {bytes : ByteArray} {maxL : Nat} {ret : Option FieldType} {hh : List (Nat × Nat × Nat × Nat)}
    (hM : vx_Met l y ws rm Pc Qc XC mc ms free) (hblind : FrameBlind Pc) (hrc : rm.cells = mc) (hrs : rm.slots = ms)
    (hframes : rm.frames + 1 ≤ R.frames) (hlocals : W9 + (maxL + 11) + rm.locals ≤ R.locals)
    (hws : ∀ w ∈ ws, ∀ a' U, s.WarmedH U.vm → w.before a' U = true) (hcode : Cond.codeWith y bytes maxL ret hh ∈ ws) (hinit : ∀ a' U, s.WarmedH U.vm → (Cond.initialized y.cls).before a' U = true) :
    vx_Back l R p e below s sargs y len W9 (PreOf R mc ms Pc) (PostOf Qc mc ms free) (vx_Post XC mc ms free) := by
  intro m meth c A g ig mk a X hg hsize hdg hW hn hp
  have h1 : (headSpec ws rm).pre.before a A.U = true := atoms_intro fun w hw => hws w hw _ _ X.warmed
  have h2 : (Cond.codeWith y bytes maxL ret hh).before a A.U = true := hws _ hcode _ _ X.warmed
  have h3 : (Cond.initialized y.cls).before a A.U = true := hinit _ _ X.warmed
  have h4 : A.cells + (headSpec ws rm).room.cells ≤ R.cells := by rw [show (headSpec ws rm).room.cells = mc from hrc]; exact hp.1
  have h5 : A.slots + (headSpec ws rm).room.slots ≤ R.slots := by rw [show (headSpec ws rm).room.slots = ms from hrs]; exact hp.2.1
  have hPc : Pc a (A.U.calling g mk a) := hblind _ _ _ _ hp.2.2
  obtain ⟨U, Ls, c0, s0⟩ := A
  dsimp only [Pt.U, Pt.locs, Pt.cells, Pt.slots] at h1 h2 h3 h4 h5 X hn hPc ⊢
  obtain ⟨m9, methY, cY, hn9, hmY, hcY, -, hlY, -⟩ := Cond.codeWith_spec h2
  cases Option.some.inj (hn9.symm.trans hn)
  obtain ⟨kY, hkY, -⟩ := className_of_methodNamed hn
  have hinitY : kY.init = .initialized := Cond.initialized_spec (findClass_of_methodNamed hn) hkY h3
  have h : At U g.method c below := by rw [hg]; exact X.here
  have hlocals9 : W9 + (maxL + 11) + (headSpec ws rm).room.locals ≤ R.locals := hlocals
  have happ : (headSpec ws rm).appliesLoose y e.platform (U.calling g mk a) = true :=
    Spec.appliesLoose_calling (g := g) h hdg hn hkY hinitY
      (X.room_calling (g := g) (R' := (headSpec ws rm).room) hsize hmY hcY hframes (by rw [hlY]; omega) h4 h5) h1
  obtain ⟨mid, hmid⟩ := h.above
  have hfr : (U.setTop g).frames = (.java g :: mid) ++ below := by rw [State.frames_setTop' g h.top, hmid]; rfl
  obtain ⟨o, s₂, hsteps, -, hend, hq⟩ := Steps.callFree hM p X.admits X.cas X.clock (acts := []) hfr happ hPc trivial
  have hq' : vx_Q Qc XC mc ms free a (U.calling g mk a) o s₂ := hq
  rw [State.frames_setTop' g h.top] at hend
  obtain ⟨g₀, hg0⟩ := Option.isSome_iff_exists.mp h.top
  obtain ⟨r, hr⟩ := State.topJava?_eq_some.mp hg0
  have hr' : (({ U with heap := s₂.heap, slotsUsed := s₂.slotsUsed } : State).setVm s₂.vm).frames = .java g₀ :: r := hr
  rcases hq' with ⟨hqc, L, hfe, hL⟩ | ⟨q, rfl, E, ce, L, hx, hce, hcv, hcl, hW₂, hsm, hL⟩
  · obtain ⟨⟨v, rfl⟩, hW₂, e2, q2, q3, q4, q5, q6⟩ := id hfe
    have e3 : s₂ = ({ (U.calling g mk a).setFrames s₂.frames with heap := s₂.heap, slotsUsed := s₂.slotsUsed } : State).setVm s₂.vm := by
      have : s₂ = ({ s₂ with vm := (U.calling g mk a).vm } : State).setVm s₂.vm := rfl
      rw [e2] at this
      exact this
    obtain ⟨c₂, i₂, len₂, hc₂, hd₂, hf₂⟩ := hend
    have hW' : U.WarmedH s₂.vm := hW₂
    have hcc : c₂ = c := by
      have h1 : s₂.code? g.method = U.code? g.method := by
        rw [State.code?_eq, State.code?_eq, hW'.alike.method?]
      exact Option.some.inj (hc₂.symm.trans (h1.trans h.code))
    subst hcc
    have hlen : len₂ = len := by rw [hdg] at hd₂; cases hd₂; rfl
    subst hlen
    have hs₂ : s₂ = (({ U with heap := s₂.heap, slotsUsed := s₂.slotsUsed } : State).setVm s₂.vm).setTop { g with pc := g.pc + len₂, stack := v.toList ++ g.stack } := by
      refine e3.trans ?_
      rw [hf₂, State.calling_eq h.top, State.setFrames_setFrames, State.setTop_of_frames _ hr', hr]
      rfl
    have hsame : U.sameButNew ({ U with heap := s₂.heap, slotsUsed := s₂.slotsUsed } : State) L mc ms := by
      refine ⟨?_, q2, q3, q4, q5, q6⟩
      obtain ⟨t, ht, -⟩ := State.frames_cons hr
      show ({ U with heap := s₂.heap, slotsUsed := s₂.slotsUsed } : State) = { U.setFrames U.frames with heap := s₂.heap, slotsUsed := s₂.slotsUsed }
      rw [State.setFrames_self ht]
    subst hg
    refine Or.inl ⟨v, ⟨(({ U with heap := s₂.heap, slotsUsed := s₂.slotsUsed } : State).setVm s₂.vm), Ls ++ L, c0 + mc, s0 + ms⟩,
      ⟨X.admits, X.cas, X.clock, X.frames, X.room, X.hears, X.method, X.code, (X.here.setHeapUsed s₂.heap s₂.slotsUsed).setVm hW'.alike, X.tail, State.WarmedH.trans X.warmed hW', X.limits, X.bytes, X.same.trans (hsame.setVm s.vm)⟩,
      ⟨g, mk, s₂, L, rfl, rfl, hqc, rfl, hL, rfl, rfl⟩, ?_⟩
    show Steps p.tables e below _ ((({ U with heap := s₂.heap, slotsUsed := s₂.slotsUsed } : State).setVm s₂.vm).setTop { g with pc := g.pc + len₂, stack := v.toList ++ g.stack })
    rw [← hs₂]
    exact hsteps
  · obtain ⟨e2, q2, q3, q4, q5, q6⟩ := id hsm
    have e3 : s₂ = ({ (U.calling g mk a).setFrames s₂.frames with heap := s₂.heap, slotsUsed := s₂.slotsUsed } : State).setVm s₂.vm := by
      have : s₂ = ({ s₂ with vm := (U.calling g mk a).vm } : State).setVm s₂.vm := rfl
      rw [e2] at this
      exact this
    have hf₂ : s₂.frames = .throwing q :: .java g :: U.frames.tail := hend
    have hW' : U.WarmedH s₂.vm := hW₂
    have hs₂ : s₂ = ((({ U with heap := s₂.heap, slotsUsed := s₂.slotsUsed } : State).setVm s₂.vm).setTop g).pushFrame (.throwing q) := by
      refine e3.trans ?_
      rw [hf₂, State.calling_eq h.top, State.setFrames_setFrames, State.pushFrame, State.frames_setTop _ hr', State.setTop_of_frames _ hr', State.setFrames_setFrames, hr]
      rfl
    have hsame : U.sameButNew ({ U with heap := s₂.heap, slotsUsed := s₂.slotsUsed } : State) L mc ms := by
      refine ⟨?_, q2, q3, q4, q5, q6⟩
      obtain ⟨t, ht, -⟩ := State.frames_cons hr
      show ({ U with heap := s₂.heap, slotsUsed := s₂.slotsUsed } : State) = { U.setFrames U.frames with heap := s₂.heap, slotsUsed := s₂.slotsUsed }
      rw [State.setFrames_self ht]
    subst hg
    refine Or.inr ⟨q, ⟨(({ U with heap := s₂.heap, slotsUsed := s₂.slotsUsed } : State).setVm s₂.vm), Ls ++ L, c0 + mc, s0 + ms⟩,
      ⟨X.admits, X.cas, X.clock, X.frames, X.room, X.hears, X.method, X.code, (X.here.setHeapUsed s₂.heap s₂.slotsUsed).setVm hW'.alike, X.tail, State.WarmedH.trans X.warmed hW', X.limits, X.bytes, X.same.trans (hsame.setVm s.vm)⟩,
      ⟨g, mk, s₂, L, E, ce, rfl, rfl, hx, hce, hcv, hcl, rfl, hL, rfl, rfl⟩, ?_⟩
    show Steps p.tables e below _ (((({ U with heap := s₂.heap, slotsUsed := s₂.slotsUsed } : State).setVm s₂.vm).setTop g).pushFrame (.throwing q))
    rw [← hs₂]
    exact hsteps
end
variable {p : Program} {l : Launch} {e : Env} {R : Room} {s : State} {m : MethodId} {args : Array Value} {below : List Frame} {meth : Method} {c : Code} {T : State} {H : Heap} {locs : List Loc} {cells slots : Nat}
theorem vx_callVX (X : Stand p l e R s m args below meth c T locs cells slots) (hexec : p.tables.exec = Jvm.exec) {own C : String} {index : Nat} {y : MethodName} {bytes : ByteArray} {maxL : Nat} {ret : Option FieldType} {hh : List (Nat × Nat × Nat × Nat)}
    (hown : s.vm.findClass own = some m.cls) (hlink : (Cond.methodLink own index y).before args s = true) (hinst : (Cond.instanceMethod y).before args s = true) (hsel : (Cond.selects C y y).before args s = true)
    (hcode : (Cond.codeWith y bytes maxL ret hh).before args s = true) (hy : y.cls ≠ "java/lang/invoke/MethodHandle" ∧ y.cls ≠ "java/lang/invoke/VarHandle")
    {W9 : Nat} {Pre : Pt → Array Value → Prop} {Post : Pt → Array Value → Option Value → Pt → Prop} {PostX : Pt → Array Value → Addr → Pt → Prop} (hK : vx_Back l R p e below s args y 3 W9 Pre Post PostX)
    {b : Addr} {cellB : Cell} (hcell : T.heap[b]? = some cellB) (hobj : cellB.vm.isStatics = false) (hcls : s.vm.findClass C = some cellB.cls)
    {g : JFrame} (hg : g.method = m) (hsize : g.locals.size = c.maxLocals) {argsL rest : List Value} (hlen : ∀ sig, parseMethodDescriptor y.desc = some sig → argsL.length = sig.parameters.length)
    (hstack : g.stack = argsL.reverse ++ .ref b :: rest) (hW : 2 * g.monitorRoom + (rest.map fun v => v.category).sum ≤ W9) (hdg : decode c.code g.pc = .ok (.invokevirtual index, 3))
    (hpre : ∀ vm₁, s.WarmedH vm₁ → Pre ⟨T.setVm vm₁, locs, cells, slots⟩ (Value.ref b :: argsL).toArray) :
    (∃ (v : Option Value) (vm₁ : Vm) (B : Pt), s.WarmedH vm₁ ∧ Stand p l e R s m args below meth c B.U B.locs B.cells B.slots ∧ Post ⟨T.setVm vm₁, locs, cells, slots⟩ (Value.ref b :: argsL).toArray v B ∧
      ∀ target, Steps p.tables e below (B.U.setTop { g with pc := g.pc + 3, stack := v.toList ++ rest }) target → Steps p.tables e below (T.setTop g) target) ∨
    (∃ (q : Addr) (vm₁ : Vm) (B : Pt), s.WarmedH vm₁ ∧ Stand p l e R s m args below meth c B.U B.locs B.cells B.slots ∧ PostX ⟨T.setVm vm₁, locs, cells, slots⟩ (Value.ref b :: argsL).toArray q B ∧
      Steps p.tables e below (T.setTop g) ((B.U.setTop { g with stack := rest }).pushFrame (.throwing q))) := by
  obtain ⟨mk, methM, hnamed, hmethM, hstM, habM⟩ := Cond.instanceMethod_spec hinst
  obtain ⟨m8, methM', cM, hn8, hmethM', -, -, -, -, -, -, hsigM⟩ := Cond.codeWith_spec hcode
  cases Option.some.inj (hn8.symm.trans hnamed)
  cases hmethM.symm.trans hmethM'
  obtain ⟨c2, r2, m2, q1, q2, q3, q4, kP, hkP, hkPi⟩ := Cond.selects_spec hsel
  cases hcls.symm.trans q1
  cases (State.methodFound?_of_named hnamed hy).symm.trans q2
  cases hnamed.symm.trans q3
  have hselP : selectMethod e.platform s.vm cellB.cls mk = .method mk := by rw [Launch.admits_selectMethod X.admits]; exact q4
  obtain ⟨vm₁, X₁, hstep₁⟩ := X.invokevirtual hexec hown hlink hnamed hmethM hstM hkP hkPi hy (a := b) (cell := cellB) hcell
    (fun z h => by rw [h] at hobj; cases hobj) hselP hmethM habM hkP hkPi (g := g) hg (argsL := argsL) (rest := rest) (hlen _ hsigM) hstack hdg
  rcases hK m meth c ⟨T.setVm vm₁, locs, cells, slots⟩ { g with stack := rest } (.invokevirtual index) mk (Value.ref b :: argsL).toArray X₁ hg hsize hdg hW (X₁.named hnamed) (hpre vm₁ X₁.warmed) with ⟨v, B, X', hpost, hsteps⟩ | ⟨q, B, X', hpost, hsteps⟩
  · exact Or.inl ⟨v, vm₁, B, X₁.warmed, X', hpost, fun target h => hstep₁ _ fun acts => by rw [doInvoke_state]; exact hsteps.trans h⟩
  · exact Or.inr ⟨q, vm₁, B, X₁.warmed, X', hpost, hstep₁ _ fun acts => by rw [doInvoke_state]; exact hsteps⟩
theorem vx_callSX (X : Stand p l e R s m args below meth c T locs cells slots) (hexec : p.tables.exec = Jvm.exec) {own : String} {index : Nat} {y : MethodName} {bytes : ByteArray} {maxL : Nat} {ret : Option FieldType} {hh : List (Nat × Nat × Nat × Nat)}
    (hown : s.vm.findClass own = some m.cls) (hlink : (Cond.methodLink own index y).before args s = true) (hstat : (Cond.static y).before args s = true) (hinit : (Cond.initialized y.cls).before args s = true)
    (hcode : (Cond.codeWith y bytes maxL ret hh).before args s = true) (hy : y.cls ≠ "java/lang/invoke/MethodHandle" ∧ y.cls ≠ "java/lang/invoke/VarHandle")
    {W9 : Nat} {Pre : Pt → Array Value → Prop} {Post : Pt → Array Value → Option Value → Pt → Prop} {PostX : Pt → Array Value → Addr → Pt → Prop} (hK : vx_Back l R p e below s args y 3 W9 Pre Post PostX)
    {g : JFrame} (hg : g.method = m) (hsize : g.locals.size = c.maxLocals) {argsL rest : List Value} (hlen : ∀ sig, parseMethodDescriptor y.desc = some sig → argsL.length = sig.parameters.length)
    (hstack : g.stack = argsL.reverse ++ rest) (hW : 2 * g.monitorRoom + (rest.map fun v => v.category).sum ≤ W9) (hdg : decode c.code g.pc = .ok (.invokestatic index, 3))
    (hpre : ∀ vm₁, s.WarmedH vm₁ → Pre ⟨T.setVm vm₁, locs, cells, slots⟩ argsL.toArray) :
    (∃ (v : Option Value) (vm₁ : Vm) (B : Pt), s.WarmedH vm₁ ∧ Stand p l e R s m args below meth c B.U B.locs B.cells B.slots ∧ Post ⟨T.setVm vm₁, locs, cells, slots⟩ argsL.toArray v B ∧
      ∀ target, Steps p.tables e below (B.U.setTop { g with pc := g.pc + 3, stack := v.toList ++ rest }) target → Steps p.tables e below (T.setTop g) target) ∨
    (∃ (q : Addr) (vm₁ : Vm) (B : Pt), s.WarmedH vm₁ ∧ Stand p l e R s m args below meth c B.U B.locs B.cells B.slots ∧ PostX ⟨T.setVm vm₁, locs, cells, slots⟩ argsL.toArray q B ∧
      Steps p.tables e below (T.setTop g) ((B.U.setTop { g with stack := rest }).pushFrame (.throwing q))) := by
  obtain ⟨mk, methM, cM, hnamed, hmethM, -, -, -, -, -, -, hsigM⟩ := Cond.codeWith_spec hcode
  have hstatic : methM.isStatic = true := Cond.static_spec hnamed hmethM hstat
  obtain ⟨kP, hkP, -⟩ := className_of_methodNamed hnamed
  have hinitP : kP.init = .initialized := Cond.initialized_spec (findClass_of_methodNamed hnamed) hkP hinit
  obtain ⟨vm₁, X₁, hstep₁⟩ := X.invokestatic hexec hown hlink hnamed hmethM hstatic hkP hinitP hy (g := g) hg (argsL := argsL) (rest := rest) (hlen _ hsigM) hstack hdg
  rcases hK m meth c ⟨T.setVm vm₁, locs, cells, slots⟩ { g with stack := rest } (.invokestatic index) mk argsL.toArray X₁ hg hsize hdg hW (X₁.named hnamed) (hpre vm₁ X₁.warmed) with ⟨v, B, X', hpost, hsteps⟩ | ⟨q, B, X', hpost, hsteps⟩
  · exact Or.inl ⟨v, vm₁, B, X₁.warmed, X', hpost, fun target h => hstep₁ _ fun acts => by rw [doInvoke_state]; exact hsteps.trans h⟩
  · exact Or.inr ⟨q, vm₁, B, X₁.warmed, X', hpost, hstep₁ _ fun acts => by rw [doInvoke_state]; exact hsteps⟩
theorem vx_callVW (X : Stand p l e R s m args below meth c T locs cells slots) (hexec : p.tables.exec = Jvm.exec) {own C : String} {index : Nat} {y : MethodName} {bytes : ByteArray} {maxL : Nat} {ret : Option FieldType} {hh : List (Nat × Nat × Nat × Nat)}
    (hown : s.vm.findClass own = some m.cls) (hlink : (Cond.methodLink own index y).before args s = true) (hinst : (Cond.instanceMethod y).before args s = true) (hsel : (Cond.selects C y y).before args s = true)
    (hcode : (Cond.codeWith y bytes maxL ret hh).before args s = true) (hy : y.cls ≠ "java/lang/invoke/MethodHandle" ∧ y.cls ≠ "java/lang/invoke/VarHandle")
    {W9 : Nat} {Pre : Pt → Array Value → Prop} {Post : Pt → Array Value → Option Value → Pt → Prop} (hK : Back l R p e below s args y 3 W9 Pre Post)
    {b : Addr} {cellB : Cell} (hcell : T.heap[b]? = some cellB) (hobj : cellB.vm.isStatics = false) (hcls : s.vm.findClass C = some cellB.cls)
    {g : JFrame} (hg : g.method = m) (hsize : g.locals.size = c.maxLocals) {argsL rest : List Value} (hlen : ∀ sig, parseMethodDescriptor y.desc = some sig → argsL.length = sig.parameters.length)
    (hstack : g.stack = argsL.reverse ++ .ref b :: rest) (hW : 2 * g.monitorRoom + (rest.map fun v => v.category).sum ≤ W9) (hdg : decode c.code g.pc = .ok (.invokevirtual index, 3))
    (hpre : ∀ vm₁, s.WarmedH vm₁ → Pre ⟨T.setVm vm₁, locs, cells, slots⟩ (Value.ref b :: argsL).toArray) :
    ∃ (v : Option Value) (vm₁ : Vm) (B : Pt), s.WarmedH vm₁ ∧ Stand p l e R s m args below meth c B.U B.locs B.cells B.slots ∧ Post ⟨T.setVm vm₁, locs, cells, slots⟩ (Value.ref b :: argsL).toArray v B ∧
      ∀ target, Steps p.tables e below (B.U.setTop { g with pc := g.pc + 3, stack := v.toList ++ rest }) target → Steps p.tables e below (T.setTop g) target := by
  obtain ⟨mk, methM, hnamed, hmethM, hstM, habM⟩ := Cond.instanceMethod_spec hinst
  obtain ⟨m8, methM', cM, hn8, hmethM', -, -, -, -, -, -, hsigM⟩ := Cond.codeWith_spec hcode
  cases Option.some.inj (hn8.symm.trans hnamed)
  cases hmethM.symm.trans hmethM'
  obtain ⟨c2, r2, m2, q1, q2, q3, q4, kP, hkP, hkPi⟩ := Cond.selects_spec hsel
  cases hcls.symm.trans q1
  cases (State.methodFound?_of_named hnamed hy).symm.trans q2
  cases hnamed.symm.trans q3
  have hselP : selectMethod e.platform s.vm cellB.cls mk = .method mk := by rw [Launch.admits_selectMethod X.admits]; exact q4
  obtain ⟨vm₁, X₁, hstep₁⟩ := X.invokevirtual hexec hown hlink hnamed hmethM hstM hkP hkPi hy (a := b) (cell := cellB) hcell
    (fun z h => by rw [h] at hobj; cases hobj) hselP hmethM habM hkP hkPi (g := g) hg (argsL := argsL) (rest := rest) (hlen _ hsigM) hstack hdg
  obtain ⟨v, B, X', hpost, hsteps⟩ := hK m meth c ⟨T.setVm vm₁, locs, cells, slots⟩ { g with stack := rest } (.invokevirtual index) mk (Value.ref b :: argsL).toArray X₁ hg hsize hdg hW (X₁.named hnamed) (hpre vm₁ X₁.warmed)
  exact ⟨v, vm₁, B, X₁.warmed, X', hpost, fun target h => hstep₁ _ fun acts => by rw [doInvoke_state]; exact hsteps.trans h⟩
abbrev vx_CVW (R : Room) (s : State) (args : Array Value) (own C : String) (index : Nat) (y : MethodName) (bytes : ByteArray) (maxL : Nat) (ret : Option FieldType) (hh : List (Nat × Nat × Nat × Nat)) (ws : List Cond) (rm : Room) (mc ms n : Nat) : Prop :=
  (rm.cells = mc ∧ rm.slots = ms ∧ rm.frames + 1 ≤ R.frames ∧ 8 + (maxL + 11) + rm.locals ≤ R.locals ∧ (∀ w ∈ ws, ∀ (a' : Array Value) (U : State), s.WarmedH U.vm → w.before a' U = true) ∧ Cond.codeWith y bytes maxL ret hh ∈ ws) ∧
  (Cond.codeWith y bytes maxL ret hh).before args s = true ∧ (Cond.initialized y.cls).before args s = true ∧ (y.cls ≠ "java/lang/invoke/MethodHandle" ∧ y.cls ≠ "java/lang/invoke/VarHandle") ∧
  (∀ sig, parseMethodDescriptor y.desc = some sig → n = sig.parameters.length) ∧ (Cond.methodLink own index y).before args s = true ∧ (Cond.instanceMethod y).before args s = true ∧ (Cond.selects C y y).before args s = true
theorem vx_cwVW {own C : String} {index maxL mc ms : Nat} {y : MethodName} {bytes : ByteArray} {ret : Option FieldType} {hh : List (Nat × Nat × Nat × Nat)} {Ts ws ws' : List Cond} {rm : Room} (n : Nat) (ht : ∀ w ∈ Ts, w.before args s = true) (hT : GoodIn Ts (wsV own index C y ws)) (hw : ws = Cond.codeWith y bytes maxL ret hh :: ws') (hrc : rm.cells = mc) (hrs : rm.slots = ms)
    (hd : y.cls = C ∧ y.cls ≠ "java/lang/invoke/MethodHandle" ∧ y.cls ≠ "java/lang/invoke/VarHandle" ∧ (parseMethodDescriptor y.desc).map (fun d => d.parameters.length) = some n) (hR : rm.frames + 1 ≤ R.frames ∧ 8 + (maxL + 11) + rm.locals ≤ R.locals) :
    vx_CVW R s args own C index y bytes maxL ret hh ws rm mc ms n := by
  obtain ⟨hC, hd⟩ := hd
  subst hC
  have ok : ∀ w ∈ wsV own index y.cls y ws, w.before args s = true := fun w h => ht w (hT w h).1
  have hG : GoodIn Ts ws := fun w h => hT w (by unfold wsV; exact List.mem_append_right _ h)
  have hc : Cond.codeWith y bytes maxL ret hh ∈ ws := by rw [hw]; exact List.mem_cons_self
  refine ⟨⟨hrc, hrs, hR.1, hR.2, pay_in ht hG, hc⟩, ht _ (hG _ hc).1, ok _ (by simp [wsV]), ⟨hd.1, hd.2.1⟩, fun sig h => ?_, ok _ (by simp [wsV]), ok _ (by simp [wsV]), ok _ (by simp [wsV])⟩
  have h2 := hd.2.2
  rw [h] at h2
  exact (Option.some.inj h2).symm
theorem vx_runVW {y : MethodName} {bytes cc : ByteArray} {maxL nL mc ms n index : Nat} {ret : Option FieldType} {hh : List (Nat × Nat × Nat × Nat)} {ws : List Cond} {rm : Room} {Pc : Array Value → State → Prop} {Qc : Array Value → State → Outcome → State → Prop} {free : Addr → Prop} {Ts : List Cond} {own C : String} {b : Addr} {As rest : List Value} {g : JFrame}
    (S : CallFix p m c cc nL s args Ts own) (hM : Met l y ws rm Pc Qc mc ms free) (cw : vx_CVW R s args own C index y bytes maxL ret hh ws rm mc ms n) (hp : PreV s H C b Pc As)
    (hg : g.method = m) (hn : As.length = n) (hsize : g.locals.size = nL) (hstack : g.stack = As.reverse ++ .ref b :: rest) (hW : 2 * g.monitorRoom + (rest.map fun v => v.category).sum ≤ 8) (hdg : decode cc g.pc = .ok (.invokevirtual index, 3)) (hf : cells + mc ≤ R.cells ∧ slots + ms ≤ R.slots) :
    va_Run p l e R s m args below meth c H locs cells slots mc ms g rest (Qc (Value.ref b :: As).toArray) free := by
  obtain ⟨⟨hrc, hrs, hfr, hlo, hws, hcw⟩, hcode, hini, hy, hlen, hl, hin, hse⟩ := cw
  have hK : Back l R p e below s args y 3 8 (PreOf R mc ms Pc) (PostOf Qc mc ms free) := va_backW (hh := hh) (bytes := bytes) (maxL := maxL) (ret := ret) hM hp.1 hrc hrs hfr hlo hws hcw (fun a' U hW => word_at hW (Or.inl (by first | rfl | simp [Cond.onTables, Cond.keeps, Cond.steady])) hini)
  obtain ⟨hx, hb, hml, ho, -⟩ := S
  obtain ⟨-, ⟨cellB, hcB, hoB, hclB⟩, hPc⟩ := hp
  intro T hT X
  obtain ⟨v, vm₁, ⟨U', l2, c2, s2⟩, hW₁, X', ⟨g', mk, t, L, e1, e2, hq, h1, hL, h2, h3⟩, st⟩ := vx_callVW X hx (C := C) (hh := hh) (bytes := bytes) (maxL := maxL) (ret := ret) ho hl hin hse hcode hy hK (by rw [hT]; exact hcB) hoB hclB hg (hsize.trans hml.symm) (argsL := As) (rest := rest) (fun sig h => hn.trans (hlen sig h)) hstack hW (by rw [hb]; exact hdg)
    (fun vm₁ hW₁ => ⟨hf.1, hf.2, hPc (T.setVm vm₁) hT hW₁⟩)
  dsimp only [Pt.U, Pt.locs, Pt.cells, Pt.slots] at X' e1 e2 h1 h2 h3 st
  subst h1; subst h2; subst h3
  exact ⟨v, (T.setVm vm₁).calling g' mk (Value.ref b :: As).toArray, t, U', L, hT, X', hL, e1, e2, hq, st⟩
section
variable {y : MethodName} {bytes cc : ByteArray} {maxL nL mc ms n index : Nat} {ret : Option FieldType} {ws : List Cond} {rm : Room} {Pc : Array Value → State → Prop} {Qc : Array Value → State → Outcome → State → Prop} {XC : String → State → State → Prop} {free : Addr → Prop} {Ts : List Cond} {own C : String} {b : Addr} {As rest : List Value} {g : JFrame}
theorem vx_runVX {hh : List (Nat × Nat × Nat × Nat)} (S : CallFix p m c cc nL s args Ts own) (hM : vx_Met l y ws rm Pc Qc XC mc ms free) (cw : vx_CVW R s args own C index y bytes maxL ret hh ws rm mc ms n) (hp : PreV s H C b Pc As)
    (hg : g.method = m) (hn : As.length = n) (hsize : g.locals.size = nL) (hstack : g.stack = As.reverse ++ .ref b :: rest) (hW : 2 * g.monitorRoom + (rest.map fun v => v.category).sum ≤ 8) (hdg : decode cc g.pc = .ok (.invokevirtual index, 3)) (hf : cells + mc ≤ R.cells ∧ slots + ms ≤ R.slots) :
    vx_Run p l e R s m args below meth c H locs cells slots mc ms g rest (Qc (Value.ref b :: As).toArray) XC free := by
  obtain ⟨⟨hrc, hrs, hfr, hlo, hws, hcw⟩, hcode, hini, hy, hlen, hl, hin, hse⟩ := cw
  have hK : vx_Back l R p e below s args y 3 8 (PreOf R mc ms Pc) (PostOf Qc mc ms free) (vx_Post XC mc ms free) := vx_backW (hh := hh) (bytes := bytes) (maxL := maxL) (ret := ret) hM hp.1 hrc hrs hfr hlo hws hcw (fun a' U hW => word_at hW (Or.inl (by first | rfl | simp [Cond.onTables, Cond.keeps, Cond.steady])) hini)
  obtain ⟨hx, hb, hml, ho, -⟩ := S
  obtain ⟨-, ⟨cellB, hcB, hoB, hclB⟩, hPc⟩ := hp
  intro T hT X
  rcases vx_callVX X hx (C := C) (hh := hh) (bytes := bytes) (maxL := maxL) (ret := ret) ho hl hin hse hcode hy hK (by rw [hT]; exact hcB) hoB hclB hg (hsize.trans hml.symm) (argsL := As) (rest := rest) (fun sig h => hn.trans (hlen sig h)) hstack hW (by rw [hb]; exact hdg)
    (fun vm₁ hW₁ => ⟨hf.1, hf.2, hPc (T.setVm vm₁) hT hW₁⟩) with ⟨v, vm₁, ⟨U', l2, c2, s2⟩, hW₁, X', ⟨g', mk, t, L, e1, e2, hq, h1, hL, h2, h3⟩, st⟩ | ⟨q, vm₁, ⟨U', l2, c2, s2⟩, hW₁, X', ⟨g', mk, t, L, E, ce, e1, e2, hq, hce, hcv, hcl, h1, hL, h2, h3⟩, st⟩
  · dsimp only [Pt.U, Pt.locs, Pt.cells, Pt.slots] at X' e1 e2 h1 h2 h3 st
    subst h1; subst h2; subst h3
    exact Or.inl ⟨v, (T.setVm vm₁).calling g' mk (Value.ref b :: As).toArray, t, U', L, hT, X', hL, e1, e2, hq, st⟩
  · dsimp only [Pt.U, Pt.locs, Pt.cells, Pt.slots] at X' e1 e2 h1 h2 h3 st hcl
    subst h1; subst h2; subst h3
    exact Or.inr ⟨q, (T.setVm vm₁).calling g' mk (Value.ref b :: As).toArray, t, U', L, E, ce, hT, X', hL, e1, e2, hq, hce, hcv, vx_cls hW₁ hcl, st⟩
theorem vx_runSX {hh : List (Nat × Nat × Nat × Nat)} (S : CallFix p m c cc nL s args Ts own) (hM : vx_Met l y ws rm Pc Qc XC mc ms free) (cw : vx_CSW R s args own index y bytes maxL ret hh ws rm mc ms n) (hp : PreS s H Pc As)
    (hg : g.method = m) (hn : As.length = n) (hsize : g.locals.size = nL) (hstack : g.stack = As.reverse ++ rest) (hW : 2 * g.monitorRoom + (rest.map fun v => v.category).sum ≤ 8) (hdg : decode cc g.pc = .ok (.invokestatic index, 3)) (hf : cells + mc ≤ R.cells ∧ slots + ms ≤ R.slots) :
    vx_Run p l e R s m args below meth c H locs cells slots mc ms g rest (Qc As.toArray) XC free := by
  obtain ⟨⟨hrc, hrs, hfr, hlo, hws, hcw⟩, hcode, hini, hy, hlen, hl, hstt⟩ := cw
  have hK : vx_Back l R p e below s args y 3 8 (PreOf R mc ms Pc) (PostOf Qc mc ms free) (vx_Post XC mc ms free) := vx_backW (hh := hh) (bytes := bytes) (maxL := maxL) (ret := ret) hM hp.1 hrc hrs hfr hlo hws hcw (fun a' U hW => word_at hW (Or.inl (by first | rfl | simp [Cond.onTables, Cond.keeps, Cond.steady])) hini)
  obtain ⟨hx, hb, hml, ho, -⟩ := S
  intro T hT X
  rcases vx_callSX X hx (hh := hh) (bytes := bytes) (maxL := maxL) (ret := ret) ho hl hstt hini hcode hy hK hg (hsize.trans hml.symm) (argsL := As) (rest := rest) (fun sig h => hn.trans (hlen sig h)) hstack hW (by rw [hb]; exact hdg)
    (fun vm₁ hW₁ => ⟨hf.1, hf.2, hp.2 (T.setVm vm₁) hT hW₁⟩) with ⟨v, vm₁, ⟨U', l2, c2, s2⟩, hW₁, X', ⟨g', mk, t, L, e1, e2, hq, h1, hL, h2, h3⟩, st⟩ | ⟨q, vm₁, ⟨U', l2, c2, s2⟩, hW₁, X', ⟨g', mk, t, L, E, ce, e1, e2, hq, hce, hcv, hcl, h1, hL, h2, h3⟩, st⟩
  · dsimp only [Pt.U, Pt.locs, Pt.cells, Pt.slots] at X' e1 e2 h1 h2 h3 st
    subst h1; subst h2; subst h3
    exact Or.inl ⟨v, (T.setVm vm₁).calling g' mk As.toArray, t, U', L, hT, X', hL, e1, e2, hq, st⟩
  · dsimp only [Pt.U, Pt.locs, Pt.cells, Pt.slots] at X' e1 e2 h1 h2 h3 st hcl
    subst h1; subst h2; subst h3
    exact Or.inr ⟨q, (T.setVm vm₁).calling g' mk As.toArray, t, U', L, E, ce, hT, X', hL, e1, e2, hq, hce, hcv, vx_cls hW₁ hcl, st⟩
end
end VXH
theorem vx_ofWH {l : Launch} {y : MethodName} {ws ws' : List Cond} {rm : Room} {Pc : Array Value → State → Prop} {Qc : Array Value → State → Outcome → State → Prop} {XC : String → State → State → Prop} {mc ms : Nat} {free : Addr → Prop} {cc : ByteArray} {maxL : Nat} {ret : Option FieldType} {hh : List (Nat × Nat × Nat × Nat)}
    (hy : plainName y.cls = true) (hw : ws = Cond.codeWith y cc maxL ret hh :: ws')
    (body : ∀ p e s m args below meth c s₁, BodyLoose p l y (headSpec ws rm) cc maxL ret e s m args below meth c s₁ → c.maxLocals = maxL → Pc args s →
      W p l e (headSpec ws rm).room s m args below meth c s.heap [] 0 0 (vx_MQ below Qc XC args s mc ms free) (entryFrame m args maxL)) : vx_Met l y ws rm Pc Qc XC mc ms free := by
  refine MetFree.of_bodyS (code := cc) (maxLocals := maxL) (ret := ret) hy ?_ ?_
  · intro args s m h hn
    obtain ⟨m9, meth, c, hn9, h1, h2, h3, h4, -, h5, h6, -⟩ := Cond.codeWith_spec (atoms_spec (ws := ws) h _ (by rw [hw]; exact List.mem_cons_self))
    cases hn.symm.trans hn9
    exact ⟨meth, c, h1, h2, h3, h4, h5, h6⟩
  · intro p e s m args below meth c s₁ B hml hP _
    have hh0 : s₁.heap = s.heap := by rw [B.state]; rfl
    obtain ⟨t, a1, o, b1, b2, b3⟩ := body p e s m args below meth c s₁ B hml hP s₁ hh0 (Stand.of_body B)
    exact ⟨t, o, a1, b1, b2, b3⟩
/-! ===== END ===== -/
end
section
/-! names: classes, fields in the order of their slots, methods; the words that hold in every state -/
def RBa : String := "DutyLedger$Batch"
def TBa : u_T := fun k => match k with
  | 0 => ("DutyLedger$Batch", "valid", "I", true)
  | 1 => ("DutyLedger$Batch", "known", "I", true)
  | 2 => ("DutyLedger$Batch", "reverses", "I", true)
  | 3 => ("DutyLedger$Batch", "accounts", "[I", true)
  | 4 => ("DutyLedger$Batch", "cents", "[J", true)
  | 5 => ("DutyLedger$Batch", "size", "I", false)
  | 6 => ("DutyLedger$Batch", "state", "I", false)
  | 7 => ("DutyLedger$Batch", "reversedBy", "I", false)
  | _ => ("DutyLedger$Batch", "toldToFail", "Z", false)
def tyBa : Nat → FieldType := fun k => match k with
  | 0 => .int
  | 1 => .int
  | 2 => .int
  | 3 => (.array .int)
  | 4 => (.array .long)
  | 5 => .int
  | 6 => .int
  | 7 => .int
  | _ => .boolean
def RBk : String := "DutyLedger$Book"
def TBk : u_T := fun k => match k with
  | 0 => ("DutyLedger$Book", "batchNumbers", "[I", true)
  | 1 => ("DutyLedger$Book", "accounts", "[I", true)
  | 2 => ("DutyLedger$Book", "cents", "[J", true)
  | 3 => ("DutyLedger$Book", "validDays", "[I", true)
  | 4 => ("DutyLedger$Book", "knownDays", "[I", true)
  | 5 => ("DutyLedger$Book", "size", "I", false)
  | _ => ("DutyLedger$Book", "held", "I", false)
def tyBk : Nat → FieldType := fun k => match k with
  | 0 => (.array .int)
  | 1 => (.array .int)
  | 2 => (.array .long)
  | 3 => (.array .int)
  | 4 => (.array .int)
  | 5 => .int
  | _ => .int
def RSh : String := "DutyLedger$Shares"
def TSh : u_T := fun k => match k with
  | 0 => ("DutyLedger$Shares", "parts", "[I", true)
  | _ => ("DutyLedger$Shares", "costs", "[I", true)
def tySh : Nat → FieldType := fun k => match k with
  | 0 => (.array .int)
  | _ => (.array .int)
def RDu : String := "DutyLedger"
def TDu : u_T := fun k => match k with
  | 0 => ("DutyLedger", "kinds", "[I", true)
  | 1 => ("DutyLedger", "accountCount", "I", false)
  | 2 => ("DutyLedger", "batches", "[LDutyLedger$Batch;", true)
  | 3 => ("DutyLedger", "batchCount", "I", false)
  | 4 => ("DutyLedger", "book", "LDutyLedger$Book;", true)
  | 5 => ("DutyLedger", "shares", "LDutyLedger$Shares;", true)
  | 6 => ("DutyLedger", "closedDay", "I", false)
  | 7 => ("DutyLedger", "latestKnown", "I", false)
  | 8 => ("DutyLedger", "wrong", "I", false)
  | 9 => ("DutyLedger", "named", "I", false)
  | _ => ("DutyLedger", "failures", "I", false)
def tyDu : Nat → FieldType := fun k => match k with
  | 0 => (.array .int)
  | 1 => .int
  | 2 => (.array (.object "DutyLedger$Batch"))
  | 3 => .int
  | 4 => (.object "DutyLedger$Book")
  | 5 => (.object "DutyLedger$Shares")
  | 6 => .int
  | 7 => .int
  | 8 => .int
  | 9 => .int
  | _ => .int
def RMo : String := "DutyLedgerModel"
def TMo : u_T := fun k => match k with
  | 0 => ("DutyLedgerModel", "thrown", "I", false)
  | 1 => ("DutyLedgerModel", "accounts", "I", false)
  | 2 => ("DutyLedgerModel", "batches", "I", false)
  | 3 => ("DutyLedgerModel", "rows", "I", false)
  | 4 => ("DutyLedgerModel", "closed", "I", false)
  | 5 => ("DutyLedgerModel", "latest", "I", false)
  | 6 => ("DutyLedgerModel", "wrong", "I", false)
  | 7 => ("DutyLedgerModel", "named", "I", false)
  | 8 => ("DutyLedgerModel", "failures", "I", false)
  | 9 => ("DutyLedgerModel", "kindOf", "[I", true)
  | 10 => ("DutyLedgerModel", "stateOf", "[I", true)
  | 11 => ("DutyLedgerModel", "validOf", "[I", true)
  | 12 => ("DutyLedgerModel", "knownOf", "[I", true)
  | 13 => ("DutyLedgerModel", "reverses", "[I", true)
  | 14 => ("DutyLedgerModel", "reversedBy", "[I", true)
  | 15 => ("DutyLedgerModel", "toFail", "[Z", true)
  | 16 => ("DutyLedgerModel", "sizeOf", "[I", true)
  | 17 => ("DutyLedgerModel", "rowAccount", "[I", true)
  | 18 => ("DutyLedgerModel", "rowCents", "[J", true)
  | 19 => ("DutyLedgerModel", "ledger", "[I", true)
  | 20 => ("DutyLedgerModel", "parts", "[I", true)
  | _ => ("DutyLedgerModel", "costs", "[I", true)
def tyMo : Nat → FieldType := fun k => match k with
  | 0 => .int
  | 1 => .int
  | 2 => .int
  | 3 => .int
  | 4 => .int
  | 5 => .int
  | 6 => .int
  | 7 => .int
  | 8 => .int
  | 9 => (.array .int)
  | 10 => (.array .int)
  | 11 => (.array .int)
  | 12 => (.array .int)
  | 13 => (.array .int)
  | 14 => (.array .int)
  | 15 => (.array .boolean)
  | 16 => (.array .int)
  | 17 => (.array .int)
  | 18 => (.array .long)
  | 19 => (.array .int)
  | 20 => (.array .int)
  | _ => (.array .int)
def RLa : String := "DutyLedgerLaw"
abbrev vwCl : List vw_C := [(RBa, TBa, 9), (RBk, TBk, 7), (RSh, TSh, 2), (RDu, TDu, 11), (RMo, TMo, 22)]
abbrev bDu_init : ByteArray := prog_1_method_1_code
def yDu_init : MethodName := ⟨RDu, "<init>", "()V"⟩
abbrev bBk_init : ByteArray := prog_3_method_1_code
def yBk_init : MethodName := ⟨RBk, "<init>", "()V"⟩
abbrev bSh_init : ByteArray := prog_4_method_1_code
def ySh_init : MethodName := ⟨RSh, "<init>", "()V"⟩
abbrev bDu_row : ByteArray := prog_1_method_4_code
def yDu_row : MethodName := ⟨RDu, "row", "(IIJ)Z"⟩
abbrev bDu_batchThatIs : ByteArray := prog_1_method_25_code
def yDu_batchThatIs : MethodName := ⟨RDu, "batchThatIs", "(II)LDutyLedger$Batch;"⟩
abbrev bDu_batchAt : ByteArray := prog_1_method_24_code
def yDu_batchAt : MethodName := ⟨RDu, "batchAt", "(I)LDutyLedger$Batch;"⟩
abbrev bDu_isAccount : ByteArray := prog_1_method_23_code
def yDu_isAccount : MethodName := ⟨RDu, "isAccount", "(I)Z"⟩
abbrev bDu_canBeCents : ByteArray := prog_1_method_22_code
def yDu_canBeCents : MethodName := ⟨RDu, "canBeCents", "(J)Z"⟩
abbrev bBa_take : ByteArray := prog_2_method_2_code
def yBa_take : MethodName := ⟨RBa, "take", "(IJ)Z"⟩
abbrev bDu_fails : ByteArray := prog_1_method_5_code
def yDu_fails : MethodName := ⟨RDu, "fails", "(IZ)Z"⟩
abbrev bDu_close : ByteArray := prog_1_method_8_code
def yDu_close : MethodName := ⟨RDu, "close", "(I)Z"⟩
abbrev bDu_isDay : ByteArray := prog_1_method_18_code
def yDu_isDay : MethodName := ⟨RDu, "isDay", "(I)Z"⟩
abbrev bDu_part : ByteArray := prog_1_method_11_code
def yDu_part : MethodName := ⟨RDu, "part", "(III)Z"⟩
abbrev bDu_isKind : ByteArray := prog_1_method_20_code
def yDu_isKind : MethodName := ⟨RDu, "isKind", "(I)Z"⟩
abbrev bDu_isReceiver : ByteArray := prog_1_method_21_code
def yDu_isReceiver : MethodName := ⟨RDu, "isReceiver", "(I)Z"⟩
abbrev bSh_setPart : ByteArray := prog_4_method_2_code
def ySh_setPart : MethodName := ⟨RSh, "setPart", "(III)V"⟩
abbrev bDu_cost : ByteArray := prog_1_method_12_code
def yDu_cost : MethodName := ⟨RDu, "cost", "(II)Z"⟩
abbrev bSh_setCost : ByteArray := prog_4_method_3_code
def ySh_setCost : MethodName := ⟨RSh, "setCost", "(II)V"⟩
abbrev bDu_count : ByteArray := prog_1_method_17_code
def yDu_count : MethodName := ⟨RDu, "count", "(I)I"⟩
abbrev bLa_account : ByteArray := method_3_code
def yLa_account : MethodName := ⟨RLa, "account", "(LDutyLedger;I[J)I"⟩
abbrev bDu_account : ByteArray := prog_1_method_2_code
def yDu_account : MethodName := ⟨RDu, "account", "(I)I"⟩
abbrev bLa_batch : ByteArray := method_4_code
def yLa_batch : MethodName := ⟨RLa, "batch", "(LDutyLedger;II[J)I"⟩
abbrev bDu_batch : ByteArray := prog_1_method_3_code
def yDu_batch : MethodName := ⟨RDu, "batch", "(II)I"⟩
abbrev bBa_init : ByteArray := prog_2_method_1_code
def yBa_init : MethodName := ⟨RBa, "<init>", "(III)V"⟩
abbrev bDu_keep : ByteArray := prog_1_method_26_code
def yDu_keep : MethodName := ⟨RDu, "keep", "(LDutyLedger$Batch;)I"⟩
abbrev bLa_post : ByteArray := method_5_code
def yLa_post : MethodName := ⟨RLa, "post", "(LDutyLedger;I[J)I"⟩
abbrev bDu_post : ByteArray := prog_1_method_6_code
def yDu_post : MethodName := ⟨RDu, "post", "(I)I"⟩
abbrev bDu_whatIsWrongWith : ByteArray := prog_1_method_27_code
def yDu_whatIsWrongWith : MethodName := ⟨RDu, "whatIsWrongWith", "(LDutyLedger$Batch;)I"⟩
abbrev bBa_sum : ByteArray := prog_2_method_3_code
def yBa_sum : MethodName := ⟨RBa, "sum", "()J"⟩
abbrev bBk_hasRoomFor : ByteArray := prog_3_method_2_code
def yBk_hasRoomFor : MethodName := ⟨RBk, "hasRoomFor", "(I)Z"⟩
abbrev bDu_makeVoid : ByteArray := prog_1_method_28_code
def yDu_makeVoid : MethodName := ⟨RDu, "makeVoid", "(LDutyLedger$Batch;I)V"⟩
abbrev bDu_accountFarthestFromZero : ByteArray := prog_1_method_29_code
def yDu_accountFarthestFromZero : MethodName := ⟨RDu, "accountFarthestFromZero", "(LDutyLedger$Batch;)I"⟩
abbrev bBa_sumOf : ByteArray := prog_2_method_4_code
def yBa_sumOf : MethodName := ⟨RBa, "sumOf", "(I)J"⟩
abbrev bDu_failHalfway : ByteArray := prog_1_method_30_code
def yDu_failHalfway : MethodName := ⟨RDu, "failHalfway", "(ILDutyLedger$Batch;)V"⟩
abbrev bBk_bringIn : ByteArray := prog_3_method_3_code
def yBk_bringIn : MethodName := ⟨RBk, "bringIn", "(ILDutyLedger$Batch;I)V"⟩
abbrev bBk_takeHeldOut : ByteArray := prog_3_method_4_code
def yBk_takeHeldOut : MethodName := ⟨RBk, "takeHeldOut", "()V"⟩
abbrev bDu_enter : ByteArray := prog_1_method_31_code
def yDu_enter : MethodName := ⟨RDu, "enter", "(ILDutyLedger$Batch;)V"⟩
abbrev bBk_settleHeld : ByteArray := prog_3_method_5_code
def yBk_settleHeld : MethodName := ⟨RBk, "settleHeld", "()V"⟩
abbrev bLa_reverse : ByteArray := method_6_code
def yLa_reverse : MethodName := ⟨RLa, "reverse", "(LDutyLedger;II[J)I"⟩
abbrev bDu_reverse : ByteArray := prog_1_method_7_code
def yDu_reverse : MethodName := ⟨RDu, "reverse", "(II)I"⟩
abbrev bDu_reversalOf : ByteArray := prog_1_method_32_code
def yDu_reversalOf : MethodName := ⟨RDu, "reversalOf", "(ILDutyLedger$Batch;I)LDutyLedger$Batch;"⟩
abbrev bLa_balance : ByteArray := method_7_code
def yLa_balance : MethodName := ⟨RLa, "balance", "(LDutyLedger;III[J)I"⟩
abbrev bDu_balance : ByteArray := prog_1_method_9_code
def yDu_balance : MethodName := ⟨RDu, "balance", "(III)J"⟩
abbrev bBk_sum : ByteArray := prog_3_method_6_code
def yBk_sum : MethodName := ⟨RBk, "sum", "(IIII)J"⟩
abbrev bLa_statement : ByteArray := method_8_code
def yLa_statement : MethodName := ⟨RLa, "statement", "(LDutyLedger;III[J)I"⟩
abbrev bDu_statement : ByteArray := prog_1_method_10_code
def yDu_statement : MethodName := ⟨RDu, "statement", "(III)J"⟩
abbrev bDu_isMonth : ByteArray := prog_1_method_19_code
def yDu_isMonth : MethodName := ⟨RDu, "isMonth", "(I)Z"⟩
abbrev bLa_passed : ByteArray := method_9_code
def yLa_passed : MethodName := ⟨RLa, "passed", "(LDutyLedger;III[J)I"⟩
abbrev bDu_passed : ByteArray := prog_1_method_13_code
def yDu_passed : MethodName := ⟨RDu, "passed", "(III)J"⟩
abbrev bDu_collectedOf : ByteArray := prog_1_method_33_code
def yDu_collectedOf : MethodName := ⟨RDu, "collectedOf", "(II)J"⟩
abbrev bSh_costOf : ByteArray := prog_4_method_4_code
def ySh_costOf : MethodName := ⟨RSh, "costOf", "(IJ)J"⟩
abbrev bSh_allShares : ByteArray := prog_4_method_5_code
def ySh_allShares : MethodName := ⟨RSh, "allShares", "(IJ)J"⟩
abbrev bSh_shareOf : ByteArray := prog_4_method_6_code
def ySh_shareOf : MethodName := ⟨RSh, "shareOf", "(IIJ)J"⟩
abbrev bSh_allParts : ByteArray := prog_4_method_7_code
def ySh_allParts : MethodName := ⟨RSh, "allParts", "(I)I"⟩
abbrev bSh_wholeShare : ByteArray := prog_4_method_8_code
def ySh_wholeShare : MethodName := ⟨RSh, "wholeShare", "(IIJ)J"⟩
abbrev bSh_placeByRemainder : ByteArray := prog_4_method_11_code
def ySh_placeByRemainder : MethodName := ⟨RSh, "placeByRemainder", "(IIJ)I"⟩
abbrev bSh_remainder : ByteArray := prog_4_method_9_code
def ySh_remainder : MethodName := ⟨RSh, "remainder", "(IIJ)J"⟩
abbrev bSh_centsLeft : ByteArray := prog_4_method_10_code
def ySh_centsLeft : MethodName := ⟨RSh, "centsLeft", "(IJ)J"⟩
abbrev bLa_reconcile : ByteArray := method_10_code
def yLa_reconcile : MethodName := ⟨RLa, "reconcile", "(LDutyLedger;IIII[J)I"⟩
abbrev bDu_reconcile : ByteArray := prog_1_method_14_code
def yDu_reconcile : MethodName := ⟨RDu, "reconcile", "(IIII)J"⟩
abbrev bLa_read : ByteArray := method_11_code
def yLa_read : MethodName := ⟨RLa, "read", "(LDutyLedger;II[J)I"⟩
abbrev bDu_read : ByteArray := prog_1_method_15_code
def yDu_read : MethodName := ⟨RDu, "read", "(II)J"⟩
abbrev bLa_look : ByteArray := method_12_code
def yLa_look : MethodName := ⟨RLa, "look", "(LDutyLedger;II[J)I"⟩
abbrev bDu_look : ByteArray := prog_1_method_16_code
def yDu_look : MethodName := ⟨RDu, "look", "(II)I"⟩
abbrev bMo_init : ByteArray := prog_6_method_1_code
def yMo_init : MethodName := ⟨RMo, "<init>", "()V"⟩
abbrev bMo_thrown : ByteArray := prog_6_method_2_code
def yMo_thrown : MethodName := ⟨RMo, "thrown", "()I"⟩
abbrev bMo_account : ByteArray := prog_6_method_8_code
def yMo_account : MethodName := ⟨RMo, "account", "(I)I"⟩
abbrev bMo_isKind : ByteArray := prog_6_method_5_code
def yMo_isKind : MethodName := ⟨RMo, "isKind", "(I)Z"⟩
abbrev bMo_in : ByteArray := prog_6_method_3_code
def yMo_in : MethodName := ⟨RMo, "in", "(JJJ)Z"⟩
abbrev bMo_batch : ByteArray := prog_6_method_10_code
def yMo_batch : MethodName := ⟨RMo, "batch", "(II)I"⟩
abbrev bMo_isDay : ByteArray := prog_6_method_4_code
def yMo_isDay : MethodName := ⟨RMo, "isDay", "(I)Z"⟩
abbrev bMo_begin : ByteArray := prog_6_method_9_code
def yMo_begin : MethodName := ⟨RMo, "begin", "(III)V"⟩
abbrev bMo_row : ByteArray := prog_6_method_11_code
def yMo_row : MethodName := ⟨RMo, "row", "(IIJ)Z"⟩
abbrev bMo_isOpen : ByteArray := prog_6_method_7_code
def yMo_isOpen : MethodName := ⟨RMo, "isOpen", "(I)Z"⟩
abbrev bMo_isAccount : ByteArray := prog_6_method_6_code
def yMo_isAccount : MethodName := ⟨RMo, "isAccount", "(I)Z"⟩
abbrev bMo_fails : ByteArray := prog_6_method_12_code
def yMo_fails : MethodName := ⟨RMo, "fails", "(IZ)Z"⟩
abbrev bMo_post : ByteArray := prog_6_method_17_code
def yMo_post : MethodName := ⟨RMo, "post", "(I)I"⟩
abbrev bMo_wrongWith : ByteArray := prog_6_method_14_code
def yMo_wrongWith : MethodName := ⟨RMo, "wrongWith", "(I)I"⟩
abbrev bMo_sumIn : ByteArray := prog_6_method_13_code
def yMo_sumIn : MethodName := ⟨RMo, "sumIn", "(II)J"⟩
abbrev bMo_greatestIn : ByteArray := prog_6_method_16_code
def yMo_greatestIn : MethodName := ⟨RMo, "greatestIn", "(I)I"⟩
abbrev bMo_enter : ByteArray := prog_6_method_15_code
def yMo_enter : MethodName := ⟨RMo, "enter", "(I)V"⟩
abbrev bMo_reverse : ByteArray := prog_6_method_18_code
def yMo_reverse : MethodName := ⟨RMo, "reverse", "(II)I"⟩
abbrev bMo_close : ByteArray := prog_6_method_19_code
def yMo_close : MethodName := ⟨RMo, "close", "(I)Z"⟩
abbrev bMo_balance : ByteArray := prog_6_method_21_code
def yMo_balance : MethodName := ⟨RMo, "balance", "(III)J"⟩
abbrev bMo_sum : ByteArray := prog_6_method_20_code
def yMo_sum : MethodName := ⟨RMo, "sum", "(IIII)J"⟩
abbrev bMo_statement : ByteArray := prog_6_method_22_code
def yMo_statement : MethodName := ⟨RMo, "statement", "(III)J"⟩
abbrev bMo_part : ByteArray := prog_6_method_23_code
def yMo_part : MethodName := ⟨RMo, "part", "(III)Z"⟩
abbrev bMo_cost : ByteArray := prog_6_method_24_code
def yMo_cost : MethodName := ⟨RMo, "cost", "(II)Z"⟩
abbrev bMo_passed : ByteArray := prog_6_method_28_code
def yMo_passed : MethodName := ⟨RMo, "passed", "(III)J"⟩
abbrev bMo_sumOf : ByteArray := prog_6_method_26_code
def yMo_sumOf : MethodName := ⟨RMo, "sumOf", "(II)J"⟩
abbrev bMo_share : ByteArray := prog_6_method_27_code
def yMo_share : MethodName := ⟨RMo, "share", "(IIJ)J"⟩
abbrev bMo_partsOf : ByteArray := prog_6_method_25_code
def yMo_partsOf : MethodName := ⟨RMo, "partsOf", "(I)I"⟩
abbrev bMo_reconcile : ByteArray := prog_6_method_29_code
def yMo_reconcile : MethodName := ⟨RMo, "reconcile", "(IIII)J"⟩
abbrev bMo_read : ByteArray := prog_6_method_30_code
def yMo_read : MethodName := ⟨RMo, "read", "(II)J"⟩
abbrev bMo_look : ByteArray := prog_6_method_31_code
def yMo_look : MethodName := ⟨RMo, "look", "(II)I"⟩
abbrev bMo_count : ByteArray := prog_6_method_32_code
def yMo_count : MethodName := ⟨RMo, "count", "(I)I"⟩
abbrev bLa_law : ByteArray := code
def yLa_law : MethodName := ⟨RLa, "law", "([I)Z"⟩
/-- the words that hold in every state of the run -/
def zT : List Cond := lw_tbl.filter goodWord
theorem zT_in {w : Cond} {i : Nat} (h : lw_tbl[i]? = some w) (g : goodWord w = true) : w ∈ zT := List.mem_filter.mpr ⟨List.mem_of_getElem? h, g⟩
theorem zT_good {ws : List Cond} (h : ∀ w ∈ ws, w ∈ zT) : GoodIn zT ws := fun w hw => ⟨h w hw, good_of_word (List.mem_filter.mp (h w hw)).2⟩
theorem zw_0 : (Jvm.Cond.selects "DutyLedger" ({ cls := "DutyLedger", name := "batchThatIs", desc := "(II)LDutyLedger$Batch;" } : Jvm.MethodName) ({ cls := "DutyLedger", name := "batchThatIs", desc := "(II)LDutyLedger$Batch;" } : Jvm.MethodName)) ∈ zT := zT_in (i := 0) (by decide +kernel) (by decide +kernel)
theorem zw_1 : (Jvm.Cond.selects "DutyLedger" ({ cls := "DutyLedger", name := "batchAt", desc := "(I)LDutyLedger$Batch;" } : Jvm.MethodName) ({ cls := "DutyLedger", name := "batchAt", desc := "(I)LDutyLedger$Batch;" } : Jvm.MethodName)) ∈ zT := zT_in (i := 1) (by decide +kernel) (by decide +kernel)
theorem zw_2 : (Jvm.Cond.selects "DutyLedger" ({ cls := "DutyLedger", name := "isAccount", desc := "(I)Z" } : Jvm.MethodName) ({ cls := "DutyLedger", name := "isAccount", desc := "(I)Z" } : Jvm.MethodName)) ∈ zT := zT_in (i := 2) (by decide +kernel) (by decide +kernel)
theorem zw_3 : (Jvm.Cond.selects "java/lang/Throwable" ({ cls := "java/lang/Throwable", name := "fillInStackTrace", desc := "(I)Ljava/lang/Throwable;" } : Jvm.MethodName) ({ cls := "java/lang/Throwable", name := "fillInStackTrace", desc := "(I)Ljava/lang/Throwable;" } : Jvm.MethodName)) ∈ zT := zT_in (i := 3) (by decide +kernel) (by decide +kernel)
theorem zw_4 : (Jvm.Cond.selects "DutyLedger" ({ cls := "DutyLedger", name := "keep", desc := "(LDutyLedger$Batch;)I" } : Jvm.MethodName) ({ cls := "DutyLedger", name := "keep", desc := "(LDutyLedger$Batch;)I" } : Jvm.MethodName)) ∈ zT := zT_in (i := 4) (by decide +kernel) (by decide +kernel)
theorem zw_5 : (Jvm.Cond.selects "DutyLedger" ({ cls := "DutyLedger", name := "whatIsWrongWith", desc := "(LDutyLedger$Batch;)I" } : Jvm.MethodName) ({ cls := "DutyLedger", name := "whatIsWrongWith", desc := "(LDutyLedger$Batch;)I" } : Jvm.MethodName)) ∈ zT := zT_in (i := 5) (by decide +kernel) (by decide +kernel)
theorem zw_6 : (Jvm.Cond.selects "DutyLedger" ({ cls := "DutyLedger", name := "makeVoid", desc := "(LDutyLedger$Batch;I)V" } : Jvm.MethodName) ({ cls := "DutyLedger", name := "makeVoid", desc := "(LDutyLedger$Batch;I)V" } : Jvm.MethodName)) ∈ zT := zT_in (i := 6) (by decide +kernel) (by decide +kernel)
theorem zw_7 : (Jvm.Cond.selects "DutyLedger" ({ cls := "DutyLedger", name := "accountFarthestFromZero", desc := "(LDutyLedger$Batch;)I" } : Jvm.MethodName) ({ cls := "DutyLedger", name := "accountFarthestFromZero", desc := "(LDutyLedger$Batch;)I" } : Jvm.MethodName)) ∈ zT := zT_in (i := 7) (by decide +kernel) (by decide +kernel)
theorem zw_8 : (Jvm.Cond.selects "DutyLedger" ({ cls := "DutyLedger", name := "failHalfway", desc := "(ILDutyLedger$Batch;)V" } : Jvm.MethodName) ({ cls := "DutyLedger", name := "failHalfway", desc := "(ILDutyLedger$Batch;)V" } : Jvm.MethodName)) ∈ zT := zT_in (i := 8) (by decide +kernel) (by decide +kernel)
theorem zw_9 : (Jvm.Cond.selects "DutyLedger" ({ cls := "DutyLedger", name := "enter", desc := "(ILDutyLedger$Batch;)V" } : Jvm.MethodName) ({ cls := "DutyLedger", name := "enter", desc := "(ILDutyLedger$Batch;)V" } : Jvm.MethodName)) ∈ zT := zT_in (i := 9) (by decide +kernel) (by decide +kernel)
theorem zw_10 : (Jvm.Cond.selects "DutyLedger" ({ cls := "DutyLedger", name := "collectedOf", desc := "(II)J" } : Jvm.MethodName) ({ cls := "DutyLedger", name := "collectedOf", desc := "(II)J" } : Jvm.MethodName)) ∈ zT := zT_in (i := 10) (by decide +kernel) (by decide +kernel)
theorem zw_11 : (Jvm.Cond.selects "DutyLedger$Shares" ({ cls := "DutyLedger$Shares", name := "allParts", desc := "(I)I" } : Jvm.MethodName) ({ cls := "DutyLedger$Shares", name := "allParts", desc := "(I)I" } : Jvm.MethodName)) ∈ zT := zT_in (i := 11) (by decide +kernel) (by decide +kernel)
theorem zw_12 : (Jvm.Cond.selects "DutyLedger$Shares" ({ cls := "DutyLedger$Shares", name := "wholeShare", desc := "(IIJ)J" } : Jvm.MethodName) ({ cls := "DutyLedger$Shares", name := "wholeShare", desc := "(IIJ)J" } : Jvm.MethodName)) ∈ zT := zT_in (i := 12) (by decide +kernel) (by decide +kernel)
theorem zw_13 : (Jvm.Cond.selects "DutyLedger$Shares" ({ cls := "DutyLedger$Shares", name := "placeByRemainder", desc := "(IIJ)I" } : Jvm.MethodName) ({ cls := "DutyLedger$Shares", name := "placeByRemainder", desc := "(IIJ)I" } : Jvm.MethodName)) ∈ zT := zT_in (i := 13) (by decide +kernel) (by decide +kernel)
theorem zw_14 : (Jvm.Cond.selects "DutyLedger$Shares" ({ cls := "DutyLedger$Shares", name := "remainder", desc := "(IIJ)J" } : Jvm.MethodName) ({ cls := "DutyLedger$Shares", name := "remainder", desc := "(IIJ)J" } : Jvm.MethodName)) ∈ zT := zT_in (i := 14) (by decide +kernel) (by decide +kernel)
theorem zw_15 : (Jvm.Cond.selects "DutyLedger$Shares" ({ cls := "DutyLedger$Shares", name := "centsLeft", desc := "(IJ)J" } : Jvm.MethodName) ({ cls := "DutyLedger$Shares", name := "centsLeft", desc := "(IJ)J" } : Jvm.MethodName)) ∈ zT := zT_in (i := 15) (by decide +kernel) (by decide +kernel)
theorem zw_16 : (Jvm.Cond.selects "DutyLedgerModel" ({ cls := "DutyLedgerModel", name := "begin", desc := "(III)V" } : Jvm.MethodName) ({ cls := "DutyLedgerModel", name := "begin", desc := "(III)V" } : Jvm.MethodName)) ∈ zT := zT_in (i := 16) (by decide +kernel) (by decide +kernel)
theorem zw_17 : (Jvm.Cond.selects "DutyLedgerModel" ({ cls := "DutyLedgerModel", name := "isOpen", desc := "(I)Z" } : Jvm.MethodName) ({ cls := "DutyLedgerModel", name := "isOpen", desc := "(I)Z" } : Jvm.MethodName)) ∈ zT := zT_in (i := 17) (by decide +kernel) (by decide +kernel)
theorem zw_18 : (Jvm.Cond.selects "DutyLedgerModel" ({ cls := "DutyLedgerModel", name := "isAccount", desc := "(I)Z" } : Jvm.MethodName) ({ cls := "DutyLedgerModel", name := "isAccount", desc := "(I)Z" } : Jvm.MethodName)) ∈ zT := zT_in (i := 18) (by decide +kernel) (by decide +kernel)
theorem zw_19 : (Jvm.Cond.selects "DutyLedgerModel" ({ cls := "DutyLedgerModel", name := "wrongWith", desc := "(I)I" } : Jvm.MethodName) ({ cls := "DutyLedgerModel", name := "wrongWith", desc := "(I)I" } : Jvm.MethodName)) ∈ zT := zT_in (i := 19) (by decide +kernel) (by decide +kernel)
theorem zw_20 : (Jvm.Cond.selects "DutyLedgerModel" ({ cls := "DutyLedgerModel", name := "sumIn", desc := "(II)J" } : Jvm.MethodName) ({ cls := "DutyLedgerModel", name := "sumIn", desc := "(II)J" } : Jvm.MethodName)) ∈ zT := zT_in (i := 20) (by decide +kernel) (by decide +kernel)
theorem zw_21 : (Jvm.Cond.selects "DutyLedgerModel" ({ cls := "DutyLedgerModel", name := "greatestIn", desc := "(I)I" } : Jvm.MethodName) ({ cls := "DutyLedgerModel", name := "greatestIn", desc := "(I)I" } : Jvm.MethodName)) ∈ zT := zT_in (i := 21) (by decide +kernel) (by decide +kernel)
theorem zw_22 : (Jvm.Cond.selects "DutyLedgerModel" ({ cls := "DutyLedgerModel", name := "enter", desc := "(I)V" } : Jvm.MethodName) ({ cls := "DutyLedgerModel", name := "enter", desc := "(I)V" } : Jvm.MethodName)) ∈ zT := zT_in (i := 22) (by decide +kernel) (by decide +kernel)
theorem zw_23 : (Jvm.Cond.selects "DutyLedgerModel" ({ cls := "DutyLedgerModel", name := "sum", desc := "(IIII)J" } : Jvm.MethodName) ({ cls := "DutyLedgerModel", name := "sum", desc := "(IIII)J" } : Jvm.MethodName)) ∈ zT := zT_in (i := 23) (by decide +kernel) (by decide +kernel)
theorem zw_24 : (Jvm.Cond.selects "DutyLedgerModel" ({ cls := "DutyLedgerModel", name := "sumOf", desc := "(II)J" } : Jvm.MethodName) ({ cls := "DutyLedgerModel", name := "sumOf", desc := "(II)J" } : Jvm.MethodName)) ∈ zT := zT_in (i := 24) (by decide +kernel) (by decide +kernel)
theorem zw_25 : (Jvm.Cond.selects "DutyLedgerModel" ({ cls := "DutyLedgerModel", name := "share", desc := "(IIJ)J" } : Jvm.MethodName) ({ cls := "DutyLedgerModel", name := "share", desc := "(IIJ)J" } : Jvm.MethodName)) ∈ zT := zT_in (i := 25) (by decide +kernel) (by decide +kernel)
theorem zw_26 : (Jvm.Cond.selects "DutyLedgerModel" ({ cls := "DutyLedgerModel", name := "partsOf", desc := "(I)I" } : Jvm.MethodName) ({ cls := "DutyLedgerModel", name := "partsOf", desc := "(I)I" } : Jvm.MethodName)) ∈ zT := zT_in (i := 26) (by decide +kernel) (by decide +kernel)
theorem zw_27 : (Jvm.Cond.initialized "DutyLedgerLaw") ∈ zT := zT_in (i := 27) (by decide +kernel) (by decide +kernel)
theorem zw_28 : (Jvm.Cond.initialized "DutyLedger") ∈ zT := zT_in (i := 28) (by decide +kernel) (by decide +kernel)
theorem zw_29 : (Jvm.Cond.initialized "DutyLedger$Book") ∈ zT := zT_in (i := 29) (by decide +kernel) (by decide +kernel)
theorem zw_30 : (Jvm.Cond.initialized "DutyLedger$Shares") ∈ zT := zT_in (i := 30) (by decide +kernel) (by decide +kernel)
theorem zw_31 : (Jvm.Cond.initialized "DutyLedgerModel") ∈ zT := zT_in (i := 31) (by decide +kernel) (by decide +kernel)
theorem zw_32 : (Jvm.Cond.initialized "java/lang/Throwable") ∈ zT := zT_in (i := 32) (by decide +kernel) (by decide +kernel)
theorem zw_33 : (Jvm.Cond.initialized "java/lang/Exception") ∈ zT := zT_in (i := 33) (by decide +kernel) (by decide +kernel)
theorem zw_34 : (Jvm.Cond.initialized "java/lang/RuntimeException") ∈ zT := zT_in (i := 34) (by decide +kernel) (by decide +kernel)
theorem zw_35 : (Jvm.Cond.initialized "java/lang/IllegalArgumentException") ∈ zT := zT_in (i := 35) (by decide +kernel) (by decide +kernel)
theorem zw_36 : (Jvm.Cond.initialized "java/lang/IllegalStateException") ∈ zT := zT_in (i := 36) (by decide +kernel) (by decide +kernel)
theorem zw_37 : (Jvm.Cond.initialized "DutyLedger$Batch") ∈ zT := zT_in (i := 37) (by decide +kernel) (by decide +kernel)
theorem zw_38 : (Jvm.Cond.initialized "java/lang/Math") ∈ zT := zT_in (i := 38) (by decide +kernel) (by decide +kernel)
theorem zw_39 : (Jvm.Cond.initialized "java/lang/UnsupportedOperationException") ∈ zT := zT_in (i := 39) (by decide +kernel) (by decide +kernel)
theorem zw_40 : (Jvm.Cond.initialized "java/lang/IndexOutOfBoundsException") ∈ zT := zT_in (i := 40) (by decide +kernel) (by decide +kernel)
theorem zw_41 : (Jvm.Cond.classLink "DutyLedgerLaw" (8 : Nat) "DutyLedger") ∈ zT := zT_in (i := 41) (by decide +kernel) (by decide +kernel)
theorem zw_42 : (Jvm.Cond.instantiable "DutyLedger" (11 : Nat)) ∈ zT := zT_in (i := 42) (by decide +kernel) (by decide +kernel)
theorem zw_43 : (Jvm.Cond.methodLink "DutyLedgerLaw" (52 : Nat) ({ cls := "DutyLedger", name := "<init>", desc := "()V" } : Jvm.MethodName)) ∈ zT := zT_in (i := 43) (by decide +kernel) (by decide +kernel)
theorem zw_44 : (Jvm.Cond.instanceMethod ({ cls := "DutyLedger", name := "<init>", desc := "()V" } : Jvm.MethodName)) ∈ zT := zT_in (i := 44) (by decide +kernel) (by decide +kernel)
theorem zw_45 : (Jvm.Cond.code ({ cls := "DutyLedger", name := "<init>", desc := "()V" } : Jvm.MethodName) prog_1_method_1_code (1 : Nat) (Option.none : Option Jvm.ClassFile.FieldType)) ∈ zT := zT_in (i := 45) (by decide +kernel) (by decide +kernel)
theorem zw_46 : (Jvm.Cond.methodLink "DutyLedger" (1 : Nat) ({ cls := "java/lang/Object", name := "<init>", desc := "()V" } : Jvm.MethodName)) ∈ zT := zT_in (i := 46) (by decide +kernel) (by decide +kernel)
theorem zw_47 : (Jvm.Cond.instanceMethod ({ cls := "java/lang/Object", name := "<init>", desc := "()V" } : Jvm.MethodName)) ∈ zT := zT_in (i := 47) (by decide +kernel) (by decide +kernel)
theorem zw_48 : (Jvm.Cond.code ({ cls := "java/lang/Object", name := "<init>", desc := "()V" } : Jvm.MethodName) object_method_1_code (1 : Nat) (Option.none : Option Jvm.ClassFile.FieldType)) ∈ zT := zT_in (i := 48) (by decide +kernel) (by decide +kernel)
theorem zw_49 : (Jvm.Cond.classLink "DutyLedger" (17 : Nat) "DutyLedger$Batch") ∈ zT := zT_in (i := 49) (by decide +kernel) (by decide +kernel)
theorem zw_51 : (Jvm.Cond.classLink "DutyLedger" (26 : Nat) "DutyLedger$Book") ∈ zT := zT_in (i := 51) (by decide +kernel) (by decide +kernel)
theorem zw_52 : (Jvm.Cond.instantiable "DutyLedger$Book" (7 : Nat)) ∈ zT := zT_in (i := 52) (by decide +kernel) (by decide +kernel)
theorem zw_54 : (Jvm.Cond.instanceMethod ({ cls := "DutyLedger$Book", name := "<init>", desc := "()V" } : Jvm.MethodName)) ∈ zT := zT_in (i := 54) (by decide +kernel) (by decide +kernel)
theorem zw_55 : (Jvm.Cond.code ({ cls := "DutyLedger$Book", name := "<init>", desc := "()V" } : Jvm.MethodName) prog_3_method_1_code (1 : Nat) (Option.none : Option Jvm.ClassFile.FieldType)) ∈ zT := zT_in (i := 55) (by decide +kernel) (by decide +kernel)
theorem zw_56 : (Jvm.Cond.methodLink "DutyLedger$Book" (3 : Nat) ({ cls := "java/lang/Object", name := "<init>", desc := "()V" } : Jvm.MethodName)) ∈ zT := zT_in (i := 56) (by decide +kernel) (by decide +kernel)
theorem zw_57 : (Jvm.Cond.fieldLink "DutyLedger$Book" (9 : Nat) "DutyLedger$Book" "batchNumbers" "[I") ∈ zT := zT_in (i := 57) (by decide +kernel) (by decide +kernel)
theorem zw_58 : (Jvm.Cond.fieldLink "DutyLedger" (191 : Nat) "DutyLedger$Book" "batchNumbers" "[I") ∈ zT := zT_in (i := 58) (by decide +kernel) (by decide +kernel)
theorem zw_59 : (Jvm.Cond.fieldLink "DutyLedger$Book" (15 : Nat) "DutyLedger$Book" "accounts" "[I") ∈ zT := zT_in (i := 59) (by decide +kernel) (by decide +kernel)
theorem zw_60 : (Jvm.Cond.fieldLink "DutyLedger" (194 : Nat) "DutyLedger$Book" "accounts" "[I") ∈ zT := zT_in (i := 60) (by decide +kernel) (by decide +kernel)
theorem zw_61 : (Jvm.Cond.fieldLink "DutyLedger$Book" (18 : Nat) "DutyLedger$Book" "cents" "[J") ∈ zT := zT_in (i := 61) (by decide +kernel) (by decide +kernel)
theorem zw_62 : (Jvm.Cond.fieldLink "DutyLedger" (197 : Nat) "DutyLedger$Book" "cents" "[J") ∈ zT := zT_in (i := 62) (by decide +kernel) (by decide +kernel)
theorem zw_63 : (Jvm.Cond.fieldLink "DutyLedger$Book" (22 : Nat) "DutyLedger$Book" "validDays" "[I") ∈ zT := zT_in (i := 63) (by decide +kernel) (by decide +kernel)
theorem zw_64 : (Jvm.Cond.fieldLink "DutyLedger" (201 : Nat) "DutyLedger$Book" "validDays" "[I") ∈ zT := zT_in (i := 64) (by decide +kernel) (by decide +kernel)
theorem zw_65 : (Jvm.Cond.fieldLink "DutyLedger$Book" (25 : Nat) "DutyLedger$Book" "knownDays" "[I") ∈ zT := zT_in (i := 65) (by decide +kernel) (by decide +kernel)
theorem zw_66 : (Jvm.Cond.fieldLink "DutyLedger" (204 : Nat) "DutyLedger$Book" "knownDays" "[I") ∈ zT := zT_in (i := 66) (by decide +kernel) (by decide +kernel)
theorem zw_67 : (Jvm.Cond.fieldLink "DutyLedger$Book" (28 : Nat) "DutyLedger$Book" "size" "I") ∈ zT := zT_in (i := 67) (by decide +kernel) (by decide +kernel)
theorem zw_68 : (Jvm.Cond.fieldLink "DutyLedger" (183 : Nat) "DutyLedger$Book" "size" "I") ∈ zT := zT_in (i := 68) (by decide +kernel) (by decide +kernel)
theorem zw_69 : (Jvm.Cond.fieldLink "DutyLedger$Book" (32 : Nat) "DutyLedger$Book" "held" "I") ∈ zT := zT_in (i := 69) (by decide +kernel) (by decide +kernel)
theorem zw_70 : (Jvm.Cond.fieldLink "DutyLedger" (225 : Nat) "DutyLedger$Book" "held" "I") ∈ zT := zT_in (i := 70) (by decide +kernel) (by decide +kernel)
theorem zw_71 : (Jvm.Cond.laysFinal "DutyLedger$Book" "DutyLedger$Book" "batchNumbers" "[I") ∈ zT := zT_in (i := 71) (by decide +kernel) (by decide +kernel)
theorem zw_73 : (Jvm.Cond.laysFinal "DutyLedger$Book" "DutyLedger$Book" "accounts" "[I") ∈ zT := zT_in (i := 73) (by decide +kernel) (by decide +kernel)
theorem zw_75 : (Jvm.Cond.laysFinal "DutyLedger$Book" "DutyLedger$Book" "cents" "[J") ∈ zT := zT_in (i := 75) (by decide +kernel) (by decide +kernel)
theorem zw_77 : (Jvm.Cond.laysFinal "DutyLedger$Book" "DutyLedger$Book" "validDays" "[I") ∈ zT := zT_in (i := 77) (by decide +kernel) (by decide +kernel)
theorem zw_79 : (Jvm.Cond.laysFinal "DutyLedger$Book" "DutyLedger$Book" "knownDays" "[I") ∈ zT := zT_in (i := 79) (by decide +kernel) (by decide +kernel)
theorem zw_81 : (Jvm.Cond.lays "DutyLedger$Book" "DutyLedger$Book" "size" "I") ∈ zT := zT_in (i := 81) (by decide +kernel) (by decide +kernel)
theorem zw_83 : (Jvm.Cond.lays "DutyLedger$Book" "DutyLedger$Book" "held" "I") ∈ zT := zT_in (i := 83) (by decide +kernel) (by decide +kernel)
theorem zw_86 : (Jvm.Cond.arrayClass Jvm.ClassFile.FieldType.int) ∈ zT := zT_in (i := 86) (by decide +kernel) (by decide +kernel)
theorem zw_87 : (Jvm.Cond.arrayClass Jvm.ClassFile.FieldType.long) ∈ zT := zT_in (i := 87) (by decide +kernel) (by decide +kernel)
theorem zw_88 : (Jvm.Cond.classLink "DutyLedger" (33 : Nat) "DutyLedger$Shares") ∈ zT := zT_in (i := 88) (by decide +kernel) (by decide +kernel)
theorem zw_89 : (Jvm.Cond.instantiable "DutyLedger$Shares" (2 : Nat)) ∈ zT := zT_in (i := 89) (by decide +kernel) (by decide +kernel)
theorem zw_91 : (Jvm.Cond.instanceMethod ({ cls := "DutyLedger$Shares", name := "<init>", desc := "()V" } : Jvm.MethodName)) ∈ zT := zT_in (i := 91) (by decide +kernel) (by decide +kernel)
theorem zw_92 : (Jvm.Cond.code ({ cls := "DutyLedger$Shares", name := "<init>", desc := "()V" } : Jvm.MethodName) prog_4_method_1_code (1 : Nat) (Option.none : Option Jvm.ClassFile.FieldType)) ∈ zT := zT_in (i := 92) (by decide +kernel) (by decide +kernel)
theorem zw_93 : (Jvm.Cond.methodLink "DutyLedger$Shares" (3 : Nat) ({ cls := "java/lang/Object", name := "<init>", desc := "()V" } : Jvm.MethodName)) ∈ zT := zT_in (i := 93) (by decide +kernel) (by decide +kernel)
theorem zw_94 : (Jvm.Cond.fieldLink "DutyLedger$Shares" (9 : Nat) "DutyLedger$Shares" "parts" "[I") ∈ zT := zT_in (i := 94) (by decide +kernel) (by decide +kernel)
theorem zw_95 : (Jvm.Cond.fieldLink "DutyLedger$Shares" (15 : Nat) "DutyLedger$Shares" "costs" "[I") ∈ zT := zT_in (i := 95) (by decide +kernel) (by decide +kernel)
theorem zw_96 : (Jvm.Cond.laysFinal "DutyLedger$Shares" "DutyLedger$Shares" "parts" "[I") ∈ zT := zT_in (i := 96) (by decide +kernel) (by decide +kernel)
theorem zw_98 : (Jvm.Cond.laysFinal "DutyLedger$Shares" "DutyLedger$Shares" "costs" "[I") ∈ zT := zT_in (i := 98) (by decide +kernel) (by decide +kernel)
theorem zw_101 : (Jvm.Cond.fieldLink "DutyLedger" (9 : Nat) "DutyLedger" "kinds" "[I") ∈ zT := zT_in (i := 101) (by decide +kernel) (by decide +kernel)
theorem zw_102 : (Jvm.Cond.fieldLink "DutyLedger" (13 : Nat) "DutyLedger" "accountCount" "I") ∈ zT := zT_in (i := 102) (by decide +kernel) (by decide +kernel)
theorem zw_103 : (Jvm.Cond.fieldLink "DutyLedger" (19 : Nat) "DutyLedger" "batches" "[LDutyLedger$Batch;") ∈ zT := zT_in (i := 103) (by decide +kernel) (by decide +kernel)
theorem zw_104 : (Jvm.Cond.fieldLink "DutyLedger" (23 : Nat) "DutyLedger" "batchCount" "I") ∈ zT := zT_in (i := 104) (by decide +kernel) (by decide +kernel)
theorem zw_105 : (Jvm.Cond.fieldLink "DutyLedger" (29 : Nat) "DutyLedger" "book" "LDutyLedger$Book;") ∈ zT := zT_in (i := 105) (by decide +kernel) (by decide +kernel)
theorem zw_106 : (Jvm.Cond.fieldLink "DutyLedger" (36 : Nat) "DutyLedger" "shares" "LDutyLedger$Shares;") ∈ zT := zT_in (i := 106) (by decide +kernel) (by decide +kernel)
theorem zw_107 : (Jvm.Cond.fieldLink "DutyLedger" (40 : Nat) "DutyLedger" "closedDay" "I") ∈ zT := zT_in (i := 107) (by decide +kernel) (by decide +kernel)
theorem zw_108 : (Jvm.Cond.fieldLink "DutyLedger" (43 : Nat) "DutyLedger" "latestKnown" "I") ∈ zT := zT_in (i := 108) (by decide +kernel) (by decide +kernel)
theorem zw_109 : (Jvm.Cond.fieldLink "DutyLedger" (46 : Nat) "DutyLedger" "wrong" "I") ∈ zT := zT_in (i := 109) (by decide +kernel) (by decide +kernel)
theorem zw_110 : (Jvm.Cond.fieldLink "DutyLedger" (49 : Nat) "DutyLedger" "named" "I") ∈ zT := zT_in (i := 110) (by decide +kernel) (by decide +kernel)
theorem zw_111 : (Jvm.Cond.fieldLink "DutyLedger" (52 : Nat) "DutyLedger" "failures" "I") ∈ zT := zT_in (i := 111) (by decide +kernel) (by decide +kernel)
theorem zw_112 : (Jvm.Cond.laysFinal "DutyLedger" "DutyLedger" "kinds" "[I") ∈ zT := zT_in (i := 112) (by decide +kernel) (by decide +kernel)
theorem zw_114 : (Jvm.Cond.lays "DutyLedger" "DutyLedger" "accountCount" "I") ∈ zT := zT_in (i := 114) (by decide +kernel) (by decide +kernel)
theorem zw_116 : (Jvm.Cond.laysFinal "DutyLedger" "DutyLedger" "batches" "[LDutyLedger$Batch;") ∈ zT := zT_in (i := 116) (by decide +kernel) (by decide +kernel)
theorem zw_118 : (Jvm.Cond.lays "DutyLedger" "DutyLedger" "batchCount" "I") ∈ zT := zT_in (i := 118) (by decide +kernel) (by decide +kernel)
theorem zw_120 : (Jvm.Cond.laysFinal "DutyLedger" "DutyLedger" "book" "LDutyLedger$Book;") ∈ zT := zT_in (i := 120) (by decide +kernel) (by decide +kernel)
theorem zw_122 : (Jvm.Cond.laysFinal "DutyLedger" "DutyLedger" "shares" "LDutyLedger$Shares;") ∈ zT := zT_in (i := 122) (by decide +kernel) (by decide +kernel)
theorem zw_124 : (Jvm.Cond.lays "DutyLedger" "DutyLedger" "closedDay" "I") ∈ zT := zT_in (i := 124) (by decide +kernel) (by decide +kernel)
theorem zw_126 : (Jvm.Cond.lays "DutyLedger" "DutyLedger" "latestKnown" "I") ∈ zT := zT_in (i := 126) (by decide +kernel) (by decide +kernel)
theorem zw_128 : (Jvm.Cond.lays "DutyLedger" "DutyLedger" "wrong" "I") ∈ zT := zT_in (i := 128) (by decide +kernel) (by decide +kernel)
theorem zw_130 : (Jvm.Cond.lays "DutyLedger" "DutyLedger" "named" "I") ∈ zT := zT_in (i := 130) (by decide +kernel) (by decide +kernel)
theorem zw_132 : (Jvm.Cond.lays "DutyLedger" "DutyLedger" "failures" "I") ∈ zT := zT_in (i := 132) (by decide +kernel) (by decide +kernel)
theorem zw_135 : (Jvm.Cond.methodLink "DutyLedgerLaw" (72 : Nat) ({ cls := "DutyLedger", name := "row", desc := "(IIJ)Z" } : Jvm.MethodName)) ∈ zT := zT_in (i := 135) (by decide +kernel) (by decide +kernel)
theorem zw_136 : (Jvm.Cond.instanceMethod ({ cls := "DutyLedger", name := "row", desc := "(IIJ)Z" } : Jvm.MethodName)) ∈ zT := zT_in (i := 136) (by decide +kernel) (by decide +kernel)
theorem zw_137 : (Jvm.Cond.selects "DutyLedger" ({ cls := "DutyLedger", name := "row", desc := "(IIJ)Z" } : Jvm.MethodName) ({ cls := "DutyLedger", name := "row", desc := "(IIJ)Z" } : Jvm.MethodName)) ∈ zT := zT_in (i := 137) (by decide +kernel) (by decide +kernel)
theorem zw_138 : (Jvm.Cond.code ({ cls := "DutyLedger", name := "row", desc := "(IIJ)Z" } : Jvm.MethodName) prog_1_method_4_code (6 : Nat) (Option.some Jvm.ClassFile.FieldType.boolean)) ∈ zT := zT_in (i := 138) (by decide +kernel) (by decide +kernel)
theorem zw_139 : (Jvm.Cond.methodLink "DutyLedger" (85 : Nat) ({ cls := "DutyLedger", name := "batchThatIs", desc := "(II)LDutyLedger$Batch;" } : Jvm.MethodName)) ∈ zT := zT_in (i := 139) (by decide +kernel) (by decide +kernel)
theorem zw_141 : (Jvm.Cond.instanceMethod ({ cls := "DutyLedger", name := "batchThatIs", desc := "(II)LDutyLedger$Batch;" } : Jvm.MethodName)) ∈ zT := zT_in (i := 141) (by decide +kernel) (by decide +kernel)
theorem zw_142 : (Jvm.Cond.code ({ cls := "DutyLedger", name := "batchThatIs", desc := "(II)LDutyLedger$Batch;" } : Jvm.MethodName) prog_1_method_25_code (4 : Nat) (Option.some (Jvm.ClassFile.FieldType.object "DutyLedger$Batch"))) ∈ zT := zT_in (i := 142) (by decide +kernel) (by decide +kernel)
theorem zw_143 : (Jvm.Cond.methodLink "DutyLedger" (209 : Nat) ({ cls := "DutyLedger", name := "batchAt", desc := "(I)LDutyLedger$Batch;" } : Jvm.MethodName)) ∈ zT := zT_in (i := 143) (by decide +kernel) (by decide +kernel)
theorem zw_145 : (Jvm.Cond.instanceMethod ({ cls := "DutyLedger", name := "batchAt", desc := "(I)LDutyLedger$Batch;" } : Jvm.MethodName)) ∈ zT := zT_in (i := 145) (by decide +kernel) (by decide +kernel)
theorem zw_146 : (Jvm.Cond.code ({ cls := "DutyLedger", name := "batchAt", desc := "(I)LDutyLedger$Batch;" } : Jvm.MethodName) prog_1_method_24_code (2 : Nat) (Option.some (Jvm.ClassFile.FieldType.object "DutyLedger$Batch"))) ∈ zT := zT_in (i := 146) (by decide +kernel) (by decide +kernel)
theorem zw_147 : (Jvm.Cond.methodLink "DutyLedger" (89 : Nat) ({ cls := "DutyLedger", name := "isAccount", desc := "(I)Z" } : Jvm.MethodName)) ∈ zT := zT_in (i := 147) (by decide +kernel) (by decide +kernel)
theorem zw_149 : (Jvm.Cond.instanceMethod ({ cls := "DutyLedger", name := "isAccount", desc := "(I)Z" } : Jvm.MethodName)) ∈ zT := zT_in (i := 149) (by decide +kernel) (by decide +kernel)
theorem zw_150 : (Jvm.Cond.code ({ cls := "DutyLedger", name := "isAccount", desc := "(I)Z" } : Jvm.MethodName) prog_1_method_23_code (2 : Nat) (Option.some Jvm.ClassFile.FieldType.boolean)) ∈ zT := zT_in (i := 150) (by decide +kernel) (by decide +kernel)
theorem zw_151 : (Jvm.Cond.methodLink "DutyLedger" (92 : Nat) ({ cls := "DutyLedger", name := "canBeCents", desc := "(J)Z" } : Jvm.MethodName)) ∈ zT := zT_in (i := 151) (by decide +kernel) (by decide +kernel)
theorem zw_152 : (Jvm.Cond.static ({ cls := "DutyLedger", name := "canBeCents", desc := "(J)Z" } : Jvm.MethodName)) ∈ zT := zT_in (i := 152) (by decide +kernel) (by decide +kernel)
theorem zw_153 : (Jvm.Cond.code ({ cls := "DutyLedger", name := "canBeCents", desc := "(J)Z" } : Jvm.MethodName) prog_1_method_22_code (2 : Nat) (Option.some Jvm.ClassFile.FieldType.boolean)) ∈ zT := zT_in (i := 153) (by decide +kernel) (by decide +kernel)
theorem zw_154 : (Jvm.Cond.constantLong "DutyLedger" (229 : Nat) (-1000000000 : Int64)) ∈ zT := zT_in (i := 154) (by decide +kernel) (by decide +kernel)
theorem zw_155 : (Jvm.Cond.constantLong "DutyLedger" (231 : Nat) (1000000000 : Int64)) ∈ zT := zT_in (i := 155) (by decide +kernel) (by decide +kernel)
theorem zw_156 : (Jvm.Cond.methodLink "DutyLedger" (96 : Nat) ({ cls := "DutyLedger$Batch", name := "take", desc := "(IJ)Z" } : Jvm.MethodName)) ∈ zT := zT_in (i := 156) (by decide +kernel) (by decide +kernel)
theorem zw_157 : (Jvm.Cond.instanceMethod ({ cls := "DutyLedger$Batch", name := "take", desc := "(IJ)Z" } : Jvm.MethodName)) ∈ zT := zT_in (i := 157) (by decide +kernel) (by decide +kernel)
theorem zw_158 : (Jvm.Cond.selects "DutyLedger$Batch" ({ cls := "DutyLedger$Batch", name := "take", desc := "(IJ)Z" } : Jvm.MethodName) ({ cls := "DutyLedger$Batch", name := "take", desc := "(IJ)Z" } : Jvm.MethodName)) ∈ zT := zT_in (i := 158) (by decide +kernel) (by decide +kernel)
theorem zw_159 : (Jvm.Cond.code ({ cls := "DutyLedger$Batch", name := "take", desc := "(IJ)Z" } : Jvm.MethodName) prog_2_method_2_code (4 : Nat) (Option.some Jvm.ClassFile.FieldType.boolean)) ∈ zT := zT_in (i := 159) (by decide +kernel) (by decide +kernel)
theorem zw_160 : (Jvm.Cond.methodLink "DutyLedgerLaw" (77 : Nat) ({ cls := "DutyLedger", name := "fails", desc := "(IZ)Z" } : Jvm.MethodName)) ∈ zT := zT_in (i := 160) (by decide +kernel) (by decide +kernel)
theorem zw_161 : (Jvm.Cond.instanceMethod ({ cls := "DutyLedger", name := "fails", desc := "(IZ)Z" } : Jvm.MethodName)) ∈ zT := zT_in (i := 161) (by decide +kernel) (by decide +kernel)
theorem zw_162 : (Jvm.Cond.selects "DutyLedger" ({ cls := "DutyLedger", name := "fails", desc := "(IZ)Z" } : Jvm.MethodName) ({ cls := "DutyLedger", name := "fails", desc := "(IZ)Z" } : Jvm.MethodName)) ∈ zT := zT_in (i := 162) (by decide +kernel) (by decide +kernel)
theorem zw_163 : (Jvm.Cond.code ({ cls := "DutyLedger", name := "fails", desc := "(IZ)Z" } : Jvm.MethodName) prog_1_method_5_code (4 : Nat) (Option.some Jvm.ClassFile.FieldType.boolean)) ∈ zT := zT_in (i := 163) (by decide +kernel) (by decide +kernel)
theorem zw_164 : (Jvm.Cond.methodLink "DutyLedgerLaw" (88 : Nat) ({ cls := "DutyLedger", name := "close", desc := "(I)Z" } : Jvm.MethodName)) ∈ zT := zT_in (i := 164) (by decide +kernel) (by decide +kernel)
theorem zw_165 : (Jvm.Cond.instanceMethod ({ cls := "DutyLedger", name := "close", desc := "(I)Z" } : Jvm.MethodName)) ∈ zT := zT_in (i := 165) (by decide +kernel) (by decide +kernel)
theorem zw_166 : (Jvm.Cond.selects "DutyLedger" ({ cls := "DutyLedger", name := "close", desc := "(I)Z" } : Jvm.MethodName) ({ cls := "DutyLedger", name := "close", desc := "(I)Z" } : Jvm.MethodName)) ∈ zT := zT_in (i := 166) (by decide +kernel) (by decide +kernel)
theorem zw_167 : (Jvm.Cond.code ({ cls := "DutyLedger", name := "close", desc := "(I)Z" } : Jvm.MethodName) prog_1_method_8_code (2 : Nat) (Option.some Jvm.ClassFile.FieldType.boolean)) ∈ zT := zT_in (i := 167) (by decide +kernel) (by decide +kernel)
theorem zw_168 : (Jvm.Cond.methodLink "DutyLedger" (71 : Nat) ({ cls := "DutyLedger", name := "isDay", desc := "(I)Z" } : Jvm.MethodName)) ∈ zT := zT_in (i := 168) (by decide +kernel) (by decide +kernel)
theorem zw_169 : (Jvm.Cond.static ({ cls := "DutyLedger", name := "isDay", desc := "(I)Z" } : Jvm.MethodName)) ∈ zT := zT_in (i := 169) (by decide +kernel) (by decide +kernel)
theorem zw_170 : (Jvm.Cond.code ({ cls := "DutyLedger", name := "isDay", desc := "(I)Z" } : Jvm.MethodName) prog_1_method_18_code (1 : Nat) (Option.some Jvm.ClassFile.FieldType.boolean)) ∈ zT := zT_in (i := 170) (by decide +kernel) (by decide +kernel)
theorem zw_171 : (Jvm.Cond.constant "DutyLedger" (228 : Nat) (100000 : Int32)) ∈ zT := zT_in (i := 171) (by decide +kernel) (by decide +kernel)
theorem zw_172 : (Jvm.Cond.methodLink "DutyLedgerLaw" (100 : Nat) ({ cls := "DutyLedger", name := "part", desc := "(III)Z" } : Jvm.MethodName)) ∈ zT := zT_in (i := 172) (by decide +kernel) (by decide +kernel)
theorem zw_173 : (Jvm.Cond.instanceMethod ({ cls := "DutyLedger", name := "part", desc := "(III)Z" } : Jvm.MethodName)) ∈ zT := zT_in (i := 173) (by decide +kernel) (by decide +kernel)
theorem zw_174 : (Jvm.Cond.selects "DutyLedger" ({ cls := "DutyLedger", name := "part", desc := "(III)Z" } : Jvm.MethodName) ({ cls := "DutyLedger", name := "part", desc := "(III)Z" } : Jvm.MethodName)) ∈ zT := zT_in (i := 174) (by decide +kernel) (by decide +kernel)
theorem zw_175 : (Jvm.Cond.code ({ cls := "DutyLedger", name := "part", desc := "(III)Z" } : Jvm.MethodName) prog_1_method_11_code (4 : Nat) (Option.some Jvm.ClassFile.FieldType.boolean)) ∈ zT := zT_in (i := 175) (by decide +kernel) (by decide +kernel)
theorem zw_176 : (Jvm.Cond.methodLink "DutyLedger" (55 : Nat) ({ cls := "DutyLedger", name := "isKind", desc := "(I)Z" } : Jvm.MethodName)) ∈ zT := zT_in (i := 176) (by decide +kernel) (by decide +kernel)
theorem zw_177 : (Jvm.Cond.static ({ cls := "DutyLedger", name := "isKind", desc := "(I)Z" } : Jvm.MethodName)) ∈ zT := zT_in (i := 177) (by decide +kernel) (by decide +kernel)
theorem zw_178 : (Jvm.Cond.code ({ cls := "DutyLedger", name := "isKind", desc := "(I)Z" } : Jvm.MethodName) prog_1_method_20_code (1 : Nat) (Option.some Jvm.ClassFile.FieldType.boolean)) ∈ zT := zT_in (i := 178) (by decide +kernel) (by decide +kernel)
theorem zw_179 : (Jvm.Cond.methodLink "DutyLedger" (154 : Nat) ({ cls := "DutyLedger", name := "isReceiver", desc := "(I)Z" } : Jvm.MethodName)) ∈ zT := zT_in (i := 179) (by decide +kernel) (by decide +kernel)
theorem zw_180 : (Jvm.Cond.static ({ cls := "DutyLedger", name := "isReceiver", desc := "(I)Z" } : Jvm.MethodName)) ∈ zT := zT_in (i := 180) (by decide +kernel) (by decide +kernel)
theorem zw_181 : (Jvm.Cond.code ({ cls := "DutyLedger", name := "isReceiver", desc := "(I)Z" } : Jvm.MethodName) prog_1_method_21_code (1 : Nat) (Option.some Jvm.ClassFile.FieldType.boolean)) ∈ zT := zT_in (i := 181) (by decide +kernel) (by decide +kernel)
theorem zw_182 : (Jvm.Cond.methodLink "DutyLedger" (157 : Nat) ({ cls := "DutyLedger$Shares", name := "setPart", desc := "(III)V" } : Jvm.MethodName)) ∈ zT := zT_in (i := 182) (by decide +kernel) (by decide +kernel)
theorem zw_183 : (Jvm.Cond.instanceMethod ({ cls := "DutyLedger$Shares", name := "setPart", desc := "(III)V" } : Jvm.MethodName)) ∈ zT := zT_in (i := 183) (by decide +kernel) (by decide +kernel)
theorem zw_184 : (Jvm.Cond.selects "DutyLedger$Shares" ({ cls := "DutyLedger$Shares", name := "setPart", desc := "(III)V" } : Jvm.MethodName) ({ cls := "DutyLedger$Shares", name := "setPart", desc := "(III)V" } : Jvm.MethodName)) ∈ zT := zT_in (i := 184) (by decide +kernel) (by decide +kernel)
theorem zw_185 : (Jvm.Cond.code ({ cls := "DutyLedger$Shares", name := "setPart", desc := "(III)V" } : Jvm.MethodName) prog_4_method_2_code (4 : Nat) (Option.none : Option Jvm.ClassFile.FieldType)) ∈ zT := zT_in (i := 185) (by decide +kernel) (by decide +kernel)
theorem zw_186 : (Jvm.Cond.methodLink "DutyLedgerLaw" (105 : Nat) ({ cls := "DutyLedger", name := "cost", desc := "(II)Z" } : Jvm.MethodName)) ∈ zT := zT_in (i := 186) (by decide +kernel) (by decide +kernel)
theorem zw_187 : (Jvm.Cond.instanceMethod ({ cls := "DutyLedger", name := "cost", desc := "(II)Z" } : Jvm.MethodName)) ∈ zT := zT_in (i := 187) (by decide +kernel) (by decide +kernel)
theorem zw_188 : (Jvm.Cond.selects "DutyLedger" ({ cls := "DutyLedger", name := "cost", desc := "(II)Z" } : Jvm.MethodName) ({ cls := "DutyLedger", name := "cost", desc := "(II)Z" } : Jvm.MethodName)) ∈ zT := zT_in (i := 188) (by decide +kernel) (by decide +kernel)
theorem zw_189 : (Jvm.Cond.code ({ cls := "DutyLedger", name := "cost", desc := "(II)Z" } : Jvm.MethodName) prog_1_method_12_code (3 : Nat) (Option.some Jvm.ClassFile.FieldType.boolean)) ∈ zT := zT_in (i := 189) (by decide +kernel) (by decide +kernel)
theorem zw_190 : (Jvm.Cond.methodLink "DutyLedger" (160 : Nat) ({ cls := "DutyLedger$Shares", name := "setCost", desc := "(II)V" } : Jvm.MethodName)) ∈ zT := zT_in (i := 190) (by decide +kernel) (by decide +kernel)
theorem zw_191 : (Jvm.Cond.instanceMethod ({ cls := "DutyLedger$Shares", name := "setCost", desc := "(II)V" } : Jvm.MethodName)) ∈ zT := zT_in (i := 191) (by decide +kernel) (by decide +kernel)
theorem zw_192 : (Jvm.Cond.selects "DutyLedger$Shares" ({ cls := "DutyLedger$Shares", name := "setCost", desc := "(II)V" } : Jvm.MethodName) ({ cls := "DutyLedger$Shares", name := "setCost", desc := "(II)V" } : Jvm.MethodName)) ∈ zT := zT_in (i := 192) (by decide +kernel) (by decide +kernel)
theorem zw_193 : (Jvm.Cond.code ({ cls := "DutyLedger$Shares", name := "setCost", desc := "(II)V" } : Jvm.MethodName) prog_4_method_3_code (3 : Nat) (Option.none : Option Jvm.ClassFile.FieldType)) ∈ zT := zT_in (i := 193) (by decide +kernel) (by decide +kernel)
theorem zw_194 : (Jvm.Cond.methodLink "DutyLedgerLaw" (123 : Nat) ({ cls := "DutyLedger", name := "count", desc := "(I)I" } : Jvm.MethodName)) ∈ zT := zT_in (i := 194) (by decide +kernel) (by decide +kernel)
theorem zw_195 : (Jvm.Cond.instanceMethod ({ cls := "DutyLedger", name := "count", desc := "(I)I" } : Jvm.MethodName)) ∈ zT := zT_in (i := 195) (by decide +kernel) (by decide +kernel)
theorem zw_196 : (Jvm.Cond.selects "DutyLedger" ({ cls := "DutyLedger", name := "count", desc := "(I)I" } : Jvm.MethodName) ({ cls := "DutyLedger", name := "count", desc := "(I)I" } : Jvm.MethodName)) ∈ zT := zT_in (i := 196) (by decide +kernel) (by decide +kernel)
theorem zw_197 : (Jvm.Cond.code ({ cls := "DutyLedger", name := "count", desc := "(I)I" } : Jvm.MethodName) prog_1_method_17_code (2 : Nat) (Option.some Jvm.ClassFile.FieldType.int)) ∈ zT := zT_in (i := 197) (by decide +kernel) (by decide +kernel)
theorem zw_198 : (Jvm.Cond.methodLink "DutyLedgerLaw" (56 : Nat) ({ cls := "DutyLedgerLaw", name := "account", desc := "(LDutyLedger;I[J)I" } : Jvm.MethodName)) ∈ zT := zT_in (i := 198) (by decide +kernel) (by decide +kernel)
theorem zw_199 : (Jvm.Cond.static ({ cls := "DutyLedgerLaw", name := "account", desc := "(LDutyLedger;I[J)I" } : Jvm.MethodName)) ∈ zT := zT_in (i := 199) (by decide +kernel) (by decide +kernel)
theorem zw_200 : (Jvm.Cond.codeWith ({ cls := "DutyLedgerLaw", name := "account", desc := "(LDutyLedger;I[J)I" } : Jvm.MethodName) method_3_code (4 : Nat) (Option.some Jvm.ClassFile.FieldType.int) [((0 : Nat), (9 : Nat), (12 : Nat), (13 : Nat)), ((0 : Nat), (9 : Nat), (15 : Nat), (15 : Nat))]) ∈ zT := zT_in (i := 200) (by decide +kernel) (by decide +kernel)
theorem zw_201 : (Jvm.Cond.classLink "DutyLedgerLaw" (13 : Nat) "java/lang/IllegalArgumentException") ∈ zT := zT_in (i := 201) (by decide +kernel) (by decide +kernel)
theorem zw_202 : (Jvm.Cond.classLink "DutyLedgerLaw" (15 : Nat) "java/lang/IllegalStateException") ∈ zT := zT_in (i := 202) (by decide +kernel) (by decide +kernel)
theorem zw_203 : (Jvm.Cond.methodLink "DutyLedgerLaw" (7 : Nat) ({ cls := "DutyLedger", name := "account", desc := "(I)I" } : Jvm.MethodName)) ∈ zT := zT_in (i := 203) (by decide +kernel) (by decide +kernel)
theorem zw_204 : (Jvm.Cond.instanceMethod ({ cls := "DutyLedger", name := "account", desc := "(I)I" } : Jvm.MethodName)) ∈ zT := zT_in (i := 204) (by decide +kernel) (by decide +kernel)
theorem zw_205 : (Jvm.Cond.selects "DutyLedger" ({ cls := "DutyLedger", name := "account", desc := "(I)I" } : Jvm.MethodName) ({ cls := "DutyLedger", name := "account", desc := "(I)I" } : Jvm.MethodName)) ∈ zT := zT_in (i := 205) (by decide +kernel) (by decide +kernel)
theorem zw_206 : (Jvm.Cond.code ({ cls := "DutyLedger", name := "account", desc := "(I)I" } : Jvm.MethodName) prog_1_method_2_code (2 : Nat) (Option.some Jvm.ClassFile.FieldType.int)) ∈ zT := zT_in (i := 206) (by decide +kernel) (by decide +kernel)
theorem zw_207 : (Jvm.Cond.classLink "DutyLedger" (59 : Nat) "java/lang/IllegalArgumentException") ∈ zT := zT_in (i := 207) (by decide +kernel) (by decide +kernel)
theorem zw_208 : (Jvm.Cond.instantiable "java/lang/IllegalArgumentException" (6 : Nat)) ∈ zT := zT_in (i := 208) (by decide +kernel) (by decide +kernel)
theorem zw_216 : (Jvm.Cond.selects "java/lang/IllegalArgumentException" ({ cls := "java/lang/Throwable", name := "fillInStackTrace", desc := "(I)Ljava/lang/Throwable;" } : Jvm.MethodName) ({ cls := "java/lang/Throwable", name := "fillInStackTrace", desc := "(I)Ljava/lang/Throwable;" } : Jvm.MethodName)) ∈ zT := zT_in (i := 216) (by decide +kernel) (by decide +kernel)
theorem zw_217 : (Jvm.Cond.selects "java/lang/IllegalArgumentException" ({ cls := "java/lang/Throwable", name := "fillInStackTrace", desc := "()Ljava/lang/Throwable;" } : Jvm.MethodName) ({ cls := "java/lang/Throwable", name := "fillInStackTrace", desc := "()Ljava/lang/Throwable;" } : Jvm.MethodName)) ∈ zT := zT_in (i := 217) (by decide +kernel) (by decide +kernel)
theorem zw_218 : (Jvm.Cond.lays "java/lang/IllegalArgumentException" "java/lang/Throwable" "cause" "Ljava/lang/Throwable;") ∈ zT := zT_in (i := 218) (by decide +kernel) (by decide +kernel)
theorem zw_219 : (Jvm.Cond.lays "java/lang/Throwable" "java/lang/Throwable" "cause" "Ljava/lang/Throwable;") ∈ zT := zT_in (i := 219) (by decide +kernel) (by decide +kernel)
theorem zw_220 : (Jvm.Cond.lays "java/lang/IllegalArgumentException" "java/lang/Throwable" "stackTrace" "[Ljava/lang/StackTraceElement;") ∈ zT := zT_in (i := 220) (by decide +kernel) (by decide +kernel)
theorem zw_221 : (Jvm.Cond.lays "java/lang/Throwable" "java/lang/Throwable" "stackTrace" "[Ljava/lang/StackTraceElement;") ∈ zT := zT_in (i := 221) (by decide +kernel) (by decide +kernel)
theorem zw_222 : (Jvm.Cond.lays "java/lang/IllegalArgumentException" "java/lang/Throwable" "suppressedExceptions" "Ljava/util/List;") ∈ zT := zT_in (i := 222) (by decide +kernel) (by decide +kernel)
theorem zw_223 : (Jvm.Cond.lays "java/lang/Throwable" "java/lang/Throwable" "suppressedExceptions" "Ljava/util/List;") ∈ zT := zT_in (i := 223) (by decide +kernel) (by decide +kernel)
theorem zw_224 : (Jvm.Cond.lays "java/lang/IllegalArgumentException" "java/lang/Throwable" "detailMessage" "Ljava/lang/String;") ∈ zT := zT_in (i := 224) (by decide +kernel) (by decide +kernel)
theorem zw_225 : (Jvm.Cond.lays "java/lang/Throwable" "java/lang/Throwable" "detailMessage" "Ljava/lang/String;") ∈ zT := zT_in (i := 225) (by decide +kernel) (by decide +kernel)
theorem zw_226 : (Jvm.Cond.lays "java/lang/IllegalArgumentException" "java/lang/Throwable" "backtrace" "Ljava/lang/Object;") ∈ zT := zT_in (i := 226) (by decide +kernel) (by decide +kernel)
theorem zw_227 : (Jvm.Cond.lays "java/lang/Throwable" "java/lang/Throwable" "backtrace" "Ljava/lang/Object;") ∈ zT := zT_in (i := 227) (by decide +kernel) (by decide +kernel)
theorem zw_228 : (Jvm.Cond.fieldLink "java/lang/Throwable" (198 : Nat) "java/lang/Throwable" "backtrace" "Ljava/lang/Object;") ∈ zT := zT_in (i := 228) (by decide +kernel) (by decide +kernel)
theorem zw_230 : (Jvm.Cond.instanceMethod ({ cls := "java/lang/Throwable", name := "<init>", desc := "()V" } : Jvm.MethodName)) ∈ zT := zT_in (i := 230) (by decide +kernel) (by decide +kernel)
theorem zw_231 : (Jvm.Cond.code ({ cls := "java/lang/Throwable", name := "<init>", desc := "()V" } : Jvm.MethodName) prog_14_method_1_code (1 : Nat) (Option.none : Option Jvm.ClassFile.FieldType)) ∈ zT := zT_in (i := 231) (by decide +kernel) (by decide +kernel)
theorem zw_232 : (Jvm.Cond.methodLink "java/lang/Throwable" (1 : Nat) ({ cls := "java/lang/Object", name := "<init>", desc := "()V" } : Jvm.MethodName)) ∈ zT := zT_in (i := 232) (by decide +kernel) (by decide +kernel)
theorem zw_233 : (Jvm.Cond.fieldLink "java/lang/Throwable" (13 : Nat) "java/lang/Throwable" "UNASSIGNED_STACK" "[Ljava/lang/StackTraceElement;") ∈ zT := zT_in (i := 233) (by decide +kernel) (by decide +kernel)
theorem zw_235 : (Jvm.Cond.fieldLink "java/lang/Throwable" (20 : Nat) "java/lang/Throwable" "SUPPRESSED_SENTINEL" "Ljava/util/List;") ∈ zT := zT_in (i := 235) (by decide +kernel) (by decide +kernel)
theorem zw_237 : (Jvm.Cond.methodLink "java/lang/Throwable" (27 : Nat) ({ cls := "java/lang/Throwable", name := "fillInStackTrace", desc := "()Ljava/lang/Throwable;" } : Jvm.MethodName)) ∈ zT := zT_in (i := 237) (by decide +kernel) (by decide +kernel)
theorem zw_238 : (Jvm.Cond.instanceMethod ({ cls := "java/lang/Throwable", name := "fillInStackTrace", desc := "()Ljava/lang/Throwable;" } : Jvm.MethodName)) ∈ zT := zT_in (i := 238) (by decide +kernel) (by decide +kernel)
theorem zw_240 : (Jvm.Cond.selects "java/lang/IllegalStateException" ({ cls := "java/lang/Throwable", name := "fillInStackTrace", desc := "()Ljava/lang/Throwable;" } : Jvm.MethodName) ({ cls := "java/lang/Throwable", name := "fillInStackTrace", desc := "()Ljava/lang/Throwable;" } : Jvm.MethodName)) ∈ zT := zT_in (i := 240) (by decide +kernel) (by decide +kernel)
theorem zw_241 : (Jvm.Cond.selects "java/lang/IndexOutOfBoundsException" ({ cls := "java/lang/Throwable", name := "fillInStackTrace", desc := "()Ljava/lang/Throwable;" } : Jvm.MethodName) ({ cls := "java/lang/Throwable", name := "fillInStackTrace", desc := "()Ljava/lang/Throwable;" } : Jvm.MethodName)) ∈ zT := zT_in (i := 241) (by decide +kernel) (by decide +kernel)
theorem zw_242 : (Jvm.Cond.selects "java/lang/UnsupportedOperationException" ({ cls := "java/lang/Throwable", name := "fillInStackTrace", desc := "()Ljava/lang/Throwable;" } : Jvm.MethodName) ({ cls := "java/lang/Throwable", name := "fillInStackTrace", desc := "()Ljava/lang/Throwable;" } : Jvm.MethodName)) ∈ zT := zT_in (i := 242) (by decide +kernel) (by decide +kernel)
theorem zw_244 : (Jvm.Cond.methodLink "java/lang/Throwable" (202 : Nat) ({ cls := "java/lang/Throwable", name := "fillInStackTrace", desc := "(I)Ljava/lang/Throwable;" } : Jvm.MethodName)) ∈ zT := zT_in (i := 244) (by decide +kernel) (by decide +kernel)
theorem zw_246 : (Jvm.Cond.instanceMethod ({ cls := "java/lang/Throwable", name := "fillInStackTrace", desc := "(I)Ljava/lang/Throwable;" } : Jvm.MethodName)) ∈ zT := zT_in (i := 246) (by decide +kernel) (by decide +kernel)
theorem zw_247 : (Jvm.Cond.instantiable "java/lang/Throwable" (6 : Nat)) ∈ zT := zT_in (i := 247) (by decide +kernel) (by decide +kernel)
theorem zw_250 : (Jvm.Cond.methodLink "DutyLedger" (63 : Nat) ({ cls := "java/lang/IllegalArgumentException", name := "<init>", desc := "(Ljava/lang/String;)V" } : Jvm.MethodName)) ∈ zT := zT_in (i := 250) (by decide +kernel) (by decide +kernel)
theorem zw_251 : (Jvm.Cond.instanceMethod ({ cls := "java/lang/IllegalArgumentException", name := "<init>", desc := "(Ljava/lang/String;)V" } : Jvm.MethodName)) ∈ zT := zT_in (i := 251) (by decide +kernel) (by decide +kernel)
theorem zw_252 : (Jvm.Cond.code ({ cls := "java/lang/IllegalArgumentException", name := "<init>", desc := "(Ljava/lang/String;)V" } : Jvm.MethodName) prog_8_method_2_code (2 : Nat) (Option.none : Option Jvm.ClassFile.FieldType)) ∈ zT := zT_in (i := 252) (by decide +kernel) (by decide +kernel)
theorem zw_253 : (Jvm.Cond.methodLink "java/lang/IllegalArgumentException" (7 : Nat) ({ cls := "java/lang/RuntimeException", name := "<init>", desc := "(Ljava/lang/String;)V" } : Jvm.MethodName)) ∈ zT := zT_in (i := 253) (by decide +kernel) (by decide +kernel)
theorem zw_254 : (Jvm.Cond.instanceMethod ({ cls := "java/lang/RuntimeException", name := "<init>", desc := "(Ljava/lang/String;)V" } : Jvm.MethodName)) ∈ zT := zT_in (i := 254) (by decide +kernel) (by decide +kernel)
theorem zw_255 : (Jvm.Cond.code ({ cls := "java/lang/RuntimeException", name := "<init>", desc := "(Ljava/lang/String;)V" } : Jvm.MethodName) prog_12_method_2_code (2 : Nat) (Option.none : Option Jvm.ClassFile.FieldType)) ∈ zT := zT_in (i := 255) (by decide +kernel) (by decide +kernel)
theorem zw_256 : (Jvm.Cond.methodLink "java/lang/RuntimeException" (7 : Nat) ({ cls := "java/lang/Exception", name := "<init>", desc := "(Ljava/lang/String;)V" } : Jvm.MethodName)) ∈ zT := zT_in (i := 256) (by decide +kernel) (by decide +kernel)
theorem zw_257 : (Jvm.Cond.instanceMethod ({ cls := "java/lang/Exception", name := "<init>", desc := "(Ljava/lang/String;)V" } : Jvm.MethodName)) ∈ zT := zT_in (i := 257) (by decide +kernel) (by decide +kernel)
theorem zw_258 : (Jvm.Cond.code ({ cls := "java/lang/Exception", name := "<init>", desc := "(Ljava/lang/String;)V" } : Jvm.MethodName) prog_7_method_2_code (2 : Nat) (Option.none : Option Jvm.ClassFile.FieldType)) ∈ zT := zT_in (i := 258) (by decide +kernel) (by decide +kernel)
theorem zw_259 : (Jvm.Cond.methodLink "java/lang/Exception" (7 : Nat) ({ cls := "java/lang/Throwable", name := "<init>", desc := "(Ljava/lang/String;)V" } : Jvm.MethodName)) ∈ zT := zT_in (i := 259) (by decide +kernel) (by decide +kernel)
theorem zw_260 : (Jvm.Cond.instanceMethod ({ cls := "java/lang/Throwable", name := "<init>", desc := "(Ljava/lang/String;)V" } : Jvm.MethodName)) ∈ zT := zT_in (i := 260) (by decide +kernel) (by decide +kernel)
theorem zw_261 : (Jvm.Cond.code ({ cls := "java/lang/Throwable", name := "<init>", desc := "(Ljava/lang/String;)V" } : Jvm.MethodName) prog_14_method_2_code (2 : Nat) (Option.none : Option Jvm.ClassFile.FieldType)) ∈ zT := zT_in (i := 261) (by decide +kernel) (by decide +kernel)
theorem zw_263 : (Jvm.Cond.fieldLink "java/lang/Throwable" (31 : Nat) "java/lang/Throwable" "detailMessage" "Ljava/lang/String;") ∈ zT := zT_in (i := 263) (by decide +kernel) (by decide +kernel)
theorem zw_264 : (Jvm.Cond.fieldLink "java/lang/Throwable" (7 : Nat) "java/lang/Throwable" "cause" "Ljava/lang/Throwable;") ∈ zT := zT_in (i := 264) (by decide +kernel) (by decide +kernel)
theorem zw_265 : (Jvm.Cond.fieldLink "java/lang/Throwable" (17 : Nat) "java/lang/Throwable" "stackTrace" "[Ljava/lang/StackTraceElement;") ∈ zT := zT_in (i := 265) (by decide +kernel) (by decide +kernel)
theorem zw_266 : (Jvm.Cond.fieldLink "java/lang/Throwable" (24 : Nat) "java/lang/Throwable" "suppressedExceptions" "Ljava/util/List;") ∈ zT := zT_in (i := 266) (by decide +kernel) (by decide +kernel)
theorem zw_271 : (Jvm.Cond.lays "java/lang/IllegalArgumentException" "java/lang/Throwable" "depth" "I") ∈ zT := zT_in (i := 271) (by decide +kernel) (by decide +kernel)
theorem zw_275 : (Jvm.Cond.arrayClass Jvm.ClassFile.FieldType.byte) ∈ zT := zT_in (i := 275) (by decide +kernel) (by decide +kernel)
theorem zw_276 : (Jvm.Cond.classLink "DutyLedger" (66 : Nat) "java/lang/IllegalStateException") ∈ zT := zT_in (i := 276) (by decide +kernel) (by decide +kernel)
theorem zw_277 : (Jvm.Cond.instantiable "java/lang/IllegalStateException" (6 : Nat)) ∈ zT := zT_in (i := 277) (by decide +kernel) (by decide +kernel)
theorem zw_279 : (Jvm.Cond.selects "java/lang/IllegalStateException" ({ cls := "java/lang/Throwable", name := "fillInStackTrace", desc := "(I)Ljava/lang/Throwable;" } : Jvm.MethodName) ({ cls := "java/lang/Throwable", name := "fillInStackTrace", desc := "(I)Ljava/lang/Throwable;" } : Jvm.MethodName)) ∈ zT := zT_in (i := 279) (by decide +kernel) (by decide +kernel)
theorem zw_280 : (Jvm.Cond.lays "java/lang/IllegalStateException" "java/lang/Throwable" "cause" "Ljava/lang/Throwable;") ∈ zT := zT_in (i := 280) (by decide +kernel) (by decide +kernel)
theorem zw_281 : (Jvm.Cond.lays "java/lang/IllegalStateException" "java/lang/Throwable" "stackTrace" "[Ljava/lang/StackTraceElement;") ∈ zT := zT_in (i := 281) (by decide +kernel) (by decide +kernel)
theorem zw_282 : (Jvm.Cond.lays "java/lang/IllegalStateException" "java/lang/Throwable" "suppressedExceptions" "Ljava/util/List;") ∈ zT := zT_in (i := 282) (by decide +kernel) (by decide +kernel)
theorem zw_283 : (Jvm.Cond.lays "java/lang/IllegalStateException" "java/lang/Throwable" "detailMessage" "Ljava/lang/String;") ∈ zT := zT_in (i := 283) (by decide +kernel) (by decide +kernel)
theorem zw_284 : (Jvm.Cond.lays "java/lang/IllegalStateException" "java/lang/Throwable" "backtrace" "Ljava/lang/Object;") ∈ zT := zT_in (i := 284) (by decide +kernel) (by decide +kernel)
theorem zw_286 : (Jvm.Cond.methodLink "DutyLedger" (70 : Nat) ({ cls := "java/lang/IllegalStateException", name := "<init>", desc := "(Ljava/lang/String;)V" } : Jvm.MethodName)) ∈ zT := zT_in (i := 286) (by decide +kernel) (by decide +kernel)
theorem zw_287 : (Jvm.Cond.instanceMethod ({ cls := "java/lang/IllegalStateException", name := "<init>", desc := "(Ljava/lang/String;)V" } : Jvm.MethodName)) ∈ zT := zT_in (i := 287) (by decide +kernel) (by decide +kernel)
theorem zw_288 : (Jvm.Cond.code ({ cls := "java/lang/IllegalStateException", name := "<init>", desc := "(Ljava/lang/String;)V" } : Jvm.MethodName) prog_9_method_2_code (2 : Nat) (Option.none : Option Jvm.ClassFile.FieldType)) ∈ zT := zT_in (i := 288) (by decide +kernel) (by decide +kernel)
theorem zw_289 : (Jvm.Cond.methodLink "java/lang/IllegalStateException" (7 : Nat) ({ cls := "java/lang/RuntimeException", name := "<init>", desc := "(Ljava/lang/String;)V" } : Jvm.MethodName)) ∈ zT := zT_in (i := 289) (by decide +kernel) (by decide +kernel)
theorem zw_290 : (Jvm.Cond.lays "java/lang/IllegalStateException" "java/lang/Throwable" "depth" "I") ∈ zT := zT_in (i := 290) (by decide +kernel) (by decide +kernel)
theorem zw_292 : (Jvm.Cond.methodLink "DutyLedgerLaw" (66 : Nat) ({ cls := "DutyLedgerLaw", name := "batch", desc := "(LDutyLedger;II[J)I" } : Jvm.MethodName)) ∈ zT := zT_in (i := 292) (by decide +kernel) (by decide +kernel)
theorem zw_293 : (Jvm.Cond.static ({ cls := "DutyLedgerLaw", name := "batch", desc := "(LDutyLedger;II[J)I" } : Jvm.MethodName)) ∈ zT := zT_in (i := 293) (by decide +kernel) (by decide +kernel)
theorem zw_294 : (Jvm.Cond.codeWith ({ cls := "DutyLedgerLaw", name := "batch", desc := "(LDutyLedger;II[J)I" } : Jvm.MethodName) method_4_code (5 : Nat) (Option.some Jvm.ClassFile.FieldType.int) [((0 : Nat), (10 : Nat), (13 : Nat), (13 : Nat)), ((0 : Nat), (10 : Nat), (17 : Nat), (15 : Nat))]) ∈ zT := zT_in (i := 294) (by decide +kernel) (by decide +kernel)
theorem zw_295 : (Jvm.Cond.methodLink "DutyLedgerLaw" (17 : Nat) ({ cls := "DutyLedger", name := "batch", desc := "(II)I" } : Jvm.MethodName)) ∈ zT := zT_in (i := 295) (by decide +kernel) (by decide +kernel)
theorem zw_296 : (Jvm.Cond.instanceMethod ({ cls := "DutyLedger", name := "batch", desc := "(II)I" } : Jvm.MethodName)) ∈ zT := zT_in (i := 296) (by decide +kernel) (by decide +kernel)
theorem zw_297 : (Jvm.Cond.selects "DutyLedger" ({ cls := "DutyLedger", name := "batch", desc := "(II)I" } : Jvm.MethodName) ({ cls := "DutyLedger", name := "batch", desc := "(II)I" } : Jvm.MethodName)) ∈ zT := zT_in (i := 297) (by decide +kernel) (by decide +kernel)
theorem zw_298 : (Jvm.Cond.code ({ cls := "DutyLedger", name := "batch", desc := "(II)I" } : Jvm.MethodName) prog_1_method_3_code (3 : Nat) (Option.some Jvm.ClassFile.FieldType.int)) ∈ zT := zT_in (i := 298) (by decide +kernel) (by decide +kernel)
theorem zw_301 : (Jvm.Cond.instantiable "DutyLedger$Batch" (9 : Nat)) ∈ zT := zT_in (i := 301) (by decide +kernel) (by decide +kernel)
theorem zw_302 : (Jvm.Cond.methodLink "DutyLedger" (78 : Nat) ({ cls := "DutyLedger$Batch", name := "<init>", desc := "(III)V" } : Jvm.MethodName)) ∈ zT := zT_in (i := 302) (by decide +kernel) (by decide +kernel)
theorem zw_303 : (Jvm.Cond.instanceMethod ({ cls := "DutyLedger$Batch", name := "<init>", desc := "(III)V" } : Jvm.MethodName)) ∈ zT := zT_in (i := 303) (by decide +kernel) (by decide +kernel)
theorem zw_304 : (Jvm.Cond.code ({ cls := "DutyLedger$Batch", name := "<init>", desc := "(III)V" } : Jvm.MethodName) prog_2_method_1_code (4 : Nat) (Option.none : Option Jvm.ClassFile.FieldType)) ∈ zT := zT_in (i := 304) (by decide +kernel) (by decide +kernel)
theorem zw_305 : (Jvm.Cond.methodLink "DutyLedger$Batch" (3 : Nat) ({ cls := "java/lang/Object", name := "<init>", desc := "()V" } : Jvm.MethodName)) ∈ zT := zT_in (i := 305) (by decide +kernel) (by decide +kernel)
theorem zw_306 : (Jvm.Cond.fieldLink "DutyLedger$Batch" (33 : Nat) "DutyLedger$Batch" "valid" "I") ∈ zT := zT_in (i := 306) (by decide +kernel) (by decide +kernel)
theorem zw_307 : (Jvm.Cond.fieldLink "DutyLedger$Book" (39 : Nat) "DutyLedger$Batch" "valid" "I") ∈ zT := zT_in (i := 307) (by decide +kernel) (by decide +kernel)
theorem zw_308 : (Jvm.Cond.fieldLink "DutyLedger" (219 : Nat) "DutyLedger$Batch" "valid" "I") ∈ zT := zT_in (i := 308) (by decide +kernel) (by decide +kernel)
theorem zw_309 : (Jvm.Cond.fieldLink "DutyLedger$Batch" (36 : Nat) "DutyLedger$Batch" "known" "I") ∈ zT := zT_in (i := 309) (by decide +kernel) (by decide +kernel)
theorem zw_310 : (Jvm.Cond.fieldLink "DutyLedger$Book" (42 : Nat) "DutyLedger$Batch" "known" "I") ∈ zT := zT_in (i := 310) (by decide +kernel) (by decide +kernel)
theorem zw_311 : (Jvm.Cond.fieldLink "DutyLedger" (222 : Nat) "DutyLedger$Batch" "known" "I") ∈ zT := zT_in (i := 311) (by decide +kernel) (by decide +kernel)
theorem zw_312 : (Jvm.Cond.fieldLink "DutyLedger$Batch" (39 : Nat) "DutyLedger$Batch" "reverses" "I") ∈ zT := zT_in (i := 312) (by decide +kernel) (by decide +kernel)
theorem zw_313 : (Jvm.Cond.fieldLink "DutyLedger" (129 : Nat) "DutyLedger$Batch" "reverses" "I") ∈ zT := zT_in (i := 313) (by decide +kernel) (by decide +kernel)
theorem zw_314 : (Jvm.Cond.fieldLink "DutyLedger$Batch" (9 : Nat) "DutyLedger$Batch" "accounts" "[I") ∈ zT := zT_in (i := 314) (by decide +kernel) (by decide +kernel)
theorem zw_315 : (Jvm.Cond.fieldLink "DutyLedger$Book" (35 : Nat) "DutyLedger$Batch" "accounts" "[I") ∈ zT := zT_in (i := 315) (by decide +kernel) (by decide +kernel)
theorem zw_316 : (Jvm.Cond.fieldLink "DutyLedger" (262 : Nat) "DutyLedger$Batch" "accounts" "[I") ∈ zT := zT_in (i := 316) (by decide +kernel) (by decide +kernel)
theorem zw_317 : (Jvm.Cond.fieldLink "DutyLedger$Batch" (15 : Nat) "DutyLedger$Batch" "cents" "[J") ∈ zT := zT_in (i := 317) (by decide +kernel) (by decide +kernel)
theorem zw_318 : (Jvm.Cond.fieldLink "DutyLedger$Book" (38 : Nat) "DutyLedger$Batch" "cents" "[J") ∈ zT := zT_in (i := 318) (by decide +kernel) (by decide +kernel)
theorem zw_319 : (Jvm.Cond.fieldLink "DutyLedger" (263 : Nat) "DutyLedger$Batch" "cents" "[J") ∈ zT := zT_in (i := 319) (by decide +kernel) (by decide +kernel)
theorem zw_320 : (Jvm.Cond.fieldLink "DutyLedger$Batch" (19 : Nat) "DutyLedger$Batch" "size" "I") ∈ zT := zT_in (i := 320) (by decide +kernel) (by decide +kernel)
theorem zw_321 : (Jvm.Cond.fieldLink "DutyLedger" (218 : Nat) "DutyLedger$Batch" "size" "I") ∈ zT := zT_in (i := 321) (by decide +kernel) (by decide +kernel)
theorem zw_322 : (Jvm.Cond.fieldLink "DutyLedger$Batch" (23 : Nat) "DutyLedger$Batch" "state" "I") ∈ zT := zT_in (i := 322) (by decide +kernel) (by decide +kernel)
theorem zw_323 : (Jvm.Cond.fieldLink "DutyLedger" (215 : Nat) "DutyLedger$Batch" "state" "I") ∈ zT := zT_in (i := 323) (by decide +kernel) (by decide +kernel)
theorem zw_324 : (Jvm.Cond.fieldLink "DutyLedger$Batch" (26 : Nat) "DutyLedger$Batch" "reversedBy" "I") ∈ zT := zT_in (i := 324) (by decide +kernel) (by decide +kernel)
theorem zw_325 : (Jvm.Cond.fieldLink "DutyLedger" (132 : Nat) "DutyLedger$Batch" "reversedBy" "I") ∈ zT := zT_in (i := 325) (by decide +kernel) (by decide +kernel)
theorem zw_326 : (Jvm.Cond.fieldLink "DutyLedger$Batch" (29 : Nat) "DutyLedger$Batch" "toldToFail" "Z") ∈ zT := zT_in (i := 326) (by decide +kernel) (by decide +kernel)
theorem zw_327 : (Jvm.Cond.fieldLink "DutyLedger" (100 : Nat) "DutyLedger$Batch" "toldToFail" "Z") ∈ zT := zT_in (i := 327) (by decide +kernel) (by decide +kernel)
theorem zw_328 : (Jvm.Cond.laysFinal "DutyLedger$Batch" "DutyLedger$Batch" "valid" "I") ∈ zT := zT_in (i := 328) (by decide +kernel) (by decide +kernel)
theorem zw_330 : (Jvm.Cond.laysFinal "DutyLedger$Batch" "DutyLedger$Batch" "known" "I") ∈ zT := zT_in (i := 330) (by decide +kernel) (by decide +kernel)
theorem zw_332 : (Jvm.Cond.laysFinal "DutyLedger$Batch" "DutyLedger$Batch" "reverses" "I") ∈ zT := zT_in (i := 332) (by decide +kernel) (by decide +kernel)
theorem zw_334 : (Jvm.Cond.laysFinal "DutyLedger$Batch" "DutyLedger$Batch" "accounts" "[I") ∈ zT := zT_in (i := 334) (by decide +kernel) (by decide +kernel)
theorem zw_336 : (Jvm.Cond.laysFinal "DutyLedger$Batch" "DutyLedger$Batch" "cents" "[J") ∈ zT := zT_in (i := 336) (by decide +kernel) (by decide +kernel)
theorem zw_338 : (Jvm.Cond.lays "DutyLedger$Batch" "DutyLedger$Batch" "size" "I") ∈ zT := zT_in (i := 338) (by decide +kernel) (by decide +kernel)
theorem zw_340 : (Jvm.Cond.lays "DutyLedger$Batch" "DutyLedger$Batch" "state" "I") ∈ zT := zT_in (i := 340) (by decide +kernel) (by decide +kernel)
theorem zw_342 : (Jvm.Cond.lays "DutyLedger$Batch" "DutyLedger$Batch" "reversedBy" "I") ∈ zT := zT_in (i := 342) (by decide +kernel) (by decide +kernel)
theorem zw_344 : (Jvm.Cond.lays "DutyLedger$Batch" "DutyLedger$Batch" "toldToFail" "Z") ∈ zT := zT_in (i := 344) (by decide +kernel) (by decide +kernel)
theorem zw_347 : (Jvm.Cond.methodLink "DutyLedger" (81 : Nat) ({ cls := "DutyLedger", name := "keep", desc := "(LDutyLedger$Batch;)I" } : Jvm.MethodName)) ∈ zT := zT_in (i := 347) (by decide +kernel) (by decide +kernel)
theorem zw_349 : (Jvm.Cond.instanceMethod ({ cls := "DutyLedger", name := "keep", desc := "(LDutyLedger$Batch;)I" } : Jvm.MethodName)) ∈ zT := zT_in (i := 349) (by decide +kernel) (by decide +kernel)
theorem zw_350 : (Jvm.Cond.code ({ cls := "DutyLedger", name := "keep", desc := "(LDutyLedger$Batch;)I" } : Jvm.MethodName) prog_1_method_26_code (2 : Nat) (Option.some Jvm.ClassFile.FieldType.int)) ∈ zT := zT_in (i := 350) (by decide +kernel) (by decide +kernel)
theorem zw_351 : (Jvm.Cond.methodLink "DutyLedgerLaw" (82 : Nat) ({ cls := "DutyLedgerLaw", name := "post", desc := "(LDutyLedger;I[J)I" } : Jvm.MethodName)) ∈ zT := zT_in (i := 351) (by decide +kernel) (by decide +kernel)
theorem zw_352 : (Jvm.Cond.static ({ cls := "DutyLedgerLaw", name := "post", desc := "(LDutyLedger;I[J)I" } : Jvm.MethodName)) ∈ zT := zT_in (i := 352) (by decide +kernel) (by decide +kernel)
theorem zw_353 : (Jvm.Cond.codeWith ({ cls := "DutyLedgerLaw", name := "post", desc := "(LDutyLedger;I[J)I" } : Jvm.MethodName) method_5_code (4 : Nat) (Option.some Jvm.ClassFile.FieldType.int) [((0 : Nat), (9 : Nat), (12 : Nat), (13 : Nat)), ((0 : Nat), (9 : Nat), (15 : Nat), (15 : Nat)), ((0 : Nat), (9 : Nat), (18 : Nat), (24 : Nat))]) ∈ zT := zT_in (i := 353) (by decide +kernel) (by decide +kernel)
theorem zw_354 : (Jvm.Cond.classLink "DutyLedgerLaw" (24 : Nat) "java/lang/UnsupportedOperationException") ∈ zT := zT_in (i := 354) (by decide +kernel) (by decide +kernel)
theorem zw_355 : (Jvm.Cond.methodLink "DutyLedgerLaw" (21 : Nat) ({ cls := "DutyLedger", name := "post", desc := "(I)I" } : Jvm.MethodName)) ∈ zT := zT_in (i := 355) (by decide +kernel) (by decide +kernel)
theorem zw_356 : (Jvm.Cond.instanceMethod ({ cls := "DutyLedger", name := "post", desc := "(I)I" } : Jvm.MethodName)) ∈ zT := zT_in (i := 356) (by decide +kernel) (by decide +kernel)
theorem zw_357 : (Jvm.Cond.selects "DutyLedger" ({ cls := "DutyLedger", name := "post", desc := "(I)I" } : Jvm.MethodName) ({ cls := "DutyLedger", name := "post", desc := "(I)I" } : Jvm.MethodName)) ∈ zT := zT_in (i := 357) (by decide +kernel) (by decide +kernel)
theorem zw_358 : (Jvm.Cond.code ({ cls := "DutyLedger", name := "post", desc := "(I)I" } : Jvm.MethodName) prog_1_method_6_code (4 : Nat) (Option.some Jvm.ClassFile.FieldType.int)) ∈ zT := zT_in (i := 358) (by decide +kernel) (by decide +kernel)
theorem zw_360 : (Jvm.Cond.methodLink "DutyLedger" (106 : Nat) ({ cls := "DutyLedger", name := "whatIsWrongWith", desc := "(LDutyLedger$Batch;)I" } : Jvm.MethodName)) ∈ zT := zT_in (i := 360) (by decide +kernel) (by decide +kernel)
theorem zw_362 : (Jvm.Cond.instanceMethod ({ cls := "DutyLedger", name := "whatIsWrongWith", desc := "(LDutyLedger$Batch;)I" } : Jvm.MethodName)) ∈ zT := zT_in (i := 362) (by decide +kernel) (by decide +kernel)
theorem zw_363 : (Jvm.Cond.code ({ cls := "DutyLedger", name := "whatIsWrongWith", desc := "(LDutyLedger$Batch;)I" } : Jvm.MethodName) prog_1_method_27_code (2 : Nat) (Option.some Jvm.ClassFile.FieldType.int)) ∈ zT := zT_in (i := 363) (by decide +kernel) (by decide +kernel)
theorem zw_364 : (Jvm.Cond.methodLink "DutyLedger" (233 : Nat) ({ cls := "DutyLedger$Batch", name := "sum", desc := "()J" } : Jvm.MethodName)) ∈ zT := zT_in (i := 364) (by decide +kernel) (by decide +kernel)
theorem zw_365 : (Jvm.Cond.instanceMethod ({ cls := "DutyLedger$Batch", name := "sum", desc := "()J" } : Jvm.MethodName)) ∈ zT := zT_in (i := 365) (by decide +kernel) (by decide +kernel)
theorem zw_366 : (Jvm.Cond.selects "DutyLedger$Batch" ({ cls := "DutyLedger$Batch", name := "sum", desc := "()J" } : Jvm.MethodName) ({ cls := "DutyLedger$Batch", name := "sum", desc := "()J" } : Jvm.MethodName)) ∈ zT := zT_in (i := 366) (by decide +kernel) (by decide +kernel)
theorem zw_367 : (Jvm.Cond.code ({ cls := "DutyLedger$Batch", name := "sum", desc := "()J" } : Jvm.MethodName) prog_2_method_3_code (4 : Nat) (Option.some Jvm.ClassFile.FieldType.long)) ∈ zT := zT_in (i := 367) (by decide +kernel) (by decide +kernel)
theorem zw_368 : (Jvm.Cond.methodLink "DutyLedger" (236 : Nat) ({ cls := "DutyLedger$Book", name := "hasRoomFor", desc := "(I)Z" } : Jvm.MethodName)) ∈ zT := zT_in (i := 368) (by decide +kernel) (by decide +kernel)
theorem zw_369 : (Jvm.Cond.instanceMethod ({ cls := "DutyLedger$Book", name := "hasRoomFor", desc := "(I)Z" } : Jvm.MethodName)) ∈ zT := zT_in (i := 369) (by decide +kernel) (by decide +kernel)
theorem zw_370 : (Jvm.Cond.selects "DutyLedger$Book" ({ cls := "DutyLedger$Book", name := "hasRoomFor", desc := "(I)Z" } : Jvm.MethodName) ({ cls := "DutyLedger$Book", name := "hasRoomFor", desc := "(I)Z" } : Jvm.MethodName)) ∈ zT := zT_in (i := 370) (by decide +kernel) (by decide +kernel)
theorem zw_371 : (Jvm.Cond.code ({ cls := "DutyLedger$Book", name := "hasRoomFor", desc := "(I)Z" } : Jvm.MethodName) prog_3_method_2_code (2 : Nat) (Option.some Jvm.ClassFile.FieldType.boolean)) ∈ zT := zT_in (i := 371) (by decide +kernel) (by decide +kernel)
theorem zw_372 : (Jvm.Cond.methodLink "DutyLedger" (109 : Nat) ({ cls := "DutyLedger", name := "makeVoid", desc := "(LDutyLedger$Batch;I)V" } : Jvm.MethodName)) ∈ zT := zT_in (i := 372) (by decide +kernel) (by decide +kernel)
theorem zw_374 : (Jvm.Cond.instanceMethod ({ cls := "DutyLedger", name := "makeVoid", desc := "(LDutyLedger$Batch;I)V" } : Jvm.MethodName)) ∈ zT := zT_in (i := 374) (by decide +kernel) (by decide +kernel)
theorem zw_375 : (Jvm.Cond.code ({ cls := "DutyLedger", name := "makeVoid", desc := "(LDutyLedger$Batch;I)V" } : Jvm.MethodName) prog_1_method_28_code (3 : Nat) (Option.none : Option Jvm.ClassFile.FieldType)) ∈ zT := zT_in (i := 375) (by decide +kernel) (by decide +kernel)
theorem zw_376 : (Jvm.Cond.methodLink "DutyLedger" (239 : Nat) ({ cls := "DutyLedger", name := "accountFarthestFromZero", desc := "(LDutyLedger$Batch;)I" } : Jvm.MethodName)) ∈ zT := zT_in (i := 376) (by decide +kernel) (by decide +kernel)
theorem zw_378 : (Jvm.Cond.instanceMethod ({ cls := "DutyLedger", name := "accountFarthestFromZero", desc := "(LDutyLedger$Batch;)I" } : Jvm.MethodName)) ∈ zT := zT_in (i := 378) (by decide +kernel) (by decide +kernel)
theorem zw_379 : (Jvm.Cond.code ({ cls := "DutyLedger", name := "accountFarthestFromZero", desc := "(LDutyLedger$Batch;)I" } : Jvm.MethodName) prog_1_method_29_code (8 : Nat) (Option.some Jvm.ClassFile.FieldType.int)) ∈ zT := zT_in (i := 379) (by decide +kernel) (by decide +kernel)
theorem zw_380 : (Jvm.Cond.methodLink "DutyLedger" (242 : Nat) ({ cls := "DutyLedger$Batch", name := "sumOf", desc := "(I)J" } : Jvm.MethodName)) ∈ zT := zT_in (i := 380) (by decide +kernel) (by decide +kernel)
theorem zw_381 : (Jvm.Cond.instanceMethod ({ cls := "DutyLedger$Batch", name := "sumOf", desc := "(I)J" } : Jvm.MethodName)) ∈ zT := zT_in (i := 381) (by decide +kernel) (by decide +kernel)
theorem zw_382 : (Jvm.Cond.selects "DutyLedger$Batch" ({ cls := "DutyLedger$Batch", name := "sumOf", desc := "(I)J" } : Jvm.MethodName) ({ cls := "DutyLedger$Batch", name := "sumOf", desc := "(I)J" } : Jvm.MethodName)) ∈ zT := zT_in (i := 382) (by decide +kernel) (by decide +kernel)
theorem zw_383 : (Jvm.Cond.code ({ cls := "DutyLedger$Batch", name := "sumOf", desc := "(I)J" } : Jvm.MethodName) prog_2_method_4_code (5 : Nat) (Option.some Jvm.ClassFile.FieldType.long)) ∈ zT := zT_in (i := 383) (by decide +kernel) (by decide +kernel)
theorem zw_384 : (Jvm.Cond.methodLink "DutyLedger" (246 : Nat) ({ cls := "java/lang/Math", name := "abs", desc := "(J)J" } : Jvm.MethodName)) ∈ zT := zT_in (i := 384) (by decide +kernel) (by decide +kernel)
theorem zw_385 : (Jvm.Cond.static ({ cls := "java/lang/Math", name := "abs", desc := "(J)J" } : Jvm.MethodName)) ∈ zT := zT_in (i := 385) (by decide +kernel) (by decide +kernel)
theorem zw_386 : (Jvm.Cond.code ({ cls := "java/lang/Math", name := "abs", desc := "(J)J" } : Jvm.MethodName) prog_11_method_61_code (2 : Nat) (Option.some Jvm.ClassFile.FieldType.long)) ∈ zT := zT_in (i := 386) (by decide +kernel) (by decide +kernel)
theorem zw_388 : (Jvm.Cond.methodLink "DutyLedger" (115 : Nat) ({ cls := "DutyLedger", name := "failHalfway", desc := "(ILDutyLedger$Batch;)V" } : Jvm.MethodName)) ∈ zT := zT_in (i := 388) (by decide +kernel) (by decide +kernel)
theorem zw_390 : (Jvm.Cond.instanceMethod ({ cls := "DutyLedger", name := "failHalfway", desc := "(ILDutyLedger$Batch;)V" } : Jvm.MethodName)) ∈ zT := zT_in (i := 390) (by decide +kernel) (by decide +kernel)
theorem zw_391 : (Jvm.Cond.code ({ cls := "DutyLedger", name := "failHalfway", desc := "(ILDutyLedger$Batch;)V" } : Jvm.MethodName) prog_1_method_30_code (3 : Nat) (Option.none : Option Jvm.ClassFile.FieldType)) ∈ zT := zT_in (i := 391) (by decide +kernel) (by decide +kernel)
theorem zw_392 : (Jvm.Cond.methodLink "DutyLedger" (252 : Nat) ({ cls := "DutyLedger$Book", name := "bringIn", desc := "(ILDutyLedger$Batch;I)V" } : Jvm.MethodName)) ∈ zT := zT_in (i := 392) (by decide +kernel) (by decide +kernel)
theorem zw_393 : (Jvm.Cond.instanceMethod ({ cls := "DutyLedger$Book", name := "bringIn", desc := "(ILDutyLedger$Batch;I)V" } : Jvm.MethodName)) ∈ zT := zT_in (i := 393) (by decide +kernel) (by decide +kernel)
theorem zw_394 : (Jvm.Cond.selects "DutyLedger$Book" ({ cls := "DutyLedger$Book", name := "bringIn", desc := "(ILDutyLedger$Batch;I)V" } : Jvm.MethodName) ({ cls := "DutyLedger$Book", name := "bringIn", desc := "(ILDutyLedger$Batch;I)V" } : Jvm.MethodName)) ∈ zT := zT_in (i := 394) (by decide +kernel) (by decide +kernel)
theorem zw_395 : (Jvm.Cond.code ({ cls := "DutyLedger$Book", name := "bringIn", desc := "(ILDutyLedger$Batch;I)V" } : Jvm.MethodName) prog_3_method_3_code (5 : Nat) (Option.none : Option Jvm.ClassFile.FieldType)) ∈ zT := zT_in (i := 395) (by decide +kernel) (by decide +kernel)
theorem zw_396 : (Jvm.Cond.methodLink "DutyLedger" (256 : Nat) ({ cls := "DutyLedger$Book", name := "takeHeldOut", desc := "()V" } : Jvm.MethodName)) ∈ zT := zT_in (i := 396) (by decide +kernel) (by decide +kernel)
theorem zw_397 : (Jvm.Cond.instanceMethod ({ cls := "DutyLedger$Book", name := "takeHeldOut", desc := "()V" } : Jvm.MethodName)) ∈ zT := zT_in (i := 397) (by decide +kernel) (by decide +kernel)
theorem zw_398 : (Jvm.Cond.selects "DutyLedger$Book" ({ cls := "DutyLedger$Book", name := "takeHeldOut", desc := "()V" } : Jvm.MethodName) ({ cls := "DutyLedger$Book", name := "takeHeldOut", desc := "()V" } : Jvm.MethodName)) ∈ zT := zT_in (i := 398) (by decide +kernel) (by decide +kernel)
theorem zw_399 : (Jvm.Cond.code ({ cls := "DutyLedger$Book", name := "takeHeldOut", desc := "()V" } : Jvm.MethodName) prog_3_method_4_code (1 : Nat) (Option.none : Option Jvm.ClassFile.FieldType)) ∈ zT := zT_in (i := 399) (by decide +kernel) (by decide +kernel)
theorem zw_400 : (Jvm.Cond.classLink "DutyLedger" (119 : Nat) "java/lang/UnsupportedOperationException") ∈ zT := zT_in (i := 400) (by decide +kernel) (by decide +kernel)
theorem zw_401 : (Jvm.Cond.instantiable "java/lang/UnsupportedOperationException" (6 : Nat)) ∈ zT := zT_in (i := 401) (by decide +kernel) (by decide +kernel)
theorem zw_403 : (Jvm.Cond.selects "java/lang/UnsupportedOperationException" ({ cls := "java/lang/Throwable", name := "fillInStackTrace", desc := "(I)Ljava/lang/Throwable;" } : Jvm.MethodName) ({ cls := "java/lang/Throwable", name := "fillInStackTrace", desc := "(I)Ljava/lang/Throwable;" } : Jvm.MethodName)) ∈ zT := zT_in (i := 403) (by decide +kernel) (by decide +kernel)
theorem zw_404 : (Jvm.Cond.lays "java/lang/UnsupportedOperationException" "java/lang/Throwable" "cause" "Ljava/lang/Throwable;") ∈ zT := zT_in (i := 404) (by decide +kernel) (by decide +kernel)
theorem zw_405 : (Jvm.Cond.lays "java/lang/UnsupportedOperationException" "java/lang/Throwable" "stackTrace" "[Ljava/lang/StackTraceElement;") ∈ zT := zT_in (i := 405) (by decide +kernel) (by decide +kernel)
theorem zw_406 : (Jvm.Cond.lays "java/lang/UnsupportedOperationException" "java/lang/Throwable" "suppressedExceptions" "Ljava/util/List;") ∈ zT := zT_in (i := 406) (by decide +kernel) (by decide +kernel)
theorem zw_407 : (Jvm.Cond.lays "java/lang/UnsupportedOperationException" "java/lang/Throwable" "detailMessage" "Ljava/lang/String;") ∈ zT := zT_in (i := 407) (by decide +kernel) (by decide +kernel)
theorem zw_408 : (Jvm.Cond.lays "java/lang/UnsupportedOperationException" "java/lang/Throwable" "backtrace" "Ljava/lang/Object;") ∈ zT := zT_in (i := 408) (by decide +kernel) (by decide +kernel)
theorem zw_410 : (Jvm.Cond.methodLink "DutyLedger" (123 : Nat) ({ cls := "java/lang/UnsupportedOperationException", name := "<init>", desc := "(Ljava/lang/String;)V" } : Jvm.MethodName)) ∈ zT := zT_in (i := 410) (by decide +kernel) (by decide +kernel)
theorem zw_411 : (Jvm.Cond.instanceMethod ({ cls := "java/lang/UnsupportedOperationException", name := "<init>", desc := "(Ljava/lang/String;)V" } : Jvm.MethodName)) ∈ zT := zT_in (i := 411) (by decide +kernel) (by decide +kernel)
theorem zw_412 : (Jvm.Cond.code ({ cls := "java/lang/UnsupportedOperationException", name := "<init>", desc := "(Ljava/lang/String;)V" } : Jvm.MethodName) prog_15_method_2_code (2 : Nat) (Option.none : Option Jvm.ClassFile.FieldType)) ∈ zT := zT_in (i := 412) (by decide +kernel) (by decide +kernel)
theorem zw_413 : (Jvm.Cond.methodLink "java/lang/UnsupportedOperationException" (7 : Nat) ({ cls := "java/lang/RuntimeException", name := "<init>", desc := "(Ljava/lang/String;)V" } : Jvm.MethodName)) ∈ zT := zT_in (i := 413) (by decide +kernel) (by decide +kernel)
theorem zw_414 : (Jvm.Cond.lays "java/lang/UnsupportedOperationException" "java/lang/Throwable" "depth" "I") ∈ zT := zT_in (i := 414) (by decide +kernel) (by decide +kernel)
theorem zw_416 : (Jvm.Cond.methodLink "DutyLedger" (124 : Nat) ({ cls := "DutyLedger", name := "enter", desc := "(ILDutyLedger$Batch;)V" } : Jvm.MethodName)) ∈ zT := zT_in (i := 416) (by decide +kernel) (by decide +kernel)
theorem zw_418 : (Jvm.Cond.instanceMethod ({ cls := "DutyLedger", name := "enter", desc := "(ILDutyLedger$Batch;)V" } : Jvm.MethodName)) ∈ zT := zT_in (i := 418) (by decide +kernel) (by decide +kernel)
theorem zw_419 : (Jvm.Cond.code ({ cls := "DutyLedger", name := "enter", desc := "(ILDutyLedger$Batch;)V" } : Jvm.MethodName) prog_1_method_31_code (3 : Nat) (Option.none : Option Jvm.ClassFile.FieldType)) ∈ zT := zT_in (i := 419) (by decide +kernel) (by decide +kernel)
theorem zw_420 : (Jvm.Cond.methodLink "DutyLedger" (259 : Nat) ({ cls := "DutyLedger$Book", name := "settleHeld", desc := "()V" } : Jvm.MethodName)) ∈ zT := zT_in (i := 420) (by decide +kernel) (by decide +kernel)
theorem zw_421 : (Jvm.Cond.instanceMethod ({ cls := "DutyLedger$Book", name := "settleHeld", desc := "()V" } : Jvm.MethodName)) ∈ zT := zT_in (i := 421) (by decide +kernel) (by decide +kernel)
theorem zw_422 : (Jvm.Cond.selects "DutyLedger$Book" ({ cls := "DutyLedger$Book", name := "settleHeld", desc := "()V" } : Jvm.MethodName) ({ cls := "DutyLedger$Book", name := "settleHeld", desc := "()V" } : Jvm.MethodName)) ∈ zT := zT_in (i := 422) (by decide +kernel) (by decide +kernel)
theorem zw_423 : (Jvm.Cond.code ({ cls := "DutyLedger$Book", name := "settleHeld", desc := "()V" } : Jvm.MethodName) prog_3_method_5_code (1 : Nat) (Option.none : Option Jvm.ClassFile.FieldType)) ∈ zT := zT_in (i := 423) (by decide +kernel) (by decide +kernel)
theorem zw_424 : (Jvm.Cond.methodLink "DutyLedgerLaw" (85 : Nat) ({ cls := "DutyLedgerLaw", name := "reverse", desc := "(LDutyLedger;II[J)I" } : Jvm.MethodName)) ∈ zT := zT_in (i := 424) (by decide +kernel) (by decide +kernel)
theorem zw_425 : (Jvm.Cond.static ({ cls := "DutyLedgerLaw", name := "reverse", desc := "(LDutyLedger;II[J)I" } : Jvm.MethodName)) ∈ zT := zT_in (i := 425) (by decide +kernel) (by decide +kernel)
theorem zw_426 : (Jvm.Cond.codeWith ({ cls := "DutyLedgerLaw", name := "reverse", desc := "(LDutyLedger;II[J)I" } : Jvm.MethodName) method_6_code (5 : Nat) (Option.some Jvm.ClassFile.FieldType.int) [((0 : Nat), (10 : Nat), (13 : Nat), (13 : Nat)), ((0 : Nat), (10 : Nat), (17 : Nat), (15 : Nat))]) ∈ zT := zT_in (i := 426) (by decide +kernel) (by decide +kernel)
theorem zw_427 : (Jvm.Cond.methodLink "DutyLedgerLaw" (26 : Nat) ({ cls := "DutyLedger", name := "reverse", desc := "(II)I" } : Jvm.MethodName)) ∈ zT := zT_in (i := 427) (by decide +kernel) (by decide +kernel)
theorem zw_428 : (Jvm.Cond.instanceMethod ({ cls := "DutyLedger", name := "reverse", desc := "(II)I" } : Jvm.MethodName)) ∈ zT := zT_in (i := 428) (by decide +kernel) (by decide +kernel)
theorem zw_429 : (Jvm.Cond.selects "DutyLedger" ({ cls := "DutyLedger", name := "reverse", desc := "(II)I" } : Jvm.MethodName) ({ cls := "DutyLedger", name := "reverse", desc := "(II)I" } : Jvm.MethodName)) ∈ zT := zT_in (i := 429) (by decide +kernel) (by decide +kernel)
theorem zw_430 : (Jvm.Cond.code ({ cls := "DutyLedger", name := "reverse", desc := "(II)I" } : Jvm.MethodName) prog_1_method_7_code (6 : Nat) (Option.some Jvm.ClassFile.FieldType.int)) ∈ zT := zT_in (i := 430) (by decide +kernel) (by decide +kernel)
theorem zw_433 : (Jvm.Cond.methodLink "DutyLedger" (137 : Nat) ({ cls := "DutyLedger", name := "reversalOf", desc := "(ILDutyLedger$Batch;I)LDutyLedger$Batch;" } : Jvm.MethodName)) ∈ zT := zT_in (i := 433) (by decide +kernel) (by decide +kernel)
theorem zw_434 : (Jvm.Cond.static ({ cls := "DutyLedger", name := "reversalOf", desc := "(ILDutyLedger$Batch;I)LDutyLedger$Batch;" } : Jvm.MethodName)) ∈ zT := zT_in (i := 434) (by decide +kernel) (by decide +kernel)
theorem zw_435 : (Jvm.Cond.code ({ cls := "DutyLedger", name := "reversalOf", desc := "(ILDutyLedger$Batch;I)LDutyLedger$Batch;" } : Jvm.MethodName) prog_1_method_32_code (5 : Nat) (Option.some (Jvm.ClassFile.FieldType.object "DutyLedger$Batch"))) ∈ zT := zT_in (i := 435) (by decide +kernel) (by decide +kernel)
theorem zw_437 : (Jvm.Cond.methodLink "DutyLedgerLaw" (93 : Nat) ({ cls := "DutyLedgerLaw", name := "balance", desc := "(LDutyLedger;III[J)I" } : Jvm.MethodName)) ∈ zT := zT_in (i := 437) (by decide +kernel) (by decide +kernel)
theorem zw_438 : (Jvm.Cond.static ({ cls := "DutyLedgerLaw", name := "balance", desc := "(LDutyLedger;III[J)I" } : Jvm.MethodName)) ∈ zT := zT_in (i := 438) (by decide +kernel) (by decide +kernel)
theorem zw_439 : (Jvm.Cond.codeWith ({ cls := "DutyLedgerLaw", name := "balance", desc := "(LDutyLedger;III[J)I" } : Jvm.MethodName) method_7_code (6 : Nat) (Option.some Jvm.ClassFile.FieldType.int) [((0 : Nat), (11 : Nat), (14 : Nat), (13 : Nat))]) ∈ zT := zT_in (i := 439) (by decide +kernel) (by decide +kernel)
theorem zw_440 : (Jvm.Cond.methodLink "DutyLedgerLaw" (29 : Nat) ({ cls := "DutyLedger", name := "balance", desc := "(III)J" } : Jvm.MethodName)) ∈ zT := zT_in (i := 440) (by decide +kernel) (by decide +kernel)
theorem zw_441 : (Jvm.Cond.instanceMethod ({ cls := "DutyLedger", name := "balance", desc := "(III)J" } : Jvm.MethodName)) ∈ zT := zT_in (i := 441) (by decide +kernel) (by decide +kernel)
theorem zw_442 : (Jvm.Cond.selects "DutyLedger" ({ cls := "DutyLedger", name := "balance", desc := "(III)J" } : Jvm.MethodName) ({ cls := "DutyLedger", name := "balance", desc := "(III)J" } : Jvm.MethodName)) ∈ zT := zT_in (i := 442) (by decide +kernel) (by decide +kernel)
theorem zw_443 : (Jvm.Cond.code ({ cls := "DutyLedger", name := "balance", desc := "(III)J" } : Jvm.MethodName) prog_1_method_9_code (4 : Nat) (Option.some Jvm.ClassFile.FieldType.long)) ∈ zT := zT_in (i := 443) (by decide +kernel) (by decide +kernel)
theorem zw_445 : (Jvm.Cond.methodLink "DutyLedger" (145 : Nat) ({ cls := "DutyLedger$Book", name := "sum", desc := "(IIII)J" } : Jvm.MethodName)) ∈ zT := zT_in (i := 445) (by decide +kernel) (by decide +kernel)
theorem zw_446 : (Jvm.Cond.instanceMethod ({ cls := "DutyLedger$Book", name := "sum", desc := "(IIII)J" } : Jvm.MethodName)) ∈ zT := zT_in (i := 446) (by decide +kernel) (by decide +kernel)
theorem zw_447 : (Jvm.Cond.selects "DutyLedger$Book" ({ cls := "DutyLedger$Book", name := "sum", desc := "(IIII)J" } : Jvm.MethodName) ({ cls := "DutyLedger$Book", name := "sum", desc := "(IIII)J" } : Jvm.MethodName)) ∈ zT := zT_in (i := 447) (by decide +kernel) (by decide +kernel)
theorem zw_448 : (Jvm.Cond.code ({ cls := "DutyLedger$Book", name := "sum", desc := "(IIII)J" } : Jvm.MethodName) prog_3_method_6_code (8 : Nat) (Option.some Jvm.ClassFile.FieldType.long)) ∈ zT := zT_in (i := 448) (by decide +kernel) (by decide +kernel)
theorem zw_449 : (Jvm.Cond.methodLink "DutyLedgerLaw" (97 : Nat) ({ cls := "DutyLedgerLaw", name := "statement", desc := "(LDutyLedger;III[J)I" } : Jvm.MethodName)) ∈ zT := zT_in (i := 449) (by decide +kernel) (by decide +kernel)
theorem zw_450 : (Jvm.Cond.static ({ cls := "DutyLedgerLaw", name := "statement", desc := "(LDutyLedger;III[J)I" } : Jvm.MethodName)) ∈ zT := zT_in (i := 450) (by decide +kernel) (by decide +kernel)
theorem zw_451 : (Jvm.Cond.codeWith ({ cls := "DutyLedgerLaw", name := "statement", desc := "(LDutyLedger;III[J)I" } : Jvm.MethodName) method_8_code (6 : Nat) (Option.some Jvm.ClassFile.FieldType.int) [((0 : Nat), (11 : Nat), (14 : Nat), (13 : Nat))]) ∈ zT := zT_in (i := 451) (by decide +kernel) (by decide +kernel)
theorem zw_452 : (Jvm.Cond.methodLink "DutyLedgerLaw" (33 : Nat) ({ cls := "DutyLedger", name := "statement", desc := "(III)J" } : Jvm.MethodName)) ∈ zT := zT_in (i := 452) (by decide +kernel) (by decide +kernel)
theorem zw_453 : (Jvm.Cond.instanceMethod ({ cls := "DutyLedger", name := "statement", desc := "(III)J" } : Jvm.MethodName)) ∈ zT := zT_in (i := 453) (by decide +kernel) (by decide +kernel)
theorem zw_454 : (Jvm.Cond.selects "DutyLedger" ({ cls := "DutyLedger", name := "statement", desc := "(III)J" } : Jvm.MethodName) ({ cls := "DutyLedger", name := "statement", desc := "(III)J" } : Jvm.MethodName)) ∈ zT := zT_in (i := 454) (by decide +kernel) (by decide +kernel)
theorem zw_455 : (Jvm.Cond.code ({ cls := "DutyLedger", name := "statement", desc := "(III)J" } : Jvm.MethodName) prog_1_method_10_code (5 : Nat) (Option.some Jvm.ClassFile.FieldType.long)) ∈ zT := zT_in (i := 455) (by decide +kernel) (by decide +kernel)
theorem zw_456 : (Jvm.Cond.methodLink "DutyLedger" (149 : Nat) ({ cls := "DutyLedger", name := "isMonth", desc := "(I)Z" } : Jvm.MethodName)) ∈ zT := zT_in (i := 456) (by decide +kernel) (by decide +kernel)
theorem zw_457 : (Jvm.Cond.static ({ cls := "DutyLedger", name := "isMonth", desc := "(I)Z" } : Jvm.MethodName)) ∈ zT := zT_in (i := 457) (by decide +kernel) (by decide +kernel)
theorem zw_458 : (Jvm.Cond.code ({ cls := "DutyLedger", name := "isMonth", desc := "(I)Z" } : Jvm.MethodName) prog_1_method_19_code (1 : Nat) (Option.some Jvm.ClassFile.FieldType.boolean)) ∈ zT := zT_in (i := 458) (by decide +kernel) (by decide +kernel)
theorem zw_460 : (Jvm.Cond.methodLink "DutyLedgerLaw" (110 : Nat) ({ cls := "DutyLedgerLaw", name := "passed", desc := "(LDutyLedger;III[J)I" } : Jvm.MethodName)) ∈ zT := zT_in (i := 460) (by decide +kernel) (by decide +kernel)
theorem zw_461 : (Jvm.Cond.static ({ cls := "DutyLedgerLaw", name := "passed", desc := "(LDutyLedger;III[J)I" } : Jvm.MethodName)) ∈ zT := zT_in (i := 461) (by decide +kernel) (by decide +kernel)
theorem zw_462 : (Jvm.Cond.codeWith ({ cls := "DutyLedgerLaw", name := "passed", desc := "(LDutyLedger;III[J)I" } : Jvm.MethodName) method_9_code (6 : Nat) (Option.some Jvm.ClassFile.FieldType.int) [((0 : Nat), (11 : Nat), (14 : Nat), (13 : Nat))]) ∈ zT := zT_in (i := 462) (by decide +kernel) (by decide +kernel)
theorem zw_463 : (Jvm.Cond.methodLink "DutyLedgerLaw" (36 : Nat) ({ cls := "DutyLedger", name := "passed", desc := "(III)J" } : Jvm.MethodName)) ∈ zT := zT_in (i := 463) (by decide +kernel) (by decide +kernel)
theorem zw_464 : (Jvm.Cond.instanceMethod ({ cls := "DutyLedger", name := "passed", desc := "(III)J" } : Jvm.MethodName)) ∈ zT := zT_in (i := 464) (by decide +kernel) (by decide +kernel)
theorem zw_465 : (Jvm.Cond.selects "DutyLedger" ({ cls := "DutyLedger", name := "passed", desc := "(III)J" } : Jvm.MethodName) ({ cls := "DutyLedger", name := "passed", desc := "(III)J" } : Jvm.MethodName)) ∈ zT := zT_in (i := 465) (by decide +kernel) (by decide +kernel)
theorem zw_466 : (Jvm.Cond.code ({ cls := "DutyLedger", name := "passed", desc := "(III)J" } : Jvm.MethodName) prog_1_method_13_code (8 : Nat) (Option.some Jvm.ClassFile.FieldType.long)) ∈ zT := zT_in (i := 466) (by decide +kernel) (by decide +kernel)
theorem zw_468 : (Jvm.Cond.methodLink "DutyLedger" (166 : Nat) ({ cls := "DutyLedger", name := "collectedOf", desc := "(II)J" } : Jvm.MethodName)) ∈ zT := zT_in (i := 468) (by decide +kernel) (by decide +kernel)
theorem zw_470 : (Jvm.Cond.instanceMethod ({ cls := "DutyLedger", name := "collectedOf", desc := "(II)J" } : Jvm.MethodName)) ∈ zT := zT_in (i := 470) (by decide +kernel) (by decide +kernel)
theorem zw_471 : (Jvm.Cond.code ({ cls := "DutyLedger", name := "collectedOf", desc := "(II)J" } : Jvm.MethodName) prog_1_method_33_code (6 : Nat) (Option.some Jvm.ClassFile.FieldType.long)) ∈ zT := zT_in (i := 471) (by decide +kernel) (by decide +kernel)
theorem zw_472 : (Jvm.Cond.methodLink "DutyLedger" (264 : Nat) ({ cls := "java/lang/Math", name := "max", desc := "(JJ)J" } : Jvm.MethodName)) ∈ zT := zT_in (i := 472) (by decide +kernel) (by decide +kernel)
theorem zw_473 : (Jvm.Cond.static ({ cls := "java/lang/Math", name := "max", desc := "(JJ)J" } : Jvm.MethodName)) ∈ zT := zT_in (i := 473) (by decide +kernel) (by decide +kernel)
theorem zw_474 : (Jvm.Cond.code ({ cls := "java/lang/Math", name := "max", desc := "(JJ)J" } : Jvm.MethodName) prog_11_method_66_code (4 : Nat) (Option.some Jvm.ClassFile.FieldType.long)) ∈ zT := zT_in (i := 474) (by decide +kernel) (by decide +kernel)
theorem zw_475 : (Jvm.Cond.methodLink "DutyLedger" (170 : Nat) ({ cls := "DutyLedger$Shares", name := "costOf", desc := "(IJ)J" } : Jvm.MethodName)) ∈ zT := zT_in (i := 475) (by decide +kernel) (by decide +kernel)
theorem zw_476 : (Jvm.Cond.instanceMethod ({ cls := "DutyLedger$Shares", name := "costOf", desc := "(IJ)J" } : Jvm.MethodName)) ∈ zT := zT_in (i := 476) (by decide +kernel) (by decide +kernel)
theorem zw_477 : (Jvm.Cond.selects "DutyLedger$Shares" ({ cls := "DutyLedger$Shares", name := "costOf", desc := "(IJ)J" } : Jvm.MethodName) ({ cls := "DutyLedger$Shares", name := "costOf", desc := "(IJ)J" } : Jvm.MethodName)) ∈ zT := zT_in (i := 477) (by decide +kernel) (by decide +kernel)
theorem zw_478 : (Jvm.Cond.code ({ cls := "DutyLedger$Shares", name := "costOf", desc := "(IJ)J" } : Jvm.MethodName) prog_4_method_4_code (4 : Nat) (Option.some Jvm.ClassFile.FieldType.long)) ∈ zT := zT_in (i := 478) (by decide +kernel) (by decide +kernel)
theorem zw_479 : (Jvm.Cond.constantLong "DutyLedger$Shares" (18 : Nat) (1000 : Int64)) ∈ zT := zT_in (i := 479) (by decide +kernel) (by decide +kernel)
theorem zw_480 : (Jvm.Cond.methodLink "DutyLedger" (174 : Nat) ({ cls := "DutyLedger$Shares", name := "allShares", desc := "(IJ)J" } : Jvm.MethodName)) ∈ zT := zT_in (i := 480) (by decide +kernel) (by decide +kernel)
theorem zw_481 : (Jvm.Cond.instanceMethod ({ cls := "DutyLedger$Shares", name := "allShares", desc := "(IJ)J" } : Jvm.MethodName)) ∈ zT := zT_in (i := 481) (by decide +kernel) (by decide +kernel)
theorem zw_482 : (Jvm.Cond.selects "DutyLedger$Shares" ({ cls := "DutyLedger$Shares", name := "allShares", desc := "(IJ)J" } : Jvm.MethodName) ({ cls := "DutyLedger$Shares", name := "allShares", desc := "(IJ)J" } : Jvm.MethodName)) ∈ zT := zT_in (i := 482) (by decide +kernel) (by decide +kernel)
theorem zw_483 : (Jvm.Cond.code ({ cls := "DutyLedger$Shares", name := "allShares", desc := "(IJ)J" } : Jvm.MethodName) prog_4_method_5_code (7 : Nat) (Option.some Jvm.ClassFile.FieldType.long)) ∈ zT := zT_in (i := 483) (by decide +kernel) (by decide +kernel)
theorem zw_484 : (Jvm.Cond.methodLink "DutyLedger$Shares" (20 : Nat) ({ cls := "DutyLedger$Shares", name := "shareOf", desc := "(IIJ)J" } : Jvm.MethodName)) ∈ zT := zT_in (i := 484) (by decide +kernel) (by decide +kernel)
theorem zw_485 : (Jvm.Cond.instanceMethod ({ cls := "DutyLedger$Shares", name := "shareOf", desc := "(IIJ)J" } : Jvm.MethodName)) ∈ zT := zT_in (i := 485) (by decide +kernel) (by decide +kernel)
theorem zw_486 : (Jvm.Cond.selects "DutyLedger$Shares" ({ cls := "DutyLedger$Shares", name := "shareOf", desc := "(IIJ)J" } : Jvm.MethodName) ({ cls := "DutyLedger$Shares", name := "shareOf", desc := "(IIJ)J" } : Jvm.MethodName)) ∈ zT := zT_in (i := 486) (by decide +kernel) (by decide +kernel)
theorem zw_487 : (Jvm.Cond.code ({ cls := "DutyLedger$Shares", name := "shareOf", desc := "(IIJ)J" } : Jvm.MethodName) prog_4_method_6_code (7 : Nat) (Option.some Jvm.ClassFile.FieldType.long)) ∈ zT := zT_in (i := 487) (by decide +kernel) (by decide +kernel)
theorem zw_488 : (Jvm.Cond.methodLink "DutyLedger$Shares" (24 : Nat) ({ cls := "DutyLedger$Shares", name := "allParts", desc := "(I)I" } : Jvm.MethodName)) ∈ zT := zT_in (i := 488) (by decide +kernel) (by decide +kernel)
theorem zw_490 : (Jvm.Cond.instanceMethod ({ cls := "DutyLedger$Shares", name := "allParts", desc := "(I)I" } : Jvm.MethodName)) ∈ zT := zT_in (i := 490) (by decide +kernel) (by decide +kernel)
theorem zw_491 : (Jvm.Cond.code ({ cls := "DutyLedger$Shares", name := "allParts", desc := "(I)I" } : Jvm.MethodName) prog_4_method_7_code (4 : Nat) (Option.some Jvm.ClassFile.FieldType.int)) ∈ zT := zT_in (i := 491) (by decide +kernel) (by decide +kernel)
theorem zw_492 : (Jvm.Cond.methodLink "DutyLedger$Shares" (28 : Nat) ({ cls := "DutyLedger$Shares", name := "wholeShare", desc := "(IIJ)J" } : Jvm.MethodName)) ∈ zT := zT_in (i := 492) (by decide +kernel) (by decide +kernel)
theorem zw_494 : (Jvm.Cond.instanceMethod ({ cls := "DutyLedger$Shares", name := "wholeShare", desc := "(IIJ)J" } : Jvm.MethodName)) ∈ zT := zT_in (i := 494) (by decide +kernel) (by decide +kernel)
theorem zw_495 : (Jvm.Cond.code ({ cls := "DutyLedger$Shares", name := "wholeShare", desc := "(IIJ)J" } : Jvm.MethodName) prog_4_method_8_code (6 : Nat) (Option.some Jvm.ClassFile.FieldType.long)) ∈ zT := zT_in (i := 495) (by decide +kernel) (by decide +kernel)
theorem zw_496 : (Jvm.Cond.methodLink "DutyLedger$Shares" (31 : Nat) ({ cls := "DutyLedger$Shares", name := "placeByRemainder", desc := "(IIJ)I" } : Jvm.MethodName)) ∈ zT := zT_in (i := 496) (by decide +kernel) (by decide +kernel)
theorem zw_498 : (Jvm.Cond.instanceMethod ({ cls := "DutyLedger$Shares", name := "placeByRemainder", desc := "(IIJ)I" } : Jvm.MethodName)) ∈ zT := zT_in (i := 498) (by decide +kernel) (by decide +kernel)
theorem zw_499 : (Jvm.Cond.code ({ cls := "DutyLedger$Shares", name := "placeByRemainder", desc := "(IIJ)I" } : Jvm.MethodName) prog_4_method_11_code (11 : Nat) (Option.some Jvm.ClassFile.FieldType.int)) ∈ zT := zT_in (i := 499) (by decide +kernel) (by decide +kernel)
theorem zw_500 : (Jvm.Cond.methodLink "DutyLedger$Shares" (39 : Nat) ({ cls := "DutyLedger$Shares", name := "remainder", desc := "(IIJ)J" } : Jvm.MethodName)) ∈ zT := zT_in (i := 500) (by decide +kernel) (by decide +kernel)
theorem zw_502 : (Jvm.Cond.instanceMethod ({ cls := "DutyLedger$Shares", name := "remainder", desc := "(IIJ)J" } : Jvm.MethodName)) ∈ zT := zT_in (i := 502) (by decide +kernel) (by decide +kernel)
theorem zw_503 : (Jvm.Cond.code ({ cls := "DutyLedger$Shares", name := "remainder", desc := "(IIJ)J" } : Jvm.MethodName) prog_4_method_9_code (6 : Nat) (Option.some Jvm.ClassFile.FieldType.long)) ∈ zT := zT_in (i := 503) (by decide +kernel) (by decide +kernel)
theorem zw_504 : (Jvm.Cond.methodLink "DutyLedger$Shares" (35 : Nat) ({ cls := "DutyLedger$Shares", name := "centsLeft", desc := "(IJ)J" } : Jvm.MethodName)) ∈ zT := zT_in (i := 504) (by decide +kernel) (by decide +kernel)
theorem zw_506 : (Jvm.Cond.instanceMethod ({ cls := "DutyLedger$Shares", name := "centsLeft", desc := "(IJ)J" } : Jvm.MethodName)) ∈ zT := zT_in (i := 506) (by decide +kernel) (by decide +kernel)
theorem zw_507 : (Jvm.Cond.code ({ cls := "DutyLedger$Shares", name := "centsLeft", desc := "(IJ)J" } : Jvm.MethodName) prog_4_method_10_code (7 : Nat) (Option.some Jvm.ClassFile.FieldType.long)) ∈ zT := zT_in (i := 507) (by decide +kernel) (by decide +kernel)
theorem zw_508 : (Jvm.Cond.methodLink "DutyLedger" (177 : Nat) ({ cls := "DutyLedger$Shares", name := "shareOf", desc := "(IIJ)J" } : Jvm.MethodName)) ∈ zT := zT_in (i := 508) (by decide +kernel) (by decide +kernel)
theorem zw_509 : (Jvm.Cond.methodLink "DutyLedgerLaw" (113 : Nat) ({ cls := "DutyLedgerLaw", name := "reconcile", desc := "(LDutyLedger;IIII[J)I" } : Jvm.MethodName)) ∈ zT := zT_in (i := 509) (by decide +kernel) (by decide +kernel)
theorem zw_510 : (Jvm.Cond.static ({ cls := "DutyLedgerLaw", name := "reconcile", desc := "(LDutyLedger;IIII[J)I" } : Jvm.MethodName)) ∈ zT := zT_in (i := 510) (by decide +kernel) (by decide +kernel)
theorem zw_511 : (Jvm.Cond.codeWith ({ cls := "DutyLedgerLaw", name := "reconcile", desc := "(LDutyLedger;IIII[J)I" } : Jvm.MethodName) method_10_code (7 : Nat) (Option.some Jvm.ClassFile.FieldType.int) [((0 : Nat), (13 : Nat), (16 : Nat), (13 : Nat))]) ∈ zT := zT_in (i := 511) (by decide +kernel) (by decide +kernel)
theorem zw_512 : (Jvm.Cond.methodLink "DutyLedgerLaw" (39 : Nat) ({ cls := "DutyLedger", name := "reconcile", desc := "(IIII)J" } : Jvm.MethodName)) ∈ zT := zT_in (i := 512) (by decide +kernel) (by decide +kernel)
theorem zw_513 : (Jvm.Cond.instanceMethod ({ cls := "DutyLedger", name := "reconcile", desc := "(IIII)J" } : Jvm.MethodName)) ∈ zT := zT_in (i := 513) (by decide +kernel) (by decide +kernel)
theorem zw_514 : (Jvm.Cond.selects "DutyLedger" ({ cls := "DutyLedger", name := "reconcile", desc := "(IIII)J" } : Jvm.MethodName) ({ cls := "DutyLedger", name := "reconcile", desc := "(IIII)J" } : Jvm.MethodName)) ∈ zT := zT_in (i := 514) (by decide +kernel) (by decide +kernel)
theorem zw_515 : (Jvm.Cond.code ({ cls := "DutyLedger", name := "reconcile", desc := "(IIII)J" } : Jvm.MethodName) prog_1_method_14_code (5 : Nat) (Option.some Jvm.ClassFile.FieldType.long)) ∈ zT := zT_in (i := 515) (by decide +kernel) (by decide +kernel)
theorem zw_517 : (Jvm.Cond.methodLink "DutyLedgerLaw" (117 : Nat) ({ cls := "DutyLedgerLaw", name := "read", desc := "(LDutyLedger;II[J)I" } : Jvm.MethodName)) ∈ zT := zT_in (i := 517) (by decide +kernel) (by decide +kernel)
theorem zw_518 : (Jvm.Cond.static ({ cls := "DutyLedgerLaw", name := "read", desc := "(LDutyLedger;II[J)I" } : Jvm.MethodName)) ∈ zT := zT_in (i := 518) (by decide +kernel) (by decide +kernel)
theorem zw_519 : (Jvm.Cond.codeWith ({ cls := "DutyLedgerLaw", name := "read", desc := "(LDutyLedger;II[J)I" } : Jvm.MethodName) method_11_code (5 : Nat) (Option.some Jvm.ClassFile.FieldType.int) [((0 : Nat), (9 : Nat), (12 : Nat), (47 : Nat))]) ∈ zT := zT_in (i := 519) (by decide +kernel) (by decide +kernel)
theorem zw_520 : (Jvm.Cond.classLink "DutyLedgerLaw" (47 : Nat) "java/lang/IndexOutOfBoundsException") ∈ zT := zT_in (i := 520) (by decide +kernel) (by decide +kernel)
theorem zw_521 : (Jvm.Cond.methodLink "DutyLedgerLaw" (43 : Nat) ({ cls := "DutyLedger", name := "read", desc := "(II)J" } : Jvm.MethodName)) ∈ zT := zT_in (i := 521) (by decide +kernel) (by decide +kernel)
theorem zw_522 : (Jvm.Cond.instanceMethod ({ cls := "DutyLedger", name := "read", desc := "(II)J" } : Jvm.MethodName)) ∈ zT := zT_in (i := 522) (by decide +kernel) (by decide +kernel)
theorem zw_523 : (Jvm.Cond.selects "DutyLedger" ({ cls := "DutyLedger", name := "read", desc := "(II)J" } : Jvm.MethodName) ({ cls := "DutyLedger", name := "read", desc := "(II)J" } : Jvm.MethodName)) ∈ zT := zT_in (i := 523) (by decide +kernel) (by decide +kernel)
theorem zw_524 : (Jvm.Cond.code ({ cls := "DutyLedger", name := "read", desc := "(II)J" } : Jvm.MethodName) prog_1_method_15_code (3 : Nat) (Option.some Jvm.ClassFile.FieldType.long)) ∈ zT := zT_in (i := 524) (by decide +kernel) (by decide +kernel)
theorem zw_525 : (Jvm.Cond.classLink "DutyLedger" (186 : Nat) "java/lang/IndexOutOfBoundsException") ∈ zT := zT_in (i := 525) (by decide +kernel) (by decide +kernel)
theorem zw_526 : (Jvm.Cond.instantiable "java/lang/IndexOutOfBoundsException" (6 : Nat)) ∈ zT := zT_in (i := 526) (by decide +kernel) (by decide +kernel)
theorem zw_528 : (Jvm.Cond.selects "java/lang/IndexOutOfBoundsException" ({ cls := "java/lang/Throwable", name := "fillInStackTrace", desc := "(I)Ljava/lang/Throwable;" } : Jvm.MethodName) ({ cls := "java/lang/Throwable", name := "fillInStackTrace", desc := "(I)Ljava/lang/Throwable;" } : Jvm.MethodName)) ∈ zT := zT_in (i := 528) (by decide +kernel) (by decide +kernel)
theorem zw_529 : (Jvm.Cond.lays "java/lang/IndexOutOfBoundsException" "java/lang/Throwable" "cause" "Ljava/lang/Throwable;") ∈ zT := zT_in (i := 529) (by decide +kernel) (by decide +kernel)
theorem zw_530 : (Jvm.Cond.lays "java/lang/IndexOutOfBoundsException" "java/lang/Throwable" "stackTrace" "[Ljava/lang/StackTraceElement;") ∈ zT := zT_in (i := 530) (by decide +kernel) (by decide +kernel)
theorem zw_531 : (Jvm.Cond.lays "java/lang/IndexOutOfBoundsException" "java/lang/Throwable" "suppressedExceptions" "Ljava/util/List;") ∈ zT := zT_in (i := 531) (by decide +kernel) (by decide +kernel)
theorem zw_532 : (Jvm.Cond.lays "java/lang/IndexOutOfBoundsException" "java/lang/Throwable" "detailMessage" "Ljava/lang/String;") ∈ zT := zT_in (i := 532) (by decide +kernel) (by decide +kernel)
theorem zw_533 : (Jvm.Cond.lays "java/lang/IndexOutOfBoundsException" "java/lang/Throwable" "backtrace" "Ljava/lang/Object;") ∈ zT := zT_in (i := 533) (by decide +kernel) (by decide +kernel)
theorem zw_535 : (Jvm.Cond.methodLink "DutyLedger" (190 : Nat) ({ cls := "java/lang/IndexOutOfBoundsException", name := "<init>", desc := "(Ljava/lang/String;)V" } : Jvm.MethodName)) ∈ zT := zT_in (i := 535) (by decide +kernel) (by decide +kernel)
theorem zw_536 : (Jvm.Cond.instanceMethod ({ cls := "java/lang/IndexOutOfBoundsException", name := "<init>", desc := "(Ljava/lang/String;)V" } : Jvm.MethodName)) ∈ zT := zT_in (i := 536) (by decide +kernel) (by decide +kernel)
theorem zw_537 : (Jvm.Cond.code ({ cls := "java/lang/IndexOutOfBoundsException", name := "<init>", desc := "(Ljava/lang/String;)V" } : Jvm.MethodName) prog_10_method_2_code (2 : Nat) (Option.none : Option Jvm.ClassFile.FieldType)) ∈ zT := zT_in (i := 537) (by decide +kernel) (by decide +kernel)
theorem zw_538 : (Jvm.Cond.methodLink "java/lang/IndexOutOfBoundsException" (7 : Nat) ({ cls := "java/lang/RuntimeException", name := "<init>", desc := "(Ljava/lang/String;)V" } : Jvm.MethodName)) ∈ zT := zT_in (i := 538) (by decide +kernel) (by decide +kernel)
theorem zw_539 : (Jvm.Cond.lays "java/lang/IndexOutOfBoundsException" "java/lang/Throwable" "depth" "I") ∈ zT := zT_in (i := 539) (by decide +kernel) (by decide +kernel)
theorem zw_542 : (Jvm.Cond.methodLink "DutyLedgerLaw" (120 : Nat) ({ cls := "DutyLedgerLaw", name := "look", desc := "(LDutyLedger;II[J)I" } : Jvm.MethodName)) ∈ zT := zT_in (i := 542) (by decide +kernel) (by decide +kernel)
theorem zw_543 : (Jvm.Cond.static ({ cls := "DutyLedgerLaw", name := "look", desc := "(LDutyLedger;II[J)I" } : Jvm.MethodName)) ∈ zT := zT_in (i := 543) (by decide +kernel) (by decide +kernel)
theorem zw_544 : (Jvm.Cond.codeWith ({ cls := "DutyLedgerLaw", name := "look", desc := "(LDutyLedger;II[J)I" } : Jvm.MethodName) method_12_code (5 : Nat) (Option.some Jvm.ClassFile.FieldType.int) [((0 : Nat), (10 : Nat), (13 : Nat), (47 : Nat))]) ∈ zT := zT_in (i := 544) (by decide +kernel) (by decide +kernel)
theorem zw_545 : (Jvm.Cond.methodLink "DutyLedgerLaw" (49 : Nat) ({ cls := "DutyLedger", name := "look", desc := "(II)I" } : Jvm.MethodName)) ∈ zT := zT_in (i := 545) (by decide +kernel) (by decide +kernel)
theorem zw_546 : (Jvm.Cond.instanceMethod ({ cls := "DutyLedger", name := "look", desc := "(II)I" } : Jvm.MethodName)) ∈ zT := zT_in (i := 546) (by decide +kernel) (by decide +kernel)
theorem zw_547 : (Jvm.Cond.selects "DutyLedger" ({ cls := "DutyLedger", name := "look", desc := "(II)I" } : Jvm.MethodName) ({ cls := "DutyLedger", name := "look", desc := "(II)I" } : Jvm.MethodName)) ∈ zT := zT_in (i := 547) (by decide +kernel) (by decide +kernel)
theorem zw_548 : (Jvm.Cond.code ({ cls := "DutyLedger", name := "look", desc := "(II)I" } : Jvm.MethodName) prog_1_method_16_code (4 : Nat) (Option.some Jvm.ClassFile.FieldType.int)) ∈ zT := zT_in (i := 548) (by decide +kernel) (by decide +kernel)
theorem zw_550 : (Jvm.Cond.classLink "DutyLedgerLaw" (53 : Nat) "DutyLedgerModel") ∈ zT := zT_in (i := 550) (by decide +kernel) (by decide +kernel)
theorem zw_551 : (Jvm.Cond.instantiable "DutyLedgerModel" (22 : Nat)) ∈ zT := zT_in (i := 551) (by decide +kernel) (by decide +kernel)
theorem zw_552 : (Jvm.Cond.methodLink "DutyLedgerLaw" (55 : Nat) ({ cls := "DutyLedgerModel", name := "<init>", desc := "()V" } : Jvm.MethodName)) ∈ zT := zT_in (i := 552) (by decide +kernel) (by decide +kernel)
theorem zw_553 : (Jvm.Cond.instanceMethod ({ cls := "DutyLedgerModel", name := "<init>", desc := "()V" } : Jvm.MethodName)) ∈ zT := zT_in (i := 553) (by decide +kernel) (by decide +kernel)
theorem zw_554 : (Jvm.Cond.code ({ cls := "DutyLedgerModel", name := "<init>", desc := "()V" } : Jvm.MethodName) prog_6_method_1_code (1 : Nat) (Option.none : Option Jvm.ClassFile.FieldType)) ∈ zT := zT_in (i := 554) (by decide +kernel) (by decide +kernel)
theorem zw_555 : (Jvm.Cond.methodLink "DutyLedgerModel" (1 : Nat) ({ cls := "java/lang/Object", name := "<init>", desc := "()V" } : Jvm.MethodName)) ∈ zT := zT_in (i := 555) (by decide +kernel) (by decide +kernel)
theorem zw_556 : (Jvm.Cond.fieldLink "DutyLedgerModel" (61 : Nat) "DutyLedgerModel" "thrown" "I") ∈ zT := zT_in (i := 556) (by decide +kernel) (by decide +kernel)
theorem zw_557 : (Jvm.Cond.fieldLink "DutyLedgerModel" (72 : Nat) "DutyLedgerModel" "accounts" "I") ∈ zT := zT_in (i := 557) (by decide +kernel) (by decide +kernel)
theorem zw_558 : (Jvm.Cond.fieldLink "DutyLedgerModel" (75 : Nat) "DutyLedgerModel" "batches" "I") ∈ zT := zT_in (i := 558) (by decide +kernel) (by decide +kernel)
theorem zw_559 : (Jvm.Cond.fieldLink "DutyLedgerModel" (103 : Nat) "DutyLedgerModel" "rows" "I") ∈ zT := zT_in (i := 559) (by decide +kernel) (by decide +kernel)
theorem zw_560 : (Jvm.Cond.fieldLink "DutyLedgerModel" (9 : Nat) "DutyLedgerModel" "closed" "I") ∈ zT := zT_in (i := 560) (by decide +kernel) (by decide +kernel)
theorem zw_561 : (Jvm.Cond.fieldLink "DutyLedgerModel" (13 : Nat) "DutyLedgerModel" "latest" "I") ∈ zT := zT_in (i := 561) (by decide +kernel) (by decide +kernel)
theorem zw_562 : (Jvm.Cond.fieldLink "DutyLedgerModel" (110 : Nat) "DutyLedgerModel" "wrong" "I") ∈ zT := zT_in (i := 562) (by decide +kernel) (by decide +kernel)
theorem zw_563 : (Jvm.Cond.fieldLink "DutyLedgerModel" (16 : Nat) "DutyLedgerModel" "named" "I") ∈ zT := zT_in (i := 563) (by decide +kernel) (by decide +kernel)
theorem zw_564 : (Jvm.Cond.fieldLink "DutyLedgerModel" (116 : Nat) "DutyLedgerModel" "failures" "I") ∈ zT := zT_in (i := 564) (by decide +kernel) (by decide +kernel)
theorem zw_565 : (Jvm.Cond.fieldLink "DutyLedgerModel" (19 : Nat) "DutyLedgerModel" "kindOf" "[I") ∈ zT := zT_in (i := 565) (by decide +kernel) (by decide +kernel)
theorem zw_566 : (Jvm.Cond.fieldLink "DutyLedgerModel" (23 : Nat) "DutyLedgerModel" "stateOf" "[I") ∈ zT := zT_in (i := 566) (by decide +kernel) (by decide +kernel)
theorem zw_567 : (Jvm.Cond.fieldLink "DutyLedgerModel" (26 : Nat) "DutyLedgerModel" "validOf" "[I") ∈ zT := zT_in (i := 567) (by decide +kernel) (by decide +kernel)
theorem zw_568 : (Jvm.Cond.fieldLink "DutyLedgerModel" (29 : Nat) "DutyLedgerModel" "knownOf" "[I") ∈ zT := zT_in (i := 568) (by decide +kernel) (by decide +kernel)
theorem zw_569 : (Jvm.Cond.fieldLink "DutyLedgerModel" (32 : Nat) "DutyLedgerModel" "reverses" "[I") ∈ zT := zT_in (i := 569) (by decide +kernel) (by decide +kernel)
theorem zw_570 : (Jvm.Cond.fieldLink "DutyLedgerModel" (35 : Nat) "DutyLedgerModel" "reversedBy" "[I") ∈ zT := zT_in (i := 570) (by decide +kernel) (by decide +kernel)
theorem zw_571 : (Jvm.Cond.fieldLink "DutyLedgerModel" (38 : Nat) "DutyLedgerModel" "toFail" "[Z") ∈ zT := zT_in (i := 571) (by decide +kernel) (by decide +kernel)
theorem zw_572 : (Jvm.Cond.fieldLink "DutyLedgerModel" (42 : Nat) "DutyLedgerModel" "sizeOf" "[I") ∈ zT := zT_in (i := 572) (by decide +kernel) (by decide +kernel)
theorem zw_573 : (Jvm.Cond.fieldLink "DutyLedgerModel" (45 : Nat) "DutyLedgerModel" "rowAccount" "[I") ∈ zT := zT_in (i := 573) (by decide +kernel) (by decide +kernel)
theorem zw_574 : (Jvm.Cond.fieldLink "DutyLedgerModel" (48 : Nat) "DutyLedgerModel" "rowCents" "[J") ∈ zT := zT_in (i := 574) (by decide +kernel) (by decide +kernel)
theorem zw_575 : (Jvm.Cond.fieldLink "DutyLedgerModel" (52 : Nat) "DutyLedgerModel" "ledger" "[I") ∈ zT := zT_in (i := 575) (by decide +kernel) (by decide +kernel)
theorem zw_576 : (Jvm.Cond.fieldLink "DutyLedgerModel" (55 : Nat) "DutyLedgerModel" "parts" "[I") ∈ zT := zT_in (i := 576) (by decide +kernel) (by decide +kernel)
theorem zw_577 : (Jvm.Cond.fieldLink "DutyLedgerModel" (58 : Nat) "DutyLedgerModel" "costs" "[I") ∈ zT := zT_in (i := 577) (by decide +kernel) (by decide +kernel)
theorem zw_578 : (Jvm.Cond.lays "DutyLedgerModel" "DutyLedgerModel" "thrown" "I") ∈ zT := zT_in (i := 578) (by decide +kernel) (by decide +kernel)
theorem zw_580 : (Jvm.Cond.lays "DutyLedgerModel" "DutyLedgerModel" "accounts" "I") ∈ zT := zT_in (i := 580) (by decide +kernel) (by decide +kernel)
theorem zw_582 : (Jvm.Cond.lays "DutyLedgerModel" "DutyLedgerModel" "batches" "I") ∈ zT := zT_in (i := 582) (by decide +kernel) (by decide +kernel)
theorem zw_584 : (Jvm.Cond.lays "DutyLedgerModel" "DutyLedgerModel" "rows" "I") ∈ zT := zT_in (i := 584) (by decide +kernel) (by decide +kernel)
theorem zw_586 : (Jvm.Cond.lays "DutyLedgerModel" "DutyLedgerModel" "closed" "I") ∈ zT := zT_in (i := 586) (by decide +kernel) (by decide +kernel)
theorem zw_588 : (Jvm.Cond.lays "DutyLedgerModel" "DutyLedgerModel" "latest" "I") ∈ zT := zT_in (i := 588) (by decide +kernel) (by decide +kernel)
theorem zw_590 : (Jvm.Cond.lays "DutyLedgerModel" "DutyLedgerModel" "wrong" "I") ∈ zT := zT_in (i := 590) (by decide +kernel) (by decide +kernel)
theorem zw_592 : (Jvm.Cond.lays "DutyLedgerModel" "DutyLedgerModel" "named" "I") ∈ zT := zT_in (i := 592) (by decide +kernel) (by decide +kernel)
theorem zw_594 : (Jvm.Cond.lays "DutyLedgerModel" "DutyLedgerModel" "failures" "I") ∈ zT := zT_in (i := 594) (by decide +kernel) (by decide +kernel)
theorem zw_596 : (Jvm.Cond.laysFinal "DutyLedgerModel" "DutyLedgerModel" "kindOf" "[I") ∈ zT := zT_in (i := 596) (by decide +kernel) (by decide +kernel)
theorem zw_598 : (Jvm.Cond.laysFinal "DutyLedgerModel" "DutyLedgerModel" "stateOf" "[I") ∈ zT := zT_in (i := 598) (by decide +kernel) (by decide +kernel)
theorem zw_600 : (Jvm.Cond.laysFinal "DutyLedgerModel" "DutyLedgerModel" "validOf" "[I") ∈ zT := zT_in (i := 600) (by decide +kernel) (by decide +kernel)
theorem zw_602 : (Jvm.Cond.laysFinal "DutyLedgerModel" "DutyLedgerModel" "knownOf" "[I") ∈ zT := zT_in (i := 602) (by decide +kernel) (by decide +kernel)
theorem zw_604 : (Jvm.Cond.laysFinal "DutyLedgerModel" "DutyLedgerModel" "reverses" "[I") ∈ zT := zT_in (i := 604) (by decide +kernel) (by decide +kernel)
theorem zw_606 : (Jvm.Cond.laysFinal "DutyLedgerModel" "DutyLedgerModel" "reversedBy" "[I") ∈ zT := zT_in (i := 606) (by decide +kernel) (by decide +kernel)
theorem zw_608 : (Jvm.Cond.laysFinal "DutyLedgerModel" "DutyLedgerModel" "toFail" "[Z") ∈ zT := zT_in (i := 608) (by decide +kernel) (by decide +kernel)
theorem zw_610 : (Jvm.Cond.laysFinal "DutyLedgerModel" "DutyLedgerModel" "sizeOf" "[I") ∈ zT := zT_in (i := 610) (by decide +kernel) (by decide +kernel)
theorem zw_612 : (Jvm.Cond.laysFinal "DutyLedgerModel" "DutyLedgerModel" "rowAccount" "[I") ∈ zT := zT_in (i := 612) (by decide +kernel) (by decide +kernel)
theorem zw_614 : (Jvm.Cond.laysFinal "DutyLedgerModel" "DutyLedgerModel" "rowCents" "[J") ∈ zT := zT_in (i := 614) (by decide +kernel) (by decide +kernel)
theorem zw_616 : (Jvm.Cond.laysFinal "DutyLedgerModel" "DutyLedgerModel" "ledger" "[I") ∈ zT := zT_in (i := 616) (by decide +kernel) (by decide +kernel)
theorem zw_618 : (Jvm.Cond.laysFinal "DutyLedgerModel" "DutyLedgerModel" "parts" "[I") ∈ zT := zT_in (i := 618) (by decide +kernel) (by decide +kernel)
theorem zw_620 : (Jvm.Cond.laysFinal "DutyLedgerModel" "DutyLedgerModel" "costs" "[I") ∈ zT := zT_in (i := 620) (by decide +kernel) (by decide +kernel)
theorem zw_623 : (Jvm.Cond.arrayClass Jvm.ClassFile.FieldType.boolean) ∈ zT := zT_in (i := 623) (by decide +kernel) (by decide +kernel)
theorem zw_624 : (Jvm.Cond.methodLink "DutyLedgerLaw" (62 : Nat) ({ cls := "DutyLedgerModel", name := "thrown", desc := "()I" } : Jvm.MethodName)) ∈ zT := zT_in (i := 624) (by decide +kernel) (by decide +kernel)
theorem zw_625 : (Jvm.Cond.instanceMethod ({ cls := "DutyLedgerModel", name := "thrown", desc := "()I" } : Jvm.MethodName)) ∈ zT := zT_in (i := 625) (by decide +kernel) (by decide +kernel)
theorem zw_626 : (Jvm.Cond.selects "DutyLedgerModel" ({ cls := "DutyLedgerModel", name := "thrown", desc := "()I" } : Jvm.MethodName) ({ cls := "DutyLedgerModel", name := "thrown", desc := "()I" } : Jvm.MethodName)) ∈ zT := zT_in (i := 626) (by decide +kernel) (by decide +kernel)
theorem zw_627 : (Jvm.Cond.code ({ cls := "DutyLedgerModel", name := "thrown", desc := "()I" } : Jvm.MethodName) prog_6_method_2_code (1 : Nat) (Option.some Jvm.ClassFile.FieldType.int)) ∈ zT := zT_in (i := 627) (by decide +kernel) (by decide +kernel)
theorem zw_628 : (Jvm.Cond.methodLink "DutyLedgerLaw" (61 : Nat) ({ cls := "DutyLedgerModel", name := "account", desc := "(I)I" } : Jvm.MethodName)) ∈ zT := zT_in (i := 628) (by decide +kernel) (by decide +kernel)
theorem zw_629 : (Jvm.Cond.instanceMethod ({ cls := "DutyLedgerModel", name := "account", desc := "(I)I" } : Jvm.MethodName)) ∈ zT := zT_in (i := 629) (by decide +kernel) (by decide +kernel)
theorem zw_630 : (Jvm.Cond.selects "DutyLedgerModel" ({ cls := "DutyLedgerModel", name := "account", desc := "(I)I" } : Jvm.MethodName) ({ cls := "DutyLedgerModel", name := "account", desc := "(I)I" } : Jvm.MethodName)) ∈ zT := zT_in (i := 630) (by decide +kernel) (by decide +kernel)
theorem zw_631 : (Jvm.Cond.code ({ cls := "DutyLedgerModel", name := "account", desc := "(I)I" } : Jvm.MethodName) prog_6_method_8_code (2 : Nat) (Option.some Jvm.ClassFile.FieldType.int)) ∈ zT := zT_in (i := 631) (by decide +kernel) (by decide +kernel)
theorem zw_632 : (Jvm.Cond.methodLink "DutyLedgerModel" (78 : Nat) ({ cls := "DutyLedgerModel", name := "isKind", desc := "(I)Z" } : Jvm.MethodName)) ∈ zT := zT_in (i := 632) (by decide +kernel) (by decide +kernel)
theorem zw_633 : (Jvm.Cond.static ({ cls := "DutyLedgerModel", name := "isKind", desc := "(I)Z" } : Jvm.MethodName)) ∈ zT := zT_in (i := 633) (by decide +kernel) (by decide +kernel)
theorem zw_634 : (Jvm.Cond.code ({ cls := "DutyLedgerModel", name := "isKind", desc := "(I)Z" } : Jvm.MethodName) prog_6_method_5_code (1 : Nat) (Option.some Jvm.ClassFile.FieldType.boolean)) ∈ zT := zT_in (i := 634) (by decide +kernel) (by decide +kernel)
theorem zw_635 : (Jvm.Cond.constantLong "DutyLedgerModel" (70 : Nat) (5 : Int64)) ∈ zT := zT_in (i := 635) (by decide +kernel) (by decide +kernel)
theorem zw_636 : (Jvm.Cond.methodLink "DutyLedgerModel" (66 : Nat) ({ cls := "DutyLedgerModel", name := "in", desc := "(JJJ)Z" } : Jvm.MethodName)) ∈ zT := zT_in (i := 636) (by decide +kernel) (by decide +kernel)
theorem zw_637 : (Jvm.Cond.static ({ cls := "DutyLedgerModel", name := "in", desc := "(JJJ)Z" } : Jvm.MethodName)) ∈ zT := zT_in (i := 637) (by decide +kernel) (by decide +kernel)
theorem zw_638 : (Jvm.Cond.code ({ cls := "DutyLedgerModel", name := "in", desc := "(JJJ)Z" } : Jvm.MethodName) prog_6_method_3_code (6 : Nat) (Option.some Jvm.ClassFile.FieldType.boolean)) ∈ zT := zT_in (i := 638) (by decide +kernel) (by decide +kernel)
theorem zw_639 : (Jvm.Cond.methodLink "DutyLedgerLaw" (69 : Nat) ({ cls := "DutyLedgerModel", name := "batch", desc := "(II)I" } : Jvm.MethodName)) ∈ zT := zT_in (i := 639) (by decide +kernel) (by decide +kernel)
theorem zw_640 : (Jvm.Cond.instanceMethod ({ cls := "DutyLedgerModel", name := "batch", desc := "(II)I" } : Jvm.MethodName)) ∈ zT := zT_in (i := 640) (by decide +kernel) (by decide +kernel)
theorem zw_641 : (Jvm.Cond.selects "DutyLedgerModel" ({ cls := "DutyLedgerModel", name := "batch", desc := "(II)I" } : Jvm.MethodName) ({ cls := "DutyLedgerModel", name := "batch", desc := "(II)I" } : Jvm.MethodName)) ∈ zT := zT_in (i := 641) (by decide +kernel) (by decide +kernel)
theorem zw_642 : (Jvm.Cond.code ({ cls := "DutyLedgerModel", name := "batch", desc := "(II)I" } : Jvm.MethodName) prog_6_method_10_code (3 : Nat) (Option.some Jvm.ClassFile.FieldType.int)) ∈ zT := zT_in (i := 642) (by decide +kernel) (by decide +kernel)
theorem zw_643 : (Jvm.Cond.methodLink "DutyLedgerModel" (82 : Nat) ({ cls := "DutyLedgerModel", name := "isDay", desc := "(I)Z" } : Jvm.MethodName)) ∈ zT := zT_in (i := 643) (by decide +kernel) (by decide +kernel)
theorem zw_644 : (Jvm.Cond.static ({ cls := "DutyLedgerModel", name := "isDay", desc := "(I)Z" } : Jvm.MethodName)) ∈ zT := zT_in (i := 644) (by decide +kernel) (by decide +kernel)
theorem zw_645 : (Jvm.Cond.code ({ cls := "DutyLedgerModel", name := "isDay", desc := "(I)Z" } : Jvm.MethodName) prog_6_method_4_code (1 : Nat) (Option.some Jvm.ClassFile.FieldType.boolean)) ∈ zT := zT_in (i := 645) (by decide +kernel) (by decide +kernel)
theorem zw_646 : (Jvm.Cond.constantLong "DutyLedgerModel" (64 : Nat) (100000 : Int64)) ∈ zT := zT_in (i := 646) (by decide +kernel) (by decide +kernel)
theorem zw_647 : (Jvm.Cond.methodLink "DutyLedgerModel" (85 : Nat) ({ cls := "DutyLedgerModel", name := "begin", desc := "(III)V" } : Jvm.MethodName)) ∈ zT := zT_in (i := 647) (by decide +kernel) (by decide +kernel)
theorem zw_649 : (Jvm.Cond.instanceMethod ({ cls := "DutyLedgerModel", name := "begin", desc := "(III)V" } : Jvm.MethodName)) ∈ zT := zT_in (i := 649) (by decide +kernel) (by decide +kernel)
theorem zw_650 : (Jvm.Cond.code ({ cls := "DutyLedgerModel", name := "begin", desc := "(III)V" } : Jvm.MethodName) prog_6_method_9_code (4 : Nat) (Option.none : Option Jvm.ClassFile.FieldType)) ∈ zT := zT_in (i := 650) (by decide +kernel) (by decide +kernel)
theorem zw_651 : (Jvm.Cond.methodLink "DutyLedgerLaw" (76 : Nat) ({ cls := "DutyLedgerModel", name := "row", desc := "(IIJ)Z" } : Jvm.MethodName)) ∈ zT := zT_in (i := 651) (by decide +kernel) (by decide +kernel)
theorem zw_652 : (Jvm.Cond.instanceMethod ({ cls := "DutyLedgerModel", name := "row", desc := "(IIJ)Z" } : Jvm.MethodName)) ∈ zT := zT_in (i := 652) (by decide +kernel) (by decide +kernel)
theorem zw_653 : (Jvm.Cond.selects "DutyLedgerModel" ({ cls := "DutyLedgerModel", name := "row", desc := "(IIJ)Z" } : Jvm.MethodName) ({ cls := "DutyLedgerModel", name := "row", desc := "(IIJ)Z" } : Jvm.MethodName)) ∈ zT := zT_in (i := 653) (by decide +kernel) (by decide +kernel)
theorem zw_654 : (Jvm.Cond.code ({ cls := "DutyLedgerModel", name := "row", desc := "(IIJ)Z" } : Jvm.MethodName) prog_6_method_11_code (5 : Nat) (Option.some Jvm.ClassFile.FieldType.boolean)) ∈ zT := zT_in (i := 654) (by decide +kernel) (by decide +kernel)
theorem zw_655 : (Jvm.Cond.methodLink "DutyLedgerModel" (89 : Nat) ({ cls := "DutyLedgerModel", name := "isOpen", desc := "(I)Z" } : Jvm.MethodName)) ∈ zT := zT_in (i := 655) (by decide +kernel) (by decide +kernel)
theorem zw_657 : (Jvm.Cond.instanceMethod ({ cls := "DutyLedgerModel", name := "isOpen", desc := "(I)Z" } : Jvm.MethodName)) ∈ zT := zT_in (i := 657) (by decide +kernel) (by decide +kernel)
theorem zw_658 : (Jvm.Cond.code ({ cls := "DutyLedgerModel", name := "isOpen", desc := "(I)Z" } : Jvm.MethodName) prog_6_method_7_code (2 : Nat) (Option.some Jvm.ClassFile.FieldType.boolean)) ∈ zT := zT_in (i := 658) (by decide +kernel) (by decide +kernel)
theorem zw_659 : (Jvm.Cond.methodLink "DutyLedgerModel" (92 : Nat) ({ cls := "DutyLedgerModel", name := "isAccount", desc := "(I)Z" } : Jvm.MethodName)) ∈ zT := zT_in (i := 659) (by decide +kernel) (by decide +kernel)
theorem zw_661 : (Jvm.Cond.instanceMethod ({ cls := "DutyLedgerModel", name := "isAccount", desc := "(I)Z" } : Jvm.MethodName)) ∈ zT := zT_in (i := 661) (by decide +kernel) (by decide +kernel)
theorem zw_662 : (Jvm.Cond.code ({ cls := "DutyLedgerModel", name := "isAccount", desc := "(I)Z" } : Jvm.MethodName) prog_6_method_6_code (2 : Nat) (Option.some Jvm.ClassFile.FieldType.boolean)) ∈ zT := zT_in (i := 662) (by decide +kernel) (by decide +kernel)
theorem zw_663 : (Jvm.Cond.constantLong "DutyLedgerModel" (95 : Nat) (-1000000000 : Int64)) ∈ zT := zT_in (i := 663) (by decide +kernel) (by decide +kernel)
theorem zw_664 : (Jvm.Cond.constantLong "DutyLedgerModel" (97 : Nat) (1000000000 : Int64)) ∈ zT := zT_in (i := 664) (by decide +kernel) (by decide +kernel)
theorem zw_665 : (Jvm.Cond.methodLink "DutyLedgerLaw" (81 : Nat) ({ cls := "DutyLedgerModel", name := "fails", desc := "(IZ)Z" } : Jvm.MethodName)) ∈ zT := zT_in (i := 665) (by decide +kernel) (by decide +kernel)
theorem zw_666 : (Jvm.Cond.instanceMethod ({ cls := "DutyLedgerModel", name := "fails", desc := "(IZ)Z" } : Jvm.MethodName)) ∈ zT := zT_in (i := 666) (by decide +kernel) (by decide +kernel)
theorem zw_667 : (Jvm.Cond.selects "DutyLedgerModel" ({ cls := "DutyLedgerModel", name := "fails", desc := "(IZ)Z" } : Jvm.MethodName) ({ cls := "DutyLedgerModel", name := "fails", desc := "(IZ)Z" } : Jvm.MethodName)) ∈ zT := zT_in (i := 667) (by decide +kernel) (by decide +kernel)
theorem zw_668 : (Jvm.Cond.code ({ cls := "DutyLedgerModel", name := "fails", desc := "(IZ)Z" } : Jvm.MethodName) prog_6_method_12_code (3 : Nat) (Option.some Jvm.ClassFile.FieldType.boolean)) ∈ zT := zT_in (i := 668) (by decide +kernel) (by decide +kernel)
theorem zw_669 : (Jvm.Cond.methodLink "DutyLedgerLaw" (84 : Nat) ({ cls := "DutyLedgerModel", name := "post", desc := "(I)I" } : Jvm.MethodName)) ∈ zT := zT_in (i := 669) (by decide +kernel) (by decide +kernel)
theorem zw_670 : (Jvm.Cond.instanceMethod ({ cls := "DutyLedgerModel", name := "post", desc := "(I)I" } : Jvm.MethodName)) ∈ zT := zT_in (i := 670) (by decide +kernel) (by decide +kernel)
theorem zw_671 : (Jvm.Cond.selects "DutyLedgerModel" ({ cls := "DutyLedgerModel", name := "post", desc := "(I)I" } : Jvm.MethodName) ({ cls := "DutyLedgerModel", name := "post", desc := "(I)I" } : Jvm.MethodName)) ∈ zT := zT_in (i := 671) (by decide +kernel) (by decide +kernel)
theorem zw_672 : (Jvm.Cond.code ({ cls := "DutyLedgerModel", name := "post", desc := "(I)I" } : Jvm.MethodName) prog_6_method_17_code (3 : Nat) (Option.some Jvm.ClassFile.FieldType.int)) ∈ zT := zT_in (i := 672) (by decide +kernel) (by decide +kernel)
theorem zw_673 : (Jvm.Cond.methodLink "DutyLedgerModel" (106 : Nat) ({ cls := "DutyLedgerModel", name := "wrongWith", desc := "(I)I" } : Jvm.MethodName)) ∈ zT := zT_in (i := 673) (by decide +kernel) (by decide +kernel)
theorem zw_675 : (Jvm.Cond.instanceMethod ({ cls := "DutyLedgerModel", name := "wrongWith", desc := "(I)I" } : Jvm.MethodName)) ∈ zT := zT_in (i := 675) (by decide +kernel) (by decide +kernel)
theorem zw_676 : (Jvm.Cond.code ({ cls := "DutyLedgerModel", name := "wrongWith", desc := "(I)I" } : Jvm.MethodName) prog_6_method_14_code (2 : Nat) (Option.some Jvm.ClassFile.FieldType.int)) ∈ zT := zT_in (i := 676) (by decide +kernel) (by decide +kernel)
theorem zw_677 : (Jvm.Cond.methodLink "DutyLedgerModel" (99 : Nat) ({ cls := "DutyLedgerModel", name := "sumIn", desc := "(II)J" } : Jvm.MethodName)) ∈ zT := zT_in (i := 677) (by decide +kernel) (by decide +kernel)
theorem zw_679 : (Jvm.Cond.instanceMethod ({ cls := "DutyLedgerModel", name := "sumIn", desc := "(II)J" } : Jvm.MethodName)) ∈ zT := zT_in (i := 679) (by decide +kernel) (by decide +kernel)
theorem zw_680 : (Jvm.Cond.code ({ cls := "DutyLedgerModel", name := "sumIn", desc := "(II)J" } : Jvm.MethodName) prog_6_method_13_code (6 : Nat) (Option.some Jvm.ClassFile.FieldType.long)) ∈ zT := zT_in (i := 680) (by decide +kernel) (by decide +kernel)
theorem zw_681 : (Jvm.Cond.methodLink "DutyLedgerModel" (113 : Nat) ({ cls := "DutyLedgerModel", name := "greatestIn", desc := "(I)I" } : Jvm.MethodName)) ∈ zT := zT_in (i := 681) (by decide +kernel) (by decide +kernel)
theorem zw_683 : (Jvm.Cond.instanceMethod ({ cls := "DutyLedgerModel", name := "greatestIn", desc := "(I)I" } : Jvm.MethodName)) ∈ zT := zT_in (i := 683) (by decide +kernel) (by decide +kernel)
theorem zw_684 : (Jvm.Cond.code ({ cls := "DutyLedgerModel", name := "greatestIn", desc := "(I)I" } : Jvm.MethodName) prog_6_method_16_code (8 : Nat) (Option.some Jvm.ClassFile.FieldType.int)) ∈ zT := zT_in (i := 684) (by decide +kernel) (by decide +kernel)
theorem zw_685 : (Jvm.Cond.methodLink "DutyLedgerModel" (119 : Nat) ({ cls := "DutyLedgerModel", name := "enter", desc := "(I)V" } : Jvm.MethodName)) ∈ zT := zT_in (i := 685) (by decide +kernel) (by decide +kernel)
theorem zw_687 : (Jvm.Cond.instanceMethod ({ cls := "DutyLedgerModel", name := "enter", desc := "(I)V" } : Jvm.MethodName)) ∈ zT := zT_in (i := 687) (by decide +kernel) (by decide +kernel)
theorem zw_688 : (Jvm.Cond.code ({ cls := "DutyLedgerModel", name := "enter", desc := "(I)V" } : Jvm.MethodName) prog_6_method_15_code (3 : Nat) (Option.none : Option Jvm.ClassFile.FieldType)) ∈ zT := zT_in (i := 688) (by decide +kernel) (by decide +kernel)
theorem zw_689 : (Jvm.Cond.methodLink "DutyLedgerLaw" (87 : Nat) ({ cls := "DutyLedgerModel", name := "reverse", desc := "(II)I" } : Jvm.MethodName)) ∈ zT := zT_in (i := 689) (by decide +kernel) (by decide +kernel)
theorem zw_690 : (Jvm.Cond.instanceMethod ({ cls := "DutyLedgerModel", name := "reverse", desc := "(II)I" } : Jvm.MethodName)) ∈ zT := zT_in (i := 690) (by decide +kernel) (by decide +kernel)
theorem zw_691 : (Jvm.Cond.selects "DutyLedgerModel" ({ cls := "DutyLedgerModel", name := "reverse", desc := "(II)I" } : Jvm.MethodName) ({ cls := "DutyLedgerModel", name := "reverse", desc := "(II)I" } : Jvm.MethodName)) ∈ zT := zT_in (i := 691) (by decide +kernel) (by decide +kernel)
theorem zw_692 : (Jvm.Cond.code ({ cls := "DutyLedgerModel", name := "reverse", desc := "(II)I" } : Jvm.MethodName) prog_6_method_18_code (6 : Nat) (Option.some Jvm.ClassFile.FieldType.int)) ∈ zT := zT_in (i := 692) (by decide +kernel) (by decide +kernel)
theorem zw_693 : (Jvm.Cond.methodLink "DutyLedgerLaw" (92 : Nat) ({ cls := "DutyLedgerModel", name := "close", desc := "(I)Z" } : Jvm.MethodName)) ∈ zT := zT_in (i := 693) (by decide +kernel) (by decide +kernel)
theorem zw_694 : (Jvm.Cond.instanceMethod ({ cls := "DutyLedgerModel", name := "close", desc := "(I)Z" } : Jvm.MethodName)) ∈ zT := zT_in (i := 694) (by decide +kernel) (by decide +kernel)
theorem zw_695 : (Jvm.Cond.selects "DutyLedgerModel" ({ cls := "DutyLedgerModel", name := "close", desc := "(I)Z" } : Jvm.MethodName) ({ cls := "DutyLedgerModel", name := "close", desc := "(I)Z" } : Jvm.MethodName)) ∈ zT := zT_in (i := 695) (by decide +kernel) (by decide +kernel)
theorem zw_696 : (Jvm.Cond.code ({ cls := "DutyLedgerModel", name := "close", desc := "(I)Z" } : Jvm.MethodName) prog_6_method_19_code (2 : Nat) (Option.some Jvm.ClassFile.FieldType.boolean)) ∈ zT := zT_in (i := 696) (by decide +kernel) (by decide +kernel)
theorem zw_697 : (Jvm.Cond.methodLink "DutyLedgerLaw" (96 : Nat) ({ cls := "DutyLedgerModel", name := "balance", desc := "(III)J" } : Jvm.MethodName)) ∈ zT := zT_in (i := 697) (by decide +kernel) (by decide +kernel)
theorem zw_698 : (Jvm.Cond.instanceMethod ({ cls := "DutyLedgerModel", name := "balance", desc := "(III)J" } : Jvm.MethodName)) ∈ zT := zT_in (i := 698) (by decide +kernel) (by decide +kernel)
theorem zw_699 : (Jvm.Cond.selects "DutyLedgerModel" ({ cls := "DutyLedgerModel", name := "balance", desc := "(III)J" } : Jvm.MethodName) ({ cls := "DutyLedgerModel", name := "balance", desc := "(III)J" } : Jvm.MethodName)) ∈ zT := zT_in (i := 699) (by decide +kernel) (by decide +kernel)
theorem zw_700 : (Jvm.Cond.code ({ cls := "DutyLedgerModel", name := "balance", desc := "(III)J" } : Jvm.MethodName) prog_6_method_21_code (4 : Nat) (Option.some Jvm.ClassFile.FieldType.long)) ∈ zT := zT_in (i := 700) (by decide +kernel) (by decide +kernel)
theorem zw_701 : (Jvm.Cond.methodLink "DutyLedgerModel" (123 : Nat) ({ cls := "DutyLedgerModel", name := "sum", desc := "(IIII)J" } : Jvm.MethodName)) ∈ zT := zT_in (i := 701) (by decide +kernel) (by decide +kernel)
theorem zw_703 : (Jvm.Cond.instanceMethod ({ cls := "DutyLedgerModel", name := "sum", desc := "(IIII)J" } : Jvm.MethodName)) ∈ zT := zT_in (i := 703) (by decide +kernel) (by decide +kernel)
theorem zw_704 : (Jvm.Cond.code ({ cls := "DutyLedgerModel", name := "sum", desc := "(IIII)J" } : Jvm.MethodName) prog_6_method_20_code (10 : Nat) (Option.some Jvm.ClassFile.FieldType.long)) ∈ zT := zT_in (i := 704) (by decide +kernel) (by decide +kernel)
theorem zw_705 : (Jvm.Cond.methodLink "DutyLedgerLaw" (99 : Nat) ({ cls := "DutyLedgerModel", name := "statement", desc := "(III)J" } : Jvm.MethodName)) ∈ zT := zT_in (i := 705) (by decide +kernel) (by decide +kernel)
theorem zw_706 : (Jvm.Cond.instanceMethod ({ cls := "DutyLedgerModel", name := "statement", desc := "(III)J" } : Jvm.MethodName)) ∈ zT := zT_in (i := 706) (by decide +kernel) (by decide +kernel)
theorem zw_707 : (Jvm.Cond.selects "DutyLedgerModel" ({ cls := "DutyLedgerModel", name := "statement", desc := "(III)J" } : Jvm.MethodName) ({ cls := "DutyLedgerModel", name := "statement", desc := "(III)J" } : Jvm.MethodName)) ∈ zT := zT_in (i := 707) (by decide +kernel) (by decide +kernel)
theorem zw_708 : (Jvm.Cond.code ({ cls := "DutyLedgerModel", name := "statement", desc := "(III)J" } : Jvm.MethodName) prog_6_method_22_code (4 : Nat) (Option.some Jvm.ClassFile.FieldType.long)) ∈ zT := zT_in (i := 708) (by decide +kernel) (by decide +kernel)
theorem zw_709 : (Jvm.Cond.constantLong "DutyLedgerModel" (127 : Nat) (3333 : Int64)) ∈ zT := zT_in (i := 709) (by decide +kernel) (by decide +kernel)
theorem zw_710 : (Jvm.Cond.methodLink "DutyLedgerLaw" (104 : Nat) ({ cls := "DutyLedgerModel", name := "part", desc := "(III)Z" } : Jvm.MethodName)) ∈ zT := zT_in (i := 710) (by decide +kernel) (by decide +kernel)
theorem zw_711 : (Jvm.Cond.instanceMethod ({ cls := "DutyLedgerModel", name := "part", desc := "(III)Z" } : Jvm.MethodName)) ∈ zT := zT_in (i := 711) (by decide +kernel) (by decide +kernel)
theorem zw_712 : (Jvm.Cond.selects "DutyLedgerModel" ({ cls := "DutyLedgerModel", name := "part", desc := "(III)Z" } : Jvm.MethodName) ({ cls := "DutyLedgerModel", name := "part", desc := "(III)Z" } : Jvm.MethodName)) ∈ zT := zT_in (i := 712) (by decide +kernel) (by decide +kernel)
theorem zw_713 : (Jvm.Cond.code ({ cls := "DutyLedgerModel", name := "part", desc := "(III)Z" } : Jvm.MethodName) prog_6_method_23_code (4 : Nat) (Option.some Jvm.ClassFile.FieldType.boolean)) ∈ zT := zT_in (i := 713) (by decide +kernel) (by decide +kernel)
theorem zw_714 : (Jvm.Cond.constantLong "DutyLedgerModel" (129 : Nat) (3 : Int64)) ∈ zT := zT_in (i := 714) (by decide +kernel) (by decide +kernel)
theorem zw_715 : (Jvm.Cond.constantLong "DutyLedgerModel" (131 : Nat) (1000 : Int64)) ∈ zT := zT_in (i := 715) (by decide +kernel) (by decide +kernel)
theorem zw_716 : (Jvm.Cond.methodLink "DutyLedgerLaw" (109 : Nat) ({ cls := "DutyLedgerModel", name := "cost", desc := "(II)Z" } : Jvm.MethodName)) ∈ zT := zT_in (i := 716) (by decide +kernel) (by decide +kernel)
theorem zw_717 : (Jvm.Cond.instanceMethod ({ cls := "DutyLedgerModel", name := "cost", desc := "(II)Z" } : Jvm.MethodName)) ∈ zT := zT_in (i := 717) (by decide +kernel) (by decide +kernel)
theorem zw_718 : (Jvm.Cond.selects "DutyLedgerModel" ({ cls := "DutyLedgerModel", name := "cost", desc := "(II)Z" } : Jvm.MethodName) ({ cls := "DutyLedgerModel", name := "cost", desc := "(II)Z" } : Jvm.MethodName)) ∈ zT := zT_in (i := 718) (by decide +kernel) (by decide +kernel)
theorem zw_719 : (Jvm.Cond.code ({ cls := "DutyLedgerModel", name := "cost", desc := "(II)Z" } : Jvm.MethodName) prog_6_method_24_code (3 : Nat) (Option.some Jvm.ClassFile.FieldType.boolean)) ∈ zT := zT_in (i := 719) (by decide +kernel) (by decide +kernel)
theorem zw_720 : (Jvm.Cond.methodLink "DutyLedgerLaw" (112 : Nat) ({ cls := "DutyLedgerModel", name := "passed", desc := "(III)J" } : Jvm.MethodName)) ∈ zT := zT_in (i := 720) (by decide +kernel) (by decide +kernel)
theorem zw_721 : (Jvm.Cond.instanceMethod ({ cls := "DutyLedgerModel", name := "passed", desc := "(III)J" } : Jvm.MethodName)) ∈ zT := zT_in (i := 721) (by decide +kernel) (by decide +kernel)
theorem zw_722 : (Jvm.Cond.selects "DutyLedgerModel" ({ cls := "DutyLedgerModel", name := "passed", desc := "(III)J" } : Jvm.MethodName) ({ cls := "DutyLedgerModel", name := "passed", desc := "(III)J" } : Jvm.MethodName)) ∈ zT := zT_in (i := 722) (by decide +kernel) (by decide +kernel)
theorem zw_723 : (Jvm.Cond.code ({ cls := "DutyLedgerModel", name := "passed", desc := "(III)J" } : Jvm.MethodName) prog_6_method_28_code (11 : Nat) (Option.some Jvm.ClassFile.FieldType.long)) ∈ zT := zT_in (i := 723) (by decide +kernel) (by decide +kernel)
theorem zw_724 : (Jvm.Cond.constantLong "DutyLedgerModel" (137 : Nat) (6 : Int64)) ∈ zT := zT_in (i := 724) (by decide +kernel) (by decide +kernel)
theorem zw_725 : (Jvm.Cond.methodLink "DutyLedgerModel" (139 : Nat) ({ cls := "DutyLedgerModel", name := "sumOf", desc := "(II)J" } : Jvm.MethodName)) ∈ zT := zT_in (i := 725) (by decide +kernel) (by decide +kernel)
theorem zw_727 : (Jvm.Cond.instanceMethod ({ cls := "DutyLedgerModel", name := "sumOf", desc := "(II)J" } : Jvm.MethodName)) ∈ zT := zT_in (i := 727) (by decide +kernel) (by decide +kernel)
theorem zw_728 : (Jvm.Cond.code ({ cls := "DutyLedgerModel", name := "sumOf", desc := "(II)J" } : Jvm.MethodName) prog_6_method_26_code (6 : Nat) (Option.some Jvm.ClassFile.FieldType.long)) ∈ zT := zT_in (i := 728) (by decide +kernel) (by decide +kernel)
theorem zw_729 : (Jvm.Cond.constant "DutyLedgerModel" (133 : Nat) (100000 : Int32)) ∈ zT := zT_in (i := 729) (by decide +kernel) (by decide +kernel)
theorem zw_730 : (Jvm.Cond.methodLink "DutyLedgerModel" (142 : Nat) ({ cls := "DutyLedgerModel", name := "share", desc := "(IIJ)J" } : Jvm.MethodName)) ∈ zT := zT_in (i := 730) (by decide +kernel) (by decide +kernel)
theorem zw_732 : (Jvm.Cond.instanceMethod ({ cls := "DutyLedgerModel", name := "share", desc := "(IIJ)J" } : Jvm.MethodName)) ∈ zT := zT_in (i := 732) (by decide +kernel) (by decide +kernel)
theorem zw_733 : (Jvm.Cond.code ({ cls := "DutyLedgerModel", name := "share", desc := "(IIJ)J" } : Jvm.MethodName) prog_6_method_27_code (14 : Nat) (Option.some Jvm.ClassFile.FieldType.long)) ∈ zT := zT_in (i := 733) (by decide +kernel) (by decide +kernel)
theorem zw_734 : (Jvm.Cond.methodLink "DutyLedgerModel" (134 : Nat) ({ cls := "DutyLedgerModel", name := "partsOf", desc := "(I)I" } : Jvm.MethodName)) ∈ zT := zT_in (i := 734) (by decide +kernel) (by decide +kernel)
theorem zw_736 : (Jvm.Cond.instanceMethod ({ cls := "DutyLedgerModel", name := "partsOf", desc := "(I)I" } : Jvm.MethodName)) ∈ zT := zT_in (i := 736) (by decide +kernel) (by decide +kernel)
theorem zw_737 : (Jvm.Cond.code ({ cls := "DutyLedgerModel", name := "partsOf", desc := "(I)I" } : Jvm.MethodName) prog_6_method_25_code (2 : Nat) (Option.some Jvm.ClassFile.FieldType.int)) ∈ zT := zT_in (i := 737) (by decide +kernel) (by decide +kernel)
theorem zw_738 : (Jvm.Cond.methodLink "DutyLedgerLaw" (116 : Nat) ({ cls := "DutyLedgerModel", name := "reconcile", desc := "(IIII)J" } : Jvm.MethodName)) ∈ zT := zT_in (i := 738) (by decide +kernel) (by decide +kernel)
theorem zw_739 : (Jvm.Cond.instanceMethod ({ cls := "DutyLedgerModel", name := "reconcile", desc := "(IIII)J" } : Jvm.MethodName)) ∈ zT := zT_in (i := 739) (by decide +kernel) (by decide +kernel)
theorem zw_740 : (Jvm.Cond.selects "DutyLedgerModel" ({ cls := "DutyLedgerModel", name := "reconcile", desc := "(IIII)J" } : Jvm.MethodName) ({ cls := "DutyLedgerModel", name := "reconcile", desc := "(IIII)J" } : Jvm.MethodName)) ∈ zT := zT_in (i := 740) (by decide +kernel) (by decide +kernel)
theorem zw_741 : (Jvm.Cond.code ({ cls := "DutyLedgerModel", name := "reconcile", desc := "(IIII)J" } : Jvm.MethodName) prog_6_method_29_code (5 : Nat) (Option.some Jvm.ClassFile.FieldType.long)) ∈ zT := zT_in (i := 741) (by decide +kernel) (by decide +kernel)
theorem zw_742 : (Jvm.Cond.methodLink "DutyLedgerLaw" (119 : Nat) ({ cls := "DutyLedgerModel", name := "read", desc := "(II)J" } : Jvm.MethodName)) ∈ zT := zT_in (i := 742) (by decide +kernel) (by decide +kernel)
theorem zw_743 : (Jvm.Cond.instanceMethod ({ cls := "DutyLedgerModel", name := "read", desc := "(II)J" } : Jvm.MethodName)) ∈ zT := zT_in (i := 743) (by decide +kernel) (by decide +kernel)
theorem zw_744 : (Jvm.Cond.selects "DutyLedgerModel" ({ cls := "DutyLedgerModel", name := "read", desc := "(II)J" } : Jvm.MethodName) ({ cls := "DutyLedgerModel", name := "read", desc := "(II)J" } : Jvm.MethodName)) ∈ zT := zT_in (i := 744) (by decide +kernel) (by decide +kernel)
theorem zw_745 : (Jvm.Cond.code ({ cls := "DutyLedgerModel", name := "read", desc := "(II)J" } : Jvm.MethodName) prog_6_method_30_code (4 : Nat) (Option.some Jvm.ClassFile.FieldType.long)) ∈ zT := zT_in (i := 745) (by decide +kernel) (by decide +kernel)
theorem zw_746 : (Jvm.Cond.methodLink "DutyLedgerLaw" (122 : Nat) ({ cls := "DutyLedgerModel", name := "look", desc := "(II)I" } : Jvm.MethodName)) ∈ zT := zT_in (i := 746) (by decide +kernel) (by decide +kernel)
theorem zw_747 : (Jvm.Cond.instanceMethod ({ cls := "DutyLedgerModel", name := "look", desc := "(II)I" } : Jvm.MethodName)) ∈ zT := zT_in (i := 747) (by decide +kernel) (by decide +kernel)
theorem zw_748 : (Jvm.Cond.selects "DutyLedgerModel" ({ cls := "DutyLedgerModel", name := "look", desc := "(II)I" } : Jvm.MethodName) ({ cls := "DutyLedgerModel", name := "look", desc := "(II)I" } : Jvm.MethodName)) ∈ zT := zT_in (i := 748) (by decide +kernel) (by decide +kernel)
theorem zw_749 : (Jvm.Cond.code ({ cls := "DutyLedgerModel", name := "look", desc := "(II)I" } : Jvm.MethodName) prog_6_method_31_code (3 : Nat) (Option.some Jvm.ClassFile.FieldType.int)) ∈ zT := zT_in (i := 749) (by decide +kernel) (by decide +kernel)
theorem zw_750 : (Jvm.Cond.methodLink "DutyLedgerLaw" (126 : Nat) ({ cls := "DutyLedgerModel", name := "count", desc := "(I)I" } : Jvm.MethodName)) ∈ zT := zT_in (i := 750) (by decide +kernel) (by decide +kernel)
theorem zw_751 : (Jvm.Cond.instanceMethod ({ cls := "DutyLedgerModel", name := "count", desc := "(I)I" } : Jvm.MethodName)) ∈ zT := zT_in (i := 751) (by decide +kernel) (by decide +kernel)
theorem zw_752 : (Jvm.Cond.selects "DutyLedgerModel" ({ cls := "DutyLedgerModel", name := "count", desc := "(I)I" } : Jvm.MethodName) ({ cls := "DutyLedgerModel", name := "count", desc := "(I)I" } : Jvm.MethodName)) ∈ zT := zT_in (i := 752) (by decide +kernel) (by decide +kernel)
theorem zw_753 : (Jvm.Cond.code ({ cls := "DutyLedgerModel", name := "count", desc := "(I)I" } : Jvm.MethodName) prog_6_method_32_code (2 : Nat) (Option.some Jvm.ClassFile.FieldType.int)) ∈ zT := zT_in (i := 753) (by decide +kernel) (by decide +kernel)
theorem zw_754 : (Jvm.Cond.constantLong "DutyLedgerLaw" (70 : Nat) (4294967295 : Int64)) ∈ zT := zT_in (i := 754) (by decide +kernel) (by decide +kernel)
theorem nmBa : ∀ a, a < 9 → ∀ b, b < 9 → a ≠ b → (TBa a).2.1 ≠ (TBa b).2.1 := by decide +kernel
theorem tkBa : ∀ k, k < 9 → parseFieldDescriptor (TBa k).2.2.1 = some (tyBa k) := by decide +kernel
theorem inBa : ∀ w ∈ u_ws RBa TBa 9, w ∈ zT := List.forall_mem_cons.mpr ⟨zw_328, List.forall_mem_cons.mpr ⟨zw_330, List.forall_mem_cons.mpr ⟨zw_332, List.forall_mem_cons.mpr ⟨zw_334, List.forall_mem_cons.mpr ⟨zw_336, List.forall_mem_cons.mpr ⟨zw_338, List.forall_mem_cons.mpr ⟨zw_340, List.forall_mem_cons.mpr ⟨zw_342, List.forall_mem_cons.mpr ⟨zw_344, fun _ h => absurd h List.not_mem_nil⟩⟩⟩⟩⟩⟩⟩⟩⟩
theorem nmBk : ∀ a, a < 7 → ∀ b, b < 7 → a ≠ b → (TBk a).2.1 ≠ (TBk b).2.1 := by decide +kernel
theorem tkBk : ∀ k, k < 7 → parseFieldDescriptor (TBk k).2.2.1 = some (tyBk k) := by decide +kernel
theorem inBk : ∀ w ∈ u_ws RBk TBk 7, w ∈ zT := List.forall_mem_cons.mpr ⟨zw_71, List.forall_mem_cons.mpr ⟨zw_73, List.forall_mem_cons.mpr ⟨zw_75, List.forall_mem_cons.mpr ⟨zw_77, List.forall_mem_cons.mpr ⟨zw_79, List.forall_mem_cons.mpr ⟨zw_81, List.forall_mem_cons.mpr ⟨zw_83, fun _ h => absurd h List.not_mem_nil⟩⟩⟩⟩⟩⟩⟩
theorem nmSh : ∀ a, a < 2 → ∀ b, b < 2 → a ≠ b → (TSh a).2.1 ≠ (TSh b).2.1 := by decide +kernel
theorem tkSh : ∀ k, k < 2 → parseFieldDescriptor (TSh k).2.2.1 = some (tySh k) := by decide +kernel
theorem inSh : ∀ w ∈ u_ws RSh TSh 2, w ∈ zT := List.forall_mem_cons.mpr ⟨zw_96, List.forall_mem_cons.mpr ⟨zw_98, fun _ h => absurd h List.not_mem_nil⟩⟩
theorem nmDu : ∀ a, a < 11 → ∀ b, b < 11 → a ≠ b → (TDu a).2.1 ≠ (TDu b).2.1 := by decide +kernel
theorem tkDu : ∀ k, k < 11 → parseFieldDescriptor (TDu k).2.2.1 = some (tyDu k) := by decide +kernel
theorem inDu : ∀ w ∈ u_ws RDu TDu 11, w ∈ zT := List.forall_mem_cons.mpr ⟨zw_112, List.forall_mem_cons.mpr ⟨zw_114, List.forall_mem_cons.mpr ⟨zw_116, List.forall_mem_cons.mpr ⟨zw_118, List.forall_mem_cons.mpr ⟨zw_120, List.forall_mem_cons.mpr ⟨zw_122, List.forall_mem_cons.mpr ⟨zw_124, List.forall_mem_cons.mpr ⟨zw_126, List.forall_mem_cons.mpr ⟨zw_128, List.forall_mem_cons.mpr ⟨zw_130, List.forall_mem_cons.mpr ⟨zw_132, fun _ h => absurd h List.not_mem_nil⟩⟩⟩⟩⟩⟩⟩⟩⟩⟩⟩
theorem nmMo : ∀ a, a < 22 → ∀ b, b < 22 → a ≠ b → (TMo a).2.1 ≠ (TMo b).2.1 := by decide +kernel
theorem tkMo : ∀ k, k < 22 → parseFieldDescriptor (TMo k).2.2.1 = some (tyMo k) := by decide +kernel
theorem inMo : ∀ w ∈ u_ws RMo TMo 22, w ∈ zT := List.forall_mem_cons.mpr ⟨zw_578, List.forall_mem_cons.mpr ⟨zw_580, List.forall_mem_cons.mpr ⟨zw_582, List.forall_mem_cons.mpr ⟨zw_584, List.forall_mem_cons.mpr ⟨zw_586, List.forall_mem_cons.mpr ⟨zw_588, List.forall_mem_cons.mpr ⟨zw_590, List.forall_mem_cons.mpr ⟨zw_592, List.forall_mem_cons.mpr ⟨zw_594, List.forall_mem_cons.mpr ⟨zw_596, List.forall_mem_cons.mpr ⟨zw_598, List.forall_mem_cons.mpr ⟨zw_600, List.forall_mem_cons.mpr ⟨zw_602, List.forall_mem_cons.mpr ⟨zw_604, List.forall_mem_cons.mpr ⟨zw_606, List.forall_mem_cons.mpr ⟨zw_608, List.forall_mem_cons.mpr ⟨zw_610, List.forall_mem_cons.mpr ⟨zw_612, List.forall_mem_cons.mpr ⟨zw_614, List.forall_mem_cons.mpr ⟨zw_616, List.forall_mem_cons.mpr ⟨zw_618, List.forall_mem_cons.mpr ⟨zw_620, fun _ h => absurd h List.not_mem_nil⟩⟩⟩⟩⟩⟩⟩⟩⟩⟩⟩⟩⟩⟩⟩⟩⟩⟩⟩⟩⟩⟩
end
section
theorem dBa_take_0 : decode bBa_take 0 = .ok (.aload_n 0, 1) := by decide +kernel
theorem dBa_take_1 : decode bBa_take 1 = .ok (.getfield 19, 3) := by decide +kernel
theorem dBa_take_4 : decode bBa_take 4 = .ok (.bipush 20, 2) := by decide +kernel
theorem dBa_take_6 : decode bBa_take 6 = .ok (.if_icmp .lt 5, 3) := by decide +kernel
theorem dBa_take_9 : decode bBa_take 9 = .ok (.iconst 0, 1) := by decide +kernel
theorem dBa_take_10 : decode bBa_take 10 = .ok (.ireturn, 1) := by decide +kernel
theorem dBa_take_11 : decode bBa_take 11 = .ok (.aload_n 0, 1) := by decide +kernel
theorem dBa_take_12 : decode bBa_take 12 = .ok (.getfield 9, 3) := by decide +kernel
theorem dBa_take_15 : decode bBa_take 15 = .ok (.aload_n 0, 1) := by decide +kernel
theorem dBa_take_16 : decode bBa_take 16 = .ok (.getfield 19, 3) := by decide +kernel
theorem dBa_take_19 : decode bBa_take 19 = .ok (.iload_n 1, 1) := by decide +kernel
theorem dBa_take_20 : decode bBa_take 20 = .ok (.iastore, 1) := by decide +kernel
theorem dBa_take_21 : decode bBa_take 21 = .ok (.aload_n 0, 1) := by decide +kernel
theorem dBa_take_22 : decode bBa_take 22 = .ok (.getfield 15, 3) := by decide +kernel
theorem dBa_take_25 : decode bBa_take 25 = .ok (.aload_n 0, 1) := by decide +kernel
theorem dBa_take_26 : decode bBa_take 26 = .ok (.getfield 19, 3) := by decide +kernel
theorem dBa_take_29 : decode bBa_take 29 = .ok (.lload_n 2, 1) := by decide +kernel
theorem dBa_take_30 : decode bBa_take 30 = .ok (.lastore, 1) := by decide +kernel
theorem dBa_take_31 : decode bBa_take 31 = .ok (.aload_n 0, 1) := by decide +kernel
theorem dBa_take_32 : decode bBa_take 32 = .ok (.dup, 1) := by decide +kernel
theorem dBa_take_33 : decode bBa_take 33 = .ok (.getfield 19, 3) := by decide +kernel
theorem dBa_take_36 : decode bBa_take 36 = .ok (.iconst 1, 1) := by decide +kernel
theorem dBa_take_37 : decode bBa_take 37 = .ok (.iadd, 1) := by decide +kernel
theorem dBa_take_38 : decode bBa_take 38 = .ok (.putfield 19, 3) := by decide +kernel
theorem dBa_take_41 : decode bBa_take 41 = .ok (.iconst 1, 1) := by decide +kernel
theorem dBa_take_42 : decode bBa_take 42 = .ok (.ireturn, 1) := by decide +kernel
theorem dBa_init_0 : decode bBa_init 0 = .ok (.aload_n 0, 1) := by decide +kernel
theorem dBa_init_1 : decode bBa_init 1 = .ok (.invokespecial 3, 3) := by decide +kernel
theorem dBa_init_4 : decode bBa_init 4 = .ok (.aload_n 0, 1) := by decide +kernel
theorem dBa_init_5 : decode bBa_init 5 = .ok (.bipush 20, 2) := by decide +kernel
theorem dBa_init_7 : decode bBa_init 7 = .ok (.newarray .int, 2) := by decide +kernel
theorem dBa_init_9 : decode bBa_init 9 = .ok (.putfield 9, 3) := by decide +kernel
theorem dBa_init_12 : decode bBa_init 12 = .ok (.aload_n 0, 1) := by decide +kernel
theorem dBa_init_13 : decode bBa_init 13 = .ok (.bipush 20, 2) := by decide +kernel
theorem dBa_init_15 : decode bBa_init 15 = .ok (.newarray .long, 2) := by decide +kernel
theorem dBa_init_17 : decode bBa_init 17 = .ok (.putfield 15, 3) := by decide +kernel
theorem dBa_init_20 : decode bBa_init 20 = .ok (.aload_n 0, 1) := by decide +kernel
theorem dBa_init_21 : decode bBa_init 21 = .ok (.iconst 0, 1) := by decide +kernel
theorem dBa_init_22 : decode bBa_init 22 = .ok (.putfield 19, 3) := by decide +kernel
theorem dBa_init_25 : decode bBa_init 25 = .ok (.aload_n 0, 1) := by decide +kernel
theorem dBa_init_26 : decode bBa_init 26 = .ok (.iconst 0, 1) := by decide +kernel
theorem dBa_init_27 : decode bBa_init 27 = .ok (.putfield 23, 3) := by decide +kernel
theorem dBa_init_30 : decode bBa_init 30 = .ok (.aload_n 0, 1) := by decide +kernel
theorem dBa_init_31 : decode bBa_init 31 = .ok (.iconst (-1), 1) := by decide +kernel
theorem dBa_init_32 : decode bBa_init 32 = .ok (.putfield 26, 3) := by decide +kernel
theorem dBa_init_35 : decode bBa_init 35 = .ok (.aload_n 0, 1) := by decide +kernel
theorem dBa_init_36 : decode bBa_init 36 = .ok (.iconst 0, 1) := by decide +kernel
theorem dBa_init_37 : decode bBa_init 37 = .ok (.putfield 29, 3) := by decide +kernel
theorem dBa_init_40 : decode bBa_init 40 = .ok (.aload_n 0, 1) := by decide +kernel
theorem dBa_init_41 : decode bBa_init 41 = .ok (.iload_n 1, 1) := by decide +kernel
theorem dBa_init_42 : decode bBa_init 42 = .ok (.putfield 33, 3) := by decide +kernel
theorem dBa_init_45 : decode bBa_init 45 = .ok (.aload_n 0, 1) := by decide +kernel
theorem dBa_init_46 : decode bBa_init 46 = .ok (.iload_n 2, 1) := by decide +kernel
theorem dBa_init_47 : decode bBa_init 47 = .ok (.putfield 36, 3) := by decide +kernel
theorem dBa_init_50 : decode bBa_init 50 = .ok (.aload_n 0, 1) := by decide +kernel
theorem dBa_init_51 : decode bBa_init 51 = .ok (.iload_n 3, 1) := by decide +kernel
theorem dBa_init_52 : decode bBa_init 52 = .ok (.putfield 39, 3) := by decide +kernel
theorem dBa_init_55 : decode bBa_init 55 = .ok (.return_, 1) := by decide +kernel
theorem dBa_sum_0 : decode bBa_sum 0 = .ok (.lconst 0, 1) := by decide +kernel
theorem dBa_sum_1 : decode bBa_sum 1 = .ok (.lstore_n 1, 1) := by decide +kernel
theorem dBa_sum_2 : decode bBa_sum 2 = .ok (.iconst 0, 1) := by decide +kernel
theorem dBa_sum_3 : decode bBa_sum 3 = .ok (.istore_n 3, 1) := by decide +kernel
theorem dBa_sum_4 : decode bBa_sum 4 = .ok (.iload_n 3, 1) := by decide +kernel
theorem dBa_sum_5 : decode bBa_sum 5 = .ok (.aload_n 0, 1) := by decide +kernel
theorem dBa_sum_6 : decode bBa_sum 6 = .ok (.getfield 19, 3) := by decide +kernel
theorem dBa_sum_9 : decode bBa_sum 9 = .ok (.if_icmp .ge 18, 3) := by decide +kernel
theorem dBa_sum_12 : decode bBa_sum 12 = .ok (.lload_n 1, 1) := by decide +kernel
theorem dBa_sum_13 : decode bBa_sum 13 = .ok (.aload_n 0, 1) := by decide +kernel
theorem dBa_sum_14 : decode bBa_sum 14 = .ok (.getfield 15, 3) := by decide +kernel
theorem dBa_sum_17 : decode bBa_sum 17 = .ok (.iload_n 3, 1) := by decide +kernel
theorem dBa_sum_18 : decode bBa_sum 18 = .ok (.laload, 1) := by decide +kernel
theorem dBa_sum_19 : decode bBa_sum 19 = .ok (.ladd, 1) := by decide +kernel
theorem dBa_sum_20 : decode bBa_sum 20 = .ok (.lstore_n 1, 1) := by decide +kernel
theorem dBa_sum_21 : decode bBa_sum 21 = .ok (.iinc 3 1, 3) := by decide +kernel
theorem dBa_sum_24 : decode bBa_sum 24 = .ok (.goto (-20), 3) := by decide +kernel
theorem dBa_sum_27 : decode bBa_sum 27 = .ok (.lload_n 1, 1) := by decide +kernel
theorem dBa_sum_28 : decode bBa_sum 28 = .ok (.lreturn, 1) := by decide +kernel
theorem dBa_sumOf_0 : decode bBa_sumOf 0 = .ok (.lconst 0, 1) := by decide +kernel
theorem dBa_sumOf_1 : decode bBa_sumOf 1 = .ok (.lstore_n 2, 1) := by decide +kernel
theorem dBa_sumOf_2 : decode bBa_sumOf 2 = .ok (.iconst 0, 1) := by decide +kernel
theorem dBa_sumOf_3 : decode bBa_sumOf 3 = .ok (.istore 4, 2) := by decide +kernel
theorem dBa_sumOf_5 : decode bBa_sumOf 5 = .ok (.iload 4, 2) := by decide +kernel
theorem dBa_sumOf_7 : decode bBa_sumOf 7 = .ok (.aload_n 0, 1) := by decide +kernel
theorem dBa_sumOf_8 : decode bBa_sumOf 8 = .ok (.getfield 19, 3) := by decide +kernel
theorem dBa_sumOf_11 : decode bBa_sumOf 11 = .ok (.if_icmp .ge 30, 3) := by decide +kernel
theorem dBa_sumOf_14 : decode bBa_sumOf 14 = .ok (.aload_n 0, 1) := by decide +kernel
theorem dBa_sumOf_15 : decode bBa_sumOf 15 = .ok (.getfield 9, 3) := by decide +kernel
theorem dBa_sumOf_18 : decode bBa_sumOf 18 = .ok (.iload 4, 2) := by decide +kernel
theorem dBa_sumOf_20 : decode bBa_sumOf 20 = .ok (.iaload, 1) := by decide +kernel
theorem dBa_sumOf_21 : decode bBa_sumOf 21 = .ok (.iload_n 1, 1) := by decide +kernel
theorem dBa_sumOf_22 : decode bBa_sumOf 22 = .ok (.if_icmp .ne 13, 3) := by decide +kernel
theorem dBa_sumOf_25 : decode bBa_sumOf 25 = .ok (.lload_n 2, 1) := by decide +kernel
theorem dBa_sumOf_26 : decode bBa_sumOf 26 = .ok (.aload_n 0, 1) := by decide +kernel
theorem dBa_sumOf_27 : decode bBa_sumOf 27 = .ok (.getfield 15, 3) := by decide +kernel
theorem dBa_sumOf_30 : decode bBa_sumOf 30 = .ok (.iload 4, 2) := by decide +kernel
theorem dBa_sumOf_32 : decode bBa_sumOf 32 = .ok (.laload, 1) := by decide +kernel
theorem dBa_sumOf_33 : decode bBa_sumOf 33 = .ok (.ladd, 1) := by decide +kernel
theorem dBa_sumOf_34 : decode bBa_sumOf 34 = .ok (.lstore_n 2, 1) := by decide +kernel
theorem dBa_sumOf_35 : decode bBa_sumOf 35 = .ok (.iinc 4 1, 3) := by decide +kernel
theorem dBa_sumOf_38 : decode bBa_sumOf 38 = .ok (.goto (-33), 3) := by decide +kernel
theorem dBa_sumOf_41 : decode bBa_sumOf 41 = .ok (.lload_n 2, 1) := by decide +kernel
theorem dBa_sumOf_42 : decode bBa_sumOf 42 = .ok (.lreturn, 1) := by decide +kernel
theorem dBk_init_0 : decode bBk_init 0 = .ok (.aload_n 0, 1) := by decide +kernel
theorem dBk_init_1 : decode bBk_init 1 = .ok (.invokespecial 3, 3) := by decide +kernel
theorem dBk_init_4 : decode bBk_init 4 = .ok (.aload_n 0, 1) := by decide +kernel
theorem dBk_init_5 : decode bBk_init 5 = .ok (.sipush 400, 3) := by decide +kernel
theorem dBk_init_8 : decode bBk_init 8 = .ok (.newarray .int, 2) := by decide +kernel
theorem dBk_init_10 : decode bBk_init 10 = .ok (.putfield 9, 3) := by decide +kernel
theorem dBk_init_13 : decode bBk_init 13 = .ok (.aload_n 0, 1) := by decide +kernel
theorem dBk_init_14 : decode bBk_init 14 = .ok (.sipush 400, 3) := by decide +kernel
theorem dBk_init_17 : decode bBk_init 17 = .ok (.newarray .int, 2) := by decide +kernel
theorem dBk_init_19 : decode bBk_init 19 = .ok (.putfield 15, 3) := by decide +kernel
theorem dBk_init_22 : decode bBk_init 22 = .ok (.aload_n 0, 1) := by decide +kernel
theorem dBk_init_23 : decode bBk_init 23 = .ok (.sipush 400, 3) := by decide +kernel
theorem dBk_init_26 : decode bBk_init 26 = .ok (.newarray .long, 2) := by decide +kernel
theorem dBk_init_28 : decode bBk_init 28 = .ok (.putfield 18, 3) := by decide +kernel
theorem dBk_init_31 : decode bBk_init 31 = .ok (.aload_n 0, 1) := by decide +kernel
theorem dBk_init_32 : decode bBk_init 32 = .ok (.sipush 400, 3) := by decide +kernel
theorem dBk_init_35 : decode bBk_init 35 = .ok (.newarray .int, 2) := by decide +kernel
theorem dBk_init_37 : decode bBk_init 37 = .ok (.putfield 22, 3) := by decide +kernel
theorem dBk_init_40 : decode bBk_init 40 = .ok (.aload_n 0, 1) := by decide +kernel
theorem dBk_init_41 : decode bBk_init 41 = .ok (.sipush 400, 3) := by decide +kernel
theorem dBk_init_44 : decode bBk_init 44 = .ok (.newarray .int, 2) := by decide +kernel
theorem dBk_init_46 : decode bBk_init 46 = .ok (.putfield 25, 3) := by decide +kernel
theorem dBk_init_49 : decode bBk_init 49 = .ok (.aload_n 0, 1) := by decide +kernel
theorem dBk_init_50 : decode bBk_init 50 = .ok (.iconst 0, 1) := by decide +kernel
theorem dBk_init_51 : decode bBk_init 51 = .ok (.putfield 28, 3) := by decide +kernel
theorem dBk_init_54 : decode bBk_init 54 = .ok (.aload_n 0, 1) := by decide +kernel
theorem dBk_init_55 : decode bBk_init 55 = .ok (.iconst 0, 1) := by decide +kernel
theorem dBk_init_56 : decode bBk_init 56 = .ok (.putfield 32, 3) := by decide +kernel
theorem dBk_init_59 : decode bBk_init 59 = .ok (.return_, 1) := by decide +kernel
theorem dBk_hasRoomFor_0 : decode bBk_hasRoomFor 0 = .ok (.iload_n 1, 1) := by decide +kernel
theorem dBk_hasRoomFor_1 : decode bBk_hasRoomFor 1 = .ok (.sipush 400, 3) := by decide +kernel
theorem dBk_hasRoomFor_4 : decode bBk_hasRoomFor 4 = .ok (.aload_n 0, 1) := by decide +kernel
theorem dBk_hasRoomFor_5 : decode bBk_hasRoomFor 5 = .ok (.getfield 28, 3) := by decide +kernel
theorem dBk_hasRoomFor_8 : decode bBk_hasRoomFor 8 = .ok (.isub, 1) := by decide +kernel
theorem dBk_hasRoomFor_9 : decode bBk_hasRoomFor 9 = .ok (.if_icmp .gt 7, 3) := by decide +kernel
theorem dBk_hasRoomFor_12 : decode bBk_hasRoomFor 12 = .ok (.iconst 1, 1) := by decide +kernel
theorem dBk_hasRoomFor_13 : decode bBk_hasRoomFor 13 = .ok (.goto 4, 3) := by decide +kernel
theorem dBk_hasRoomFor_16 : decode bBk_hasRoomFor 16 = .ok (.iconst 0, 1) := by decide +kernel
theorem dBk_hasRoomFor_17 : decode bBk_hasRoomFor 17 = .ok (.ireturn, 1) := by decide +kernel
theorem dBk_bringIn_0 : decode bBk_bringIn 0 = .ok (.iconst 0, 1) := by decide +kernel
theorem dBk_bringIn_1 : decode bBk_bringIn 1 = .ok (.istore 4, 2) := by decide +kernel
theorem dBk_bringIn_3 : decode bBk_bringIn 3 = .ok (.iload 4, 2) := by decide +kernel
theorem dBk_bringIn_5 : decode bBk_bringIn 5 = .ok (.iload_n 3, 1) := by decide +kernel
theorem dBk_bringIn_6 : decode bBk_bringIn 6 = .ok (.if_icmp .ge 97, 3) := by decide +kernel
theorem dBk_bringIn_9 : decode bBk_bringIn 9 = .ok (.aload_n 0, 1) := by decide +kernel
theorem dBk_bringIn_10 : decode bBk_bringIn 10 = .ok (.getfield 9, 3) := by decide +kernel
theorem dBk_bringIn_13 : decode bBk_bringIn 13 = .ok (.aload_n 0, 1) := by decide +kernel
theorem dBk_bringIn_14 : decode bBk_bringIn 14 = .ok (.getfield 28, 3) := by decide +kernel
theorem dBk_bringIn_17 : decode bBk_bringIn 17 = .ok (.iload_n 1, 1) := by decide +kernel
theorem dBk_bringIn_18 : decode bBk_bringIn 18 = .ok (.iastore, 1) := by decide +kernel
theorem dBk_bringIn_19 : decode bBk_bringIn 19 = .ok (.aload_n 0, 1) := by decide +kernel
theorem dBk_bringIn_20 : decode bBk_bringIn 20 = .ok (.getfield 15, 3) := by decide +kernel
theorem dBk_bringIn_23 : decode bBk_bringIn 23 = .ok (.aload_n 0, 1) := by decide +kernel
theorem dBk_bringIn_24 : decode bBk_bringIn 24 = .ok (.getfield 28, 3) := by decide +kernel
theorem dBk_bringIn_27 : decode bBk_bringIn 27 = .ok (.aload_n 2, 1) := by decide +kernel
theorem dBk_bringIn_28 : decode bBk_bringIn 28 = .ok (.getfield 35, 3) := by decide +kernel
theorem dBk_bringIn_31 : decode bBk_bringIn 31 = .ok (.iload 4, 2) := by decide +kernel
theorem dBk_bringIn_33 : decode bBk_bringIn 33 = .ok (.iaload, 1) := by decide +kernel
theorem dBk_bringIn_34 : decode bBk_bringIn 34 = .ok (.iastore, 1) := by decide +kernel
theorem dBk_bringIn_35 : decode bBk_bringIn 35 = .ok (.aload_n 0, 1) := by decide +kernel
theorem dBk_bringIn_36 : decode bBk_bringIn 36 = .ok (.getfield 18, 3) := by decide +kernel
theorem dBk_bringIn_39 : decode bBk_bringIn 39 = .ok (.aload_n 0, 1) := by decide +kernel
theorem dBk_bringIn_40 : decode bBk_bringIn 40 = .ok (.getfield 28, 3) := by decide +kernel
theorem dBk_bringIn_43 : decode bBk_bringIn 43 = .ok (.aload_n 2, 1) := by decide +kernel
theorem dBk_bringIn_44 : decode bBk_bringIn 44 = .ok (.getfield 38, 3) := by decide +kernel
theorem dBk_bringIn_47 : decode bBk_bringIn 47 = .ok (.iload 4, 2) := by decide +kernel
theorem dBk_bringIn_49 : decode bBk_bringIn 49 = .ok (.laload, 1) := by decide +kernel
theorem dBk_bringIn_50 : decode bBk_bringIn 50 = .ok (.lastore, 1) := by decide +kernel
theorem dBk_bringIn_51 : decode bBk_bringIn 51 = .ok (.aload_n 0, 1) := by decide +kernel
theorem dBk_bringIn_52 : decode bBk_bringIn 52 = .ok (.getfield 22, 3) := by decide +kernel
theorem dBk_bringIn_55 : decode bBk_bringIn 55 = .ok (.aload_n 0, 1) := by decide +kernel
theorem dBk_bringIn_56 : decode bBk_bringIn 56 = .ok (.getfield 28, 3) := by decide +kernel
theorem dBk_bringIn_59 : decode bBk_bringIn 59 = .ok (.aload_n 2, 1) := by decide +kernel
theorem dBk_bringIn_60 : decode bBk_bringIn 60 = .ok (.getfield 39, 3) := by decide +kernel
theorem dBk_bringIn_63 : decode bBk_bringIn 63 = .ok (.iastore, 1) := by decide +kernel
theorem dBk_bringIn_64 : decode bBk_bringIn 64 = .ok (.aload_n 0, 1) := by decide +kernel
theorem dBk_bringIn_65 : decode bBk_bringIn 65 = .ok (.getfield 25, 3) := by decide +kernel
theorem dBk_bringIn_68 : decode bBk_bringIn 68 = .ok (.aload_n 0, 1) := by decide +kernel
theorem dBk_bringIn_69 : decode bBk_bringIn 69 = .ok (.getfield 28, 3) := by decide +kernel
theorem dBk_bringIn_72 : decode bBk_bringIn 72 = .ok (.aload_n 2, 1) := by decide +kernel
theorem dBk_bringIn_73 : decode bBk_bringIn 73 = .ok (.getfield 42, 3) := by decide +kernel
theorem dBk_bringIn_76 : decode bBk_bringIn 76 = .ok (.iastore, 1) := by decide +kernel
theorem dBk_bringIn_77 : decode bBk_bringIn 77 = .ok (.aload_n 0, 1) := by decide +kernel
theorem dBk_bringIn_78 : decode bBk_bringIn 78 = .ok (.dup, 1) := by decide +kernel
theorem dBk_bringIn_79 : decode bBk_bringIn 79 = .ok (.getfield 28, 3) := by decide +kernel
theorem dBk_bringIn_82 : decode bBk_bringIn 82 = .ok (.iconst 1, 1) := by decide +kernel
theorem dBk_bringIn_83 : decode bBk_bringIn 83 = .ok (.iadd, 1) := by decide +kernel
theorem dBk_bringIn_84 : decode bBk_bringIn 84 = .ok (.putfield 28, 3) := by decide +kernel
theorem dBk_bringIn_87 : decode bBk_bringIn 87 = .ok (.aload_n 0, 1) := by decide +kernel
theorem dBk_bringIn_88 : decode bBk_bringIn 88 = .ok (.dup, 1) := by decide +kernel
theorem dBk_bringIn_89 : decode bBk_bringIn 89 = .ok (.getfield 32, 3) := by decide +kernel
theorem dBk_bringIn_92 : decode bBk_bringIn 92 = .ok (.iconst 1, 1) := by decide +kernel
theorem dBk_bringIn_93 : decode bBk_bringIn 93 = .ok (.iadd, 1) := by decide +kernel
theorem dBk_bringIn_94 : decode bBk_bringIn 94 = .ok (.putfield 32, 3) := by decide +kernel
theorem dBk_bringIn_97 : decode bBk_bringIn 97 = .ok (.iinc 4 1, 3) := by decide +kernel
theorem dBk_bringIn_100 : decode bBk_bringIn 100 = .ok (.goto (-97), 3) := by decide +kernel
theorem dBk_bringIn_103 : decode bBk_bringIn 103 = .ok (.return_, 1) := by decide +kernel
theorem dBk_takeHeldOut_0 : decode bBk_takeHeldOut 0 = .ok (.aload_n 0, 1) := by decide +kernel
theorem dBk_takeHeldOut_1 : decode bBk_takeHeldOut 1 = .ok (.dup, 1) := by decide +kernel
theorem dBk_takeHeldOut_2 : decode bBk_takeHeldOut 2 = .ok (.getfield 28, 3) := by decide +kernel
theorem dBk_takeHeldOut_5 : decode bBk_takeHeldOut 5 = .ok (.aload_n 0, 1) := by decide +kernel
theorem dBk_takeHeldOut_6 : decode bBk_takeHeldOut 6 = .ok (.getfield 32, 3) := by decide +kernel
theorem dBk_takeHeldOut_9 : decode bBk_takeHeldOut 9 = .ok (.isub, 1) := by decide +kernel
theorem dBk_takeHeldOut_10 : decode bBk_takeHeldOut 10 = .ok (.putfield 28, 3) := by decide +kernel
theorem dBk_takeHeldOut_13 : decode bBk_takeHeldOut 13 = .ok (.aload_n 0, 1) := by decide +kernel
theorem dBk_takeHeldOut_14 : decode bBk_takeHeldOut 14 = .ok (.iconst 0, 1) := by decide +kernel
theorem dBk_takeHeldOut_15 : decode bBk_takeHeldOut 15 = .ok (.putfield 32, 3) := by decide +kernel
theorem dBk_takeHeldOut_18 : decode bBk_takeHeldOut 18 = .ok (.return_, 1) := by decide +kernel
theorem dBk_settleHeld_0 : decode bBk_settleHeld 0 = .ok (.aload_n 0, 1) := by decide +kernel
theorem dBk_settleHeld_1 : decode bBk_settleHeld 1 = .ok (.iconst 0, 1) := by decide +kernel
theorem dBk_settleHeld_2 : decode bBk_settleHeld 2 = .ok (.putfield 32, 3) := by decide +kernel
theorem dBk_settleHeld_5 : decode bBk_settleHeld 5 = .ok (.return_, 1) := by decide +kernel
theorem dBk_sum_0 : decode bBk_sum 0 = .ok (.lconst 0, 1) := by decide +kernel
theorem dBk_sum_1 : decode bBk_sum 1 = .ok (.lstore 5, 2) := by decide +kernel
theorem dBk_sum_3 : decode bBk_sum 3 = .ok (.iconst 0, 1) := by decide +kernel
theorem dBk_sum_4 : decode bBk_sum 4 = .ok (.istore 7, 2) := by decide +kernel
theorem dBk_sum_6 : decode bBk_sum 6 = .ok (.iload 7, 2) := by decide +kernel
theorem dBk_sum_8 : decode bBk_sum 8 = .ok (.aload_n 0, 1) := by decide +kernel
theorem dBk_sum_9 : decode bBk_sum 9 = .ok (.getfield 28, 3) := by decide +kernel
theorem dBk_sum_12 : decode bBk_sum 12 = .ok (.if_icmp .ge 66, 3) := by decide +kernel
theorem dBk_sum_15 : decode bBk_sum 15 = .ok (.aload_n 0, 1) := by decide +kernel
theorem dBk_sum_16 : decode bBk_sum 16 = .ok (.getfield 15, 3) := by decide +kernel
theorem dBk_sum_19 : decode bBk_sum 19 = .ok (.iload 7, 2) := by decide +kernel
theorem dBk_sum_21 : decode bBk_sum 21 = .ok (.iaload, 1) := by decide +kernel
theorem dBk_sum_22 : decode bBk_sum 22 = .ok (.iload_n 1, 1) := by decide +kernel
theorem dBk_sum_23 : decode bBk_sum 23 = .ok (.if_icmp .ne 49, 3) := by decide +kernel
theorem dBk_sum_26 : decode bBk_sum 26 = .ok (.aload_n 0, 1) := by decide +kernel
theorem dBk_sum_27 : decode bBk_sum 27 = .ok (.getfield 22, 3) := by decide +kernel
theorem dBk_sum_30 : decode bBk_sum 30 = .ok (.iload 7, 2) := by decide +kernel
theorem dBk_sum_32 : decode bBk_sum 32 = .ok (.iaload, 1) := by decide +kernel
theorem dBk_sum_33 : decode bBk_sum 33 = .ok (.iload_n 2, 1) := by decide +kernel
theorem dBk_sum_34 : decode bBk_sum 34 = .ok (.if_icmp .lt 38, 3) := by decide +kernel
theorem dBk_sum_37 : decode bBk_sum 37 = .ok (.aload_n 0, 1) := by decide +kernel
theorem dBk_sum_38 : decode bBk_sum 38 = .ok (.getfield 22, 3) := by decide +kernel
theorem dBk_sum_41 : decode bBk_sum 41 = .ok (.iload 7, 2) := by decide +kernel
theorem dBk_sum_43 : decode bBk_sum 43 = .ok (.iaload, 1) := by decide +kernel
theorem dBk_sum_44 : decode bBk_sum 44 = .ok (.iload_n 3, 1) := by decide +kernel
theorem dBk_sum_45 : decode bBk_sum 45 = .ok (.if_icmp .gt 27, 3) := by decide +kernel
theorem dBk_sum_48 : decode bBk_sum 48 = .ok (.aload_n 0, 1) := by decide +kernel
theorem dBk_sum_49 : decode bBk_sum 49 = .ok (.getfield 25, 3) := by decide +kernel
theorem dBk_sum_52 : decode bBk_sum 52 = .ok (.iload 7, 2) := by decide +kernel
theorem dBk_sum_54 : decode bBk_sum 54 = .ok (.iaload, 1) := by decide +kernel
theorem dBk_sum_55 : decode bBk_sum 55 = .ok (.iload 4, 2) := by decide +kernel
theorem dBk_sum_57 : decode bBk_sum 57 = .ok (.if_icmp .gt 15, 3) := by decide +kernel
theorem dBk_sum_60 : decode bBk_sum 60 = .ok (.lload 5, 2) := by decide +kernel
theorem dBk_sum_62 : decode bBk_sum 62 = .ok (.aload_n 0, 1) := by decide +kernel
theorem dBk_sum_63 : decode bBk_sum 63 = .ok (.getfield 18, 3) := by decide +kernel
theorem dBk_sum_66 : decode bBk_sum 66 = .ok (.iload 7, 2) := by decide +kernel
theorem dBk_sum_68 : decode bBk_sum 68 = .ok (.laload, 1) := by decide +kernel
theorem dBk_sum_69 : decode bBk_sum 69 = .ok (.ladd, 1) := by decide +kernel
theorem dBk_sum_70 : decode bBk_sum 70 = .ok (.lstore 5, 2) := by decide +kernel
theorem dBk_sum_72 : decode bBk_sum 72 = .ok (.iinc 7 1, 3) := by decide +kernel
theorem dBk_sum_75 : decode bBk_sum 75 = .ok (.goto (-69), 3) := by decide +kernel
theorem dBk_sum_78 : decode bBk_sum 78 = .ok (.lload 5, 2) := by decide +kernel
theorem dBk_sum_80 : decode bBk_sum 80 = .ok (.lreturn, 1) := by decide +kernel
theorem dSh_init_0 : decode bSh_init 0 = .ok (.aload_n 0, 1) := by decide +kernel
theorem dSh_init_1 : decode bSh_init 1 = .ok (.invokespecial 3, 3) := by decide +kernel
theorem dSh_init_4 : decode bSh_init 4 = .ok (.aload_n 0, 1) := by decide +kernel
theorem dSh_init_5 : decode bSh_init 5 = .ok (.bipush 24, 2) := by decide +kernel
theorem dSh_init_7 : decode bSh_init 7 = .ok (.newarray .int, 2) := by decide +kernel
theorem dSh_init_9 : decode bSh_init 9 = .ok (.putfield 9, 3) := by decide +kernel
theorem dSh_init_12 : decode bSh_init 12 = .ok (.aload_n 0, 1) := by decide +kernel
theorem dSh_init_13 : decode bSh_init 13 = .ok (.bipush 6, 2) := by decide +kernel
theorem dSh_init_15 : decode bSh_init 15 = .ok (.newarray .int, 2) := by decide +kernel
theorem dSh_init_17 : decode bSh_init 17 = .ok (.putfield 15, 3) := by decide +kernel
theorem dSh_init_20 : decode bSh_init 20 = .ok (.return_, 1) := by decide +kernel
theorem dSh_setPart_0 : decode bSh_setPart 0 = .ok (.aload_n 0, 1) := by decide +kernel
theorem dSh_setPart_1 : decode bSh_setPart 1 = .ok (.getfield 9, 3) := by decide +kernel
theorem dSh_setPart_4 : decode bSh_setPart 4 = .ok (.iload_n 1, 1) := by decide +kernel
theorem dSh_setPart_5 : decode bSh_setPart 5 = .ok (.iconst 4, 1) := by decide +kernel
theorem dSh_setPart_6 : decode bSh_setPart 6 = .ok (.imul, 1) := by decide +kernel
theorem dSh_setPart_7 : decode bSh_setPart 7 = .ok (.iload_n 2, 1) := by decide +kernel
theorem dSh_setPart_8 : decode bSh_setPart 8 = .ok (.iadd, 1) := by decide +kernel
theorem dSh_setPart_9 : decode bSh_setPart 9 = .ok (.iload_n 3, 1) := by decide +kernel
theorem dSh_setPart_10 : decode bSh_setPart 10 = .ok (.iastore, 1) := by decide +kernel
theorem dSh_setPart_11 : decode bSh_setPart 11 = .ok (.return_, 1) := by decide +kernel
theorem dSh_setCost_0 : decode bSh_setCost 0 = .ok (.aload_n 0, 1) := by decide +kernel
theorem dSh_setCost_1 : decode bSh_setCost 1 = .ok (.getfield 15, 3) := by decide +kernel
theorem dSh_setCost_4 : decode bSh_setCost 4 = .ok (.iload_n 1, 1) := by decide +kernel
theorem dSh_setCost_5 : decode bSh_setCost 5 = .ok (.iload_n 2, 1) := by decide +kernel
theorem dSh_setCost_6 : decode bSh_setCost 6 = .ok (.iastore, 1) := by decide +kernel
theorem dSh_setCost_7 : decode bSh_setCost 7 = .ok (.return_, 1) := by decide +kernel
theorem dSh_costOf_0 : decode bSh_costOf 0 = .ok (.lload_n 2, 1) := by decide +kernel
theorem dSh_costOf_1 : decode bSh_costOf 1 = .ok (.aload_n 0, 1) := by decide +kernel
theorem dSh_costOf_2 : decode bSh_costOf 2 = .ok (.getfield 15, 3) := by decide +kernel
theorem dSh_costOf_5 : decode bSh_costOf 5 = .ok (.iload_n 1, 1) := by decide +kernel
theorem dSh_costOf_6 : decode bSh_costOf 6 = .ok (.iaload, 1) := by decide +kernel
theorem dSh_costOf_7 : decode bSh_costOf 7 = .ok (.i2l, 1) := by decide +kernel
theorem dSh_costOf_8 : decode bSh_costOf 8 = .ok (.lmul, 1) := by decide +kernel
theorem dSh_costOf_9 : decode bSh_costOf 9 = .ok (.ldc2_w 18, 3) := by decide +kernel
theorem dSh_costOf_12 : decode bSh_costOf 12 = .ok (.ldiv, 1) := by decide +kernel
theorem dSh_costOf_13 : decode bSh_costOf 13 = .ok (.lreturn, 1) := by decide +kernel
theorem dSh_allShares_0 : decode bSh_allShares 0 = .ok (.lconst 0, 1) := by decide +kernel
theorem dSh_allShares_1 : decode bSh_allShares 1 = .ok (.lstore 4, 2) := by decide +kernel
theorem dSh_allShares_3 : decode bSh_allShares 3 = .ok (.iconst 0, 1) := by decide +kernel
theorem dSh_allShares_4 : decode bSh_allShares 4 = .ok (.istore 6, 2) := by decide +kernel
theorem dSh_allShares_6 : decode bSh_allShares 6 = .ok (.iload 6, 2) := by decide +kernel
theorem dSh_allShares_8 : decode bSh_allShares 8 = .ok (.iconst 4, 1) := by decide +kernel
theorem dSh_allShares_9 : decode bSh_allShares 9 = .ok (.if_icmp .ge 22, 3) := by decide +kernel
theorem dSh_allShares_12 : decode bSh_allShares 12 = .ok (.lload 4, 2) := by decide +kernel
theorem dSh_allShares_14 : decode bSh_allShares 14 = .ok (.aload_n 0, 1) := by decide +kernel
theorem dSh_allShares_15 : decode bSh_allShares 15 = .ok (.iload_n 1, 1) := by decide +kernel
theorem dSh_allShares_16 : decode bSh_allShares 16 = .ok (.iload 6, 2) := by decide +kernel
theorem dSh_allShares_18 : decode bSh_allShares 18 = .ok (.lload_n 2, 1) := by decide +kernel
theorem dSh_allShares_19 : decode bSh_allShares 19 = .ok (.invokevirtual 20, 3) := by decide +kernel
theorem dSh_allShares_22 : decode bSh_allShares 22 = .ok (.ladd, 1) := by decide +kernel
theorem dSh_allShares_23 : decode bSh_allShares 23 = .ok (.lstore 4, 2) := by decide +kernel
theorem dSh_allShares_25 : decode bSh_allShares 25 = .ok (.iinc 6 1, 3) := by decide +kernel
theorem dSh_allShares_28 : decode bSh_allShares 28 = .ok (.goto (-22), 3) := by decide +kernel
theorem dSh_allShares_31 : decode bSh_allShares 31 = .ok (.lload 4, 2) := by decide +kernel
theorem dSh_allShares_33 : decode bSh_allShares 33 = .ok (.lreturn, 1) := by decide +kernel
theorem dSh_shareOf_0 : decode bSh_shareOf 0 = .ok (.aload_n 0, 1) := by decide +kernel
theorem dSh_shareOf_1 : decode bSh_shareOf 1 = .ok (.iload_n 1, 1) := by decide +kernel
theorem dSh_shareOf_2 : decode bSh_shareOf 2 = .ok (.invokevirtual 24, 3) := by decide +kernel
theorem dSh_shareOf_5 : decode bSh_shareOf 5 = .ok (.ifCond .ne 5, 3) := by decide +kernel
theorem dSh_shareOf_8 : decode bSh_shareOf 8 = .ok (.lconst 0, 1) := by decide +kernel
theorem dSh_shareOf_9 : decode bSh_shareOf 9 = .ok (.lreturn, 1) := by decide +kernel
theorem dSh_shareOf_10 : decode bSh_shareOf 10 = .ok (.aload_n 0, 1) := by decide +kernel
theorem dSh_shareOf_11 : decode bSh_shareOf 11 = .ok (.iload_n 1, 1) := by decide +kernel
theorem dSh_shareOf_12 : decode bSh_shareOf 12 = .ok (.iload_n 2, 1) := by decide +kernel
theorem dSh_shareOf_13 : decode bSh_shareOf 13 = .ok (.lload_n 3, 1) := by decide +kernel
theorem dSh_shareOf_14 : decode bSh_shareOf 14 = .ok (.invokevirtual 28, 3) := by decide +kernel
theorem dSh_shareOf_17 : decode bSh_shareOf 17 = .ok (.lstore 5, 2) := by decide +kernel
theorem dSh_shareOf_19 : decode bSh_shareOf 19 = .ok (.aload_n 0, 1) := by decide +kernel
theorem dSh_shareOf_20 : decode bSh_shareOf 20 = .ok (.iload_n 1, 1) := by decide +kernel
theorem dSh_shareOf_21 : decode bSh_shareOf 21 = .ok (.iload_n 2, 1) := by decide +kernel
theorem dSh_shareOf_22 : decode bSh_shareOf 22 = .ok (.lload_n 3, 1) := by decide +kernel
theorem dSh_shareOf_23 : decode bSh_shareOf 23 = .ok (.invokevirtual 31, 3) := by decide +kernel
theorem dSh_shareOf_26 : decode bSh_shareOf 26 = .ok (.i2l, 1) := by decide +kernel
theorem dSh_shareOf_27 : decode bSh_shareOf 27 = .ok (.aload_n 0, 1) := by decide +kernel
theorem dSh_shareOf_28 : decode bSh_shareOf 28 = .ok (.iload_n 1, 1) := by decide +kernel
theorem dSh_shareOf_29 : decode bSh_shareOf 29 = .ok (.lload_n 3, 1) := by decide +kernel
theorem dSh_shareOf_30 : decode bSh_shareOf 30 = .ok (.invokevirtual 35, 3) := by decide +kernel
theorem dSh_shareOf_33 : decode bSh_shareOf 33 = .ok (.lcmp, 1) := by decide +kernel
theorem dSh_shareOf_34 : decode bSh_shareOf 34 = .ok (.ifCond .ge 10, 3) := by decide +kernel
theorem dSh_shareOf_37 : decode bSh_shareOf 37 = .ok (.lload 5, 2) := by decide +kernel
theorem dSh_shareOf_39 : decode bSh_shareOf 39 = .ok (.lconst 1, 1) := by decide +kernel
theorem dSh_shareOf_40 : decode bSh_shareOf 40 = .ok (.ladd, 1) := by decide +kernel
theorem dSh_shareOf_41 : decode bSh_shareOf 41 = .ok (.goto 5, 3) := by decide +kernel
theorem dSh_shareOf_44 : decode bSh_shareOf 44 = .ok (.lload 5, 2) := by decide +kernel
theorem dSh_shareOf_46 : decode bSh_shareOf 46 = .ok (.lreturn, 1) := by decide +kernel
theorem dSh_allParts_0 : decode bSh_allParts 0 = .ok (.iconst 0, 1) := by decide +kernel
theorem dSh_allParts_1 : decode bSh_allParts 1 = .ok (.istore_n 2, 1) := by decide +kernel
theorem dSh_allParts_2 : decode bSh_allParts 2 = .ok (.iconst 0, 1) := by decide +kernel
theorem dSh_allParts_3 : decode bSh_allParts 3 = .ok (.istore_n 3, 1) := by decide +kernel
theorem dSh_allParts_4 : decode bSh_allParts 4 = .ok (.iload_n 3, 1) := by decide +kernel
theorem dSh_allParts_5 : decode bSh_allParts 5 = .ok (.iconst 4, 1) := by decide +kernel
theorem dSh_allParts_6 : decode bSh_allParts 6 = .ok (.if_icmp .ge 22, 3) := by decide +kernel
theorem dSh_allParts_9 : decode bSh_allParts 9 = .ok (.iload_n 2, 1) := by decide +kernel
theorem dSh_allParts_10 : decode bSh_allParts 10 = .ok (.aload_n 0, 1) := by decide +kernel
theorem dSh_allParts_11 : decode bSh_allParts 11 = .ok (.getfield 9, 3) := by decide +kernel
theorem dSh_allParts_14 : decode bSh_allParts 14 = .ok (.iload_n 1, 1) := by decide +kernel
theorem dSh_allParts_15 : decode bSh_allParts 15 = .ok (.iconst 4, 1) := by decide +kernel
theorem dSh_allParts_16 : decode bSh_allParts 16 = .ok (.imul, 1) := by decide +kernel
theorem dSh_allParts_17 : decode bSh_allParts 17 = .ok (.iload_n 3, 1) := by decide +kernel
theorem dSh_allParts_18 : decode bSh_allParts 18 = .ok (.iadd, 1) := by decide +kernel
theorem dSh_allParts_19 : decode bSh_allParts 19 = .ok (.iaload, 1) := by decide +kernel
theorem dSh_allParts_20 : decode bSh_allParts 20 = .ok (.iadd, 1) := by decide +kernel
theorem dSh_allParts_21 : decode bSh_allParts 21 = .ok (.istore_n 2, 1) := by decide +kernel
theorem dSh_allParts_22 : decode bSh_allParts 22 = .ok (.iinc 3 1, 3) := by decide +kernel
theorem dSh_allParts_25 : decode bSh_allParts 25 = .ok (.goto (-21), 3) := by decide +kernel
theorem dSh_allParts_28 : decode bSh_allParts 28 = .ok (.iload_n 2, 1) := by decide +kernel
theorem dSh_allParts_29 : decode bSh_allParts 29 = .ok (.ireturn, 1) := by decide +kernel
theorem dSh_wholeShare_0 : decode bSh_wholeShare 0 = .ok (.aload_n 0, 1) := by decide +kernel
theorem dSh_wholeShare_1 : decode bSh_wholeShare 1 = .ok (.iload_n 1, 1) := by decide +kernel
theorem dSh_wholeShare_2 : decode bSh_wholeShare 2 = .ok (.invokevirtual 24, 3) := by decide +kernel
theorem dSh_wholeShare_5 : decode bSh_wholeShare 5 = .ok (.istore 5, 2) := by decide +kernel
theorem dSh_wholeShare_7 : decode bSh_wholeShare 7 = .ok (.iload 5, 2) := by decide +kernel
theorem dSh_wholeShare_9 : decode bSh_wholeShare 9 = .ok (.ifCond .ne 7, 3) := by decide +kernel
theorem dSh_wholeShare_12 : decode bSh_wholeShare 12 = .ok (.lconst 0, 1) := by decide +kernel
theorem dSh_wholeShare_13 : decode bSh_wholeShare 13 = .ok (.goto 20, 3) := by decide +kernel
theorem dSh_wholeShare_16 : decode bSh_wholeShare 16 = .ok (.lload_n 3, 1) := by decide +kernel
theorem dSh_wholeShare_17 : decode bSh_wholeShare 17 = .ok (.aload_n 0, 1) := by decide +kernel
theorem dSh_wholeShare_18 : decode bSh_wholeShare 18 = .ok (.getfield 9, 3) := by decide +kernel
theorem dSh_wholeShare_21 : decode bSh_wholeShare 21 = .ok (.iload_n 1, 1) := by decide +kernel
theorem dSh_wholeShare_22 : decode bSh_wholeShare 22 = .ok (.iconst 4, 1) := by decide +kernel
theorem dSh_wholeShare_23 : decode bSh_wholeShare 23 = .ok (.imul, 1) := by decide +kernel
theorem dSh_wholeShare_24 : decode bSh_wholeShare 24 = .ok (.iload_n 2, 1) := by decide +kernel
theorem dSh_wholeShare_25 : decode bSh_wholeShare 25 = .ok (.iadd, 1) := by decide +kernel
theorem dSh_wholeShare_26 : decode bSh_wholeShare 26 = .ok (.iaload, 1) := by decide +kernel
theorem dSh_wholeShare_27 : decode bSh_wholeShare 27 = .ok (.i2l, 1) := by decide +kernel
theorem dSh_wholeShare_28 : decode bSh_wholeShare 28 = .ok (.lmul, 1) := by decide +kernel
theorem dSh_wholeShare_29 : decode bSh_wholeShare 29 = .ok (.iload 5, 2) := by decide +kernel
theorem dSh_wholeShare_31 : decode bSh_wholeShare 31 = .ok (.i2l, 1) := by decide +kernel
theorem dSh_wholeShare_32 : decode bSh_wholeShare 32 = .ok (.ldiv, 1) := by decide +kernel
theorem dSh_wholeShare_33 : decode bSh_wholeShare 33 = .ok (.lreturn, 1) := by decide +kernel
theorem dSh_placeByRemainder_0 : decode bSh_placeByRemainder 0 = .ok (.aload_n 0, 1) := by decide +kernel
theorem dSh_placeByRemainder_1 : decode bSh_placeByRemainder 1 = .ok (.iload_n 1, 1) := by decide +kernel
theorem dSh_placeByRemainder_2 : decode bSh_placeByRemainder 2 = .ok (.iload_n 2, 1) := by decide +kernel
theorem dSh_placeByRemainder_3 : decode bSh_placeByRemainder 3 = .ok (.lload_n 3, 1) := by decide +kernel
theorem dSh_placeByRemainder_4 : decode bSh_placeByRemainder 4 = .ok (.invokevirtual 39, 3) := by decide +kernel
theorem dSh_placeByRemainder_7 : decode bSh_placeByRemainder 7 = .ok (.lstore 5, 2) := by decide +kernel
theorem dSh_placeByRemainder_9 : decode bSh_placeByRemainder 9 = .ok (.iconst 0, 1) := by decide +kernel
theorem dSh_placeByRemainder_10 : decode bSh_placeByRemainder 10 = .ok (.istore 7, 2) := by decide +kernel
theorem dSh_placeByRemainder_12 : decode bSh_placeByRemainder 12 = .ok (.iconst 0, 1) := by decide +kernel
theorem dSh_placeByRemainder_13 : decode bSh_placeByRemainder 13 = .ok (.istore 8, 2) := by decide +kernel
theorem dSh_placeByRemainder_15 : decode bSh_placeByRemainder 15 = .ok (.iload 8, 2) := by decide +kernel
theorem dSh_placeByRemainder_17 : decode bSh_placeByRemainder 17 = .ok (.iconst 4, 1) := by decide +kernel
theorem dSh_placeByRemainder_18 : decode bSh_placeByRemainder 18 = .ok (.if_icmp .ge 44, 3) := by decide +kernel
theorem dSh_placeByRemainder_21 : decode bSh_placeByRemainder 21 = .ok (.aload_n 0, 1) := by decide +kernel
theorem dSh_placeByRemainder_22 : decode bSh_placeByRemainder 22 = .ok (.iload_n 1, 1) := by decide +kernel
theorem dSh_placeByRemainder_23 : decode bSh_placeByRemainder 23 = .ok (.iload 8, 2) := by decide +kernel
theorem dSh_placeByRemainder_25 : decode bSh_placeByRemainder 25 = .ok (.lload_n 3, 1) := by decide +kernel
theorem dSh_placeByRemainder_26 : decode bSh_placeByRemainder 26 = .ok (.invokevirtual 39, 3) := by decide +kernel
theorem dSh_placeByRemainder_29 : decode bSh_placeByRemainder 29 = .ok (.lstore 9, 2) := by decide +kernel
theorem dSh_placeByRemainder_31 : decode bSh_placeByRemainder 31 = .ok (.lload 9, 2) := by decide +kernel
theorem dSh_placeByRemainder_33 : decode bSh_placeByRemainder 33 = .ok (.lload 5, 2) := by decide +kernel
theorem dSh_placeByRemainder_35 : decode bSh_placeByRemainder 35 = .ok (.lcmp, 1) := by decide +kernel
theorem dSh_placeByRemainder_36 : decode bSh_placeByRemainder 36 = .ok (.ifCond .gt 17, 3) := by decide +kernel
theorem dSh_placeByRemainder_39 : decode bSh_placeByRemainder 39 = .ok (.lload 9, 2) := by decide +kernel
theorem dSh_placeByRemainder_41 : decode bSh_placeByRemainder 41 = .ok (.lload 5, 2) := by decide +kernel
theorem dSh_placeByRemainder_43 : decode bSh_placeByRemainder 43 = .ok (.lcmp, 1) := by decide +kernel
theorem dSh_placeByRemainder_44 : decode bSh_placeByRemainder 44 = .ok (.ifCond .ne 12, 3) := by decide +kernel
theorem dSh_placeByRemainder_47 : decode bSh_placeByRemainder 47 = .ok (.iload 8, 2) := by decide +kernel
theorem dSh_placeByRemainder_49 : decode bSh_placeByRemainder 49 = .ok (.iload_n 2, 1) := by decide +kernel
theorem dSh_placeByRemainder_50 : decode bSh_placeByRemainder 50 = .ok (.if_icmp .ge 6, 3) := by decide +kernel
theorem dSh_placeByRemainder_53 : decode bSh_placeByRemainder 53 = .ok (.iinc 7 1, 3) := by decide +kernel
theorem dSh_placeByRemainder_56 : decode bSh_placeByRemainder 56 = .ok (.iinc 8 1, 3) := by decide +kernel
theorem dSh_placeByRemainder_59 : decode bSh_placeByRemainder 59 = .ok (.goto (-44), 3) := by decide +kernel
theorem dSh_placeByRemainder_62 : decode bSh_placeByRemainder 62 = .ok (.iload 7, 2) := by decide +kernel
theorem dSh_placeByRemainder_64 : decode bSh_placeByRemainder 64 = .ok (.ireturn, 1) := by decide +kernel
theorem dSh_remainder_0 : decode bSh_remainder 0 = .ok (.aload_n 0, 1) := by decide +kernel
theorem dSh_remainder_1 : decode bSh_remainder 1 = .ok (.iload_n 1, 1) := by decide +kernel
theorem dSh_remainder_2 : decode bSh_remainder 2 = .ok (.invokevirtual 24, 3) := by decide +kernel
theorem dSh_remainder_5 : decode bSh_remainder 5 = .ok (.istore 5, 2) := by decide +kernel
theorem dSh_remainder_7 : decode bSh_remainder 7 = .ok (.iload 5, 2) := by decide +kernel
theorem dSh_remainder_9 : decode bSh_remainder 9 = .ok (.ifCond .ne 7, 3) := by decide +kernel
theorem dSh_remainder_12 : decode bSh_remainder 12 = .ok (.lconst 0, 1) := by decide +kernel
theorem dSh_remainder_13 : decode bSh_remainder 13 = .ok (.goto 20, 3) := by decide +kernel
theorem dSh_remainder_16 : decode bSh_remainder 16 = .ok (.lload_n 3, 1) := by decide +kernel
theorem dSh_remainder_17 : decode bSh_remainder 17 = .ok (.aload_n 0, 1) := by decide +kernel
theorem dSh_remainder_18 : decode bSh_remainder 18 = .ok (.getfield 9, 3) := by decide +kernel
theorem dSh_remainder_21 : decode bSh_remainder 21 = .ok (.iload_n 1, 1) := by decide +kernel
theorem dSh_remainder_22 : decode bSh_remainder 22 = .ok (.iconst 4, 1) := by decide +kernel
theorem dSh_remainder_23 : decode bSh_remainder 23 = .ok (.imul, 1) := by decide +kernel
theorem dSh_remainder_24 : decode bSh_remainder 24 = .ok (.iload_n 2, 1) := by decide +kernel
theorem dSh_remainder_25 : decode bSh_remainder 25 = .ok (.iadd, 1) := by decide +kernel
theorem dSh_remainder_26 : decode bSh_remainder 26 = .ok (.iaload, 1) := by decide +kernel
theorem dSh_remainder_27 : decode bSh_remainder 27 = .ok (.i2l, 1) := by decide +kernel
theorem dSh_remainder_28 : decode bSh_remainder 28 = .ok (.lmul, 1) := by decide +kernel
theorem dSh_remainder_29 : decode bSh_remainder 29 = .ok (.iload 5, 2) := by decide +kernel
theorem dSh_remainder_31 : decode bSh_remainder 31 = .ok (.i2l, 1) := by decide +kernel
theorem dSh_remainder_32 : decode bSh_remainder 32 = .ok (.lrem, 1) := by decide +kernel
theorem dSh_remainder_33 : decode bSh_remainder 33 = .ok (.lreturn, 1) := by decide +kernel
theorem dSh_centsLeft_0 : decode bSh_centsLeft 0 = .ok (.lload_n 2, 1) := by decide +kernel
theorem dSh_centsLeft_1 : decode bSh_centsLeft 1 = .ok (.lstore 4, 2) := by decide +kernel
theorem dSh_centsLeft_3 : decode bSh_centsLeft 3 = .ok (.iconst 0, 1) := by decide +kernel
theorem dSh_centsLeft_4 : decode bSh_centsLeft 4 = .ok (.istore 6, 2) := by decide +kernel
theorem dSh_centsLeft_6 : decode bSh_centsLeft 6 = .ok (.iload 6, 2) := by decide +kernel
theorem dSh_centsLeft_8 : decode bSh_centsLeft 8 = .ok (.iconst 4, 1) := by decide +kernel
theorem dSh_centsLeft_9 : decode bSh_centsLeft 9 = .ok (.if_icmp .ge 22, 3) := by decide +kernel
theorem dSh_centsLeft_12 : decode bSh_centsLeft 12 = .ok (.lload 4, 2) := by decide +kernel
theorem dSh_centsLeft_14 : decode bSh_centsLeft 14 = .ok (.aload_n 0, 1) := by decide +kernel
theorem dSh_centsLeft_15 : decode bSh_centsLeft 15 = .ok (.iload_n 1, 1) := by decide +kernel
theorem dSh_centsLeft_16 : decode bSh_centsLeft 16 = .ok (.iload 6, 2) := by decide +kernel
theorem dSh_centsLeft_18 : decode bSh_centsLeft 18 = .ok (.lload_n 2, 1) := by decide +kernel
theorem dSh_centsLeft_19 : decode bSh_centsLeft 19 = .ok (.invokevirtual 28, 3) := by decide +kernel
theorem dSh_centsLeft_22 : decode bSh_centsLeft 22 = .ok (.lsub, 1) := by decide +kernel
theorem dSh_centsLeft_23 : decode bSh_centsLeft 23 = .ok (.lstore 4, 2) := by decide +kernel
theorem dSh_centsLeft_25 : decode bSh_centsLeft 25 = .ok (.iinc 6 1, 3) := by decide +kernel
theorem dSh_centsLeft_28 : decode bSh_centsLeft 28 = .ok (.goto (-22), 3) := by decide +kernel
theorem dSh_centsLeft_31 : decode bSh_centsLeft 31 = .ok (.lload 4, 2) := by decide +kernel
theorem dSh_centsLeft_33 : decode bSh_centsLeft 33 = .ok (.lreturn, 1) := by decide +kernel
end
section
theorem dDu_init_0 : decode bDu_init 0 = .ok (.aload_n 0, 1) := by decide +kernel
theorem dDu_init_1 : decode bDu_init 1 = .ok (.invokespecial 1, 3) := by decide +kernel
theorem dDu_init_4 : decode bDu_init 4 = .ok (.aload_n 0, 1) := by decide +kernel
theorem dDu_init_5 : decode bDu_init 5 = .ok (.bipush 12, 2) := by decide +kernel
theorem dDu_init_7 : decode bDu_init 7 = .ok (.newarray .int, 2) := by decide +kernel
theorem dDu_init_9 : decode bDu_init 9 = .ok (.putfield 9, 3) := by decide +kernel
theorem dDu_init_12 : decode bDu_init 12 = .ok (.aload_n 0, 1) := by decide +kernel
theorem dDu_init_13 : decode bDu_init 13 = .ok (.iconst 0, 1) := by decide +kernel
theorem dDu_init_14 : decode bDu_init 14 = .ok (.putfield 13, 3) := by decide +kernel
theorem dDu_init_17 : decode bDu_init 17 = .ok (.aload_n 0, 1) := by decide +kernel
theorem dDu_init_18 : decode bDu_init 18 = .ok (.bipush 100, 2) := by decide +kernel
theorem dDu_init_20 : decode bDu_init 20 = .ok (.anewarray 17, 3) := by decide +kernel
theorem dDu_init_23 : decode bDu_init 23 = .ok (.putfield 19, 3) := by decide +kernel
theorem dDu_init_26 : decode bDu_init 26 = .ok (.aload_n 0, 1) := by decide +kernel
theorem dDu_init_27 : decode bDu_init 27 = .ok (.iconst 0, 1) := by decide +kernel
theorem dDu_init_28 : decode bDu_init 28 = .ok (.putfield 23, 3) := by decide +kernel
theorem dDu_init_31 : decode bDu_init 31 = .ok (.aload_n 0, 1) := by decide +kernel
theorem dDu_init_32 : decode bDu_init 32 = .ok (.new 26, 3) := by decide +kernel
theorem dDu_init_35 : decode bDu_init 35 = .ok (.dup, 1) := by decide +kernel
theorem dDu_init_36 : decode bDu_init 36 = .ok (.invokespecial 28, 3) := by decide +kernel
theorem dDu_init_39 : decode bDu_init 39 = .ok (.putfield 29, 3) := by decide +kernel
theorem dDu_init_42 : decode bDu_init 42 = .ok (.aload_n 0, 1) := by decide +kernel
theorem dDu_init_43 : decode bDu_init 43 = .ok (.new 33, 3) := by decide +kernel
theorem dDu_init_46 : decode bDu_init 46 = .ok (.dup, 1) := by decide +kernel
theorem dDu_init_47 : decode bDu_init 47 = .ok (.invokespecial 35, 3) := by decide +kernel
theorem dDu_init_50 : decode bDu_init 50 = .ok (.putfield 36, 3) := by decide +kernel
theorem dDu_init_53 : decode bDu_init 53 = .ok (.aload_n 0, 1) := by decide +kernel
theorem dDu_init_54 : decode bDu_init 54 = .ok (.iconst (-1), 1) := by decide +kernel
theorem dDu_init_55 : decode bDu_init 55 = .ok (.putfield 40, 3) := by decide +kernel
theorem dDu_init_58 : decode bDu_init 58 = .ok (.aload_n 0, 1) := by decide +kernel
theorem dDu_init_59 : decode bDu_init 59 = .ok (.iconst (-1), 1) := by decide +kernel
theorem dDu_init_60 : decode bDu_init 60 = .ok (.putfield 43, 3) := by decide +kernel
theorem dDu_init_63 : decode bDu_init 63 = .ok (.aload_n 0, 1) := by decide +kernel
theorem dDu_init_64 : decode bDu_init 64 = .ok (.iconst 0, 1) := by decide +kernel
theorem dDu_init_65 : decode bDu_init 65 = .ok (.putfield 46, 3) := by decide +kernel
theorem dDu_init_68 : decode bDu_init 68 = .ok (.aload_n 0, 1) := by decide +kernel
theorem dDu_init_69 : decode bDu_init 69 = .ok (.iconst (-1), 1) := by decide +kernel
theorem dDu_init_70 : decode bDu_init 70 = .ok (.putfield 49, 3) := by decide +kernel
theorem dDu_init_73 : decode bDu_init 73 = .ok (.aload_n 0, 1) := by decide +kernel
theorem dDu_init_74 : decode bDu_init 74 = .ok (.iconst 0, 1) := by decide +kernel
theorem dDu_init_75 : decode bDu_init 75 = .ok (.putfield 52, 3) := by decide +kernel
theorem dDu_init_78 : decode bDu_init 78 = .ok (.return_, 1) := by decide +kernel
theorem dDu_row_0 : decode bDu_row 0 = .ok (.aload_n 0, 1) := by decide +kernel
theorem dDu_row_1 : decode bDu_row 1 = .ok (.iconst 0, 1) := by decide +kernel
theorem dDu_row_2 : decode bDu_row 2 = .ok (.iload_n 1, 1) := by decide +kernel
theorem dDu_row_3 : decode bDu_row 3 = .ok (.invokevirtual 85, 3) := by decide +kernel
theorem dDu_row_6 : decode bDu_row 6 = .ok (.astore 5, 2) := by decide +kernel
theorem dDu_row_8 : decode bDu_row 8 = .ok (.aload 5, 2) := by decide +kernel
theorem dDu_row_10 : decode bDu_row 10 = .ok (.ifnull 18, 3) := by decide +kernel
theorem dDu_row_13 : decode bDu_row 13 = .ok (.aload_n 0, 1) := by decide +kernel
theorem dDu_row_14 : decode bDu_row 14 = .ok (.iload_n 2, 1) := by decide +kernel
theorem dDu_row_15 : decode bDu_row 15 = .ok (.invokevirtual 89, 3) := by decide +kernel
theorem dDu_row_18 : decode bDu_row 18 = .ok (.ifCond .eq 10, 3) := by decide +kernel
theorem dDu_row_21 : decode bDu_row 21 = .ok (.lload_n 3, 1) := by decide +kernel
theorem dDu_row_22 : decode bDu_row 22 = .ok (.invokestatic 92, 3) := by decide +kernel
theorem dDu_row_25 : decode bDu_row 25 = .ok (.ifCond .ne 5, 3) := by decide +kernel
theorem dDu_row_28 : decode bDu_row 28 = .ok (.iconst 0, 1) := by decide +kernel
theorem dDu_row_29 : decode bDu_row 29 = .ok (.ireturn, 1) := by decide +kernel
theorem dDu_row_30 : decode bDu_row 30 = .ok (.aload 5, 2) := by decide +kernel
theorem dDu_row_32 : decode bDu_row 32 = .ok (.iload_n 2, 1) := by decide +kernel
theorem dDu_row_33 : decode bDu_row 33 = .ok (.lload_n 3, 1) := by decide +kernel
theorem dDu_row_34 : decode bDu_row 34 = .ok (.invokevirtual 96, 3) := by decide +kernel
theorem dDu_row_37 : decode bDu_row 37 = .ok (.ireturn, 1) := by decide +kernel
theorem dDu_batchThatIs_0 : decode bDu_batchThatIs 0 = .ok (.aload_n 0, 1) := by decide +kernel
theorem dDu_batchThatIs_1 : decode bDu_batchThatIs 1 = .ok (.iload_n 2, 1) := by decide +kernel
theorem dDu_batchThatIs_2 : decode bDu_batchThatIs 2 = .ok (.invokevirtual 209, 3) := by decide +kernel
theorem dDu_batchThatIs_5 : decode bDu_batchThatIs 5 = .ok (.astore_n 3, 1) := by decide +kernel
theorem dDu_batchThatIs_6 : decode bDu_batchThatIs 6 = .ok (.aload_n 3, 1) := by decide +kernel
theorem dDu_batchThatIs_7 : decode bDu_batchThatIs 7 = .ok (.ifnull 15, 3) := by decide +kernel
theorem dDu_batchThatIs_10 : decode bDu_batchThatIs 10 = .ok (.aload_n 3, 1) := by decide +kernel
theorem dDu_batchThatIs_11 : decode bDu_batchThatIs 11 = .ok (.getfield 215, 3) := by decide +kernel
theorem dDu_batchThatIs_14 : decode bDu_batchThatIs 14 = .ok (.iload_n 1, 1) := by decide +kernel
theorem dDu_batchThatIs_15 : decode bDu_batchThatIs 15 = .ok (.if_icmp .ne 7, 3) := by decide +kernel
theorem dDu_batchThatIs_18 : decode bDu_batchThatIs 18 = .ok (.aload_n 3, 1) := by decide +kernel
theorem dDu_batchThatIs_19 : decode bDu_batchThatIs 19 = .ok (.goto 4, 3) := by decide +kernel
theorem dDu_batchThatIs_22 : decode bDu_batchThatIs 22 = .ok (.aconst_null, 1) := by decide +kernel
theorem dDu_batchThatIs_23 : decode bDu_batchThatIs 23 = .ok (.areturn, 1) := by decide +kernel
theorem dDu_batchAt_0 : decode bDu_batchAt 0 = .ok (.iload_n 1, 1) := by decide +kernel
theorem dDu_batchAt_1 : decode bDu_batchAt 1 = .ok (.ifCond .lt 20, 3) := by decide +kernel
theorem dDu_batchAt_4 : decode bDu_batchAt 4 = .ok (.iload_n 1, 1) := by decide +kernel
theorem dDu_batchAt_5 : decode bDu_batchAt 5 = .ok (.aload_n 0, 1) := by decide +kernel
theorem dDu_batchAt_6 : decode bDu_batchAt 6 = .ok (.getfield 23, 3) := by decide +kernel
theorem dDu_batchAt_9 : decode bDu_batchAt 9 = .ok (.if_icmp .ge 12, 3) := by decide +kernel
theorem dDu_batchAt_12 : decode bDu_batchAt 12 = .ok (.aload_n 0, 1) := by decide +kernel
theorem dDu_batchAt_13 : decode bDu_batchAt 13 = .ok (.getfield 19, 3) := by decide +kernel
theorem dDu_batchAt_16 : decode bDu_batchAt 16 = .ok (.iload_n 1, 1) := by decide +kernel
theorem dDu_batchAt_17 : decode bDu_batchAt 17 = .ok (.aaload, 1) := by decide +kernel
theorem dDu_batchAt_18 : decode bDu_batchAt 18 = .ok (.goto 4, 3) := by decide +kernel
theorem dDu_batchAt_21 : decode bDu_batchAt 21 = .ok (.aconst_null, 1) := by decide +kernel
theorem dDu_batchAt_22 : decode bDu_batchAt 22 = .ok (.areturn, 1) := by decide +kernel
theorem dDu_isAccount_0 : decode bDu_isAccount 0 = .ok (.iload_n 1, 1) := by decide +kernel
theorem dDu_isAccount_1 : decode bDu_isAccount 1 = .ok (.ifCond .lt 15, 3) := by decide +kernel
theorem dDu_isAccount_4 : decode bDu_isAccount 4 = .ok (.iload_n 1, 1) := by decide +kernel
theorem dDu_isAccount_5 : decode bDu_isAccount 5 = .ok (.aload_n 0, 1) := by decide +kernel
theorem dDu_isAccount_6 : decode bDu_isAccount 6 = .ok (.getfield 13, 3) := by decide +kernel
theorem dDu_isAccount_9 : decode bDu_isAccount 9 = .ok (.if_icmp .ge 7, 3) := by decide +kernel
theorem dDu_isAccount_12 : decode bDu_isAccount 12 = .ok (.iconst 1, 1) := by decide +kernel
theorem dDu_isAccount_13 : decode bDu_isAccount 13 = .ok (.goto 4, 3) := by decide +kernel
theorem dDu_isAccount_16 : decode bDu_isAccount 16 = .ok (.iconst 0, 1) := by decide +kernel
theorem dDu_isAccount_17 : decode bDu_isAccount 17 = .ok (.ireturn, 1) := by decide +kernel
theorem dDu_canBeCents_0 : decode bDu_canBeCents 0 = .ok (.lload_n 0, 1) := by decide +kernel
theorem dDu_canBeCents_1 : decode bDu_canBeCents 1 = .ok (.lconst 0, 1) := by decide +kernel
theorem dDu_canBeCents_2 : decode bDu_canBeCents 2 = .ok (.lcmp, 1) := by decide +kernel
theorem dDu_canBeCents_3 : decode bDu_canBeCents 3 = .ok (.ifCond .eq 23, 3) := by decide +kernel
theorem dDu_canBeCents_6 : decode bDu_canBeCents 6 = .ok (.lload_n 0, 1) := by decide +kernel
theorem dDu_canBeCents_7 : decode bDu_canBeCents 7 = .ok (.ldc2_w 229, 3) := by decide +kernel
theorem dDu_canBeCents_10 : decode bDu_canBeCents 10 = .ok (.lcmp, 1) := by decide +kernel
theorem dDu_canBeCents_11 : decode bDu_canBeCents 11 = .ok (.ifCond .lt 15, 3) := by decide +kernel
theorem dDu_canBeCents_14 : decode bDu_canBeCents 14 = .ok (.lload_n 0, 1) := by decide +kernel
theorem dDu_canBeCents_15 : decode bDu_canBeCents 15 = .ok (.ldc2_w 231, 3) := by decide +kernel
theorem dDu_canBeCents_18 : decode bDu_canBeCents 18 = .ok (.lcmp, 1) := by decide +kernel
theorem dDu_canBeCents_19 : decode bDu_canBeCents 19 = .ok (.ifCond .gt 7, 3) := by decide +kernel
theorem dDu_canBeCents_22 : decode bDu_canBeCents 22 = .ok (.iconst 1, 1) := by decide +kernel
theorem dDu_canBeCents_23 : decode bDu_canBeCents 23 = .ok (.goto 4, 3) := by decide +kernel
theorem dDu_canBeCents_26 : decode bDu_canBeCents 26 = .ok (.iconst 0, 1) := by decide +kernel
theorem dDu_canBeCents_27 : decode bDu_canBeCents 27 = .ok (.ireturn, 1) := by decide +kernel
theorem dDu_fails_0 : decode bDu_fails 0 = .ok (.aload_n 0, 1) := by decide +kernel
theorem dDu_fails_1 : decode bDu_fails 1 = .ok (.iconst 0, 1) := by decide +kernel
theorem dDu_fails_2 : decode bDu_fails 2 = .ok (.iload_n 1, 1) := by decide +kernel
theorem dDu_fails_3 : decode bDu_fails 3 = .ok (.invokevirtual 85, 3) := by decide +kernel
theorem dDu_fails_6 : decode bDu_fails 6 = .ok (.astore_n 3, 1) := by decide +kernel
theorem dDu_fails_7 : decode bDu_fails 7 = .ok (.aload_n 3, 1) := by decide +kernel
theorem dDu_fails_8 : decode bDu_fails 8 = .ok (.ifnonnull 5, 3) := by decide +kernel
theorem dDu_fails_11 : decode bDu_fails 11 = .ok (.iconst 0, 1) := by decide +kernel
theorem dDu_fails_12 : decode bDu_fails 12 = .ok (.ireturn, 1) := by decide +kernel
theorem dDu_fails_13 : decode bDu_fails 13 = .ok (.aload_n 3, 1) := by decide +kernel
theorem dDu_fails_14 : decode bDu_fails 14 = .ok (.iload_n 2, 1) := by decide +kernel
theorem dDu_fails_15 : decode bDu_fails 15 = .ok (.putfield 100, 3) := by decide +kernel
theorem dDu_fails_18 : decode bDu_fails 18 = .ok (.iconst 1, 1) := by decide +kernel
theorem dDu_fails_19 : decode bDu_fails 19 = .ok (.ireturn, 1) := by decide +kernel
theorem dDu_close_0 : decode bDu_close 0 = .ok (.iload_n 1, 1) := by decide +kernel
theorem dDu_close_1 : decode bDu_close 1 = .ok (.invokestatic 71, 3) := by decide +kernel
theorem dDu_close_4 : decode bDu_close 4 = .ok (.ifCond .eq 11, 3) := by decide +kernel
theorem dDu_close_7 : decode bDu_close 7 = .ok (.iload_n 1, 1) := by decide +kernel
theorem dDu_close_8 : decode bDu_close 8 = .ok (.aload_n 0, 1) := by decide +kernel
theorem dDu_close_9 : decode bDu_close 9 = .ok (.getfield 40, 3) := by decide +kernel
theorem dDu_close_12 : decode bDu_close 12 = .ok (.if_icmp .gt 5, 3) := by decide +kernel
theorem dDu_close_15 : decode bDu_close 15 = .ok (.iconst 0, 1) := by decide +kernel
theorem dDu_close_16 : decode bDu_close 16 = .ok (.ireturn, 1) := by decide +kernel
theorem dDu_close_17 : decode bDu_close 17 = .ok (.aload_n 0, 1) := by decide +kernel
theorem dDu_close_18 : decode bDu_close 18 = .ok (.iload_n 1, 1) := by decide +kernel
theorem dDu_close_19 : decode bDu_close 19 = .ok (.putfield 40, 3) := by decide +kernel
theorem dDu_close_22 : decode bDu_close 22 = .ok (.iconst 1, 1) := by decide +kernel
theorem dDu_close_23 : decode bDu_close 23 = .ok (.ireturn, 1) := by decide +kernel
theorem dDu_isDay_0 : decode bDu_isDay 0 = .ok (.iload_n 0, 1) := by decide +kernel
theorem dDu_isDay_1 : decode bDu_isDay 1 = .ok (.ifCond .lt 13, 3) := by decide +kernel
theorem dDu_isDay_4 : decode bDu_isDay 4 = .ok (.iload_n 0, 1) := by decide +kernel
theorem dDu_isDay_5 : decode bDu_isDay 5 = .ok (.ldc 228, 2) := by decide +kernel
theorem dDu_isDay_7 : decode bDu_isDay 7 = .ok (.if_icmp .gt 7, 3) := by decide +kernel
theorem dDu_isDay_10 : decode bDu_isDay 10 = .ok (.iconst 1, 1) := by decide +kernel
theorem dDu_isDay_11 : decode bDu_isDay 11 = .ok (.goto 4, 3) := by decide +kernel
theorem dDu_isDay_14 : decode bDu_isDay 14 = .ok (.iconst 0, 1) := by decide +kernel
theorem dDu_isDay_15 : decode bDu_isDay 15 = .ok (.ireturn, 1) := by decide +kernel
theorem dDu_part_0 : decode bDu_part 0 = .ok (.iload_n 1, 1) := by decide +kernel
theorem dDu_part_1 : decode bDu_part 1 = .ok (.invokestatic 55, 3) := by decide +kernel
theorem dDu_part_4 : decode bDu_part 4 = .ok (.ifCond .eq 21, 3) := by decide +kernel
theorem dDu_part_7 : decode bDu_part 7 = .ok (.iload_n 2, 1) := by decide +kernel
theorem dDu_part_8 : decode bDu_part 8 = .ok (.invokestatic 154, 3) := by decide +kernel
theorem dDu_part_11 : decode bDu_part 11 = .ok (.ifCond .eq 14, 3) := by decide +kernel
theorem dDu_part_14 : decode bDu_part 14 = .ok (.iload_n 3, 1) := by decide +kernel
theorem dDu_part_15 : decode bDu_part 15 = .ok (.ifCond .lt 10, 3) := by decide +kernel
theorem dDu_part_18 : decode bDu_part 18 = .ok (.iload_n 3, 1) := by decide +kernel
theorem dDu_part_19 : decode bDu_part 19 = .ok (.sipush 1000, 3) := by decide +kernel
theorem dDu_part_22 : decode bDu_part 22 = .ok (.if_icmp .le 5, 3) := by decide +kernel
theorem dDu_part_25 : decode bDu_part 25 = .ok (.iconst 0, 1) := by decide +kernel
theorem dDu_part_26 : decode bDu_part 26 = .ok (.ireturn, 1) := by decide +kernel
theorem dDu_part_27 : decode bDu_part 27 = .ok (.aload_n 0, 1) := by decide +kernel
theorem dDu_part_28 : decode bDu_part 28 = .ok (.getfield 36, 3) := by decide +kernel
theorem dDu_part_31 : decode bDu_part 31 = .ok (.iload_n 1, 1) := by decide +kernel
theorem dDu_part_32 : decode bDu_part 32 = .ok (.iload_n 2, 1) := by decide +kernel
theorem dDu_part_33 : decode bDu_part 33 = .ok (.iload_n 3, 1) := by decide +kernel
theorem dDu_part_34 : decode bDu_part 34 = .ok (.invokevirtual 157, 3) := by decide +kernel
theorem dDu_part_37 : decode bDu_part 37 = .ok (.iconst 1, 1) := by decide +kernel
theorem dDu_part_38 : decode bDu_part 38 = .ok (.ireturn, 1) := by decide +kernel
theorem dDu_isKind_0 : decode bDu_isKind 0 = .ok (.iload_n 0, 1) := by decide +kernel
theorem dDu_isKind_1 : decode bDu_isKind 1 = .ok (.ifCond .lt 13, 3) := by decide +kernel
theorem dDu_isKind_4 : decode bDu_isKind 4 = .ok (.iload_n 0, 1) := by decide +kernel
theorem dDu_isKind_5 : decode bDu_isKind 5 = .ok (.bipush 6, 2) := by decide +kernel
theorem dDu_isKind_7 : decode bDu_isKind 7 = .ok (.if_icmp .ge 7, 3) := by decide +kernel
theorem dDu_isKind_10 : decode bDu_isKind 10 = .ok (.iconst 1, 1) := by decide +kernel
theorem dDu_isKind_11 : decode bDu_isKind 11 = .ok (.goto 4, 3) := by decide +kernel
theorem dDu_isKind_14 : decode bDu_isKind 14 = .ok (.iconst 0, 1) := by decide +kernel
theorem dDu_isKind_15 : decode bDu_isKind 15 = .ok (.ireturn, 1) := by decide +kernel
theorem dDu_isReceiver_0 : decode bDu_isReceiver 0 = .ok (.iload_n 0, 1) := by decide +kernel
theorem dDu_isReceiver_1 : decode bDu_isReceiver 1 = .ok (.ifCond .lt 12, 3) := by decide +kernel
theorem dDu_isReceiver_4 : decode bDu_isReceiver 4 = .ok (.iload_n 0, 1) := by decide +kernel
theorem dDu_isReceiver_5 : decode bDu_isReceiver 5 = .ok (.iconst 4, 1) := by decide +kernel
theorem dDu_isReceiver_6 : decode bDu_isReceiver 6 = .ok (.if_icmp .ge 7, 3) := by decide +kernel
theorem dDu_isReceiver_9 : decode bDu_isReceiver 9 = .ok (.iconst 1, 1) := by decide +kernel
theorem dDu_isReceiver_10 : decode bDu_isReceiver 10 = .ok (.goto 4, 3) := by decide +kernel
theorem dDu_isReceiver_13 : decode bDu_isReceiver 13 = .ok (.iconst 0, 1) := by decide +kernel
theorem dDu_isReceiver_14 : decode bDu_isReceiver 14 = .ok (.ireturn, 1) := by decide +kernel
theorem dDu_cost_0 : decode bDu_cost 0 = .ok (.iload_n 1, 1) := by decide +kernel
theorem dDu_cost_1 : decode bDu_cost 1 = .ok (.invokestatic 55, 3) := by decide +kernel
theorem dDu_cost_4 : decode bDu_cost 4 = .ok (.ifCond .eq 14, 3) := by decide +kernel
theorem dDu_cost_7 : decode bDu_cost 7 = .ok (.iload_n 2, 1) := by decide +kernel
theorem dDu_cost_8 : decode bDu_cost 8 = .ok (.ifCond .lt 10, 3) := by decide +kernel
theorem dDu_cost_11 : decode bDu_cost 11 = .ok (.iload_n 2, 1) := by decide +kernel
theorem dDu_cost_12 : decode bDu_cost 12 = .ok (.sipush 1000, 3) := by decide +kernel
theorem dDu_cost_15 : decode bDu_cost 15 = .ok (.if_icmp .le 5, 3) := by decide +kernel
theorem dDu_cost_18 : decode bDu_cost 18 = .ok (.iconst 0, 1) := by decide +kernel
theorem dDu_cost_19 : decode bDu_cost 19 = .ok (.ireturn, 1) := by decide +kernel
theorem dDu_cost_20 : decode bDu_cost 20 = .ok (.aload_n 0, 1) := by decide +kernel
theorem dDu_cost_21 : decode bDu_cost 21 = .ok (.getfield 36, 3) := by decide +kernel
theorem dDu_cost_24 : decode bDu_cost 24 = .ok (.iload_n 1, 1) := by decide +kernel
theorem dDu_cost_25 : decode bDu_cost 25 = .ok (.iload_n 2, 1) := by decide +kernel
theorem dDu_cost_26 : decode bDu_cost 26 = .ok (.invokevirtual 160, 3) := by decide +kernel
theorem dDu_cost_29 : decode bDu_cost 29 = .ok (.iconst 1, 1) := by decide +kernel
theorem dDu_cost_30 : decode bDu_cost 30 = .ok (.ireturn, 1) := by decide +kernel
theorem dDu_count_0 : decode bDu_count 0 = .ok (.iload_n 1, 1) := by decide +kernel
theorem dDu_count_1 : decode bDu_count 1 = .ok (.tableswitch 102 0 8 #[51, 56, 61, 69, 74, 79, 84, 89, 97], 51) := by decide +kernel
theorem dDu_count_52 : decode bDu_count 52 = .ok (.aload_n 0, 1) := by decide +kernel
theorem dDu_count_53 : decode bDu_count 53 = .ok (.getfield 13, 3) := by decide +kernel
theorem dDu_count_56 : decode bDu_count 56 = .ok (.ireturn, 1) := by decide +kernel
theorem dDu_count_57 : decode bDu_count 57 = .ok (.aload_n 0, 1) := by decide +kernel
theorem dDu_count_58 : decode bDu_count 58 = .ok (.getfield 23, 3) := by decide +kernel
theorem dDu_count_61 : decode bDu_count 61 = .ok (.ireturn, 1) := by decide +kernel
theorem dDu_count_62 : decode bDu_count 62 = .ok (.aload_n 0, 1) := by decide +kernel
theorem dDu_count_63 : decode bDu_count 63 = .ok (.getfield 29, 3) := by decide +kernel
theorem dDu_count_66 : decode bDu_count 66 = .ok (.getfield 183, 3) := by decide +kernel
theorem dDu_count_69 : decode bDu_count 69 = .ok (.ireturn, 1) := by decide +kernel
theorem dDu_count_70 : decode bDu_count 70 = .ok (.aload_n 0, 1) := by decide +kernel
theorem dDu_count_71 : decode bDu_count 71 = .ok (.getfield 40, 3) := by decide +kernel
theorem dDu_count_74 : decode bDu_count 74 = .ok (.ireturn, 1) := by decide +kernel
theorem dDu_count_75 : decode bDu_count 75 = .ok (.aload_n 0, 1) := by decide +kernel
theorem dDu_count_76 : decode bDu_count 76 = .ok (.getfield 43, 3) := by decide +kernel
theorem dDu_count_79 : decode bDu_count 79 = .ok (.ireturn, 1) := by decide +kernel
theorem dDu_count_80 : decode bDu_count 80 = .ok (.aload_n 0, 1) := by decide +kernel
theorem dDu_count_81 : decode bDu_count 81 = .ok (.getfield 46, 3) := by decide +kernel
theorem dDu_count_84 : decode bDu_count 84 = .ok (.ireturn, 1) := by decide +kernel
theorem dDu_count_85 : decode bDu_count 85 = .ok (.aload_n 0, 1) := by decide +kernel
theorem dDu_count_86 : decode bDu_count 86 = .ok (.getfield 49, 3) := by decide +kernel
theorem dDu_count_89 : decode bDu_count 89 = .ok (.ireturn, 1) := by decide +kernel
theorem dDu_count_90 : decode bDu_count 90 = .ok (.aload_n 0, 1) := by decide +kernel
theorem dDu_count_91 : decode bDu_count 91 = .ok (.getfield 29, 3) := by decide +kernel
theorem dDu_count_94 : decode bDu_count 94 = .ok (.getfield 225, 3) := by decide +kernel
theorem dDu_count_97 : decode bDu_count 97 = .ok (.ireturn, 1) := by decide +kernel
theorem dDu_count_98 : decode bDu_count 98 = .ok (.aload_n 0, 1) := by decide +kernel
theorem dDu_count_99 : decode bDu_count 99 = .ok (.getfield 52, 3) := by decide +kernel
theorem dDu_count_102 : decode bDu_count 102 = .ok (.ireturn, 1) := by decide +kernel
theorem dDu_count_103 : decode bDu_count 103 = .ok (.iconst (-1), 1) := by decide +kernel
theorem dDu_count_104 : decode bDu_count 104 = .ok (.ireturn, 1) := by decide +kernel
theorem dDu_account_0 : decode bDu_account 0 = .ok (.iload_n 1, 1) := by decide +kernel
theorem dDu_account_1 : decode bDu_account 1 = .ok (.invokestatic 55, 3) := by decide +kernel
theorem dDu_account_4 : decode bDu_account 4 = .ok (.ifCond .ne 13, 3) := by decide +kernel
theorem dDu_account_7 : decode bDu_account 7 = .ok (.new 59, 3) := by decide +kernel
theorem dDu_account_10 : decode bDu_account 10 = .ok (.dup, 1) := by decide +kernel
theorem dDu_account_11 : decode bDu_account 11 = .ok (.ldc 61, 2) := by decide +kernel
theorem dDu_account_13 : decode bDu_account 13 = .ok (.invokespecial 63, 3) := by decide +kernel
theorem dDu_account_16 : decode bDu_account 16 = .ok (.athrow, 1) := by decide +kernel
theorem dDu_account_17 : decode bDu_account 17 = .ok (.aload_n 0, 1) := by decide +kernel
theorem dDu_account_18 : decode bDu_account 18 = .ok (.getfield 13, 3) := by decide +kernel
theorem dDu_account_21 : decode bDu_account 21 = .ok (.bipush 12, 2) := by decide +kernel
theorem dDu_account_23 : decode bDu_account 23 = .ok (.if_icmp .lt 13, 3) := by decide +kernel
theorem dDu_account_26 : decode bDu_account 26 = .ok (.new 66, 3) := by decide +kernel
theorem dDu_account_29 : decode bDu_account 29 = .ok (.dup, 1) := by decide +kernel
theorem dDu_account_30 : decode bDu_account 30 = .ok (.ldc 68, 2) := by decide +kernel
theorem dDu_account_32 : decode bDu_account 32 = .ok (.invokespecial 70, 3) := by decide +kernel
theorem dDu_account_35 : decode bDu_account 35 = .ok (.athrow, 1) := by decide +kernel
theorem dDu_account_36 : decode bDu_account 36 = .ok (.aload_n 0, 1) := by decide +kernel
theorem dDu_account_37 : decode bDu_account 37 = .ok (.getfield 9, 3) := by decide +kernel
theorem dDu_account_40 : decode bDu_account 40 = .ok (.aload_n 0, 1) := by decide +kernel
theorem dDu_account_41 : decode bDu_account 41 = .ok (.getfield 13, 3) := by decide +kernel
theorem dDu_account_44 : decode bDu_account 44 = .ok (.iload_n 1, 1) := by decide +kernel
theorem dDu_account_45 : decode bDu_account 45 = .ok (.iastore, 1) := by decide +kernel
theorem dDu_account_46 : decode bDu_account 46 = .ok (.aload_n 0, 1) := by decide +kernel
theorem dDu_account_47 : decode bDu_account 47 = .ok (.dup, 1) := by decide +kernel
theorem dDu_account_48 : decode bDu_account 48 = .ok (.getfield 13, 3) := by decide +kernel
theorem dDu_account_51 : decode bDu_account 51 = .ok (.iconst 1, 1) := by decide +kernel
theorem dDu_account_52 : decode bDu_account 52 = .ok (.iadd, 1) := by decide +kernel
theorem dDu_account_53 : decode bDu_account 53 = .ok (.putfield 13, 3) := by decide +kernel
theorem dDu_account_56 : decode bDu_account 56 = .ok (.aload_n 0, 1) := by decide +kernel
theorem dDu_account_57 : decode bDu_account 57 = .ok (.getfield 13, 3) := by decide +kernel
theorem dDu_account_60 : decode bDu_account 60 = .ok (.iconst 1, 1) := by decide +kernel
theorem dDu_account_61 : decode bDu_account 61 = .ok (.isub, 1) := by decide +kernel
theorem dDu_account_62 : decode bDu_account 62 = .ok (.ireturn, 1) := by decide +kernel
theorem dDu_batch_0 : decode bDu_batch 0 = .ok (.iload_n 1, 1) := by decide +kernel
theorem dDu_batch_1 : decode bDu_batch 1 = .ok (.invokestatic 71, 3) := by decide +kernel
theorem dDu_batch_4 : decode bDu_batch 4 = .ok (.ifCond .eq 10, 3) := by decide +kernel
theorem dDu_batch_7 : decode bDu_batch 7 = .ok (.iload_n 2, 1) := by decide +kernel
theorem dDu_batch_8 : decode bDu_batch 8 = .ok (.invokestatic 71, 3) := by decide +kernel
theorem dDu_batch_11 : decode bDu_batch 11 = .ok (.ifCond .ne 13, 3) := by decide +kernel
theorem dDu_batch_14 : decode bDu_batch 14 = .ok (.new 59, 3) := by decide +kernel
theorem dDu_batch_17 : decode bDu_batch 17 = .ok (.dup, 1) := by decide +kernel
theorem dDu_batch_18 : decode bDu_batch 18 = .ok (.ldc 74, 2) := by decide +kernel
theorem dDu_batch_20 : decode bDu_batch 20 = .ok (.invokespecial 63, 3) := by decide +kernel
theorem dDu_batch_23 : decode bDu_batch 23 = .ok (.athrow, 1) := by decide +kernel
theorem dDu_batch_24 : decode bDu_batch 24 = .ok (.aload_n 0, 1) := by decide +kernel
theorem dDu_batch_25 : decode bDu_batch 25 = .ok (.getfield 23, 3) := by decide +kernel
theorem dDu_batch_28 : decode bDu_batch 28 = .ok (.bipush 100, 2) := by decide +kernel
theorem dDu_batch_30 : decode bDu_batch 30 = .ok (.if_icmp .lt 13, 3) := by decide +kernel
theorem dDu_batch_33 : decode bDu_batch 33 = .ok (.new 66, 3) := by decide +kernel
theorem dDu_batch_36 : decode bDu_batch 36 = .ok (.dup, 1) := by decide +kernel
theorem dDu_batch_37 : decode bDu_batch 37 = .ok (.ldc 76, 2) := by decide +kernel
theorem dDu_batch_39 : decode bDu_batch 39 = .ok (.invokespecial 70, 3) := by decide +kernel
theorem dDu_batch_42 : decode bDu_batch 42 = .ok (.athrow, 1) := by decide +kernel
theorem dDu_batch_43 : decode bDu_batch 43 = .ok (.aload_n 0, 1) := by decide +kernel
theorem dDu_batch_44 : decode bDu_batch 44 = .ok (.new 17, 3) := by decide +kernel
theorem dDu_batch_47 : decode bDu_batch 47 = .ok (.dup, 1) := by decide +kernel
theorem dDu_batch_48 : decode bDu_batch 48 = .ok (.iload_n 1, 1) := by decide +kernel
theorem dDu_batch_49 : decode bDu_batch 49 = .ok (.iload_n 2, 1) := by decide +kernel
theorem dDu_batch_50 : decode bDu_batch 50 = .ok (.iconst (-1), 1) := by decide +kernel
theorem dDu_batch_51 : decode bDu_batch 51 = .ok (.invokespecial 78, 3) := by decide +kernel
theorem dDu_batch_54 : decode bDu_batch 54 = .ok (.invokevirtual 81, 3) := by decide +kernel
theorem dDu_batch_57 : decode bDu_batch 57 = .ok (.ireturn, 1) := by decide +kernel
theorem dDu_keep_0 : decode bDu_keep 0 = .ok (.aload_n 0, 1) := by decide +kernel
theorem dDu_keep_1 : decode bDu_keep 1 = .ok (.getfield 19, 3) := by decide +kernel
theorem dDu_keep_4 : decode bDu_keep 4 = .ok (.aload_n 0, 1) := by decide +kernel
theorem dDu_keep_5 : decode bDu_keep 5 = .ok (.getfield 23, 3) := by decide +kernel
theorem dDu_keep_8 : decode bDu_keep 8 = .ok (.aload_n 1, 1) := by decide +kernel
theorem dDu_keep_9 : decode bDu_keep 9 = .ok (.aastore, 1) := by decide +kernel
theorem dDu_keep_10 : decode bDu_keep 10 = .ok (.aload_n 0, 1) := by decide +kernel
theorem dDu_keep_11 : decode bDu_keep 11 = .ok (.dup, 1) := by decide +kernel
theorem dDu_keep_12 : decode bDu_keep 12 = .ok (.getfield 23, 3) := by decide +kernel
theorem dDu_keep_15 : decode bDu_keep 15 = .ok (.iconst 1, 1) := by decide +kernel
theorem dDu_keep_16 : decode bDu_keep 16 = .ok (.iadd, 1) := by decide +kernel
theorem dDu_keep_17 : decode bDu_keep 17 = .ok (.putfield 23, 3) := by decide +kernel
theorem dDu_keep_20 : decode bDu_keep 20 = .ok (.aload_n 0, 1) := by decide +kernel
theorem dDu_keep_21 : decode bDu_keep 21 = .ok (.getfield 23, 3) := by decide +kernel
theorem dDu_keep_24 : decode bDu_keep 24 = .ok (.iconst 1, 1) := by decide +kernel
theorem dDu_keep_25 : decode bDu_keep 25 = .ok (.isub, 1) := by decide +kernel
theorem dDu_keep_26 : decode bDu_keep 26 = .ok (.ireturn, 1) := by decide +kernel
theorem dDu_post_0 : decode bDu_post 0 = .ok (.aload_n 0, 1) := by decide +kernel
theorem dDu_post_1 : decode bDu_post 1 = .ok (.iconst 0, 1) := by decide +kernel
theorem dDu_post_2 : decode bDu_post 2 = .ok (.iload_n 1, 1) := by decide +kernel
theorem dDu_post_3 : decode bDu_post 3 = .ok (.invokevirtual 85, 3) := by decide +kernel
theorem dDu_post_6 : decode bDu_post 6 = .ok (.astore_n 2, 1) := by decide +kernel
theorem dDu_post_7 : decode bDu_post 7 = .ok (.aload_n 2, 1) := by decide +kernel
theorem dDu_post_8 : decode bDu_post 8 = .ok (.ifnonnull 13, 3) := by decide +kernel
theorem dDu_post_11 : decode bDu_post 11 = .ok (.new 59, 3) := by decide +kernel
theorem dDu_post_14 : decode bDu_post 14 = .ok (.dup, 1) := by decide +kernel
theorem dDu_post_15 : decode bDu_post 15 = .ok (.ldc 104, 2) := by decide +kernel
theorem dDu_post_17 : decode bDu_post 17 = .ok (.invokespecial 63, 3) := by decide +kernel
theorem dDu_post_20 : decode bDu_post 20 = .ok (.athrow, 1) := by decide +kernel
theorem dDu_post_21 : decode bDu_post 21 = .ok (.aload_n 0, 1) := by decide +kernel
theorem dDu_post_22 : decode bDu_post 22 = .ok (.aload_n 2, 1) := by decide +kernel
theorem dDu_post_23 : decode bDu_post 23 = .ok (.invokevirtual 106, 3) := by decide +kernel
theorem dDu_post_26 : decode bDu_post 26 = .ok (.istore_n 3, 1) := by decide +kernel
theorem dDu_post_27 : decode bDu_post 27 = .ok (.iload_n 3, 1) := by decide +kernel
theorem dDu_post_28 : decode bDu_post 28 = .ok (.ifCond .eq 19, 3) := by decide +kernel
theorem dDu_post_31 : decode bDu_post 31 = .ok (.aload_n 0, 1) := by decide +kernel
theorem dDu_post_32 : decode bDu_post 32 = .ok (.aload_n 2, 1) := by decide +kernel
theorem dDu_post_33 : decode bDu_post 33 = .ok (.iload_n 3, 1) := by decide +kernel
theorem dDu_post_34 : decode bDu_post 34 = .ok (.invokevirtual 109, 3) := by decide +kernel
theorem dDu_post_37 : decode bDu_post 37 = .ok (.new 66, 3) := by decide +kernel
theorem dDu_post_40 : decode bDu_post 40 = .ok (.dup, 1) := by decide +kernel
theorem dDu_post_41 : decode bDu_post 41 = .ok (.ldc 113, 2) := by decide +kernel
theorem dDu_post_43 : decode bDu_post 43 = .ok (.invokespecial 70, 3) := by decide +kernel
theorem dDu_post_46 : decode bDu_post 46 = .ok (.athrow, 1) := by decide +kernel
theorem dDu_post_47 : decode bDu_post 47 = .ok (.aload_n 2, 1) := by decide +kernel
theorem dDu_post_48 : decode bDu_post 48 = .ok (.getfield 100, 3) := by decide +kernel
theorem dDu_post_51 : decode bDu_post 51 = .ok (.ifCond .eq 19, 3) := by decide +kernel
theorem dDu_post_54 : decode bDu_post 54 = .ok (.aload_n 0, 1) := by decide +kernel
theorem dDu_post_55 : decode bDu_post 55 = .ok (.iload_n 1, 1) := by decide +kernel
theorem dDu_post_56 : decode bDu_post 56 = .ok (.aload_n 2, 1) := by decide +kernel
theorem dDu_post_57 : decode bDu_post 57 = .ok (.invokevirtual 115, 3) := by decide +kernel
theorem dDu_post_60 : decode bDu_post 60 = .ok (.new 119, 3) := by decide +kernel
theorem dDu_post_63 : decode bDu_post 63 = .ok (.dup, 1) := by decide +kernel
theorem dDu_post_64 : decode bDu_post 64 = .ok (.ldc 121, 2) := by decide +kernel
theorem dDu_post_66 : decode bDu_post 66 = .ok (.invokespecial 123, 3) := by decide +kernel
theorem dDu_post_69 : decode bDu_post 69 = .ok (.athrow, 1) := by decide +kernel
theorem dDu_post_70 : decode bDu_post 70 = .ok (.aload_n 0, 1) := by decide +kernel
theorem dDu_post_71 : decode bDu_post 71 = .ok (.iload_n 1, 1) := by decide +kernel
theorem dDu_post_72 : decode bDu_post 72 = .ok (.aload_n 2, 1) := by decide +kernel
theorem dDu_post_73 : decode bDu_post 73 = .ok (.invokevirtual 124, 3) := by decide +kernel
theorem dDu_post_76 : decode bDu_post 76 = .ok (.iconst 1, 1) := by decide +kernel
theorem dDu_post_77 : decode bDu_post 77 = .ok (.ireturn, 1) := by decide +kernel
theorem dDu_whatIsWrongWith_0 : decode bDu_whatIsWrongWith 0 = .ok (.aload_n 1, 1) := by decide +kernel
theorem dDu_whatIsWrongWith_1 : decode bDu_whatIsWrongWith 1 = .ok (.getfield 218, 3) := by decide +kernel
theorem dDu_whatIsWrongWith_4 : decode bDu_whatIsWrongWith 4 = .ok (.ifCond .ne 5, 3) := by decide +kernel
theorem dDu_whatIsWrongWith_7 : decode bDu_whatIsWrongWith 7 = .ok (.iconst 1, 1) := by decide +kernel
theorem dDu_whatIsWrongWith_8 : decode bDu_whatIsWrongWith 8 = .ok (.ireturn, 1) := by decide +kernel
theorem dDu_whatIsWrongWith_9 : decode bDu_whatIsWrongWith 9 = .ok (.aload_n 1, 1) := by decide +kernel
theorem dDu_whatIsWrongWith_10 : decode bDu_whatIsWrongWith 10 = .ok (.invokevirtual 233, 3) := by decide +kernel
theorem dDu_whatIsWrongWith_13 : decode bDu_whatIsWrongWith 13 = .ok (.lconst 0, 1) := by decide +kernel
theorem dDu_whatIsWrongWith_14 : decode bDu_whatIsWrongWith 14 = .ok (.lcmp, 1) := by decide +kernel
theorem dDu_whatIsWrongWith_15 : decode bDu_whatIsWrongWith 15 = .ok (.ifCond .eq 5, 3) := by decide +kernel
theorem dDu_whatIsWrongWith_18 : decode bDu_whatIsWrongWith 18 = .ok (.iconst 2, 1) := by decide +kernel
theorem dDu_whatIsWrongWith_19 : decode bDu_whatIsWrongWith 19 = .ok (.ireturn, 1) := by decide +kernel
theorem dDu_whatIsWrongWith_20 : decode bDu_whatIsWrongWith 20 = .ok (.aload_n 1, 1) := by decide +kernel
theorem dDu_whatIsWrongWith_21 : decode bDu_whatIsWrongWith 21 = .ok (.getfield 222, 3) := by decide +kernel
theorem dDu_whatIsWrongWith_24 : decode bDu_whatIsWrongWith 24 = .ok (.aload_n 0, 1) := by decide +kernel
theorem dDu_whatIsWrongWith_25 : decode bDu_whatIsWrongWith 25 = .ok (.getfield 40, 3) := by decide +kernel
theorem dDu_whatIsWrongWith_28 : decode bDu_whatIsWrongWith 28 = .ok (.if_icmp .gt 5, 3) := by decide +kernel
theorem dDu_whatIsWrongWith_31 : decode bDu_whatIsWrongWith 31 = .ok (.iconst 3, 1) := by decide +kernel
theorem dDu_whatIsWrongWith_32 : decode bDu_whatIsWrongWith 32 = .ok (.ireturn, 1) := by decide +kernel
theorem dDu_whatIsWrongWith_33 : decode bDu_whatIsWrongWith 33 = .ok (.aload_n 1, 1) := by decide +kernel
theorem dDu_whatIsWrongWith_34 : decode bDu_whatIsWrongWith 34 = .ok (.getfield 222, 3) := by decide +kernel
theorem dDu_whatIsWrongWith_37 : decode bDu_whatIsWrongWith 37 = .ok (.aload_n 0, 1) := by decide +kernel
theorem dDu_whatIsWrongWith_38 : decode bDu_whatIsWrongWith 38 = .ok (.getfield 43, 3) := by decide +kernel
theorem dDu_whatIsWrongWith_41 : decode bDu_whatIsWrongWith 41 = .ok (.if_icmp .ge 5, 3) := by decide +kernel
theorem dDu_whatIsWrongWith_44 : decode bDu_whatIsWrongWith 44 = .ok (.iconst 4, 1) := by decide +kernel
theorem dDu_whatIsWrongWith_45 : decode bDu_whatIsWrongWith 45 = .ok (.ireturn, 1) := by decide +kernel
theorem dDu_whatIsWrongWith_46 : decode bDu_whatIsWrongWith 46 = .ok (.aload_n 0, 1) := by decide +kernel
theorem dDu_whatIsWrongWith_47 : decode bDu_whatIsWrongWith 47 = .ok (.getfield 29, 3) := by decide +kernel
theorem dDu_whatIsWrongWith_50 : decode bDu_whatIsWrongWith 50 = .ok (.aload_n 1, 1) := by decide +kernel
theorem dDu_whatIsWrongWith_51 : decode bDu_whatIsWrongWith 51 = .ok (.getfield 218, 3) := by decide +kernel
theorem dDu_whatIsWrongWith_54 : decode bDu_whatIsWrongWith 54 = .ok (.invokevirtual 236, 3) := by decide +kernel
theorem dDu_whatIsWrongWith_57 : decode bDu_whatIsWrongWith 57 = .ok (.ifCond .ne 5, 3) := by decide +kernel
theorem dDu_whatIsWrongWith_60 : decode bDu_whatIsWrongWith 60 = .ok (.iconst 5, 1) := by decide +kernel
theorem dDu_whatIsWrongWith_61 : decode bDu_whatIsWrongWith 61 = .ok (.ireturn, 1) := by decide +kernel
theorem dDu_whatIsWrongWith_62 : decode bDu_whatIsWrongWith 62 = .ok (.iconst 0, 1) := by decide +kernel
theorem dDu_whatIsWrongWith_63 : decode bDu_whatIsWrongWith 63 = .ok (.ireturn, 1) := by decide +kernel
theorem dDu_makeVoid_0 : decode bDu_makeVoid 0 = .ok (.aload_n 0, 1) := by decide +kernel
theorem dDu_makeVoid_1 : decode bDu_makeVoid 1 = .ok (.iload_n 2, 1) := by decide +kernel
theorem dDu_makeVoid_2 : decode bDu_makeVoid 2 = .ok (.putfield 46, 3) := by decide +kernel
theorem dDu_makeVoid_5 : decode bDu_makeVoid 5 = .ok (.aload_n 0, 1) := by decide +kernel
theorem dDu_makeVoid_6 : decode bDu_makeVoid 6 = .ok (.iload_n 2, 1) := by decide +kernel
theorem dDu_makeVoid_7 : decode bDu_makeVoid 7 = .ok (.iconst 2, 1) := by decide +kernel
theorem dDu_makeVoid_8 : decode bDu_makeVoid 8 = .ok (.if_icmp .ne 11, 3) := by decide +kernel
theorem dDu_makeVoid_11 : decode bDu_makeVoid 11 = .ok (.aload_n 0, 1) := by decide +kernel
theorem dDu_makeVoid_12 : decode bDu_makeVoid 12 = .ok (.aload_n 1, 1) := by decide +kernel
theorem dDu_makeVoid_13 : decode bDu_makeVoid 13 = .ok (.invokevirtual 239, 3) := by decide +kernel
theorem dDu_makeVoid_16 : decode bDu_makeVoid 16 = .ok (.goto 4, 3) := by decide +kernel
theorem dDu_makeVoid_19 : decode bDu_makeVoid 19 = .ok (.iconst (-1), 1) := by decide +kernel
theorem dDu_makeVoid_20 : decode bDu_makeVoid 20 = .ok (.putfield 49, 3) := by decide +kernel
theorem dDu_makeVoid_23 : decode bDu_makeVoid 23 = .ok (.aload_n 1, 1) := by decide +kernel
theorem dDu_makeVoid_24 : decode bDu_makeVoid 24 = .ok (.iconst 0, 1) := by decide +kernel
theorem dDu_makeVoid_25 : decode bDu_makeVoid 25 = .ok (.putfield 218, 3) := by decide +kernel
theorem dDu_makeVoid_28 : decode bDu_makeVoid 28 = .ok (.aload_n 1, 1) := by decide +kernel
theorem dDu_makeVoid_29 : decode bDu_makeVoid 29 = .ok (.iconst 2, 1) := by decide +kernel
theorem dDu_makeVoid_30 : decode bDu_makeVoid 30 = .ok (.putfield 215, 3) := by decide +kernel
theorem dDu_makeVoid_33 : decode bDu_makeVoid 33 = .ok (.return_, 1) := by decide +kernel
theorem dDu_accountFarthestFromZero_0 : decode bDu_accountFarthestFromZero 0 = .ok (.iconst (-1), 1) := by decide +kernel
theorem dDu_accountFarthestFromZero_1 : decode bDu_accountFarthestFromZero 1 = .ok (.istore_n 2, 1) := by decide +kernel
theorem dDu_accountFarthestFromZero_2 : decode bDu_accountFarthestFromZero 2 = .ok (.lconst 0, 1) := by decide +kernel
theorem dDu_accountFarthestFromZero_3 : decode bDu_accountFarthestFromZero 3 = .ok (.lstore_n 3, 1) := by decide +kernel
theorem dDu_accountFarthestFromZero_4 : decode bDu_accountFarthestFromZero 4 = .ok (.iconst 0, 1) := by decide +kernel
theorem dDu_accountFarthestFromZero_5 : decode bDu_accountFarthestFromZero 5 = .ok (.istore 5, 2) := by decide +kernel
theorem dDu_accountFarthestFromZero_7 : decode bDu_accountFarthestFromZero 7 = .ok (.iload 5, 2) := by decide +kernel
theorem dDu_accountFarthestFromZero_9 : decode bDu_accountFarthestFromZero 9 = .ok (.aload_n 0, 1) := by decide +kernel
theorem dDu_accountFarthestFromZero_10 : decode bDu_accountFarthestFromZero 10 = .ok (.getfield 13, 3) := by decide +kernel
theorem dDu_accountFarthestFromZero_13 : decode bDu_accountFarthestFromZero 13 = .ok (.if_icmp .ge 33, 3) := by decide +kernel
theorem dDu_accountFarthestFromZero_16 : decode bDu_accountFarthestFromZero 16 = .ok (.aload_n 1, 1) := by decide +kernel
theorem dDu_accountFarthestFromZero_17 : decode bDu_accountFarthestFromZero 17 = .ok (.iload 5, 2) := by decide +kernel
theorem dDu_accountFarthestFromZero_19 : decode bDu_accountFarthestFromZero 19 = .ok (.invokevirtual 242, 3) := by decide +kernel
theorem dDu_accountFarthestFromZero_22 : decode bDu_accountFarthestFromZero 22 = .ok (.invokestatic 246, 3) := by decide +kernel
theorem dDu_accountFarthestFromZero_25 : decode bDu_accountFarthestFromZero 25 = .ok (.lstore 6, 2) := by decide +kernel
theorem dDu_accountFarthestFromZero_27 : decode bDu_accountFarthestFromZero 27 = .ok (.lload 6, 2) := by decide +kernel
theorem dDu_accountFarthestFromZero_29 : decode bDu_accountFarthestFromZero 29 = .ok (.lload_n 3, 1) := by decide +kernel
theorem dDu_accountFarthestFromZero_30 : decode bDu_accountFarthestFromZero 30 = .ok (.lcmp, 1) := by decide +kernel
theorem dDu_accountFarthestFromZero_31 : decode bDu_accountFarthestFromZero 31 = .ok (.ifCond .le 9, 3) := by decide +kernel
theorem dDu_accountFarthestFromZero_34 : decode bDu_accountFarthestFromZero 34 = .ok (.lload 6, 2) := by decide +kernel
theorem dDu_accountFarthestFromZero_36 : decode bDu_accountFarthestFromZero 36 = .ok (.lstore_n 3, 1) := by decide +kernel
theorem dDu_accountFarthestFromZero_37 : decode bDu_accountFarthestFromZero 37 = .ok (.iload 5, 2) := by decide +kernel
theorem dDu_accountFarthestFromZero_39 : decode bDu_accountFarthestFromZero 39 = .ok (.istore_n 2, 1) := by decide +kernel
theorem dDu_accountFarthestFromZero_40 : decode bDu_accountFarthestFromZero 40 = .ok (.iinc 5 1, 3) := by decide +kernel
theorem dDu_accountFarthestFromZero_43 : decode bDu_accountFarthestFromZero 43 = .ok (.goto (-36), 3) := by decide +kernel
theorem dDu_accountFarthestFromZero_46 : decode bDu_accountFarthestFromZero 46 = .ok (.iload_n 2, 1) := by decide +kernel
theorem dDu_accountFarthestFromZero_47 : decode bDu_accountFarthestFromZero 47 = .ok (.ireturn, 1) := by decide +kernel
theorem dDu_failHalfway_0 : decode bDu_failHalfway 0 = .ok (.aload_n 0, 1) := by decide +kernel
theorem dDu_failHalfway_1 : decode bDu_failHalfway 1 = .ok (.getfield 29, 3) := by decide +kernel
theorem dDu_failHalfway_4 : decode bDu_failHalfway 4 = .ok (.iload_n 1, 1) := by decide +kernel
theorem dDu_failHalfway_5 : decode bDu_failHalfway 5 = .ok (.aload_n 2, 1) := by decide +kernel
theorem dDu_failHalfway_6 : decode bDu_failHalfway 6 = .ok (.aload_n 2, 1) := by decide +kernel
theorem dDu_failHalfway_7 : decode bDu_failHalfway 7 = .ok (.getfield 218, 3) := by decide +kernel
theorem dDu_failHalfway_10 : decode bDu_failHalfway 10 = .ok (.iconst 2, 1) := by decide +kernel
theorem dDu_failHalfway_11 : decode bDu_failHalfway 11 = .ok (.idiv, 1) := by decide +kernel
theorem dDu_failHalfway_12 : decode bDu_failHalfway 12 = .ok (.invokevirtual 252, 3) := by decide +kernel
theorem dDu_failHalfway_15 : decode bDu_failHalfway 15 = .ok (.aload_n 0, 1) := by decide +kernel
theorem dDu_failHalfway_16 : decode bDu_failHalfway 16 = .ok (.getfield 29, 3) := by decide +kernel
theorem dDu_failHalfway_19 : decode bDu_failHalfway 19 = .ok (.invokevirtual 256, 3) := by decide +kernel
theorem dDu_failHalfway_22 : decode bDu_failHalfway 22 = .ok (.aload_n 2, 1) := by decide +kernel
theorem dDu_failHalfway_23 : decode bDu_failHalfway 23 = .ok (.iconst 0, 1) := by decide +kernel
theorem dDu_failHalfway_24 : decode bDu_failHalfway 24 = .ok (.putfield 100, 3) := by decide +kernel
theorem dDu_failHalfway_27 : decode bDu_failHalfway 27 = .ok (.aload_n 0, 1) := by decide +kernel
theorem dDu_failHalfway_28 : decode bDu_failHalfway 28 = .ok (.dup, 1) := by decide +kernel
theorem dDu_failHalfway_29 : decode bDu_failHalfway 29 = .ok (.getfield 52, 3) := by decide +kernel
theorem dDu_failHalfway_32 : decode bDu_failHalfway 32 = .ok (.iconst 1, 1) := by decide +kernel
theorem dDu_failHalfway_33 : decode bDu_failHalfway 33 = .ok (.iadd, 1) := by decide +kernel
theorem dDu_failHalfway_34 : decode bDu_failHalfway 34 = .ok (.putfield 52, 3) := by decide +kernel
theorem dDu_failHalfway_37 : decode bDu_failHalfway 37 = .ok (.return_, 1) := by decide +kernel
theorem dDu_enter_0 : decode bDu_enter 0 = .ok (.aload_n 0, 1) := by decide +kernel
theorem dDu_enter_1 : decode bDu_enter 1 = .ok (.getfield 29, 3) := by decide +kernel
theorem dDu_enter_4 : decode bDu_enter 4 = .ok (.iload_n 1, 1) := by decide +kernel
theorem dDu_enter_5 : decode bDu_enter 5 = .ok (.aload_n 2, 1) := by decide +kernel
theorem dDu_enter_6 : decode bDu_enter 6 = .ok (.aload_n 2, 1) := by decide +kernel
theorem dDu_enter_7 : decode bDu_enter 7 = .ok (.getfield 218, 3) := by decide +kernel
theorem dDu_enter_10 : decode bDu_enter 10 = .ok (.invokevirtual 252, 3) := by decide +kernel
theorem dDu_enter_13 : decode bDu_enter 13 = .ok (.aload_n 0, 1) := by decide +kernel
theorem dDu_enter_14 : decode bDu_enter 14 = .ok (.getfield 29, 3) := by decide +kernel
theorem dDu_enter_17 : decode bDu_enter 17 = .ok (.invokevirtual 259, 3) := by decide +kernel
theorem dDu_enter_20 : decode bDu_enter 20 = .ok (.aload_n 2, 1) := by decide +kernel
theorem dDu_enter_21 : decode bDu_enter 21 = .ok (.iconst 1, 1) := by decide +kernel
theorem dDu_enter_22 : decode bDu_enter 22 = .ok (.putfield 215, 3) := by decide +kernel
theorem dDu_enter_25 : decode bDu_enter 25 = .ok (.aload_n 0, 1) := by decide +kernel
theorem dDu_enter_26 : decode bDu_enter 26 = .ok (.aload_n 2, 1) := by decide +kernel
theorem dDu_enter_27 : decode bDu_enter 27 = .ok (.getfield 222, 3) := by decide +kernel
theorem dDu_enter_30 : decode bDu_enter 30 = .ok (.putfield 43, 3) := by decide +kernel
theorem dDu_enter_33 : decode bDu_enter 33 = .ok (.return_, 1) := by decide +kernel
theorem dDu_reverse_0 : decode bDu_reverse 0 = .ok (.aload_n 0, 1) := by decide +kernel
theorem dDu_reverse_1 : decode bDu_reverse 1 = .ok (.iconst 1, 1) := by decide +kernel
theorem dDu_reverse_2 : decode bDu_reverse 2 = .ok (.iload_n 1, 1) := by decide +kernel
theorem dDu_reverse_3 : decode bDu_reverse 3 = .ok (.invokevirtual 85, 3) := by decide +kernel
theorem dDu_reverse_6 : decode bDu_reverse 6 = .ok (.astore_n 3, 1) := by decide +kernel
theorem dDu_reverse_7 : decode bDu_reverse 7 = .ok (.aload_n 3, 1) := by decide +kernel
theorem dDu_reverse_8 : decode bDu_reverse 8 = .ok (.ifnull 10, 3) := by decide +kernel
theorem dDu_reverse_11 : decode bDu_reverse 11 = .ok (.iload_n 2, 1) := by decide +kernel
theorem dDu_reverse_12 : decode bDu_reverse 12 = .ok (.invokestatic 71, 3) := by decide +kernel
theorem dDu_reverse_15 : decode bDu_reverse 15 = .ok (.ifCond .ne 13, 3) := by decide +kernel
theorem dDu_reverse_18 : decode bDu_reverse 18 = .ok (.new 59, 3) := by decide +kernel
theorem dDu_reverse_21 : decode bDu_reverse 21 = .ok (.dup, 1) := by decide +kernel
theorem dDu_reverse_22 : decode bDu_reverse 22 = .ok (.ldc 127, 2) := by decide +kernel
theorem dDu_reverse_24 : decode bDu_reverse 24 = .ok (.invokespecial 63, 3) := by decide +kernel
theorem dDu_reverse_27 : decode bDu_reverse 27 = .ok (.athrow, 1) := by decide +kernel
theorem dDu_reverse_28 : decode bDu_reverse 28 = .ok (.aload_n 3, 1) := by decide +kernel
theorem dDu_reverse_29 : decode bDu_reverse 29 = .ok (.getfield 129, 3) := by decide +kernel
theorem dDu_reverse_32 : decode bDu_reverse 32 = .ok (.iconst (-1), 1) := by decide +kernel
theorem dDu_reverse_33 : decode bDu_reverse 33 = .ok (.if_icmp .ne 11, 3) := by decide +kernel
theorem dDu_reverse_36 : decode bDu_reverse 36 = .ok (.aload_n 3, 1) := by decide +kernel
theorem dDu_reverse_37 : decode bDu_reverse 37 = .ok (.getfield 132, 3) := by decide +kernel
theorem dDu_reverse_40 : decode bDu_reverse 40 = .ok (.iconst (-1), 1) := by decide +kernel
theorem dDu_reverse_41 : decode bDu_reverse 41 = .ok (.if_icmp .eq 13, 3) := by decide +kernel
theorem dDu_reverse_44 : decode bDu_reverse 44 = .ok (.new 66, 3) := by decide +kernel
theorem dDu_reverse_47 : decode bDu_reverse 47 = .ok (.dup, 1) := by decide +kernel
theorem dDu_reverse_48 : decode bDu_reverse 48 = .ok (.ldc 135, 2) := by decide +kernel
theorem dDu_reverse_50 : decode bDu_reverse 50 = .ok (.invokespecial 70, 3) := by decide +kernel
theorem dDu_reverse_53 : decode bDu_reverse 53 = .ok (.athrow, 1) := by decide +kernel
theorem dDu_reverse_54 : decode bDu_reverse 54 = .ok (.aload_n 0, 1) := by decide +kernel
theorem dDu_reverse_55 : decode bDu_reverse 55 = .ok (.getfield 23, 3) := by decide +kernel
theorem dDu_reverse_58 : decode bDu_reverse 58 = .ok (.bipush 100, 2) := by decide +kernel
theorem dDu_reverse_60 : decode bDu_reverse 60 = .ok (.if_icmp .lt 13, 3) := by decide +kernel
theorem dDu_reverse_63 : decode bDu_reverse 63 = .ok (.new 66, 3) := by decide +kernel
theorem dDu_reverse_66 : decode bDu_reverse 66 = .ok (.dup, 1) := by decide +kernel
theorem dDu_reverse_67 : decode bDu_reverse 67 = .ok (.ldc 76, 2) := by decide +kernel
theorem dDu_reverse_69 : decode bDu_reverse 69 = .ok (.invokespecial 70, 3) := by decide +kernel
theorem dDu_reverse_72 : decode bDu_reverse 72 = .ok (.athrow, 1) := by decide +kernel
theorem dDu_reverse_73 : decode bDu_reverse 73 = .ok (.iload_n 1, 1) := by decide +kernel
theorem dDu_reverse_74 : decode bDu_reverse 74 = .ok (.aload_n 3, 1) := by decide +kernel
theorem dDu_reverse_75 : decode bDu_reverse 75 = .ok (.iload_n 2, 1) := by decide +kernel
theorem dDu_reverse_76 : decode bDu_reverse 76 = .ok (.invokestatic 137, 3) := by decide +kernel
theorem dDu_reverse_79 : decode bDu_reverse 79 = .ok (.astore 4, 2) := by decide +kernel
theorem dDu_reverse_81 : decode bDu_reverse 81 = .ok (.aload_n 0, 1) := by decide +kernel
theorem dDu_reverse_82 : decode bDu_reverse 82 = .ok (.aload 4, 2) := by decide +kernel
theorem dDu_reverse_84 : decode bDu_reverse 84 = .ok (.invokevirtual 106, 3) := by decide +kernel
theorem dDu_reverse_87 : decode bDu_reverse 87 = .ok (.ifCond .eq 13, 3) := by decide +kernel
theorem dDu_reverse_90 : decode bDu_reverse 90 = .ok (.new 66, 3) := by decide +kernel
theorem dDu_reverse_93 : decode bDu_reverse 93 = .ok (.dup, 1) := by decide +kernel
theorem dDu_reverse_94 : decode bDu_reverse 94 = .ok (.ldc 141, 2) := by decide +kernel
theorem dDu_reverse_96 : decode bDu_reverse 96 = .ok (.invokespecial 70, 3) := by decide +kernel
theorem dDu_reverse_99 : decode bDu_reverse 99 = .ok (.athrow, 1) := by decide +kernel
theorem dDu_reverse_100 : decode bDu_reverse 100 = .ok (.aload_n 0, 1) := by decide +kernel
theorem dDu_reverse_101 : decode bDu_reverse 101 = .ok (.aload 4, 2) := by decide +kernel
theorem dDu_reverse_103 : decode bDu_reverse 103 = .ok (.invokevirtual 81, 3) := by decide +kernel
theorem dDu_reverse_106 : decode bDu_reverse 106 = .ok (.istore 5, 2) := by decide +kernel
theorem dDu_reverse_108 : decode bDu_reverse 108 = .ok (.aload_n 0, 1) := by decide +kernel
theorem dDu_reverse_109 : decode bDu_reverse 109 = .ok (.iload 5, 2) := by decide +kernel
theorem dDu_reverse_111 : decode bDu_reverse 111 = .ok (.aload 4, 2) := by decide +kernel
theorem dDu_reverse_113 : decode bDu_reverse 113 = .ok (.invokevirtual 124, 3) := by decide +kernel
theorem dDu_reverse_116 : decode bDu_reverse 116 = .ok (.aload_n 3, 1) := by decide +kernel
theorem dDu_reverse_117 : decode bDu_reverse 117 = .ok (.iload 5, 2) := by decide +kernel
theorem dDu_reverse_119 : decode bDu_reverse 119 = .ok (.putfield 132, 3) := by decide +kernel
theorem dDu_reverse_122 : decode bDu_reverse 122 = .ok (.iload 5, 2) := by decide +kernel
theorem dDu_reverse_124 : decode bDu_reverse 124 = .ok (.ireturn, 1) := by decide +kernel
theorem dDu_reversalOf_0 : decode bDu_reversalOf 0 = .ok (.new 17, 3) := by decide +kernel
theorem dDu_reversalOf_3 : decode bDu_reversalOf 3 = .ok (.dup, 1) := by decide +kernel
theorem dDu_reversalOf_4 : decode bDu_reversalOf 4 = .ok (.aload_n 1, 1) := by decide +kernel
theorem dDu_reversalOf_5 : decode bDu_reversalOf 5 = .ok (.getfield 219, 3) := by decide +kernel
theorem dDu_reversalOf_8 : decode bDu_reversalOf 8 = .ok (.iload_n 2, 1) := by decide +kernel
theorem dDu_reversalOf_9 : decode bDu_reversalOf 9 = .ok (.iload_n 0, 1) := by decide +kernel
theorem dDu_reversalOf_10 : decode bDu_reversalOf 10 = .ok (.invokespecial 78, 3) := by decide +kernel
theorem dDu_reversalOf_13 : decode bDu_reversalOf 13 = .ok (.astore_n 3, 1) := by decide +kernel
theorem dDu_reversalOf_14 : decode bDu_reversalOf 14 = .ok (.iconst 0, 1) := by decide +kernel
theorem dDu_reversalOf_15 : decode bDu_reversalOf 15 = .ok (.istore 4, 2) := by decide +kernel
theorem dDu_reversalOf_17 : decode bDu_reversalOf 17 = .ok (.iload 4, 2) := by decide +kernel
theorem dDu_reversalOf_19 : decode bDu_reversalOf 19 = .ok (.aload_n 1, 1) := by decide +kernel
theorem dDu_reversalOf_20 : decode bDu_reversalOf 20 = .ok (.getfield 218, 3) := by decide +kernel
theorem dDu_reversalOf_23 : decode bDu_reversalOf 23 = .ok (.if_icmp .ge 29, 3) := by decide +kernel
theorem dDu_reversalOf_26 : decode bDu_reversalOf 26 = .ok (.aload_n 3, 1) := by decide +kernel
theorem dDu_reversalOf_27 : decode bDu_reversalOf 27 = .ok (.aload_n 1, 1) := by decide +kernel
theorem dDu_reversalOf_28 : decode bDu_reversalOf 28 = .ok (.getfield 262, 3) := by decide +kernel
theorem dDu_reversalOf_31 : decode bDu_reversalOf 31 = .ok (.iload 4, 2) := by decide +kernel
theorem dDu_reversalOf_33 : decode bDu_reversalOf 33 = .ok (.iaload, 1) := by decide +kernel
theorem dDu_reversalOf_34 : decode bDu_reversalOf 34 = .ok (.aload_n 1, 1) := by decide +kernel
theorem dDu_reversalOf_35 : decode bDu_reversalOf 35 = .ok (.getfield 263, 3) := by decide +kernel
theorem dDu_reversalOf_38 : decode bDu_reversalOf 38 = .ok (.iload 4, 2) := by decide +kernel
theorem dDu_reversalOf_40 : decode bDu_reversalOf 40 = .ok (.laload, 1) := by decide +kernel
theorem dDu_reversalOf_41 : decode bDu_reversalOf 41 = .ok (.lneg, 1) := by decide +kernel
theorem dDu_reversalOf_42 : decode bDu_reversalOf 42 = .ok (.invokevirtual 96, 3) := by decide +kernel
theorem dDu_reversalOf_45 : decode bDu_reversalOf 45 = .ok (.pop, 1) := by decide +kernel
theorem dDu_reversalOf_46 : decode bDu_reversalOf 46 = .ok (.iinc 4 1, 3) := by decide +kernel
theorem dDu_reversalOf_49 : decode bDu_reversalOf 49 = .ok (.goto (-32), 3) := by decide +kernel
theorem dDu_reversalOf_52 : decode bDu_reversalOf 52 = .ok (.aload_n 3, 1) := by decide +kernel
theorem dDu_reversalOf_53 : decode bDu_reversalOf 53 = .ok (.areturn, 1) := by decide +kernel
theorem dDu_balance_0 : decode bDu_balance 0 = .ok (.aload_n 0, 1) := by decide +kernel
theorem dDu_balance_1 : decode bDu_balance 1 = .ok (.iload_n 1, 1) := by decide +kernel
theorem dDu_balance_2 : decode bDu_balance 2 = .ok (.invokevirtual 89, 3) := by decide +kernel
theorem dDu_balance_5 : decode bDu_balance 5 = .ok (.ifCond .eq 17, 3) := by decide +kernel
theorem dDu_balance_8 : decode bDu_balance 8 = .ok (.iload_n 2, 1) := by decide +kernel
theorem dDu_balance_9 : decode bDu_balance 9 = .ok (.invokestatic 71, 3) := by decide +kernel
theorem dDu_balance_12 : decode bDu_balance 12 = .ok (.ifCond .eq 10, 3) := by decide +kernel
theorem dDu_balance_15 : decode bDu_balance 15 = .ok (.iload_n 3, 1) := by decide +kernel
theorem dDu_balance_16 : decode bDu_balance 16 = .ok (.invokestatic 71, 3) := by decide +kernel
theorem dDu_balance_19 : decode bDu_balance 19 = .ok (.ifCond .ne 13, 3) := by decide +kernel
theorem dDu_balance_22 : decode bDu_balance 22 = .ok (.new 59, 3) := by decide +kernel
theorem dDu_balance_25 : decode bDu_balance 25 = .ok (.dup, 1) := by decide +kernel
theorem dDu_balance_26 : decode bDu_balance 26 = .ok (.ldc 143, 2) := by decide +kernel
theorem dDu_balance_28 : decode bDu_balance 28 = .ok (.invokespecial 63, 3) := by decide +kernel
theorem dDu_balance_31 : decode bDu_balance 31 = .ok (.athrow, 1) := by decide +kernel
theorem dDu_balance_32 : decode bDu_balance 32 = .ok (.aload_n 0, 1) := by decide +kernel
theorem dDu_balance_33 : decode bDu_balance 33 = .ok (.getfield 29, 3) := by decide +kernel
theorem dDu_balance_36 : decode bDu_balance 36 = .ok (.iload_n 1, 1) := by decide +kernel
theorem dDu_balance_37 : decode bDu_balance 37 = .ok (.iconst 0, 1) := by decide +kernel
theorem dDu_balance_38 : decode bDu_balance 38 = .ok (.iload_n 2, 1) := by decide +kernel
theorem dDu_balance_39 : decode bDu_balance 39 = .ok (.iload_n 3, 1) := by decide +kernel
theorem dDu_balance_40 : decode bDu_balance 40 = .ok (.invokevirtual 145, 3) := by decide +kernel
theorem dDu_balance_43 : decode bDu_balance 43 = .ok (.lreturn, 1) := by decide +kernel
theorem dDu_statement_0 : decode bDu_statement 0 = .ok (.aload_n 0, 1) := by decide +kernel
theorem dDu_statement_1 : decode bDu_statement 1 = .ok (.iload_n 1, 1) := by decide +kernel
theorem dDu_statement_2 : decode bDu_statement 2 = .ok (.invokevirtual 89, 3) := by decide +kernel
theorem dDu_statement_5 : decode bDu_statement 5 = .ok (.ifCond .eq 17, 3) := by decide +kernel
theorem dDu_statement_8 : decode bDu_statement 8 = .ok (.iload_n 2, 1) := by decide +kernel
theorem dDu_statement_9 : decode bDu_statement 9 = .ok (.invokestatic 149, 3) := by decide +kernel
theorem dDu_statement_12 : decode bDu_statement 12 = .ok (.ifCond .eq 10, 3) := by decide +kernel
theorem dDu_statement_15 : decode bDu_statement 15 = .ok (.iload_n 3, 1) := by decide +kernel
theorem dDu_statement_16 : decode bDu_statement 16 = .ok (.invokestatic 71, 3) := by decide +kernel
theorem dDu_statement_19 : decode bDu_statement 19 = .ok (.ifCond .ne 13, 3) := by decide +kernel
theorem dDu_statement_22 : decode bDu_statement 22 = .ok (.new 59, 3) := by decide +kernel
theorem dDu_statement_25 : decode bDu_statement 25 = .ok (.dup, 1) := by decide +kernel
theorem dDu_statement_26 : decode bDu_statement 26 = .ok (.ldc 152, 2) := by decide +kernel
theorem dDu_statement_28 : decode bDu_statement 28 = .ok (.invokespecial 63, 3) := by decide +kernel
theorem dDu_statement_31 : decode bDu_statement 31 = .ok (.athrow, 1) := by decide +kernel
theorem dDu_statement_32 : decode bDu_statement 32 = .ok (.bipush 30, 2) := by decide +kernel
theorem dDu_statement_34 : decode bDu_statement 34 = .ok (.iload_n 2, 1) := by decide +kernel
theorem dDu_statement_35 : decode bDu_statement 35 = .ok (.imul, 1) := by decide +kernel
theorem dDu_statement_36 : decode bDu_statement 36 = .ok (.istore 4, 2) := by decide +kernel
theorem dDu_statement_38 : decode bDu_statement 38 = .ok (.aload_n 0, 1) := by decide +kernel
theorem dDu_statement_39 : decode bDu_statement 39 = .ok (.getfield 29, 3) := by decide +kernel
theorem dDu_statement_42 : decode bDu_statement 42 = .ok (.iload_n 1, 1) := by decide +kernel
theorem dDu_statement_43 : decode bDu_statement 43 = .ok (.iload 4, 2) := by decide +kernel
theorem dDu_statement_45 : decode bDu_statement 45 = .ok (.iload 4, 2) := by decide +kernel
theorem dDu_statement_47 : decode bDu_statement 47 = .ok (.bipush 30, 2) := by decide +kernel
theorem dDu_statement_49 : decode bDu_statement 49 = .ok (.iadd, 1) := by decide +kernel
theorem dDu_statement_50 : decode bDu_statement 50 = .ok (.iconst 1, 1) := by decide +kernel
theorem dDu_statement_51 : decode bDu_statement 51 = .ok (.isub, 1) := by decide +kernel
theorem dDu_statement_52 : decode bDu_statement 52 = .ok (.iload_n 3, 1) := by decide +kernel
theorem dDu_statement_53 : decode bDu_statement 53 = .ok (.invokevirtual 145, 3) := by decide +kernel
theorem dDu_statement_56 : decode bDu_statement 56 = .ok (.lreturn, 1) := by decide +kernel
theorem dDu_isMonth_0 : decode bDu_isMonth 0 = .ok (.iload_n 0, 1) := by decide +kernel
theorem dDu_isMonth_1 : decode bDu_isMonth 1 = .ok (.ifCond .lt 14, 3) := by decide +kernel
theorem dDu_isMonth_4 : decode bDu_isMonth 4 = .ok (.iload_n 0, 1) := by decide +kernel
theorem dDu_isMonth_5 : decode bDu_isMonth 5 = .ok (.sipush 3333, 3) := by decide +kernel
theorem dDu_isMonth_8 : decode bDu_isMonth 8 = .ok (.if_icmp .gt 7, 3) := by decide +kernel
theorem dDu_isMonth_11 : decode bDu_isMonth 11 = .ok (.iconst 1, 1) := by decide +kernel
theorem dDu_isMonth_12 : decode bDu_isMonth 12 = .ok (.goto 4, 3) := by decide +kernel
theorem dDu_isMonth_15 : decode bDu_isMonth 15 = .ok (.iconst 0, 1) := by decide +kernel
theorem dDu_isMonth_16 : decode bDu_isMonth 16 = .ok (.ireturn, 1) := by decide +kernel
theorem dDu_passed_0 : decode bDu_passed 0 = .ok (.iload_n 1, 1) := by decide +kernel
theorem dDu_passed_1 : decode bDu_passed 1 = .ok (.invokestatic 55, 3) := by decide +kernel
theorem dDu_passed_4 : decode bDu_passed 4 = .ok (.ifCond .eq 20, 3) := by decide +kernel
theorem dDu_passed_7 : decode bDu_passed 7 = .ok (.iload_n 2, 1) := by decide +kernel
theorem dDu_passed_8 : decode bDu_passed 8 = .ok (.ifCond .lt 16, 3) := by decide +kernel
theorem dDu_passed_11 : decode bDu_passed 11 = .ok (.iload_n 2, 1) := by decide +kernel
theorem dDu_passed_12 : decode bDu_passed 12 = .ok (.bipush 6, 2) := by decide +kernel
theorem dDu_passed_14 : decode bDu_passed 14 = .ok (.if_icmp .gt 10, 3) := by decide +kernel
theorem dDu_passed_17 : decode bDu_passed 17 = .ok (.iload_n 3, 1) := by decide +kernel
theorem dDu_passed_18 : decode bDu_passed 18 = .ok (.invokestatic 71, 3) := by decide +kernel
theorem dDu_passed_21 : decode bDu_passed 21 = .ok (.ifCond .ne 13, 3) := by decide +kernel
theorem dDu_passed_24 : decode bDu_passed 24 = .ok (.new 59, 3) := by decide +kernel
theorem dDu_passed_27 : decode bDu_passed 27 = .ok (.dup, 1) := by decide +kernel
theorem dDu_passed_28 : decode bDu_passed 28 = .ok (.ldc 164, 2) := by decide +kernel
theorem dDu_passed_30 : decode bDu_passed 30 = .ok (.invokespecial 63, 3) := by decide +kernel
theorem dDu_passed_33 : decode bDu_passed 33 = .ok (.athrow, 1) := by decide +kernel
theorem dDu_passed_34 : decode bDu_passed 34 = .ok (.aload_n 0, 1) := by decide +kernel
theorem dDu_passed_35 : decode bDu_passed 35 = .ok (.iload_n 1, 1) := by decide +kernel
theorem dDu_passed_36 : decode bDu_passed 36 = .ok (.iload_n 3, 1) := by decide +kernel
theorem dDu_passed_37 : decode bDu_passed 37 = .ok (.invokevirtual 166, 3) := by decide +kernel
theorem dDu_passed_40 : decode bDu_passed 40 = .ok (.lstore 4, 2) := by decide +kernel
theorem dDu_passed_42 : decode bDu_passed 42 = .ok (.aload_n 0, 1) := by decide +kernel
theorem dDu_passed_43 : decode bDu_passed 43 = .ok (.getfield 36, 3) := by decide +kernel
theorem dDu_passed_46 : decode bDu_passed 46 = .ok (.iload_n 1, 1) := by decide +kernel
theorem dDu_passed_47 : decode bDu_passed 47 = .ok (.lload 4, 2) := by decide +kernel
theorem dDu_passed_49 : decode bDu_passed 49 = .ok (.invokevirtual 170, 3) := by decide +kernel
theorem dDu_passed_52 : decode bDu_passed 52 = .ok (.lstore 6, 2) := by decide +kernel
theorem dDu_passed_54 : decode bDu_passed 54 = .ok (.iload_n 2, 1) := by decide +kernel
theorem dDu_passed_55 : decode bDu_passed 55 = .ok (.tableswitch 48 4 6 #[25, 28, 45], 25) := by decide +kernel
theorem dDu_passed_80 : decode bDu_passed 80 = .ok (.lload 6, 2) := by decide +kernel
theorem dDu_passed_82 : decode bDu_passed 82 = .ok (.lreturn, 1) := by decide +kernel
theorem dDu_passed_83 : decode bDu_passed 83 = .ok (.lload 4, 2) := by decide +kernel
theorem dDu_passed_85 : decode bDu_passed 85 = .ok (.aload_n 0, 1) := by decide +kernel
theorem dDu_passed_86 : decode bDu_passed 86 = .ok (.getfield 36, 3) := by decide +kernel
theorem dDu_passed_89 : decode bDu_passed 89 = .ok (.iload_n 1, 1) := by decide +kernel
theorem dDu_passed_90 : decode bDu_passed 90 = .ok (.lload 4, 2) := by decide +kernel
theorem dDu_passed_92 : decode bDu_passed 92 = .ok (.lload 6, 2) := by decide +kernel
theorem dDu_passed_94 : decode bDu_passed 94 = .ok (.lsub, 1) := by decide +kernel
theorem dDu_passed_95 : decode bDu_passed 95 = .ok (.invokevirtual 174, 3) := by decide +kernel
theorem dDu_passed_98 : decode bDu_passed 98 = .ok (.lsub, 1) := by decide +kernel
theorem dDu_passed_99 : decode bDu_passed 99 = .ok (.lreturn, 1) := by decide +kernel
theorem dDu_passed_100 : decode bDu_passed 100 = .ok (.lload 4, 2) := by decide +kernel
theorem dDu_passed_102 : decode bDu_passed 102 = .ok (.lreturn, 1) := by decide +kernel
theorem dDu_passed_103 : decode bDu_passed 103 = .ok (.aload_n 0, 1) := by decide +kernel
theorem dDu_passed_104 : decode bDu_passed 104 = .ok (.getfield 36, 3) := by decide +kernel
theorem dDu_passed_107 : decode bDu_passed 107 = .ok (.iload_n 1, 1) := by decide +kernel
theorem dDu_passed_108 : decode bDu_passed 108 = .ok (.iload_n 2, 1) := by decide +kernel
theorem dDu_passed_109 : decode bDu_passed 109 = .ok (.lload 4, 2) := by decide +kernel
theorem dDu_passed_111 : decode bDu_passed 111 = .ok (.lload 6, 2) := by decide +kernel
theorem dDu_passed_113 : decode bDu_passed 113 = .ok (.lsub, 1) := by decide +kernel
theorem dDu_passed_114 : decode bDu_passed 114 = .ok (.invokevirtual 177, 3) := by decide +kernel
theorem dDu_passed_117 : decode bDu_passed 117 = .ok (.lreturn, 1) := by decide +kernel
theorem dDu_collectedOf_0 : decode bDu_collectedOf 0 = .ok (.lconst 0, 1) := by decide +kernel
theorem dDu_collectedOf_1 : decode bDu_collectedOf 1 = .ok (.lstore_n 3, 1) := by decide +kernel
theorem dDu_collectedOf_2 : decode bDu_collectedOf 2 = .ok (.iconst 0, 1) := by decide +kernel
theorem dDu_collectedOf_3 : decode bDu_collectedOf 3 = .ok (.istore 5, 2) := by decide +kernel
theorem dDu_collectedOf_5 : decode bDu_collectedOf 5 = .ok (.iload 5, 2) := by decide +kernel
theorem dDu_collectedOf_7 : decode bDu_collectedOf 7 = .ok (.aload_n 0, 1) := by decide +kernel
theorem dDu_collectedOf_8 : decode bDu_collectedOf 8 = .ok (.getfield 13, 3) := by decide +kernel
theorem dDu_collectedOf_11 : decode bDu_collectedOf 11 = .ok (.if_icmp .ge 36, 3) := by decide +kernel
theorem dDu_collectedOf_14 : decode bDu_collectedOf 14 = .ok (.aload_n 0, 1) := by decide +kernel
theorem dDu_collectedOf_15 : decode bDu_collectedOf 15 = .ok (.getfield 9, 3) := by decide +kernel
theorem dDu_collectedOf_18 : decode bDu_collectedOf 18 = .ok (.iload 5, 2) := by decide +kernel
theorem dDu_collectedOf_20 : decode bDu_collectedOf 20 = .ok (.iaload, 1) := by decide +kernel
theorem dDu_collectedOf_21 : decode bDu_collectedOf 21 = .ok (.iload_n 1, 1) := by decide +kernel
theorem dDu_collectedOf_22 : decode bDu_collectedOf 22 = .ok (.if_icmp .ne 19, 3) := by decide +kernel
theorem dDu_collectedOf_25 : decode bDu_collectedOf 25 = .ok (.lload_n 3, 1) := by decide +kernel
theorem dDu_collectedOf_26 : decode bDu_collectedOf 26 = .ok (.aload_n 0, 1) := by decide +kernel
theorem dDu_collectedOf_27 : decode bDu_collectedOf 27 = .ok (.getfield 29, 3) := by decide +kernel
theorem dDu_collectedOf_30 : decode bDu_collectedOf 30 = .ok (.iload 5, 2) := by decide +kernel
theorem dDu_collectedOf_32 : decode bDu_collectedOf 32 = .ok (.iconst 0, 1) := by decide +kernel
theorem dDu_collectedOf_33 : decode bDu_collectedOf 33 = .ok (.ldc 228, 2) := by decide +kernel
theorem dDu_collectedOf_35 : decode bDu_collectedOf 35 = .ok (.iload_n 2, 1) := by decide +kernel
theorem dDu_collectedOf_36 : decode bDu_collectedOf 36 = .ok (.invokevirtual 145, 3) := by decide +kernel
theorem dDu_collectedOf_39 : decode bDu_collectedOf 39 = .ok (.ladd, 1) := by decide +kernel
theorem dDu_collectedOf_40 : decode bDu_collectedOf 40 = .ok (.lstore_n 3, 1) := by decide +kernel
theorem dDu_collectedOf_41 : decode bDu_collectedOf 41 = .ok (.iinc 5 1, 3) := by decide +kernel
theorem dDu_collectedOf_44 : decode bDu_collectedOf 44 = .ok (.goto (-39), 3) := by decide +kernel
theorem dDu_collectedOf_47 : decode bDu_collectedOf 47 = .ok (.lload_n 3, 1) := by decide +kernel
theorem dDu_collectedOf_48 : decode bDu_collectedOf 48 = .ok (.lconst 0, 1) := by decide +kernel
theorem dDu_collectedOf_49 : decode bDu_collectedOf 49 = .ok (.invokestatic 264, 3) := by decide +kernel
theorem dDu_collectedOf_52 : decode bDu_collectedOf 52 = .ok (.lreturn, 1) := by decide +kernel
theorem dDu_reconcile_0 : decode bDu_reconcile 0 = .ok (.aload_n 0, 1) := by decide +kernel
theorem dDu_reconcile_1 : decode bDu_reconcile 1 = .ok (.iload_n 1, 1) := by decide +kernel
theorem dDu_reconcile_2 : decode bDu_reconcile 2 = .ok (.invokevirtual 89, 3) := by decide +kernel
theorem dDu_reconcile_5 : decode bDu_reconcile 5 = .ok (.ifCond .eq 16, 3) := by decide +kernel
theorem dDu_reconcile_8 : decode bDu_reconcile 8 = .ok (.aload_n 0, 1) := by decide +kernel
theorem dDu_reconcile_9 : decode bDu_reconcile 9 = .ok (.iload_n 2, 1) := by decide +kernel
theorem dDu_reconcile_10 : decode bDu_reconcile 10 = .ok (.invokevirtual 89, 3) := by decide +kernel
theorem dDu_reconcile_13 : decode bDu_reconcile 13 = .ok (.ifCond .eq 8, 3) := by decide +kernel
theorem dDu_reconcile_16 : decode bDu_reconcile 16 = .ok (.iload_n 1, 1) := by decide +kernel
theorem dDu_reconcile_17 : decode bDu_reconcile 17 = .ok (.iload_n 2, 1) := by decide +kernel
theorem dDu_reconcile_18 : decode bDu_reconcile 18 = .ok (.if_icmp .ne 13, 3) := by decide +kernel
theorem dDu_reconcile_21 : decode bDu_reconcile 21 = .ok (.new 59, 3) := by decide +kernel
theorem dDu_reconcile_24 : decode bDu_reconcile 24 = .ok (.dup, 1) := by decide +kernel
theorem dDu_reconcile_25 : decode bDu_reconcile 25 = .ok (.ldc 181, 2) := by decide +kernel
theorem dDu_reconcile_27 : decode bDu_reconcile 27 = .ok (.invokespecial 63, 3) := by decide +kernel
theorem dDu_reconcile_30 : decode bDu_reconcile 30 = .ok (.athrow, 1) := by decide +kernel
theorem dDu_reconcile_31 : decode bDu_reconcile 31 = .ok (.iload_n 3, 1) := by decide +kernel
theorem dDu_reconcile_32 : decode bDu_reconcile 32 = .ok (.invokestatic 71, 3) := by decide +kernel
theorem dDu_reconcile_35 : decode bDu_reconcile 35 = .ok (.ifCond .eq 11, 3) := by decide +kernel
theorem dDu_reconcile_38 : decode bDu_reconcile 38 = .ok (.iload 4, 2) := by decide +kernel
theorem dDu_reconcile_40 : decode bDu_reconcile 40 = .ok (.invokestatic 71, 3) := by decide +kernel
theorem dDu_reconcile_43 : decode bDu_reconcile 43 = .ok (.ifCond .ne 13, 3) := by decide +kernel
theorem dDu_reconcile_46 : decode bDu_reconcile 46 = .ok (.new 59, 3) := by decide +kernel
theorem dDu_reconcile_49 : decode bDu_reconcile 49 = .ok (.dup, 1) := by decide +kernel
theorem dDu_reconcile_50 : decode bDu_reconcile 50 = .ok (.ldc 74, 2) := by decide +kernel
theorem dDu_reconcile_52 : decode bDu_reconcile 52 = .ok (.invokespecial 63, 3) := by decide +kernel
theorem dDu_reconcile_55 : decode bDu_reconcile 55 = .ok (.athrow, 1) := by decide +kernel
theorem dDu_reconcile_56 : decode bDu_reconcile 56 = .ok (.aload_n 0, 1) := by decide +kernel
theorem dDu_reconcile_57 : decode bDu_reconcile 57 = .ok (.getfield 29, 3) := by decide +kernel
theorem dDu_reconcile_60 : decode bDu_reconcile 60 = .ok (.iload_n 1, 1) := by decide +kernel
theorem dDu_reconcile_61 : decode bDu_reconcile 61 = .ok (.iconst 0, 1) := by decide +kernel
theorem dDu_reconcile_62 : decode bDu_reconcile 62 = .ok (.iload_n 3, 1) := by decide +kernel
theorem dDu_reconcile_63 : decode bDu_reconcile 63 = .ok (.iload 4, 2) := by decide +kernel
theorem dDu_reconcile_65 : decode bDu_reconcile 65 = .ok (.invokevirtual 145, 3) := by decide +kernel
theorem dDu_reconcile_68 : decode bDu_reconcile 68 = .ok (.aload_n 0, 1) := by decide +kernel
theorem dDu_reconcile_69 : decode bDu_reconcile 69 = .ok (.getfield 29, 3) := by decide +kernel
theorem dDu_reconcile_72 : decode bDu_reconcile 72 = .ok (.iload_n 2, 1) := by decide +kernel
theorem dDu_reconcile_73 : decode bDu_reconcile 73 = .ok (.iconst 0, 1) := by decide +kernel
theorem dDu_reconcile_74 : decode bDu_reconcile 74 = .ok (.iload_n 3, 1) := by decide +kernel
theorem dDu_reconcile_75 : decode bDu_reconcile 75 = .ok (.iload 4, 2) := by decide +kernel
theorem dDu_reconcile_77 : decode bDu_reconcile 77 = .ok (.invokevirtual 145, 3) := by decide +kernel
theorem dDu_reconcile_80 : decode bDu_reconcile 80 = .ok (.ladd, 1) := by decide +kernel
theorem dDu_reconcile_81 : decode bDu_reconcile 81 = .ok (.lreturn, 1) := by decide +kernel
theorem dDu_read_0 : decode bDu_read 0 = .ok (.iload_n 1, 1) := by decide +kernel
theorem dDu_read_1 : decode bDu_read 1 = .ok (.ifCond .lt 14, 3) := by decide +kernel
theorem dDu_read_4 : decode bDu_read 4 = .ok (.iload_n 1, 1) := by decide +kernel
theorem dDu_read_5 : decode bDu_read 5 = .ok (.aload_n 0, 1) := by decide +kernel
theorem dDu_read_6 : decode bDu_read 6 = .ok (.getfield 29, 3) := by decide +kernel
theorem dDu_read_9 : decode bDu_read 9 = .ok (.getfield 183, 3) := by decide +kernel
theorem dDu_read_12 : decode bDu_read 12 = .ok (.if_icmp .lt 13, 3) := by decide +kernel
theorem dDu_read_15 : decode bDu_read 15 = .ok (.new 186, 3) := by decide +kernel
theorem dDu_read_18 : decode bDu_read 18 = .ok (.dup, 1) := by decide +kernel
theorem dDu_read_19 : decode bDu_read 19 = .ok (.ldc 188, 2) := by decide +kernel
theorem dDu_read_21 : decode bDu_read 21 = .ok (.invokespecial 190, 3) := by decide +kernel
theorem dDu_read_24 : decode bDu_read 24 = .ok (.athrow, 1) := by decide +kernel
theorem dDu_read_25 : decode bDu_read 25 = .ok (.iload_n 2, 1) := by decide +kernel
theorem dDu_read_26 : decode bDu_read 26 = .ok (.tableswitch 88 0 4 #[34, 45, 56, 66, 77], 34) := by decide +kernel
theorem dDu_read_60 : decode bDu_read 60 = .ok (.aload_n 0, 1) := by decide +kernel
theorem dDu_read_61 : decode bDu_read 61 = .ok (.getfield 29, 3) := by decide +kernel
theorem dDu_read_64 : decode bDu_read 64 = .ok (.getfield 191, 3) := by decide +kernel
theorem dDu_read_67 : decode bDu_read 67 = .ok (.iload_n 1, 1) := by decide +kernel
theorem dDu_read_68 : decode bDu_read 68 = .ok (.iaload, 1) := by decide +kernel
theorem dDu_read_69 : decode bDu_read 69 = .ok (.i2l, 1) := by decide +kernel
theorem dDu_read_70 : decode bDu_read 70 = .ok (.lreturn, 1) := by decide +kernel
theorem dDu_read_71 : decode bDu_read 71 = .ok (.aload_n 0, 1) := by decide +kernel
theorem dDu_read_72 : decode bDu_read 72 = .ok (.getfield 29, 3) := by decide +kernel
theorem dDu_read_75 : decode bDu_read 75 = .ok (.getfield 194, 3) := by decide +kernel
theorem dDu_read_78 : decode bDu_read 78 = .ok (.iload_n 1, 1) := by decide +kernel
theorem dDu_read_79 : decode bDu_read 79 = .ok (.iaload, 1) := by decide +kernel
theorem dDu_read_80 : decode bDu_read 80 = .ok (.i2l, 1) := by decide +kernel
theorem dDu_read_81 : decode bDu_read 81 = .ok (.lreturn, 1) := by decide +kernel
theorem dDu_read_82 : decode bDu_read 82 = .ok (.aload_n 0, 1) := by decide +kernel
theorem dDu_read_83 : decode bDu_read 83 = .ok (.getfield 29, 3) := by decide +kernel
theorem dDu_read_86 : decode bDu_read 86 = .ok (.getfield 197, 3) := by decide +kernel
theorem dDu_read_89 : decode bDu_read 89 = .ok (.iload_n 1, 1) := by decide +kernel
theorem dDu_read_90 : decode bDu_read 90 = .ok (.laload, 1) := by decide +kernel
theorem dDu_read_91 : decode bDu_read 91 = .ok (.lreturn, 1) := by decide +kernel
theorem dDu_read_92 : decode bDu_read 92 = .ok (.aload_n 0, 1) := by decide +kernel
theorem dDu_read_93 : decode bDu_read 93 = .ok (.getfield 29, 3) := by decide +kernel
theorem dDu_read_96 : decode bDu_read 96 = .ok (.getfield 201, 3) := by decide +kernel
theorem dDu_read_99 : decode bDu_read 99 = .ok (.iload_n 1, 1) := by decide +kernel
theorem dDu_read_100 : decode bDu_read 100 = .ok (.iaload, 1) := by decide +kernel
theorem dDu_read_101 : decode bDu_read 101 = .ok (.i2l, 1) := by decide +kernel
theorem dDu_read_102 : decode bDu_read 102 = .ok (.lreturn, 1) := by decide +kernel
theorem dDu_read_103 : decode bDu_read 103 = .ok (.aload_n 0, 1) := by decide +kernel
theorem dDu_read_104 : decode bDu_read 104 = .ok (.getfield 29, 3) := by decide +kernel
theorem dDu_read_107 : decode bDu_read 107 = .ok (.getfield 204, 3) := by decide +kernel
theorem dDu_read_110 : decode bDu_read 110 = .ok (.iload_n 1, 1) := by decide +kernel
theorem dDu_read_111 : decode bDu_read 111 = .ok (.iaload, 1) := by decide +kernel
theorem dDu_read_112 : decode bDu_read 112 = .ok (.i2l, 1) := by decide +kernel
theorem dDu_read_113 : decode bDu_read 113 = .ok (.lreturn, 1) := by decide +kernel
theorem dDu_read_114 : decode bDu_read 114 = .ok (.new 186, 3) := by decide +kernel
theorem dDu_read_117 : decode bDu_read 117 = .ok (.dup, 1) := by decide +kernel
theorem dDu_read_118 : decode bDu_read 118 = .ok (.ldc 207, 2) := by decide +kernel
theorem dDu_read_120 : decode bDu_read 120 = .ok (.invokespecial 190, 3) := by decide +kernel
theorem dDu_read_123 : decode bDu_read 123 = .ok (.athrow, 1) := by decide +kernel
theorem dDu_look_0 : decode bDu_look 0 = .ok (.aload_n 0, 1) := by decide +kernel
theorem dDu_look_1 : decode bDu_look 1 = .ok (.iload_n 1, 1) := by decide +kernel
theorem dDu_look_2 : decode bDu_look 2 = .ok (.invokevirtual 209, 3) := by decide +kernel
theorem dDu_look_5 : decode bDu_look 5 = .ok (.astore_n 3, 1) := by decide +kernel
theorem dDu_look_6 : decode bDu_look 6 = .ok (.aload_n 3, 1) := by decide +kernel
theorem dDu_look_7 : decode bDu_look 7 = .ok (.ifnonnull 13, 3) := by decide +kernel
theorem dDu_look_10 : decode bDu_look 10 = .ok (.new 186, 3) := by decide +kernel
theorem dDu_look_13 : decode bDu_look 13 = .ok (.dup, 1) := by decide +kernel
theorem dDu_look_14 : decode bDu_look 14 = .ok (.ldc 213, 2) := by decide +kernel
theorem dDu_look_16 : decode bDu_look 16 = .ok (.invokespecial 190, 3) := by decide +kernel
theorem dDu_look_19 : decode bDu_look 19 = .ok (.athrow, 1) := by decide +kernel
theorem dDu_look_20 : decode bDu_look 20 = .ok (.iload_n 2, 1) := by decide +kernel
theorem dDu_look_21 : decode bDu_look 21 = .ok (.tableswitch 86 0 6 #[43, 48, 53, 58, 63, 76, 81], 43) := by decide +kernel
theorem dDu_look_64 : decode bDu_look 64 = .ok (.aload_n 3, 1) := by decide +kernel
theorem dDu_look_65 : decode bDu_look 65 = .ok (.getfield 215, 3) := by decide +kernel
theorem dDu_look_68 : decode bDu_look 68 = .ok (.ireturn, 1) := by decide +kernel
theorem dDu_look_69 : decode bDu_look 69 = .ok (.aload_n 3, 1) := by decide +kernel
theorem dDu_look_70 : decode bDu_look 70 = .ok (.getfield 218, 3) := by decide +kernel
theorem dDu_look_73 : decode bDu_look 73 = .ok (.ireturn, 1) := by decide +kernel
theorem dDu_look_74 : decode bDu_look 74 = .ok (.aload_n 3, 1) := by decide +kernel
theorem dDu_look_75 : decode bDu_look 75 = .ok (.getfield 129, 3) := by decide +kernel
theorem dDu_look_78 : decode bDu_look 78 = .ok (.ireturn, 1) := by decide +kernel
theorem dDu_look_79 : decode bDu_look 79 = .ok (.aload_n 3, 1) := by decide +kernel
theorem dDu_look_80 : decode bDu_look 80 = .ok (.getfield 132, 3) := by decide +kernel
theorem dDu_look_83 : decode bDu_look 83 = .ok (.ireturn, 1) := by decide +kernel
theorem dDu_look_84 : decode bDu_look 84 = .ok (.aload_n 3, 1) := by decide +kernel
theorem dDu_look_85 : decode bDu_look 85 = .ok (.getfield 100, 3) := by decide +kernel
theorem dDu_look_88 : decode bDu_look 88 = .ok (.ifCond .eq 7, 3) := by decide +kernel
theorem dDu_look_91 : decode bDu_look 91 = .ok (.iconst 1, 1) := by decide +kernel
theorem dDu_look_92 : decode bDu_look 92 = .ok (.goto 4, 3) := by decide +kernel
theorem dDu_look_95 : decode bDu_look 95 = .ok (.iconst 0, 1) := by decide +kernel
theorem dDu_look_96 : decode bDu_look 96 = .ok (.ireturn, 1) := by decide +kernel
theorem dDu_look_97 : decode bDu_look 97 = .ok (.aload_n 3, 1) := by decide +kernel
theorem dDu_look_98 : decode bDu_look 98 = .ok (.getfield 219, 3) := by decide +kernel
theorem dDu_look_101 : decode bDu_look 101 = .ok (.ireturn, 1) := by decide +kernel
theorem dDu_look_102 : decode bDu_look 102 = .ok (.aload_n 3, 1) := by decide +kernel
theorem dDu_look_103 : decode bDu_look 103 = .ok (.getfield 222, 3) := by decide +kernel
theorem dDu_look_106 : decode bDu_look 106 = .ok (.ireturn, 1) := by decide +kernel
theorem dDu_look_107 : decode bDu_look 107 = .ok (.new 186, 3) := by decide +kernel
theorem dDu_look_110 : decode bDu_look 110 = .ok (.dup, 1) := by decide +kernel
theorem dDu_look_111 : decode bDu_look 111 = .ok (.ldc 207, 2) := by decide +kernel
theorem dDu_look_113 : decode bDu_look 113 = .ok (.invokespecial 190, 3) := by decide +kernel
theorem dDu_look_116 : decode bDu_look 116 = .ok (.athrow, 1) := by decide +kernel
end
section
theorem dMo_init_0 : decode bMo_init 0 = .ok (.aload_n 0, 1) := by decide +kernel
theorem dMo_init_1 : decode bMo_init 1 = .ok (.invokespecial 1, 3) := by decide +kernel
theorem dMo_init_4 : decode bMo_init 4 = .ok (.aload_n 0, 1) := by decide +kernel
theorem dMo_init_5 : decode bMo_init 5 = .ok (.iconst (-1), 1) := by decide +kernel
theorem dMo_init_6 : decode bMo_init 6 = .ok (.putfield 9, 3) := by decide +kernel
theorem dMo_init_9 : decode bMo_init 9 = .ok (.aload_n 0, 1) := by decide +kernel
theorem dMo_init_10 : decode bMo_init 10 = .ok (.iconst (-1), 1) := by decide +kernel
theorem dMo_init_11 : decode bMo_init 11 = .ok (.putfield 13, 3) := by decide +kernel
theorem dMo_init_14 : decode bMo_init 14 = .ok (.aload_n 0, 1) := by decide +kernel
theorem dMo_init_15 : decode bMo_init 15 = .ok (.iconst (-1), 1) := by decide +kernel
theorem dMo_init_16 : decode bMo_init 16 = .ok (.putfield 16, 3) := by decide +kernel
theorem dMo_init_19 : decode bMo_init 19 = .ok (.aload_n 0, 1) := by decide +kernel
theorem dMo_init_20 : decode bMo_init 20 = .ok (.bipush 12, 2) := by decide +kernel
theorem dMo_init_22 : decode bMo_init 22 = .ok (.newarray .int, 2) := by decide +kernel
theorem dMo_init_24 : decode bMo_init 24 = .ok (.putfield 19, 3) := by decide +kernel
theorem dMo_init_27 : decode bMo_init 27 = .ok (.aload_n 0, 1) := by decide +kernel
theorem dMo_init_28 : decode bMo_init 28 = .ok (.bipush 100, 2) := by decide +kernel
theorem dMo_init_30 : decode bMo_init 30 = .ok (.newarray .int, 2) := by decide +kernel
theorem dMo_init_32 : decode bMo_init 32 = .ok (.putfield 23, 3) := by decide +kernel
theorem dMo_init_35 : decode bMo_init 35 = .ok (.aload_n 0, 1) := by decide +kernel
theorem dMo_init_36 : decode bMo_init 36 = .ok (.bipush 100, 2) := by decide +kernel
theorem dMo_init_38 : decode bMo_init 38 = .ok (.newarray .int, 2) := by decide +kernel
theorem dMo_init_40 : decode bMo_init 40 = .ok (.putfield 26, 3) := by decide +kernel
theorem dMo_init_43 : decode bMo_init 43 = .ok (.aload_n 0, 1) := by decide +kernel
theorem dMo_init_44 : decode bMo_init 44 = .ok (.bipush 100, 2) := by decide +kernel
theorem dMo_init_46 : decode bMo_init 46 = .ok (.newarray .int, 2) := by decide +kernel
theorem dMo_init_48 : decode bMo_init 48 = .ok (.putfield 29, 3) := by decide +kernel
theorem dMo_init_51 : decode bMo_init 51 = .ok (.aload_n 0, 1) := by decide +kernel
theorem dMo_init_52 : decode bMo_init 52 = .ok (.bipush 100, 2) := by decide +kernel
theorem dMo_init_54 : decode bMo_init 54 = .ok (.newarray .int, 2) := by decide +kernel
theorem dMo_init_56 : decode bMo_init 56 = .ok (.putfield 32, 3) := by decide +kernel
theorem dMo_init_59 : decode bMo_init 59 = .ok (.aload_n 0, 1) := by decide +kernel
theorem dMo_init_60 : decode bMo_init 60 = .ok (.bipush 100, 2) := by decide +kernel
theorem dMo_init_62 : decode bMo_init 62 = .ok (.newarray .int, 2) := by decide +kernel
theorem dMo_init_64 : decode bMo_init 64 = .ok (.putfield 35, 3) := by decide +kernel
theorem dMo_init_67 : decode bMo_init 67 = .ok (.aload_n 0, 1) := by decide +kernel
theorem dMo_init_68 : decode bMo_init 68 = .ok (.bipush 100, 2) := by decide +kernel
theorem dMo_init_70 : decode bMo_init 70 = .ok (.newarray .boolean, 2) := by decide +kernel
theorem dMo_init_72 : decode bMo_init 72 = .ok (.putfield 38, 3) := by decide +kernel
theorem dMo_init_75 : decode bMo_init 75 = .ok (.aload_n 0, 1) := by decide +kernel
theorem dMo_init_76 : decode bMo_init 76 = .ok (.bipush 100, 2) := by decide +kernel
theorem dMo_init_78 : decode bMo_init 78 = .ok (.newarray .int, 2) := by decide +kernel
theorem dMo_init_80 : decode bMo_init 80 = .ok (.putfield 42, 3) := by decide +kernel
theorem dMo_init_83 : decode bMo_init 83 = .ok (.aload_n 0, 1) := by decide +kernel
theorem dMo_init_84 : decode bMo_init 84 = .ok (.sipush 2000, 3) := by decide +kernel
theorem dMo_init_87 : decode bMo_init 87 = .ok (.newarray .int, 2) := by decide +kernel
theorem dMo_init_89 : decode bMo_init 89 = .ok (.putfield 45, 3) := by decide +kernel
theorem dMo_init_92 : decode bMo_init 92 = .ok (.aload_n 0, 1) := by decide +kernel
theorem dMo_init_93 : decode bMo_init 93 = .ok (.sipush 2000, 3) := by decide +kernel
theorem dMo_init_96 : decode bMo_init 96 = .ok (.newarray .long, 2) := by decide +kernel
theorem dMo_init_98 : decode bMo_init 98 = .ok (.putfield 48, 3) := by decide +kernel
theorem dMo_init_101 : decode bMo_init 101 = .ok (.aload_n 0, 1) := by decide +kernel
theorem dMo_init_102 : decode bMo_init 102 = .ok (.sipush 400, 3) := by decide +kernel
theorem dMo_init_105 : decode bMo_init 105 = .ok (.newarray .int, 2) := by decide +kernel
theorem dMo_init_107 : decode bMo_init 107 = .ok (.putfield 52, 3) := by decide +kernel
theorem dMo_init_110 : decode bMo_init 110 = .ok (.aload_n 0, 1) := by decide +kernel
theorem dMo_init_111 : decode bMo_init 111 = .ok (.bipush 24, 2) := by decide +kernel
theorem dMo_init_113 : decode bMo_init 113 = .ok (.newarray .int, 2) := by decide +kernel
theorem dMo_init_115 : decode bMo_init 115 = .ok (.putfield 55, 3) := by decide +kernel
theorem dMo_init_118 : decode bMo_init 118 = .ok (.aload_n 0, 1) := by decide +kernel
theorem dMo_init_119 : decode bMo_init 119 = .ok (.bipush 6, 2) := by decide +kernel
theorem dMo_init_121 : decode bMo_init 121 = .ok (.newarray .int, 2) := by decide +kernel
theorem dMo_init_123 : decode bMo_init 123 = .ok (.putfield 58, 3) := by decide +kernel
theorem dMo_init_126 : decode bMo_init 126 = .ok (.return_, 1) := by decide +kernel
theorem dMo_thrown_0 : decode bMo_thrown 0 = .ok (.aload_n 0, 1) := by decide +kernel
theorem dMo_thrown_1 : decode bMo_thrown 1 = .ok (.getfield 61, 3) := by decide +kernel
theorem dMo_thrown_4 : decode bMo_thrown 4 = .ok (.ireturn, 1) := by decide +kernel
theorem dMo_account_0 : decode bMo_account 0 = .ok (.aload_n 0, 1) := by decide +kernel
theorem dMo_account_1 : decode bMo_account 1 = .ok (.iload_n 1, 1) := by decide +kernel
theorem dMo_account_2 : decode bMo_account 2 = .ok (.invokestatic 78, 3) := by decide +kernel
theorem dMo_account_5 : decode bMo_account 5 = .ok (.ifCond .ne 7, 3) := by decide +kernel
theorem dMo_account_8 : decode bMo_account 8 = .ok (.iconst 1, 1) := by decide +kernel
theorem dMo_account_9 : decode bMo_account 9 = .ok (.goto 17, 3) := by decide +kernel
theorem dMo_account_12 : decode bMo_account 12 = .ok (.aload_n 0, 1) := by decide +kernel
theorem dMo_account_13 : decode bMo_account 13 = .ok (.getfield 72, 3) := by decide +kernel
theorem dMo_account_16 : decode bMo_account 16 = .ok (.bipush 12, 2) := by decide +kernel
theorem dMo_account_18 : decode bMo_account 18 = .ok (.if_icmp .ne 7, 3) := by decide +kernel
theorem dMo_account_21 : decode bMo_account 21 = .ok (.iconst 2, 1) := by decide +kernel
theorem dMo_account_22 : decode bMo_account 22 = .ok (.goto 4, 3) := by decide +kernel
theorem dMo_account_25 : decode bMo_account 25 = .ok (.iconst 0, 1) := by decide +kernel
theorem dMo_account_26 : decode bMo_account 26 = .ok (.putfield 61, 3) := by decide +kernel
theorem dMo_account_29 : decode bMo_account 29 = .ok (.aload_n 0, 1) := by decide +kernel
theorem dMo_account_30 : decode bMo_account 30 = .ok (.getfield 61, 3) := by decide +kernel
theorem dMo_account_33 : decode bMo_account 33 = .ok (.ifCond .le 5, 3) := by decide +kernel
theorem dMo_account_36 : decode bMo_account 36 = .ok (.iconst 0, 1) := by decide +kernel
theorem dMo_account_37 : decode bMo_account 37 = .ok (.ireturn, 1) := by decide +kernel
theorem dMo_account_38 : decode bMo_account 38 = .ok (.aload_n 0, 1) := by decide +kernel
theorem dMo_account_39 : decode bMo_account 39 = .ok (.getfield 19, 3) := by decide +kernel
theorem dMo_account_42 : decode bMo_account 42 = .ok (.aload_n 0, 1) := by decide +kernel
theorem dMo_account_43 : decode bMo_account 43 = .ok (.getfield 72, 3) := by decide +kernel
theorem dMo_account_46 : decode bMo_account 46 = .ok (.iload_n 1, 1) := by decide +kernel
theorem dMo_account_47 : decode bMo_account 47 = .ok (.iastore, 1) := by decide +kernel
theorem dMo_account_48 : decode bMo_account 48 = .ok (.aload_n 0, 1) := by decide +kernel
theorem dMo_account_49 : decode bMo_account 49 = .ok (.dup, 1) := by decide +kernel
theorem dMo_account_50 : decode bMo_account 50 = .ok (.getfield 72, 3) := by decide +kernel
theorem dMo_account_53 : decode bMo_account 53 = .ok (.iconst 1, 1) := by decide +kernel
theorem dMo_account_54 : decode bMo_account 54 = .ok (.iadd, 1) := by decide +kernel
theorem dMo_account_55 : decode bMo_account 55 = .ok (.putfield 72, 3) := by decide +kernel
theorem dMo_account_58 : decode bMo_account 58 = .ok (.aload_n 0, 1) := by decide +kernel
theorem dMo_account_59 : decode bMo_account 59 = .ok (.getfield 72, 3) := by decide +kernel
theorem dMo_account_62 : decode bMo_account 62 = .ok (.iconst 1, 1) := by decide +kernel
theorem dMo_account_63 : decode bMo_account 63 = .ok (.isub, 1) := by decide +kernel
theorem dMo_account_64 : decode bMo_account 64 = .ok (.ireturn, 1) := by decide +kernel
theorem dMo_isKind_0 : decode bMo_isKind 0 = .ok (.iload_n 0, 1) := by decide +kernel
theorem dMo_isKind_1 : decode bMo_isKind 1 = .ok (.i2l, 1) := by decide +kernel
theorem dMo_isKind_2 : decode bMo_isKind 2 = .ok (.lconst 0, 1) := by decide +kernel
theorem dMo_isKind_3 : decode bMo_isKind 3 = .ok (.ldc2_w 70, 3) := by decide +kernel
theorem dMo_isKind_6 : decode bMo_isKind 6 = .ok (.invokestatic 66, 3) := by decide +kernel
theorem dMo_isKind_9 : decode bMo_isKind 9 = .ok (.ireturn, 1) := by decide +kernel
theorem dMo_in_0 : decode bMo_in 0 = .ok (.lload_n 0, 1) := by decide +kernel
theorem dMo_in_1 : decode bMo_in 1 = .ok (.lload_n 2, 1) := by decide +kernel
theorem dMo_in_2 : decode bMo_in 2 = .ok (.lcmp, 1) := by decide +kernel
theorem dMo_in_3 : decode bMo_in 3 = .ok (.ifCond .lt 14, 3) := by decide +kernel
theorem dMo_in_6 : decode bMo_in 6 = .ok (.lload_n 0, 1) := by decide +kernel
theorem dMo_in_7 : decode bMo_in 7 = .ok (.lload 4, 2) := by decide +kernel
theorem dMo_in_9 : decode bMo_in 9 = .ok (.lcmp, 1) := by decide +kernel
theorem dMo_in_10 : decode bMo_in 10 = .ok (.ifCond .gt 7, 3) := by decide +kernel
theorem dMo_in_13 : decode bMo_in 13 = .ok (.iconst 1, 1) := by decide +kernel
theorem dMo_in_14 : decode bMo_in 14 = .ok (.goto 4, 3) := by decide +kernel
theorem dMo_in_17 : decode bMo_in 17 = .ok (.iconst 0, 1) := by decide +kernel
theorem dMo_in_18 : decode bMo_in 18 = .ok (.ireturn, 1) := by decide +kernel
theorem dMo_batch_0 : decode bMo_batch 0 = .ok (.aload_n 0, 1) := by decide +kernel
theorem dMo_batch_1 : decode bMo_batch 1 = .ok (.iload_n 1, 1) := by decide +kernel
theorem dMo_batch_2 : decode bMo_batch 2 = .ok (.invokestatic 82, 3) := by decide +kernel
theorem dMo_batch_5 : decode bMo_batch 5 = .ok (.ifCond .eq 10, 3) := by decide +kernel
theorem dMo_batch_8 : decode bMo_batch 8 = .ok (.iload_n 2, 1) := by decide +kernel
theorem dMo_batch_9 : decode bMo_batch 9 = .ok (.invokestatic 82, 3) := by decide +kernel
theorem dMo_batch_12 : decode bMo_batch 12 = .ok (.ifCond .ne 7, 3) := by decide +kernel
theorem dMo_batch_15 : decode bMo_batch 15 = .ok (.iconst 1, 1) := by decide +kernel
theorem dMo_batch_16 : decode bMo_batch 16 = .ok (.goto 17, 3) := by decide +kernel
theorem dMo_batch_19 : decode bMo_batch 19 = .ok (.aload_n 0, 1) := by decide +kernel
theorem dMo_batch_20 : decode bMo_batch 20 = .ok (.getfield 75, 3) := by decide +kernel
theorem dMo_batch_23 : decode bMo_batch 23 = .ok (.bipush 100, 2) := by decide +kernel
theorem dMo_batch_25 : decode bMo_batch 25 = .ok (.if_icmp .ne 7, 3) := by decide +kernel
theorem dMo_batch_28 : decode bMo_batch 28 = .ok (.iconst 2, 1) := by decide +kernel
theorem dMo_batch_29 : decode bMo_batch 29 = .ok (.goto 4, 3) := by decide +kernel
theorem dMo_batch_32 : decode bMo_batch 32 = .ok (.iconst 0, 1) := by decide +kernel
theorem dMo_batch_33 : decode bMo_batch 33 = .ok (.putfield 61, 3) := by decide +kernel
theorem dMo_batch_36 : decode bMo_batch 36 = .ok (.aload_n 0, 1) := by decide +kernel
theorem dMo_batch_37 : decode bMo_batch 37 = .ok (.getfield 61, 3) := by decide +kernel
theorem dMo_batch_40 : decode bMo_batch 40 = .ok (.ifCond .le 5, 3) := by decide +kernel
theorem dMo_batch_43 : decode bMo_batch 43 = .ok (.iconst 0, 1) := by decide +kernel
theorem dMo_batch_44 : decode bMo_batch 44 = .ok (.ireturn, 1) := by decide +kernel
theorem dMo_batch_45 : decode bMo_batch 45 = .ok (.aload_n 0, 1) := by decide +kernel
theorem dMo_batch_46 : decode bMo_batch 46 = .ok (.aload_n 0, 1) := by decide +kernel
theorem dMo_batch_47 : decode bMo_batch 47 = .ok (.getfield 75, 3) := by decide +kernel
theorem dMo_batch_50 : decode bMo_batch 50 = .ok (.iload_n 1, 1) := by decide +kernel
theorem dMo_batch_51 : decode bMo_batch 51 = .ok (.iload_n 2, 1) := by decide +kernel
theorem dMo_batch_52 : decode bMo_batch 52 = .ok (.invokevirtual 85, 3) := by decide +kernel
theorem dMo_batch_55 : decode bMo_batch 55 = .ok (.aload_n 0, 1) := by decide +kernel
theorem dMo_batch_56 : decode bMo_batch 56 = .ok (.dup, 1) := by decide +kernel
theorem dMo_batch_57 : decode bMo_batch 57 = .ok (.getfield 75, 3) := by decide +kernel
theorem dMo_batch_60 : decode bMo_batch 60 = .ok (.iconst 1, 1) := by decide +kernel
theorem dMo_batch_61 : decode bMo_batch 61 = .ok (.iadd, 1) := by decide +kernel
theorem dMo_batch_62 : decode bMo_batch 62 = .ok (.putfield 75, 3) := by decide +kernel
theorem dMo_batch_65 : decode bMo_batch 65 = .ok (.aload_n 0, 1) := by decide +kernel
theorem dMo_batch_66 : decode bMo_batch 66 = .ok (.getfield 75, 3) := by decide +kernel
theorem dMo_batch_69 : decode bMo_batch 69 = .ok (.iconst 1, 1) := by decide +kernel
theorem dMo_batch_70 : decode bMo_batch 70 = .ok (.isub, 1) := by decide +kernel
theorem dMo_batch_71 : decode bMo_batch 71 = .ok (.ireturn, 1) := by decide +kernel
theorem dMo_isDay_0 : decode bMo_isDay 0 = .ok (.iload_n 0, 1) := by decide +kernel
theorem dMo_isDay_1 : decode bMo_isDay 1 = .ok (.i2l, 1) := by decide +kernel
theorem dMo_isDay_2 : decode bMo_isDay 2 = .ok (.lconst 0, 1) := by decide +kernel
theorem dMo_isDay_3 : decode bMo_isDay 3 = .ok (.ldc2_w 64, 3) := by decide +kernel
theorem dMo_isDay_6 : decode bMo_isDay 6 = .ok (.invokestatic 66, 3) := by decide +kernel
theorem dMo_isDay_9 : decode bMo_isDay 9 = .ok (.ireturn, 1) := by decide +kernel
theorem dMo_begin_0 : decode bMo_begin 0 = .ok (.aload_n 0, 1) := by decide +kernel
theorem dMo_begin_1 : decode bMo_begin 1 = .ok (.getfield 23, 3) := by decide +kernel
theorem dMo_begin_4 : decode bMo_begin 4 = .ok (.iload_n 1, 1) := by decide +kernel
theorem dMo_begin_5 : decode bMo_begin 5 = .ok (.iconst 0, 1) := by decide +kernel
theorem dMo_begin_6 : decode bMo_begin 6 = .ok (.iastore, 1) := by decide +kernel
theorem dMo_begin_7 : decode bMo_begin 7 = .ok (.aload_n 0, 1) := by decide +kernel
theorem dMo_begin_8 : decode bMo_begin 8 = .ok (.getfield 26, 3) := by decide +kernel
theorem dMo_begin_11 : decode bMo_begin 11 = .ok (.iload_n 1, 1) := by decide +kernel
theorem dMo_begin_12 : decode bMo_begin 12 = .ok (.iload_n 2, 1) := by decide +kernel
theorem dMo_begin_13 : decode bMo_begin 13 = .ok (.iastore, 1) := by decide +kernel
theorem dMo_begin_14 : decode bMo_begin 14 = .ok (.aload_n 0, 1) := by decide +kernel
theorem dMo_begin_15 : decode bMo_begin 15 = .ok (.getfield 29, 3) := by decide +kernel
theorem dMo_begin_18 : decode bMo_begin 18 = .ok (.iload_n 1, 1) := by decide +kernel
theorem dMo_begin_19 : decode bMo_begin 19 = .ok (.iload_n 3, 1) := by decide +kernel
theorem dMo_begin_20 : decode bMo_begin 20 = .ok (.iastore, 1) := by decide +kernel
theorem dMo_begin_21 : decode bMo_begin 21 = .ok (.aload_n 0, 1) := by decide +kernel
theorem dMo_begin_22 : decode bMo_begin 22 = .ok (.getfield 32, 3) := by decide +kernel
theorem dMo_begin_25 : decode bMo_begin 25 = .ok (.iload_n 1, 1) := by decide +kernel
theorem dMo_begin_26 : decode bMo_begin 26 = .ok (.iconst (-1), 1) := by decide +kernel
theorem dMo_begin_27 : decode bMo_begin 27 = .ok (.iastore, 1) := by decide +kernel
theorem dMo_begin_28 : decode bMo_begin 28 = .ok (.aload_n 0, 1) := by decide +kernel
theorem dMo_begin_29 : decode bMo_begin 29 = .ok (.getfield 35, 3) := by decide +kernel
theorem dMo_begin_32 : decode bMo_begin 32 = .ok (.iload_n 1, 1) := by decide +kernel
theorem dMo_begin_33 : decode bMo_begin 33 = .ok (.iconst (-1), 1) := by decide +kernel
theorem dMo_begin_34 : decode bMo_begin 34 = .ok (.iastore, 1) := by decide +kernel
theorem dMo_begin_35 : decode bMo_begin 35 = .ok (.aload_n 0, 1) := by decide +kernel
theorem dMo_begin_36 : decode bMo_begin 36 = .ok (.getfield 38, 3) := by decide +kernel
theorem dMo_begin_39 : decode bMo_begin 39 = .ok (.iload_n 1, 1) := by decide +kernel
theorem dMo_begin_40 : decode bMo_begin 40 = .ok (.iconst 0, 1) := by decide +kernel
theorem dMo_begin_41 : decode bMo_begin 41 = .ok (.bastore, 1) := by decide +kernel
theorem dMo_begin_42 : decode bMo_begin 42 = .ok (.aload_n 0, 1) := by decide +kernel
theorem dMo_begin_43 : decode bMo_begin 43 = .ok (.getfield 42, 3) := by decide +kernel
theorem dMo_begin_46 : decode bMo_begin 46 = .ok (.iload_n 1, 1) := by decide +kernel
theorem dMo_begin_47 : decode bMo_begin 47 = .ok (.iconst 0, 1) := by decide +kernel
theorem dMo_begin_48 : decode bMo_begin 48 = .ok (.iastore, 1) := by decide +kernel
theorem dMo_begin_49 : decode bMo_begin 49 = .ok (.return_, 1) := by decide +kernel
theorem dMo_row_0 : decode bMo_row 0 = .ok (.aload_n 0, 1) := by decide +kernel
theorem dMo_row_1 : decode bMo_row 1 = .ok (.iconst 0, 1) := by decide +kernel
theorem dMo_row_2 : decode bMo_row 2 = .ok (.putfield 61, 3) := by decide +kernel
theorem dMo_row_5 : decode bMo_row 5 = .ok (.aload_n 0, 1) := by decide +kernel
theorem dMo_row_6 : decode bMo_row 6 = .ok (.iload_n 1, 1) := by decide +kernel
theorem dMo_row_7 : decode bMo_row 7 = .ok (.invokevirtual 89, 3) := by decide +kernel
theorem dMo_row_10 : decode bMo_row 10 = .ok (.ifCond .eq 41, 3) := by decide +kernel
theorem dMo_row_13 : decode bMo_row 13 = .ok (.aload_n 0, 1) := by decide +kernel
theorem dMo_row_14 : decode bMo_row 14 = .ok (.iload_n 2, 1) := by decide +kernel
theorem dMo_row_15 : decode bMo_row 15 = .ok (.invokevirtual 92, 3) := by decide +kernel
theorem dMo_row_18 : decode bMo_row 18 = .ok (.ifCond .eq 33, 3) := by decide +kernel
theorem dMo_row_21 : decode bMo_row 21 = .ok (.lload_n 3, 1) := by decide +kernel
theorem dMo_row_22 : decode bMo_row 22 = .ok (.lconst 0, 1) := by decide +kernel
theorem dMo_row_23 : decode bMo_row 23 = .ok (.lcmp, 1) := by decide +kernel
theorem dMo_row_24 : decode bMo_row 24 = .ok (.ifCond .eq 27, 3) := by decide +kernel
theorem dMo_row_27 : decode bMo_row 27 = .ok (.lload_n 3, 1) := by decide +kernel
theorem dMo_row_28 : decode bMo_row 28 = .ok (.ldc2_w 95, 3) := by decide +kernel
theorem dMo_row_31 : decode bMo_row 31 = .ok (.ldc2_w 97, 3) := by decide +kernel
theorem dMo_row_34 : decode bMo_row 34 = .ok (.invokestatic 66, 3) := by decide +kernel
theorem dMo_row_37 : decode bMo_row 37 = .ok (.ifCond .eq 14, 3) := by decide +kernel
theorem dMo_row_40 : decode bMo_row 40 = .ok (.aload_n 0, 1) := by decide +kernel
theorem dMo_row_41 : decode bMo_row 41 = .ok (.getfield 42, 3) := by decide +kernel
theorem dMo_row_44 : decode bMo_row 44 = .ok (.iload_n 1, 1) := by decide +kernel
theorem dMo_row_45 : decode bMo_row 45 = .ok (.iaload, 1) := by decide +kernel
theorem dMo_row_46 : decode bMo_row 46 = .ok (.bipush 20, 2) := by decide +kernel
theorem dMo_row_48 : decode bMo_row 48 = .ok (.if_icmp .ne 5, 3) := by decide +kernel
theorem dMo_row_51 : decode bMo_row 51 = .ok (.iconst 0, 1) := by decide +kernel
theorem dMo_row_52 : decode bMo_row 52 = .ok (.ireturn, 1) := by decide +kernel
theorem dMo_row_53 : decode bMo_row 53 = .ok (.aload_n 0, 1) := by decide +kernel
theorem dMo_row_54 : decode bMo_row 54 = .ok (.getfield 45, 3) := by decide +kernel
theorem dMo_row_57 : decode bMo_row 57 = .ok (.bipush 20, 2) := by decide +kernel
theorem dMo_row_59 : decode bMo_row 59 = .ok (.iload_n 1, 1) := by decide +kernel
theorem dMo_row_60 : decode bMo_row 60 = .ok (.imul, 1) := by decide +kernel
theorem dMo_row_61 : decode bMo_row 61 = .ok (.aload_n 0, 1) := by decide +kernel
theorem dMo_row_62 : decode bMo_row 62 = .ok (.getfield 42, 3) := by decide +kernel
theorem dMo_row_65 : decode bMo_row 65 = .ok (.iload_n 1, 1) := by decide +kernel
theorem dMo_row_66 : decode bMo_row 66 = .ok (.iaload, 1) := by decide +kernel
theorem dMo_row_67 : decode bMo_row 67 = .ok (.iadd, 1) := by decide +kernel
theorem dMo_row_68 : decode bMo_row 68 = .ok (.iload_n 2, 1) := by decide +kernel
theorem dMo_row_69 : decode bMo_row 69 = .ok (.iastore, 1) := by decide +kernel
theorem dMo_row_70 : decode bMo_row 70 = .ok (.aload_n 0, 1) := by decide +kernel
theorem dMo_row_71 : decode bMo_row 71 = .ok (.getfield 48, 3) := by decide +kernel
theorem dMo_row_74 : decode bMo_row 74 = .ok (.bipush 20, 2) := by decide +kernel
theorem dMo_row_76 : decode bMo_row 76 = .ok (.iload_n 1, 1) := by decide +kernel
theorem dMo_row_77 : decode bMo_row 77 = .ok (.imul, 1) := by decide +kernel
theorem dMo_row_78 : decode bMo_row 78 = .ok (.aload_n 0, 1) := by decide +kernel
theorem dMo_row_79 : decode bMo_row 79 = .ok (.getfield 42, 3) := by decide +kernel
theorem dMo_row_82 : decode bMo_row 82 = .ok (.iload_n 1, 1) := by decide +kernel
theorem dMo_row_83 : decode bMo_row 83 = .ok (.iaload, 1) := by decide +kernel
theorem dMo_row_84 : decode bMo_row 84 = .ok (.iadd, 1) := by decide +kernel
theorem dMo_row_85 : decode bMo_row 85 = .ok (.lload_n 3, 1) := by decide +kernel
theorem dMo_row_86 : decode bMo_row 86 = .ok (.lastore, 1) := by decide +kernel
theorem dMo_row_87 : decode bMo_row 87 = .ok (.aload_n 0, 1) := by decide +kernel
theorem dMo_row_88 : decode bMo_row 88 = .ok (.getfield 42, 3) := by decide +kernel
theorem dMo_row_91 : decode bMo_row 91 = .ok (.iload_n 1, 1) := by decide +kernel
theorem dMo_row_92 : decode bMo_row 92 = .ok (.dup2, 1) := by decide +kernel
theorem dMo_row_93 : decode bMo_row 93 = .ok (.iaload, 1) := by decide +kernel
theorem dMo_row_94 : decode bMo_row 94 = .ok (.iconst 1, 1) := by decide +kernel
theorem dMo_row_95 : decode bMo_row 95 = .ok (.iadd, 1) := by decide +kernel
theorem dMo_row_96 : decode bMo_row 96 = .ok (.iastore, 1) := by decide +kernel
theorem dMo_row_97 : decode bMo_row 97 = .ok (.iconst 1, 1) := by decide +kernel
theorem dMo_row_98 : decode bMo_row 98 = .ok (.ireturn, 1) := by decide +kernel
theorem dMo_isOpen_0 : decode bMo_isOpen 0 = .ok (.iload_n 1, 1) := by decide +kernel
theorem dMo_isOpen_1 : decode bMo_isOpen 1 = .ok (.ifCond .lt 24, 3) := by decide +kernel
theorem dMo_isOpen_4 : decode bMo_isOpen 4 = .ok (.iload_n 1, 1) := by decide +kernel
theorem dMo_isOpen_5 : decode bMo_isOpen 5 = .ok (.aload_n 0, 1) := by decide +kernel
theorem dMo_isOpen_6 : decode bMo_isOpen 6 = .ok (.getfield 75, 3) := by decide +kernel
theorem dMo_isOpen_9 : decode bMo_isOpen 9 = .ok (.if_icmp .ge 16, 3) := by decide +kernel
theorem dMo_isOpen_12 : decode bMo_isOpen 12 = .ok (.aload_n 0, 1) := by decide +kernel
theorem dMo_isOpen_13 : decode bMo_isOpen 13 = .ok (.getfield 23, 3) := by decide +kernel
theorem dMo_isOpen_16 : decode bMo_isOpen 16 = .ok (.iload_n 1, 1) := by decide +kernel
theorem dMo_isOpen_17 : decode bMo_isOpen 17 = .ok (.iaload, 1) := by decide +kernel
theorem dMo_isOpen_18 : decode bMo_isOpen 18 = .ok (.ifCond .ne 7, 3) := by decide +kernel
theorem dMo_isOpen_21 : decode bMo_isOpen 21 = .ok (.iconst 1, 1) := by decide +kernel
theorem dMo_isOpen_22 : decode bMo_isOpen 22 = .ok (.goto 4, 3) := by decide +kernel
theorem dMo_isOpen_25 : decode bMo_isOpen 25 = .ok (.iconst 0, 1) := by decide +kernel
theorem dMo_isOpen_26 : decode bMo_isOpen 26 = .ok (.ireturn, 1) := by decide +kernel
theorem dMo_isAccount_0 : decode bMo_isAccount 0 = .ok (.iload_n 1, 1) := by decide +kernel
theorem dMo_isAccount_1 : decode bMo_isAccount 1 = .ok (.ifCond .lt 15, 3) := by decide +kernel
theorem dMo_isAccount_4 : decode bMo_isAccount 4 = .ok (.iload_n 1, 1) := by decide +kernel
theorem dMo_isAccount_5 : decode bMo_isAccount 5 = .ok (.aload_n 0, 1) := by decide +kernel
theorem dMo_isAccount_6 : decode bMo_isAccount 6 = .ok (.getfield 72, 3) := by decide +kernel
theorem dMo_isAccount_9 : decode bMo_isAccount 9 = .ok (.if_icmp .ge 7, 3) := by decide +kernel
theorem dMo_isAccount_12 : decode bMo_isAccount 12 = .ok (.iconst 1, 1) := by decide +kernel
theorem dMo_isAccount_13 : decode bMo_isAccount 13 = .ok (.goto 4, 3) := by decide +kernel
theorem dMo_isAccount_16 : decode bMo_isAccount 16 = .ok (.iconst 0, 1) := by decide +kernel
theorem dMo_isAccount_17 : decode bMo_isAccount 17 = .ok (.ireturn, 1) := by decide +kernel
theorem dMo_fails_0 : decode bMo_fails 0 = .ok (.aload_n 0, 1) := by decide +kernel
theorem dMo_fails_1 : decode bMo_fails 1 = .ok (.iconst 0, 1) := by decide +kernel
theorem dMo_fails_2 : decode bMo_fails 2 = .ok (.putfield 61, 3) := by decide +kernel
theorem dMo_fails_5 : decode bMo_fails 5 = .ok (.aload_n 0, 1) := by decide +kernel
theorem dMo_fails_6 : decode bMo_fails 6 = .ok (.iload_n 1, 1) := by decide +kernel
theorem dMo_fails_7 : decode bMo_fails 7 = .ok (.invokevirtual 89, 3) := by decide +kernel
theorem dMo_fails_10 : decode bMo_fails 10 = .ok (.ifCond .ne 5, 3) := by decide +kernel
theorem dMo_fails_13 : decode bMo_fails 13 = .ok (.iconst 0, 1) := by decide +kernel
theorem dMo_fails_14 : decode bMo_fails 14 = .ok (.ireturn, 1) := by decide +kernel
theorem dMo_fails_15 : decode bMo_fails 15 = .ok (.aload_n 0, 1) := by decide +kernel
theorem dMo_fails_16 : decode bMo_fails 16 = .ok (.getfield 38, 3) := by decide +kernel
theorem dMo_fails_19 : decode bMo_fails 19 = .ok (.iload_n 1, 1) := by decide +kernel
theorem dMo_fails_20 : decode bMo_fails 20 = .ok (.iload_n 2, 1) := by decide +kernel
theorem dMo_fails_21 : decode bMo_fails 21 = .ok (.bastore, 1) := by decide +kernel
theorem dMo_fails_22 : decode bMo_fails 22 = .ok (.iconst 1, 1) := by decide +kernel
theorem dMo_fails_23 : decode bMo_fails 23 = .ok (.ireturn, 1) := by decide +kernel
theorem dMo_post_0 : decode bMo_post 0 = .ok (.aload_n 0, 1) := by decide +kernel
theorem dMo_post_1 : decode bMo_post 1 = .ok (.aload_n 0, 1) := by decide +kernel
theorem dMo_post_2 : decode bMo_post 2 = .ok (.iload_n 1, 1) := by decide +kernel
theorem dMo_post_3 : decode bMo_post 3 = .ok (.invokevirtual 89, 3) := by decide +kernel
theorem dMo_post_6 : decode bMo_post 6 = .ok (.ifCond .eq 7, 3) := by decide +kernel
theorem dMo_post_9 : decode bMo_post 9 = .ok (.iconst 0, 1) := by decide +kernel
theorem dMo_post_10 : decode bMo_post 10 = .ok (.goto 4, 3) := by decide +kernel
theorem dMo_post_13 : decode bMo_post 13 = .ok (.iconst 1, 1) := by decide +kernel
theorem dMo_post_14 : decode bMo_post 14 = .ok (.putfield 61, 3) := by decide +kernel
theorem dMo_post_17 : decode bMo_post 17 = .ok (.aload_n 0, 1) := by decide +kernel
theorem dMo_post_18 : decode bMo_post 18 = .ok (.getfield 61, 3) := by decide +kernel
theorem dMo_post_21 : decode bMo_post 21 = .ok (.ifCond .le 5, 3) := by decide +kernel
theorem dMo_post_24 : decode bMo_post 24 = .ok (.iconst 0, 1) := by decide +kernel
theorem dMo_post_25 : decode bMo_post 25 = .ok (.ireturn, 1) := by decide +kernel
theorem dMo_post_26 : decode bMo_post 26 = .ok (.aload_n 0, 1) := by decide +kernel
theorem dMo_post_27 : decode bMo_post 27 = .ok (.iload_n 1, 1) := by decide +kernel
theorem dMo_post_28 : decode bMo_post 28 = .ok (.invokevirtual 106, 3) := by decide +kernel
theorem dMo_post_31 : decode bMo_post 31 = .ok (.istore_n 2, 1) := by decide +kernel
theorem dMo_post_32 : decode bMo_post 32 = .ok (.iload_n 2, 1) := by decide +kernel
theorem dMo_post_33 : decode bMo_post 33 = .ok (.ifCond .le 40, 3) := by decide +kernel
theorem dMo_post_36 : decode bMo_post 36 = .ok (.aload_n 0, 1) := by decide +kernel
theorem dMo_post_37 : decode bMo_post 37 = .ok (.iconst 2, 1) := by decide +kernel
theorem dMo_post_38 : decode bMo_post 38 = .ok (.putfield 61, 3) := by decide +kernel
theorem dMo_post_41 : decode bMo_post 41 = .ok (.aload_n 0, 1) := by decide +kernel
theorem dMo_post_42 : decode bMo_post 42 = .ok (.iload_n 2, 1) := by decide +kernel
theorem dMo_post_43 : decode bMo_post 43 = .ok (.putfield 110, 3) := by decide +kernel
theorem dMo_post_46 : decode bMo_post 46 = .ok (.aload_n 0, 1) := by decide +kernel
theorem dMo_post_47 : decode bMo_post 47 = .ok (.iload_n 2, 1) := by decide +kernel
theorem dMo_post_48 : decode bMo_post 48 = .ok (.iconst 2, 1) := by decide +kernel
theorem dMo_post_49 : decode bMo_post 49 = .ok (.if_icmp .ne 11, 3) := by decide +kernel
theorem dMo_post_52 : decode bMo_post 52 = .ok (.aload_n 0, 1) := by decide +kernel
theorem dMo_post_53 : decode bMo_post 53 = .ok (.iload_n 1, 1) := by decide +kernel
theorem dMo_post_54 : decode bMo_post 54 = .ok (.invokevirtual 113, 3) := by decide +kernel
theorem dMo_post_57 : decode bMo_post 57 = .ok (.goto 4, 3) := by decide +kernel
theorem dMo_post_60 : decode bMo_post 60 = .ok (.iconst (-1), 1) := by decide +kernel
theorem dMo_post_61 : decode bMo_post 61 = .ok (.putfield 16, 3) := by decide +kernel
theorem dMo_post_64 : decode bMo_post 64 = .ok (.aload_n 0, 1) := by decide +kernel
theorem dMo_post_65 : decode bMo_post 65 = .ok (.getfield 23, 3) := by decide +kernel
theorem dMo_post_68 : decode bMo_post 68 = .ok (.iload_n 1, 1) := by decide +kernel
theorem dMo_post_69 : decode bMo_post 69 = .ok (.iconst 2, 1) := by decide +kernel
theorem dMo_post_70 : decode bMo_post 70 = .ok (.iastore, 1) := by decide +kernel
theorem dMo_post_71 : decode bMo_post 71 = .ok (.iconst 0, 1) := by decide +kernel
theorem dMo_post_72 : decode bMo_post 72 = .ok (.ireturn, 1) := by decide +kernel
theorem dMo_post_73 : decode bMo_post 73 = .ok (.aload_n 0, 1) := by decide +kernel
theorem dMo_post_74 : decode bMo_post 74 = .ok (.getfield 38, 3) := by decide +kernel
theorem dMo_post_77 : decode bMo_post 77 = .ok (.iload_n 1, 1) := by decide +kernel
theorem dMo_post_78 : decode bMo_post 78 = .ok (.baload, 1) := by decide +kernel
theorem dMo_post_79 : decode bMo_post 79 = .ok (.ifCond .eq 27, 3) := by decide +kernel
theorem dMo_post_82 : decode bMo_post 82 = .ok (.aload_n 0, 1) := by decide +kernel
theorem dMo_post_83 : decode bMo_post 83 = .ok (.iconst 3, 1) := by decide +kernel
theorem dMo_post_84 : decode bMo_post 84 = .ok (.putfield 61, 3) := by decide +kernel
theorem dMo_post_87 : decode bMo_post 87 = .ok (.aload_n 0, 1) := by decide +kernel
theorem dMo_post_88 : decode bMo_post 88 = .ok (.getfield 38, 3) := by decide +kernel
theorem dMo_post_91 : decode bMo_post 91 = .ok (.iload_n 1, 1) := by decide +kernel
theorem dMo_post_92 : decode bMo_post 92 = .ok (.iconst 0, 1) := by decide +kernel
theorem dMo_post_93 : decode bMo_post 93 = .ok (.bastore, 1) := by decide +kernel
theorem dMo_post_94 : decode bMo_post 94 = .ok (.aload_n 0, 1) := by decide +kernel
theorem dMo_post_95 : decode bMo_post 95 = .ok (.dup, 1) := by decide +kernel
theorem dMo_post_96 : decode bMo_post 96 = .ok (.getfield 116, 3) := by decide +kernel
theorem dMo_post_99 : decode bMo_post 99 = .ok (.iconst 1, 1) := by decide +kernel
theorem dMo_post_100 : decode bMo_post 100 = .ok (.iadd, 1) := by decide +kernel
theorem dMo_post_101 : decode bMo_post 101 = .ok (.putfield 116, 3) := by decide +kernel
theorem dMo_post_104 : decode bMo_post 104 = .ok (.iconst 0, 1) := by decide +kernel
theorem dMo_post_105 : decode bMo_post 105 = .ok (.ireturn, 1) := by decide +kernel
theorem dMo_post_106 : decode bMo_post 106 = .ok (.aload_n 0, 1) := by decide +kernel
theorem dMo_post_107 : decode bMo_post 107 = .ok (.iload_n 1, 1) := by decide +kernel
theorem dMo_post_108 : decode bMo_post 108 = .ok (.invokevirtual 119, 3) := by decide +kernel
theorem dMo_post_111 : decode bMo_post 111 = .ok (.iconst 1, 1) := by decide +kernel
theorem dMo_post_112 : decode bMo_post 112 = .ok (.ireturn, 1) := by decide +kernel
theorem dMo_wrongWith_0 : decode bMo_wrongWith 0 = .ok (.aload_n 0, 1) := by decide +kernel
theorem dMo_wrongWith_1 : decode bMo_wrongWith 1 = .ok (.getfield 42, 3) := by decide +kernel
theorem dMo_wrongWith_4 : decode bMo_wrongWith 4 = .ok (.iload_n 1, 1) := by decide +kernel
theorem dMo_wrongWith_5 : decode bMo_wrongWith 5 = .ok (.iaload, 1) := by decide +kernel
theorem dMo_wrongWith_6 : decode bMo_wrongWith 6 = .ok (.ifCond .ne 5, 3) := by decide +kernel
theorem dMo_wrongWith_9 : decode bMo_wrongWith 9 = .ok (.iconst 1, 1) := by decide +kernel
theorem dMo_wrongWith_10 : decode bMo_wrongWith 10 = .ok (.ireturn, 1) := by decide +kernel
theorem dMo_wrongWith_11 : decode bMo_wrongWith 11 = .ok (.aload_n 0, 1) := by decide +kernel
theorem dMo_wrongWith_12 : decode bMo_wrongWith 12 = .ok (.iload_n 1, 1) := by decide +kernel
theorem dMo_wrongWith_13 : decode bMo_wrongWith 13 = .ok (.iconst (-1), 1) := by decide +kernel
theorem dMo_wrongWith_14 : decode bMo_wrongWith 14 = .ok (.invokevirtual 99, 3) := by decide +kernel
theorem dMo_wrongWith_17 : decode bMo_wrongWith 17 = .ok (.lconst 0, 1) := by decide +kernel
theorem dMo_wrongWith_18 : decode bMo_wrongWith 18 = .ok (.lcmp, 1) := by decide +kernel
theorem dMo_wrongWith_19 : decode bMo_wrongWith 19 = .ok (.ifCond .eq 5, 3) := by decide +kernel
theorem dMo_wrongWith_22 : decode bMo_wrongWith 22 = .ok (.iconst 2, 1) := by decide +kernel
theorem dMo_wrongWith_23 : decode bMo_wrongWith 23 = .ok (.ireturn, 1) := by decide +kernel
theorem dMo_wrongWith_24 : decode bMo_wrongWith 24 = .ok (.aload_n 0, 1) := by decide +kernel
theorem dMo_wrongWith_25 : decode bMo_wrongWith 25 = .ok (.getfield 29, 3) := by decide +kernel
theorem dMo_wrongWith_28 : decode bMo_wrongWith 28 = .ok (.iload_n 1, 1) := by decide +kernel
theorem dMo_wrongWith_29 : decode bMo_wrongWith 29 = .ok (.iaload, 1) := by decide +kernel
theorem dMo_wrongWith_30 : decode bMo_wrongWith 30 = .ok (.aload_n 0, 1) := by decide +kernel
theorem dMo_wrongWith_31 : decode bMo_wrongWith 31 = .ok (.getfield 9, 3) := by decide +kernel
theorem dMo_wrongWith_34 : decode bMo_wrongWith 34 = .ok (.if_icmp .gt 5, 3) := by decide +kernel
theorem dMo_wrongWith_37 : decode bMo_wrongWith 37 = .ok (.iconst 3, 1) := by decide +kernel
theorem dMo_wrongWith_38 : decode bMo_wrongWith 38 = .ok (.ireturn, 1) := by decide +kernel
theorem dMo_wrongWith_39 : decode bMo_wrongWith 39 = .ok (.aload_n 0, 1) := by decide +kernel
theorem dMo_wrongWith_40 : decode bMo_wrongWith 40 = .ok (.getfield 29, 3) := by decide +kernel
theorem dMo_wrongWith_43 : decode bMo_wrongWith 43 = .ok (.iload_n 1, 1) := by decide +kernel
theorem dMo_wrongWith_44 : decode bMo_wrongWith 44 = .ok (.iaload, 1) := by decide +kernel
theorem dMo_wrongWith_45 : decode bMo_wrongWith 45 = .ok (.aload_n 0, 1) := by decide +kernel
theorem dMo_wrongWith_46 : decode bMo_wrongWith 46 = .ok (.getfield 13, 3) := by decide +kernel
theorem dMo_wrongWith_49 : decode bMo_wrongWith 49 = .ok (.if_icmp .ge 7, 3) := by decide +kernel
theorem dMo_wrongWith_52 : decode bMo_wrongWith 52 = .ok (.iconst 4, 1) := by decide +kernel
theorem dMo_wrongWith_53 : decode bMo_wrongWith 53 = .ok (.goto 25, 3) := by decide +kernel
theorem dMo_wrongWith_56 : decode bMo_wrongWith 56 = .ok (.aload_n 0, 1) := by decide +kernel
theorem dMo_wrongWith_57 : decode bMo_wrongWith 57 = .ok (.getfield 103, 3) := by decide +kernel
theorem dMo_wrongWith_60 : decode bMo_wrongWith 60 = .ok (.aload_n 0, 1) := by decide +kernel
theorem dMo_wrongWith_61 : decode bMo_wrongWith 61 = .ok (.getfield 42, 3) := by decide +kernel
theorem dMo_wrongWith_64 : decode bMo_wrongWith 64 = .ok (.iload_n 1, 1) := by decide +kernel
theorem dMo_wrongWith_65 : decode bMo_wrongWith 65 = .ok (.iaload, 1) := by decide +kernel
theorem dMo_wrongWith_66 : decode bMo_wrongWith 66 = .ok (.iadd, 1) := by decide +kernel
theorem dMo_wrongWith_67 : decode bMo_wrongWith 67 = .ok (.sipush 400, 3) := by decide +kernel
theorem dMo_wrongWith_70 : decode bMo_wrongWith 70 = .ok (.if_icmp .le 7, 3) := by decide +kernel
theorem dMo_wrongWith_73 : decode bMo_wrongWith 73 = .ok (.iconst 5, 1) := by decide +kernel
theorem dMo_wrongWith_74 : decode bMo_wrongWith 74 = .ok (.goto 4, 3) := by decide +kernel
theorem dMo_wrongWith_77 : decode bMo_wrongWith 77 = .ok (.iconst 0, 1) := by decide +kernel
theorem dMo_wrongWith_78 : decode bMo_wrongWith 78 = .ok (.ireturn, 1) := by decide +kernel
theorem dMo_sumIn_0 : decode bMo_sumIn 0 = .ok (.lconst 0, 1) := by decide +kernel
theorem dMo_sumIn_1 : decode bMo_sumIn 1 = .ok (.lstore_n 3, 1) := by decide +kernel
theorem dMo_sumIn_2 : decode bMo_sumIn 2 = .ok (.bipush 20, 2) := by decide +kernel
theorem dMo_sumIn_4 : decode bMo_sumIn 4 = .ok (.iload_n 1, 1) := by decide +kernel
theorem dMo_sumIn_5 : decode bMo_sumIn 5 = .ok (.imul, 1) := by decide +kernel
theorem dMo_sumIn_6 : decode bMo_sumIn 6 = .ok (.istore 5, 2) := by decide +kernel
theorem dMo_sumIn_8 : decode bMo_sumIn 8 = .ok (.iload 5, 2) := by decide +kernel
theorem dMo_sumIn_10 : decode bMo_sumIn 10 = .ok (.bipush 20, 2) := by decide +kernel
theorem dMo_sumIn_12 : decode bMo_sumIn 12 = .ok (.iload_n 1, 1) := by decide +kernel
theorem dMo_sumIn_13 : decode bMo_sumIn 13 = .ok (.imul, 1) := by decide +kernel
theorem dMo_sumIn_14 : decode bMo_sumIn 14 = .ok (.aload_n 0, 1) := by decide +kernel
theorem dMo_sumIn_15 : decode bMo_sumIn 15 = .ok (.getfield 42, 3) := by decide +kernel
theorem dMo_sumIn_18 : decode bMo_sumIn 18 = .ok (.iload_n 1, 1) := by decide +kernel
theorem dMo_sumIn_19 : decode bMo_sumIn 19 = .ok (.iaload, 1) := by decide +kernel
theorem dMo_sumIn_20 : decode bMo_sumIn 20 = .ok (.iadd, 1) := by decide +kernel
theorem dMo_sumIn_21 : decode bMo_sumIn 21 = .ok (.if_icmp .ge 39, 3) := by decide +kernel
theorem dMo_sumIn_24 : decode bMo_sumIn 24 = .ok (.lload_n 3, 1) := by decide +kernel
theorem dMo_sumIn_25 : decode bMo_sumIn 25 = .ok (.iload_n 2, 1) := by decide +kernel
theorem dMo_sumIn_26 : decode bMo_sumIn 26 = .ok (.iconst (-1), 1) := by decide +kernel
theorem dMo_sumIn_27 : decode bMo_sumIn 27 = .ok (.if_icmp .eq 14, 3) := by decide +kernel
theorem dMo_sumIn_30 : decode bMo_sumIn 30 = .ok (.aload_n 0, 1) := by decide +kernel
theorem dMo_sumIn_31 : decode bMo_sumIn 31 = .ok (.getfield 45, 3) := by decide +kernel
theorem dMo_sumIn_34 : decode bMo_sumIn 34 = .ok (.iload 5, 2) := by decide +kernel
theorem dMo_sumIn_36 : decode bMo_sumIn 36 = .ok (.iaload, 1) := by decide +kernel
theorem dMo_sumIn_37 : decode bMo_sumIn 37 = .ok (.iload_n 2, 1) := by decide +kernel
theorem dMo_sumIn_38 : decode bMo_sumIn 38 = .ok (.if_icmp .ne 13, 3) := by decide +kernel
theorem dMo_sumIn_41 : decode bMo_sumIn 41 = .ok (.aload_n 0, 1) := by decide +kernel
theorem dMo_sumIn_42 : decode bMo_sumIn 42 = .ok (.getfield 48, 3) := by decide +kernel
theorem dMo_sumIn_45 : decode bMo_sumIn 45 = .ok (.iload 5, 2) := by decide +kernel
theorem dMo_sumIn_47 : decode bMo_sumIn 47 = .ok (.laload, 1) := by decide +kernel
theorem dMo_sumIn_48 : decode bMo_sumIn 48 = .ok (.goto 4, 3) := by decide +kernel
theorem dMo_sumIn_51 : decode bMo_sumIn 51 = .ok (.lconst 0, 1) := by decide +kernel
theorem dMo_sumIn_52 : decode bMo_sumIn 52 = .ok (.ladd, 1) := by decide +kernel
theorem dMo_sumIn_53 : decode bMo_sumIn 53 = .ok (.lstore_n 3, 1) := by decide +kernel
theorem dMo_sumIn_54 : decode bMo_sumIn 54 = .ok (.iinc 5 1, 3) := by decide +kernel
theorem dMo_sumIn_57 : decode bMo_sumIn 57 = .ok (.goto (-49), 3) := by decide +kernel
theorem dMo_sumIn_60 : decode bMo_sumIn 60 = .ok (.lload_n 3, 1) := by decide +kernel
theorem dMo_sumIn_61 : decode bMo_sumIn 61 = .ok (.lreturn, 1) := by decide +kernel
theorem dMo_greatestIn_0 : decode bMo_greatestIn 0 = .ok (.iconst (-1), 1) := by decide +kernel
theorem dMo_greatestIn_1 : decode bMo_greatestIn 1 = .ok (.istore_n 2, 1) := by decide +kernel
theorem dMo_greatestIn_2 : decode bMo_greatestIn 2 = .ok (.lconst 0, 1) := by decide +kernel
theorem dMo_greatestIn_3 : decode bMo_greatestIn 3 = .ok (.lstore_n 3, 1) := by decide +kernel
theorem dMo_greatestIn_4 : decode bMo_greatestIn 4 = .ok (.iconst 0, 1) := by decide +kernel
theorem dMo_greatestIn_5 : decode bMo_greatestIn 5 = .ok (.istore 5, 2) := by decide +kernel
theorem dMo_greatestIn_7 : decode bMo_greatestIn 7 = .ok (.iload 5, 2) := by decide +kernel
theorem dMo_greatestIn_9 : decode bMo_greatestIn 9 = .ok (.aload_n 0, 1) := by decide +kernel
theorem dMo_greatestIn_10 : decode bMo_greatestIn 10 = .ok (.getfield 72, 3) := by decide +kernel
theorem dMo_greatestIn_13 : decode bMo_greatestIn 13 = .ok (.if_icmp .ge 63, 3) := by decide +kernel
theorem dMo_greatestIn_16 : decode bMo_greatestIn 16 = .ok (.aload_n 0, 1) := by decide +kernel
theorem dMo_greatestIn_17 : decode bMo_greatestIn 17 = .ok (.iload_n 1, 1) := by decide +kernel
theorem dMo_greatestIn_18 : decode bMo_greatestIn 18 = .ok (.iload 5, 2) := by decide +kernel
theorem dMo_greatestIn_20 : decode bMo_greatestIn 20 = .ok (.invokevirtual 99, 3) := by decide +kernel
theorem dMo_greatestIn_23 : decode bMo_greatestIn 23 = .ok (.lstore 6, 2) := by decide +kernel
theorem dMo_greatestIn_25 : decode bMo_greatestIn 25 = .ok (.lload 6, 2) := by decide +kernel
theorem dMo_greatestIn_27 : decode bMo_greatestIn 27 = .ok (.lconst 0, 1) := by decide +kernel
theorem dMo_greatestIn_28 : decode bMo_greatestIn 28 = .ok (.lcmp, 1) := by decide +kernel
theorem dMo_greatestIn_29 : decode bMo_greatestIn 29 = .ok (.ifCond .ge 9, 3) := by decide +kernel
theorem dMo_greatestIn_32 : decode bMo_greatestIn 32 = .ok (.lload 6, 2) := by decide +kernel
theorem dMo_greatestIn_34 : decode bMo_greatestIn 34 = .ok (.lneg, 1) := by decide +kernel
theorem dMo_greatestIn_35 : decode bMo_greatestIn 35 = .ok (.goto 5, 3) := by decide +kernel
theorem dMo_greatestIn_38 : decode bMo_greatestIn 38 = .ok (.lload 6, 2) := by decide +kernel
theorem dMo_greatestIn_40 : decode bMo_greatestIn 40 = .ok (.lstore 6, 2) := by decide +kernel
theorem dMo_greatestIn_42 : decode bMo_greatestIn 42 = .ok (.lload 6, 2) := by decide +kernel
theorem dMo_greatestIn_44 : decode bMo_greatestIn 44 = .ok (.lload_n 3, 1) := by decide +kernel
theorem dMo_greatestIn_45 : decode bMo_greatestIn 45 = .ok (.lcmp, 1) := by decide +kernel
theorem dMo_greatestIn_46 : decode bMo_greatestIn 46 = .ok (.ifCond .le 8, 3) := by decide +kernel
theorem dMo_greatestIn_49 : decode bMo_greatestIn 49 = .ok (.iload 5, 2) := by decide +kernel
theorem dMo_greatestIn_51 : decode bMo_greatestIn 51 = .ok (.goto 4, 3) := by decide +kernel
theorem dMo_greatestIn_54 : decode bMo_greatestIn 54 = .ok (.iload_n 2, 1) := by decide +kernel
theorem dMo_greatestIn_55 : decode bMo_greatestIn 55 = .ok (.istore_n 2, 1) := by decide +kernel
theorem dMo_greatestIn_56 : decode bMo_greatestIn 56 = .ok (.lload 6, 2) := by decide +kernel
theorem dMo_greatestIn_58 : decode bMo_greatestIn 58 = .ok (.lload_n 3, 1) := by decide +kernel
theorem dMo_greatestIn_59 : decode bMo_greatestIn 59 = .ok (.lcmp, 1) := by decide +kernel
theorem dMo_greatestIn_60 : decode bMo_greatestIn 60 = .ok (.ifCond .le 8, 3) := by decide +kernel
theorem dMo_greatestIn_63 : decode bMo_greatestIn 63 = .ok (.lload 6, 2) := by decide +kernel
theorem dMo_greatestIn_65 : decode bMo_greatestIn 65 = .ok (.goto 4, 3) := by decide +kernel
theorem dMo_greatestIn_68 : decode bMo_greatestIn 68 = .ok (.lload_n 3, 1) := by decide +kernel
theorem dMo_greatestIn_69 : decode bMo_greatestIn 69 = .ok (.lstore_n 3, 1) := by decide +kernel
theorem dMo_greatestIn_70 : decode bMo_greatestIn 70 = .ok (.iinc 5 1, 3) := by decide +kernel
theorem dMo_greatestIn_73 : decode bMo_greatestIn 73 = .ok (.goto (-66), 3) := by decide +kernel
theorem dMo_greatestIn_76 : decode bMo_greatestIn 76 = .ok (.iload_n 2, 1) := by decide +kernel
theorem dMo_greatestIn_77 : decode bMo_greatestIn 77 = .ok (.ireturn, 1) := by decide +kernel
theorem dMo_enter_0 : decode bMo_enter 0 = .ok (.iconst 0, 1) := by decide +kernel
theorem dMo_enter_1 : decode bMo_enter 1 = .ok (.istore_n 2, 1) := by decide +kernel
theorem dMo_enter_2 : decode bMo_enter 2 = .ok (.iload_n 2, 1) := by decide +kernel
theorem dMo_enter_3 : decode bMo_enter 3 = .ok (.aload_n 0, 1) := by decide +kernel
theorem dMo_enter_4 : decode bMo_enter 4 = .ok (.getfield 42, 3) := by decide +kernel
theorem dMo_enter_7 : decode bMo_enter 7 = .ok (.iload_n 1, 1) := by decide +kernel
theorem dMo_enter_8 : decode bMo_enter 8 = .ok (.iaload, 1) := by decide +kernel
theorem dMo_enter_9 : decode bMo_enter 9 = .ok (.if_icmp .ge 26, 3) := by decide +kernel
theorem dMo_enter_12 : decode bMo_enter 12 = .ok (.aload_n 0, 1) := by decide +kernel
theorem dMo_enter_13 : decode bMo_enter 13 = .ok (.getfield 52, 3) := by decide +kernel
theorem dMo_enter_16 : decode bMo_enter 16 = .ok (.aload_n 0, 1) := by decide +kernel
theorem dMo_enter_17 : decode bMo_enter 17 = .ok (.getfield 103, 3) := by decide +kernel
theorem dMo_enter_20 : decode bMo_enter 20 = .ok (.iload_n 2, 1) := by decide +kernel
theorem dMo_enter_21 : decode bMo_enter 21 = .ok (.iadd, 1) := by decide +kernel
theorem dMo_enter_22 : decode bMo_enter 22 = .ok (.bipush 20, 2) := by decide +kernel
theorem dMo_enter_24 : decode bMo_enter 24 = .ok (.iload_n 1, 1) := by decide +kernel
theorem dMo_enter_25 : decode bMo_enter 25 = .ok (.imul, 1) := by decide +kernel
theorem dMo_enter_26 : decode bMo_enter 26 = .ok (.iload_n 2, 1) := by decide +kernel
theorem dMo_enter_27 : decode bMo_enter 27 = .ok (.iadd, 1) := by decide +kernel
theorem dMo_enter_28 : decode bMo_enter 28 = .ok (.iastore, 1) := by decide +kernel
theorem dMo_enter_29 : decode bMo_enter 29 = .ok (.iinc 2 1, 3) := by decide +kernel
theorem dMo_enter_32 : decode bMo_enter 32 = .ok (.goto (-30), 3) := by decide +kernel
theorem dMo_enter_35 : decode bMo_enter 35 = .ok (.aload_n 0, 1) := by decide +kernel
theorem dMo_enter_36 : decode bMo_enter 36 = .ok (.dup, 1) := by decide +kernel
theorem dMo_enter_37 : decode bMo_enter 37 = .ok (.getfield 103, 3) := by decide +kernel
theorem dMo_enter_40 : decode bMo_enter 40 = .ok (.aload_n 0, 1) := by decide +kernel
theorem dMo_enter_41 : decode bMo_enter 41 = .ok (.getfield 42, 3) := by decide +kernel
theorem dMo_enter_44 : decode bMo_enter 44 = .ok (.iload_n 1, 1) := by decide +kernel
theorem dMo_enter_45 : decode bMo_enter 45 = .ok (.iaload, 1) := by decide +kernel
theorem dMo_enter_46 : decode bMo_enter 46 = .ok (.iadd, 1) := by decide +kernel
theorem dMo_enter_47 : decode bMo_enter 47 = .ok (.putfield 103, 3) := by decide +kernel
theorem dMo_enter_50 : decode bMo_enter 50 = .ok (.aload_n 0, 1) := by decide +kernel
theorem dMo_enter_51 : decode bMo_enter 51 = .ok (.aload_n 0, 1) := by decide +kernel
theorem dMo_enter_52 : decode bMo_enter 52 = .ok (.getfield 29, 3) := by decide +kernel
theorem dMo_enter_55 : decode bMo_enter 55 = .ok (.iload_n 1, 1) := by decide +kernel
theorem dMo_enter_56 : decode bMo_enter 56 = .ok (.iaload, 1) := by decide +kernel
theorem dMo_enter_57 : decode bMo_enter 57 = .ok (.putfield 13, 3) := by decide +kernel
theorem dMo_enter_60 : decode bMo_enter 60 = .ok (.aload_n 0, 1) := by decide +kernel
theorem dMo_enter_61 : decode bMo_enter 61 = .ok (.getfield 23, 3) := by decide +kernel
theorem dMo_enter_64 : decode bMo_enter 64 = .ok (.iload_n 1, 1) := by decide +kernel
theorem dMo_enter_65 : decode bMo_enter 65 = .ok (.iconst 1, 1) := by decide +kernel
theorem dMo_enter_66 : decode bMo_enter 66 = .ok (.iastore, 1) := by decide +kernel
theorem dMo_enter_67 : decode bMo_enter 67 = .ok (.return_, 1) := by decide +kernel
theorem dMo_reverse_0 : decode bMo_reverse 0 = .ok (.iload_n 1, 1) := by decide +kernel
theorem dMo_reverse_1 : decode bMo_reverse 1 = .ok (.ifCond .lt 32, 3) := by decide +kernel
theorem dMo_reverse_4 : decode bMo_reverse 4 = .ok (.iload_n 1, 1) := by decide +kernel
theorem dMo_reverse_5 : decode bMo_reverse 5 = .ok (.aload_n 0, 1) := by decide +kernel
theorem dMo_reverse_6 : decode bMo_reverse 6 = .ok (.getfield 75, 3) := by decide +kernel
theorem dMo_reverse_9 : decode bMo_reverse 9 = .ok (.if_icmp .ge 24, 3) := by decide +kernel
theorem dMo_reverse_12 : decode bMo_reverse 12 = .ok (.aload_n 0, 1) := by decide +kernel
theorem dMo_reverse_13 : decode bMo_reverse 13 = .ok (.getfield 23, 3) := by decide +kernel
theorem dMo_reverse_16 : decode bMo_reverse 16 = .ok (.iload_n 1, 1) := by decide +kernel
theorem dMo_reverse_17 : decode bMo_reverse 17 = .ok (.iaload, 1) := by decide +kernel
theorem dMo_reverse_18 : decode bMo_reverse 18 = .ok (.iconst 1, 1) := by decide +kernel
theorem dMo_reverse_19 : decode bMo_reverse 19 = .ok (.if_icmp .ne 14, 3) := by decide +kernel
theorem dMo_reverse_22 : decode bMo_reverse 22 = .ok (.iload_n 2, 1) := by decide +kernel
theorem dMo_reverse_23 : decode bMo_reverse 23 = .ok (.invokestatic 82, 3) := by decide +kernel
theorem dMo_reverse_26 : decode bMo_reverse 26 = .ok (.ifCond .eq 7, 3) := by decide +kernel
theorem dMo_reverse_29 : decode bMo_reverse 29 = .ok (.iconst 1, 1) := by decide +kernel
theorem dMo_reverse_30 : decode bMo_reverse 30 = .ok (.goto 4, 3) := by decide +kernel
theorem dMo_reverse_33 : decode bMo_reverse 33 = .ok (.iconst 0, 1) := by decide +kernel
theorem dMo_reverse_34 : decode bMo_reverse 34 = .ok (.istore_n 3, 1) := by decide +kernel
theorem dMo_reverse_35 : decode bMo_reverse 35 = .ok (.aload_n 0, 1) := by decide +kernel
theorem dMo_reverse_36 : decode bMo_reverse 36 = .ok (.iload_n 3, 1) := by decide +kernel
theorem dMo_reverse_37 : decode bMo_reverse 37 = .ok (.ifCond .ne 7, 3) := by decide +kernel
theorem dMo_reverse_40 : decode bMo_reverse 40 = .ok (.iconst 1, 1) := by decide +kernel
theorem dMo_reverse_41 : decode bMo_reverse 41 = .ok (.goto 35, 3) := by decide +kernel
theorem dMo_reverse_44 : decode bMo_reverse 44 = .ok (.aload_n 0, 1) := by decide +kernel
theorem dMo_reverse_45 : decode bMo_reverse 45 = .ok (.getfield 35, 3) := by decide +kernel
theorem dMo_reverse_48 : decode bMo_reverse 48 = .ok (.iload_n 1, 1) := by decide +kernel
theorem dMo_reverse_49 : decode bMo_reverse 49 = .ok (.iaload, 1) := by decide +kernel
theorem dMo_reverse_50 : decode bMo_reverse 50 = .ok (.ifCond .ge 21, 3) := by decide +kernel
theorem dMo_reverse_53 : decode bMo_reverse 53 = .ok (.aload_n 0, 1) := by decide +kernel
theorem dMo_reverse_54 : decode bMo_reverse 54 = .ok (.getfield 32, 3) := by decide +kernel
theorem dMo_reverse_57 : decode bMo_reverse 57 = .ok (.iload_n 1, 1) := by decide +kernel
theorem dMo_reverse_58 : decode bMo_reverse 58 = .ok (.iaload, 1) := by decide +kernel
theorem dMo_reverse_59 : decode bMo_reverse 59 = .ok (.ifCond .ge 12, 3) := by decide +kernel
theorem dMo_reverse_62 : decode bMo_reverse 62 = .ok (.aload_n 0, 1) := by decide +kernel
theorem dMo_reverse_63 : decode bMo_reverse 63 = .ok (.getfield 75, 3) := by decide +kernel
theorem dMo_reverse_66 : decode bMo_reverse 66 = .ok (.bipush 100, 2) := by decide +kernel
theorem dMo_reverse_68 : decode bMo_reverse 68 = .ok (.if_icmp .ne 7, 3) := by decide +kernel
theorem dMo_reverse_71 : decode bMo_reverse 71 = .ok (.iconst 2, 1) := by decide +kernel
theorem dMo_reverse_72 : decode bMo_reverse 72 = .ok (.goto 4, 3) := by decide +kernel
theorem dMo_reverse_75 : decode bMo_reverse 75 = .ok (.iconst 0, 1) := by decide +kernel
theorem dMo_reverse_76 : decode bMo_reverse 76 = .ok (.putfield 61, 3) := by decide +kernel
theorem dMo_reverse_79 : decode bMo_reverse 79 = .ok (.aload_n 0, 1) := by decide +kernel
theorem dMo_reverse_80 : decode bMo_reverse 80 = .ok (.getfield 61, 3) := by decide +kernel
theorem dMo_reverse_83 : decode bMo_reverse 83 = .ok (.ifCond .le 5, 3) := by decide +kernel
theorem dMo_reverse_86 : decode bMo_reverse 86 = .ok (.iconst 0, 1) := by decide +kernel
theorem dMo_reverse_87 : decode bMo_reverse 87 = .ok (.ireturn, 1) := by decide +kernel
theorem dMo_reverse_88 : decode bMo_reverse 88 = .ok (.aload_n 0, 1) := by decide +kernel
theorem dMo_reverse_89 : decode bMo_reverse 89 = .ok (.getfield 75, 3) := by decide +kernel
theorem dMo_reverse_92 : decode bMo_reverse 92 = .ok (.istore 4, 2) := by decide +kernel
theorem dMo_reverse_94 : decode bMo_reverse 94 = .ok (.aload_n 0, 1) := by decide +kernel
theorem dMo_reverse_95 : decode bMo_reverse 95 = .ok (.iload 4, 2) := by decide +kernel
theorem dMo_reverse_97 : decode bMo_reverse 97 = .ok (.aload_n 0, 1) := by decide +kernel
theorem dMo_reverse_98 : decode bMo_reverse 98 = .ok (.getfield 26, 3) := by decide +kernel
theorem dMo_reverse_101 : decode bMo_reverse 101 = .ok (.iload_n 1, 1) := by decide +kernel
theorem dMo_reverse_102 : decode bMo_reverse 102 = .ok (.iaload, 1) := by decide +kernel
theorem dMo_reverse_103 : decode bMo_reverse 103 = .ok (.iload_n 2, 1) := by decide +kernel
theorem dMo_reverse_104 : decode bMo_reverse 104 = .ok (.invokevirtual 85, 3) := by decide +kernel
theorem dMo_reverse_107 : decode bMo_reverse 107 = .ok (.aload_n 0, 1) := by decide +kernel
theorem dMo_reverse_108 : decode bMo_reverse 108 = .ok (.getfield 42, 3) := by decide +kernel
theorem dMo_reverse_111 : decode bMo_reverse 111 = .ok (.iload 4, 2) := by decide +kernel
theorem dMo_reverse_113 : decode bMo_reverse 113 = .ok (.aload_n 0, 1) := by decide +kernel
theorem dMo_reverse_114 : decode bMo_reverse 114 = .ok (.getfield 42, 3) := by decide +kernel
theorem dMo_reverse_117 : decode bMo_reverse 117 = .ok (.iload_n 1, 1) := by decide +kernel
theorem dMo_reverse_118 : decode bMo_reverse 118 = .ok (.iaload, 1) := by decide +kernel
theorem dMo_reverse_119 : decode bMo_reverse 119 = .ok (.iastore, 1) := by decide +kernel
theorem dMo_reverse_120 : decode bMo_reverse 120 = .ok (.iconst 0, 1) := by decide +kernel
theorem dMo_reverse_121 : decode bMo_reverse 121 = .ok (.istore 5, 2) := by decide +kernel
theorem dMo_reverse_123 : decode bMo_reverse 123 = .ok (.iload 5, 2) := by decide +kernel
theorem dMo_reverse_125 : decode bMo_reverse 125 = .ok (.aload_n 0, 1) := by decide +kernel
theorem dMo_reverse_126 : decode bMo_reverse 126 = .ok (.getfield 42, 3) := by decide +kernel
theorem dMo_reverse_129 : decode bMo_reverse 129 = .ok (.iload_n 1, 1) := by decide +kernel
theorem dMo_reverse_130 : decode bMo_reverse 130 = .ok (.iaload, 1) := by decide +kernel
theorem dMo_reverse_131 : decode bMo_reverse 131 = .ok (.if_icmp .ge 60, 3) := by decide +kernel
theorem dMo_reverse_134 : decode bMo_reverse 134 = .ok (.aload_n 0, 1) := by decide +kernel
theorem dMo_reverse_135 : decode bMo_reverse 135 = .ok (.getfield 45, 3) := by decide +kernel
theorem dMo_reverse_138 : decode bMo_reverse 138 = .ok (.bipush 20, 2) := by decide +kernel
theorem dMo_reverse_140 : decode bMo_reverse 140 = .ok (.iload 4, 2) := by decide +kernel
theorem dMo_reverse_142 : decode bMo_reverse 142 = .ok (.imul, 1) := by decide +kernel
theorem dMo_reverse_143 : decode bMo_reverse 143 = .ok (.iload 5, 2) := by decide +kernel
theorem dMo_reverse_145 : decode bMo_reverse 145 = .ok (.iadd, 1) := by decide +kernel
theorem dMo_reverse_146 : decode bMo_reverse 146 = .ok (.aload_n 0, 1) := by decide +kernel
theorem dMo_reverse_147 : decode bMo_reverse 147 = .ok (.getfield 45, 3) := by decide +kernel
theorem dMo_reverse_150 : decode bMo_reverse 150 = .ok (.bipush 20, 2) := by decide +kernel
theorem dMo_reverse_152 : decode bMo_reverse 152 = .ok (.iload_n 1, 1) := by decide +kernel
theorem dMo_reverse_153 : decode bMo_reverse 153 = .ok (.imul, 1) := by decide +kernel
theorem dMo_reverse_154 : decode bMo_reverse 154 = .ok (.iload 5, 2) := by decide +kernel
theorem dMo_reverse_156 : decode bMo_reverse 156 = .ok (.iadd, 1) := by decide +kernel
theorem dMo_reverse_157 : decode bMo_reverse 157 = .ok (.iaload, 1) := by decide +kernel
theorem dMo_reverse_158 : decode bMo_reverse 158 = .ok (.iastore, 1) := by decide +kernel
theorem dMo_reverse_159 : decode bMo_reverse 159 = .ok (.aload_n 0, 1) := by decide +kernel
theorem dMo_reverse_160 : decode bMo_reverse 160 = .ok (.getfield 48, 3) := by decide +kernel
theorem dMo_reverse_163 : decode bMo_reverse 163 = .ok (.bipush 20, 2) := by decide +kernel
theorem dMo_reverse_165 : decode bMo_reverse 165 = .ok (.iload 4, 2) := by decide +kernel
theorem dMo_reverse_167 : decode bMo_reverse 167 = .ok (.imul, 1) := by decide +kernel
theorem dMo_reverse_168 : decode bMo_reverse 168 = .ok (.iload 5, 2) := by decide +kernel
theorem dMo_reverse_170 : decode bMo_reverse 170 = .ok (.iadd, 1) := by decide +kernel
theorem dMo_reverse_171 : decode bMo_reverse 171 = .ok (.aload_n 0, 1) := by decide +kernel
theorem dMo_reverse_172 : decode bMo_reverse 172 = .ok (.getfield 48, 3) := by decide +kernel
theorem dMo_reverse_175 : decode bMo_reverse 175 = .ok (.bipush 20, 2) := by decide +kernel
theorem dMo_reverse_177 : decode bMo_reverse 177 = .ok (.iload_n 1, 1) := by decide +kernel
theorem dMo_reverse_178 : decode bMo_reverse 178 = .ok (.imul, 1) := by decide +kernel
theorem dMo_reverse_179 : decode bMo_reverse 179 = .ok (.iload 5, 2) := by decide +kernel
theorem dMo_reverse_181 : decode bMo_reverse 181 = .ok (.iadd, 1) := by decide +kernel
theorem dMo_reverse_182 : decode bMo_reverse 182 = .ok (.laload, 1) := by decide +kernel
theorem dMo_reverse_183 : decode bMo_reverse 183 = .ok (.lneg, 1) := by decide +kernel
theorem dMo_reverse_184 : decode bMo_reverse 184 = .ok (.lastore, 1) := by decide +kernel
theorem dMo_reverse_185 : decode bMo_reverse 185 = .ok (.iinc 5 1, 3) := by decide +kernel
theorem dMo_reverse_188 : decode bMo_reverse 188 = .ok (.goto (-65), 3) := by decide +kernel
theorem dMo_reverse_191 : decode bMo_reverse 191 = .ok (.aload_n 0, 1) := by decide +kernel
theorem dMo_reverse_192 : decode bMo_reverse 192 = .ok (.aload_n 0, 1) := by decide +kernel
theorem dMo_reverse_193 : decode bMo_reverse 193 = .ok (.iload 4, 2) := by decide +kernel
theorem dMo_reverse_195 : decode bMo_reverse 195 = .ok (.invokevirtual 106, 3) := by decide +kernel
theorem dMo_reverse_198 : decode bMo_reverse 198 = .ok (.ifCond .le 7, 3) := by decide +kernel
theorem dMo_reverse_201 : decode bMo_reverse 201 = .ok (.iconst 2, 1) := by decide +kernel
theorem dMo_reverse_202 : decode bMo_reverse 202 = .ok (.goto 4, 3) := by decide +kernel
theorem dMo_reverse_205 : decode bMo_reverse 205 = .ok (.iconst 0, 1) := by decide +kernel
theorem dMo_reverse_206 : decode bMo_reverse 206 = .ok (.putfield 61, 3) := by decide +kernel
theorem dMo_reverse_209 : decode bMo_reverse 209 = .ok (.aload_n 0, 1) := by decide +kernel
theorem dMo_reverse_210 : decode bMo_reverse 210 = .ok (.getfield 61, 3) := by decide +kernel
theorem dMo_reverse_213 : decode bMo_reverse 213 = .ok (.ifCond .le 5, 3) := by decide +kernel
theorem dMo_reverse_216 : decode bMo_reverse 216 = .ok (.iconst 0, 1) := by decide +kernel
theorem dMo_reverse_217 : decode bMo_reverse 217 = .ok (.ireturn, 1) := by decide +kernel
theorem dMo_reverse_218 : decode bMo_reverse 218 = .ok (.aload_n 0, 1) := by decide +kernel
theorem dMo_reverse_219 : decode bMo_reverse 219 = .ok (.iload 4, 2) := by decide +kernel
theorem dMo_reverse_221 : decode bMo_reverse 221 = .ok (.invokevirtual 119, 3) := by decide +kernel
theorem dMo_reverse_224 : decode bMo_reverse 224 = .ok (.aload_n 0, 1) := by decide +kernel
theorem dMo_reverse_225 : decode bMo_reverse 225 = .ok (.dup, 1) := by decide +kernel
theorem dMo_reverse_226 : decode bMo_reverse 226 = .ok (.getfield 75, 3) := by decide +kernel
theorem dMo_reverse_229 : decode bMo_reverse 229 = .ok (.iconst 1, 1) := by decide +kernel
theorem dMo_reverse_230 : decode bMo_reverse 230 = .ok (.iadd, 1) := by decide +kernel
theorem dMo_reverse_231 : decode bMo_reverse 231 = .ok (.putfield 75, 3) := by decide +kernel
theorem dMo_reverse_234 : decode bMo_reverse 234 = .ok (.aload_n 0, 1) := by decide +kernel
theorem dMo_reverse_235 : decode bMo_reverse 235 = .ok (.getfield 32, 3) := by decide +kernel
theorem dMo_reverse_238 : decode bMo_reverse 238 = .ok (.iload 4, 2) := by decide +kernel
theorem dMo_reverse_240 : decode bMo_reverse 240 = .ok (.iload_n 1, 1) := by decide +kernel
theorem dMo_reverse_241 : decode bMo_reverse 241 = .ok (.iastore, 1) := by decide +kernel
theorem dMo_reverse_242 : decode bMo_reverse 242 = .ok (.aload_n 0, 1) := by decide +kernel
theorem dMo_reverse_243 : decode bMo_reverse 243 = .ok (.getfield 35, 3) := by decide +kernel
theorem dMo_reverse_246 : decode bMo_reverse 246 = .ok (.iload_n 1, 1) := by decide +kernel
theorem dMo_reverse_247 : decode bMo_reverse 247 = .ok (.iload 4, 2) := by decide +kernel
theorem dMo_reverse_249 : decode bMo_reverse 249 = .ok (.iastore, 1) := by decide +kernel
theorem dMo_reverse_250 : decode bMo_reverse 250 = .ok (.iload 4, 2) := by decide +kernel
theorem dMo_reverse_252 : decode bMo_reverse 252 = .ok (.ireturn, 1) := by decide +kernel
theorem dMo_close_0 : decode bMo_close 0 = .ok (.aload_n 0, 1) := by decide +kernel
theorem dMo_close_1 : decode bMo_close 1 = .ok (.iconst 0, 1) := by decide +kernel
theorem dMo_close_2 : decode bMo_close 2 = .ok (.putfield 61, 3) := by decide +kernel
theorem dMo_close_5 : decode bMo_close 5 = .ok (.iload_n 1, 1) := by decide +kernel
theorem dMo_close_6 : decode bMo_close 6 = .ok (.invokestatic 82, 3) := by decide +kernel
theorem dMo_close_9 : decode bMo_close 9 = .ok (.ifCond .eq 11, 3) := by decide +kernel
theorem dMo_close_12 : decode bMo_close 12 = .ok (.iload_n 1, 1) := by decide +kernel
theorem dMo_close_13 : decode bMo_close 13 = .ok (.aload_n 0, 1) := by decide +kernel
theorem dMo_close_14 : decode bMo_close 14 = .ok (.getfield 9, 3) := by decide +kernel
theorem dMo_close_17 : decode bMo_close 17 = .ok (.if_icmp .gt 5, 3) := by decide +kernel
theorem dMo_close_20 : decode bMo_close 20 = .ok (.iconst 0, 1) := by decide +kernel
theorem dMo_close_21 : decode bMo_close 21 = .ok (.ireturn, 1) := by decide +kernel
theorem dMo_close_22 : decode bMo_close 22 = .ok (.aload_n 0, 1) := by decide +kernel
theorem dMo_close_23 : decode bMo_close 23 = .ok (.iload_n 1, 1) := by decide +kernel
theorem dMo_close_24 : decode bMo_close 24 = .ok (.putfield 9, 3) := by decide +kernel
theorem dMo_close_27 : decode bMo_close 27 = .ok (.iconst 1, 1) := by decide +kernel
theorem dMo_close_28 : decode bMo_close 28 = .ok (.ireturn, 1) := by decide +kernel
theorem dMo_balance_0 : decode bMo_balance 0 = .ok (.aload_n 0, 1) := by decide +kernel
theorem dMo_balance_1 : decode bMo_balance 1 = .ok (.aload_n 0, 1) := by decide +kernel
theorem dMo_balance_2 : decode bMo_balance 2 = .ok (.iload_n 1, 1) := by decide +kernel
theorem dMo_balance_3 : decode bMo_balance 3 = .ok (.invokevirtual 92, 3) := by decide +kernel
theorem dMo_balance_6 : decode bMo_balance 6 = .ok (.ifCond .eq 21, 3) := by decide +kernel
theorem dMo_balance_9 : decode bMo_balance 9 = .ok (.iload_n 2, 1) := by decide +kernel
theorem dMo_balance_10 : decode bMo_balance 10 = .ok (.invokestatic 82, 3) := by decide +kernel
theorem dMo_balance_13 : decode bMo_balance 13 = .ok (.ifCond .eq 14, 3) := by decide +kernel
theorem dMo_balance_16 : decode bMo_balance 16 = .ok (.iload_n 3, 1) := by decide +kernel
theorem dMo_balance_17 : decode bMo_balance 17 = .ok (.invokestatic 82, 3) := by decide +kernel
theorem dMo_balance_20 : decode bMo_balance 20 = .ok (.ifCond .eq 7, 3) := by decide +kernel
theorem dMo_balance_23 : decode bMo_balance 23 = .ok (.iconst 0, 1) := by decide +kernel
theorem dMo_balance_24 : decode bMo_balance 24 = .ok (.goto 4, 3) := by decide +kernel
theorem dMo_balance_27 : decode bMo_balance 27 = .ok (.iconst 1, 1) := by decide +kernel
theorem dMo_balance_28 : decode bMo_balance 28 = .ok (.putfield 61, 3) := by decide +kernel
theorem dMo_balance_31 : decode bMo_balance 31 = .ok (.aload_n 0, 1) := by decide +kernel
theorem dMo_balance_32 : decode bMo_balance 32 = .ok (.getfield 61, 3) := by decide +kernel
theorem dMo_balance_35 : decode bMo_balance 35 = .ok (.ifCond .le 7, 3) := by decide +kernel
theorem dMo_balance_38 : decode bMo_balance 38 = .ok (.lconst 0, 1) := by decide +kernel
theorem dMo_balance_39 : decode bMo_balance 39 = .ok (.goto 11, 3) := by decide +kernel
theorem dMo_balance_42 : decode bMo_balance 42 = .ok (.aload_n 0, 1) := by decide +kernel
theorem dMo_balance_43 : decode bMo_balance 43 = .ok (.iload_n 1, 1) := by decide +kernel
theorem dMo_balance_44 : decode bMo_balance 44 = .ok (.iconst 0, 1) := by decide +kernel
theorem dMo_balance_45 : decode bMo_balance 45 = .ok (.iload_n 2, 1) := by decide +kernel
theorem dMo_balance_46 : decode bMo_balance 46 = .ok (.iload_n 3, 1) := by decide +kernel
theorem dMo_balance_47 : decode bMo_balance 47 = .ok (.invokevirtual 123, 3) := by decide +kernel
theorem dMo_balance_50 : decode bMo_balance 50 = .ok (.lreturn, 1) := by decide +kernel
theorem dMo_sum_0 : decode bMo_sum 0 = .ok (.lconst 0, 1) := by decide +kernel
theorem dMo_sum_1 : decode bMo_sum 1 = .ok (.lstore 5, 2) := by decide +kernel
theorem dMo_sum_3 : decode bMo_sum 3 = .ok (.iconst 0, 1) := by decide +kernel
theorem dMo_sum_4 : decode bMo_sum 4 = .ok (.istore 7, 2) := by decide +kernel
theorem dMo_sum_6 : decode bMo_sum 6 = .ok (.iload 7, 2) := by decide +kernel
theorem dMo_sum_8 : decode bMo_sum 8 = .ok (.aload_n 0, 1) := by decide +kernel
theorem dMo_sum_9 : decode bMo_sum 9 = .ok (.getfield 103, 3) := by decide +kernel
theorem dMo_sum_12 : decode bMo_sum 12 = .ok (.if_icmp .ge 100, 3) := by decide +kernel
theorem dMo_sum_15 : decode bMo_sum 15 = .ok (.aload_n 0, 1) := by decide +kernel
theorem dMo_sum_16 : decode bMo_sum 16 = .ok (.getfield 52, 3) := by decide +kernel
theorem dMo_sum_19 : decode bMo_sum 19 = .ok (.iload 7, 2) := by decide +kernel
theorem dMo_sum_21 : decode bMo_sum 21 = .ok (.iaload, 1) := by decide +kernel
theorem dMo_sum_22 : decode bMo_sum 22 = .ok (.bipush 20, 2) := by decide +kernel
theorem dMo_sum_24 : decode bMo_sum 24 = .ok (.idiv, 1) := by decide +kernel
theorem dMo_sum_25 : decode bMo_sum 25 = .ok (.istore 8, 2) := by decide +kernel
theorem dMo_sum_27 : decode bMo_sum 27 = .ok (.aload_n 0, 1) := by decide +kernel
theorem dMo_sum_28 : decode bMo_sum 28 = .ok (.getfield 45, 3) := by decide +kernel
theorem dMo_sum_31 : decode bMo_sum 31 = .ok (.aload_n 0, 1) := by decide +kernel
theorem dMo_sum_32 : decode bMo_sum 32 = .ok (.getfield 52, 3) := by decide +kernel
theorem dMo_sum_35 : decode bMo_sum 35 = .ok (.iload 7, 2) := by decide +kernel
theorem dMo_sum_37 : decode bMo_sum 37 = .ok (.iaload, 1) := by decide +kernel
theorem dMo_sum_38 : decode bMo_sum 38 = .ok (.iaload, 1) := by decide +kernel
theorem dMo_sum_39 : decode bMo_sum 39 = .ok (.iload_n 1, 1) := by decide +kernel
theorem dMo_sum_40 : decode bMo_sum 40 = .ok (.if_icmp .ne 37, 3) := by decide +kernel
theorem dMo_sum_43 : decode bMo_sum 43 = .ok (.aload_n 0, 1) := by decide +kernel
theorem dMo_sum_44 : decode bMo_sum 44 = .ok (.getfield 26, 3) := by decide +kernel
theorem dMo_sum_47 : decode bMo_sum 47 = .ok (.iload 8, 2) := by decide +kernel
theorem dMo_sum_49 : decode bMo_sum 49 = .ok (.iaload, 1) := by decide +kernel
theorem dMo_sum_50 : decode bMo_sum 50 = .ok (.i2l, 1) := by decide +kernel
theorem dMo_sum_51 : decode bMo_sum 51 = .ok (.iload_n 2, 1) := by decide +kernel
theorem dMo_sum_52 : decode bMo_sum 52 = .ok (.i2l, 1) := by decide +kernel
theorem dMo_sum_53 : decode bMo_sum 53 = .ok (.iload_n 3, 1) := by decide +kernel
theorem dMo_sum_54 : decode bMo_sum 54 = .ok (.i2l, 1) := by decide +kernel
theorem dMo_sum_55 : decode bMo_sum 55 = .ok (.invokestatic 66, 3) := by decide +kernel
theorem dMo_sum_58 : decode bMo_sum 58 = .ok (.ifCond .eq 19, 3) := by decide +kernel
theorem dMo_sum_61 : decode bMo_sum 61 = .ok (.aload_n 0, 1) := by decide +kernel
theorem dMo_sum_62 : decode bMo_sum 62 = .ok (.getfield 29, 3) := by decide +kernel
theorem dMo_sum_65 : decode bMo_sum 65 = .ok (.iload 8, 2) := by decide +kernel
theorem dMo_sum_67 : decode bMo_sum 67 = .ok (.iaload, 1) := by decide +kernel
theorem dMo_sum_68 : decode bMo_sum 68 = .ok (.iload 4, 2) := by decide +kernel
theorem dMo_sum_70 : decode bMo_sum 70 = .ok (.if_icmp .gt 7, 3) := by decide +kernel
theorem dMo_sum_73 : decode bMo_sum 73 = .ok (.iconst 1, 1) := by decide +kernel
theorem dMo_sum_74 : decode bMo_sum 74 = .ok (.goto 4, 3) := by decide +kernel
theorem dMo_sum_77 : decode bMo_sum 77 = .ok (.iconst 0, 1) := by decide +kernel
theorem dMo_sum_78 : decode bMo_sum 78 = .ok (.istore 9, 2) := by decide +kernel
theorem dMo_sum_80 : decode bMo_sum 80 = .ok (.lload 5, 2) := by decide +kernel
theorem dMo_sum_82 : decode bMo_sum 82 = .ok (.iload 9, 2) := by decide +kernel
theorem dMo_sum_84 : decode bMo_sum 84 = .ok (.ifCond .eq 18, 3) := by decide +kernel
theorem dMo_sum_87 : decode bMo_sum 87 = .ok (.aload_n 0, 1) := by decide +kernel
theorem dMo_sum_88 : decode bMo_sum 88 = .ok (.getfield 48, 3) := by decide +kernel
theorem dMo_sum_91 : decode bMo_sum 91 = .ok (.aload_n 0, 1) := by decide +kernel
theorem dMo_sum_92 : decode bMo_sum 92 = .ok (.getfield 52, 3) := by decide +kernel
theorem dMo_sum_95 : decode bMo_sum 95 = .ok (.iload 7, 2) := by decide +kernel
theorem dMo_sum_97 : decode bMo_sum 97 = .ok (.iaload, 1) := by decide +kernel
theorem dMo_sum_98 : decode bMo_sum 98 = .ok (.laload, 1) := by decide +kernel
theorem dMo_sum_99 : decode bMo_sum 99 = .ok (.goto 4, 3) := by decide +kernel
theorem dMo_sum_102 : decode bMo_sum 102 = .ok (.lconst 0, 1) := by decide +kernel
theorem dMo_sum_103 : decode bMo_sum 103 = .ok (.ladd, 1) := by decide +kernel
theorem dMo_sum_104 : decode bMo_sum 104 = .ok (.lstore 5, 2) := by decide +kernel
theorem dMo_sum_106 : decode bMo_sum 106 = .ok (.iinc 7 1, 3) := by decide +kernel
theorem dMo_sum_109 : decode bMo_sum 109 = .ok (.goto (-103), 3) := by decide +kernel
theorem dMo_sum_112 : decode bMo_sum 112 = .ok (.lload 5, 2) := by decide +kernel
theorem dMo_sum_114 : decode bMo_sum 114 = .ok (.lreturn, 1) := by decide +kernel
theorem dMo_statement_0 : decode bMo_statement 0 = .ok (.aload_n 0, 1) := by decide +kernel
theorem dMo_statement_1 : decode bMo_statement 1 = .ok (.aload_n 0, 1) := by decide +kernel
theorem dMo_statement_2 : decode bMo_statement 2 = .ok (.iload_n 1, 1) := by decide +kernel
theorem dMo_statement_3 : decode bMo_statement 3 = .ok (.invokevirtual 92, 3) := by decide +kernel
theorem dMo_statement_6 : decode bMo_statement 6 = .ok (.ifCond .eq 26, 3) := by decide +kernel
theorem dMo_statement_9 : decode bMo_statement 9 = .ok (.iload_n 2, 1) := by decide +kernel
theorem dMo_statement_10 : decode bMo_statement 10 = .ok (.i2l, 1) := by decide +kernel
theorem dMo_statement_11 : decode bMo_statement 11 = .ok (.lconst 0, 1) := by decide +kernel
theorem dMo_statement_12 : decode bMo_statement 12 = .ok (.ldc2_w 127, 3) := by decide +kernel
theorem dMo_statement_15 : decode bMo_statement 15 = .ok (.invokestatic 66, 3) := by decide +kernel
theorem dMo_statement_18 : decode bMo_statement 18 = .ok (.ifCond .eq 14, 3) := by decide +kernel
theorem dMo_statement_21 : decode bMo_statement 21 = .ok (.iload_n 3, 1) := by decide +kernel
theorem dMo_statement_22 : decode bMo_statement 22 = .ok (.invokestatic 82, 3) := by decide +kernel
theorem dMo_statement_25 : decode bMo_statement 25 = .ok (.ifCond .eq 7, 3) := by decide +kernel
theorem dMo_statement_28 : decode bMo_statement 28 = .ok (.iconst 0, 1) := by decide +kernel
theorem dMo_statement_29 : decode bMo_statement 29 = .ok (.goto 4, 3) := by decide +kernel
theorem dMo_statement_32 : decode bMo_statement 32 = .ok (.iconst 1, 1) := by decide +kernel
theorem dMo_statement_33 : decode bMo_statement 33 = .ok (.putfield 61, 3) := by decide +kernel
theorem dMo_statement_36 : decode bMo_statement 36 = .ok (.aload_n 0, 1) := by decide +kernel
theorem dMo_statement_37 : decode bMo_statement 37 = .ok (.getfield 61, 3) := by decide +kernel
theorem dMo_statement_40 : decode bMo_statement 40 = .ok (.ifCond .le 7, 3) := by decide +kernel
theorem dMo_statement_43 : decode bMo_statement 43 = .ok (.lconst 0, 1) := by decide +kernel
theorem dMo_statement_44 : decode bMo_statement 44 = .ok (.goto 20, 3) := by decide +kernel
theorem dMo_statement_47 : decode bMo_statement 47 = .ok (.aload_n 0, 1) := by decide +kernel
theorem dMo_statement_48 : decode bMo_statement 48 = .ok (.iload_n 1, 1) := by decide +kernel
theorem dMo_statement_49 : decode bMo_statement 49 = .ok (.bipush 30, 2) := by decide +kernel
theorem dMo_statement_51 : decode bMo_statement 51 = .ok (.iload_n 2, 1) := by decide +kernel
theorem dMo_statement_52 : decode bMo_statement 52 = .ok (.imul, 1) := by decide +kernel
theorem dMo_statement_53 : decode bMo_statement 53 = .ok (.bipush 30, 2) := by decide +kernel
theorem dMo_statement_55 : decode bMo_statement 55 = .ok (.iload_n 2, 1) := by decide +kernel
theorem dMo_statement_56 : decode bMo_statement 56 = .ok (.imul, 1) := by decide +kernel
theorem dMo_statement_57 : decode bMo_statement 57 = .ok (.bipush 29, 2) := by decide +kernel
theorem dMo_statement_59 : decode bMo_statement 59 = .ok (.iadd, 1) := by decide +kernel
theorem dMo_statement_60 : decode bMo_statement 60 = .ok (.iload_n 3, 1) := by decide +kernel
theorem dMo_statement_61 : decode bMo_statement 61 = .ok (.invokevirtual 123, 3) := by decide +kernel
theorem dMo_statement_64 : decode bMo_statement 64 = .ok (.lreturn, 1) := by decide +kernel
theorem dMo_part_0 : decode bMo_part 0 = .ok (.aload_n 0, 1) := by decide +kernel
theorem dMo_part_1 : decode bMo_part 1 = .ok (.iconst 0, 1) := by decide +kernel
theorem dMo_part_2 : decode bMo_part 2 = .ok (.putfield 61, 3) := by decide +kernel
theorem dMo_part_5 : decode bMo_part 5 = .ok (.iload_n 1, 1) := by decide +kernel
theorem dMo_part_6 : decode bMo_part 6 = .ok (.invokestatic 78, 3) := by decide +kernel
theorem dMo_part_9 : decode bMo_part 9 = .ok (.ifCond .eq 27, 3) := by decide +kernel
theorem dMo_part_12 : decode bMo_part 12 = .ok (.iload_n 2, 1) := by decide +kernel
theorem dMo_part_13 : decode bMo_part 13 = .ok (.i2l, 1) := by decide +kernel
theorem dMo_part_14 : decode bMo_part 14 = .ok (.lconst 0, 1) := by decide +kernel
theorem dMo_part_15 : decode bMo_part 15 = .ok (.ldc2_w 129, 3) := by decide +kernel
theorem dMo_part_18 : decode bMo_part 18 = .ok (.invokestatic 66, 3) := by decide +kernel
theorem dMo_part_21 : decode bMo_part 21 = .ok (.ifCond .eq 15, 3) := by decide +kernel
theorem dMo_part_24 : decode bMo_part 24 = .ok (.iload_n 3, 1) := by decide +kernel
theorem dMo_part_25 : decode bMo_part 25 = .ok (.i2l, 1) := by decide +kernel
theorem dMo_part_26 : decode bMo_part 26 = .ok (.lconst 0, 1) := by decide +kernel
theorem dMo_part_27 : decode bMo_part 27 = .ok (.ldc2_w 131, 3) := by decide +kernel
theorem dMo_part_30 : decode bMo_part 30 = .ok (.invokestatic 66, 3) := by decide +kernel
theorem dMo_part_33 : decode bMo_part 33 = .ok (.ifCond .ne 5, 3) := by decide +kernel
theorem dMo_part_36 : decode bMo_part 36 = .ok (.iconst 0, 1) := by decide +kernel
theorem dMo_part_37 : decode bMo_part 37 = .ok (.ireturn, 1) := by decide +kernel
theorem dMo_part_38 : decode bMo_part 38 = .ok (.aload_n 0, 1) := by decide +kernel
theorem dMo_part_39 : decode bMo_part 39 = .ok (.getfield 55, 3) := by decide +kernel
theorem dMo_part_42 : decode bMo_part 42 = .ok (.iconst 4, 1) := by decide +kernel
theorem dMo_part_43 : decode bMo_part 43 = .ok (.iload_n 1, 1) := by decide +kernel
theorem dMo_part_44 : decode bMo_part 44 = .ok (.imul, 1) := by decide +kernel
theorem dMo_part_45 : decode bMo_part 45 = .ok (.iload_n 2, 1) := by decide +kernel
theorem dMo_part_46 : decode bMo_part 46 = .ok (.iadd, 1) := by decide +kernel
theorem dMo_part_47 : decode bMo_part 47 = .ok (.iload_n 3, 1) := by decide +kernel
theorem dMo_part_48 : decode bMo_part 48 = .ok (.iastore, 1) := by decide +kernel
theorem dMo_part_49 : decode bMo_part 49 = .ok (.iconst 1, 1) := by decide +kernel
theorem dMo_part_50 : decode bMo_part 50 = .ok (.ireturn, 1) := by decide +kernel
theorem dMo_cost_0 : decode bMo_cost 0 = .ok (.aload_n 0, 1) := by decide +kernel
theorem dMo_cost_1 : decode bMo_cost 1 = .ok (.iconst 0, 1) := by decide +kernel
theorem dMo_cost_2 : decode bMo_cost 2 = .ok (.putfield 61, 3) := by decide +kernel
theorem dMo_cost_5 : decode bMo_cost 5 = .ok (.iload_n 1, 1) := by decide +kernel
theorem dMo_cost_6 : decode bMo_cost 6 = .ok (.invokestatic 78, 3) := by decide +kernel
theorem dMo_cost_9 : decode bMo_cost 9 = .ok (.ifCond .eq 15, 3) := by decide +kernel
theorem dMo_cost_12 : decode bMo_cost 12 = .ok (.iload_n 2, 1) := by decide +kernel
theorem dMo_cost_13 : decode bMo_cost 13 = .ok (.i2l, 1) := by decide +kernel
theorem dMo_cost_14 : decode bMo_cost 14 = .ok (.lconst 0, 1) := by decide +kernel
theorem dMo_cost_15 : decode bMo_cost 15 = .ok (.ldc2_w 131, 3) := by decide +kernel
theorem dMo_cost_18 : decode bMo_cost 18 = .ok (.invokestatic 66, 3) := by decide +kernel
theorem dMo_cost_21 : decode bMo_cost 21 = .ok (.ifCond .ne 5, 3) := by decide +kernel
theorem dMo_cost_24 : decode bMo_cost 24 = .ok (.iconst 0, 1) := by decide +kernel
theorem dMo_cost_25 : decode bMo_cost 25 = .ok (.ireturn, 1) := by decide +kernel
theorem dMo_cost_26 : decode bMo_cost 26 = .ok (.aload_n 0, 1) := by decide +kernel
theorem dMo_cost_27 : decode bMo_cost 27 = .ok (.getfield 58, 3) := by decide +kernel
theorem dMo_cost_30 : decode bMo_cost 30 = .ok (.iload_n 1, 1) := by decide +kernel
theorem dMo_cost_31 : decode bMo_cost 31 = .ok (.iload_n 2, 1) := by decide +kernel
theorem dMo_cost_32 : decode bMo_cost 32 = .ok (.iastore, 1) := by decide +kernel
theorem dMo_cost_33 : decode bMo_cost 33 = .ok (.iconst 1, 1) := by decide +kernel
theorem dMo_cost_34 : decode bMo_cost 34 = .ok (.ireturn, 1) := by decide +kernel
theorem dMo_passed_0 : decode bMo_passed 0 = .ok (.aload_n 0, 1) := by decide +kernel
theorem dMo_passed_1 : decode bMo_passed 1 = .ok (.iload_n 1, 1) := by decide +kernel
theorem dMo_passed_2 : decode bMo_passed 2 = .ok (.invokestatic 78, 3) := by decide +kernel
theorem dMo_passed_5 : decode bMo_passed 5 = .ok (.ifCond .eq 26, 3) := by decide +kernel
theorem dMo_passed_8 : decode bMo_passed 8 = .ok (.iload_n 2, 1) := by decide +kernel
theorem dMo_passed_9 : decode bMo_passed 9 = .ok (.i2l, 1) := by decide +kernel
theorem dMo_passed_10 : decode bMo_passed 10 = .ok (.lconst 0, 1) := by decide +kernel
theorem dMo_passed_11 : decode bMo_passed 11 = .ok (.ldc2_w 137, 3) := by decide +kernel
theorem dMo_passed_14 : decode bMo_passed 14 = .ok (.invokestatic 66, 3) := by decide +kernel
theorem dMo_passed_17 : decode bMo_passed 17 = .ok (.ifCond .eq 14, 3) := by decide +kernel
theorem dMo_passed_20 : decode bMo_passed 20 = .ok (.iload_n 3, 1) := by decide +kernel
theorem dMo_passed_21 : decode bMo_passed 21 = .ok (.invokestatic 82, 3) := by decide +kernel
theorem dMo_passed_24 : decode bMo_passed 24 = .ok (.ifCond .eq 7, 3) := by decide +kernel
theorem dMo_passed_27 : decode bMo_passed 27 = .ok (.iconst 0, 1) := by decide +kernel
theorem dMo_passed_28 : decode bMo_passed 28 = .ok (.goto 4, 3) := by decide +kernel
theorem dMo_passed_31 : decode bMo_passed 31 = .ok (.iconst 1, 1) := by decide +kernel
theorem dMo_passed_32 : decode bMo_passed 32 = .ok (.putfield 61, 3) := by decide +kernel
theorem dMo_passed_35 : decode bMo_passed 35 = .ok (.aload_n 0, 1) := by decide +kernel
theorem dMo_passed_36 : decode bMo_passed 36 = .ok (.getfield 61, 3) := by decide +kernel
theorem dMo_passed_39 : decode bMo_passed 39 = .ok (.ifCond .le 5, 3) := by decide +kernel
theorem dMo_passed_42 : decode bMo_passed 42 = .ok (.lconst 0, 1) := by decide +kernel
theorem dMo_passed_43 : decode bMo_passed 43 = .ok (.lreturn, 1) := by decide +kernel
theorem dMo_passed_44 : decode bMo_passed 44 = .ok (.aload_n 0, 1) := by decide +kernel
theorem dMo_passed_45 : decode bMo_passed 45 = .ok (.iload_n 1, 1) := by decide +kernel
theorem dMo_passed_46 : decode bMo_passed 46 = .ok (.iload_n 3, 1) := by decide +kernel
theorem dMo_passed_47 : decode bMo_passed 47 = .ok (.invokevirtual 139, 3) := by decide +kernel
theorem dMo_passed_50 : decode bMo_passed 50 = .ok (.lstore 4, 2) := by decide +kernel
theorem dMo_passed_52 : decode bMo_passed 52 = .ok (.lload 4, 2) := by decide +kernel
theorem dMo_passed_54 : decode bMo_passed 54 = .ok (.aload_n 0, 1) := by decide +kernel
theorem dMo_passed_55 : decode bMo_passed 55 = .ok (.getfield 58, 3) := by decide +kernel
theorem dMo_passed_58 : decode bMo_passed 58 = .ok (.iload_n 1, 1) := by decide +kernel
theorem dMo_passed_59 : decode bMo_passed 59 = .ok (.iaload, 1) := by decide +kernel
theorem dMo_passed_60 : decode bMo_passed 60 = .ok (.i2l, 1) := by decide +kernel
theorem dMo_passed_61 : decode bMo_passed 61 = .ok (.lmul, 1) := by decide +kernel
theorem dMo_passed_62 : decode bMo_passed 62 = .ok (.ldc2_w 131, 3) := by decide +kernel
theorem dMo_passed_65 : decode bMo_passed 65 = .ok (.ldiv, 1) := by decide +kernel
theorem dMo_passed_66 : decode bMo_passed 66 = .ok (.lstore 6, 2) := by decide +kernel
theorem dMo_passed_68 : decode bMo_passed 68 = .ok (.lconst 0, 1) := by decide +kernel
theorem dMo_passed_69 : decode bMo_passed 69 = .ok (.lstore 8, 2) := by decide +kernel
theorem dMo_passed_71 : decode bMo_passed 71 = .ok (.iconst 0, 1) := by decide +kernel
theorem dMo_passed_72 : decode bMo_passed 72 = .ok (.istore 10, 2) := by decide +kernel
theorem dMo_passed_74 : decode bMo_passed 74 = .ok (.iload 10, 2) := by decide +kernel
theorem dMo_passed_76 : decode bMo_passed 76 = .ok (.iconst 4, 1) := by decide +kernel
theorem dMo_passed_77 : decode bMo_passed 77 = .ok (.if_icmp .ge 26, 3) := by decide +kernel
theorem dMo_passed_80 : decode bMo_passed 80 = .ok (.lload 8, 2) := by decide +kernel
theorem dMo_passed_82 : decode bMo_passed 82 = .ok (.aload_n 0, 1) := by decide +kernel
theorem dMo_passed_83 : decode bMo_passed 83 = .ok (.iload_n 1, 1) := by decide +kernel
theorem dMo_passed_84 : decode bMo_passed 84 = .ok (.iload 10, 2) := by decide +kernel
theorem dMo_passed_86 : decode bMo_passed 86 = .ok (.lload 4, 2) := by decide +kernel
theorem dMo_passed_88 : decode bMo_passed 88 = .ok (.lload 6, 2) := by decide +kernel
theorem dMo_passed_90 : decode bMo_passed 90 = .ok (.lsub, 1) := by decide +kernel
theorem dMo_passed_91 : decode bMo_passed 91 = .ok (.invokevirtual 142, 3) := by decide +kernel
theorem dMo_passed_94 : decode bMo_passed 94 = .ok (.ladd, 1) := by decide +kernel
theorem dMo_passed_95 : decode bMo_passed 95 = .ok (.lstore 8, 2) := by decide +kernel
theorem dMo_passed_97 : decode bMo_passed 97 = .ok (.iinc 10 1, 3) := by decide +kernel
theorem dMo_passed_100 : decode bMo_passed 100 = .ok (.goto (-26), 3) := by decide +kernel
theorem dMo_passed_103 : decode bMo_passed 103 = .ok (.iload_n 2, 1) := by decide +kernel
theorem dMo_passed_104 : decode bMo_passed 104 = .ok (.iconst 4, 1) := by decide +kernel
theorem dMo_passed_105 : decode bMo_passed 105 = .ok (.if_icmp .ge 17, 3) := by decide +kernel
theorem dMo_passed_108 : decode bMo_passed 108 = .ok (.aload_n 0, 1) := by decide +kernel
theorem dMo_passed_109 : decode bMo_passed 109 = .ok (.iload_n 1, 1) := by decide +kernel
theorem dMo_passed_110 : decode bMo_passed 110 = .ok (.iload_n 2, 1) := by decide +kernel
theorem dMo_passed_111 : decode bMo_passed 111 = .ok (.lload 4, 2) := by decide +kernel
theorem dMo_passed_113 : decode bMo_passed 113 = .ok (.lload 6, 2) := by decide +kernel
theorem dMo_passed_115 : decode bMo_passed 115 = .ok (.lsub, 1) := by decide +kernel
theorem dMo_passed_116 : decode bMo_passed 116 = .ok (.invokevirtual 142, 3) := by decide +kernel
theorem dMo_passed_119 : decode bMo_passed 119 = .ok (.goto 28, 3) := by decide +kernel
theorem dMo_passed_122 : decode bMo_passed 122 = .ok (.iload_n 2, 1) := by decide +kernel
theorem dMo_passed_123 : decode bMo_passed 123 = .ok (.iconst 4, 1) := by decide +kernel
theorem dMo_passed_124 : decode bMo_passed 124 = .ok (.if_icmp .ne 8, 3) := by decide +kernel
theorem dMo_passed_127 : decode bMo_passed 127 = .ok (.lload 6, 2) := by decide +kernel
theorem dMo_passed_129 : decode bMo_passed 129 = .ok (.goto 18, 3) := by decide +kernel
theorem dMo_passed_132 : decode bMo_passed 132 = .ok (.iload_n 2, 1) := by decide +kernel
theorem dMo_passed_133 : decode bMo_passed 133 = .ok (.iconst 5, 1) := by decide +kernel
theorem dMo_passed_134 : decode bMo_passed 134 = .ok (.if_icmp .ne 11, 3) := by decide +kernel
theorem dMo_passed_137 : decode bMo_passed 137 = .ok (.lload 4, 2) := by decide +kernel
theorem dMo_passed_139 : decode bMo_passed 139 = .ok (.lload 8, 2) := by decide +kernel
theorem dMo_passed_141 : decode bMo_passed 141 = .ok (.lsub, 1) := by decide +kernel
theorem dMo_passed_142 : decode bMo_passed 142 = .ok (.goto 5, 3) := by decide +kernel
theorem dMo_passed_145 : decode bMo_passed 145 = .ok (.lload 4, 2) := by decide +kernel
theorem dMo_passed_147 : decode bMo_passed 147 = .ok (.lreturn, 1) := by decide +kernel
theorem dMo_sumOf_0 : decode bMo_sumOf 0 = .ok (.lconst 0, 1) := by decide +kernel
theorem dMo_sumOf_1 : decode bMo_sumOf 1 = .ok (.lstore_n 3, 1) := by decide +kernel
theorem dMo_sumOf_2 : decode bMo_sumOf 2 = .ok (.iconst 0, 1) := by decide +kernel
theorem dMo_sumOf_3 : decode bMo_sumOf 3 = .ok (.istore 5, 2) := by decide +kernel
theorem dMo_sumOf_5 : decode bMo_sumOf 5 = .ok (.iload 5, 2) := by decide +kernel
theorem dMo_sumOf_7 : decode bMo_sumOf 7 = .ok (.aload_n 0, 1) := by decide +kernel
theorem dMo_sumOf_8 : decode bMo_sumOf 8 = .ok (.getfield 72, 3) := by decide +kernel
theorem dMo_sumOf_11 : decode bMo_sumOf 11 = .ok (.if_icmp .ge 37, 3) := by decide +kernel
theorem dMo_sumOf_14 : decode bMo_sumOf 14 = .ok (.lload_n 3, 1) := by decide +kernel
theorem dMo_sumOf_15 : decode bMo_sumOf 15 = .ok (.aload_n 0, 1) := by decide +kernel
theorem dMo_sumOf_16 : decode bMo_sumOf 16 = .ok (.getfield 19, 3) := by decide +kernel
theorem dMo_sumOf_19 : decode bMo_sumOf 19 = .ok (.iload 5, 2) := by decide +kernel
theorem dMo_sumOf_21 : decode bMo_sumOf 21 = .ok (.iaload, 1) := by decide +kernel
theorem dMo_sumOf_22 : decode bMo_sumOf 22 = .ok (.iload_n 1, 1) := by decide +kernel
theorem dMo_sumOf_23 : decode bMo_sumOf 23 = .ok (.if_icmp .ne 16, 3) := by decide +kernel
theorem dMo_sumOf_26 : decode bMo_sumOf 26 = .ok (.aload_n 0, 1) := by decide +kernel
theorem dMo_sumOf_27 : decode bMo_sumOf 27 = .ok (.iload 5, 2) := by decide +kernel
theorem dMo_sumOf_29 : decode bMo_sumOf 29 = .ok (.iconst 0, 1) := by decide +kernel
theorem dMo_sumOf_30 : decode bMo_sumOf 30 = .ok (.ldc 133, 2) := by decide +kernel
theorem dMo_sumOf_32 : decode bMo_sumOf 32 = .ok (.iload_n 2, 1) := by decide +kernel
theorem dMo_sumOf_33 : decode bMo_sumOf 33 = .ok (.invokevirtual 123, 3) := by decide +kernel
theorem dMo_sumOf_36 : decode bMo_sumOf 36 = .ok (.goto 4, 3) := by decide +kernel
theorem dMo_sumOf_39 : decode bMo_sumOf 39 = .ok (.lconst 0, 1) := by decide +kernel
theorem dMo_sumOf_40 : decode bMo_sumOf 40 = .ok (.ladd, 1) := by decide +kernel
theorem dMo_sumOf_41 : decode bMo_sumOf 41 = .ok (.lstore_n 3, 1) := by decide +kernel
theorem dMo_sumOf_42 : decode bMo_sumOf 42 = .ok (.iinc 5 1, 3) := by decide +kernel
theorem dMo_sumOf_45 : decode bMo_sumOf 45 = .ok (.goto (-40), 3) := by decide +kernel
theorem dMo_sumOf_48 : decode bMo_sumOf 48 = .ok (.lload_n 3, 1) := by decide +kernel
theorem dMo_sumOf_49 : decode bMo_sumOf 49 = .ok (.lconst 0, 1) := by decide +kernel
theorem dMo_sumOf_50 : decode bMo_sumOf 50 = .ok (.lcmp, 1) := by decide +kernel
theorem dMo_sumOf_51 : decode bMo_sumOf 51 = .ok (.ifCond .le 7, 3) := by decide +kernel
theorem dMo_sumOf_54 : decode bMo_sumOf 54 = .ok (.lload_n 3, 1) := by decide +kernel
theorem dMo_sumOf_55 : decode bMo_sumOf 55 = .ok (.goto 4, 3) := by decide +kernel
theorem dMo_sumOf_58 : decode bMo_sumOf 58 = .ok (.lconst 0, 1) := by decide +kernel
theorem dMo_sumOf_59 : decode bMo_sumOf 59 = .ok (.lreturn, 1) := by decide +kernel
theorem dMo_share_0 : decode bMo_share 0 = .ok (.aload_n 0, 1) := by decide +kernel
theorem dMo_share_1 : decode bMo_share 1 = .ok (.iload_n 1, 1) := by decide +kernel
theorem dMo_share_2 : decode bMo_share 2 = .ok (.invokevirtual 134, 3) := by decide +kernel
theorem dMo_share_5 : decode bMo_share 5 = .ok (.istore 5, 2) := by decide +kernel
theorem dMo_share_7 : decode bMo_share 7 = .ok (.iload 5, 2) := by decide +kernel
theorem dMo_share_9 : decode bMo_share 9 = .ok (.ifCond .ne 5, 3) := by decide +kernel
theorem dMo_share_12 : decode bMo_share 12 = .ok (.lconst 0, 1) := by decide +kernel
theorem dMo_share_13 : decode bMo_share 13 = .ok (.lreturn, 1) := by decide +kernel
theorem dMo_share_14 : decode bMo_share 14 = .ok (.lload_n 3, 1) := by decide +kernel
theorem dMo_share_15 : decode bMo_share 15 = .ok (.lstore 6, 2) := by decide +kernel
theorem dMo_share_17 : decode bMo_share 17 = .ok (.iconst 0, 1) := by decide +kernel
theorem dMo_share_18 : decode bMo_share 18 = .ok (.istore 8, 2) := by decide +kernel
theorem dMo_share_20 : decode bMo_share 20 = .ok (.lload_n 3, 1) := by decide +kernel
theorem dMo_share_21 : decode bMo_share 21 = .ok (.aload_n 0, 1) := by decide +kernel
theorem dMo_share_22 : decode bMo_share 22 = .ok (.getfield 55, 3) := by decide +kernel
theorem dMo_share_25 : decode bMo_share 25 = .ok (.iconst 4, 1) := by decide +kernel
theorem dMo_share_26 : decode bMo_share 26 = .ok (.iload_n 1, 1) := by decide +kernel
theorem dMo_share_27 : decode bMo_share 27 = .ok (.imul, 1) := by decide +kernel
theorem dMo_share_28 : decode bMo_share 28 = .ok (.iload_n 2, 1) := by decide +kernel
theorem dMo_share_29 : decode bMo_share 29 = .ok (.iadd, 1) := by decide +kernel
theorem dMo_share_30 : decode bMo_share 30 = .ok (.iaload, 1) := by decide +kernel
theorem dMo_share_31 : decode bMo_share 31 = .ok (.i2l, 1) := by decide +kernel
theorem dMo_share_32 : decode bMo_share 32 = .ok (.lmul, 1) := by decide +kernel
theorem dMo_share_33 : decode bMo_share 33 = .ok (.iload 5, 2) := by decide +kernel
theorem dMo_share_35 : decode bMo_share 35 = .ok (.i2l, 1) := by decide +kernel
theorem dMo_share_36 : decode bMo_share 36 = .ok (.lrem, 1) := by decide +kernel
theorem dMo_share_37 : decode bMo_share 37 = .ok (.lstore 9, 2) := by decide +kernel
theorem dMo_share_39 : decode bMo_share 39 = .ok (.iconst 0, 1) := by decide +kernel
theorem dMo_share_40 : decode bMo_share 40 = .ok (.istore 11, 2) := by decide +kernel
theorem dMo_share_42 : decode bMo_share 42 = .ok (.iload 11, 2) := by decide +kernel
theorem dMo_share_44 : decode bMo_share 44 = .ok (.iconst 4, 1) := by decide +kernel
theorem dMo_share_45 : decode bMo_share 45 = .ok (.if_icmp .ge 76, 3) := by decide +kernel
theorem dMo_share_48 : decode bMo_share 48 = .ok (.lload_n 3, 1) := by decide +kernel
theorem dMo_share_49 : decode bMo_share 49 = .ok (.aload_n 0, 1) := by decide +kernel
theorem dMo_share_50 : decode bMo_share 50 = .ok (.getfield 55, 3) := by decide +kernel
theorem dMo_share_53 : decode bMo_share 53 = .ok (.iconst 4, 1) := by decide +kernel
theorem dMo_share_54 : decode bMo_share 54 = .ok (.iload_n 1, 1) := by decide +kernel
theorem dMo_share_55 : decode bMo_share 55 = .ok (.imul, 1) := by decide +kernel
theorem dMo_share_56 : decode bMo_share 56 = .ok (.iload 11, 2) := by decide +kernel
theorem dMo_share_58 : decode bMo_share 58 = .ok (.iadd, 1) := by decide +kernel
theorem dMo_share_59 : decode bMo_share 59 = .ok (.iaload, 1) := by decide +kernel
theorem dMo_share_60 : decode bMo_share 60 = .ok (.i2l, 1) := by decide +kernel
theorem dMo_share_61 : decode bMo_share 61 = .ok (.lmul, 1) := by decide +kernel
theorem dMo_share_62 : decode bMo_share 62 = .ok (.lstore 12, 2) := by decide +kernel
theorem dMo_share_64 : decode bMo_share 64 = .ok (.lload 6, 2) := by decide +kernel
theorem dMo_share_66 : decode bMo_share 66 = .ok (.lload 12, 2) := by decide +kernel
theorem dMo_share_68 : decode bMo_share 68 = .ok (.iload 5, 2) := by decide +kernel
theorem dMo_share_70 : decode bMo_share 70 = .ok (.i2l, 1) := by decide +kernel
theorem dMo_share_71 : decode bMo_share 71 = .ok (.ldiv, 1) := by decide +kernel
theorem dMo_share_72 : decode bMo_share 72 = .ok (.lsub, 1) := by decide +kernel
theorem dMo_share_73 : decode bMo_share 73 = .ok (.lstore 6, 2) := by decide +kernel
theorem dMo_share_75 : decode bMo_share 75 = .ok (.iload 8, 2) := by decide +kernel
theorem dMo_share_77 : decode bMo_share 77 = .ok (.lload 12, 2) := by decide +kernel
theorem dMo_share_79 : decode bMo_share 79 = .ok (.iload 5, 2) := by decide +kernel
theorem dMo_share_81 : decode bMo_share 81 = .ok (.i2l, 1) := by decide +kernel
theorem dMo_share_82 : decode bMo_share 82 = .ok (.lrem, 1) := by decide +kernel
theorem dMo_share_83 : decode bMo_share 83 = .ok (.lload 9, 2) := by decide +kernel
theorem dMo_share_85 : decode bMo_share 85 = .ok (.lcmp, 1) := by decide +kernel
theorem dMo_share_86 : decode bMo_share 86 = .ok (.ifCond .gt 21, 3) := by decide +kernel
theorem dMo_share_89 : decode bMo_share 89 = .ok (.lload 12, 2) := by decide +kernel
theorem dMo_share_91 : decode bMo_share 91 = .ok (.iload 5, 2) := by decide +kernel
theorem dMo_share_93 : decode bMo_share 93 = .ok (.i2l, 1) := by decide +kernel
theorem dMo_share_94 : decode bMo_share 94 = .ok (.lrem, 1) := by decide +kernel
theorem dMo_share_95 : decode bMo_share 95 = .ok (.lload 9, 2) := by decide +kernel
theorem dMo_share_97 : decode bMo_share 97 = .ok (.lcmp, 1) := by decide +kernel
theorem dMo_share_98 : decode bMo_share 98 = .ok (.ifCond .ne 13, 3) := by decide +kernel
theorem dMo_share_101 : decode bMo_share 101 = .ok (.iload 11, 2) := by decide +kernel
theorem dMo_share_103 : decode bMo_share 103 = .ok (.iload_n 2, 1) := by decide +kernel
theorem dMo_share_104 : decode bMo_share 104 = .ok (.if_icmp .ge 7, 3) := by decide +kernel
theorem dMo_share_107 : decode bMo_share 107 = .ok (.iconst 1, 1) := by decide +kernel
theorem dMo_share_108 : decode bMo_share 108 = .ok (.goto 4, 3) := by decide +kernel
theorem dMo_share_111 : decode bMo_share 111 = .ok (.iconst 0, 1) := by decide +kernel
theorem dMo_share_112 : decode bMo_share 112 = .ok (.iadd, 1) := by decide +kernel
theorem dMo_share_113 : decode bMo_share 113 = .ok (.istore 8, 2) := by decide +kernel
theorem dMo_share_115 : decode bMo_share 115 = .ok (.iinc 11 1, 3) := by decide +kernel
theorem dMo_share_118 : decode bMo_share 118 = .ok (.goto (-76), 3) := by decide +kernel
theorem dMo_share_121 : decode bMo_share 121 = .ok (.lload_n 3, 1) := by decide +kernel
theorem dMo_share_122 : decode bMo_share 122 = .ok (.aload_n 0, 1) := by decide +kernel
theorem dMo_share_123 : decode bMo_share 123 = .ok (.getfield 55, 3) := by decide +kernel
theorem dMo_share_126 : decode bMo_share 126 = .ok (.iconst 4, 1) := by decide +kernel
theorem dMo_share_127 : decode bMo_share 127 = .ok (.iload_n 1, 1) := by decide +kernel
theorem dMo_share_128 : decode bMo_share 128 = .ok (.imul, 1) := by decide +kernel
theorem dMo_share_129 : decode bMo_share 129 = .ok (.iload_n 2, 1) := by decide +kernel
theorem dMo_share_130 : decode bMo_share 130 = .ok (.iadd, 1) := by decide +kernel
theorem dMo_share_131 : decode bMo_share 131 = .ok (.iaload, 1) := by decide +kernel
theorem dMo_share_132 : decode bMo_share 132 = .ok (.i2l, 1) := by decide +kernel
theorem dMo_share_133 : decode bMo_share 133 = .ok (.lmul, 1) := by decide +kernel
theorem dMo_share_134 : decode bMo_share 134 = .ok (.iload 5, 2) := by decide +kernel
theorem dMo_share_136 : decode bMo_share 136 = .ok (.i2l, 1) := by decide +kernel
theorem dMo_share_137 : decode bMo_share 137 = .ok (.ldiv, 1) := by decide +kernel
theorem dMo_share_138 : decode bMo_share 138 = .ok (.iload 8, 2) := by decide +kernel
theorem dMo_share_140 : decode bMo_share 140 = .ok (.i2l, 1) := by decide +kernel
theorem dMo_share_141 : decode bMo_share 141 = .ok (.lload 6, 2) := by decide +kernel
theorem dMo_share_143 : decode bMo_share 143 = .ok (.lcmp, 1) := by decide +kernel
theorem dMo_share_144 : decode bMo_share 144 = .ok (.ifCond .ge 7, 3) := by decide +kernel
theorem dMo_share_147 : decode bMo_share 147 = .ok (.lconst 1, 1) := by decide +kernel
theorem dMo_share_148 : decode bMo_share 148 = .ok (.goto 4, 3) := by decide +kernel
theorem dMo_share_151 : decode bMo_share 151 = .ok (.lconst 0, 1) := by decide +kernel
theorem dMo_share_152 : decode bMo_share 152 = .ok (.ladd, 1) := by decide +kernel
theorem dMo_share_153 : decode bMo_share 153 = .ok (.lreturn, 1) := by decide +kernel
theorem dMo_partsOf_0 : decode bMo_partsOf 0 = .ok (.aload_n 0, 1) := by decide +kernel
theorem dMo_partsOf_1 : decode bMo_partsOf 1 = .ok (.getfield 55, 3) := by decide +kernel
theorem dMo_partsOf_4 : decode bMo_partsOf 4 = .ok (.iconst 4, 1) := by decide +kernel
theorem dMo_partsOf_5 : decode bMo_partsOf 5 = .ok (.iload_n 1, 1) := by decide +kernel
theorem dMo_partsOf_6 : decode bMo_partsOf 6 = .ok (.imul, 1) := by decide +kernel
theorem dMo_partsOf_7 : decode bMo_partsOf 7 = .ok (.iaload, 1) := by decide +kernel
theorem dMo_partsOf_8 : decode bMo_partsOf 8 = .ok (.aload_n 0, 1) := by decide +kernel
theorem dMo_partsOf_9 : decode bMo_partsOf 9 = .ok (.getfield 55, 3) := by decide +kernel
theorem dMo_partsOf_12 : decode bMo_partsOf 12 = .ok (.iconst 4, 1) := by decide +kernel
theorem dMo_partsOf_13 : decode bMo_partsOf 13 = .ok (.iload_n 1, 1) := by decide +kernel
theorem dMo_partsOf_14 : decode bMo_partsOf 14 = .ok (.imul, 1) := by decide +kernel
theorem dMo_partsOf_15 : decode bMo_partsOf 15 = .ok (.iconst 1, 1) := by decide +kernel
theorem dMo_partsOf_16 : decode bMo_partsOf 16 = .ok (.iadd, 1) := by decide +kernel
theorem dMo_partsOf_17 : decode bMo_partsOf 17 = .ok (.iaload, 1) := by decide +kernel
theorem dMo_partsOf_18 : decode bMo_partsOf 18 = .ok (.iadd, 1) := by decide +kernel
theorem dMo_partsOf_19 : decode bMo_partsOf 19 = .ok (.aload_n 0, 1) := by decide +kernel
theorem dMo_partsOf_20 : decode bMo_partsOf 20 = .ok (.getfield 55, 3) := by decide +kernel
theorem dMo_partsOf_23 : decode bMo_partsOf 23 = .ok (.iconst 4, 1) := by decide +kernel
theorem dMo_partsOf_24 : decode bMo_partsOf 24 = .ok (.iload_n 1, 1) := by decide +kernel
theorem dMo_partsOf_25 : decode bMo_partsOf 25 = .ok (.imul, 1) := by decide +kernel
theorem dMo_partsOf_26 : decode bMo_partsOf 26 = .ok (.iconst 2, 1) := by decide +kernel
theorem dMo_partsOf_27 : decode bMo_partsOf 27 = .ok (.iadd, 1) := by decide +kernel
theorem dMo_partsOf_28 : decode bMo_partsOf 28 = .ok (.iaload, 1) := by decide +kernel
theorem dMo_partsOf_29 : decode bMo_partsOf 29 = .ok (.iadd, 1) := by decide +kernel
theorem dMo_partsOf_30 : decode bMo_partsOf 30 = .ok (.aload_n 0, 1) := by decide +kernel
theorem dMo_partsOf_31 : decode bMo_partsOf 31 = .ok (.getfield 55, 3) := by decide +kernel
theorem dMo_partsOf_34 : decode bMo_partsOf 34 = .ok (.iconst 4, 1) := by decide +kernel
theorem dMo_partsOf_35 : decode bMo_partsOf 35 = .ok (.iload_n 1, 1) := by decide +kernel
theorem dMo_partsOf_36 : decode bMo_partsOf 36 = .ok (.imul, 1) := by decide +kernel
theorem dMo_partsOf_37 : decode bMo_partsOf 37 = .ok (.iconst 3, 1) := by decide +kernel
theorem dMo_partsOf_38 : decode bMo_partsOf 38 = .ok (.iadd, 1) := by decide +kernel
theorem dMo_partsOf_39 : decode bMo_partsOf 39 = .ok (.iaload, 1) := by decide +kernel
theorem dMo_partsOf_40 : decode bMo_partsOf 40 = .ok (.iadd, 1) := by decide +kernel
theorem dMo_partsOf_41 : decode bMo_partsOf 41 = .ok (.ireturn, 1) := by decide +kernel
theorem dMo_reconcile_0 : decode bMo_reconcile 0 = .ok (.aload_n 0, 1) := by decide +kernel
theorem dMo_reconcile_1 : decode bMo_reconcile 1 = .ok (.aload_n 0, 1) := by decide +kernel
theorem dMo_reconcile_2 : decode bMo_reconcile 2 = .ok (.iload_n 1, 1) := by decide +kernel
theorem dMo_reconcile_3 : decode bMo_reconcile 3 = .ok (.invokevirtual 92, 3) := by decide +kernel
theorem dMo_reconcile_6 : decode bMo_reconcile 6 = .ok (.ifCond .eq 35, 3) := by decide +kernel
theorem dMo_reconcile_9 : decode bMo_reconcile 9 = .ok (.aload_n 0, 1) := by decide +kernel
theorem dMo_reconcile_10 : decode bMo_reconcile 10 = .ok (.iload_n 2, 1) := by decide +kernel
theorem dMo_reconcile_11 : decode bMo_reconcile 11 = .ok (.invokevirtual 92, 3) := by decide +kernel
theorem dMo_reconcile_14 : decode bMo_reconcile 14 = .ok (.ifCond .eq 27, 3) := by decide +kernel
theorem dMo_reconcile_17 : decode bMo_reconcile 17 = .ok (.iload_n 1, 1) := by decide +kernel
theorem dMo_reconcile_18 : decode bMo_reconcile 18 = .ok (.iload_n 2, 1) := by decide +kernel
theorem dMo_reconcile_19 : decode bMo_reconcile 19 = .ok (.if_icmp .eq 22, 3) := by decide +kernel
theorem dMo_reconcile_22 : decode bMo_reconcile 22 = .ok (.iload_n 3, 1) := by decide +kernel
theorem dMo_reconcile_23 : decode bMo_reconcile 23 = .ok (.invokestatic 82, 3) := by decide +kernel
theorem dMo_reconcile_26 : decode bMo_reconcile 26 = .ok (.ifCond .eq 15, 3) := by decide +kernel
theorem dMo_reconcile_29 : decode bMo_reconcile 29 = .ok (.iload 4, 2) := by decide +kernel
theorem dMo_reconcile_31 : decode bMo_reconcile 31 = .ok (.invokestatic 82, 3) := by decide +kernel
theorem dMo_reconcile_34 : decode bMo_reconcile 34 = .ok (.ifCond .eq 7, 3) := by decide +kernel
theorem dMo_reconcile_37 : decode bMo_reconcile 37 = .ok (.iconst 0, 1) := by decide +kernel
theorem dMo_reconcile_38 : decode bMo_reconcile 38 = .ok (.goto 4, 3) := by decide +kernel
theorem dMo_reconcile_41 : decode bMo_reconcile 41 = .ok (.iconst 1, 1) := by decide +kernel
theorem dMo_reconcile_42 : decode bMo_reconcile 42 = .ok (.putfield 61, 3) := by decide +kernel
theorem dMo_reconcile_45 : decode bMo_reconcile 45 = .ok (.aload_n 0, 1) := by decide +kernel
theorem dMo_reconcile_46 : decode bMo_reconcile 46 = .ok (.getfield 61, 3) := by decide +kernel
theorem dMo_reconcile_49 : decode bMo_reconcile 49 = .ok (.ifCond .le 7, 3) := by decide +kernel
theorem dMo_reconcile_52 : decode bMo_reconcile 52 = .ok (.lconst 0, 1) := by decide +kernel
theorem dMo_reconcile_53 : decode bMo_reconcile 53 = .ok (.goto 22, 3) := by decide +kernel
theorem dMo_reconcile_56 : decode bMo_reconcile 56 = .ok (.aload_n 0, 1) := by decide +kernel
theorem dMo_reconcile_57 : decode bMo_reconcile 57 = .ok (.iload_n 1, 1) := by decide +kernel
theorem dMo_reconcile_58 : decode bMo_reconcile 58 = .ok (.iconst 0, 1) := by decide +kernel
theorem dMo_reconcile_59 : decode bMo_reconcile 59 = .ok (.iload_n 3, 1) := by decide +kernel
theorem dMo_reconcile_60 : decode bMo_reconcile 60 = .ok (.iload 4, 2) := by decide +kernel
theorem dMo_reconcile_62 : decode bMo_reconcile 62 = .ok (.invokevirtual 123, 3) := by decide +kernel
theorem dMo_reconcile_65 : decode bMo_reconcile 65 = .ok (.aload_n 0, 1) := by decide +kernel
theorem dMo_reconcile_66 : decode bMo_reconcile 66 = .ok (.iload_n 2, 1) := by decide +kernel
theorem dMo_reconcile_67 : decode bMo_reconcile 67 = .ok (.iconst 0, 1) := by decide +kernel
theorem dMo_reconcile_68 : decode bMo_reconcile 68 = .ok (.iload_n 3, 1) := by decide +kernel
theorem dMo_reconcile_69 : decode bMo_reconcile 69 = .ok (.iload 4, 2) := by decide +kernel
theorem dMo_reconcile_71 : decode bMo_reconcile 71 = .ok (.invokevirtual 123, 3) := by decide +kernel
theorem dMo_reconcile_74 : decode bMo_reconcile 74 = .ok (.ladd, 1) := by decide +kernel
theorem dMo_reconcile_75 : decode bMo_reconcile 75 = .ok (.lreturn, 1) := by decide +kernel
theorem dMo_read_0 : decode bMo_read 0 = .ok (.aload_n 0, 1) := by decide +kernel
theorem dMo_read_1 : decode bMo_read 1 = .ok (.iload_n 1, 1) := by decide +kernel
theorem dMo_read_2 : decode bMo_read 2 = .ok (.ifCond .lt 24, 3) := by decide +kernel
theorem dMo_read_5 : decode bMo_read 5 = .ok (.iload_n 1, 1) := by decide +kernel
theorem dMo_read_6 : decode bMo_read 6 = .ok (.aload_n 0, 1) := by decide +kernel
theorem dMo_read_7 : decode bMo_read 7 = .ok (.getfield 103, 3) := by decide +kernel
theorem dMo_read_10 : decode bMo_read 10 = .ok (.if_icmp .ge 16, 3) := by decide +kernel
theorem dMo_read_13 : decode bMo_read 13 = .ok (.iload_n 2, 1) := by decide +kernel
theorem dMo_read_14 : decode bMo_read 14 = .ok (.ifCond .lt 12, 3) := by decide +kernel
theorem dMo_read_17 : decode bMo_read 17 = .ok (.iload_n 2, 1) := by decide +kernel
theorem dMo_read_18 : decode bMo_read 18 = .ok (.iconst 5, 1) := by decide +kernel
theorem dMo_read_19 : decode bMo_read 19 = .ok (.if_icmp .ge 7, 3) := by decide +kernel
theorem dMo_read_22 : decode bMo_read 22 = .ok (.iconst 0, 1) := by decide +kernel
theorem dMo_read_23 : decode bMo_read 23 = .ok (.goto 4, 3) := by decide +kernel
theorem dMo_read_26 : decode bMo_read 26 = .ok (.iconst 1, 1) := by decide +kernel
theorem dMo_read_27 : decode bMo_read 27 = .ok (.putfield 61, 3) := by decide +kernel
theorem dMo_read_30 : decode bMo_read 30 = .ok (.aload_n 0, 1) := by decide +kernel
theorem dMo_read_31 : decode bMo_read 31 = .ok (.getfield 61, 3) := by decide +kernel
theorem dMo_read_34 : decode bMo_read 34 = .ok (.ifCond .le 5, 3) := by decide +kernel
theorem dMo_read_37 : decode bMo_read 37 = .ok (.lconst 0, 1) := by decide +kernel
theorem dMo_read_38 : decode bMo_read 38 = .ok (.lreturn, 1) := by decide +kernel
theorem dMo_read_39 : decode bMo_read 39 = .ok (.aload_n 0, 1) := by decide +kernel
theorem dMo_read_40 : decode bMo_read 40 = .ok (.getfield 52, 3) := by decide +kernel
theorem dMo_read_43 : decode bMo_read 43 = .ok (.iload_n 1, 1) := by decide +kernel
theorem dMo_read_44 : decode bMo_read 44 = .ok (.iaload, 1) := by decide +kernel
theorem dMo_read_45 : decode bMo_read 45 = .ok (.bipush 20, 2) := by decide +kernel
theorem dMo_read_47 : decode bMo_read 47 = .ok (.idiv, 1) := by decide +kernel
theorem dMo_read_48 : decode bMo_read 48 = .ok (.istore_n 3, 1) := by decide +kernel
theorem dMo_read_49 : decode bMo_read 49 = .ok (.iload_n 2, 1) := by decide +kernel
theorem dMo_read_50 : decode bMo_read 50 = .ok (.tableswitch 66 0 3 #[30, 33, 46, 58], 30) := by decide +kernel
theorem dMo_read_80 : decode bMo_read 80 = .ok (.iload_n 3, 1) := by decide +kernel
theorem dMo_read_81 : decode bMo_read 81 = .ok (.i2l, 1) := by decide +kernel
theorem dMo_read_82 : decode bMo_read 82 = .ok (.lreturn, 1) := by decide +kernel
theorem dMo_read_83 : decode bMo_read 83 = .ok (.aload_n 0, 1) := by decide +kernel
theorem dMo_read_84 : decode bMo_read 84 = .ok (.getfield 45, 3) := by decide +kernel
theorem dMo_read_87 : decode bMo_read 87 = .ok (.aload_n 0, 1) := by decide +kernel
theorem dMo_read_88 : decode bMo_read 88 = .ok (.getfield 52, 3) := by decide +kernel
theorem dMo_read_91 : decode bMo_read 91 = .ok (.iload_n 1, 1) := by decide +kernel
theorem dMo_read_92 : decode bMo_read 92 = .ok (.iaload, 1) := by decide +kernel
theorem dMo_read_93 : decode bMo_read 93 = .ok (.iaload, 1) := by decide +kernel
theorem dMo_read_94 : decode bMo_read 94 = .ok (.i2l, 1) := by decide +kernel
theorem dMo_read_95 : decode bMo_read 95 = .ok (.lreturn, 1) := by decide +kernel
theorem dMo_read_96 : decode bMo_read 96 = .ok (.aload_n 0, 1) := by decide +kernel
theorem dMo_read_97 : decode bMo_read 97 = .ok (.getfield 48, 3) := by decide +kernel
theorem dMo_read_100 : decode bMo_read 100 = .ok (.aload_n 0, 1) := by decide +kernel
theorem dMo_read_101 : decode bMo_read 101 = .ok (.getfield 52, 3) := by decide +kernel
theorem dMo_read_104 : decode bMo_read 104 = .ok (.iload_n 1, 1) := by decide +kernel
theorem dMo_read_105 : decode bMo_read 105 = .ok (.iaload, 1) := by decide +kernel
theorem dMo_read_106 : decode bMo_read 106 = .ok (.laload, 1) := by decide +kernel
theorem dMo_read_107 : decode bMo_read 107 = .ok (.lreturn, 1) := by decide +kernel
theorem dMo_read_108 : decode bMo_read 108 = .ok (.aload_n 0, 1) := by decide +kernel
theorem dMo_read_109 : decode bMo_read 109 = .ok (.getfield 26, 3) := by decide +kernel
theorem dMo_read_112 : decode bMo_read 112 = .ok (.iload_n 3, 1) := by decide +kernel
theorem dMo_read_113 : decode bMo_read 113 = .ok (.iaload, 1) := by decide +kernel
theorem dMo_read_114 : decode bMo_read 114 = .ok (.i2l, 1) := by decide +kernel
theorem dMo_read_115 : decode bMo_read 115 = .ok (.lreturn, 1) := by decide +kernel
theorem dMo_read_116 : decode bMo_read 116 = .ok (.aload_n 0, 1) := by decide +kernel
theorem dMo_read_117 : decode bMo_read 117 = .ok (.getfield 29, 3) := by decide +kernel
theorem dMo_read_120 : decode bMo_read 120 = .ok (.iload_n 3, 1) := by decide +kernel
theorem dMo_read_121 : decode bMo_read 121 = .ok (.iaload, 1) := by decide +kernel
theorem dMo_read_122 : decode bMo_read 122 = .ok (.i2l, 1) := by decide +kernel
theorem dMo_read_123 : decode bMo_read 123 = .ok (.lreturn, 1) := by decide +kernel
theorem dMo_look_0 : decode bMo_look 0 = .ok (.aload_n 0, 1) := by decide +kernel
theorem dMo_look_1 : decode bMo_look 1 = .ok (.iload_n 1, 1) := by decide +kernel
theorem dMo_look_2 : decode bMo_look 2 = .ok (.ifCond .lt 25, 3) := by decide +kernel
theorem dMo_look_5 : decode bMo_look 5 = .ok (.iload_n 1, 1) := by decide +kernel
theorem dMo_look_6 : decode bMo_look 6 = .ok (.aload_n 0, 1) := by decide +kernel
theorem dMo_look_7 : decode bMo_look 7 = .ok (.getfield 75, 3) := by decide +kernel
theorem dMo_look_10 : decode bMo_look 10 = .ok (.if_icmp .ge 17, 3) := by decide +kernel
theorem dMo_look_13 : decode bMo_look 13 = .ok (.iload_n 2, 1) := by decide +kernel
theorem dMo_look_14 : decode bMo_look 14 = .ok (.ifCond .lt 13, 3) := by decide +kernel
theorem dMo_look_17 : decode bMo_look 17 = .ok (.iload_n 2, 1) := by decide +kernel
theorem dMo_look_18 : decode bMo_look 18 = .ok (.bipush 7, 2) := by decide +kernel
theorem dMo_look_20 : decode bMo_look 20 = .ok (.if_icmp .ge 7, 3) := by decide +kernel
theorem dMo_look_23 : decode bMo_look 23 = .ok (.iconst 0, 1) := by decide +kernel
theorem dMo_look_24 : decode bMo_look 24 = .ok (.goto 4, 3) := by decide +kernel
theorem dMo_look_27 : decode bMo_look 27 = .ok (.iconst 1, 1) := by decide +kernel
theorem dMo_look_28 : decode bMo_look 28 = .ok (.putfield 61, 3) := by decide +kernel
theorem dMo_look_31 : decode bMo_look 31 = .ok (.aload_n 0, 1) := by decide +kernel
theorem dMo_look_32 : decode bMo_look 32 = .ok (.getfield 61, 3) := by decide +kernel
theorem dMo_look_35 : decode bMo_look 35 = .ok (.ifCond .le 5, 3) := by decide +kernel
theorem dMo_look_38 : decode bMo_look 38 = .ok (.iconst 0, 1) := by decide +kernel
theorem dMo_look_39 : decode bMo_look 39 = .ok (.ireturn, 1) := by decide +kernel
theorem dMo_look_40 : decode bMo_look 40 = .ok (.iload_n 2, 1) := by decide +kernel
theorem dMo_look_41 : decode bMo_look 41 = .ok (.tableswitch 103 0 5 #[39, 46, 67, 74, 81, 96], 39) := by decide +kernel
theorem dMo_look_80 : decode bMo_look 80 = .ok (.aload_n 0, 1) := by decide +kernel
theorem dMo_look_81 : decode bMo_look 81 = .ok (.getfield 23, 3) := by decide +kernel
theorem dMo_look_84 : decode bMo_look 84 = .ok (.iload_n 1, 1) := by decide +kernel
theorem dMo_look_85 : decode bMo_look 85 = .ok (.iaload, 1) := by decide +kernel
theorem dMo_look_86 : decode bMo_look 86 = .ok (.ireturn, 1) := by decide +kernel
theorem dMo_look_87 : decode bMo_look 87 = .ok (.aload_n 0, 1) := by decide +kernel
theorem dMo_look_88 : decode bMo_look 88 = .ok (.getfield 23, 3) := by decide +kernel
theorem dMo_look_91 : decode bMo_look 91 = .ok (.iload_n 1, 1) := by decide +kernel
theorem dMo_look_92 : decode bMo_look 92 = .ok (.iaload, 1) := by decide +kernel
theorem dMo_look_93 : decode bMo_look 93 = .ok (.iconst 2, 1) := by decide +kernel
theorem dMo_look_94 : decode bMo_look 94 = .ok (.if_icmp .ne 7, 3) := by decide +kernel
theorem dMo_look_97 : decode bMo_look 97 = .ok (.iconst 0, 1) := by decide +kernel
theorem dMo_look_98 : decode bMo_look 98 = .ok (.goto 9, 3) := by decide +kernel
theorem dMo_look_101 : decode bMo_look 101 = .ok (.aload_n 0, 1) := by decide +kernel
theorem dMo_look_102 : decode bMo_look 102 = .ok (.getfield 42, 3) := by decide +kernel
theorem dMo_look_105 : decode bMo_look 105 = .ok (.iload_n 1, 1) := by decide +kernel
theorem dMo_look_106 : decode bMo_look 106 = .ok (.iaload, 1) := by decide +kernel
theorem dMo_look_107 : decode bMo_look 107 = .ok (.ireturn, 1) := by decide +kernel
theorem dMo_look_108 : decode bMo_look 108 = .ok (.aload_n 0, 1) := by decide +kernel
theorem dMo_look_109 : decode bMo_look 109 = .ok (.getfield 32, 3) := by decide +kernel
theorem dMo_look_112 : decode bMo_look 112 = .ok (.iload_n 1, 1) := by decide +kernel
theorem dMo_look_113 : decode bMo_look 113 = .ok (.iaload, 1) := by decide +kernel
theorem dMo_look_114 : decode bMo_look 114 = .ok (.ireturn, 1) := by decide +kernel
theorem dMo_look_115 : decode bMo_look 115 = .ok (.aload_n 0, 1) := by decide +kernel
theorem dMo_look_116 : decode bMo_look 116 = .ok (.getfield 35, 3) := by decide +kernel
theorem dMo_look_119 : decode bMo_look 119 = .ok (.iload_n 1, 1) := by decide +kernel
theorem dMo_look_120 : decode bMo_look 120 = .ok (.iaload, 1) := by decide +kernel
theorem dMo_look_121 : decode bMo_look 121 = .ok (.ireturn, 1) := by decide +kernel
theorem dMo_look_122 : decode bMo_look 122 = .ok (.aload_n 0, 1) := by decide +kernel
theorem dMo_look_123 : decode bMo_look 123 = .ok (.getfield 38, 3) := by decide +kernel
theorem dMo_look_126 : decode bMo_look 126 = .ok (.iload_n 1, 1) := by decide +kernel
theorem dMo_look_127 : decode bMo_look 127 = .ok (.baload, 1) := by decide +kernel
theorem dMo_look_128 : decode bMo_look 128 = .ok (.ifCond .eq 7, 3) := by decide +kernel
theorem dMo_look_131 : decode bMo_look 131 = .ok (.iconst 1, 1) := by decide +kernel
theorem dMo_look_132 : decode bMo_look 132 = .ok (.goto 4, 3) := by decide +kernel
theorem dMo_look_135 : decode bMo_look 135 = .ok (.iconst 0, 1) := by decide +kernel
theorem dMo_look_136 : decode bMo_look 136 = .ok (.ireturn, 1) := by decide +kernel
theorem dMo_look_137 : decode bMo_look 137 = .ok (.aload_n 0, 1) := by decide +kernel
theorem dMo_look_138 : decode bMo_look 138 = .ok (.getfield 26, 3) := by decide +kernel
theorem dMo_look_141 : decode bMo_look 141 = .ok (.iload_n 1, 1) := by decide +kernel
theorem dMo_look_142 : decode bMo_look 142 = .ok (.iaload, 1) := by decide +kernel
theorem dMo_look_143 : decode bMo_look 143 = .ok (.ireturn, 1) := by decide +kernel
theorem dMo_look_144 : decode bMo_look 144 = .ok (.aload_n 0, 1) := by decide +kernel
theorem dMo_look_145 : decode bMo_look 145 = .ok (.getfield 29, 3) := by decide +kernel
theorem dMo_look_148 : decode bMo_look 148 = .ok (.iload_n 1, 1) := by decide +kernel
theorem dMo_look_149 : decode bMo_look 149 = .ok (.iaload, 1) := by decide +kernel
theorem dMo_look_150 : decode bMo_look 150 = .ok (.ireturn, 1) := by decide +kernel
theorem dMo_count_0 : decode bMo_count 0 = .ok (.aload_n 0, 1) := by decide +kernel
theorem dMo_count_1 : decode bMo_count 1 = .ok (.iconst 0, 1) := by decide +kernel
theorem dMo_count_2 : decode bMo_count 2 = .ok (.putfield 61, 3) := by decide +kernel
theorem dMo_count_5 : decode bMo_count 5 = .ok (.iload_n 1, 1) := by decide +kernel
theorem dMo_count_6 : decode bMo_count 6 = .ok (.tableswitch 92 0 8 #[50, 55, 60, 65, 70, 75, 80, 85, 87], 50) := by decide +kernel
theorem dMo_count_56 : decode bMo_count 56 = .ok (.aload_n 0, 1) := by decide +kernel
theorem dMo_count_57 : decode bMo_count 57 = .ok (.getfield 72, 3) := by decide +kernel
theorem dMo_count_60 : decode bMo_count 60 = .ok (.ireturn, 1) := by decide +kernel
theorem dMo_count_61 : decode bMo_count 61 = .ok (.aload_n 0, 1) := by decide +kernel
theorem dMo_count_62 : decode bMo_count 62 = .ok (.getfield 75, 3) := by decide +kernel
theorem dMo_count_65 : decode bMo_count 65 = .ok (.ireturn, 1) := by decide +kernel
theorem dMo_count_66 : decode bMo_count 66 = .ok (.aload_n 0, 1) := by decide +kernel
theorem dMo_count_67 : decode bMo_count 67 = .ok (.getfield 103, 3) := by decide +kernel
theorem dMo_count_70 : decode bMo_count 70 = .ok (.ireturn, 1) := by decide +kernel
theorem dMo_count_71 : decode bMo_count 71 = .ok (.aload_n 0, 1) := by decide +kernel
theorem dMo_count_72 : decode bMo_count 72 = .ok (.getfield 9, 3) := by decide +kernel
theorem dMo_count_75 : decode bMo_count 75 = .ok (.ireturn, 1) := by decide +kernel
theorem dMo_count_76 : decode bMo_count 76 = .ok (.aload_n 0, 1) := by decide +kernel
theorem dMo_count_77 : decode bMo_count 77 = .ok (.getfield 13, 3) := by decide +kernel
theorem dMo_count_80 : decode bMo_count 80 = .ok (.ireturn, 1) := by decide +kernel
theorem dMo_count_81 : decode bMo_count 81 = .ok (.aload_n 0, 1) := by decide +kernel
theorem dMo_count_82 : decode bMo_count 82 = .ok (.getfield 110, 3) := by decide +kernel
theorem dMo_count_85 : decode bMo_count 85 = .ok (.ireturn, 1) := by decide +kernel
theorem dMo_count_86 : decode bMo_count 86 = .ok (.aload_n 0, 1) := by decide +kernel
theorem dMo_count_87 : decode bMo_count 87 = .ok (.getfield 16, 3) := by decide +kernel
theorem dMo_count_90 : decode bMo_count 90 = .ok (.ireturn, 1) := by decide +kernel
theorem dMo_count_91 : decode bMo_count 91 = .ok (.iconst 0, 1) := by decide +kernel
theorem dMo_count_92 : decode bMo_count 92 = .ok (.ireturn, 1) := by decide +kernel
theorem dMo_count_93 : decode bMo_count 93 = .ok (.aload_n 0, 1) := by decide +kernel
theorem dMo_count_94 : decode bMo_count 94 = .ok (.getfield 116, 3) := by decide +kernel
theorem dMo_count_97 : decode bMo_count 97 = .ok (.ireturn, 1) := by decide +kernel
theorem dMo_count_98 : decode bMo_count 98 = .ok (.iconst (-1), 1) := by decide +kernel
theorem dMo_count_99 : decode bMo_count 99 = .ok (.ireturn, 1) := by decide +kernel
end
section
/-! a ghost heap over the kit's worlds: what lies at each address that the law's run has made -/
abbrev zG : Type := Nat → Option va_E
/-- classes and slots, array classes, the law's start -/
abbrev zO : Type := va_G × List (ClassId × FieldType) × State
def zu (G : zG) (a : Nat) (e : va_E) : zG := fun q => if q = a then some e else G q
theorem zu_s {G : zG} {a : Nat} {e : va_E} : zu G a e a = some e := by simp [zu]
theorem zu_n {G : zG} {a b : Nat} {e : va_E} (h : b ≠ a) : zu G a e b = G b := by simp [zu, h]
/-- the heap H holds G; what was there before the law began is as it was -/
def zH (O : zO) (G : zG) (H : Heap) : Prop := O.2.2.heap.size ≤ H.size ∧ (∀ q : Nat, q < O.2.2.heap.size → H[q]? = O.2.2.heap[q]?) ∧ ∀ (a : Nat) (e : va_E), G a = some e → O.2.2.heap.size ≤ a ∧ va_at O.1 vwCl (a, e) H
theorem zH.lt {O : zO} {G : zG} {H : Heap} (h : zH O G H) {a : Nat} {e : va_E} (ha : G a = some e) : a < H.size := (h.2.2 a e ha).2.lt
theorem zH.one {O : zO} {G : zG} {H : Heap} (h : zH O G H) {a : Nat} {e : va_E} (ha : G a = some e) : va_P O.1 vwCl [(a, e)] H := by
  intro k q hk
  have hz : k < 1 := (List.getElem?_eq_some_iff.mp hk).1
  rw [show k = 0 by omega] at hk
  cases hk
  exact (h.2.2 a e ha).2
theorem zH.set {O : zO} {G : zG} {H H1 : Heap} (h : zH O G H) {a : Nat} {e0 e : va_E} (ha : G a = some e0) (he : va_at O.1 vwCl (a, e) H1) (z : H1.size = H.size) (oq : ∀ q : Nat, q ≠ a → H1[q]? = H[q]?) : zH O (zu G a e) H1 := by
  obtain ⟨h1, h2, h3⟩ := h
  have hb := (h3 a e0 ha).1
  refine ⟨by rw [z]; exact h1, fun q hq => by rw [oq q (by omega)]; exact h2 q hq, fun b e' hb' => ?_⟩
  by_cases hba : b = a
  · subst hba
    rw [zu_s] at hb'
    cases hb'
    exact ⟨hb, he⟩
  · rw [zu_n hba] at hb'
    exact ⟨(h3 b e' hb').1, (h3 b e' hb').2.kept (oq b hba)⟩
theorem zH.push {O : zO} {G : zG} {H H1 : Heap} (h : zH O G H) {e : va_E} (he : va_at O.1 vwCl (H.size, e) H1) (z : H1.size = H.size + 1) (oq : ∀ q : Nat, q < H.size → H1[q]? = H[q]?) : G H.size = none ∧ zH O (zu G H.size e) H1 := by
  have hn : G H.size = none := by
    cases hg : G H.size with
    | none => rfl
    | some e' => exact absurd (h.lt hg) (by omega)
  obtain ⟨h1, h2, h3⟩ := h
  refine ⟨hn, by omega, fun q hq => by rw [oq q (by omega)]; exact h2 q hq, fun b e' hb' => ?_⟩
  by_cases hba : b = H.size
  · subst hba
    rw [zu_s] at hb'
    cases hb'
    exact ⟨h1, he⟩
  · rw [zu_n hba] at hb'
    exact ⟨(h3 b e' hb').1, (h3 b e' hb').2.kept (oq b (h3 b e' hb').2.lt)⟩
/-- locals by their numbers -/
theorem zl_mem {i : Nat} {v : Value} : ∀ {ls : List (Nat × Value)}, ls.lookup i = some v → (i, v) ∈ ls
  | [], h => by cases h
  | (j, w) :: ls, h => by
    by_cases hij : i = j
    · subst hij
      simp at h
      rw [h]
      exact List.mem_cons_self
    · have h2 : (i == j) = false := by simpa using hij
      rw [List.lookup_cons, h2] at h
      exact List.mem_cons_of_mem _ (zl_mem h)
theorem zl_at {la : Array Slot} {nL : Nat} {ls : List (Nat × Value)} (h : lv_has la nL ls) {i : Nat} {v : Value} (hk : ls.lookup i = some v) : la[i]? = some (.val v) := h.2.2 (i, v) (zl_mem hk)
def zs1 (ls : List (Nat × Value)) (i : Nat) (v : Value) : List (Nat × Value) := (i, v) :: ls.filter (fun q => !(q.1 == i) && !(q.1 + 1 == i && q.2.category == 2))
def zs2 (ls : List (Nat × Value)) (i : Nat) (v : Value) : List (Nat × Value) := (i, v) :: ls.filter (fun q => !(q.1 == i) && (!(q.1 == i + 1) && !(q.1 + 1 == i && q.2.category == 2)))
def zpk (ls : List (Nat × Value)) : List Nat → Option (List (Nat × Value))
  | [] => some []
  | i :: is => match ls.lookup i, zpk ls is with
    | some v, some r => some ((i, v) :: r)
    | _, _ => none
theorem zpk_has {la : Array Slot} {nL : Nat} {ls : List (Nat × Value)} (h : lv_has la nL ls) : ∀ (is : List Nat) {l' : List (Nat × Value)}, zpk ls is = some l' → lv_has la nL l' := by
  intro is l' hp
  refine ⟨h.1, h.2.1, ?_⟩
  revert l'
  induction is with
  | nil => intro l' hp q hq; simp [zpk] at hp; subst hp; cases hq
  | cons i is ih =>
    intro l' hp q hq
    simp only [zpk] at hp
    cases h1 : ls.lookup i with
    | none => rw [h1] at hp; cases hp
    | some v =>
      cases h2 : zpk ls is with
      | none => rw [h1, h2] at hp; cases hp
      | some r =>
        rw [h1, h2] at hp
        cases hp
        rcases List.mem_cons.mp hq with rfl | hq
        · exact zl_at h h1
        · exact ih h2 q hq
/-- words that hold in every state, the castable and declares ones among them -/
def zgw (w : Cond) : Bool := goodWord w || (match w with
  | .castable _ _ => true
  | .declares _ => true
  | _ => false)
def zT2 : List Cond := lw_tbl.filter zgw
theorem zT_2 {w : Cond} (h : w ∈ zT) : w ∈ zT2 := by
  obtain ⟨h1, h2⟩ := List.mem_filter.mp h
  exact List.mem_filter.mpr ⟨h1, by simp [zgw, h2]⟩
theorem zgw_at {args a' : Array Value} {s U : State} {w : Cond} (hW : s.WarmedH U.vm) (hg : zgw w = true) (h : w.before args s = true) : w.before a' U = true := by
  by_cases hgo : goodWord w = true
  · exact word_at hW (good_of_word hgo) h
  · cases w with
    | castable C T => exact va_Nw.use rfl (va_Nw.warmC hW (va_Nw.of rfl h))
    | declares x => exact va_Nw.use rfl (va_Nw.warmD hW (va_Nw.of rfl h))
    | _ => simp [zgw, hgo] at hg
def zFr (O : zO) : Addr → Prop := fun q => O.2.2.heap.size ≤ q
def zStr : List (String × Nat × String) := [("DutyLedger", 61, "no such kind"), ("DutyLedger", 68, "no more accounts"), ("DutyLedger", 74, "no such day"), ("DutyLedger", 76, "no more batches"), ("DutyLedger", 104, "no such open batch"), ("DutyLedger", 113, "the batch is void"), ("DutyLedger", 121, "the batch failed"), ("DutyLedger", 127, "no such posted batch, or no such day"), ("DutyLedger", 135, "reversed, or a reversal"), ("DutyLedger", 141, "the reversal can't be posted"), ("DutyLedger", 143, "no such account or day"), ("DutyLedger", 152, "no such account, month or day"), ("DutyLedger", 164, "no such kind, day or what"), ("DutyLedger", 181, "no two such accounts"), ("DutyLedger", 188, "no such row"), ("DutyLedger", 207, "no such what"), ("DutyLedger", 213, "no such batch")]
def zNot : List (String × String) := [("java/lang/IllegalStateException", "java/lang/IllegalArgumentException"), ("java/lang/UnsupportedOperationException", "java/lang/IllegalArgumentException"), ("java/lang/IndexOutOfBoundsException", "java/lang/IllegalArgumentException"), ("java/lang/IllegalArgumentException", "java/lang/IllegalStateException"), ("java/lang/UnsupportedOperationException", "java/lang/IllegalStateException"), ("java/lang/IndexOutOfBoundsException", "java/lang/IllegalStateException"), ("java/lang/IllegalArgumentException", "java/lang/UnsupportedOperationException"), ("java/lang/IllegalStateException", "java/lang/UnsupportedOperationException"), ("java/lang/IndexOutOfBoundsException", "java/lang/UnsupportedOperationException"), ("java/lang/IllegalArgumentException", "java/lang/IndexOutOfBoundsException"), ("java/lang/IllegalStateException", "java/lang/IndexOutOfBoundsException"), ("java/lang/UnsupportedOperationException", "java/lang/IndexOutOfBoundsException")]
/-- .. of its heap, its texts, its classes -/
def zK2 (O : zO) : Prop := O.2.1.map (fun q => q.2) = [.int, .long, .boolean, .object RBa] ∧ va_AO RBa O.2.2 ∧ (va_Nw (.methodLinkNest RDu 28 yBk_init RDu) O.2.2 ∧ va_Nw (.methodLinkNest RDu 35 ySh_init RDu) O.2.2) ∧ (vx_Zq Bundle.tN "UNASSIGNED_STACK" Bundle.steD (zFr O) O.2.2 O.2.2.heap ∧ vx_Zq Bundle.tN "SUPPRESSED_SENTINEL" Bundle.listD (zFr O) O.2.2 O.2.2.heap) ∧ (∀ q ∈ zStr, ∃ sa : Nat, vk_R q.1 q.2.1 q.2.2 sa O.2.2) ∧ ∀ q ∈ zNot, va_Nc q.1 q.2 O.2.2
/-- what is given of the law's start -/
def zK (O : zO) (l : Launch) : Prop := l.stackTraces = false ∧ (∀ w ∈ zT2, w.before #[] O.2.2 = true) ∧ va_K O.1 vwCl O.2.1 O.2.2 ∧ zK2 O
/-- where a method stands -/
def zC (O : zO) (p : Program) (l : Launch) (s : State) (m : MethodId) (meth : Method) (c : Code) (own : String) (cc : ByteArray) (nL : Nat) : Prop :=
  p.tables.exec = Jvm.exec ∧ c.code = cc ∧ c.maxLocals = nL ∧ s.vm.findClass own = some m.cls ∧ meth.locks = false ∧ O.2.2.WarmedH s.vm ∧ (O.2.2.heap.size ≤ s.heap.size ∧ ∀ q : Nat, q < O.2.2.heap.size → s.heap[q]? = O.2.2.heap[q]?) ∧ zK O l
section ZC
variable {O : zO} {p : Program} {l : Launch} {s : State} {m : MethodId} {meth : Method} {c : Code} {own : String} {cc : ByteArray} {nL : Nat}
theorem zC.k (C : zC O p l s m meth c own cc nL) : zK O l := C.2.2.2.2.2.2.2
theorem zC.w2 (C : zC O p l s m meth c own cc nL) (args : Array Value) : ∀ w ∈ zT2, w.before args s = true := fun w hw => zgw_at C.2.2.2.2.2.1 (List.mem_filter.mp hw).2 (C.k.2.1 w hw)
theorem zC.w (C : zC O p l s m meth c own cc nL) (args : Array Value) : ∀ w ∈ zT, w.before args s = true := fun w hw => C.w2 args w (zT_2 hw)
theorem zC.t (C : zC O p l s m meth c own cc nL) (t : Nat) {ty : FieldType} (h : ([.int, .long, .boolean, .object RBa] : List FieldType)[t]? = some ty) : (O.2.1[t]?).map (fun q => q.2) = some ty := by
  rw [← List.getElem?_map, C.k.2.2.2.1]; exact h
theorem zC.K (C : zC O p l s m meth c own cc nL) : va_K O.1 vwCl O.2.1 s := va_K.moved C.2.2.2.2.2.1.alike C.k.2.2.1
end ZC
/-- from here on the method goes well: V at pc with the locals ls, the stack st, the heap G, k cells and n slots made -/
def zV (O : zO) (p : Program) (l : Launch) (e : Env) (R : Room) (s : State) (m : MethodId) (args : Array Value) (below : List Frame) (meth : Method) (c : Code) (nL : Nat) (Q : State → Prop) (pc : Nat) (ls : List (Nat × Value)) (st : List Value) (G : zG) (k n : Nat) : Prop :=
  ∀ (H : Heap) (locs : List Loc) (la : Array Slot), lv_has la nL ls → zH O G H → (∀ z ∈ locs, O.2.2.heap.size ≤ z.base) → W p l e R s m args below meth c H locs k n Q (F0 m pc la st)
section ZR
variable {O : zO} {p : Program} {l : Launch} {e : Env} {R : Room} {s : State} {m : MethodId} {args : Array Value} {below : List Frame} {meth : Method} {c : Code} {own : String} {cc : ByteArray} {nL : Nat} {Q : State → Prop} {pc : Nat} {ls : List (Nat × Value)} {st : List Value} {G : zG} {kc ks : Nat}
theorem zv_iconst (C : zC O p l s m meth c own cc nL) {n : Int} {v : Int32} (d : decode cc pc = .ok (.iconst n, 1)) (hv : Int32.ofInt n = v) (kk : zV O p l e R s m args below meth c nL Q (pc + 1) ls (.int v :: st) G kc ks) : zV O p l e R s m args below meth c nL Q pc ls st G kc ks := fun H locs la hl hP hL => lv_iconst C.1 C.2.1 d hv (kk H locs la hl hP hL)
theorem zv_bipush (C : zC O p l s m meth c own cc nL) {n : Int} {v : Int32} (d : decode cc pc = .ok (.bipush n, 2)) (hv : (Int8.ofInt n).toInt32 = v) (kk : zV O p l e R s m args below meth c nL Q (pc + 2) ls (.int v :: st) G kc ks) : zV O p l e R s m args below meth c nL Q pc ls st G kc ks := fun H locs la hl hP hL => lv_bipush C.1 C.2.1 d hv (kk H locs la hl hP hL)
theorem zv_sipush (C : zC O p l s m meth c own cc nL) {n : Int} {v : Int32} (d : decode cc pc = .ok (.sipush n, 3)) (hv : (Int16.ofInt n).toInt32 = v) (kk : zV O p l e R s m args below meth c nL Q (pc + 3) ls (.int v :: st) G kc ks) : zV O p l e R s m args below meth c nL Q pc ls st G kc ks := fun H locs la hl hP hL => lv_sipush C.1 C.2.1 d hv (kk H locs la hl hP hL)
theorem zv_lconst (C : zC O p l s m meth c own cc nL) {n : Fin 2} {v : Int64} (d : decode cc pc = .ok (.lconst n, 1)) (hv : Int64.ofNat (n : Nat) = v) (kk : zV O p l e R s m args below meth c nL Q (pc + 1) ls (.long v :: st) G kc ks) : zV O p l e R s m args below meth c nL Q pc ls st G kc ks := fun H locs la hl hP hL => lv_lconst C.1 C.2.1 d hv (kk H locs la hl hP hL)
theorem zv_ldc (C : zC O p l s m meth c own cc nL) {ix : Nat} {v : Int32} (d : decode cc pc = .ok (.ldc ix, 2)) (w : Cond.constant own ix v ∈ zT) (kk : zV O p l e R s m args below meth c nL Q (pc + 2) ls (.int v :: st) G kc ks) : zV O p l e R s m args below meth c nL Q pc ls st G kc ks := fun H locs la hl hP hL => lv_ldc C.1 C.2.1 C.2.2.2.1 (C.w args _ w) d (kk H locs la hl hP hL)
theorem zv_ldcw (C : zC O p l s m meth c own cc nL) {ix : Nat} {v : Int32} (d : decode cc pc = .ok (.ldc_w ix, 3)) (w : Cond.constant own ix v ∈ zT) (kk : zV O p l e R s m args below meth c nL Q (pc + 3) ls (.int v :: st) G kc ks) : zV O p l e R s m args below meth c nL Q pc ls st G kc ks := fun H locs la hl hP hL => lv_ldcw C.1 C.2.1 C.2.2.2.1 (C.w args _ w) d (kk H locs la hl hP hL)
theorem zv_ldc2 (C : zC O p l s m meth c own cc nL) {ix : Nat} {v : Int64} (d : decode cc pc = .ok (.ldc2_w ix, 3)) (w : Cond.constantLong own ix v ∈ zT) (kk : zV O p l e R s m args below meth c nL Q (pc + 3) ls (.long v :: st) G kc ks) : zV O p l e R s m args below meth c nL Q pc ls st G kc ks := fun H locs la hl hP hL => lv_ldc2 C.1 C.2.1 C.2.2.2.1 (C.w args _ w) d (kk H locs la hl hP hL)
theorem zv_null (C : zC O p l s m meth c own cc nL)  (d : decode cc pc = .ok (.aconst_null, 1)) (kk : zV O p l e R s m args below meth c nL Q (pc + 1) ls (.null :: st) G kc ks) : zV O p l e R s m args below meth c nL Q pc ls st G kc ks := fun H locs la hl hP hL => lv_null C.1 C.2.1 d (kk H locs la hl hP hL)
theorem zv_iload_n (C : zC O p l s m meth c own cc nL) {i : Fin 4} {x : Int32} (d : decode cc pc = .ok (.iload_n i, 1)) (h : ls.lookup (i : Nat) = some (.int x)) (kk : zV O p l e R s m args below meth c nL Q (pc + 1) ls (.int x :: st) G kc ks) : zV O p l e R s m args below meth c nL Q pc ls st G kc ks := fun H locs la hl hP hL => lv_iload_n C.1 C.2.1 d rfl (zl_at hl h) (kk H locs la hl hP hL)
theorem zv_iload (C : zC O p l s m meth c own cc nL) {i : Nat} {x : Int32} (d : decode cc pc = .ok (.iload i, 2)) (h : ls.lookup i = some (.int x)) (kk : zV O p l e R s m args below meth c nL Q (pc + 2) ls (.int x :: st) G kc ks) : zV O p l e R s m args below meth c nL Q pc ls st G kc ks := fun H locs la hl hP hL => lv_iload C.1 C.2.1 d (zl_at hl h) (kk H locs la hl hP hL)
theorem zv_lload_n (C : zC O p l s m meth c own cc nL) {i : Fin 4} {x : Int64} (d : decode cc pc = .ok (.lload_n i, 1)) (h : ls.lookup (i : Nat) = some (.long x)) (kk : zV O p l e R s m args below meth c nL Q (pc + 1) ls (.long x :: st) G kc ks) : zV O p l e R s m args below meth c nL Q pc ls st G kc ks := fun H locs la hl hP hL => lv_lload_n C.1 C.2.1 d rfl (zl_at hl h) (kk H locs la hl hP hL)
theorem zv_lload (C : zC O p l s m meth c own cc nL) {i : Nat} {x : Int64} (d : decode cc pc = .ok (.lload i, 2)) (h : ls.lookup i = some (.long x)) (kk : zV O p l e R s m args below meth c nL Q (pc + 2) ls (.long x :: st) G kc ks) : zV O p l e R s m args below meth c nL Q pc ls st G kc ks := fun H locs la hl hP hL => lv_lload C.1 C.2.1 d (zl_at hl h) (kk H locs la hl hP hL)
theorem zv_aload_n (C : zC O p l s m meth c own cc nL) {i : Fin 4} {x : Nat} (d : decode cc pc = .ok (.aload_n i, 1)) (h : ls.lookup (i : Nat) = some (.ref x)) (kk : zV O p l e R s m args below meth c nL Q (pc + 1) ls (.ref x :: st) G kc ks) : zV O p l e R s m args below meth c nL Q pc ls st G kc ks := fun H locs la hl hP hL => lv_aload_n C.1 C.2.1 d rfl (zl_at hl h) (kk H locs la hl hP hL)
theorem zv_aload (C : zC O p l s m meth c own cc nL) {i : Nat} {x : Nat} (d : decode cc pc = .ok (.aload i, 2)) (h : ls.lookup i = some (.ref x)) (kk : zV O p l e R s m args below meth c nL Q (pc + 2) ls (.ref x :: st) G kc ks) : zV O p l e R s m args below meth c nL Q pc ls st G kc ks := fun H locs la hl hP hL => lv_aload C.1 C.2.1 d (zl_at hl h) (kk H locs la hl hP hL)
theorem zv_aload_nN (C : zC O p l s m meth c own cc nL) {i : Fin 4} (d : decode cc pc = .ok (.aload_n i, 1)) (h : ls.lookup (i : Nat) = some .null) (kk : zV O p l e R s m args below meth c nL Q (pc + 1) ls (.null :: st) G kc ks) : zV O p l e R s m args below meth c nL Q pc ls st G kc ks := fun H locs la hl hP hL => lv_aload_nN C.1 C.2.1 d rfl (zl_at hl h) (kk H locs la hl hP hL)
theorem zv_aloadN (C : zC O p l s m meth c own cc nL) {i : Nat} (d : decode cc pc = .ok (.aload i, 2)) (h : ls.lookup i = some .null) (kk : zV O p l e R s m args below meth c nL Q (pc + 2) ls (.null :: st) G kc ks) : zV O p l e R s m args below meth c nL Q pc ls st G kc ks := fun H locs la hl hP hL => lv_aloadN C.1 C.2.1 d (zl_at hl h) (kk H locs la hl hP hL)
theorem zv_istore_n (C : zC O p l s m meth c own cc nL) {i : Fin 4} {x : Int32} (d : decode cc pc = .ok (.istore_n i, 1)) (hn : (i : Nat) < nL) (kk : zV O p l e R s m args below meth c nL Q (pc + 1) (zs1 ls (i : Nat) (.int x)) st G kc ks) : zV O p l e R s m args below meth c nL Q pc ls (.int x :: st) G kc ks := fun H locs la hl hP hL => lv_istore_n C.1 C.2.1 d rfl hl hn rfl (fun la' hl' => kk H locs la' hl' hP hL)
theorem zv_istore (C : zC O p l s m meth c own cc nL) {i : Nat} {x : Int32} (d : decode cc pc = .ok (.istore i, 2)) (hn : i < nL) (kk : zV O p l e R s m args below meth c nL Q (pc + 2) (zs1 ls i (.int x)) st G kc ks) : zV O p l e R s m args below meth c nL Q pc ls (.int x :: st) G kc ks := fun H locs la hl hP hL => lv_istore C.1 C.2.1 d hl hn rfl (fun la' hl' => kk H locs la' hl' hP hL)
theorem zv_lstore_n (C : zC O p l s m meth c own cc nL) {i : Fin 4} {x : Int64} (d : decode cc pc = .ok (.lstore_n i, 1)) (hn : (i : Nat) + 1 < nL) (kk : zV O p l e R s m args below meth c nL Q (pc + 1) (zs2 ls (i : Nat) (.long x)) st G kc ks) : zV O p l e R s m args below meth c nL Q pc ls (.long x :: st) G kc ks := fun H locs la hl hP hL => lv_lstore_n C.1 C.2.1 d rfl hl hn rfl (fun la' hl' => kk H locs la' hl' hP hL)
theorem zv_lstore (C : zC O p l s m meth c own cc nL) {i : Nat} {x : Int64} (d : decode cc pc = .ok (.lstore i, 2)) (hn : i + 1 < nL) (kk : zV O p l e R s m args below meth c nL Q (pc + 2) (zs2 ls i (.long x)) st G kc ks) : zV O p l e R s m args below meth c nL Q pc ls (.long x :: st) G kc ks := fun H locs la hl hP hL => lv_lstore C.1 C.2.1 d hl hn rfl (fun la' hl' => kk H locs la' hl' hP hL)
theorem zv_astore_n (C : zC O p l s m meth c own cc nL) {i : Fin 4} {x : Nat} (d : decode cc pc = .ok (.astore_n i, 1)) (hn : (i : Nat) < nL) (kk : zV O p l e R s m args below meth c nL Q (pc + 1) (zs1 ls (i : Nat) (.ref x)) st G kc ks) : zV O p l e R s m args below meth c nL Q pc ls (.ref x :: st) G kc ks := fun H locs la hl hP hL => lv_astore_n C.1 C.2.1 d rfl hl hn rfl (fun la' hl' => kk H locs la' hl' hP hL)
theorem zv_astore (C : zC O p l s m meth c own cc nL) {i : Nat} {x : Nat} (d : decode cc pc = .ok (.astore i, 2)) (hn : i < nL) (kk : zV O p l e R s m args below meth c nL Q (pc + 2) (zs1 ls i (.ref x)) st G kc ks) : zV O p l e R s m args below meth c nL Q pc ls (.ref x :: st) G kc ks := fun H locs la hl hP hL => lv_astore C.1 C.2.1 d hl hn rfl (fun la' hl' => kk H locs la' hl' hP hL)
theorem zv_astore_nN (C : zC O p l s m meth c own cc nL) {i : Fin 4} (d : decode cc pc = .ok (.astore_n i, 1)) (hn : (i : Nat) < nL) (kk : zV O p l e R s m args below meth c nL Q (pc + 1) (zs1 ls (i : Nat) .null) st G kc ks) : zV O p l e R s m args below meth c nL Q pc ls (.null :: st) G kc ks := fun H locs la hl hP hL => lv_astore_nN C.1 C.2.1 d rfl hl hn rfl (fun la' hl' => kk H locs la' hl' hP hL)
theorem zv_astoreN (C : zC O p l s m meth c own cc nL) {i : Nat} (d : decode cc pc = .ok (.astore i, 2)) (hn : i < nL) (kk : zV O p l e R s m args below meth c nL Q (pc + 2) (zs1 ls i .null) st G kc ks) : zV O p l e R s m args below meth c nL Q pc ls (.null :: st) G kc ks := fun H locs la hl hP hL => lv_astoreN C.1 C.2.1 d hl hn rfl (fun la' hl' => kk H locs la' hl' hP hL)
theorem zv_iadd (C : zC O p l s m meth c own cc nL) {x y : Int32} (d : decode cc pc = .ok (.iadd, 1)) (kk : zV O p l e R s m args below meth c nL Q (pc + 1) ls (.int (x + y) :: st) G kc ks) : zV O p l e R s m args below meth c nL Q pc ls (.int y :: .int x :: st) G kc ks := fun H locs la hl hP hL => lv_iadd C.1 C.2.1 d (kk H locs la hl hP hL)
theorem zv_isub (C : zC O p l s m meth c own cc nL) {x y : Int32} (d : decode cc pc = .ok (.isub, 1)) (kk : zV O p l e R s m args below meth c nL Q (pc + 1) ls (.int (x - y) :: st) G kc ks) : zV O p l e R s m args below meth c nL Q pc ls (.int y :: .int x :: st) G kc ks := fun H locs la hl hP hL => lv_isub C.1 C.2.1 d (kk H locs la hl hP hL)
theorem zv_imul (C : zC O p l s m meth c own cc nL) {x y : Int32} (d : decode cc pc = .ok (.imul, 1)) (kk : zV O p l e R s m args below meth c nL Q (pc + 1) ls (.int (x * y) :: st) G kc ks) : zV O p l e R s m args below meth c nL Q pc ls (.int y :: .int x :: st) G kc ks := fun H locs la hl hP hL => lv_imul C.1 C.2.1 d (kk H locs la hl hP hL)
theorem zv_iand (C : zC O p l s m meth c own cc nL) {x y : Int32} (d : decode cc pc = .ok (.iand, 1)) (kk : zV O p l e R s m args below meth c nL Q (pc + 1) ls (.int (x &&& y) :: st) G kc ks) : zV O p l e R s m args below meth c nL Q pc ls (.int y :: .int x :: st) G kc ks := fun H locs la hl hP hL => lv_iand C.1 C.2.1 d (kk H locs la hl hP hL)
theorem zv_ior (C : zC O p l s m meth c own cc nL) {x y : Int32} (d : decode cc pc = .ok (.ior, 1)) (kk : zV O p l e R s m args below meth c nL Q (pc + 1) ls (.int (x ||| y) :: st) G kc ks) : zV O p l e R s m args below meth c nL Q pc ls (.int y :: .int x :: st) G kc ks := fun H locs la hl hP hL => lv_ior C.1 C.2.1 d (kk H locs la hl hP hL)
theorem zv_ixor (C : zC O p l s m meth c own cc nL) {x y : Int32} (d : decode cc pc = .ok (.ixor, 1)) (kk : zV O p l e R s m args below meth c nL Q (pc + 1) ls (.int (x ^^^ y) :: st) G kc ks) : zV O p l e R s m args below meth c nL Q pc ls (.int y :: .int x :: st) G kc ks := fun H locs la hl hP hL => lv_ixor C.1 C.2.1 d (kk H locs la hl hP hL)
theorem zv_ladd (C : zC O p l s m meth c own cc nL) {x y : Int64} (d : decode cc pc = .ok (.ladd, 1)) (kk : zV O p l e R s m args below meth c nL Q (pc + 1) ls (.long (x + y) :: st) G kc ks) : zV O p l e R s m args below meth c nL Q pc ls (.long y :: .long x :: st) G kc ks := fun H locs la hl hP hL => lv_ladd C.1 C.2.1 d (kk H locs la hl hP hL)
theorem zv_lsub (C : zC O p l s m meth c own cc nL) {x y : Int64} (d : decode cc pc = .ok (.lsub, 1)) (kk : zV O p l e R s m args below meth c nL Q (pc + 1) ls (.long (x - y) :: st) G kc ks) : zV O p l e R s m args below meth c nL Q pc ls (.long y :: .long x :: st) G kc ks := fun H locs la hl hP hL => lv_lsub C.1 C.2.1 d (kk H locs la hl hP hL)
theorem zv_lmul (C : zC O p l s m meth c own cc nL) {x y : Int64} (d : decode cc pc = .ok (.lmul, 1)) (kk : zV O p l e R s m args below meth c nL Q (pc + 1) ls (.long (x * y) :: st) G kc ks) : zV O p l e R s m args below meth c nL Q pc ls (.long y :: .long x :: st) G kc ks := fun H locs la hl hP hL => lv_lmul C.1 C.2.1 d (kk H locs la hl hP hL)
theorem zv_idiv (C : zC O p l s m meth c own cc nL) {x y : Int32} (d : decode cc pc = .ok (.idiv, 1)) (hne : ¬ y = 0) (kk : zV O p l e R s m args below meth c nL Q (pc + 1) ls (.int (x / y) :: st) G kc ks) : zV O p l e R s m args below meth c nL Q pc ls (.int y :: .int x :: st) G kc ks := fun H locs la hl hP hL => lv_idiv C.1 C.2.1 d hne (kk H locs la hl hP hL)
theorem zv_irem (C : zC O p l s m meth c own cc nL) {x y : Int32} (d : decode cc pc = .ok (.irem, 1)) (hne : ¬ y = 0) (kk : zV O p l e R s m args below meth c nL Q (pc + 1) ls (.int (x - x / y * y) :: st) G kc ks) : zV O p l e R s m args below meth c nL Q pc ls (.int y :: .int x :: st) G kc ks := fun H locs la hl hP hL => lv_irem C.1 C.2.1 d hne (kk H locs la hl hP hL)
theorem zv_ldiv (C : zC O p l s m meth c own cc nL) {x y : Int64} (d : decode cc pc = .ok (.ldiv, 1)) (hne : ¬ y = 0) (kk : zV O p l e R s m args below meth c nL Q (pc + 1) ls (.long (x / y) :: st) G kc ks) : zV O p l e R s m args below meth c nL Q pc ls (.long y :: .long x :: st) G kc ks := fun H locs la hl hP hL => lv_ldiv C.1 C.2.1 d hne (kk H locs la hl hP hL)
theorem zv_lrem (C : zC O p l s m meth c own cc nL) {x y : Int64} (d : decode cc pc = .ok (.lrem, 1)) (hne : ¬ y = 0) (kk : zV O p l e R s m args below meth c nL Q (pc + 1) ls (.long (x - x / y * y) :: st) G kc ks) : zV O p l e R s m args below meth c nL Q pc ls (.long y :: .long x :: st) G kc ks := fun H locs la hl hP hL => lv_lrem C.1 C.2.1 d hne (kk H locs la hl hP hL)
theorem zv_ineg (C : zC O p l s m meth c own cc nL) {x : Int32} (d : decode cc pc = .ok (.ineg, 1)) (kk : zV O p l e R s m args below meth c nL Q (pc + 1) ls (.int (-x) :: st) G kc ks) : zV O p l e R s m args below meth c nL Q pc ls (.int x :: st) G kc ks := fun H locs la hl hP hL => lv_ineg C.1 C.2.1 d (kk H locs la hl hP hL)
theorem zv_lneg (C : zC O p l s m meth c own cc nL) {x : Int64} (d : decode cc pc = .ok (.lneg, 1)) (kk : zV O p l e R s m args below meth c nL Q (pc + 1) ls (.long (-x) :: st) G kc ks) : zV O p l e R s m args below meth c nL Q pc ls (.long x :: st) G kc ks := fun H locs la hl hP hL => lv_lneg C.1 C.2.1 d (kk H locs la hl hP hL)
theorem zv_i2l (C : zC O p l s m meth c own cc nL) {x : Int32} (d : decode cc pc = .ok (.i2l, 1)) (kk : zV O p l e R s m args below meth c nL Q (pc + 1) ls (.long x.toInt64 :: st) G kc ks) : zV O p l e R s m args below meth c nL Q pc ls (.int x :: st) G kc ks := fun H locs la hl hP hL => lv_i2l C.1 C.2.1 d rfl (kk H locs la hl hP hL)
theorem zv_l2i (C : zC O p l s m meth c own cc nL) {x : Int64} (d : decode cc pc = .ok (.l2i, 1)) (kk : zV O p l e R s m args below meth c nL Q (pc + 1) ls (.int x.toInt32 :: st) G kc ks) : zV O p l e R s m args below meth c nL Q pc ls (.long x :: st) G kc ks := fun H locs la hl hP hL => lv_l2i C.1 C.2.1 d rfl (kk H locs la hl hP hL)
theorem zv_lcmp (C : zC O p l s m meth c own cc nL) {x y : Int64} (d : decode cc pc = .ok (.lcmp, 1)) (kk : zV O p l e R s m args below meth c nL Q (pc + 1) ls (.int (lg_cmp x y) :: st) G kc ks) : zV O p l e R s m args below meth c nL Q pc ls (.long y :: .long x :: st) G kc ks := fun H locs la hl hP hL => W.lcmp C.1 C.2.1 d (kk H locs la hl hP hL)
theorem zv_dup (C : zC O p l s m meth c own cc nL) {v : Value} (d : decode cc pc = .ok (.dup, 1)) (hv : v.category = 1) (kk : zV O p l e R s m args below meth c nL Q (pc + 1) ls (v :: v :: st) G kc ks) : zV O p l e R s m args below meth c nL Q pc ls (v :: st) G kc ks := fun H locs la hl hP hL => lv_dup C.1 C.2.1 d hv (kk H locs la hl hP hL)
theorem zv_pop (C : zC O p l s m meth c own cc nL) {v : Value} (d : decode cc pc = .ok (.pop, 1)) (hv : v.category = 1) (kk : zV O p l e R s m args below meth c nL Q (pc + 1) ls st G kc ks) : zV O p l e R s m args below meth c nL Q pc ls (v :: st) G kc ks := fun H locs la hl hP hL => lv_pop C.1 C.2.1 d hv (kk H locs la hl hP hL)
theorem zv_pop2 (C : zC O p l s m meth c own cc nL) {v : Value} (d : decode cc pc = .ok (.pop2, 1)) (hv : v.category = 2) (kk : zV O p l e R s m args below meth c nL Q (pc + 1) ls st G kc ks) : zV O p l e R s m args below meth c nL Q pc ls (v :: st) G kc ks := fun H locs la hl hP hL => lv_pop2_2 C.1 C.2.1 d hv (kk H locs la hl hP hL)
theorem zv_dup_x1 (C : zC O p l s m meth c own cc nL) {v w : Value} (d : decode cc pc = .ok (.dup_x1, 1)) (hv : v.category = 1) (hw : w.category = 1) (kk : zV O p l e R s m args below meth c nL Q (pc + 1) ls (v :: w :: v :: st) G kc ks) : zV O p l e R s m args below meth c nL Q pc ls (v :: w :: st) G kc ks := fun H locs la hl hP hL => lv_dup_x1 C.1 C.2.1 d hv hw (kk H locs la hl hP hL)
theorem zv_dup_x2 (C : zC O p l s m meth c own cc nL) {v w u : Value} (d : decode cc pc = .ok (.dup_x2, 1)) (hv : v.category = 1) (hw : w.category = 1) (hu : u.category = 1) (kk : zV O p l e R s m args below meth c nL Q (pc + 1) ls (v :: w :: u :: v :: st) G kc ks) : zV O p l e R s m args below meth c nL Q pc ls (v :: w :: u :: st) G kc ks := fun H locs la hl hP hL => lv_dup_x2 C.1 C.2.1 d hv hw hu (kk H locs la hl hP hL)
theorem zv_dup2 (C : zC O p l s m meth c own cc nL) {v w : Value} (d : decode cc pc = .ok (.dup2, 1)) (hv : v.category = 1) (hw : w.category = 1) (kk : zV O p l e R s m args below meth c nL Q (pc + 1) ls (v :: w :: v :: w :: st) G kc ks) : zV O p l e R s m args below meth c nL Q pc ls (v :: w :: st) G kc ks := fun H locs la hl hP hL => lv_dup2_11 C.1 C.2.1 d hv hw (kk H locs la hl hP hL)
theorem zv_dup2l (C : zC O p l s m meth c own cc nL) {v : Value} (d : decode cc pc = .ok (.dup2, 1)) (hv : v.category = 2) (kk : zV O p l e R s m args below meth c nL Q (pc + 1) ls (v :: v :: st) G kc ks) : zV O p l e R s m args below meth c nL Q pc ls (v :: st) G kc ks := fun H locs la hl hP hL => lv_dup2_2 C.1 C.2.1 d hv (kk H locs la hl hP hL)
theorem zv_if_eq (C : zC O p l s m meth c own cc nL) {x : Int32} {off : Int} {tgt : Nat} (d : decode cc pc = .ok (.ifCond .eq off, 3)) (ht : (pc : Int) + off = (tgt : Int)) (kt : x = 0 → zV O p l e R s m args below meth c nL Q tgt ls st G kc ks) (kf : ¬ x = 0 → zV O p l e R s m args below meth c nL Q (pc + 3) ls st G kc ks) : zV O p l e R s m args below meth c nL Q pc ls (.int x :: st) G kc ks := fun H locs la hl hP hL => lv_if_eq C.1 C.2.1 d ht (fun h => kt h H locs la hl hP hL) (fun h => kf h H locs la hl hP hL)
theorem zv_icmp_eq (C : zC O p l s m meth c own cc nL) {x y : Int32} {off : Int} {tgt : Nat} (d : decode cc pc = .ok (.if_icmp .eq off, 3)) (ht : (pc : Int) + off = (tgt : Int)) (kt : x = y → zV O p l e R s m args below meth c nL Q tgt ls st G kc ks) (kf : ¬ x = y → zV O p l e R s m args below meth c nL Q (pc + 3) ls st G kc ks) : zV O p l e R s m args below meth c nL Q pc ls (.int y :: .int x :: st) G kc ks := fun H locs la hl hP hL => lv_icmp_eq C.1 C.2.1 d ht (fun h => kt h H locs la hl hP hL) (fun h => kf h H locs la hl hP hL)
theorem zv_if_ne (C : zC O p l s m meth c own cc nL) {x : Int32} {off : Int} {tgt : Nat} (d : decode cc pc = .ok (.ifCond .ne off, 3)) (ht : (pc : Int) + off = (tgt : Int)) (kt : ¬ x = 0 → zV O p l e R s m args below meth c nL Q tgt ls st G kc ks) (kf : x = 0 → zV O p l e R s m args below meth c nL Q (pc + 3) ls st G kc ks) : zV O p l e R s m args below meth c nL Q pc ls (.int x :: st) G kc ks := fun H locs la hl hP hL => lv_if_ne C.1 C.2.1 d ht (fun h => kt h H locs la hl hP hL) (fun h => kf h H locs la hl hP hL)
theorem zv_icmp_ne (C : zC O p l s m meth c own cc nL) {x y : Int32} {off : Int} {tgt : Nat} (d : decode cc pc = .ok (.if_icmp .ne off, 3)) (ht : (pc : Int) + off = (tgt : Int)) (kt : ¬ x = y → zV O p l e R s m args below meth c nL Q tgt ls st G kc ks) (kf : x = y → zV O p l e R s m args below meth c nL Q (pc + 3) ls st G kc ks) : zV O p l e R s m args below meth c nL Q pc ls (.int y :: .int x :: st) G kc ks := fun H locs la hl hP hL => lv_icmp_ne C.1 C.2.1 d ht (fun h => kt h H locs la hl hP hL) (fun h => kf h H locs la hl hP hL)
theorem zv_if_lt (C : zC O p l s m meth c own cc nL) {x : Int32} {off : Int} {tgt : Nat} (d : decode cc pc = .ok (.ifCond .lt off, 3)) (ht : (pc : Int) + off = (tgt : Int)) (kt : x < 0 → zV O p l e R s m args below meth c nL Q tgt ls st G kc ks) (kf : ¬ x < 0 → zV O p l e R s m args below meth c nL Q (pc + 3) ls st G kc ks) : zV O p l e R s m args below meth c nL Q pc ls (.int x :: st) G kc ks := fun H locs la hl hP hL => lv_if_lt C.1 C.2.1 d ht (fun h => kt h H locs la hl hP hL) (fun h => kf h H locs la hl hP hL)
theorem zv_icmp_lt (C : zC O p l s m meth c own cc nL) {x y : Int32} {off : Int} {tgt : Nat} (d : decode cc pc = .ok (.if_icmp .lt off, 3)) (ht : (pc : Int) + off = (tgt : Int)) (kt : x < y → zV O p l e R s m args below meth c nL Q tgt ls st G kc ks) (kf : ¬ x < y → zV O p l e R s m args below meth c nL Q (pc + 3) ls st G kc ks) : zV O p l e R s m args below meth c nL Q pc ls (.int y :: .int x :: st) G kc ks := fun H locs la hl hP hL => lv_icmp_lt C.1 C.2.1 d ht (fun h => kt h H locs la hl hP hL) (fun h => kf h H locs la hl hP hL)
theorem zv_if_ge (C : zC O p l s m meth c own cc nL) {x : Int32} {off : Int} {tgt : Nat} (d : decode cc pc = .ok (.ifCond .ge off, 3)) (ht : (pc : Int) + off = (tgt : Int)) (kt : 0 ≤ x → zV O p l e R s m args below meth c nL Q tgt ls st G kc ks) (kf : ¬ 0 ≤ x → zV O p l e R s m args below meth c nL Q (pc + 3) ls st G kc ks) : zV O p l e R s m args below meth c nL Q pc ls (.int x :: st) G kc ks := fun H locs la hl hP hL => lv_if_ge C.1 C.2.1 d ht (fun h => kt h H locs la hl hP hL) (fun h => kf h H locs la hl hP hL)
theorem zv_icmp_ge (C : zC O p l s m meth c own cc nL) {x y : Int32} {off : Int} {tgt : Nat} (d : decode cc pc = .ok (.if_icmp .ge off, 3)) (ht : (pc : Int) + off = (tgt : Int)) (kt : y ≤ x → zV O p l e R s m args below meth c nL Q tgt ls st G kc ks) (kf : ¬ y ≤ x → zV O p l e R s m args below meth c nL Q (pc + 3) ls st G kc ks) : zV O p l e R s m args below meth c nL Q pc ls (.int y :: .int x :: st) G kc ks := fun H locs la hl hP hL => lv_icmp_ge C.1 C.2.1 d ht (fun h => kt h H locs la hl hP hL) (fun h => kf h H locs la hl hP hL)
theorem zv_if_gt (C : zC O p l s m meth c own cc nL) {x : Int32} {off : Int} {tgt : Nat} (d : decode cc pc = .ok (.ifCond .gt off, 3)) (ht : (pc : Int) + off = (tgt : Int)) (kt : 0 < x → zV O p l e R s m args below meth c nL Q tgt ls st G kc ks) (kf : ¬ 0 < x → zV O p l e R s m args below meth c nL Q (pc + 3) ls st G kc ks) : zV O p l e R s m args below meth c nL Q pc ls (.int x :: st) G kc ks := fun H locs la hl hP hL => lv_if_gt C.1 C.2.1 d ht (fun h => kt h H locs la hl hP hL) (fun h => kf h H locs la hl hP hL)
theorem zv_icmp_gt (C : zC O p l s m meth c own cc nL) {x y : Int32} {off : Int} {tgt : Nat} (d : decode cc pc = .ok (.if_icmp .gt off, 3)) (ht : (pc : Int) + off = (tgt : Int)) (kt : y < x → zV O p l e R s m args below meth c nL Q tgt ls st G kc ks) (kf : ¬ y < x → zV O p l e R s m args below meth c nL Q (pc + 3) ls st G kc ks) : zV O p l e R s m args below meth c nL Q pc ls (.int y :: .int x :: st) G kc ks := fun H locs la hl hP hL => lv_icmp_gt C.1 C.2.1 d ht (fun h => kt h H locs la hl hP hL) (fun h => kf h H locs la hl hP hL)
theorem zv_if_le (C : zC O p l s m meth c own cc nL) {x : Int32} {off : Int} {tgt : Nat} (d : decode cc pc = .ok (.ifCond .le off, 3)) (ht : (pc : Int) + off = (tgt : Int)) (kt : x ≤ 0 → zV O p l e R s m args below meth c nL Q tgt ls st G kc ks) (kf : ¬ x ≤ 0 → zV O p l e R s m args below meth c nL Q (pc + 3) ls st G kc ks) : zV O p l e R s m args below meth c nL Q pc ls (.int x :: st) G kc ks := fun H locs la hl hP hL => lv_if_le C.1 C.2.1 d ht (fun h => kt h H locs la hl hP hL) (fun h => kf h H locs la hl hP hL)
theorem zv_icmp_le (C : zC O p l s m meth c own cc nL) {x y : Int32} {off : Int} {tgt : Nat} (d : decode cc pc = .ok (.if_icmp .le off, 3)) (ht : (pc : Int) + off = (tgt : Int)) (kt : x ≤ y → zV O p l e R s m args below meth c nL Q tgt ls st G kc ks) (kf : ¬ x ≤ y → zV O p l e R s m args below meth c nL Q (pc + 3) ls st G kc ks) : zV O p l e R s m args below meth c nL Q pc ls (.int y :: .int x :: st) G kc ks := fun H locs la hl hP hL => lv_icmp_le C.1 C.2.1 d ht (fun h => kt h H locs la hl hP hL) (fun h => kf h H locs la hl hP hL)
theorem zv_goto (C : zC O p l s m meth c own cc nL) {off : Int} {tgt : Nat} (d : decode cc pc = .ok (.goto off, 3)) (ht : (pc : Int) + off = (tgt : Int)) (kk : zV O p l e R s m args below meth c nL Q tgt ls st G kc ks) : zV O p l e R s m args below meth c nL Q pc ls st G kc ks := fun H locs la hl hP hL => lv_goto C.1 C.2.1 d ht (kk H locs la hl hP hL)
theorem zv_ifnull (C : zC O p l s m meth c own cc nL) {x : Nat} {off : Int} (d : decode cc pc = .ok (.ifnull off, 3)) (kk : zV O p l e R s m args below meth c nL Q (pc + 3) ls st G kc ks) : zV O p l e R s m args below meth c nL Q pc ls (.ref x :: st) G kc ks := fun H locs la hl hP hL => lv_ifnull C.1 C.2.1 d (kk H locs la hl hP hL)
theorem zv_ifnullN (C : zC O p l s m meth c own cc nL) {off : Int} {tgt : Nat} (d : decode cc pc = .ok (.ifnull off, 3)) (ht : (pc : Int) + off = (tgt : Int)) (kk : zV O p l e R s m args below meth c nL Q tgt ls st G kc ks) : zV O p l e R s m args below meth c nL Q pc ls (.null :: st) G kc ks := fun H locs la hl hP hL => lv_ifnullN C.1 C.2.1 d ht (kk H locs la hl hP hL)
theorem zv_ifnonnull (C : zC O p l s m meth c own cc nL) {x : Nat} {off : Int} {tgt : Nat} (d : decode cc pc = .ok (.ifnonnull off, 3)) (ht : (pc : Int) + off = (tgt : Int)) (kk : zV O p l e R s m args below meth c nL Q tgt ls st G kc ks) : zV O p l e R s m args below meth c nL Q pc ls (.ref x :: st) G kc ks := fun H locs la hl hP hL => lv_ifnonnull C.1 C.2.1 d ht (kk H locs la hl hP hL)
theorem zv_ifnonnullN (C : zC O p l s m meth c own cc nL) {off : Int} (d : decode cc pc = .ok (.ifnonnull off, 3)) (kk : zV O p l e R s m args below meth c nL Q (pc + 3) ls st G kc ks) : zV O p l e R s m args below meth c nL Q pc ls (.null :: st) G kc ks := fun H locs la hl hP hL => lv_ifnonnullN C.1 C.2.1 d (kk H locs la hl hP hL)
theorem zv_tabOut (C : zC O p l s m meth c own cc nL) {dflt lo hi : Int} {offs : Array Int} {len : Nat} {x : Int32} {tgt : Nat} (d : decode cc pc = .ok (.tableswitch dflt lo hi offs, len)) (h : x.toInt < lo ∨ hi < x.toInt) (ht : (pc : Int) + dflt = (tgt : Int)) (kk : zV O p l e R s m args below meth c nL Q tgt ls st G kc ks) : zV O p l e R s m args below meth c nL Q pc ls (.int x :: st) G kc ks := fun H locs la hl hP hL => lv_tableOut C.1 C.2.1 d h ht (kk H locs la hl hP hL)
theorem zv_tabIn (C : zC O p l s m meth c own cc nL) {dflt lo hi : Int} {offs : Array Int} {len : Nat} {x : Int32} {off : Int} {tgt : Nat} (d : decode cc pc = .ok (.tableswitch dflt lo hi offs, len)) (h1 : ¬ x.toInt < lo) (h2 : ¬ hi < x.toInt) (ho : offs[(x.toInt - lo).toNat]? = some off) (ht : (pc : Int) + off = (tgt : Int)) (kk : zV O p l e R s m args below meth c nL Q tgt ls st G kc ks) : zV O p l e R s m args below meth c nL Q pc ls (.int x :: st) G kc ks := fun H locs la hl hP hL => lv_tableIn C.1 C.2.1 d h1 h2 ho ht (kk H locs la hl hP hL)
theorem zv_lookup (C : zC O p l s m meth c own cc nL) {dflt : Int} {ps : Array (Int × Int)} {len : Nat} {x : Int32} {off : Int} {tgt : Nat} (d : decode cc pc = .ok (.lookupswitch dflt ps, len)) (hp : (ps.toList.zip (ps.toList.drop 1)).all (fun (a, next) => a.1 < next.1) = true) (ho : Op.lookupswitch.offset ps.toList dflt x.toInt = off) (ht : (pc : Int) + off = (tgt : Int)) (kk : zV O p l e R s m args below meth c nL Q tgt ls st G kc ks) : zV O p l e R s m args below meth c nL Q pc ls (.int x :: st) G kc ks := fun H locs la hl hP hL => lv_lookup C.1 C.2.1 d hp ho ht (kk H locs la hl hP hL)
theorem zv_iinc (C : zC O p l s m meth c own cc nL) {i : Nat} {n : Int} {x v : Int32} (d : decode cc pc = .ok (.iinc i n, 3)) (h : ls.lookup i = some (.int x)) (hv : x + Int32.ofInt n = v) (hn : i < nL) (kk : zV O p l e R s m args below meth c nL Q (pc + 3) (zs1 ls i (.int v)) st G kc ks) : zV O p l e R s m args below meth c nL Q pc ls st G kc ks := fun H locs la hl hP hL => by
  obtain ⟨k, hk⟩ := List.getElem?_of_mem (zl_mem h)
  exact lv_iinc C.1 C.2.1 d hl hk hv hn rfl (fun la' hl' => kk H locs la' hl' hP hL)
theorem zv_pick {l' : List (Nat × Value)} (is : List Nat) (h : zpk ls is = some l') (kk : zV O p l e R s m args below meth c nL Q pc l' st G kc ks) : zV O p l e R s m args below meth c nL Q pc ls st G kc ks := fun H locs la hl hP hL => kk H locs la (zpk_has hl is h) hP hL
theorem zv_widen {k n : Nat} (h1 : kc ≤ k) (h2 : ks ≤ n) (kk : zV O p l e R s m args below meth c nL Q pc ls st G k n) : zV O p l e R s m args below meth c nL Q pc ls st G kc ks := fun H locs la hl hP hL => W.widen h1 h2 (kk H locs la hl hP hL)
/-- less is known of the heap -/
theorem zv_less {G' : zG} (h : ∀ a x, G' a = some x → G a = some x) (kk : zV O p l e R s m args below meth c nL Q pc ls st G' kc ks) : zV O p l e R s m args below meth c nL Q pc ls st G kc ks := fun H locs la hl hP hL => kk H locs la hl ⟨hP.1, hP.2.1, fun a x hx => hP.2.2 a x (h a x hx)⟩ hL
/-- a field that an instruction names -/
def zF (own : String) (ix ci k : Nat) (Cn : String) (T : u_T) (N : Nat) : Prop := vwCl[ci]? = some (Cn, T, N) ∧ k < N ∧ (∀ w ∈ u_ws Cn T N, w ∈ zT) ∧ Cond.fieldLink own ix (T k).1 (T k).2.1 (T k).2.2.1 ∈ zT
def zFw (T : u_T) (N : Nat) (ty : Nat → FieldType) : Prop := (∀ k, k < N → parseFieldDescriptor (T k).2.2.1 = some (ty k)) ∧ (∀ a, a < N → ∀ b, b < N → a ≠ b → (T a).2.1 ≠ (T b).2.1)
theorem zv_get (C : zC O p l s m meth c own cc nL) {ix ci k N a : Nat} {Cn : String} {T : u_T} {fs : List Value} {v : Value} (d : decode cc pc = .ok (.getfield ix, 3)) (F : zF own ix ci k Cn T N) (hG : G a = some (.inr (ci, fs))) (hv : fs[k]? = some v) (kk : zV O p l e R s m args below meth c nL Q (pc + 3) ls (v :: st) G kc ks) : zV O p l e R s m args below meth c nL Q pc ls (.ref a :: st) G kc ks := fun H locs la hl hP hL =>
  va_get C.1 C.2.1 (C.w args) F.2.2.1 C.2.2.2.1 C.K (hP.one hG) 0 rfl F.1 k F.2.1 (C.w args _ F.2.2.2) (fun _ h => h) hv d (kk H locs la hl hP hL)
theorem zL_in {O : zO} {locs : List Loc} {a i : Nat} (hL : ∀ z ∈ locs, O.2.2.heap.size ≤ z.base) (ha : O.2.2.heap.size ≤ a) : ∀ z ∈ locs ++ [(⟨a, i⟩ : Loc)], O.2.2.heap.size ≤ z.base := by
  intro z hz
  rcases List.mem_append.mp hz with h | h
  · exact hL z h
  · rw [List.mem_singleton.mp h]; exact ha
theorem zv_put (C : zC O p l s m meth c own cc nL) {ix ci k N a : Nat} {Cn : String} {T : u_T} {ty0 : Nat → FieldType} {fs : List Value} {v : Value} {ty : FieldType} (d : decode cc pc = .ok (.putfield ix, 3)) (F : zF own ix ci k Cn T N) (F2 : zFw T N ty0) (hG : G a = some (.inr (ci, fs))) (hfin : (T k).2.2.2 = false) (hd : parseFieldDescriptor (T k).2.2.1 = some ty) (hn : narrow ty v = v) (hfit : fits ty v = true) (hlen : k < fs.length) (kk : zV O p l e R s m args below meth c nL Q (pc + 3) ls st (zu G a (.inr (ci, fs.set k v))) kc ks) : zV O p l e R s m args below meth c nL Q pc ls (v :: .ref a :: st) G kc ks := fun H locs la hl hP hL => by
  obtain ⟨hc, hk, hin, hlink⟩ := F
  obtain ⟨hty, hnm⟩ := F2
  have hts := C.w args
  have hK := C.K
  have hap := va_apart (own := own) hts hin ty0 hty hnm hK hc
  obtain ⟨r, h1, cell, q1, q2, q3, q4⟩ := (hP.2.2 a _ hG).2
  have hr : r = (Cn, T, N) := Option.some.inj (h1.symm.trans hc)
  subst hr
  obtain ⟨hS, hfc, kC, hkC, hkind⟩ := hK.1 ci _ hc
  obtain ⟨cf, kf, fi, f, hi, hsl⟩ := hS k hk
  have hlay := hts _ (hin _ (u_in_lay hk))
  unfold u_lay at hlay
  rw [if_neg (by rw [hfin]; decide)] at hlay
  have hst := (u_facts hfc hkC (u_lays hts hin hk) hi).1
  have h6 := u_store hfc hkC hkind hlay hi hd hn hfit
  refine W.putK C.1 C.2.1 (f := f) ⟨C.2.2.2.1, hts _ hlink, ⟨_, _, _, hi⟩, hst⟩ (by rw [q2]; exact h6) q1 q3 (by rw [hsl]; exact k2_hasslot (q4 k hk)) rfl rfl d fun H' e1 e2 e3 => ?_
  rw [hsl] at e1 ⊢
  exact kk H' _ la hl (hP.set hG ⟨_, hc, t_OB.to (V := updV (vp_V fs) k v) ⟨_, e1, q2, q3, t_set q4 hap hk v⟩ (fun j _ => vp_updV_set hlen v j)⟩ e2 e3) (zL_in hL (hP.2.2 a _ hG).1)
theorem zv_putF (C : zC O p l s m meth c own cc nL) {ix ci k N a : Nat} {Cn : String} {T : u_T} {ty0 : Nat → FieldType} {fs : List Value} {v : Value} {ty : FieldType} (d : decode cc pc = .ok (.putfield ix, 3)) (F : zF own ix ci k Cn T N) (F2 : zFw T N ty0) (hin2 : meth.name = "<init>") (hG : G a = some (.inr (ci, fs))) (hfin : (T k).2.2.2 = true) (hdecl : (T k).1 = own) (hd : parseFieldDescriptor (T k).2.2.1 = some ty) (hn : narrow ty v = v) (hfit : fits ty v = true) (hlen : k < fs.length) (kk : zV O p l e R s m args below meth c nL Q (pc + 3) ls st (zu G a (.inr (ci, fs.set k v))) kc ks) : zV O p l e R s m args below meth c nL Q pc ls (v :: .ref a :: st) G kc ks := fun H locs la hl hP hL => by
  obtain ⟨hc, hk, hin, hlink⟩ := F
  obtain ⟨hty, hnm⟩ := F2
  have hts := C.w args
  have hK := C.K
  have hown := C.2.2.2.1
  have hap := va_apart (own := own) hts hin ty0 hty hnm hK hc
  obtain ⟨r, h1, cell, q1, q2, q3, q4⟩ := (hP.2.2 a _ hG).2
  have hr : r = (Cn, T, N) := Option.some.inj (h1.symm.trans hc)
  subst hr
  obtain ⟨hS, hfc, kC, hkC, hkind⟩ := hK.1 ci _ hc
  obtain ⟨cf, kf, fi, f, hi, hsl⟩ := hS k hk
  have hlay := hts _ (hin _ (u_in_lay hk))
  unfold u_lay at hlay
  rw [if_pos hfin] at hlay
  have hst := (u_facts hfc hkC (u_lays hts hin hk) hi).1
  have hcf : m.cls = cf := by
    obtain ⟨_, _, c', _, _, _, -, -, hf', -, -, -, hown2, -⟩ := Cond.laysFinal_spec hlay
    have e1 : c' = cf := by have := hi.symm.trans hf'; simp at this; exact this.1.symm
    rw [hdecl] at hown2
    rw [← e1]; exact Option.some.inj (hown.symm.trans hown2)
  have h6 := u_fits hfc hkC hkind (Or.inr hlay) hi hd hn hfit
  refine W.putFinK C.1 C.2.1 hown (hts _ hlink) hi hst hcf hin2 (by rw [q2]; exact h6) q1 q3 (by rw [hsl]; exact k2_hasslot (q4 k hk)) rfl rfl d fun H' e1 e2 e3 => ?_
  rw [hsl] at e1 ⊢
  exact kk H' _ la hl (hP.set hG ⟨_, hc, t_OB.to (V := updV (vp_V fs) k v) ⟨_, e1, q2, q3, t_set q4 hap hk v⟩ (fun j _ => vp_updV_set hlen v j)⟩ e2 e3) (zL_in hL (hP.2.2 a _ hG).1)
/-- arrays: of ints, of longs, of booleans, of references -/
def zA (O : zO) (t : Nat) : ClassId := ((O.2.1[t]?).map (fun q => q.1)).getD 0
def zI (O : zO) (n : Nat) (f : Nat → Int32) : va_E := .inl (zA O 0, n, .inl f)
def zJ (O : zO) (n : Nat) (f : Nat → Int64) : va_E := .inl (zA O 1, n, .inr (.inl f))
def zB (O : zO) (n : Nat) (f : Nat → Int32) : va_E := .inl (zA O 2, n, .inl f)
def zQ (O : zO) (t n : Nat) (f : Nat → Option Nat) : va_E := .inl (zA O t, n, .inr (.inr (.inr (.inr f))))
theorem zA_at {O : zO} {t : Nat} {ty : FieldType} (h : (O.2.1[t]?).map (fun q => q.2) = some ty) : O.2.1[t]? = some (zA O t, ty) := by
  cases hq : O.2.1[t]? with
  | none => rw [hq] at h; cases h
  | some q =>
    rw [hq] at h
    simp only [Option.map_some, Option.some.injEq] at h
    simp [zA, hq, ← h]
theorem zv_iald (C : zC O p l s m meth c own cc nL) {a n : Nat} {f : Nat → Int32} {i : Int32} (d : decode cc pc = .ok (.iaload, 1)) (hG : G a = some (zI O n f)) (hin : vp_in i n) (kk : zV O p l e R s m args below meth c nL Q (pc + 1) ls (.int (f i.toNatClampNeg) :: st) G kc ks) : zV O p l e R s m args below meth c nL Q pc ls (.int i :: .ref a :: st) G kc ks := fun H locs la hl hP hL =>
  va_iald C.1 C.2.1 C.K (hP.one hG) 0 0 rfl (zA_at (C.t 0 rfl)) hin d (kk H locs la hl hP hL)
theorem zv_lald (C : zC O p l s m meth c own cc nL) {a n : Nat} {f : Nat → Int64} {i : Int32} (d : decode cc pc = .ok (.laload, 1)) (hG : G a = some (zJ O n f)) (hin : vp_in i n) (kk : zV O p l e R s m args below meth c nL Q (pc + 1) ls (.long (f i.toNatClampNeg) :: st) G kc ks) : zV O p l e R s m args below meth c nL Q pc ls (.int i :: .ref a :: st) G kc ks := fun H locs la hl hP hL =>
  va_lald C.1 C.2.1 C.K (hP.one hG) 0 1 rfl (zA_at (C.t 1 rfl)) hin d (kk H locs la hl hP hL)
theorem zv_zald (C : zC O p l s m meth c own cc nL) {a n : Nat} {f : Nat → Int32} {i : Int32} (d : decode cc pc = .ok (.baload, 1)) (hG : G a = some (zB O n f)) (hin : vp_in i n) (kk : zV O p l e R s m args below meth c nL Q (pc + 1) ls (.int (f i.toNatClampNeg) :: st) G kc ks) : zV O p l e R s m args below meth c nL Q pc ls (.int i :: .ref a :: st) G kc ks := fun H locs la hl hP hL =>
  va_zald C.1 C.2.1 C.K (hP.one hG) 0 2 rfl (zA_at (C.t 2 rfl)) hin d (kk H locs la hl hP hL)
theorem zv_aald (C : zC O p l s m meth c own cc nL) {a n : Nat} {f : Nat → Option Nat} {i : Int32} (d : decode cc pc = .ok (.aaload, 1)) (hG : G a = some (zQ O 3 n f)) (hin : vp_in i n) (kk : zV O p l e R s m args below meth c nL Q (pc + 1) ls (va_rf (f i.toNatClampNeg) :: st) G kc ks) : zV O p l e R s m args below meth c nL Q pc ls (.int i :: .ref a :: st) G kc ks := fun H locs la hl hP hL =>
  va_aldq C.1 C.2.1 C.K (hP.one hG) 0 3 rfl (zA_at (C.t 3 rfl)) hin d (kk H locs la hl hP hL)
theorem zv_alen (C : zC O p l s m meth c own cc nL) {a : Nat} {x : vp_A} (t : Nat) {ty : FieldType} {v : Int32} (d : decode cc pc = .ok (.arraylength, 1)) (ht : (O.2.1[t]?).map (fun q => q.2) = some ty) (hG : G a = some (.inl (zA O t, x))) (hv : Int32.ofNat x.1 = v) (kk : zV O p l e R s m args below meth c nL Q (pc + 1) ls (.int v :: st) G kc ks) : zV O p l e R s m args below meth c nL Q pc ls (.ref a :: st) G kc ks := fun H locs la hl hP hL =>
  va_alen C.1 C.2.1 C.K (hP.one hG) 0 t rfl (zA_at ht) hv d (kk H locs la hl hP hL)
theorem zv_iast (C : zC O p l s m meth c own cc nL) {a n : Nat} {f : Nat → Int32} {i x : Int32} (d : decode cc pc = .ok (.iastore, 1)) (hG : G a = some (zI O n f)) (hin : vp_in i n) (kk : zV O p l e R s m args below meth c nL Q (pc + 1) ls st (zu G a (zI O n (upd f i.toNatClampNeg x))) kc ks) : zV O p l e R s m args below meth c nL Q pc ls (.int x :: .int i :: .ref a :: st) G kc ks := fun H locs la hl hP hL => by
  refine W.iast C.1 C.2.1 (hP.2.2 a _ hG).2 ((C.K.2 0 _ (zA_at (C.t 0 rfl))).1 n (fun j => .int (f j))) (fun q => by cases q) (by show ¬ (i < 0 ∨ (arrV _ _ _).slots.size ≤ _); rw [arrV_size]; exact hin) rfl rfl d fun H1 e z oq => ?_
  refine kk H1 _ la hl (hP.set hG ?_ z oq) (zL_in hL (hP.2.2 a _ hG).1)
  show H1[a]? = some (vp_cell _ _)
  rw [e]
  rw [vp_cell_i, vp_cell_i, arrV_store]
  congr 2
  funext q
  by_cases hq : q = i.toNatClampNeg
  · subst hq
    simp [updV, upd]
  · simp [updV, upd, hq]
theorem zv_last (C : zC O p l s m meth c own cc nL) {a n : Nat} {f : Nat → Int64} {i : Int32} {x : Int64} (d : decode cc pc = .ok (.lastore, 1)) (hG : G a = some (zJ O n f)) (hin : vp_in i n) (kk : zV O p l e R s m args below meth c nL Q (pc + 1) ls st (zu G a (zJ O n (vp_updL f i.toNatClampNeg x))) kc ks) : zV O p l e R s m args below meth c nL Q pc ls (.long x :: .int i :: .ref a :: st) G kc ks := fun H locs la hl hP hL => by
  refine W.last C.1 C.2.1 (hP.2.2 a _ hG).2 ((C.K.2 1 _ (zA_at (C.t 1 rfl))).1 n (fun j => .long (f j))) (fun q => by cases q) (by show ¬ (i < 0 ∨ (arrV _ _ _).slots.size ≤ _); rw [arrV_size]; exact hin) rfl rfl d fun H1 e z oq => ?_
  refine kk H1 _ la hl (hP.set hG ?_ z oq) (zL_in hL (hP.2.2 a _ hG).1)
  show H1[a]? = some (vp_cell _ _)
  rw [e]
  rw [vp_cell_l, vp_cell_l, arrV_store]
  congr 2
  funext q
  by_cases hq : q = i.toNatClampNeg
  · subst hq
    simp [updV, vp_updL]
  · simp [updV, vp_updL, hq]
theorem zv_aast (C : zC O p l s m meth c own cc nL) {a n v : Nat} {vs : List Value} {f : Nat → Option Nat} {i : Int32} (d : decode cc pc = .ok (.aastore, 1)) (hG : G a = some (zQ O 3 n f)) (hv : G v = some (.inr (0, vs))) (hin : vp_in i n) (kk : zV O p l e R s m args below meth c nL Q (pc + 1) ls st (zu G a (zQ O 3 n (va_up f i.toNatClampNeg (some v)))) kc ks) : zV O p l e R s m args below meth c nL Q pc ls (.ref v :: .int i :: .ref a :: st) G kc ks := fun H locs la hl hP hL => by
  have hlt : i.toNatClampNeg < n := Nat.not_le.mp fun q => hin (Or.inr q)
  have h0 : ¬ i < 0 := fun q => hin (Or.inl q)
  obtain ⟨r', hr', cellV, g1, g2, g3, -⟩ := (hP.2.2 v _ hv).2
  have hcls := (C.K.1 0 (RBa, TBa, 9) rfl).2
  obtain ⟨kA, comp, k1, k2, k3, -⟩ := (C.K.2 3 _ (zA_at (C.t 3 rfl))).2
  have hcomp : comp = O.1.1 0 := Option.some.inj (k3.symm.trans hcls.1)
  subst hcomp
  obtain ⟨kC, hkC, -⟩ := hcls.2
  refine W.aast C.1 C.2.1 (hP.2.2 a _ hG).2 (fun q h => by cases h) (fun h => by cases h) k1 k2 rfl hkC ⟨h0, by show _ < (arrV _ _ _).slots.size; rw [arrV_size]; exact hlt⟩ g1 (fun q h => by rw [g3] at h; cases h) (by rw [g2]; exact hkC) (by rw [g2]; exact va_assign hcls) rfl rfl d fun H1 e z oq => ?_
  refine kk H1 _ la hl (hP.set hG ?_ z oq) (zL_in hL (hP.2.2 a _ hG).1)
  show H1[a]? = some (vp_cell _ _)
  rw [e]
  rw [vp_cell_q, vp_cell_q, arrV_store]
  congr 2
  funext q
  by_cases hq : q = i.toNatClampNeg
  · subst hq
    simp [updV, va_up, va_rf]
  · simp [updV, va_up, hq]
/-- what 'new' names -/
def zN (own : String) (ix ci : Nat) (Cn : String) (T : u_T) (N : Nat) : Prop := vwCl[ci]? = some (Cn, T, N) ∧ (∀ w ∈ u_ws Cn T N, w ∈ zT) ∧ Cond.classLink own ix Cn ∈ zT ∧ Cond.instantiable Cn N ∈ zT ∧ Cond.initialized Cn ∈ zT
theorem zv_new (C : zC O p l s m meth c own cc nL) {ix ci N : Nat} {Cn : String} {T : u_T} {ty : Nat → FieldType} {fs : List Value} (d : decode cc pc = .ok (.new ix, 3)) (F : zN own ix ci Cn T N) (hty : ∀ k, k < N → parseFieldDescriptor (T k).2.2.1 = some (ty k)) (hfs : ∀ j, j < N → defaultValue (ty j) = vp_V fs j) (hcells : kc + 1 ≤ R.cells) (hslots : ks + N ≤ R.slots) (kk : ∀ q : Nat, G q = none → zV O p l e R s m args below meth c nL Q (pc + 3) ls (.ref q :: st) (zu G q (.inr (ci, fs))) (kc + 1) (ks + N)) : zV O p l e R s m args below meth c nL Q pc ls st G kc ks := fun H locs la hl hP hL => by
  obtain ⟨hc, hin, w1, w2, w3⟩ := F
  have hts := C.w args
  have hKn := C.K.1 ci _ hc
  refine W.newcK C.1 C.2.1 C.2.2.2.1 (hts _ w1) (hts _ w2) (hts _ w3) rfl d hcells hslots hKn.2.1 rfl fun H1 kC hkC e1 z1 o1 => ?_
  obtain ⟨hn, hP1⟩ := hP.push (e := .inr (ci, fs)) ⟨_, hc, (u_born ty hts hin hKn hkC e1 hty).to hfs⟩ z1 o1
  exact kk _ hn H1 locs la hl hP1 hL
theorem zv_newa (C : zC O p l s m meth c own cc nL) (t : Nat) {atype : ArrayType} {ty : FieldType} {n : Int32} {N : Nat} {a0 : vp_A} (d : decode cc pc = .ok (.newarray atype, 2)) (hty : newarray.typeOf atype = ty) (w : Cond.arrayClass (newarray.typeOf atype) ∈ zT) (ht : ([.int, .long, .boolean, .object RBa] : List FieldType)[t]? = some ty) (hR : ∀ cA : ClassId, s.vm.findClass ("[" ++ ty.toString) = some cA → va_RA s (zA O t) ty → cA = zA O t) (ha : ∀ cA : ClassId, vp_cell cA a0 = arrV cA N (fun _ => defaultValue ty)) (hn : ¬ n < 0) (hN : n.toNatClampNeg = N) (hbytes : N * componentBytes ty ≤ 536870912) (hcells : kc + 1 ≤ R.cells) (hslots : ks + N ≤ R.slots) (kk : ∀ q : Nat, G q = none → zV O p l e R s m args below meth c nL Q (pc + 2) ls (.ref q :: st) (zu G q (.inl (zA O t, a0))) (kc + 1) (ks + N)) : zV O p l e R s m args below meth c nL Q pc ls (.int n :: st) G kc ks := fun H locs la hl hP hL => by
  subst hty
  refine va_newaK C.1 C.2.1 (C.w args _ w) rfl d rfl hn hN hbytes hcells hslots rfl fun H1 cA e1 z1 o1 hAr hNm => ?_
  have hc := hR cA hNm (C.K.2 t _ (zA_at (C.t t ht))).2
  subst hc
  obtain ⟨hn1, hP1⟩ := hP.push (e := .inl (zA O t, a0)) (show H1[H.size]? = some (vp_cell _ _) by rw [ha]; exact e1) z1 o1
  exact kk _ hn1 H1 locs la hl hP1 hL
theorem zv_anew (C : zC O p l s m meth c own cc nL) {ix : Nat} {n : Int32} {N : Nat} (d : decode cc pc = .ok (.anewarray ix, 3)) (w : Cond.classLink own ix RBa ∈ zT) (hn : ¬ n < 0) (hN : n.toNatClampNeg = N) (hbytes : N * 4 ≤ 536870912) (hcells : kc + 1 ≤ R.cells) (hslots : ks + N ≤ R.slots) (kk : ∀ q : Nat, G q = none → zV O p l e R s m args below meth c nL Q (pc + 3) ls (.ref q :: st) (zu G q (zQ O 3 N (fun _ => none))) (kc + 1) (ks + N)) : zV O p l e R s m args below meth c nL Q pc ls (.int n :: st) G kc ks := fun H locs la hl hP hL => by
  subst hN
  refine W.anew C.1 C.2.1 C.2.2.2.1 (C.w args _ w) (va_AO.use (va_AO.moved C.2.2.2.2.2.1.alike C.k.2.2.2.2.1)) rfl d rfl hn hbytes hcells hslots fun cA kA comp f1 f2 f3 f4 => ?_
  generalize hH1 : H.push ({ cls := cA, slots := Array.replicate n.toNatClampNeg .null, vm := .none } : Cell) = H1
  have z1 : H1.size = H.size + 1 := by rw [← hH1, Array.size_push]
  have e1 : H1[H.size]? = some (arrV cA n.toNatClampNeg (fun _ => .null)) := by rw [← hH1, Array.getElem?_push_size, ← arrV_new]
  have o1 : ∀ q : Nat, q < H.size → H1[q]? = H[q]? := fun q hq => by rw [← hH1, Array.getElem?_push, if_neg (Nat.ne_of_lt hq)]
  obtain ⟨kA2, comp2, g1, g2, g3, g4⟩ := (C.K.2 3 _ (zA_at (C.t 3 rfl))).2
  have hc : cA = zA O 3 := Option.some.inj (f1.symm.trans g4)
  subst hc
  obtain ⟨hn1, hP1⟩ := hP.push (e := zQ O 3 n.toNatClampNeg (fun _ => none)) (show H1[H.size]? = some (vp_cell _ _) by rw [vp_cell_q]; exact e1) z1 o1
  exact kk _ hn1 H1 locs la hl hP1 hL
theorem zv_newI (C : zC O p l s m meth c own cc nL) {n : Int32} (N : Nat) (d : decode cc pc = .ok (.newarray .int, 2)) (w : Cond.arrayClass .int ∈ zT) (hn : ¬ n < 0) (hN : n.toNatClampNeg = N) (hbytes : N * 4 ≤ 536870912) (hcells : kc + 1 ≤ R.cells) (hslots : ks + N ≤ R.slots) (kk : ∀ q : Nat, G q = none → zV O p l e R s m args below meth c nL Q (pc + 2) ls (.ref q :: st) (zu G q (zI O N (fun _ => 0))) (kc + 1) (ks + N)) : zV O p l e R s m args below meth c nL Q pc ls (.int n :: st) G kc ks :=
  zv_newa C 0 d rfl w rfl (fun cA h1 h2 => Option.some.inj (h1.symm.trans h2)) (a0 := (N, .inl (fun _ => 0))) (fun cA => by rw [vp_cell_i]; rfl) hn hN hbytes hcells hslots kk
theorem zv_newJ (C : zC O p l s m meth c own cc nL) {n : Int32} (N : Nat) (d : decode cc pc = .ok (.newarray .long, 2)) (w : Cond.arrayClass .long ∈ zT) (hn : ¬ n < 0) (hN : n.toNatClampNeg = N) (hbytes : N * 8 ≤ 536870912) (hcells : kc + 1 ≤ R.cells) (hslots : ks + N ≤ R.slots) (kk : ∀ q : Nat, G q = none → zV O p l e R s m args below meth c nL Q (pc + 2) ls (.ref q :: st) (zu G q (zJ O N (fun _ => 0))) (kc + 1) (ks + N)) : zV O p l e R s m args below meth c nL Q pc ls (.int n :: st) G kc ks :=
  zv_newa C 1 d rfl w rfl (fun cA h1 h2 => Option.some.inj (h1.symm.trans h2)) (a0 := (N, .inr (.inl (fun _ => 0)))) (fun cA => by rw [vp_cell_l]; rfl) hn hN hbytes hcells hslots kk
theorem zv_newB (C : zC O p l s m meth c own cc nL) {n : Int32} (N : Nat) (d : decode cc pc = .ok (.newarray .boolean, 2)) (w : Cond.arrayClass .boolean ∈ zT) (hn : ¬ n < 0) (hN : n.toNatClampNeg = N) (hbytes : N * 1 ≤ 536870912) (hcells : kc + 1 ≤ R.cells) (hslots : ks + N ≤ R.slots) (kk : ∀ q : Nat, G q = none → zV O p l e R s m args below meth c nL Q (pc + 2) ls (.ref q :: st) (zu G q (zB O N (fun _ => 0))) (kc + 1) (ks + N)) : zV O p l e R s m args below meth c nL Q pc ls (.int n :: st) G kc ks :=
  zv_newa C 2 d rfl w rfl (fun cA h1 h2 => Option.some.inj (h1.symm.trans h2)) (a0 := (N, .inl (fun _ => 0))) (fun cA => by rw [vp_cell_i]; rfl) hn hN hbytes hcells hslots kk
theorem zv_zast (C : zC O p l s m meth c own cc nL) {a n : Nat} {f : Nat → Int32} {i x : Int32} (d : decode cc pc = .ok (.bastore, 1)) (hG : G a = some (zB O n f)) (hin : vp_in i n) (kk : zV O p l e R s m args below meth c nL Q (pc + 1) ls st (zu G a (zB O n (upd f i.toNatClampNeg (vp_nar .boolean x)))) kc ks) : zV O p l e R s m args below meth c nL Q pc ls (.int x :: .int i :: .ref a :: st) G kc ks := fun H locs la hl hP hL => by
  refine W.zast C.1 C.2.1 (hP.2.2 a _ hG).2 ((C.K.2 2 _ (zA_at (C.t 2 rfl))).1 n (fun j => .int (f j))) (fun q => by cases q) (by show ¬ (i < 0 ∨ (arrV _ _ _).slots.size ≤ _); rw [arrV_size]; exact hin) rfl rfl d fun H1 e z oq => ?_
  refine kk H1 _ la hl (hP.set hG ?_ z oq) (zL_in hL (hP.2.2 a _ hG).1)
  show H1[a]? = some (vp_cell _ _)
  rw [e]
  rw [vp_cell_i, vp_cell_i, arrV_store]
  congr 2
  funext q
  by_cases hq : q = i.toNatClampNeg
  · subst hq
    simp [updV, upd]
    rfl
  · simp [updV, upd, hq]
theorem zv_objInit (C : zC O p l s m meth c own cc nL) {ix a : Nat} (d : decode cc pc = .ok (.invokespecial ix, 3)) (w1 : Cond.methodLink own ix Lib.objectInit ∈ zT) (w2 : Cond.instanceMethod Lib.objectInit ∈ zT) (w3 : Cond.code Lib.objectInit ⟨#[0xb1]⟩ 1 none ∈ zT) (hframes : 1 ≤ R.frames) (hlocals : (st.map fun v => v.category).sum + 12 ≤ R.locals) (kk : zV O p l e R s m args below meth c nL Q (pc + 3) ls st G kc ks) : zV O p l e R s m args below meth c nL Q pc ls (.ref a :: st) G kc ks := fun H locs la hl hP hL => by
  refine W.objInit C.1 C.2.1 C.2.2.2.1 (C.w args _ w1) (C.w args _ w2) (C.w args _ w3) rfl (by rw [C.2.2.1]; exact hl.1) rfl d hframes (by show 2 * 0 + _ + 12 ≤ _; omega) ?_
  exact kk H locs la hl hP hL
theorem zv_mmaxl (C : zC O p l s m meth c own cc nL) {ix : Nat} {x y : Int64} (d : decode cc pc = .ok (.invokestatic ix, 3)) (w1 : Cond.methodLink own ix Lib.MathLoose.max_long.x ∈ zT) (w2 : Cond.static Lib.MathLoose.max_long.x ∈ zT) (w3 : Cond.initialized "java/lang/Math" ∈ zT) (w4 : Cond.code Lib.MathLoose.max_long.x Lib.MathLoose.max_long.code 4 (some .long) ∈ zT) (hframes : 1 ≤ R.frames) (hlocals : (st.map fun v => v.category).sum + 15 ≤ R.locals) (hc : kc ≤ R.cells) (hs : ks ≤ R.slots) (kk : zV O p l e R s m args below meth c nL Q (pc + 3) ls (.long (if y < x then x else y) :: st) G kc ks) : zV O p l e R s m args below meth c nL Q pc ls (.long y :: .long x :: st) G kc ks := fun H locs la hl hP hL =>
  va_mmax_long C.1 C.2.1 (C.2.2.1.trans hl.1.symm) C.2.2.2.1 (C.w args _ w1) (C.w args _ w2) (C.w args _ w3) (C.w args _ w4) hframes hlocals hc hs d (kk H locs la hl hP hL)
theorem zv_mabsl (C : zC O p l s m meth c own cc nL) {ix : Nat} {x : Int64} (d : decode cc pc = .ok (.invokestatic ix, 3)) (w1 : Cond.methodLink own ix Lib.MathLoose.abs_long.x ∈ zT) (w2 : Cond.static Lib.MathLoose.abs_long.x ∈ zT) (w3 : Cond.initialized "java/lang/Math" ∈ zT) (w4 : Cond.code Lib.MathLoose.abs_long.x Lib.MathLoose.abs_long.code 2 (some .long) ∈ zT) (hframes : 1 ≤ R.frames) (hlocals : (st.map fun v => v.category).sum + 13 ≤ R.locals) (hc : kc ≤ R.cells) (hs : ks ≤ R.slots) (kk : zV O p l e R s m args below meth c nL Q (pc + 3) ls (.long (if 0 < x then x else -x) :: st) G kc ks) : zV O p l e R s m args below meth c nL Q pc ls (.long x :: st) G kc ks := fun H locs la hl hP hL =>
  va_mabs_long C.1 C.2.1 (C.2.2.1.trans hl.1.symm) C.2.2.2.1 (C.w args _ w1) (C.w args _ w2) (C.w args _ w3) (C.w args _ w4) hframes hlocals hc hs d (kk H locs la hl hP hL)
end ZR
/-- a method's contract over the ghost heap: it returns with Q, or throws with X -/
def zQc (O : zO) (Qm : Option Value → zG → Prop) : Array Value → State → Outcome → State → Prop := fun _ _ o t => ∃ (v : Option Value) (G' : zG), o = .returned v ∧ Qm v G' ∧ zH O G' t.heap
def zXc (O : zO) (Xm : String → zG → Prop) : String → State → State → Prop := fun E _ t => ∃ G' : zG, Xm E G' ∧ zH O G' t.heap
def zPc (O : zO) (av : List Value) (G : zG) : Array Value → State → Prop := va_Pc av (fun U => O.2.2.WarmedH U.vm ∧ zH O G U.heap)
def zM (O : zO) (l : Launch) (y : MethodName) (ws : List Cond) (rm : Room) (av : List Value) (G : zG) (mc ms : Nat) (Qm : Option Value → zG → Prop) (Xm : String → zG → Prop) : Prop := vx_Met l y ws rm (zPc O av G) (zQc O Qm) (zXc O Xm) mc ms (zFr O)
/-- what a body owes at its end -/
def zE (O : zO) (below : List Frame) (Qm : Option Value → zG → Prop) (Xm : String → zG → Prop) (args : Array Value) (s : State) (mc ms : Nat) : State → Prop := vx_MQ below (zQc O Qm) (zXc O Xm) args s mc ms (zFr O)
theorem zPc_blind {O : zO} {av : List Value} {G : zG} : FrameBlind (zPc O av G) := fun _ _ _ _ h => ⟨h.1, h.2.1, h.2.2⟩
theorem zm_of {O : zO} {l : Launch} {y : MethodName} {cc : ByteArray} {maxL : Nat} {ret : Option FieldType} {rm : Room} {av : List Value} {G : zG} {mc ms : Nat} {Qm : Option Value → zG → Prop} {Xm : String → zG → Prop} (hk : zK O l) (hy : plainName y.cls = true) (hlen : (lg_sl av).length ≤ maxL)
    (body : ∀ (p : Program) (e : Env) (s : State) (m : MethodId) (below : List Frame) (meth : Method) (c : Code), zC O p l s m meth c y.cls cc maxL → (∀ x ∈ c.exceptionTable.toList, False) → meth.sig.returnType = ret → meth.name = y.name →
      zV O p l e rm s m av.toArray below meth c maxL (zE O below Qm Xm av.toArray s mc ms) 0 (lv_args 0 av) [] G 0 0) : zM O l y [Cond.code y cc maxL ret] rm av G mc ms Qm Xm := by
  refine vx_ofW (cc := cc) (maxL := maxL) (ret := ret) (ws' := []) hy rfl ?_
  intro p e s m as below meth c s₁ B hml hex hv
  obtain ⟨rfl, hW, hP⟩ := hv
  have C : zC O p l s m meth c y.cls cc maxL := ⟨B.exec, B.bytes, hml, findClass_of_methodNamed B.named, B.notSynchronized, hW, ⟨hP.1, hP.2.1⟩, hk⟩
  rw [lg_entry_eq]
  exact body p e s m below meth c C hex B.returns (name_of_methodNamed B.named B.method).1 s.heap [] _ (lv_entry av hlen) hP (fun z hz => by cases hz)
/-- a thrown object lies over the frame -/
def zVX (O : zO) (p : Program) (l : Launch) (e : Env) (R : Room) (s : State) (m : MethodId) (args : Array Value) (below : List Frame) (meth : Method) (c : Code) (nL : Nat) (Q : State → Prop) (pc : Nat) (ls : List (Nat × Value)) (st : List Value) (G : zG) (k n : Nat) (E : String) : Prop :=
  ∀ (H : Heap) (locs : List Loc) (la : Array Slot) (q : Addr) (ce : Cell), lv_has la nL ls → zH O G H → (∀ z ∈ locs, O.2.2.heap.size ≤ z.base) → H[q]? = some ce → ce.vm = .none → s.vm.findClass E = some ce.cls → vx_W p l e R s m args below meth c H locs k n Q (F0 m pc la st) q
section ZQ
variable {O : zO} {p : Program} {l : Launch} {e : Env} {R : Room} {s : State} {m : MethodId} {args : Array Value} {below : List Frame} {meth : Method} {c : Code} {own : String} {cc : ByteArray} {nL : Nat} {Q : State → Prop} {pc : Nat} {ls : List (Nat × Value)} {st st0 : List Value} {G : zG} {kc ks mc ms : Nat} {Qm : Option Value → zG → Prop} {Xm : String → zG → Prop}
theorem zv_iret (C : zC O p l s m meth c own cc nL) {v : Int32} (hr : meth.sig.returnType = some .int) (d : decode cc pc = .ok (.ireturn, 1)) (h1 : kc ≤ mc) (h2 : ks ≤ ms) (hq : Qm (some (.int v)) G) : zV O p l e R s m args below meth c nL (zE O below Qm Xm args s mc ms) pc ls [.int v] G kc ks := fun H locs la hl hP hL => by
  refine vx_ret (W.widen h1 h2 ?_)
  exact W.iret C.1 C.2.1 hr (fun t ht hW => ⟨_, G, rfl, hq, by rw [ht]; exact hP⟩) hL d C.2.2.2.2.1
theorem zv_zret (C : zC O p l s m meth c own cc nL) {v : Int32} {ty : FieldType} (hr : meth.sig.returnType = some ty) (hn : narrow ty (.int v) = .int v) (d : decode cc pc = .ok (.ireturn, 1)) (h1 : kc ≤ mc) (h2 : ks ≤ ms) (hq : Qm (some (.int v)) G) : zV O p l e R s m args below meth c nL (zE O below Qm Xm args s mc ms) pc ls [.int v] G kc ks := fun H locs la hl hP hL => by
  refine vx_ret (W.widen h1 h2 ?_)
  exact W.zret C.1 C.2.1 hr hn (fun t ht hW => ⟨_, G, rfl, hq, by rw [ht]; exact hP⟩) hL d C.2.2.2.2.1
theorem zv_lret (C : zC O p l s m meth c own cc nL) {v : Int64} (hr : meth.sig.returnType = some .long) (d : decode cc pc = .ok (.lreturn, 1)) (h1 : kc ≤ mc) (h2 : ks ≤ ms) (hq : Qm (some (.long v)) G) : zV O p l e R s m args below meth c nL (zE O below Qm Xm args s mc ms) pc ls [.long v] G kc ks := fun H locs la hl hP hL => by
  refine vx_ret (W.widen h1 h2 ?_)
  exact W.lret C.1 C.2.1 hr (fun t ht hW => ⟨_, G, rfl, hq, by rw [ht]; exact hP⟩) hL d C.2.2.2.2.1
theorem zv_aret (C : zC O p l s m meth c own cc nL) {v : Value} {rt : FieldType} (hr : meth.sig.returnType = some rt) (hrt : (∃ n, rt = .object n) ∨ ∃ t, rt = .array t) (hv : v = .null ∨ ∃ a, v = .ref a) (d : decode cc pc = .ok (.areturn, 1)) (h1 : kc ≤ mc) (h2 : ks ≤ ms) (hq : Qm (some v) G) : zV O p l e R s m args below meth c nL (zE O below Qm Xm args s mc ms) pc ls [v] G kc ks := fun H locs la hl hP hL => by
  refine vx_ret (W.widen h1 h2 ?_)
  exact W.aret C.1 C.2.1 hr hrt hv (fun t ht hW => ⟨_, G, rfl, hq, by rw [ht]; exact hP⟩) hL d C.2.2.2.2.1
theorem zv_vret (C : zC O p l s m meth c own cc nL) (hr : meth.sig.returnType = none) (d : decode cc pc = .ok (.return_, 1)) (h1 : kc ≤ mc) (h2 : ks ≤ ms) (hq : Qm none G) : zV O p l e R s m args below meth c nL (zE O below Qm Xm args s mc ms) pc ls [] G kc ks := fun H locs la hl hP hL => by
  refine vx_ret (W.widen h1 h2 ?_)
  exact W.vret C.1 C.2.1 hr (fun t ht hW => ⟨_, G, rfl, hq, by rw [ht]; exact hP⟩) hL d C.2.2.2.2.1
theorem zx_out (C : zC O p l s m meth c own cc nL) {E : String} (hex : ∀ x ∈ c.exceptionTable.toList, False) (h1 : kc ≤ mc) (h2 : ks ≤ ms) (hx : Xm E G) : zVX O p l e R s m args below meth c nL (zE O below Qm Xm args s mc ms) pc ls st G kc ks E := fun H locs la q ce hl hP hL hce hcv hcl =>
  vx_out (fun x hx => (hex x hx).elim) C.2.2.2.2.1 hce hcv hcl (fun t ht _ => ⟨G, hx, by rw [ht]; exact hP⟩) hL h1 h2
theorem zL_app {locs L : List Loc} (hL : ∀ z ∈ locs, O.2.2.heap.size ≤ z.base) (h : ∀ z ∈ L, zFr O z.base) : ∀ z ∈ locs ++ L, O.2.2.heap.size ≤ z.base := fun z hz => (List.mem_append.mp hz).elim (hL z) (h z)
variable {mC mS : Nat} {Qn : Option Value → zG → Prop} {Xn : String → zG → Prop} {a9 : Array Value}
/-- a call has been run -/
theorem zv_ran (hr : ∀ (H : Heap) (locs : List Loc) (la : Array Slot), lv_has la nL ls → zH O G H → vx_Run p l e R s m args below meth c H locs kc ks mC mS (F0 m pc la st0) st (zQc O Qn a9) (zXc O Xn) (zFr O))
    (kx : ∀ (E : String) (G' : zG), Xn E G' → zVX O p l e R s m args below meth c nL Q pc ls st G' (kc + mC) (ks + mS) E)
    (kk : ∀ (v : Option Value) (G' : zG), Qn v G' → zV O p l e R s m args below meth c nL Q (pc + 3) ls (v.toList ++ st) G' (kc + mC) (ks + mS)) : zV O p l e R s m args below meth c nL Q pc ls st0 G kc ks := fun H locs la hl hP hL => by
  intro T hT X
  rcases hr H locs la hl hP T hT X with ⟨v, st₀, t, T', L, h0, X', hL', e1, e2, ⟨v', G', hv, hq, hH⟩, st⟩ | ⟨q, st₀, t, T', L, E, ce, h0, X', hL', e1, e2, ⟨G', hx, hH⟩, hce, hcv, hcl, st⟩
  · cases hv
    obtain ⟨t2, a1, b1⟩ := kk v G' hq T'.heap (locs ++ L) la hl (by rw [e1]; exact hH) (zL_app hL hL') T' rfl X'
    exact ⟨t2, st t2 a1, b1⟩
  · obtain ⟨t2, a1, b1⟩ := kx E G' hx T'.heap (locs ++ L) la q ce hl (by rw [e1]; exact hH) (zL_app hL hL') (by rw [e1]; exact hce) hcv hcl T' rfl X'
    exact ⟨t2, st.trans a1, b1⟩
/-- .. of a method that doesn't throw -/
theorem zv_ranN (hr : ∀ (H : Heap) (locs : List Loc) (la : Array Slot), lv_has la nL ls → zH O G H → va_Run p l e R s m args below meth c H locs kc ks mC mS (F0 m pc la st0) st (zQc O Qn a9) (zFr O))
    (kk : ∀ (v : Option Value) (G' : zG), Qn v G' → zV O p l e R s m args below meth c nL Q (pc + 3) ls (v.toList ++ st) G' (kc + mC) (ks + mS)) : zV O p l e R s m args below meth c nL Q pc ls st0 G kc ks := fun H locs la hl hP hL => by
  intro T hT X
  obtain ⟨v, st₀, t, T', L, h0, X', hL', e1, e2, ⟨v', G', hv, hq, hH⟩, st⟩ := hr H locs la hl hP T hT X
  cases hv
  obtain ⟨t2, a1, b1⟩ := kk v G' hq T'.heap (locs ++ L) la hl (by rw [e1]; exact hH) (zL_app hL hL') T' rfl X'
  exact ⟨t2, st t2 a1, b1⟩
variable {y : MethodName} {cy : ByteArray} {maxL n ix : Nat} {ret : Option FieldType} {rm : Room} {As : List Value} {b : Nat}
theorem zC.fix (C : zC O p l s m meth c own cc nL) (args : Array Value) : CallFix p m c cc nL s args zT own := ⟨C.1, C.2.1, C.2.2.1, C.2.2.2.1, C.w args⟩
theorem zC.pre (C : zC O p l s m meth c own cc nL) {H : Heap} (hP : zH O G H) : PreS s H (zPc O As G) As := ⟨zPc_blind, fun _ hU hW => ⟨rfl, State.WarmedH.trans C.2.2.2.2.2.1 hW, by rw [hU]; exact hP⟩⟩
theorem zC.preV (C : zC O p l s m meth c own cc nL) {H : Heap} (hP : zH O G H) {ci : Nat} {fs : List Value} {r : vw_C} (hG : G b = some (.inr (ci, fs))) (hc : vwCl[ci]? = some r) : PreV s H r.1 b (zPc O (.ref b :: As) G) As := ⟨zPc_blind, va_recv C.K (hP.one hG) hc (q0 := 0) rfl, fun _ hU hW => ⟨rfl, State.WarmedH.trans C.2.2.2.2.2.1 hW, by rw [hU]; exact hP⟩⟩
/-- room and number of parameters -/
def zRm (R rm : Room) (y : MethodName) (maxL mC mS n : Nat) : Prop := rm.cells = mC ∧ rm.slots = mS ∧ (rm.frames + 1 ≤ R.frames ∧ 8 + (maxL + 11) + rm.locals ≤ R.locals) ∧ (y.cls ≠ "java/lang/invoke/MethodHandle" ∧ y.cls ≠ "java/lang/invoke/VarHandle" ∧ (parseMethodDescriptor y.desc).map (fun d => d.parameters.length) = some n)
theorem zv_callV (C : zC O p l s m meth c own cc nL) (d : decode cc pc = .ok (.invokevirtual ix, 3)) (hM : zM O l y [Cond.code y cy maxL ret] rm (.ref b :: As) G mC mS Qn Xn) (hw : ∀ w ∈ wsV own ix y.cls y [Cond.code y cy maxL ret], w ∈ zT) (hr : zRm R rm y maxL mC mS n) (hn : As.length = n) (hst : st0 = As.reverse ++ .ref b :: st) (hcat : (st.map fun v => v.category).sum ≤ 8)
    {ci : Nat} {fs : List Value} {r : vw_C} (hG : G b = some (.inr (ci, fs))) (hc : vwCl[ci]? = some r) (hrc : r.1 = y.cls) (hf : kc + mC ≤ R.cells ∧ ks + mS ≤ R.slots)
    (kx : ∀ (E : String) (G' : zG), Xn E G' → zVX O p l e R s m args below meth c nL Q pc ls st G' (kc + mC) (ks + mS) E)
    (kk : ∀ (v : Option Value) (G' : zG), Qn v G' → zV O p l e R s m args below meth c nL Q (pc + 3) ls (v.toList ++ st) G' (kc + mC) (ks + mS)) : zV O p l e R s m args below meth c nL Q pc ls st0 G kc ks :=
  zv_ran (fun H locs la hl hP => vx_runV (C.fix args) hM (cwV n (C.w args) (zT_good hw) rfl hr.1 hr.2.1 ⟨rfl, hr.2.2.2⟩ hr.2.2.1) (by have h := C.preV (As := As) hP hG hc; rw [hrc] at h; exact h) rfl hn hl.1 hst (lv_room hcat) d hf) kx kk
theorem zv_callS (C : zC O p l s m meth c own cc nL) (d : decode cc pc = .ok (.invokestatic ix, 3)) (hM : zM O l y [Cond.code y cy maxL ret] rm As G mC mS Qn Xn) (hw : ∀ w ∈ va_wsS own ix y [Cond.code y cy maxL ret], w ∈ zT) (hr : zRm R rm y maxL mC mS n) (hn : As.length = n) (hst : st0 = As.reverse ++ st) (hcat : (st.map fun v => v.category).sum ≤ 8) (hf : kc + mC ≤ R.cells ∧ ks + mS ≤ R.slots)
    (kx : ∀ (E : String) (G' : zG), Xn E G' → zVX O p l e R s m args below meth c nL Q pc ls st G' (kc + mC) (ks + mS) E)
    (kk : ∀ (v : Option Value) (G' : zG), Qn v G' → zV O p l e R s m args below meth c nL Q (pc + 3) ls (v.toList ++ st) G' (kc + mC) (ks + mS)) : zV O p l e R s m args below meth c nL Q pc ls st0 G kc ks :=
  zv_ran (fun H locs la hl hP => vx_runS (C.fix args) hM (va_cwS n (C.w args) (zT_good hw) rfl hr.1 hr.2.1 hr.2.2.2 hr.2.2.1) (C.pre hP) rfl hn hl.1 hst (lv_room hcat) d hf) kx kk
/-- a contract that never throws, as the kit's own -/
theorem zM.met {O : zO} {l : Launch} {y : MethodName} {ws : List Cond} {rm : Room} {av : List Value} {G : zG} {mc ms : Nat} {Qm : Option Value → zG → Prop} {Xm : String → zG → Prop} (hX : ∀ E G', ¬ Xm E G') (h : zM O l y ws rm av G mc ms Qm Xm) : Met l y ws rm (zPc O av G) (zQc O Qm) mc ms (zFr O) := by
  intro p e ha hc hk s m args below hf happ hP hK
  obtain ⟨k, o, h1, h2, h3, hQ⟩ := h p e ha hc hk s m args below hf happ hP hK
  refine ⟨k, o, h1, h2, h3, ?_⟩
  rcases hQ with hQ | ⟨q, -, E, ce, L, ⟨G', hx, -⟩, -⟩
  · exact hQ
  · exact (hX E G' hx).elim
theorem zv_callI (C : zC O p l s m meth c own cc nL) (d : decode cc pc = .ok (.invokespecial ix, 3)) (hX : ∀ E G', ¬ Xn E G') (hM : zM O l y [Cond.code y cy maxL none] rm (.ref b :: As) G mC mS Qn Xn) (hw : ∀ w ∈ [Cond.code y cy maxL none, .initialized y.cls, .methodLink own ix y, .instanceMethod y], w ∈ zT) (hr : zRm R rm y maxL mC mS n) (hin : y.name = "<init>") (hn : As.length = n) (hst : st0 = As.reverse ++ .ref b :: st) (hcat : (st.map fun v => v.category).sum ≤ 8) (hf : kc + mC ≤ R.cells ∧ ks + mS ≤ R.slots)
    (kk : ∀ (v : Option Value) (G' : zG), Qn v G' → zV O p l e R s m args below meth c nL Q (pc + 3) ls (v.toList ++ st) G' (kc + mC) (ks + mS)) : zV O p l e R s m args below meth c nL Q pc ls st0 G kc ks :=
  zv_ranN (fun H locs la hl hP => va_runI (C.fix args) (hM.met hX) (cwI n (C.w args) (zT_good (fun w h => hw w (by rw [List.mem_singleton.mp h]; exact List.mem_cons_self))) rfl hr.1 hr.2.1 (C.w args _ (hw _ (by simp))) (C.w args _ (hw _ (by simp))) (C.w args _ (hw _ (by simp))) hin hr.2.2.2 hr.2.2.1) (C.pre hP) rfl hn hl.1 hst (lv_room hcat) d hf) kk
/-- a private constructor of a nest mate -/
theorem zv_callIN (C : zC O p l s m meth c own cc nL) {host : String} (d : decode cc pc = .ok (.invokespecial ix, 3)) (hX : ∀ E G', ¬ Xn E G') (hM : zM O l y [Cond.code y cy maxL none] rm (.ref b :: As) G mC mS Qn Xn) (hw : ∀ w ∈ [Cond.code y cy maxL none, .initialized y.cls, .instanceMethod y], w ∈ zT) (hN : va_Nw (.methodLinkNest own ix y host) O.2.2) (hr : zRm R rm y maxL mC mS n) (hin : y.name = "<init>") (hn : As.length = n) (hst : st0 = As.reverse ++ .ref b :: st) (hcat : (st.map fun v => v.category).sum ≤ 8) (hf : kc + mC ≤ R.cells ∧ ks + mS ≤ R.slots)
    (kk : ∀ (v : Option Value) (G' : zG), Qn v G' → zV O p l e R s m args below meth c nL Q (pc + 3) ls (v.toList ++ st) G' (kc + mC) (ks + mS)) : zV O p l e R s m args below meth c nL Q pc ls st0 G kc ks :=
  zv_ranN (fun H locs la hl hP => va_runIN (C.fix args) (hM.met hX) ⟨va_cnB n (C.w args) (zT_good (fun w h => hw w (by rw [List.mem_singleton.mp h]; exact List.mem_cons_self))) rfl hr.1 hr.2.1 (va_Nw.warmM C.2.2.2.2.2.1 hN) (C.w args _ (hw _ (by simp))) hr.2.2.2 hr.2.2.1, hin, C.w args _ (hw _ (by simp))⟩ (C.pre hP) rfl hn hl.1 hst (lv_room hcat) d hf) kk
theorem zH.ext {H H1 : Heap} (h : zH O G H) (z : H.size ≤ H1.size) (oq : ∀ q : Nat, q < H.size → H1[q]? = H[q]?) : zH O G H1 := by
  obtain ⟨h1, h2, h3⟩ := h
  exact ⟨by omega, fun q hq => by rw [oq q (by omega)]; exact h2 q hq, fun a e ha => ⟨(h3 a e ha).1, (h3 a e ha).2.kept (oq a (h3 a e ha).2.lt)⟩⟩
/-- 'throw new E("text")' -/
def zTh (own : String) (ik is ic : Nat) (cls text : String) (names : List String) : Prop := (Bundle.fit cls = true ∧ ∀ n ∈ names, Bundle.fit n = true) ∧ Cond.classLink own ik cls ∈ zT ∧ Cond.initialized cls ∈ zT ∧ (own, is, text) ∈ zStr ∧ (∀ w ∈ vx_atS own ic cls names, w ∈ zT2) ∧ ∀ w ∈ Cond.classLink own ik cls :: Cond.initialized cls :: vx_atS own ic cls names, vx_ot w = true
theorem zv_throwS (C : zC O p l s m meth c own cc nL) {cls text : String} {names : List String} {ik is ic : Nat} (d0 : decode cc pc = .ok (.new ik, 3)) (d3 : decode cc (pc + 3) = .ok (.dup, 1)) (d4 : decode cc (pc + 4) = .ok (.ldc is, 2)) (d6 : decode cc (pc + 6) = .ok (.invokespecial ic, 3)) (d9 : decode cc (pc + 9) = .ok (.athrow, 1)) (T : zTh own ik is ic cls text names) (hex : ∀ x ∈ c.exceptionTable.toList, False)
    (hfr : names.length + 3 < R.frames) (hlo : (st.map fun v => v.category).sum + (13 * (names.length + 1) + 43) ≤ R.locals) (hc : kc + 1 ≤ R.cells) (hs : ks + 6 ≤ R.slots) (h1 : kc + 1 ≤ mc) (h2 : ks + 6 ≤ ms) (hx : Xm cls G) : zV O p l e R s m args below meth c nL (zE O below Qm Xm args s mc ms) pc ls st G kc ks := fun H locs la hl hP hL T0 hT X => by
  obtain ⟨⟨t1, t2⟩, t3, t4, t5, t6, t7⟩ := T
  obtain ⟨sa, hsa⟩ := C.k.2.2.2.2.2.2.2.1 _ t5
  have hz : s.heap.size ≤ H.size := by rw [← hT]; exact (vx_frame X.same).1
  have hW := C.2.2.2.2.2.1
  have hb := C.2.2.2.2.2.2.1
  have hkeep : ∀ q : Nat, q < O.2.2.heap.size → ¬ zFr O q → s.heap[q]? = O.2.2.heap[q]? := fun q hq _ => hb.2 q hq
  refine vx_throwS (A := zFr O) C.1 C.2.1 C.k.1 C.2.2.2.1 t1 t2 (C.w args _ t3) (C.w args _ t4) (vk_R.warm hW hsa) (fun w hw => C.w2 args w (t6 w hw)) t7 (vx_Zq.moved hW.alike (C.k.2.2.2.2.2.2.1.1.kept hkeep)) (vx_Zq.moved hW.alike (C.k.2.2.2.2.2.2.1.2.kept hkeep)) ⟨hz, fun q hq hA => ?_, hL⟩ (hl.1.trans C.2.2.1.symm) d0 d3 d4 d6 d9 (fun x hx => (hex x hx).elim) hfr hlo hc hs C.2.2.2.2.1 (fun t _ g1 g2 => ⟨G, hx, hP.ext g1 g2⟩) hL h1 h2 T0 hT X
  have hq0 : q < O.2.2.heap.size := Nat.not_le.mp hA
  rw [hP.2.1 q hq0, hb.2 q hq0]
end ZQ
end
section
/-! what each linking instruction names; the room of each method -/
theorem fDu_9 : zF RDu 9 3 0 RDu TDu 11 := ⟨rfl, by decide, inDu, zw_101⟩
theorem fDu_13 : zF RDu 13 3 1 RDu TDu 11 := ⟨rfl, by decide, inDu, zw_102⟩
theorem fDu_19 : zF RDu 19 3 2 RDu TDu 11 := ⟨rfl, by decide, inDu, zw_103⟩
theorem fDu_23 : zF RDu 23 3 3 RDu TDu 11 := ⟨rfl, by decide, inDu, zw_104⟩
theorem nDu_26 : zN RDu 26 1 RBk TBk 7 := ⟨rfl, inBk, zw_51, zw_52, zw_29⟩
theorem gDu_28 : ∀ w ∈ [Cond.code yBk_init bBk_init 1 none, .initialized yBk_init.cls, .instanceMethod yBk_init], w ∈ zT := List.forall_mem_cons.mpr ⟨zw_55, List.forall_mem_cons.mpr ⟨zw_29, List.forall_mem_cons.mpr ⟨zw_54, fun _ h => absurd h List.not_mem_nil⟩⟩⟩
theorem fDu_29 : zF RDu 29 3 4 RDu TDu 11 := ⟨rfl, by decide, inDu, zw_105⟩
theorem nDu_33 : zN RDu 33 2 RSh TSh 2 := ⟨rfl, inSh, zw_88, zw_89, zw_30⟩
theorem gDu_35 : ∀ w ∈ [Cond.code ySh_init bSh_init 1 none, .initialized ySh_init.cls, .instanceMethod ySh_init], w ∈ zT := List.forall_mem_cons.mpr ⟨zw_92, List.forall_mem_cons.mpr ⟨zw_30, List.forall_mem_cons.mpr ⟨zw_91, fun _ h => absurd h List.not_mem_nil⟩⟩⟩
theorem fDu_36 : zF RDu 36 3 5 RDu TDu 11 := ⟨rfl, by decide, inDu, zw_106⟩
theorem fDu_40 : zF RDu 40 3 6 RDu TDu 11 := ⟨rfl, by decide, inDu, zw_107⟩
theorem fDu_43 : zF RDu 43 3 7 RDu TDu 11 := ⟨rfl, by decide, inDu, zw_108⟩
theorem fDu_46 : zF RDu 46 3 8 RDu TDu 11 := ⟨rfl, by decide, inDu, zw_109⟩
theorem fDu_49 : zF RDu 49 3 9 RDu TDu 11 := ⟨rfl, by decide, inDu, zw_110⟩
theorem fDu_52 : zF RDu 52 3 10 RDu TDu 11 := ⟨rfl, by decide, inDu, zw_111⟩
theorem fBk_9 : zF RBk 9 1 0 RBk TBk 7 := ⟨rfl, by decide, inBk, zw_57⟩
theorem fBk_15 : zF RBk 15 1 1 RBk TBk 7 := ⟨rfl, by decide, inBk, zw_59⟩
theorem fBk_18 : zF RBk 18 1 2 RBk TBk 7 := ⟨rfl, by decide, inBk, zw_61⟩
theorem fBk_22 : zF RBk 22 1 3 RBk TBk 7 := ⟨rfl, by decide, inBk, zw_63⟩
theorem fBk_25 : zF RBk 25 1 4 RBk TBk 7 := ⟨rfl, by decide, inBk, zw_65⟩
theorem fBk_28 : zF RBk 28 1 5 RBk TBk 7 := ⟨rfl, by decide, inBk, zw_67⟩
theorem fBk_32 : zF RBk 32 1 6 RBk TBk 7 := ⟨rfl, by decide, inBk, zw_69⟩
theorem fSh_9 : zF RSh 9 2 0 RSh TSh 2 := ⟨rfl, by decide, inSh, zw_94⟩
theorem fSh_15 : zF RSh 15 2 1 RSh TSh 2 := ⟨rfl, by decide, inSh, zw_95⟩
theorem gDu_85 : ∀ w ∈ wsV RDu 85 yDu_batchThatIs.cls yDu_batchThatIs [Cond.code yDu_batchThatIs bDu_batchThatIs 4 (some (.object "DutyLedger$Batch"))], w ∈ zT := List.forall_mem_cons.mpr ⟨zw_139, List.forall_mem_cons.mpr ⟨zw_141, List.forall_mem_cons.mpr ⟨zw_0, List.forall_mem_cons.mpr ⟨zw_28, List.forall_mem_cons.mpr ⟨zw_142, fun _ h => absurd h List.not_mem_nil⟩⟩⟩⟩⟩
theorem gDu_89 : ∀ w ∈ wsV RDu 89 yDu_isAccount.cls yDu_isAccount [Cond.code yDu_isAccount bDu_isAccount 2 (some .boolean)], w ∈ zT := List.forall_mem_cons.mpr ⟨zw_147, List.forall_mem_cons.mpr ⟨zw_149, List.forall_mem_cons.mpr ⟨zw_2, List.forall_mem_cons.mpr ⟨zw_28, List.forall_mem_cons.mpr ⟨zw_150, fun _ h => absurd h List.not_mem_nil⟩⟩⟩⟩⟩
theorem gDu_92 : ∀ w ∈ va_wsS RDu 92 yDu_canBeCents [Cond.code yDu_canBeCents bDu_canBeCents 2 (some .boolean)], w ∈ zT := List.forall_mem_cons.mpr ⟨zw_151, List.forall_mem_cons.mpr ⟨zw_152, List.forall_mem_cons.mpr ⟨zw_28, List.forall_mem_cons.mpr ⟨zw_153, fun _ h => absurd h List.not_mem_nil⟩⟩⟩⟩
theorem gDu_96 : ∀ w ∈ wsV RDu 96 yBa_take.cls yBa_take [Cond.code yBa_take bBa_take 4 (some .boolean)], w ∈ zT := List.forall_mem_cons.mpr ⟨zw_156, List.forall_mem_cons.mpr ⟨zw_157, List.forall_mem_cons.mpr ⟨zw_158, List.forall_mem_cons.mpr ⟨zw_37, List.forall_mem_cons.mpr ⟨zw_159, fun _ h => absurd h List.not_mem_nil⟩⟩⟩⟩⟩
theorem gDu_209 : ∀ w ∈ wsV RDu 209 yDu_batchAt.cls yDu_batchAt [Cond.code yDu_batchAt bDu_batchAt 2 (some (.object "DutyLedger$Batch"))], w ∈ zT := List.forall_mem_cons.mpr ⟨zw_143, List.forall_mem_cons.mpr ⟨zw_145, List.forall_mem_cons.mpr ⟨zw_1, List.forall_mem_cons.mpr ⟨zw_28, List.forall_mem_cons.mpr ⟨zw_146, fun _ h => absurd h List.not_mem_nil⟩⟩⟩⟩⟩
theorem fDu_215 : zF RDu 215 0 6 RBa TBa 9 := ⟨rfl, by decide, inBa, zw_323⟩
theorem fBa_19 : zF RBa 19 0 5 RBa TBa 9 := ⟨rfl, by decide, inBa, zw_320⟩
theorem fBa_9 : zF RBa 9 0 3 RBa TBa 9 := ⟨rfl, by decide, inBa, zw_314⟩
theorem fBa_15 : zF RBa 15 0 4 RBa TBa 9 := ⟨rfl, by decide, inBa, zw_317⟩
theorem fDu_100 : zF RDu 100 0 8 RBa TBa 9 := ⟨rfl, by decide, inBa, zw_327⟩
theorem gDu_71 : ∀ w ∈ va_wsS RDu 71 yDu_isDay [Cond.code yDu_isDay bDu_isDay 1 (some .boolean)], w ∈ zT := List.forall_mem_cons.mpr ⟨zw_168, List.forall_mem_cons.mpr ⟨zw_169, List.forall_mem_cons.mpr ⟨zw_28, List.forall_mem_cons.mpr ⟨zw_170, fun _ h => absurd h List.not_mem_nil⟩⟩⟩⟩
theorem gDu_55 : ∀ w ∈ va_wsS RDu 55 yDu_isKind [Cond.code yDu_isKind bDu_isKind 1 (some .boolean)], w ∈ zT := List.forall_mem_cons.mpr ⟨zw_176, List.forall_mem_cons.mpr ⟨zw_177, List.forall_mem_cons.mpr ⟨zw_28, List.forall_mem_cons.mpr ⟨zw_178, fun _ h => absurd h List.not_mem_nil⟩⟩⟩⟩
theorem gDu_154 : ∀ w ∈ va_wsS RDu 154 yDu_isReceiver [Cond.code yDu_isReceiver bDu_isReceiver 1 (some .boolean)], w ∈ zT := List.forall_mem_cons.mpr ⟨zw_179, List.forall_mem_cons.mpr ⟨zw_180, List.forall_mem_cons.mpr ⟨zw_28, List.forall_mem_cons.mpr ⟨zw_181, fun _ h => absurd h List.not_mem_nil⟩⟩⟩⟩
theorem gDu_157 : ∀ w ∈ wsV RDu 157 ySh_setPart.cls ySh_setPart [Cond.code ySh_setPart bSh_setPart 4 none], w ∈ zT := List.forall_mem_cons.mpr ⟨zw_182, List.forall_mem_cons.mpr ⟨zw_183, List.forall_mem_cons.mpr ⟨zw_184, List.forall_mem_cons.mpr ⟨zw_30, List.forall_mem_cons.mpr ⟨zw_185, fun _ h => absurd h List.not_mem_nil⟩⟩⟩⟩⟩
theorem gDu_160 : ∀ w ∈ wsV RDu 160 ySh_setCost.cls ySh_setCost [Cond.code ySh_setCost bSh_setCost 3 none], w ∈ zT := List.forall_mem_cons.mpr ⟨zw_190, List.forall_mem_cons.mpr ⟨zw_191, List.forall_mem_cons.mpr ⟨zw_192, List.forall_mem_cons.mpr ⟨zw_30, List.forall_mem_cons.mpr ⟨zw_193, fun _ h => absurd h List.not_mem_nil⟩⟩⟩⟩⟩
theorem fDu_183 : zF RDu 183 1 5 RBk TBk 7 := ⟨rfl, by decide, inBk, zw_68⟩
theorem fDu_225 : zF RDu 225 1 6 RBk TBk 7 := ⟨rfl, by decide, inBk, zw_70⟩
theorem gLa_7 : ∀ w ∈ wsV RLa 7 yDu_account.cls yDu_account [Cond.code yDu_account bDu_account 2 (some .int)], w ∈ zT := List.forall_mem_cons.mpr ⟨zw_203, List.forall_mem_cons.mpr ⟨zw_204, List.forall_mem_cons.mpr ⟨zw_205, List.forall_mem_cons.mpr ⟨zw_28, List.forall_mem_cons.mpr ⟨zw_206, fun _ h => absurd h List.not_mem_nil⟩⟩⟩⟩⟩
theorem taDu_63 : (∀ w ∈ vx_atS RDu 63 "java/lang/IllegalArgumentException" ["java/lang/RuntimeException", "java/lang/Exception"], w ∈ zT2) ∧ ∀ w ∈ Cond.classLink RDu 59 "java/lang/IllegalArgumentException" :: Cond.initialized "java/lang/IllegalArgumentException" :: vx_atS RDu 63 "java/lang/IllegalArgumentException" ["java/lang/RuntimeException", "java/lang/Exception"], vx_ot w = true := ⟨by decide +kernel, by decide +kernel⟩
theorem tDu_61_63 : zTh RDu 59 61 63 "java/lang/IllegalArgumentException" "no such kind" ["java/lang/RuntimeException", "java/lang/Exception"] := ⟨⟨by decide +kernel, by decide +kernel⟩, zw_207, zw_35, by decide +kernel, taDu_63.1, taDu_63.2⟩
theorem taDu_70 : (∀ w ∈ vx_atS RDu 70 "java/lang/IllegalStateException" ["java/lang/RuntimeException", "java/lang/Exception"], w ∈ zT2) ∧ ∀ w ∈ Cond.classLink RDu 66 "java/lang/IllegalStateException" :: Cond.initialized "java/lang/IllegalStateException" :: vx_atS RDu 70 "java/lang/IllegalStateException" ["java/lang/RuntimeException", "java/lang/Exception"], vx_ot w = true := ⟨by decide +kernel, by decide +kernel⟩
theorem tDu_68_70 : zTh RDu 66 68 70 "java/lang/IllegalStateException" "no more accounts" ["java/lang/RuntimeException", "java/lang/Exception"] := ⟨⟨by decide +kernel, by decide +kernel⟩, zw_276, zw_36, by decide +kernel, taDu_70.1, taDu_70.2⟩
theorem gLa_17 : ∀ w ∈ wsV RLa 17 yDu_batch.cls yDu_batch [Cond.code yDu_batch bDu_batch 3 (some .int)], w ∈ zT := List.forall_mem_cons.mpr ⟨zw_295, List.forall_mem_cons.mpr ⟨zw_296, List.forall_mem_cons.mpr ⟨zw_297, List.forall_mem_cons.mpr ⟨zw_28, List.forall_mem_cons.mpr ⟨zw_298, fun _ h => absurd h List.not_mem_nil⟩⟩⟩⟩⟩
theorem tDu_74_63 : zTh RDu 59 74 63 "java/lang/IllegalArgumentException" "no such day" ["java/lang/RuntimeException", "java/lang/Exception"] := ⟨⟨by decide +kernel, by decide +kernel⟩, zw_207, zw_35, by decide +kernel, taDu_63.1, taDu_63.2⟩
theorem tDu_76_70 : zTh RDu 66 76 70 "java/lang/IllegalStateException" "no more batches" ["java/lang/RuntimeException", "java/lang/Exception"] := ⟨⟨by decide +kernel, by decide +kernel⟩, zw_276, zw_36, by decide +kernel, taDu_70.1, taDu_70.2⟩
theorem nDu_17 : zN RDu 17 0 RBa TBa 9 := ⟨rfl, inBa, zw_49, zw_301, zw_37⟩
theorem gDu_78 : ∀ w ∈ [Cond.code yBa_init bBa_init 4 none, .initialized yBa_init.cls, .methodLink RDu 78 yBa_init, .instanceMethod yBa_init], w ∈ zT := List.forall_mem_cons.mpr ⟨zw_304, List.forall_mem_cons.mpr ⟨zw_37, List.forall_mem_cons.mpr ⟨zw_302, List.forall_mem_cons.mpr ⟨zw_303, fun _ h => absurd h List.not_mem_nil⟩⟩⟩⟩
theorem gDu_81 : ∀ w ∈ wsV RDu 81 yDu_keep.cls yDu_keep [Cond.code yDu_keep bDu_keep 2 (some .int)], w ∈ zT := List.forall_mem_cons.mpr ⟨zw_347, List.forall_mem_cons.mpr ⟨zw_349, List.forall_mem_cons.mpr ⟨zw_4, List.forall_mem_cons.mpr ⟨zw_28, List.forall_mem_cons.mpr ⟨zw_350, fun _ h => absurd h List.not_mem_nil⟩⟩⟩⟩⟩
theorem fBa_23 : zF RBa 23 0 6 RBa TBa 9 := ⟨rfl, by decide, inBa, zw_322⟩
theorem fBa_26 : zF RBa 26 0 7 RBa TBa 9 := ⟨rfl, by decide, inBa, zw_324⟩
theorem fBa_29 : zF RBa 29 0 8 RBa TBa 9 := ⟨rfl, by decide, inBa, zw_326⟩
theorem fBa_33 : zF RBa 33 0 0 RBa TBa 9 := ⟨rfl, by decide, inBa, zw_306⟩
theorem fBa_36 : zF RBa 36 0 1 RBa TBa 9 := ⟨rfl, by decide, inBa, zw_309⟩
theorem fBa_39 : zF RBa 39 0 2 RBa TBa 9 := ⟨rfl, by decide, inBa, zw_312⟩
theorem gLa_21 : ∀ w ∈ wsV RLa 21 yDu_post.cls yDu_post [Cond.code yDu_post bDu_post 4 (some .int)], w ∈ zT := List.forall_mem_cons.mpr ⟨zw_355, List.forall_mem_cons.mpr ⟨zw_356, List.forall_mem_cons.mpr ⟨zw_357, List.forall_mem_cons.mpr ⟨zw_28, List.forall_mem_cons.mpr ⟨zw_358, fun _ h => absurd h List.not_mem_nil⟩⟩⟩⟩⟩
theorem tDu_104_63 : zTh RDu 59 104 63 "java/lang/IllegalArgumentException" "no such open batch" ["java/lang/RuntimeException", "java/lang/Exception"] := ⟨⟨by decide +kernel, by decide +kernel⟩, zw_207, zw_35, by decide +kernel, taDu_63.1, taDu_63.2⟩
theorem gDu_106 : ∀ w ∈ wsV RDu 106 yDu_whatIsWrongWith.cls yDu_whatIsWrongWith [Cond.code yDu_whatIsWrongWith bDu_whatIsWrongWith 2 (some .int)], w ∈ zT := List.forall_mem_cons.mpr ⟨zw_360, List.forall_mem_cons.mpr ⟨zw_362, List.forall_mem_cons.mpr ⟨zw_5, List.forall_mem_cons.mpr ⟨zw_28, List.forall_mem_cons.mpr ⟨zw_363, fun _ h => absurd h List.not_mem_nil⟩⟩⟩⟩⟩
theorem gDu_109 : ∀ w ∈ wsV RDu 109 yDu_makeVoid.cls yDu_makeVoid [Cond.code yDu_makeVoid bDu_makeVoid 3 none], w ∈ zT := List.forall_mem_cons.mpr ⟨zw_372, List.forall_mem_cons.mpr ⟨zw_374, List.forall_mem_cons.mpr ⟨zw_6, List.forall_mem_cons.mpr ⟨zw_28, List.forall_mem_cons.mpr ⟨zw_375, fun _ h => absurd h List.not_mem_nil⟩⟩⟩⟩⟩
theorem tDu_113_70 : zTh RDu 66 113 70 "java/lang/IllegalStateException" "the batch is void" ["java/lang/RuntimeException", "java/lang/Exception"] := ⟨⟨by decide +kernel, by decide +kernel⟩, zw_276, zw_36, by decide +kernel, taDu_70.1, taDu_70.2⟩
theorem gDu_115 : ∀ w ∈ wsV RDu 115 yDu_failHalfway.cls yDu_failHalfway [Cond.code yDu_failHalfway bDu_failHalfway 3 none], w ∈ zT := List.forall_mem_cons.mpr ⟨zw_388, List.forall_mem_cons.mpr ⟨zw_390, List.forall_mem_cons.mpr ⟨zw_8, List.forall_mem_cons.mpr ⟨zw_28, List.forall_mem_cons.mpr ⟨zw_391, fun _ h => absurd h List.not_mem_nil⟩⟩⟩⟩⟩
theorem taDu_123 : (∀ w ∈ vx_atS RDu 123 "java/lang/UnsupportedOperationException" ["java/lang/RuntimeException", "java/lang/Exception"], w ∈ zT2) ∧ ∀ w ∈ Cond.classLink RDu 119 "java/lang/UnsupportedOperationException" :: Cond.initialized "java/lang/UnsupportedOperationException" :: vx_atS RDu 123 "java/lang/UnsupportedOperationException" ["java/lang/RuntimeException", "java/lang/Exception"], vx_ot w = true := ⟨by decide +kernel, by decide +kernel⟩
theorem tDu_121_123 : zTh RDu 119 121 123 "java/lang/UnsupportedOperationException" "the batch failed" ["java/lang/RuntimeException", "java/lang/Exception"] := ⟨⟨by decide +kernel, by decide +kernel⟩, zw_400, zw_39, by decide +kernel, taDu_123.1, taDu_123.2⟩
theorem gDu_124 : ∀ w ∈ wsV RDu 124 yDu_enter.cls yDu_enter [Cond.code yDu_enter bDu_enter 3 none], w ∈ zT := List.forall_mem_cons.mpr ⟨zw_416, List.forall_mem_cons.mpr ⟨zw_418, List.forall_mem_cons.mpr ⟨zw_9, List.forall_mem_cons.mpr ⟨zw_28, List.forall_mem_cons.mpr ⟨zw_419, fun _ h => absurd h List.not_mem_nil⟩⟩⟩⟩⟩
theorem fDu_218 : zF RDu 218 0 5 RBa TBa 9 := ⟨rfl, by decide, inBa, zw_321⟩
theorem gDu_233 : ∀ w ∈ wsV RDu 233 yBa_sum.cls yBa_sum [Cond.code yBa_sum bBa_sum 4 (some .long)], w ∈ zT := List.forall_mem_cons.mpr ⟨zw_364, List.forall_mem_cons.mpr ⟨zw_365, List.forall_mem_cons.mpr ⟨zw_366, List.forall_mem_cons.mpr ⟨zw_37, List.forall_mem_cons.mpr ⟨zw_367, fun _ h => absurd h List.not_mem_nil⟩⟩⟩⟩⟩
theorem fDu_222 : zF RDu 222 0 1 RBa TBa 9 := ⟨rfl, by decide, inBa, zw_311⟩
theorem gDu_236 : ∀ w ∈ wsV RDu 236 yBk_hasRoomFor.cls yBk_hasRoomFor [Cond.code yBk_hasRoomFor bBk_hasRoomFor 2 (some .boolean)], w ∈ zT := List.forall_mem_cons.mpr ⟨zw_368, List.forall_mem_cons.mpr ⟨zw_369, List.forall_mem_cons.mpr ⟨zw_370, List.forall_mem_cons.mpr ⟨zw_29, List.forall_mem_cons.mpr ⟨zw_371, fun _ h => absurd h List.not_mem_nil⟩⟩⟩⟩⟩
theorem gDu_239 : ∀ w ∈ wsV RDu 239 yDu_accountFarthestFromZero.cls yDu_accountFarthestFromZero [Cond.code yDu_accountFarthestFromZero bDu_accountFarthestFromZero 8 (some .int)], w ∈ zT := List.forall_mem_cons.mpr ⟨zw_376, List.forall_mem_cons.mpr ⟨zw_378, List.forall_mem_cons.mpr ⟨zw_7, List.forall_mem_cons.mpr ⟨zw_28, List.forall_mem_cons.mpr ⟨zw_379, fun _ h => absurd h List.not_mem_nil⟩⟩⟩⟩⟩
theorem gDu_242 : ∀ w ∈ wsV RDu 242 yBa_sumOf.cls yBa_sumOf [Cond.code yBa_sumOf bBa_sumOf 5 (some .long)], w ∈ zT := List.forall_mem_cons.mpr ⟨zw_380, List.forall_mem_cons.mpr ⟨zw_381, List.forall_mem_cons.mpr ⟨zw_382, List.forall_mem_cons.mpr ⟨zw_37, List.forall_mem_cons.mpr ⟨zw_383, fun _ h => absurd h List.not_mem_nil⟩⟩⟩⟩⟩
theorem gDu_252 : ∀ w ∈ wsV RDu 252 yBk_bringIn.cls yBk_bringIn [Cond.code yBk_bringIn bBk_bringIn 5 none], w ∈ zT := List.forall_mem_cons.mpr ⟨zw_392, List.forall_mem_cons.mpr ⟨zw_393, List.forall_mem_cons.mpr ⟨zw_394, List.forall_mem_cons.mpr ⟨zw_29, List.forall_mem_cons.mpr ⟨zw_395, fun _ h => absurd h List.not_mem_nil⟩⟩⟩⟩⟩
theorem gDu_256 : ∀ w ∈ wsV RDu 256 yBk_takeHeldOut.cls yBk_takeHeldOut [Cond.code yBk_takeHeldOut bBk_takeHeldOut 1 none], w ∈ zT := List.forall_mem_cons.mpr ⟨zw_396, List.forall_mem_cons.mpr ⟨zw_397, List.forall_mem_cons.mpr ⟨zw_398, List.forall_mem_cons.mpr ⟨zw_29, List.forall_mem_cons.mpr ⟨zw_399, fun _ h => absurd h List.not_mem_nil⟩⟩⟩⟩⟩
theorem fBk_35 : zF RBk 35 0 3 RBa TBa 9 := ⟨rfl, by decide, inBa, zw_315⟩
theorem fBk_38 : zF RBk 38 0 4 RBa TBa 9 := ⟨rfl, by decide, inBa, zw_318⟩
theorem fBk_39 : zF RBk 39 0 0 RBa TBa 9 := ⟨rfl, by decide, inBa, zw_307⟩
theorem fBk_42 : zF RBk 42 0 1 RBa TBa 9 := ⟨rfl, by decide, inBa, zw_310⟩
theorem gDu_259 : ∀ w ∈ wsV RDu 259 yBk_settleHeld.cls yBk_settleHeld [Cond.code yBk_settleHeld bBk_settleHeld 1 none], w ∈ zT := List.forall_mem_cons.mpr ⟨zw_420, List.forall_mem_cons.mpr ⟨zw_421, List.forall_mem_cons.mpr ⟨zw_422, List.forall_mem_cons.mpr ⟨zw_29, List.forall_mem_cons.mpr ⟨zw_423, fun _ h => absurd h List.not_mem_nil⟩⟩⟩⟩⟩
theorem gLa_26 : ∀ w ∈ wsV RLa 26 yDu_reverse.cls yDu_reverse [Cond.code yDu_reverse bDu_reverse 6 (some .int)], w ∈ zT := List.forall_mem_cons.mpr ⟨zw_427, List.forall_mem_cons.mpr ⟨zw_428, List.forall_mem_cons.mpr ⟨zw_429, List.forall_mem_cons.mpr ⟨zw_28, List.forall_mem_cons.mpr ⟨zw_430, fun _ h => absurd h List.not_mem_nil⟩⟩⟩⟩⟩
theorem tDu_127_63 : zTh RDu 59 127 63 "java/lang/IllegalArgumentException" "no such posted batch, or no such day" ["java/lang/RuntimeException", "java/lang/Exception"] := ⟨⟨by decide +kernel, by decide +kernel⟩, zw_207, zw_35, by decide +kernel, taDu_63.1, taDu_63.2⟩
theorem fDu_129 : zF RDu 129 0 2 RBa TBa 9 := ⟨rfl, by decide, inBa, zw_313⟩
theorem fDu_132 : zF RDu 132 0 7 RBa TBa 9 := ⟨rfl, by decide, inBa, zw_325⟩
theorem tDu_135_70 : zTh RDu 66 135 70 "java/lang/IllegalStateException" "reversed, or a reversal" ["java/lang/RuntimeException", "java/lang/Exception"] := ⟨⟨by decide +kernel, by decide +kernel⟩, zw_276, zw_36, by decide +kernel, taDu_70.1, taDu_70.2⟩
theorem gDu_137 : ∀ w ∈ va_wsS RDu 137 yDu_reversalOf [Cond.code yDu_reversalOf bDu_reversalOf 5 (some (.object "DutyLedger$Batch"))], w ∈ zT := List.forall_mem_cons.mpr ⟨zw_433, List.forall_mem_cons.mpr ⟨zw_434, List.forall_mem_cons.mpr ⟨zw_28, List.forall_mem_cons.mpr ⟨zw_435, fun _ h => absurd h List.not_mem_nil⟩⟩⟩⟩
theorem tDu_141_70 : zTh RDu 66 141 70 "java/lang/IllegalStateException" "the reversal can\'t be posted" ["java/lang/RuntimeException", "java/lang/Exception"] := ⟨⟨by decide +kernel, by decide +kernel⟩, zw_276, zw_36, by decide +kernel, taDu_70.1, taDu_70.2⟩
theorem fDu_219 : zF RDu 219 0 0 RBa TBa 9 := ⟨rfl, by decide, inBa, zw_308⟩
theorem fDu_262 : zF RDu 262 0 3 RBa TBa 9 := ⟨rfl, by decide, inBa, zw_316⟩
theorem fDu_263 : zF RDu 263 0 4 RBa TBa 9 := ⟨rfl, by decide, inBa, zw_319⟩
theorem gLa_29 : ∀ w ∈ wsV RLa 29 yDu_balance.cls yDu_balance [Cond.code yDu_balance bDu_balance 4 (some .long)], w ∈ zT := List.forall_mem_cons.mpr ⟨zw_440, List.forall_mem_cons.mpr ⟨zw_441, List.forall_mem_cons.mpr ⟨zw_442, List.forall_mem_cons.mpr ⟨zw_28, List.forall_mem_cons.mpr ⟨zw_443, fun _ h => absurd h List.not_mem_nil⟩⟩⟩⟩⟩
theorem tDu_143_63 : zTh RDu 59 143 63 "java/lang/IllegalArgumentException" "no such account or day" ["java/lang/RuntimeException", "java/lang/Exception"] := ⟨⟨by decide +kernel, by decide +kernel⟩, zw_207, zw_35, by decide +kernel, taDu_63.1, taDu_63.2⟩
theorem gDu_145 : ∀ w ∈ wsV RDu 145 yBk_sum.cls yBk_sum [Cond.code yBk_sum bBk_sum 8 (some .long)], w ∈ zT := List.forall_mem_cons.mpr ⟨zw_445, List.forall_mem_cons.mpr ⟨zw_446, List.forall_mem_cons.mpr ⟨zw_447, List.forall_mem_cons.mpr ⟨zw_29, List.forall_mem_cons.mpr ⟨zw_448, fun _ h => absurd h List.not_mem_nil⟩⟩⟩⟩⟩
theorem gLa_33 : ∀ w ∈ wsV RLa 33 yDu_statement.cls yDu_statement [Cond.code yDu_statement bDu_statement 5 (some .long)], w ∈ zT := List.forall_mem_cons.mpr ⟨zw_452, List.forall_mem_cons.mpr ⟨zw_453, List.forall_mem_cons.mpr ⟨zw_454, List.forall_mem_cons.mpr ⟨zw_28, List.forall_mem_cons.mpr ⟨zw_455, fun _ h => absurd h List.not_mem_nil⟩⟩⟩⟩⟩
theorem gDu_149 : ∀ w ∈ va_wsS RDu 149 yDu_isMonth [Cond.code yDu_isMonth bDu_isMonth 1 (some .boolean)], w ∈ zT := List.forall_mem_cons.mpr ⟨zw_456, List.forall_mem_cons.mpr ⟨zw_457, List.forall_mem_cons.mpr ⟨zw_28, List.forall_mem_cons.mpr ⟨zw_458, fun _ h => absurd h List.not_mem_nil⟩⟩⟩⟩
theorem tDu_152_63 : zTh RDu 59 152 63 "java/lang/IllegalArgumentException" "no such account, month or day" ["java/lang/RuntimeException", "java/lang/Exception"] := ⟨⟨by decide +kernel, by decide +kernel⟩, zw_207, zw_35, by decide +kernel, taDu_63.1, taDu_63.2⟩
theorem gLa_36 : ∀ w ∈ wsV RLa 36 yDu_passed.cls yDu_passed [Cond.code yDu_passed bDu_passed 8 (some .long)], w ∈ zT := List.forall_mem_cons.mpr ⟨zw_463, List.forall_mem_cons.mpr ⟨zw_464, List.forall_mem_cons.mpr ⟨zw_465, List.forall_mem_cons.mpr ⟨zw_28, List.forall_mem_cons.mpr ⟨zw_466, fun _ h => absurd h List.not_mem_nil⟩⟩⟩⟩⟩
theorem tDu_164_63 : zTh RDu 59 164 63 "java/lang/IllegalArgumentException" "no such kind, day or what" ["java/lang/RuntimeException", "java/lang/Exception"] := ⟨⟨by decide +kernel, by decide +kernel⟩, zw_207, zw_35, by decide +kernel, taDu_63.1, taDu_63.2⟩
theorem gDu_166 : ∀ w ∈ wsV RDu 166 yDu_collectedOf.cls yDu_collectedOf [Cond.code yDu_collectedOf bDu_collectedOf 6 (some .long)], w ∈ zT := List.forall_mem_cons.mpr ⟨zw_468, List.forall_mem_cons.mpr ⟨zw_470, List.forall_mem_cons.mpr ⟨zw_10, List.forall_mem_cons.mpr ⟨zw_28, List.forall_mem_cons.mpr ⟨zw_471, fun _ h => absurd h List.not_mem_nil⟩⟩⟩⟩⟩
theorem gDu_170 : ∀ w ∈ wsV RDu 170 ySh_costOf.cls ySh_costOf [Cond.code ySh_costOf bSh_costOf 4 (some .long)], w ∈ zT := List.forall_mem_cons.mpr ⟨zw_475, List.forall_mem_cons.mpr ⟨zw_476, List.forall_mem_cons.mpr ⟨zw_477, List.forall_mem_cons.mpr ⟨zw_30, List.forall_mem_cons.mpr ⟨zw_478, fun _ h => absurd h List.not_mem_nil⟩⟩⟩⟩⟩
theorem gDu_174 : ∀ w ∈ wsV RDu 174 ySh_allShares.cls ySh_allShares [Cond.code ySh_allShares bSh_allShares 7 (some .long)], w ∈ zT := List.forall_mem_cons.mpr ⟨zw_480, List.forall_mem_cons.mpr ⟨zw_481, List.forall_mem_cons.mpr ⟨zw_482, List.forall_mem_cons.mpr ⟨zw_30, List.forall_mem_cons.mpr ⟨zw_483, fun _ h => absurd h List.not_mem_nil⟩⟩⟩⟩⟩
theorem gDu_177 : ∀ w ∈ wsV RDu 177 ySh_shareOf.cls ySh_shareOf [Cond.code ySh_shareOf bSh_shareOf 7 (some .long)], w ∈ zT := List.forall_mem_cons.mpr ⟨zw_508, List.forall_mem_cons.mpr ⟨zw_485, List.forall_mem_cons.mpr ⟨zw_486, List.forall_mem_cons.mpr ⟨zw_30, List.forall_mem_cons.mpr ⟨zw_487, fun _ h => absurd h List.not_mem_nil⟩⟩⟩⟩⟩
theorem gSh_20 : ∀ w ∈ wsV RSh 20 ySh_shareOf.cls ySh_shareOf [Cond.code ySh_shareOf bSh_shareOf 7 (some .long)], w ∈ zT := List.forall_mem_cons.mpr ⟨zw_484, List.forall_mem_cons.mpr ⟨zw_485, List.forall_mem_cons.mpr ⟨zw_486, List.forall_mem_cons.mpr ⟨zw_30, List.forall_mem_cons.mpr ⟨zw_487, fun _ h => absurd h List.not_mem_nil⟩⟩⟩⟩⟩
theorem gSh_24 : ∀ w ∈ wsV RSh 24 ySh_allParts.cls ySh_allParts [Cond.code ySh_allParts bSh_allParts 4 (some .int)], w ∈ zT := List.forall_mem_cons.mpr ⟨zw_488, List.forall_mem_cons.mpr ⟨zw_490, List.forall_mem_cons.mpr ⟨zw_11, List.forall_mem_cons.mpr ⟨zw_30, List.forall_mem_cons.mpr ⟨zw_491, fun _ h => absurd h List.not_mem_nil⟩⟩⟩⟩⟩
theorem gSh_28 : ∀ w ∈ wsV RSh 28 ySh_wholeShare.cls ySh_wholeShare [Cond.code ySh_wholeShare bSh_wholeShare 6 (some .long)], w ∈ zT := List.forall_mem_cons.mpr ⟨zw_492, List.forall_mem_cons.mpr ⟨zw_494, List.forall_mem_cons.mpr ⟨zw_12, List.forall_mem_cons.mpr ⟨zw_30, List.forall_mem_cons.mpr ⟨zw_495, fun _ h => absurd h List.not_mem_nil⟩⟩⟩⟩⟩
theorem gSh_31 : ∀ w ∈ wsV RSh 31 ySh_placeByRemainder.cls ySh_placeByRemainder [Cond.code ySh_placeByRemainder bSh_placeByRemainder 11 (some .int)], w ∈ zT := List.forall_mem_cons.mpr ⟨zw_496, List.forall_mem_cons.mpr ⟨zw_498, List.forall_mem_cons.mpr ⟨zw_13, List.forall_mem_cons.mpr ⟨zw_30, List.forall_mem_cons.mpr ⟨zw_499, fun _ h => absurd h List.not_mem_nil⟩⟩⟩⟩⟩
theorem gSh_35 : ∀ w ∈ wsV RSh 35 ySh_centsLeft.cls ySh_centsLeft [Cond.code ySh_centsLeft bSh_centsLeft 7 (some .long)], w ∈ zT := List.forall_mem_cons.mpr ⟨zw_504, List.forall_mem_cons.mpr ⟨zw_506, List.forall_mem_cons.mpr ⟨zw_15, List.forall_mem_cons.mpr ⟨zw_30, List.forall_mem_cons.mpr ⟨zw_507, fun _ h => absurd h List.not_mem_nil⟩⟩⟩⟩⟩
theorem gSh_39 : ∀ w ∈ wsV RSh 39 ySh_remainder.cls ySh_remainder [Cond.code ySh_remainder bSh_remainder 6 (some .long)], w ∈ zT := List.forall_mem_cons.mpr ⟨zw_500, List.forall_mem_cons.mpr ⟨zw_502, List.forall_mem_cons.mpr ⟨zw_14, List.forall_mem_cons.mpr ⟨zw_30, List.forall_mem_cons.mpr ⟨zw_503, fun _ h => absurd h List.not_mem_nil⟩⟩⟩⟩⟩
theorem gLa_39 : ∀ w ∈ wsV RLa 39 yDu_reconcile.cls yDu_reconcile [Cond.code yDu_reconcile bDu_reconcile 5 (some .long)], w ∈ zT := List.forall_mem_cons.mpr ⟨zw_512, List.forall_mem_cons.mpr ⟨zw_513, List.forall_mem_cons.mpr ⟨zw_514, List.forall_mem_cons.mpr ⟨zw_28, List.forall_mem_cons.mpr ⟨zw_515, fun _ h => absurd h List.not_mem_nil⟩⟩⟩⟩⟩
theorem tDu_181_63 : zTh RDu 59 181 63 "java/lang/IllegalArgumentException" "no two such accounts" ["java/lang/RuntimeException", "java/lang/Exception"] := ⟨⟨by decide +kernel, by decide +kernel⟩, zw_207, zw_35, by decide +kernel, taDu_63.1, taDu_63.2⟩
theorem gLa_43 : ∀ w ∈ wsV RLa 43 yDu_read.cls yDu_read [Cond.code yDu_read bDu_read 3 (some .long)], w ∈ zT := List.forall_mem_cons.mpr ⟨zw_521, List.forall_mem_cons.mpr ⟨zw_522, List.forall_mem_cons.mpr ⟨zw_523, List.forall_mem_cons.mpr ⟨zw_28, List.forall_mem_cons.mpr ⟨zw_524, fun _ h => absurd h List.not_mem_nil⟩⟩⟩⟩⟩
theorem taDu_190 : (∀ w ∈ vx_atS RDu 190 "java/lang/IndexOutOfBoundsException" ["java/lang/RuntimeException", "java/lang/Exception"], w ∈ zT2) ∧ ∀ w ∈ Cond.classLink RDu 186 "java/lang/IndexOutOfBoundsException" :: Cond.initialized "java/lang/IndexOutOfBoundsException" :: vx_atS RDu 190 "java/lang/IndexOutOfBoundsException" ["java/lang/RuntimeException", "java/lang/Exception"], vx_ot w = true := ⟨by decide +kernel, by decide +kernel⟩
theorem tDu_188_190 : zTh RDu 186 188 190 "java/lang/IndexOutOfBoundsException" "no such row" ["java/lang/RuntimeException", "java/lang/Exception"] := ⟨⟨by decide +kernel, by decide +kernel⟩, zw_525, zw_40, by decide +kernel, taDu_190.1, taDu_190.2⟩
theorem fDu_191 : zF RDu 191 1 0 RBk TBk 7 := ⟨rfl, by decide, inBk, zw_58⟩
theorem fDu_194 : zF RDu 194 1 1 RBk TBk 7 := ⟨rfl, by decide, inBk, zw_60⟩
theorem fDu_197 : zF RDu 197 1 2 RBk TBk 7 := ⟨rfl, by decide, inBk, zw_62⟩
theorem fDu_201 : zF RDu 201 1 3 RBk TBk 7 := ⟨rfl, by decide, inBk, zw_64⟩
theorem fDu_204 : zF RDu 204 1 4 RBk TBk 7 := ⟨rfl, by decide, inBk, zw_66⟩
theorem tDu_207_190 : zTh RDu 186 207 190 "java/lang/IndexOutOfBoundsException" "no such what" ["java/lang/RuntimeException", "java/lang/Exception"] := ⟨⟨by decide +kernel, by decide +kernel⟩, zw_525, zw_40, by decide +kernel, taDu_190.1, taDu_190.2⟩
theorem gLa_49 : ∀ w ∈ wsV RLa 49 yDu_look.cls yDu_look [Cond.code yDu_look bDu_look 4 (some .int)], w ∈ zT := List.forall_mem_cons.mpr ⟨zw_545, List.forall_mem_cons.mpr ⟨zw_546, List.forall_mem_cons.mpr ⟨zw_547, List.forall_mem_cons.mpr ⟨zw_28, List.forall_mem_cons.mpr ⟨zw_548, fun _ h => absurd h List.not_mem_nil⟩⟩⟩⟩⟩
theorem tDu_213_190 : zTh RDu 186 213 190 "java/lang/IndexOutOfBoundsException" "no such batch" ["java/lang/RuntimeException", "java/lang/Exception"] := ⟨⟨by decide +kernel, by decide +kernel⟩, zw_525, zw_40, by decide +kernel, taDu_190.1, taDu_190.2⟩
theorem fMo_9 : zF RMo 9 4 4 RMo TMo 22 := ⟨rfl, by decide, inMo, zw_560⟩
theorem fMo_13 : zF RMo 13 4 5 RMo TMo 22 := ⟨rfl, by decide, inMo, zw_561⟩
theorem fMo_16 : zF RMo 16 4 7 RMo TMo 22 := ⟨rfl, by decide, inMo, zw_563⟩
theorem fMo_19 : zF RMo 19 4 9 RMo TMo 22 := ⟨rfl, by decide, inMo, zw_565⟩
theorem fMo_23 : zF RMo 23 4 10 RMo TMo 22 := ⟨rfl, by decide, inMo, zw_566⟩
theorem fMo_26 : zF RMo 26 4 11 RMo TMo 22 := ⟨rfl, by decide, inMo, zw_567⟩
theorem fMo_29 : zF RMo 29 4 12 RMo TMo 22 := ⟨rfl, by decide, inMo, zw_568⟩
theorem fMo_32 : zF RMo 32 4 13 RMo TMo 22 := ⟨rfl, by decide, inMo, zw_569⟩
theorem fMo_35 : zF RMo 35 4 14 RMo TMo 22 := ⟨rfl, by decide, inMo, zw_570⟩
theorem fMo_38 : zF RMo 38 4 15 RMo TMo 22 := ⟨rfl, by decide, inMo, zw_571⟩
theorem fMo_42 : zF RMo 42 4 16 RMo TMo 22 := ⟨rfl, by decide, inMo, zw_572⟩
theorem fMo_45 : zF RMo 45 4 17 RMo TMo 22 := ⟨rfl, by decide, inMo, zw_573⟩
theorem fMo_48 : zF RMo 48 4 18 RMo TMo 22 := ⟨rfl, by decide, inMo, zw_574⟩
theorem fMo_52 : zF RMo 52 4 19 RMo TMo 22 := ⟨rfl, by decide, inMo, zw_575⟩
theorem fMo_55 : zF RMo 55 4 20 RMo TMo 22 := ⟨rfl, by decide, inMo, zw_576⟩
theorem fMo_58 : zF RMo 58 4 21 RMo TMo 22 := ⟨rfl, by decide, inMo, zw_577⟩
theorem fMo_61 : zF RMo 61 4 0 RMo TMo 22 := ⟨rfl, by decide, inMo, zw_556⟩
theorem gMo_78 : ∀ w ∈ va_wsS RMo 78 yMo_isKind [Cond.code yMo_isKind bMo_isKind 1 (some .boolean)], w ∈ zT := List.forall_mem_cons.mpr ⟨zw_632, List.forall_mem_cons.mpr ⟨zw_633, List.forall_mem_cons.mpr ⟨zw_31, List.forall_mem_cons.mpr ⟨zw_634, fun _ h => absurd h List.not_mem_nil⟩⟩⟩⟩
theorem fMo_72 : zF RMo 72 4 1 RMo TMo 22 := ⟨rfl, by decide, inMo, zw_557⟩
theorem gMo_66 : ∀ w ∈ va_wsS RMo 66 yMo_in [Cond.code yMo_in bMo_in 6 (some .boolean)], w ∈ zT := List.forall_mem_cons.mpr ⟨zw_636, List.forall_mem_cons.mpr ⟨zw_637, List.forall_mem_cons.mpr ⟨zw_31, List.forall_mem_cons.mpr ⟨zw_638, fun _ h => absurd h List.not_mem_nil⟩⟩⟩⟩
theorem gMo_82 : ∀ w ∈ va_wsS RMo 82 yMo_isDay [Cond.code yMo_isDay bMo_isDay 1 (some .boolean)], w ∈ zT := List.forall_mem_cons.mpr ⟨zw_643, List.forall_mem_cons.mpr ⟨zw_644, List.forall_mem_cons.mpr ⟨zw_31, List.forall_mem_cons.mpr ⟨zw_645, fun _ h => absurd h List.not_mem_nil⟩⟩⟩⟩
theorem fMo_75 : zF RMo 75 4 2 RMo TMo 22 := ⟨rfl, by decide, inMo, zw_558⟩
theorem gMo_85 : ∀ w ∈ wsV RMo 85 yMo_begin.cls yMo_begin [Cond.code yMo_begin bMo_begin 4 none], w ∈ zT := List.forall_mem_cons.mpr ⟨zw_647, List.forall_mem_cons.mpr ⟨zw_649, List.forall_mem_cons.mpr ⟨zw_16, List.forall_mem_cons.mpr ⟨zw_31, List.forall_mem_cons.mpr ⟨zw_650, fun _ h => absurd h List.not_mem_nil⟩⟩⟩⟩⟩
theorem gMo_89 : ∀ w ∈ wsV RMo 89 yMo_isOpen.cls yMo_isOpen [Cond.code yMo_isOpen bMo_isOpen 2 (some .boolean)], w ∈ zT := List.forall_mem_cons.mpr ⟨zw_655, List.forall_mem_cons.mpr ⟨zw_657, List.forall_mem_cons.mpr ⟨zw_17, List.forall_mem_cons.mpr ⟨zw_31, List.forall_mem_cons.mpr ⟨zw_658, fun _ h => absurd h List.not_mem_nil⟩⟩⟩⟩⟩
theorem gMo_92 : ∀ w ∈ wsV RMo 92 yMo_isAccount.cls yMo_isAccount [Cond.code yMo_isAccount bMo_isAccount 2 (some .boolean)], w ∈ zT := List.forall_mem_cons.mpr ⟨zw_659, List.forall_mem_cons.mpr ⟨zw_661, List.forall_mem_cons.mpr ⟨zw_18, List.forall_mem_cons.mpr ⟨zw_31, List.forall_mem_cons.mpr ⟨zw_662, fun _ h => absurd h List.not_mem_nil⟩⟩⟩⟩⟩
theorem gMo_106 : ∀ w ∈ wsV RMo 106 yMo_wrongWith.cls yMo_wrongWith [Cond.code yMo_wrongWith bMo_wrongWith 2 (some .int)], w ∈ zT := List.forall_mem_cons.mpr ⟨zw_673, List.forall_mem_cons.mpr ⟨zw_675, List.forall_mem_cons.mpr ⟨zw_19, List.forall_mem_cons.mpr ⟨zw_31, List.forall_mem_cons.mpr ⟨zw_676, fun _ h => absurd h List.not_mem_nil⟩⟩⟩⟩⟩
theorem fMo_110 : zF RMo 110 4 6 RMo TMo 22 := ⟨rfl, by decide, inMo, zw_562⟩
theorem gMo_113 : ∀ w ∈ wsV RMo 113 yMo_greatestIn.cls yMo_greatestIn [Cond.code yMo_greatestIn bMo_greatestIn 8 (some .int)], w ∈ zT := List.forall_mem_cons.mpr ⟨zw_681, List.forall_mem_cons.mpr ⟨zw_683, List.forall_mem_cons.mpr ⟨zw_21, List.forall_mem_cons.mpr ⟨zw_31, List.forall_mem_cons.mpr ⟨zw_684, fun _ h => absurd h List.not_mem_nil⟩⟩⟩⟩⟩
theorem fMo_116 : zF RMo 116 4 8 RMo TMo 22 := ⟨rfl, by decide, inMo, zw_564⟩
theorem gMo_119 : ∀ w ∈ wsV RMo 119 yMo_enter.cls yMo_enter [Cond.code yMo_enter bMo_enter 3 none], w ∈ zT := List.forall_mem_cons.mpr ⟨zw_685, List.forall_mem_cons.mpr ⟨zw_687, List.forall_mem_cons.mpr ⟨zw_22, List.forall_mem_cons.mpr ⟨zw_31, List.forall_mem_cons.mpr ⟨zw_688, fun _ h => absurd h List.not_mem_nil⟩⟩⟩⟩⟩
theorem gMo_99 : ∀ w ∈ wsV RMo 99 yMo_sumIn.cls yMo_sumIn [Cond.code yMo_sumIn bMo_sumIn 6 (some .long)], w ∈ zT := List.forall_mem_cons.mpr ⟨zw_677, List.forall_mem_cons.mpr ⟨zw_679, List.forall_mem_cons.mpr ⟨zw_20, List.forall_mem_cons.mpr ⟨zw_31, List.forall_mem_cons.mpr ⟨zw_680, fun _ h => absurd h List.not_mem_nil⟩⟩⟩⟩⟩
theorem fMo_103 : zF RMo 103 4 3 RMo TMo 22 := ⟨rfl, by decide, inMo, zw_559⟩
theorem gMo_123 : ∀ w ∈ wsV RMo 123 yMo_sum.cls yMo_sum [Cond.code yMo_sum bMo_sum 10 (some .long)], w ∈ zT := List.forall_mem_cons.mpr ⟨zw_701, List.forall_mem_cons.mpr ⟨zw_703, List.forall_mem_cons.mpr ⟨zw_23, List.forall_mem_cons.mpr ⟨zw_31, List.forall_mem_cons.mpr ⟨zw_704, fun _ h => absurd h List.not_mem_nil⟩⟩⟩⟩⟩
theorem gMo_139 : ∀ w ∈ wsV RMo 139 yMo_sumOf.cls yMo_sumOf [Cond.code yMo_sumOf bMo_sumOf 6 (some .long)], w ∈ zT := List.forall_mem_cons.mpr ⟨zw_725, List.forall_mem_cons.mpr ⟨zw_727, List.forall_mem_cons.mpr ⟨zw_24, List.forall_mem_cons.mpr ⟨zw_31, List.forall_mem_cons.mpr ⟨zw_728, fun _ h => absurd h List.not_mem_nil⟩⟩⟩⟩⟩
theorem gMo_142 : ∀ w ∈ wsV RMo 142 yMo_share.cls yMo_share [Cond.code yMo_share bMo_share 14 (some .long)], w ∈ zT := List.forall_mem_cons.mpr ⟨zw_730, List.forall_mem_cons.mpr ⟨zw_732, List.forall_mem_cons.mpr ⟨zw_25, List.forall_mem_cons.mpr ⟨zw_31, List.forall_mem_cons.mpr ⟨zw_733, fun _ h => absurd h List.not_mem_nil⟩⟩⟩⟩⟩
theorem gMo_134 : ∀ w ∈ wsV RMo 134 yMo_partsOf.cls yMo_partsOf [Cond.code yMo_partsOf bMo_partsOf 2 (some .int)], w ∈ zT := List.forall_mem_cons.mpr ⟨zw_734, List.forall_mem_cons.mpr ⟨zw_736, List.forall_mem_cons.mpr ⟨zw_26, List.forall_mem_cons.mpr ⟨zw_31, List.forall_mem_cons.mpr ⟨zw_737, fun _ h => absurd h List.not_mem_nil⟩⟩⟩⟩⟩
theorem nLa_8 : zN RLa 8 3 RDu TDu 11 := ⟨rfl, inDu, zw_41, zw_42, zw_28⟩
theorem gLa_52 : ∀ w ∈ [Cond.code yDu_init bDu_init 1 none, .initialized yDu_init.cls, .methodLink RLa 52 yDu_init, .instanceMethod yDu_init], w ∈ zT := List.forall_mem_cons.mpr ⟨zw_45, List.forall_mem_cons.mpr ⟨zw_28, List.forall_mem_cons.mpr ⟨zw_43, List.forall_mem_cons.mpr ⟨zw_44, fun _ h => absurd h List.not_mem_nil⟩⟩⟩⟩
theorem nLa_53 : zN RLa 53 4 RMo TMo 22 := ⟨rfl, inMo, zw_550, zw_551, zw_31⟩
theorem gLa_55 : ∀ w ∈ [Cond.code yMo_init bMo_init 1 none, .initialized yMo_init.cls, .methodLink RLa 55 yMo_init, .instanceMethod yMo_init], w ∈ zT := List.forall_mem_cons.mpr ⟨zw_554, List.forall_mem_cons.mpr ⟨zw_31, List.forall_mem_cons.mpr ⟨zw_552, List.forall_mem_cons.mpr ⟨zw_553, fun _ h => absurd h List.not_mem_nil⟩⟩⟩⟩
theorem gLa_61 : ∀ w ∈ wsV RLa 61 yMo_account.cls yMo_account [Cond.code yMo_account bMo_account 2 (some .int)], w ∈ zT := List.forall_mem_cons.mpr ⟨zw_628, List.forall_mem_cons.mpr ⟨zw_629, List.forall_mem_cons.mpr ⟨zw_630, List.forall_mem_cons.mpr ⟨zw_31, List.forall_mem_cons.mpr ⟨zw_631, fun _ h => absurd h List.not_mem_nil⟩⟩⟩⟩⟩
theorem gLa_62 : ∀ w ∈ wsV RLa 62 yMo_thrown.cls yMo_thrown [Cond.code yMo_thrown bMo_thrown 1 (some .int)], w ∈ zT := List.forall_mem_cons.mpr ⟨zw_624, List.forall_mem_cons.mpr ⟨zw_625, List.forall_mem_cons.mpr ⟨zw_626, List.forall_mem_cons.mpr ⟨zw_31, List.forall_mem_cons.mpr ⟨zw_627, fun _ h => absurd h List.not_mem_nil⟩⟩⟩⟩⟩
theorem gLa_69 : ∀ w ∈ wsV RLa 69 yMo_batch.cls yMo_batch [Cond.code yMo_batch bMo_batch 3 (some .int)], w ∈ zT := List.forall_mem_cons.mpr ⟨zw_639, List.forall_mem_cons.mpr ⟨zw_640, List.forall_mem_cons.mpr ⟨zw_641, List.forall_mem_cons.mpr ⟨zw_31, List.forall_mem_cons.mpr ⟨zw_642, fun _ h => absurd h List.not_mem_nil⟩⟩⟩⟩⟩
theorem gLa_72 : ∀ w ∈ wsV RLa 72 yDu_row.cls yDu_row [Cond.code yDu_row bDu_row 6 (some .boolean)], w ∈ zT := List.forall_mem_cons.mpr ⟨zw_135, List.forall_mem_cons.mpr ⟨zw_136, List.forall_mem_cons.mpr ⟨zw_137, List.forall_mem_cons.mpr ⟨zw_28, List.forall_mem_cons.mpr ⟨zw_138, fun _ h => absurd h List.not_mem_nil⟩⟩⟩⟩⟩
theorem gLa_76 : ∀ w ∈ wsV RLa 76 yMo_row.cls yMo_row [Cond.code yMo_row bMo_row 5 (some .boolean)], w ∈ zT := List.forall_mem_cons.mpr ⟨zw_651, List.forall_mem_cons.mpr ⟨zw_652, List.forall_mem_cons.mpr ⟨zw_653, List.forall_mem_cons.mpr ⟨zw_31, List.forall_mem_cons.mpr ⟨zw_654, fun _ h => absurd h List.not_mem_nil⟩⟩⟩⟩⟩
theorem gLa_77 : ∀ w ∈ wsV RLa 77 yDu_fails.cls yDu_fails [Cond.code yDu_fails bDu_fails 4 (some .boolean)], w ∈ zT := List.forall_mem_cons.mpr ⟨zw_160, List.forall_mem_cons.mpr ⟨zw_161, List.forall_mem_cons.mpr ⟨zw_162, List.forall_mem_cons.mpr ⟨zw_28, List.forall_mem_cons.mpr ⟨zw_163, fun _ h => absurd h List.not_mem_nil⟩⟩⟩⟩⟩
theorem gLa_81 : ∀ w ∈ wsV RLa 81 yMo_fails.cls yMo_fails [Cond.code yMo_fails bMo_fails 3 (some .boolean)], w ∈ zT := List.forall_mem_cons.mpr ⟨zw_665, List.forall_mem_cons.mpr ⟨zw_666, List.forall_mem_cons.mpr ⟨zw_667, List.forall_mem_cons.mpr ⟨zw_31, List.forall_mem_cons.mpr ⟨zw_668, fun _ h => absurd h List.not_mem_nil⟩⟩⟩⟩⟩
theorem gLa_84 : ∀ w ∈ wsV RLa 84 yMo_post.cls yMo_post [Cond.code yMo_post bMo_post 3 (some .int)], w ∈ zT := List.forall_mem_cons.mpr ⟨zw_669, List.forall_mem_cons.mpr ⟨zw_670, List.forall_mem_cons.mpr ⟨zw_671, List.forall_mem_cons.mpr ⟨zw_31, List.forall_mem_cons.mpr ⟨zw_672, fun _ h => absurd h List.not_mem_nil⟩⟩⟩⟩⟩
theorem gLa_87 : ∀ w ∈ wsV RLa 87 yMo_reverse.cls yMo_reverse [Cond.code yMo_reverse bMo_reverse 6 (some .int)], w ∈ zT := List.forall_mem_cons.mpr ⟨zw_689, List.forall_mem_cons.mpr ⟨zw_690, List.forall_mem_cons.mpr ⟨zw_691, List.forall_mem_cons.mpr ⟨zw_31, List.forall_mem_cons.mpr ⟨zw_692, fun _ h => absurd h List.not_mem_nil⟩⟩⟩⟩⟩
theorem gLa_88 : ∀ w ∈ wsV RLa 88 yDu_close.cls yDu_close [Cond.code yDu_close bDu_close 2 (some .boolean)], w ∈ zT := List.forall_mem_cons.mpr ⟨zw_164, List.forall_mem_cons.mpr ⟨zw_165, List.forall_mem_cons.mpr ⟨zw_166, List.forall_mem_cons.mpr ⟨zw_28, List.forall_mem_cons.mpr ⟨zw_167, fun _ h => absurd h List.not_mem_nil⟩⟩⟩⟩⟩
theorem gLa_92 : ∀ w ∈ wsV RLa 92 yMo_close.cls yMo_close [Cond.code yMo_close bMo_close 2 (some .boolean)], w ∈ zT := List.forall_mem_cons.mpr ⟨zw_693, List.forall_mem_cons.mpr ⟨zw_694, List.forall_mem_cons.mpr ⟨zw_695, List.forall_mem_cons.mpr ⟨zw_31, List.forall_mem_cons.mpr ⟨zw_696, fun _ h => absurd h List.not_mem_nil⟩⟩⟩⟩⟩
theorem gLa_96 : ∀ w ∈ wsV RLa 96 yMo_balance.cls yMo_balance [Cond.code yMo_balance bMo_balance 4 (some .long)], w ∈ zT := List.forall_mem_cons.mpr ⟨zw_697, List.forall_mem_cons.mpr ⟨zw_698, List.forall_mem_cons.mpr ⟨zw_699, List.forall_mem_cons.mpr ⟨zw_31, List.forall_mem_cons.mpr ⟨zw_700, fun _ h => absurd h List.not_mem_nil⟩⟩⟩⟩⟩
theorem gLa_99 : ∀ w ∈ wsV RLa 99 yMo_statement.cls yMo_statement [Cond.code yMo_statement bMo_statement 4 (some .long)], w ∈ zT := List.forall_mem_cons.mpr ⟨zw_705, List.forall_mem_cons.mpr ⟨zw_706, List.forall_mem_cons.mpr ⟨zw_707, List.forall_mem_cons.mpr ⟨zw_31, List.forall_mem_cons.mpr ⟨zw_708, fun _ h => absurd h List.not_mem_nil⟩⟩⟩⟩⟩
theorem gLa_100 : ∀ w ∈ wsV RLa 100 yDu_part.cls yDu_part [Cond.code yDu_part bDu_part 4 (some .boolean)], w ∈ zT := List.forall_mem_cons.mpr ⟨zw_172, List.forall_mem_cons.mpr ⟨zw_173, List.forall_mem_cons.mpr ⟨zw_174, List.forall_mem_cons.mpr ⟨zw_28, List.forall_mem_cons.mpr ⟨zw_175, fun _ h => absurd h List.not_mem_nil⟩⟩⟩⟩⟩
theorem gLa_104 : ∀ w ∈ wsV RLa 104 yMo_part.cls yMo_part [Cond.code yMo_part bMo_part 4 (some .boolean)], w ∈ zT := List.forall_mem_cons.mpr ⟨zw_710, List.forall_mem_cons.mpr ⟨zw_711, List.forall_mem_cons.mpr ⟨zw_712, List.forall_mem_cons.mpr ⟨zw_31, List.forall_mem_cons.mpr ⟨zw_713, fun _ h => absurd h List.not_mem_nil⟩⟩⟩⟩⟩
theorem gLa_105 : ∀ w ∈ wsV RLa 105 yDu_cost.cls yDu_cost [Cond.code yDu_cost bDu_cost 3 (some .boolean)], w ∈ zT := List.forall_mem_cons.mpr ⟨zw_186, List.forall_mem_cons.mpr ⟨zw_187, List.forall_mem_cons.mpr ⟨zw_188, List.forall_mem_cons.mpr ⟨zw_28, List.forall_mem_cons.mpr ⟨zw_189, fun _ h => absurd h List.not_mem_nil⟩⟩⟩⟩⟩
theorem gLa_109 : ∀ w ∈ wsV RLa 109 yMo_cost.cls yMo_cost [Cond.code yMo_cost bMo_cost 3 (some .boolean)], w ∈ zT := List.forall_mem_cons.mpr ⟨zw_716, List.forall_mem_cons.mpr ⟨zw_717, List.forall_mem_cons.mpr ⟨zw_718, List.forall_mem_cons.mpr ⟨zw_31, List.forall_mem_cons.mpr ⟨zw_719, fun _ h => absurd h List.not_mem_nil⟩⟩⟩⟩⟩
theorem gLa_112 : ∀ w ∈ wsV RLa 112 yMo_passed.cls yMo_passed [Cond.code yMo_passed bMo_passed 11 (some .long)], w ∈ zT := List.forall_mem_cons.mpr ⟨zw_720, List.forall_mem_cons.mpr ⟨zw_721, List.forall_mem_cons.mpr ⟨zw_722, List.forall_mem_cons.mpr ⟨zw_31, List.forall_mem_cons.mpr ⟨zw_723, fun _ h => absurd h List.not_mem_nil⟩⟩⟩⟩⟩
theorem gLa_116 : ∀ w ∈ wsV RLa 116 yMo_reconcile.cls yMo_reconcile [Cond.code yMo_reconcile bMo_reconcile 5 (some .long)], w ∈ zT := List.forall_mem_cons.mpr ⟨zw_738, List.forall_mem_cons.mpr ⟨zw_739, List.forall_mem_cons.mpr ⟨zw_740, List.forall_mem_cons.mpr ⟨zw_31, List.forall_mem_cons.mpr ⟨zw_741, fun _ h => absurd h List.not_mem_nil⟩⟩⟩⟩⟩
theorem gLa_119 : ∀ w ∈ wsV RLa 119 yMo_read.cls yMo_read [Cond.code yMo_read bMo_read 4 (some .long)], w ∈ zT := List.forall_mem_cons.mpr ⟨zw_742, List.forall_mem_cons.mpr ⟨zw_743, List.forall_mem_cons.mpr ⟨zw_744, List.forall_mem_cons.mpr ⟨zw_31, List.forall_mem_cons.mpr ⟨zw_745, fun _ h => absurd h List.not_mem_nil⟩⟩⟩⟩⟩
theorem gLa_122 : ∀ w ∈ wsV RLa 122 yMo_look.cls yMo_look [Cond.code yMo_look bMo_look 3 (some .int)], w ∈ zT := List.forall_mem_cons.mpr ⟨zw_746, List.forall_mem_cons.mpr ⟨zw_747, List.forall_mem_cons.mpr ⟨zw_748, List.forall_mem_cons.mpr ⟨zw_31, List.forall_mem_cons.mpr ⟨zw_749, fun _ h => absurd h List.not_mem_nil⟩⟩⟩⟩⟩
theorem gLa_123 : ∀ w ∈ wsV RLa 123 yDu_count.cls yDu_count [Cond.code yDu_count bDu_count 2 (some .int)], w ∈ zT := List.forall_mem_cons.mpr ⟨zw_194, List.forall_mem_cons.mpr ⟨zw_195, List.forall_mem_cons.mpr ⟨zw_196, List.forall_mem_cons.mpr ⟨zw_28, List.forall_mem_cons.mpr ⟨zw_197, fun _ h => absurd h List.not_mem_nil⟩⟩⟩⟩⟩
theorem gLa_126 : ∀ w ∈ wsV RLa 126 yMo_count.cls yMo_count [Cond.code yMo_count bMo_count 2 (some .int)], w ∈ zT := List.forall_mem_cons.mpr ⟨zw_750, List.forall_mem_cons.mpr ⟨zw_751, List.forall_mem_cons.mpr ⟨zw_752, List.forall_mem_cons.mpr ⟨zw_31, List.forall_mem_cons.mpr ⟨zw_753, fun _ h => absurd h List.not_mem_nil⟩⟩⟩⟩⟩
theorem mDu_init : yDu_init.cls ≠ "java/lang/invoke/MethodHandle" ∧ yDu_init.cls ≠ "java/lang/invoke/VarHandle" ∧ (parseMethodDescriptor yDu_init.desc).map (fun d => d.parameters.length) = some 0 := by decide +kernel
abbrev rmDu_init : Room := { frames := 2, cells := 11, slots := 2151, locals := 34 }
theorem mBk_init : yBk_init.cls ≠ "java/lang/invoke/MethodHandle" ∧ yBk_init.cls ≠ "java/lang/invoke/VarHandle" ∧ (parseMethodDescriptor yBk_init.desc).map (fun d => d.parameters.length) = some 0 := by decide +kernel
abbrev rmBk_init : Room := { frames := 1, cells := 5, slots := 2000, locals := 14 }
theorem mSh_init : ySh_init.cls ≠ "java/lang/invoke/MethodHandle" ∧ ySh_init.cls ≠ "java/lang/invoke/VarHandle" ∧ (parseMethodDescriptor ySh_init.desc).map (fun d => d.parameters.length) = some 0 := by decide +kernel
abbrev rmSh_init : Room := { frames := 1, cells := 2, slots := 30, locals := 14 }
theorem mDu_row : yDu_row.cls ≠ "java/lang/invoke/MethodHandle" ∧ yDu_row.cls ≠ "java/lang/invoke/VarHandle" ∧ (parseMethodDescriptor yDu_row.desc).map (fun d => d.parameters.length) = some 3 := by decide +kernel
abbrev rmDu_row : Room := { frames := 2, cells := 0, slots := 0, locals := 44 }
theorem mDu_batchThatIs : yDu_batchThatIs.cls ≠ "java/lang/invoke/MethodHandle" ∧ yDu_batchThatIs.cls ≠ "java/lang/invoke/VarHandle" ∧ (parseMethodDescriptor yDu_batchThatIs.desc).map (fun d => d.parameters.length) = some 2 := by decide +kernel
abbrev rmDu_batchThatIs : Room := { frames := 1, cells := 0, slots := 0, locals := 21 }
theorem mDu_batchAt : yDu_batchAt.cls ≠ "java/lang/invoke/MethodHandle" ∧ yDu_batchAt.cls ≠ "java/lang/invoke/VarHandle" ∧ (parseMethodDescriptor yDu_batchAt.desc).map (fun d => d.parameters.length) = some 1 := by decide +kernel
abbrev rmDu_batchAt : Room := { frames := 0, cells := 0, slots := 0, locals := 0 }
theorem mDu_isAccount : yDu_isAccount.cls ≠ "java/lang/invoke/MethodHandle" ∧ yDu_isAccount.cls ≠ "java/lang/invoke/VarHandle" ∧ (parseMethodDescriptor yDu_isAccount.desc).map (fun d => d.parameters.length) = some 1 := by decide +kernel
abbrev rmDu_isAccount : Room := { frames := 0, cells := 0, slots := 0, locals := 0 }
theorem mDu_canBeCents : yDu_canBeCents.cls ≠ "java/lang/invoke/MethodHandle" ∧ yDu_canBeCents.cls ≠ "java/lang/invoke/VarHandle" ∧ (parseMethodDescriptor yDu_canBeCents.desc).map (fun d => d.parameters.length) = some 1 := by decide +kernel
abbrev rmDu_canBeCents : Room := { frames := 0, cells := 0, slots := 0, locals := 0 }
theorem mBa_take : yBa_take.cls ≠ "java/lang/invoke/MethodHandle" ∧ yBa_take.cls ≠ "java/lang/invoke/VarHandle" ∧ (parseMethodDescriptor yBa_take.desc).map (fun d => d.parameters.length) = some 2 := by decide +kernel
abbrev rmBa_take : Room := { frames := 0, cells := 0, slots := 0, locals := 0 }
theorem mDu_fails : yDu_fails.cls ≠ "java/lang/invoke/MethodHandle" ∧ yDu_fails.cls ≠ "java/lang/invoke/VarHandle" ∧ (parseMethodDescriptor yDu_fails.desc).map (fun d => d.parameters.length) = some 2 := by decide +kernel
abbrev rmDu_fails : Room := { frames := 2, cells := 0, slots := 0, locals := 44 }
theorem mDu_close : yDu_close.cls ≠ "java/lang/invoke/MethodHandle" ∧ yDu_close.cls ≠ "java/lang/invoke/VarHandle" ∧ (parseMethodDescriptor yDu_close.desc).map (fun d => d.parameters.length) = some 1 := by decide +kernel
abbrev rmDu_close : Room := { frames := 1, cells := 0, slots := 0, locals := 20 }
theorem mDu_isDay : yDu_isDay.cls ≠ "java/lang/invoke/MethodHandle" ∧ yDu_isDay.cls ≠ "java/lang/invoke/VarHandle" ∧ (parseMethodDescriptor yDu_isDay.desc).map (fun d => d.parameters.length) = some 1 := by decide +kernel
abbrev rmDu_isDay : Room := { frames := 0, cells := 0, slots := 0, locals := 0 }
theorem mDu_part : yDu_part.cls ≠ "java/lang/invoke/MethodHandle" ∧ yDu_part.cls ≠ "java/lang/invoke/VarHandle" ∧ (parseMethodDescriptor yDu_part.desc).map (fun d => d.parameters.length) = some 3 := by decide +kernel
abbrev rmDu_part : Room := { frames := 1, cells := 0, slots := 0, locals := 23 }
theorem mDu_isKind : yDu_isKind.cls ≠ "java/lang/invoke/MethodHandle" ∧ yDu_isKind.cls ≠ "java/lang/invoke/VarHandle" ∧ (parseMethodDescriptor yDu_isKind.desc).map (fun d => d.parameters.length) = some 1 := by decide +kernel
abbrev rmDu_isKind : Room := { frames := 0, cells := 0, slots := 0, locals := 0 }
theorem mDu_isReceiver : yDu_isReceiver.cls ≠ "java/lang/invoke/MethodHandle" ∧ yDu_isReceiver.cls ≠ "java/lang/invoke/VarHandle" ∧ (parseMethodDescriptor yDu_isReceiver.desc).map (fun d => d.parameters.length) = some 1 := by decide +kernel
abbrev rmDu_isReceiver : Room := { frames := 0, cells := 0, slots := 0, locals := 0 }
theorem mSh_setPart : ySh_setPart.cls ≠ "java/lang/invoke/MethodHandle" ∧ ySh_setPart.cls ≠ "java/lang/invoke/VarHandle" ∧ (parseMethodDescriptor ySh_setPart.desc).map (fun d => d.parameters.length) = some 3 := by decide +kernel
abbrev rmSh_setPart : Room := { frames := 0, cells := 0, slots := 0, locals := 0 }
theorem mDu_cost : yDu_cost.cls ≠ "java/lang/invoke/MethodHandle" ∧ yDu_cost.cls ≠ "java/lang/invoke/VarHandle" ∧ (parseMethodDescriptor yDu_cost.desc).map (fun d => d.parameters.length) = some 2 := by decide +kernel
abbrev rmDu_cost : Room := { frames := 1, cells := 0, slots := 0, locals := 22 }
theorem mSh_setCost : ySh_setCost.cls ≠ "java/lang/invoke/MethodHandle" ∧ ySh_setCost.cls ≠ "java/lang/invoke/VarHandle" ∧ (parseMethodDescriptor ySh_setCost.desc).map (fun d => d.parameters.length) = some 2 := by decide +kernel
abbrev rmSh_setCost : Room := { frames := 0, cells := 0, slots := 0, locals := 0 }
theorem mDu_count : yDu_count.cls ≠ "java/lang/invoke/MethodHandle" ∧ yDu_count.cls ≠ "java/lang/invoke/VarHandle" ∧ (parseMethodDescriptor yDu_count.desc).map (fun d => d.parameters.length) = some 1 := by decide +kernel
abbrev rmDu_count : Room := { frames := 0, cells := 0, slots := 0, locals := 0 }
theorem mLa_account : yLa_account.cls ≠ "java/lang/invoke/MethodHandle" ∧ yLa_account.cls ≠ "java/lang/invoke/VarHandle" ∧ (parseMethodDescriptor yLa_account.desc).map (fun d => d.parameters.length) = some 3 := by decide +kernel
abbrev rmLa_account : Room := { frames := 7, cells := 1, slots := 6, locals := 103 }
theorem mDu_account : yDu_account.cls ≠ "java/lang/invoke/MethodHandle" ∧ yDu_account.cls ≠ "java/lang/invoke/VarHandle" ∧ (parseMethodDescriptor yDu_account.desc).map (fun d => d.parameters.length) = some 1 := by decide +kernel
abbrev rmDu_account : Room := { frames := 6, cells := 1, slots := 6, locals := 82 }
theorem mLa_batch : yLa_batch.cls ≠ "java/lang/invoke/MethodHandle" ∧ yLa_batch.cls ≠ "java/lang/invoke/VarHandle" ∧ (parseMethodDescriptor yLa_batch.desc).map (fun d => d.parameters.length) = some 4 := by decide +kernel
abbrev rmLa_batch : Room := { frames := 7, cells := 3, slots := 49, locals := 104 }
theorem mDu_batch : yDu_batch.cls ≠ "java/lang/invoke/MethodHandle" ∧ yDu_batch.cls ≠ "java/lang/invoke/VarHandle" ∧ (parseMethodDescriptor yDu_batch.desc).map (fun d => d.parameters.length) = some 2 := by decide +kernel
abbrev rmDu_batch : Room := { frames := 6, cells := 3, slots := 49, locals := 82 }
theorem mBa_init : yBa_init.cls ≠ "java/lang/invoke/MethodHandle" ∧ yBa_init.cls ≠ "java/lang/invoke/VarHandle" ∧ (parseMethodDescriptor yBa_init.desc).map (fun d => d.parameters.length) = some 3 := by decide +kernel
abbrev rmBa_init : Room := { frames := 1, cells := 2, slots := 40, locals := 14 }
theorem mDu_keep : yDu_keep.cls ≠ "java/lang/invoke/MethodHandle" ∧ yDu_keep.cls ≠ "java/lang/invoke/VarHandle" ∧ (parseMethodDescriptor yDu_keep.desc).map (fun d => d.parameters.length) = some 1 := by decide +kernel
abbrev rmDu_keep : Room := { frames := 0, cells := 0, slots := 0, locals := 0 }
theorem mLa_post : yLa_post.cls ≠ "java/lang/invoke/MethodHandle" ∧ yLa_post.cls ≠ "java/lang/invoke/VarHandle" ∧ (parseMethodDescriptor yLa_post.desc).map (fun d => d.parameters.length) = some 3 := by decide +kernel
abbrev rmLa_post : Room := { frames := 7, cells := 1, slots := 6, locals := 105 }
theorem mDu_post : yDu_post.cls ≠ "java/lang/invoke/MethodHandle" ∧ yDu_post.cls ≠ "java/lang/invoke/VarHandle" ∧ (parseMethodDescriptor yDu_post.desc).map (fun d => d.parameters.length) = some 1 := by decide +kernel
abbrev rmDu_post : Room := { frames := 6, cells := 1, slots := 6, locals := 82 }
theorem mDu_whatIsWrongWith : yDu_whatIsWrongWith.cls ≠ "java/lang/invoke/MethodHandle" ∧ yDu_whatIsWrongWith.cls ≠ "java/lang/invoke/VarHandle" ∧ (parseMethodDescriptor yDu_whatIsWrongWith.desc).map (fun d => d.parameters.length) = some 1 := by decide +kernel
abbrev rmDu_whatIsWrongWith : Room := { frames := 1, cells := 0, slots := 0, locals := 23 }
theorem mBa_sum : yBa_sum.cls ≠ "java/lang/invoke/MethodHandle" ∧ yBa_sum.cls ≠ "java/lang/invoke/VarHandle" ∧ (parseMethodDescriptor yBa_sum.desc).map (fun d => d.parameters.length) = some 0 := by decide +kernel
abbrev rmBa_sum : Room := { frames := 0, cells := 0, slots := 0, locals := 0 }
theorem mBk_hasRoomFor : yBk_hasRoomFor.cls ≠ "java/lang/invoke/MethodHandle" ∧ yBk_hasRoomFor.cls ≠ "java/lang/invoke/VarHandle" ∧ (parseMethodDescriptor yBk_hasRoomFor.desc).map (fun d => d.parameters.length) = some 1 := by decide +kernel
abbrev rmBk_hasRoomFor : Room := { frames := 0, cells := 0, slots := 0, locals := 0 }
theorem mDu_makeVoid : yDu_makeVoid.cls ≠ "java/lang/invoke/MethodHandle" ∧ yDu_makeVoid.cls ≠ "java/lang/invoke/VarHandle" ∧ (parseMethodDescriptor yDu_makeVoid.desc).map (fun d => d.parameters.length) = some 2 := by decide +kernel
abbrev rmDu_makeVoid : Room := { frames := 2, cells := 0, slots := 0, locals := 51 }
theorem mDu_accountFarthestFromZero : yDu_accountFarthestFromZero.cls ≠ "java/lang/invoke/MethodHandle" ∧ yDu_accountFarthestFromZero.cls ≠ "java/lang/invoke/VarHandle" ∧ (parseMethodDescriptor yDu_accountFarthestFromZero.desc).map (fun d => d.parameters.length) = some 1 := by decide +kernel
abbrev rmDu_accountFarthestFromZero : Room := { frames := 1, cells := 0, slots := 0, locals := 24 }
theorem mBa_sumOf : yBa_sumOf.cls ≠ "java/lang/invoke/MethodHandle" ∧ yBa_sumOf.cls ≠ "java/lang/invoke/VarHandle" ∧ (parseMethodDescriptor yBa_sumOf.desc).map (fun d => d.parameters.length) = some 1 := by decide +kernel
abbrev rmBa_sumOf : Room := { frames := 0, cells := 0, slots := 0, locals := 0 }
theorem mDu_failHalfway : yDu_failHalfway.cls ≠ "java/lang/invoke/MethodHandle" ∧ yDu_failHalfway.cls ≠ "java/lang/invoke/VarHandle" ∧ (parseMethodDescriptor yDu_failHalfway.desc).map (fun d => d.parameters.length) = some 2 := by decide +kernel
abbrev rmDu_failHalfway : Room := { frames := 1, cells := 0, slots := 0, locals := 24 }
theorem mBk_bringIn : yBk_bringIn.cls ≠ "java/lang/invoke/MethodHandle" ∧ yBk_bringIn.cls ≠ "java/lang/invoke/VarHandle" ∧ (parseMethodDescriptor yBk_bringIn.desc).map (fun d => d.parameters.length) = some 3 := by decide +kernel
abbrev rmBk_bringIn : Room := { frames := 0, cells := 0, slots := 0, locals := 0 }
theorem mBk_takeHeldOut : yBk_takeHeldOut.cls ≠ "java/lang/invoke/MethodHandle" ∧ yBk_takeHeldOut.cls ≠ "java/lang/invoke/VarHandle" ∧ (parseMethodDescriptor yBk_takeHeldOut.desc).map (fun d => d.parameters.length) = some 0 := by decide +kernel
abbrev rmBk_takeHeldOut : Room := { frames := 0, cells := 0, slots := 0, locals := 0 }
theorem mDu_enter : yDu_enter.cls ≠ "java/lang/invoke/MethodHandle" ∧ yDu_enter.cls ≠ "java/lang/invoke/VarHandle" ∧ (parseMethodDescriptor yDu_enter.desc).map (fun d => d.parameters.length) = some 2 := by decide +kernel
abbrev rmDu_enter : Room := { frames := 1, cells := 0, slots := 0, locals := 24 }
theorem mBk_settleHeld : yBk_settleHeld.cls ≠ "java/lang/invoke/MethodHandle" ∧ yBk_settleHeld.cls ≠ "java/lang/invoke/VarHandle" ∧ (parseMethodDescriptor yBk_settleHeld.desc).map (fun d => d.parameters.length) = some 0 := by decide +kernel
abbrev rmBk_settleHeld : Room := { frames := 0, cells := 0, slots := 0, locals := 0 }
theorem mLa_reverse : yLa_reverse.cls ≠ "java/lang/invoke/MethodHandle" ∧ yLa_reverse.cls ≠ "java/lang/invoke/VarHandle" ∧ (parseMethodDescriptor yLa_reverse.desc).map (fun d => d.parameters.length) = some 4 := by decide +kernel
abbrev rmLa_reverse : Room := { frames := 7, cells := 4, slots := 55, locals := 107 }
theorem mDu_reverse : yDu_reverse.cls ≠ "java/lang/invoke/MethodHandle" ∧ yDu_reverse.cls ≠ "java/lang/invoke/VarHandle" ∧ (parseMethodDescriptor yDu_reverse.desc).map (fun d => d.parameters.length) = some 2 := by decide +kernel
abbrev rmDu_reverse : Room := { frames := 6, cells := 4, slots := 55, locals := 82 }
theorem mDu_reversalOf : yDu_reversalOf.cls ≠ "java/lang/invoke/MethodHandle" ∧ yDu_reversalOf.cls ≠ "java/lang/invoke/VarHandle" ∧ (parseMethodDescriptor yDu_reversalOf.desc).map (fun d => d.parameters.length) = some 3 := by decide +kernel
abbrev rmDu_reversalOf : Room := { frames := 2, cells := 3, slots := 49, locals := 37 }
theorem mLa_balance : yLa_balance.cls ≠ "java/lang/invoke/MethodHandle" ∧ yLa_balance.cls ≠ "java/lang/invoke/VarHandle" ∧ (parseMethodDescriptor yLa_balance.desc).map (fun d => d.parameters.length) = some 5 := by decide +kernel
abbrev rmLa_balance : Room := { frames := 7, cells := 1, slots := 6, locals := 105 }
theorem mDu_balance : yDu_balance.cls ≠ "java/lang/invoke/MethodHandle" ∧ yDu_balance.cls ≠ "java/lang/invoke/VarHandle" ∧ (parseMethodDescriptor yDu_balance.desc).map (fun d => d.parameters.length) = some 3 := by decide +kernel
abbrev rmDu_balance : Room := { frames := 6, cells := 1, slots := 6, locals := 82 }
theorem mBk_sum : yBk_sum.cls ≠ "java/lang/invoke/MethodHandle" ∧ yBk_sum.cls ≠ "java/lang/invoke/VarHandle" ∧ (parseMethodDescriptor yBk_sum.desc).map (fun d => d.parameters.length) = some 4 := by decide +kernel
abbrev rmBk_sum : Room := { frames := 0, cells := 0, slots := 0, locals := 0 }
theorem mLa_statement : yLa_statement.cls ≠ "java/lang/invoke/MethodHandle" ∧ yLa_statement.cls ≠ "java/lang/invoke/VarHandle" ∧ (parseMethodDescriptor yLa_statement.desc).map (fun d => d.parameters.length) = some 5 := by decide +kernel
abbrev rmLa_statement : Room := { frames := 7, cells := 1, slots := 6, locals := 106 }
theorem mDu_statement : yDu_statement.cls ≠ "java/lang/invoke/MethodHandle" ∧ yDu_statement.cls ≠ "java/lang/invoke/VarHandle" ∧ (parseMethodDescriptor yDu_statement.desc).map (fun d => d.parameters.length) = some 3 := by decide +kernel
abbrev rmDu_statement : Room := { frames := 6, cells := 1, slots := 6, locals := 82 }
theorem mDu_isMonth : yDu_isMonth.cls ≠ "java/lang/invoke/MethodHandle" ∧ yDu_isMonth.cls ≠ "java/lang/invoke/VarHandle" ∧ (parseMethodDescriptor yDu_isMonth.desc).map (fun d => d.parameters.length) = some 1 := by decide +kernel
abbrev rmDu_isMonth : Room := { frames := 0, cells := 0, slots := 0, locals := 0 }
theorem mLa_passed : yLa_passed.cls ≠ "java/lang/invoke/MethodHandle" ∧ yLa_passed.cls ≠ "java/lang/invoke/VarHandle" ∧ (parseMethodDescriptor yLa_passed.desc).map (fun d => d.parameters.length) = some 5 := by decide +kernel
abbrev rmLa_passed : Room := { frames := 7, cells := 1, slots := 6, locals := 157 }
theorem mDu_passed : yDu_passed.cls ≠ "java/lang/invoke/MethodHandle" ∧ yDu_passed.cls ≠ "java/lang/invoke/VarHandle" ∧ (parseMethodDescriptor yDu_passed.desc).map (fun d => d.parameters.length) = some 3 := by decide +kernel
abbrev rmDu_passed : Room := { frames := 6, cells := 1, slots := 6, locals := 130 }
theorem mDu_collectedOf : yDu_collectedOf.cls ≠ "java/lang/invoke/MethodHandle" ∧ yDu_collectedOf.cls ≠ "java/lang/invoke/VarHandle" ∧ (parseMethodDescriptor yDu_collectedOf.desc).map (fun d => d.parameters.length) = some 2 := by decide +kernel
abbrev rmDu_collectedOf : Room := { frames := 1, cells := 0, slots := 0, locals := 27 }
theorem mSh_costOf : ySh_costOf.cls ≠ "java/lang/invoke/MethodHandle" ∧ ySh_costOf.cls ≠ "java/lang/invoke/VarHandle" ∧ (parseMethodDescriptor ySh_costOf.desc).map (fun d => d.parameters.length) = some 2 := by decide +kernel
abbrev rmSh_costOf : Room := { frames := 0, cells := 0, slots := 0, locals := 0 }
theorem mSh_allShares : ySh_allShares.cls ≠ "java/lang/invoke/MethodHandle" ∧ ySh_allShares.cls ≠ "java/lang/invoke/VarHandle" ∧ (parseMethodDescriptor ySh_allShares.desc).map (fun d => d.parameters.length) = some 2 := by decide +kernel
abbrev rmSh_allShares : Room := { frames := 4, cells := 0, slots := 0, locals := 104 }
theorem mSh_shareOf : ySh_shareOf.cls ≠ "java/lang/invoke/MethodHandle" ∧ ySh_shareOf.cls ≠ "java/lang/invoke/VarHandle" ∧ (parseMethodDescriptor ySh_shareOf.desc).map (fun d => d.parameters.length) = some 3 := by decide +kernel
abbrev rmSh_shareOf : Room := { frames := 3, cells := 0, slots := 0, locals := 78 }
theorem mSh_allParts : ySh_allParts.cls ≠ "java/lang/invoke/MethodHandle" ∧ ySh_allParts.cls ≠ "java/lang/invoke/VarHandle" ∧ (parseMethodDescriptor ySh_allParts.desc).map (fun d => d.parameters.length) = some 1 := by decide +kernel
abbrev rmSh_allParts : Room := { frames := 0, cells := 0, slots := 0, locals := 0 }
theorem mSh_wholeShare : ySh_wholeShare.cls ≠ "java/lang/invoke/MethodHandle" ∧ ySh_wholeShare.cls ≠ "java/lang/invoke/VarHandle" ∧ (parseMethodDescriptor ySh_wholeShare.desc).map (fun d => d.parameters.length) = some 3 := by decide +kernel
abbrev rmSh_wholeShare : Room := { frames := 1, cells := 0, slots := 0, locals := 23 }
theorem mSh_placeByRemainder : ySh_placeByRemainder.cls ≠ "java/lang/invoke/MethodHandle" ∧ ySh_placeByRemainder.cls ≠ "java/lang/invoke/VarHandle" ∧ (parseMethodDescriptor ySh_placeByRemainder.desc).map (fun d => d.parameters.length) = some 3 := by decide +kernel
abbrev rmSh_placeByRemainder : Room := { frames := 2, cells := 0, slots := 0, locals := 48 }
theorem mSh_remainder : ySh_remainder.cls ≠ "java/lang/invoke/MethodHandle" ∧ ySh_remainder.cls ≠ "java/lang/invoke/VarHandle" ∧ (parseMethodDescriptor ySh_remainder.desc).map (fun d => d.parameters.length) = some 3 := by decide +kernel
abbrev rmSh_remainder : Room := { frames := 1, cells := 0, slots := 0, locals := 23 }
theorem mSh_centsLeft : ySh_centsLeft.cls ≠ "java/lang/invoke/MethodHandle" ∧ ySh_centsLeft.cls ≠ "java/lang/invoke/VarHandle" ∧ (parseMethodDescriptor ySh_centsLeft.desc).map (fun d => d.parameters.length) = some 2 := by decide +kernel
abbrev rmSh_centsLeft : Room := { frames := 2, cells := 0, slots := 0, locals := 48 }
theorem mLa_reconcile : yLa_reconcile.cls ≠ "java/lang/invoke/MethodHandle" ∧ yLa_reconcile.cls ≠ "java/lang/invoke/VarHandle" ∧ (parseMethodDescriptor yLa_reconcile.desc).map (fun d => d.parameters.length) = some 6 := by decide +kernel
abbrev rmLa_reconcile : Room := { frames := 7, cells := 1, slots := 6, locals := 106 }
theorem mDu_reconcile : yDu_reconcile.cls ≠ "java/lang/invoke/MethodHandle" ∧ yDu_reconcile.cls ≠ "java/lang/invoke/VarHandle" ∧ (parseMethodDescriptor yDu_reconcile.desc).map (fun d => d.parameters.length) = some 4 := by decide +kernel
abbrev rmDu_reconcile : Room := { frames := 6, cells := 1, slots := 6, locals := 82 }
theorem mLa_read : yLa_read.cls ≠ "java/lang/invoke/MethodHandle" ∧ yLa_read.cls ≠ "java/lang/invoke/VarHandle" ∧ (parseMethodDescriptor yLa_read.desc).map (fun d => d.parameters.length) = some 4 := by decide +kernel
abbrev rmLa_read : Room := { frames := 7, cells := 1, slots := 6, locals := 104 }
theorem mDu_read : yDu_read.cls ≠ "java/lang/invoke/MethodHandle" ∧ yDu_read.cls ≠ "java/lang/invoke/VarHandle" ∧ (parseMethodDescriptor yDu_read.desc).map (fun d => d.parameters.length) = some 2 := by decide +kernel
abbrev rmDu_read : Room := { frames := 6, cells := 1, slots := 6, locals := 82 }
theorem mLa_look : yLa_look.cls ≠ "java/lang/invoke/MethodHandle" ∧ yLa_look.cls ≠ "java/lang/invoke/VarHandle" ∧ (parseMethodDescriptor yLa_look.desc).map (fun d => d.parameters.length) = some 4 := by decide +kernel
abbrev rmLa_look : Room := { frames := 7, cells := 1, slots := 6, locals := 105 }
theorem mDu_look : yDu_look.cls ≠ "java/lang/invoke/MethodHandle" ∧ yDu_look.cls ≠ "java/lang/invoke/VarHandle" ∧ (parseMethodDescriptor yDu_look.desc).map (fun d => d.parameters.length) = some 2 := by decide +kernel
abbrev rmDu_look : Room := { frames := 6, cells := 1, slots := 6, locals := 82 }
theorem mMo_init : yMo_init.cls ≠ "java/lang/invoke/MethodHandle" ∧ yMo_init.cls ≠ "java/lang/invoke/VarHandle" ∧ (parseMethodDescriptor yMo_init.desc).map (fun d => d.parameters.length) = some 0 := by decide +kernel
abbrev rmMo_init : Room := { frames := 1, cells := 13, slots := 5542, locals := 14 }
theorem mMo_thrown : yMo_thrown.cls ≠ "java/lang/invoke/MethodHandle" ∧ yMo_thrown.cls ≠ "java/lang/invoke/VarHandle" ∧ (parseMethodDescriptor yMo_thrown.desc).map (fun d => d.parameters.length) = some 0 := by decide +kernel
abbrev rmMo_thrown : Room := { frames := 0, cells := 0, slots := 0, locals := 0 }
theorem mMo_account : yMo_account.cls ≠ "java/lang/invoke/MethodHandle" ∧ yMo_account.cls ≠ "java/lang/invoke/VarHandle" ∧ (parseMethodDescriptor yMo_account.desc).map (fun d => d.parameters.length) = some 1 := by decide +kernel
abbrev rmMo_account : Room := { frames := 2, cells := 0, slots := 0, locals := 45 }
theorem mMo_isKind : yMo_isKind.cls ≠ "java/lang/invoke/MethodHandle" ∧ yMo_isKind.cls ≠ "java/lang/invoke/VarHandle" ∧ (parseMethodDescriptor yMo_isKind.desc).map (fun d => d.parameters.length) = some 1 := by decide +kernel
abbrev rmMo_isKind : Room := { frames := 1, cells := 0, slots := 0, locals := 25 }
theorem mMo_in : yMo_in.cls ≠ "java/lang/invoke/MethodHandle" ∧ yMo_in.cls ≠ "java/lang/invoke/VarHandle" ∧ (parseMethodDescriptor yMo_in.desc).map (fun d => d.parameters.length) = some 3 := by decide +kernel
abbrev rmMo_in : Room := { frames := 0, cells := 0, slots := 0, locals := 0 }
theorem mMo_batch : yMo_batch.cls ≠ "java/lang/invoke/MethodHandle" ∧ yMo_batch.cls ≠ "java/lang/invoke/VarHandle" ∧ (parseMethodDescriptor yMo_batch.desc).map (fun d => d.parameters.length) = some 2 := by decide +kernel
abbrev rmMo_batch : Room := { frames := 2, cells := 0, slots := 0, locals := 45 }
theorem mMo_isDay : yMo_isDay.cls ≠ "java/lang/invoke/MethodHandle" ∧ yMo_isDay.cls ≠ "java/lang/invoke/VarHandle" ∧ (parseMethodDescriptor yMo_isDay.desc).map (fun d => d.parameters.length) = some 1 := by decide +kernel
abbrev rmMo_isDay : Room := { frames := 1, cells := 0, slots := 0, locals := 25 }
theorem mMo_begin : yMo_begin.cls ≠ "java/lang/invoke/MethodHandle" ∧ yMo_begin.cls ≠ "java/lang/invoke/VarHandle" ∧ (parseMethodDescriptor yMo_begin.desc).map (fun d => d.parameters.length) = some 3 := by decide +kernel
abbrev rmMo_begin : Room := { frames := 0, cells := 0, slots := 0, locals := 0 }
theorem mMo_row : yMo_row.cls ≠ "java/lang/invoke/MethodHandle" ∧ yMo_row.cls ≠ "java/lang/invoke/VarHandle" ∧ (parseMethodDescriptor yMo_row.desc).map (fun d => d.parameters.length) = some 3 := by decide +kernel
abbrev rmMo_row : Room := { frames := 1, cells := 0, slots := 0, locals := 25 }
theorem mMo_isOpen : yMo_isOpen.cls ≠ "java/lang/invoke/MethodHandle" ∧ yMo_isOpen.cls ≠ "java/lang/invoke/VarHandle" ∧ (parseMethodDescriptor yMo_isOpen.desc).map (fun d => d.parameters.length) = some 1 := by decide +kernel
abbrev rmMo_isOpen : Room := { frames := 0, cells := 0, slots := 0, locals := 0 }
theorem mMo_isAccount : yMo_isAccount.cls ≠ "java/lang/invoke/MethodHandle" ∧ yMo_isAccount.cls ≠ "java/lang/invoke/VarHandle" ∧ (parseMethodDescriptor yMo_isAccount.desc).map (fun d => d.parameters.length) = some 1 := by decide +kernel
abbrev rmMo_isAccount : Room := { frames := 0, cells := 0, slots := 0, locals := 0 }
theorem mMo_fails : yMo_fails.cls ≠ "java/lang/invoke/MethodHandle" ∧ yMo_fails.cls ≠ "java/lang/invoke/VarHandle" ∧ (parseMethodDescriptor yMo_fails.desc).map (fun d => d.parameters.length) = some 2 := by decide +kernel
abbrev rmMo_fails : Room := { frames := 1, cells := 0, slots := 0, locals := 21 }
theorem mMo_post : yMo_post.cls ≠ "java/lang/invoke/MethodHandle" ∧ yMo_post.cls ≠ "java/lang/invoke/VarHandle" ∧ (parseMethodDescriptor yMo_post.desc).map (fun d => d.parameters.length) = some 1 := by decide +kernel
abbrev rmMo_post : Room := { frames := 2, cells := 0, slots := 0, locals := 52 }
theorem mMo_wrongWith : yMo_wrongWith.cls ≠ "java/lang/invoke/MethodHandle" ∧ yMo_wrongWith.cls ≠ "java/lang/invoke/VarHandle" ∧ (parseMethodDescriptor yMo_wrongWith.desc).map (fun d => d.parameters.length) = some 1 := by decide +kernel
abbrev rmMo_wrongWith : Room := { frames := 1, cells := 0, slots := 0, locals := 25 }
theorem mMo_sumIn : yMo_sumIn.cls ≠ "java/lang/invoke/MethodHandle" ∧ yMo_sumIn.cls ≠ "java/lang/invoke/VarHandle" ∧ (parseMethodDescriptor yMo_sumIn.desc).map (fun d => d.parameters.length) = some 2 := by decide +kernel
abbrev rmMo_sumIn : Room := { frames := 0, cells := 0, slots := 0, locals := 0 }
theorem mMo_greatestIn : yMo_greatestIn.cls ≠ "java/lang/invoke/MethodHandle" ∧ yMo_greatestIn.cls ≠ "java/lang/invoke/VarHandle" ∧ (parseMethodDescriptor yMo_greatestIn.desc).map (fun d => d.parameters.length) = some 1 := by decide +kernel
abbrev rmMo_greatestIn : Room := { frames := 1, cells := 0, slots := 0, locals := 25 }
theorem mMo_enter : yMo_enter.cls ≠ "java/lang/invoke/MethodHandle" ∧ yMo_enter.cls ≠ "java/lang/invoke/VarHandle" ∧ (parseMethodDescriptor yMo_enter.desc).map (fun d => d.parameters.length) = some 1 := by decide +kernel
abbrev rmMo_enter : Room := { frames := 0, cells := 0, slots := 0, locals := 0 }
theorem mMo_reverse : yMo_reverse.cls ≠ "java/lang/invoke/MethodHandle" ∧ yMo_reverse.cls ≠ "java/lang/invoke/VarHandle" ∧ (parseMethodDescriptor yMo_reverse.desc).map (fun d => d.parameters.length) = some 2 := by decide +kernel
abbrev rmMo_reverse : Room := { frames := 2, cells := 0, slots := 0, locals := 46 }
theorem mMo_close : yMo_close.cls ≠ "java/lang/invoke/MethodHandle" ∧ yMo_close.cls ≠ "java/lang/invoke/VarHandle" ∧ (parseMethodDescriptor yMo_close.desc).map (fun d => d.parameters.length) = some 1 := by decide +kernel
abbrev rmMo_close : Room := { frames := 2, cells := 0, slots := 0, locals := 45 }
theorem mMo_balance : yMo_balance.cls ≠ "java/lang/invoke/MethodHandle" ∧ yMo_balance.cls ≠ "java/lang/invoke/VarHandle" ∧ (parseMethodDescriptor yMo_balance.desc).map (fun d => d.parameters.length) = some 3 := by decide +kernel
abbrev rmMo_balance : Room := { frames := 2, cells := 0, slots := 0, locals := 54 }
theorem mMo_sum : yMo_sum.cls ≠ "java/lang/invoke/MethodHandle" ∧ yMo_sum.cls ≠ "java/lang/invoke/VarHandle" ∧ (parseMethodDescriptor yMo_sum.desc).map (fun d => d.parameters.length) = some 4 := by decide +kernel
abbrev rmMo_sum : Room := { frames := 1, cells := 0, slots := 0, locals := 25 }
theorem mMo_statement : yMo_statement.cls ≠ "java/lang/invoke/MethodHandle" ∧ yMo_statement.cls ≠ "java/lang/invoke/VarHandle" ∧ (parseMethodDescriptor yMo_statement.desc).map (fun d => d.parameters.length) = some 3 := by decide +kernel
abbrev rmMo_statement : Room := { frames := 2, cells := 0, slots := 0, locals := 54 }
theorem mMo_part : yMo_part.cls ≠ "java/lang/invoke/MethodHandle" ∧ yMo_part.cls ≠ "java/lang/invoke/VarHandle" ∧ (parseMethodDescriptor yMo_part.desc).map (fun d => d.parameters.length) = some 3 := by decide +kernel
abbrev rmMo_part : Room := { frames := 2, cells := 0, slots := 0, locals := 45 }
theorem mMo_cost : yMo_cost.cls ≠ "java/lang/invoke/MethodHandle" ∧ yMo_cost.cls ≠ "java/lang/invoke/VarHandle" ∧ (parseMethodDescriptor yMo_cost.desc).map (fun d => d.parameters.length) = some 2 := by decide +kernel
abbrev rmMo_cost : Room := { frames := 2, cells := 0, slots := 0, locals := 45 }
theorem mMo_passed : yMo_passed.cls ≠ "java/lang/invoke/MethodHandle" ∧ yMo_passed.cls ≠ "java/lang/invoke/VarHandle" ∧ (parseMethodDescriptor yMo_passed.desc).map (fun d => d.parameters.length) = some 3 := by decide +kernel
abbrev rmMo_passed : Room := { frames := 3, cells := 0, slots := 0, locals := 79 }
theorem mMo_sumOf : yMo_sumOf.cls ≠ "java/lang/invoke/MethodHandle" ∧ yMo_sumOf.cls ≠ "java/lang/invoke/VarHandle" ∧ (parseMethodDescriptor yMo_sumOf.desc).map (fun d => d.parameters.length) = some 2 := by decide +kernel
abbrev rmMo_sumOf : Room := { frames := 2, cells := 0, slots := 0, locals := 54 }
theorem mMo_share : yMo_share.cls ≠ "java/lang/invoke/MethodHandle" ∧ yMo_share.cls ≠ "java/lang/invoke/VarHandle" ∧ (parseMethodDescriptor yMo_share.desc).map (fun d => d.parameters.length) = some 3 := by decide +kernel
abbrev rmMo_share : Room := { frames := 1, cells := 0, slots := 0, locals := 21 }
theorem mMo_partsOf : yMo_partsOf.cls ≠ "java/lang/invoke/MethodHandle" ∧ yMo_partsOf.cls ≠ "java/lang/invoke/VarHandle" ∧ (parseMethodDescriptor yMo_partsOf.desc).map (fun d => d.parameters.length) = some 1 := by decide +kernel
abbrev rmMo_partsOf : Room := { frames := 0, cells := 0, slots := 0, locals := 0 }
theorem mMo_reconcile : yMo_reconcile.cls ≠ "java/lang/invoke/MethodHandle" ∧ yMo_reconcile.cls ≠ "java/lang/invoke/VarHandle" ∧ (parseMethodDescriptor yMo_reconcile.desc).map (fun d => d.parameters.length) = some 4 := by decide +kernel
abbrev rmMo_reconcile : Room := { frames := 2, cells := 0, slots := 0, locals := 54 }
theorem mMo_read : yMo_read.cls ≠ "java/lang/invoke/MethodHandle" ∧ yMo_read.cls ≠ "java/lang/invoke/VarHandle" ∧ (parseMethodDescriptor yMo_read.desc).map (fun d => d.parameters.length) = some 2 := by decide +kernel
abbrev rmMo_read : Room := { frames := 0, cells := 0, slots := 0, locals := 0 }
theorem mMo_look : yMo_look.cls ≠ "java/lang/invoke/MethodHandle" ∧ yMo_look.cls ≠ "java/lang/invoke/VarHandle" ∧ (parseMethodDescriptor yMo_look.desc).map (fun d => d.parameters.length) = some 2 := by decide +kernel
abbrev rmMo_look : Room := { frames := 0, cells := 0, slots := 0, locals := 0 }
theorem mMo_count : yMo_count.cls ≠ "java/lang/invoke/MethodHandle" ∧ yMo_count.cls ≠ "java/lang/invoke/VarHandle" ∧ (parseMethodDescriptor yMo_count.desc).map (fun d => d.parameters.length) = some 1 := by decide +kernel
abbrev rmMo_count : Room := { frames := 0, cells := 0, slots := 0, locals := 0 }
end
section
/-! small words for contracts -/
def zb (b : Bool) : Int32 := if b then 1 else 0
theorem zb_t {b : Bool} (h : b = true) : zb b = 1 := by simp [zb, h]
theorem zb_f {b : Bool} (h : b = false) : zb b = 0 := by simp [zb, h]
theorem zb_0 {b : Bool} : zb b = 0 ↔ b = false := by cases b <;> simp [zb]
theorem zb_n0 {b : Bool} : ¬ zb b = 0 ↔ b = true := by cases b <;> simp [zb]
theorem zb_nar (b : Bool) : narrow .boolean (.int (zb b)) = .int (zb b) := by cases b <;> rfl
/-- it returns v, the heap is as it was -/
def zPr (v : Value) (G : zG) : Option Value → zG → Prop := fun v' G' => v' = some v ∧ G' = G
def zNo : String → zG → Prop := fun _ _ => False
theorem zNo_not : ∀ E G', ¬ zNo E G' := fun _ _ h => h
theorem zn_inc (j : Nat) : nI j + Int32.ofInt 1 = nI (j + 1) := by rw [lit1]; exact nI_1 j
theorem zu_ne {G : zG} {a b : Nat} {e e1 e2 : va_E} (h2 : G b = some e2) (h1 : G a = some e1) (hne : e1 ≠ e2) : zu G a e b = some e2 := by
  rw [zu_n (fun h => hne (by subst h; rw [h1] at h2; exact Option.some.inj h2))]; exact h2
section ZN
variable {O : zO} {p : Program} {l : Launch} {e : Env} {R : Room} {s : State} {m : MethodId} {args : Array Value} {below : List Frame} {meth : Method} {c : Code} {own : String} {cc : ByteArray} {nL : Nat} {Q : State → Prop} {pc : Nat} {ls : List (Nat × Value)} {st : List Value} {G : zG} {kc ks : Nat} {a n j : Nat}
theorem zn_iald (C : zC O p l s m meth c own cc nL) {f : Nat → Int32} (d : decode cc pc = .ok (.iaload, 1)) (hG : G a = some (zI O n f)) (hj : j < n) (hn : n < 2 ^ 31) (kk : zV O p l e R s m args below meth c nL Q (pc + 1) ls (.int (f j) :: st) G kc ks) : zV O p l e R s m args below meth c nL Q pc ls (.int (nI j) :: .ref a :: st) G kc ks :=
  zv_iald C d hG (vp_in_nI hj hn) (by rw [nI_clamp (by omega)]; exact kk)
theorem zn_lald (C : zC O p l s m meth c own cc nL) {f : Nat → Int64} (d : decode cc pc = .ok (.laload, 1)) (hG : G a = some (zJ O n f)) (hj : j < n) (hn : n < 2 ^ 31) (kk : zV O p l e R s m args below meth c nL Q (pc + 1) ls (.long (f j) :: st) G kc ks) : zV O p l e R s m args below meth c nL Q pc ls (.int (nI j) :: .ref a :: st) G kc ks :=
  zv_lald C d hG (vp_in_nI hj hn) (by rw [nI_clamp (by omega)]; exact kk)
theorem zn_zald (C : zC O p l s m meth c own cc nL) {f : Nat → Int32} (d : decode cc pc = .ok (.baload, 1)) (hG : G a = some (zB O n f)) (hj : j < n) (hn : n < 2 ^ 31) (kk : zV O p l e R s m args below meth c nL Q (pc + 1) ls (.int (f j) :: st) G kc ks) : zV O p l e R s m args below meth c nL Q pc ls (.int (nI j) :: .ref a :: st) G kc ks :=
  zv_zald C d hG (vp_in_nI hj hn) (by rw [nI_clamp (by omega)]; exact kk)
theorem zn_aald (C : zC O p l s m meth c own cc nL) {f : Nat → Option Nat} (d : decode cc pc = .ok (.aaload, 1)) (hG : G a = some (zQ O 3 n f)) (hj : j < n) (hn : n < 2 ^ 31) (kk : zV O p l e R s m args below meth c nL Q (pc + 1) ls (va_rf (f j) :: st) G kc ks) : zV O p l e R s m args below meth c nL Q pc ls (.int (nI j) :: .ref a :: st) G kc ks :=
  zv_aald C d hG (vp_in_nI hj hn) (by rw [nI_clamp (by omega)]; exact kk)
theorem zn_iast (C : zC O p l s m meth c own cc nL) {f : Nat → Int32} {x : Int32} (d : decode cc pc = .ok (.iastore, 1)) (hG : G a = some (zI O n f)) (hj : j < n) (hn : n < 2 ^ 31) (kk : zV O p l e R s m args below meth c nL Q (pc + 1) ls st (zu G a (zI O n (upd f j x))) kc ks) : zV O p l e R s m args below meth c nL Q pc ls (.int x :: .int (nI j) :: .ref a :: st) G kc ks :=
  zv_iast C d hG (vp_in_nI hj hn) (by rw [nI_clamp (by omega)]; exact kk)
theorem zn_last (C : zC O p l s m meth c own cc nL) {f : Nat → Int64} {x : Int64} (d : decode cc pc = .ok (.lastore, 1)) (hG : G a = some (zJ O n f)) (hj : j < n) (hn : n < 2 ^ 31) (kk : zV O p l e R s m args below meth c nL Q (pc + 1) ls st (zu G a (zJ O n (vp_updL f j x))) kc ks) : zV O p l e R s m args below meth c nL Q pc ls (.long x :: .int (nI j) :: .ref a :: st) G kc ks :=
  zv_last C d hG (vp_in_nI hj hn) (by rw [nI_clamp (by omega)]; exact kk)
theorem zn_zast (C : zC O p l s m meth c own cc nL) {f : Nat → Int32} {x : Int32} (d : decode cc pc = .ok (.bastore, 1)) (hG : G a = some (zB O n f)) (hj : j < n) (hn : n < 2 ^ 31) (kk : zV O p l e R s m args below meth c nL Q (pc + 1) ls st (zu G a (zB O n (upd f j (vp_nar .boolean x)))) kc ks) : zV O p l e R s m args below meth c nL Q pc ls (.int x :: .int (nI j) :: .ref a :: st) G kc ks :=
  zv_zast C d hG (vp_in_nI hj hn) (by rw [nI_clamp (by omega)]; exact kk)
theorem zn_aast (C : zC O p l s m meth c own cc nL) {v : Nat} {vs : List Value} {f : Nat → Option Nat} (d : decode cc pc = .ok (.aastore, 1)) (hG : G a = some (zQ O 3 n f)) (hv : G v = some (.inr (0, vs))) (hj : j < n) (hn : n < 2 ^ 31) (kk : zV O p l e R s m args below meth c nL Q (pc + 1) ls st (zu G a (zQ O 3 n (va_up f j (some v)))) kc ks) : zV O p l e R s m args below meth c nL Q pc ls (.ref v :: .int (nI j) :: .ref a :: st) G kc ks :=
  zv_aast C d hG hv (vp_in_nI hj hn) (by rw [nI_clamp (by omega)]; exact kk)
end ZN
/-! days, kinds and the like -/
def isDayB (x : Int32) : Bool := !(decide (x < 0)) && !(decide (100000 < x))
def isMonthB (x : Int32) : Bool := !(decide (x < 0)) && !(decide (3333 < x))
def isKindB (x : Int32) : Bool := !(decide (x < 0)) && !(decide ((6 : Int32) ≤ x))
def isRecB (x : Int32) : Bool := !(decide (x < 0)) && !(decide ((4 : Int32) ≤ x))
def centsB (x : Int64) : Bool := !(decide (x = 0)) && !(decide (x < -1000000000)) && !(decide (1000000000 < x))
def isAccB (x n : Int32) : Bool := !(decide (x < 0)) && !(decide (n ≤ x))
section ZN2
variable {O : zO} {p : Program} {l : Launch} {e : Env} {R : Room} {s : State} {m : MethodId} {args : Array Value} {below : List Frame} {meth : Method} {c : Code} {nL : Nat} {Q : State → Prop} {pc : Nat} {ls : List (Nat × Value)} {st : List Value} {G : zG} {kc ks : Nat}
theorem zv_topi {x y : Int32} (h : x = y) (kk : zV O p l e R s m args below meth c nL Q pc ls (.int y :: st) G kc ks) : zV O p l e R s m args below meth c nL Q pc ls (.int x :: st) G kc ks := h ▸ kk
theorem zv_topl {x y : Int64} (h : x = y) (kk : zV O p l e R s m args below meth c nL Q pc ls (.long y :: st) G kc ks) : zV O p l e R s m args below meth c nL Q pc ls (.long x :: st) G kc ks := h ▸ kk
end ZN2
theorem zn_ix4 (k r : Nat) : nI k * 4 + nI r = nI (k * 4 + r) := by rw [show (4 : Int32) = nI 4 from rfl, pk_mul, nI_add]
theorem zn_l0 {x : Int32} (h : ¬ x = 0) : ¬ x.toInt64 = 0 := fun q => h (by
  have h1 : x.toInt64.toInt = (0 : Int64).toInt := by rw [q]
  rw [Int32.toInt_toInt64] at h1
  exact Int32.toInt_inj.mp (by rw [h1]; rfl))
def zWr (v : Option Value) (G2 : zG) : Option Value → zG → Prop := fun v' G' => v' = v ∧ G' = G2
theorem zu_fresh {G : zG} {q b : Nat} {e : va_E} (h : G q = none) (hb : G b = some e) : q ≠ b := fun x => by rw [x, hb] at h; cases h
theorem zd_ne {G : zG} {a b : Nat} {e1 e2 : va_E} (h1 : G a = some e1) (h2 : G b = some e2) (hne : e1 ≠ e2) : a ≠ b := fun x => hne (by rw [x, h2] at h1; exact (Option.some.inj h1).symm)
end
section
set_option maxHeartbeats 4000000 in
set_option maxRecDepth 100000 in
theorem cDu_isDay {O : zO} {l : Launch} (hk : zK O l) (G : zG) (x : Int32) : zM O l yDu_isDay [Cond.code yDu_isDay bDu_isDay 1 (some .boolean)] rmDu_isDay [.int x] G 0 0 (zPr (.int (zb (isDayB x))) G) zNo := by
  refine zm_of hk (by decide) (Nat.le_of_ble_eq_true rfl) ?_
  intro p e s m below meth c C hex hr hnm
  refine zv_iload_n (pc := 0) C dDu_isDay_0 rfl ?_
  refine zv_if_lt (pc := 1) (tgt := 14) C dDu_isDay_1 (by decide) (fun c1 => ?_) (fun c1 => ?_)
  · refine zv_iconst (pc := 14) (v := 0) C dDu_isDay_14 (by decide) ?_
    exact zv_zret (pc := 15) C hr (by first | rfl | exact zb_nar _) dDu_isDay_15 (Nat.le_of_ble_eq_true rfl) (Nat.le_of_ble_eq_true rfl) (by simp_all [zPr, zb, isDayB])
  · refine zv_iload_n (pc := 4) C dDu_isDay_4 rfl ?_
    refine zv_ldc (pc := 5) C dDu_isDay_5 zw_171 ?_
    refine zv_icmp_gt (pc := 7) (tgt := 14) C dDu_isDay_7 (by decide) (fun c7 => ?_) (fun c7 => ?_)
    · refine zv_iconst (pc := 14) (v := 0) C dDu_isDay_14 (by decide) ?_
      exact zv_zret (pc := 15) C hr (by first | rfl | exact zb_nar _) dDu_isDay_15 (Nat.le_of_ble_eq_true rfl) (Nat.le_of_ble_eq_true rfl) (by simp_all [zPr, zb, isDayB])
    · refine zv_iconst (pc := 10) (v := 1) C dDu_isDay_10 (by decide) ?_
      refine zv_goto (pc := 11) (tgt := 15) C dDu_isDay_11 (by decide) ?_
      exact zv_zret (pc := 15) C hr (by first | rfl | exact zb_nar _) dDu_isDay_15 (Nat.le_of_ble_eq_true rfl) (Nat.le_of_ble_eq_true rfl) (by simp_all [zPr, zb, isDayB])
set_option maxHeartbeats 4000000 in
set_option maxRecDepth 100000 in
theorem cDu_isMonth {O : zO} {l : Launch} (hk : zK O l) (G : zG) (x : Int32) : zM O l yDu_isMonth [Cond.code yDu_isMonth bDu_isMonth 1 (some .boolean)] rmDu_isMonth [.int x] G 0 0 (zPr (.int (zb (isMonthB x))) G) zNo := by
  refine zm_of hk (by decide) (Nat.le_of_ble_eq_true rfl) ?_
  intro p e s m below meth c C hex hr hnm
  refine zv_iload_n (pc := 0) C dDu_isMonth_0 rfl ?_
  refine zv_if_lt (pc := 1) (tgt := 15) C dDu_isMonth_1 (by decide) (fun c1 => ?_) (fun c1 => ?_)
  · refine zv_iconst (pc := 15) (v := 0) C dDu_isMonth_15 (by decide) ?_
    exact zv_zret (pc := 16) C hr (by first | rfl | exact zb_nar _) dDu_isMonth_16 (Nat.le_of_ble_eq_true rfl) (Nat.le_of_ble_eq_true rfl) (by simp_all [zPr, zb, isMonthB])
  · refine zv_iload_n (pc := 4) C dDu_isMonth_4 rfl ?_
    refine zv_sipush (pc := 5) (v := 3333) C dDu_isMonth_5 (by decide) ?_
    refine zv_icmp_gt (pc := 8) (tgt := 15) C dDu_isMonth_8 (by decide) (fun c8 => ?_) (fun c8 => ?_)
    · refine zv_iconst (pc := 15) (v := 0) C dDu_isMonth_15 (by decide) ?_
      exact zv_zret (pc := 16) C hr (by first | rfl | exact zb_nar _) dDu_isMonth_16 (Nat.le_of_ble_eq_true rfl) (Nat.le_of_ble_eq_true rfl) (by simp_all [zPr, zb, isMonthB])
    · refine zv_iconst (pc := 11) (v := 1) C dDu_isMonth_11 (by decide) ?_
      refine zv_goto (pc := 12) (tgt := 16) C dDu_isMonth_12 (by decide) ?_
      exact zv_zret (pc := 16) C hr (by first | rfl | exact zb_nar _) dDu_isMonth_16 (Nat.le_of_ble_eq_true rfl) (Nat.le_of_ble_eq_true rfl) (by simp_all [zPr, zb, isMonthB])
set_option maxHeartbeats 4000000 in
set_option maxRecDepth 100000 in
theorem cDu_isKind {O : zO} {l : Launch} (hk : zK O l) (G : zG) (x : Int32) : zM O l yDu_isKind [Cond.code yDu_isKind bDu_isKind 1 (some .boolean)] rmDu_isKind [.int x] G 0 0 (zPr (.int (zb (isKindB x))) G) zNo := by
  refine zm_of hk (by decide) (Nat.le_of_ble_eq_true rfl) ?_
  intro p e s m below meth c C hex hr hnm
  refine zv_iload_n (pc := 0) C dDu_isKind_0 rfl ?_
  refine zv_if_lt (pc := 1) (tgt := 14) C dDu_isKind_1 (by decide) (fun c1 => ?_) (fun c1 => ?_)
  · refine zv_iconst (pc := 14) (v := 0) C dDu_isKind_14 (by decide) ?_
    exact zv_zret (pc := 15) C hr (by first | rfl | exact zb_nar _) dDu_isKind_15 (Nat.le_of_ble_eq_true rfl) (Nat.le_of_ble_eq_true rfl) (by simp_all [zPr, zb, isKindB])
  · refine zv_iload_n (pc := 4) C dDu_isKind_4 rfl ?_
    refine zv_bipush (pc := 5) (v := 6) C dDu_isKind_5 (by decide) ?_
    refine zv_icmp_ge (pc := 7) (tgt := 14) C dDu_isKind_7 (by decide) (fun c7 => ?_) (fun c7 => ?_)
    · refine zv_iconst (pc := 14) (v := 0) C dDu_isKind_14 (by decide) ?_
      exact zv_zret (pc := 15) C hr (by first | rfl | exact zb_nar _) dDu_isKind_15 (Nat.le_of_ble_eq_true rfl) (Nat.le_of_ble_eq_true rfl) (by simp_all [zPr, zb, isKindB])
    · refine zv_iconst (pc := 10) (v := 1) C dDu_isKind_10 (by decide) ?_
      refine zv_goto (pc := 11) (tgt := 15) C dDu_isKind_11 (by decide) ?_
      exact zv_zret (pc := 15) C hr (by first | rfl | exact zb_nar _) dDu_isKind_15 (Nat.le_of_ble_eq_true rfl) (Nat.le_of_ble_eq_true rfl) (by simp_all [zPr, zb, isKindB])
set_option maxHeartbeats 4000000 in
set_option maxRecDepth 100000 in
theorem cDu_isReceiver {O : zO} {l : Launch} (hk : zK O l) (G : zG) (x : Int32) : zM O l yDu_isReceiver [Cond.code yDu_isReceiver bDu_isReceiver 1 (some .boolean)] rmDu_isReceiver [.int x] G 0 0 (zPr (.int (zb (isRecB x))) G) zNo := by
  refine zm_of hk (by decide) (Nat.le_of_ble_eq_true rfl) ?_
  intro p e s m below meth c C hex hr hnm
  refine zv_iload_n (pc := 0) C dDu_isReceiver_0 rfl ?_
  refine zv_if_lt (pc := 1) (tgt := 13) C dDu_isReceiver_1 (by decide) (fun c1 => ?_) (fun c1 => ?_)
  · refine zv_iconst (pc := 13) (v := 0) C dDu_isReceiver_13 (by decide) ?_
    exact zv_zret (pc := 14) C hr (by first | rfl | exact zb_nar _) dDu_isReceiver_14 (Nat.le_of_ble_eq_true rfl) (Nat.le_of_ble_eq_true rfl) (by simp_all [zPr, zb, isRecB])
  · refine zv_iload_n (pc := 4) C dDu_isReceiver_4 rfl ?_
    refine zv_iconst (pc := 5) (v := 4) C dDu_isReceiver_5 (by decide) ?_
    refine zv_icmp_ge (pc := 6) (tgt := 13) C dDu_isReceiver_6 (by decide) (fun c6 => ?_) (fun c6 => ?_)
    · refine zv_iconst (pc := 13) (v := 0) C dDu_isReceiver_13 (by decide) ?_
      exact zv_zret (pc := 14) C hr (by first | rfl | exact zb_nar _) dDu_isReceiver_14 (Nat.le_of_ble_eq_true rfl) (Nat.le_of_ble_eq_true rfl) (by simp_all [zPr, zb, isRecB])
    · refine zv_iconst (pc := 9) (v := 1) C dDu_isReceiver_9 (by decide) ?_
      refine zv_goto (pc := 10) (tgt := 14) C dDu_isReceiver_10 (by decide) ?_
      exact zv_zret (pc := 14) C hr (by first | rfl | exact zb_nar _) dDu_isReceiver_14 (Nat.le_of_ble_eq_true rfl) (Nat.le_of_ble_eq_true rfl) (by simp_all [zPr, zb, isRecB])
set_option maxHeartbeats 4000000 in
set_option maxRecDepth 100000 in
theorem cDu_canBeCents {O : zO} {l : Launch} (hk : zK O l) (G : zG) (x : Int64) : zM O l yDu_canBeCents [Cond.code yDu_canBeCents bDu_canBeCents 2 (some .boolean)] rmDu_canBeCents [.long x] G 0 0 (zPr (.int (zb (centsB x))) G) zNo := by
  refine zm_of hk (by decide) (Nat.le_of_ble_eq_true rfl) ?_
  intro p e s m below meth c C hex hr hnm
  refine zv_lload_n (pc := 0) C dDu_canBeCents_0 rfl ?_
  refine zv_lconst (pc := 1) (v := 0) C dDu_canBeCents_1 (by decide) ?_
  refine zv_lcmp (pc := 2) C dDu_canBeCents_2 ?_
  refine zv_if_eq (pc := 3) (tgt := 26) C dDu_canBeCents_3 (by decide) (fun c3 => ?_) (fun c3 => ?_)
  · refine zv_iconst (pc := 26) (v := 0) C dDu_canBeCents_26 (by decide) ?_
    exact zv_zret (pc := 27) C hr (by first | rfl | exact zb_nar _) dDu_canBeCents_27 (Nat.le_of_ble_eq_true rfl) (Nat.le_of_ble_eq_true rfl) (by simp_all [zPr, zb, centsB, lg_cmp_eq, lg_cmp_lt, lg_cmp_gt])
  · refine zv_lload_n (pc := 6) C dDu_canBeCents_6 rfl ?_
    refine zv_ldc2 (pc := 7) C dDu_canBeCents_7 zw_154 ?_
    refine zv_lcmp (pc := 10) C dDu_canBeCents_10 ?_
    refine zv_if_lt (pc := 11) (tgt := 26) C dDu_canBeCents_11 (by decide) (fun c11 => ?_) (fun c11 => ?_)
    · refine zv_iconst (pc := 26) (v := 0) C dDu_canBeCents_26 (by decide) ?_
      exact zv_zret (pc := 27) C hr (by first | rfl | exact zb_nar _) dDu_canBeCents_27 (Nat.le_of_ble_eq_true rfl) (Nat.le_of_ble_eq_true rfl) (by simp_all [zPr, zb, centsB, lg_cmp_eq, lg_cmp_lt, lg_cmp_gt])
    · refine zv_lload_n (pc := 14) C dDu_canBeCents_14 rfl ?_
      refine zv_ldc2 (pc := 15) C dDu_canBeCents_15 zw_155 ?_
      refine zv_lcmp (pc := 18) C dDu_canBeCents_18 ?_
      refine zv_if_gt (pc := 19) (tgt := 26) C dDu_canBeCents_19 (by decide) (fun c19 => ?_) (fun c19 => ?_)
      · refine zv_iconst (pc := 26) (v := 0) C dDu_canBeCents_26 (by decide) ?_
        exact zv_zret (pc := 27) C hr (by first | rfl | exact zb_nar _) dDu_canBeCents_27 (Nat.le_of_ble_eq_true rfl) (Nat.le_of_ble_eq_true rfl) (by simp_all [zPr, zb, centsB, lg_cmp_eq, lg_cmp_lt, lg_cmp_gt])
      · refine zv_iconst (pc := 22) (v := 1) C dDu_canBeCents_22 (by decide) ?_
        refine zv_goto (pc := 23) (tgt := 27) C dDu_canBeCents_23 (by decide) ?_
        exact zv_zret (pc := 27) C hr (by first | rfl | exact zb_nar _) dDu_canBeCents_27 (Nat.le_of_ble_eq_true rfl) (Nat.le_of_ble_eq_true rfl) (by simp_all [zPr, zb, centsB, lg_cmp_eq, lg_cmp_lt, lg_cmp_gt])
end
section
/-! the objects of the class -/
abbrev oBa (vd kd rv : Int32) (aa ac : Nat) (sz sa rb tf : Int32) : va_E := .inr (0, [.int vd, .int kd, .int rv, .ref aa, .ref ac, .int sz, .int sa, .int rb, .int tf])
abbrev oBk (b1 b2 b3 b4 b5 : Nat) (sz hd : Int32) : va_E := .inr (1, [.ref b1, .ref b2, .ref b3, .ref b4, .ref b5, .int sz, .int hd])
abbrev oSh (p1 p2 : Nat) : va_E := .inr (2, [.ref p1, .ref p2])
abbrev oDu (d1 d2 d3 d4 : Nat) (na nb cd lk wr nm fl : Int32) : va_E := .inr (3, [.ref d1, .int na, .ref d2, .int nb, .ref d3, .ref d4, .int cd, .int lk, .int wr, .int nm, .int fl])
def sumL (fc : Nat → Int64) : Nat → Int64
  | 0 => 0
  | j + 1 => sumL fc j + fc j
def sumA (fa : Nat → Int32) (fc : Nat → Int64) (x : Int32) : Nat → Int64
  | 0 => 0
  | j + 1 => if decide (fa j = x) then sumA fa fc x j + fc j else sumA fa fc x j
def rowB (fa fv fk : Nat → Int32) (x v1 v2 k1 : Int32) (j : Nat) : Bool := decide (fa j = x) && !(decide (fv j < v1)) && !(decide (v2 < fv j)) && !(decide (k1 < fk j))
def sumF (fa fv fk : Nat → Int32) (fc : Nat → Int64) (x v1 v2 k1 : Int32) : Nat → Int64
  | 0 => 0
  | j + 1 => if rowB fa fv fk x v1 v2 k1 j then sumF fa fv fk fc x v1 v2 k1 j + fc j else sumF fa fv fk fc x v1 v2 k1 j
set_option maxHeartbeats 4000000 in
set_option maxRecDepth 100000 in
theorem cDu_isAccount {O : zO} {l : Launch} (hk : zK O l) (G : zG) (a0 : Nat) {d1 d2 d3 d4 : Nat} {na nb cd lk wr nm fl : Int32} (x : Int32) (hD : G a0 = some (oDu d1 d2 d3 d4 na nb cd lk wr nm fl)) : zM O l yDu_isAccount [Cond.code yDu_isAccount bDu_isAccount 2 (some .boolean)] rmDu_isAccount [.ref a0, .int x] G 0 0 (zPr (.int (zb (isAccB x na))) G) zNo := by
  refine zm_of hk (by decide) (Nat.le_of_ble_eq_true rfl) ?_
  intro p e s m below meth c C hex hr hnm
  refine zv_iload_n (pc := 0) C dDu_isAccount_0 rfl ?_
  refine zv_if_lt (pc := 1) (tgt := 16) C dDu_isAccount_1 (by decide) (fun c1 => ?_) (fun c1 => ?_)
  · refine zv_iconst (pc := 16) (v := 0) C dDu_isAccount_16 (by decide) ?_
    exact zv_zret (pc := 17) C hr (by first | rfl | exact zb_nar _) dDu_isAccount_17 (Nat.le_of_ble_eq_true rfl) (Nat.le_of_ble_eq_true rfl) (by simp_all [zPr, zb, isAccB])
  · refine zv_iload_n (pc := 4) C dDu_isAccount_4 rfl ?_
    refine zv_aload_n (pc := 5) C dDu_isAccount_5 rfl ?_
    refine zv_get (pc := 6) C dDu_isAccount_6 fDu_13 (by first | assumption | exact zu_s | (refine (zu_n (by assumption)).trans ?_; first | assumption | exact zu_s)) rfl ?_
    refine zv_icmp_ge (pc := 9) (tgt := 16) C dDu_isAccount_9 (by decide) (fun c9 => ?_) (fun c9 => ?_)
    · refine zv_iconst (pc := 16) (v := 0) C dDu_isAccount_16 (by decide) ?_
      exact zv_zret (pc := 17) C hr (by first | rfl | exact zb_nar _) dDu_isAccount_17 (Nat.le_of_ble_eq_true rfl) (Nat.le_of_ble_eq_true rfl) (by simp_all [zPr, zb, isAccB])
    · refine zv_iconst (pc := 12) (v := 1) C dDu_isAccount_12 (by decide) ?_
      refine zv_goto (pc := 13) (tgt := 17) C dDu_isAccount_13 (by decide) ?_
      exact zv_zret (pc := 17) C hr (by first | rfl | exact zb_nar _) dDu_isAccount_17 (Nat.le_of_ble_eq_true rfl) (Nat.le_of_ble_eq_true rfl) (by simp_all [zPr, zb, isAccB])
set_option maxHeartbeats 4000000 in
set_option maxRecDepth 100000 in
theorem lBa_sum {O : zO} {p : Program} {l : Launch} {e : Env} {R : Room} {s : State} {m : MethodId} {args : Array Value} {below : List Frame} {meth : Method} {c : Code} {Q : State → Prop} {G : zG} {kc ks : Nat} (a0 n : Nat) {vd kd rv : Int32} {aa ac : Nat} {sa rb tf : Int32} {fc : Nat → Int64} (C : zC O p l s m meth c RBa bBa_sum 4) (hB : G a0 = some (oBa vd kd rv aa ac (nI n) sa rb tf)) (hc : G ac = some (zJ O 20 fc)) (hn : n ≤ 20) (kk : zV O p l e R s m args below meth c 4 Q 27 [(0, .ref a0), (1, .long (sumL fc n)), (3, .int (nI n))] [] G kc ks) : ∀ k j : Nat, j + k = n → zV O p l e R s m args below meth c 4 Q 4 [(0, .ref a0), (1, .long (sumL fc j)), (3, .int (nI j))] [] G kc ks := by
  intro k
  induction k with
  | zero =>
    intro j hj
    obtain rfl : j = n := by omega
    refine zv_iload_n (pc := 4) C dBa_sum_4 rfl ?_
    refine zv_aload_n (pc := 5) C dBa_sum_5 rfl ?_
    refine zv_get (pc := 6) C dBa_sum_6 fBa_19 (by first | assumption | exact zu_s | (refine (zu_n (by assumption)).trans ?_; first | assumption | exact zu_s)) rfl ?_
    refine zv_icmp_ge (pc := 9) (tgt := 27) C dBa_sum_9 (by decide) (fun cX => ?_) (fun cX => absurd (nI_le (a := j) (b := j) (Nat.le_refl _) (by omega)) cX)
    exact kk
  | succ k ih =>
    intro j hj
    refine zv_iload_n (pc := 4) C dBa_sum_4 rfl ?_
    refine zv_aload_n (pc := 5) C dBa_sum_5 rfl ?_
    refine zv_get (pc := 6) C dBa_sum_6 fBa_19 (by first | assumption | exact zu_s | (refine (zu_n (by assumption)).trans ?_; first | assumption | exact zu_s)) rfl ?_
    refine zv_icmp_ge (pc := 9) (tgt := 27) C dBa_sum_9 (by decide) (fun cX => absurd cX (nI_ge (a := j) (b := n) (by omega) (by omega))) (fun cX => ?_)
    refine zv_lload_n (pc := 12) C dBa_sum_12 rfl ?_
    refine zv_aload_n (pc := 13) C dBa_sum_13 rfl ?_
    refine zv_get (pc := 14) C dBa_sum_14 fBa_15 (by first | assumption | exact zu_s | (refine (zu_n (by assumption)).trans ?_; first | assumption | exact zu_s)) rfl ?_
    refine zv_iload_n (pc := 17) C dBa_sum_17 rfl ?_
    refine zn_lald (pc := 18) C dBa_sum_18 (by first | assumption | exact zu_s | (refine (zu_n (by assumption)).trans ?_; first | assumption | exact zu_s)) (by omega) (by omega) ?_
    refine zv_ladd (pc := 19) C dBa_sum_19 ?_
    refine zv_lstore_n (pc := 20) C dBa_sum_20 (by decide) ?_
    refine zv_iinc (pc := 21) C dBa_sum_21 rfl (zn_inc j) (by decide) ?_
    refine zv_goto (pc := 24) (tgt := 4) C dBa_sum_24 (by decide) ?_
    exact zv_pick [0, 1, 3] rfl (ih (j + 1) (by omega))
set_option maxHeartbeats 4000000 in
set_option maxRecDepth 100000 in
theorem cBa_sum {O : zO} {l : Launch} (hk : zK O l) (G : zG) (a0 n : Nat) {vd kd rv : Int32} {aa ac : Nat} {sa rb tf : Int32} {fc : Nat → Int64} (hB : G a0 = some (oBa vd kd rv aa ac (nI n) sa rb tf)) (hc : G ac = some (zJ O 20 fc)) (hn : n ≤ 20) : zM O l yBa_sum [Cond.code yBa_sum bBa_sum 4 (some .long)] rmBa_sum [.ref a0] G 0 0 (zPr (.long (sumL fc n)) G) zNo := by
  refine zm_of hk (by decide) (Nat.le_of_ble_eq_true rfl) ?_
  intro p e s m below meth c C hex hr hnm
  refine zv_lconst (pc := 0) (v := 0) C dBa_sum_0 (by decide) ?_
  refine zv_lstore_n (pc := 1) C dBa_sum_1 (by decide) ?_
  refine zv_iconst (pc := 2) (v := 0) C dBa_sum_2 (by decide) ?_
  refine zv_istore_n (pc := 3) C dBa_sum_3 (by decide) ?_
  refine zv_pick [0, 1, 3] rfl (lBa_sum a0 n C hB hc hn ?_ n 0 (by omega))
  refine zv_lload_n (pc := 27) C dBa_sum_27 rfl ?_
  exact zv_lret (pc := 28) C hr dBa_sum_28 (Nat.le_of_ble_eq_true rfl) (Nat.le_of_ble_eq_true rfl) (by exact ⟨rfl, rfl⟩)
set_option maxHeartbeats 4000000 in
set_option maxRecDepth 100000 in
theorem lBa_sumOf {O : zO} {p : Program} {l : Launch} {e : Env} {R : Room} {s : State} {m : MethodId} {args : Array Value} {below : List Frame} {meth : Method} {c : Code} {Q : State → Prop} {G : zG} {kc ks : Nat} (a0 n : Nat) {vd kd rv : Int32} {aa ac : Nat} {sa rb tf : Int32} {fc : Nat → Int64} {fa : Nat → Int32} (x : Int32) (C : zC O p l s m meth c RBa bBa_sumOf 5) (hB : G a0 = some (oBa vd kd rv aa ac (nI n) sa rb tf)) (hc : G ac = some (zJ O 20 fc)) (hn : n ≤ 20) (ha : G aa = some (zI O 20 fa)) (kk : zV O p l e R s m args below meth c 5 Q 41 [(0, .ref a0), (1, .int x), (2, .long (sumA fa fc x n)), (4, .int (nI n))] [] G kc ks) : ∀ k j : Nat, j + k = n → zV O p l e R s m args below meth c 5 Q 5 [(0, .ref a0), (1, .int x), (2, .long (sumA fa fc x j)), (4, .int (nI j))] [] G kc ks := by
  intro k
  induction k with
  | zero =>
    intro j hj
    obtain rfl : j = n := by omega
    refine zv_iload (pc := 5) C dBa_sumOf_5 rfl ?_
    refine zv_aload_n (pc := 7) C dBa_sumOf_7 rfl ?_
    refine zv_get (pc := 8) C dBa_sumOf_8 fBa_19 (by first | assumption | exact zu_s | (refine (zu_n (by assumption)).trans ?_; first | assumption | exact zu_s)) rfl ?_
    refine zv_icmp_ge (pc := 11) (tgt := 41) C dBa_sumOf_11 (by decide) (fun cX => ?_) (fun cX => absurd (nI_le (a := j) (b := j) (Nat.le_refl _) (by omega)) cX)
    exact kk
  | succ k ih =>
    intro j hj
    refine zv_iload (pc := 5) C dBa_sumOf_5 rfl ?_
    refine zv_aload_n (pc := 7) C dBa_sumOf_7 rfl ?_
    refine zv_get (pc := 8) C dBa_sumOf_8 fBa_19 (by first | assumption | exact zu_s | (refine (zu_n (by assumption)).trans ?_; first | assumption | exact zu_s)) rfl ?_
    refine zv_icmp_ge (pc := 11) (tgt := 41) C dBa_sumOf_11 (by decide) (fun cX => absurd cX (nI_ge (a := j) (b := n) (by omega) (by omega))) (fun cX => ?_)
    refine zv_aload_n (pc := 14) C dBa_sumOf_14 rfl ?_
    refine zv_get (pc := 15) C dBa_sumOf_15 fBa_9 (by first | assumption | exact zu_s | (refine (zu_n (by assumption)).trans ?_; first | assumption | exact zu_s)) rfl ?_
    refine zv_iload (pc := 18) C dBa_sumOf_18 rfl ?_
    refine zn_iald (pc := 20) C dBa_sumOf_20 (by first | assumption | exact zu_s | (refine (zu_n (by assumption)).trans ?_; first | assumption | exact zu_s)) (by omega) (by omega) ?_
    refine zv_iload_n (pc := 21) C dBa_sumOf_21 rfl ?_
    refine zv_icmp_ne (pc := 22) (tgt := 35) C dBa_sumOf_22 (by decide) (fun c22 => ?_) (fun c22 => ?_)
    · refine zv_iinc (pc := 35) C dBa_sumOf_35 rfl (zn_inc j) (by decide) ?_
      refine zv_goto (pc := 38) (tgt := 5) C dBa_sumOf_38 (by decide) ?_
      exact zv_pick [0, 1, 2, 4] rfl (by
        have h := ih (j + 1) (by omega)
        first
          | (have hB : decide (fa j = x) = true := by simp [c22]
             simp only [sumA, hB, if_true] at h
             exact h)
          | (have hB : decide (fa j = x) = false := by simp [c22]
             simp only [sumA, hB, Bool.false_eq_true, if_false] at h
             exact h))
    · refine zv_lload_n (pc := 25) C dBa_sumOf_25 rfl ?_
      refine zv_aload_n (pc := 26) C dBa_sumOf_26 rfl ?_
      refine zv_get (pc := 27) C dBa_sumOf_27 fBa_15 (by first | assumption | exact zu_s | (refine (zu_n (by assumption)).trans ?_; first | assumption | exact zu_s)) rfl ?_
      refine zv_iload (pc := 30) C dBa_sumOf_30 rfl ?_
      refine zn_lald (pc := 32) C dBa_sumOf_32 (by first | assumption | exact zu_s | (refine (zu_n (by assumption)).trans ?_; first | assumption | exact zu_s)) (by omega) (by omega) ?_
      refine zv_ladd (pc := 33) C dBa_sumOf_33 ?_
      refine zv_lstore_n (pc := 34) C dBa_sumOf_34 (by decide) ?_
      refine zv_iinc (pc := 35) C dBa_sumOf_35 rfl (zn_inc j) (by decide) ?_
      refine zv_goto (pc := 38) (tgt := 5) C dBa_sumOf_38 (by decide) ?_
      exact zv_pick [0, 1, 2, 4] rfl (by
        have h := ih (j + 1) (by omega)
        first
          | (have hB : decide (fa j = x) = true := by simp [c22]
             simp only [sumA, hB, if_true] at h
             exact h)
          | (have hB : decide (fa j = x) = false := by simp [c22]
             simp only [sumA, hB, Bool.false_eq_true, if_false] at h
             exact h))
set_option maxHeartbeats 4000000 in
set_option maxRecDepth 100000 in
theorem cBa_sumOf {O : zO} {l : Launch} (hk : zK O l) (G : zG) (a0 n : Nat) {vd kd rv : Int32} {aa ac : Nat} {sa rb tf : Int32} {fc : Nat → Int64} {fa : Nat → Int32} (x : Int32) (hB : G a0 = some (oBa vd kd rv aa ac (nI n) sa rb tf)) (hc : G ac = some (zJ O 20 fc)) (hn : n ≤ 20) (ha : G aa = some (zI O 20 fa)) : zM O l yBa_sumOf [Cond.code yBa_sumOf bBa_sumOf 5 (some .long)] rmBa_sumOf [.ref a0, .int x] G 0 0 (zPr (.long (sumA fa fc x n)) G) zNo := by
  refine zm_of hk (by decide) (Nat.le_of_ble_eq_true rfl) ?_
  intro p e s m below meth c C hex hr hnm
  refine zv_lconst (pc := 0) (v := 0) C dBa_sumOf_0 (by decide) ?_
  refine zv_lstore_n (pc := 1) C dBa_sumOf_1 (by decide) ?_
  refine zv_iconst (pc := 2) (v := 0) C dBa_sumOf_2 (by decide) ?_
  refine zv_istore (pc := 3) C dBa_sumOf_3 (by decide) ?_
  refine zv_pick [0, 1, 2, 4] rfl (lBa_sumOf a0 n x C hB hc hn ha ?_ n 0 (by omega))
  refine zv_lload_n (pc := 41) C dBa_sumOf_41 rfl ?_
  exact zv_lret (pc := 42) C hr dBa_sumOf_42 (Nat.le_of_ble_eq_true rfl) (Nat.le_of_ble_eq_true rfl) (by exact ⟨rfl, rfl⟩)
set_option maxHeartbeats 4000000 in
set_option maxRecDepth 100000 in
theorem cBk_hasRoomFor {O : zO} {l : Launch} (hk : zK O l) (G : zG) (a0 n : Nat) {b1 b2 b3 b4 b5 : Nat} {hd : Int32} (x : Int32) (hB : G a0 = some (oBk b1 b2 b3 b4 b5 (nI n) hd)) : zM O l yBk_hasRoomFor [Cond.code yBk_hasRoomFor bBk_hasRoomFor 2 (some .boolean)] rmBk_hasRoomFor [.ref a0, .int x] G 0 0 (zPr (.int (zb (!(decide (400 - nI n < x))))) G) zNo := by
  refine zm_of hk (by decide) (Nat.le_of_ble_eq_true rfl) ?_
  intro p e s m below meth c C hex hr hnm
  refine zv_iload_n (pc := 0) C dBk_hasRoomFor_0 rfl ?_
  refine zv_sipush (pc := 1) (v := 400) C dBk_hasRoomFor_1 (by decide) ?_
  refine zv_aload_n (pc := 4) C dBk_hasRoomFor_4 rfl ?_
  refine zv_get (pc := 5) C dBk_hasRoomFor_5 fBk_28 (by first | assumption | exact zu_s | (refine (zu_n (by assumption)).trans ?_; first | assumption | exact zu_s)) rfl ?_
  refine zv_isub (pc := 8) C dBk_hasRoomFor_8 ?_
  refine zv_icmp_gt (pc := 9) (tgt := 16) C dBk_hasRoomFor_9 (by decide) (fun c9 => ?_) (fun c9 => ?_)
  · refine zv_iconst (pc := 16) (v := 0) C dBk_hasRoomFor_16 (by decide) ?_
    exact zv_zret (pc := 17) C hr (by first | rfl | exact zb_nar _) dBk_hasRoomFor_17 (Nat.le_of_ble_eq_true rfl) (Nat.le_of_ble_eq_true rfl) (by simp_all [zPr, zb])
  · refine zv_iconst (pc := 12) (v := 1) C dBk_hasRoomFor_12 (by decide) ?_
    refine zv_goto (pc := 13) (tgt := 17) C dBk_hasRoomFor_13 (by decide) ?_
    exact zv_zret (pc := 17) C hr (by first | rfl | exact zb_nar _) dBk_hasRoomFor_17 (Nat.le_of_ble_eq_true rfl) (Nat.le_of_ble_eq_true rfl) (by simp_all [zPr, zb])
set_option maxHeartbeats 4000000 in
set_option maxRecDepth 100000 in
theorem lBk_sum {O : zO} {p : Program} {l : Launch} {e : Env} {R : Room} {s : State} {m : MethodId} {args : Array Value} {below : List Frame} {meth : Method} {c : Code} {Q : State → Prop} {G : zG} {kc ks : Nat} (a0 n : Nat) {b1 b2 b3 b4 b5 : Nat} {hd : Int32} {fa fv fk : Nat → Int32} {fc : Nat → Int64} (x v1 v2 k1 : Int32) (C : zC O p l s m meth c RBk bBk_sum 8) (hB : G a0 = some (oBk b1 b2 b3 b4 b5 (nI n) hd)) (h2 : G b2 = some (zI O 400 fa)) (h3 : G b3 = some (zJ O 400 fc)) (h4 : G b4 = some (zI O 400 fv)) (h5 : G b5 = some (zI O 400 fk)) (hn : n ≤ 400) (kk : zV O p l e R s m args below meth c 8 Q 78 [(0, .ref a0), (1, .int x), (2, .int v1), (3, .int v2), (4, .int k1), (5, .long (sumF fa fv fk fc x v1 v2 k1 n)), (7, .int (nI n))] [] G kc ks) : ∀ k j : Nat, j + k = n → zV O p l e R s m args below meth c 8 Q 6 [(0, .ref a0), (1, .int x), (2, .int v1), (3, .int v2), (4, .int k1), (5, .long (sumF fa fv fk fc x v1 v2 k1 j)), (7, .int (nI j))] [] G kc ks := by
  intro k
  induction k with
  | zero =>
    intro j hj
    obtain rfl : j = n := by omega
    refine zv_iload (pc := 6) C dBk_sum_6 rfl ?_
    refine zv_aload_n (pc := 8) C dBk_sum_8 rfl ?_
    refine zv_get (pc := 9) C dBk_sum_9 fBk_28 (by first | assumption | exact zu_s | (refine (zu_n (by assumption)).trans ?_; first | assumption | exact zu_s)) rfl ?_
    refine zv_icmp_ge (pc := 12) (tgt := 78) C dBk_sum_12 (by decide) (fun cX => ?_) (fun cX => absurd (nI_le (a := j) (b := j) (Nat.le_refl _) (by omega)) cX)
    exact kk
  | succ k ih =>
    intro j hj
    refine zv_iload (pc := 6) C dBk_sum_6 rfl ?_
    refine zv_aload_n (pc := 8) C dBk_sum_8 rfl ?_
    refine zv_get (pc := 9) C dBk_sum_9 fBk_28 (by first | assumption | exact zu_s | (refine (zu_n (by assumption)).trans ?_; first | assumption | exact zu_s)) rfl ?_
    refine zv_icmp_ge (pc := 12) (tgt := 78) C dBk_sum_12 (by decide) (fun cX => absurd cX (nI_ge (a := j) (b := n) (by omega) (by omega))) (fun cX => ?_)
    refine zv_aload_n (pc := 15) C dBk_sum_15 rfl ?_
    refine zv_get (pc := 16) C dBk_sum_16 fBk_15 (by first | assumption | exact zu_s | (refine (zu_n (by assumption)).trans ?_; first | assumption | exact zu_s)) rfl ?_
    refine zv_iload (pc := 19) C dBk_sum_19 rfl ?_
    refine zn_iald (pc := 21) C dBk_sum_21 (by first | assumption | exact zu_s | (refine (zu_n (by assumption)).trans ?_; first | assumption | exact zu_s)) (by omega) (by omega) ?_
    refine zv_iload_n (pc := 22) C dBk_sum_22 rfl ?_
    refine zv_icmp_ne (pc := 23) (tgt := 72) C dBk_sum_23 (by decide) (fun c23 => ?_) (fun c23 => ?_)
    · refine zv_iinc (pc := 72) C dBk_sum_72 rfl (zn_inc j) (by decide) ?_
      refine zv_goto (pc := 75) (tgt := 6) C dBk_sum_75 (by decide) ?_
      exact zv_pick [0, 1, 2, 3, 4, 5, 7] rfl (by
        have h := ih (j + 1) (by omega)
        first
          | (have hB : rowB fa fv fk x v1 v2 k1 j = true := by simp [rowB, c23]
             simp only [sumF, hB, if_true] at h
             exact h)
          | (have hB : rowB fa fv fk x v1 v2 k1 j = false := by simp [rowB, c23]
             simp only [sumF, hB, Bool.false_eq_true, if_false] at h
             exact h))
    · refine zv_aload_n (pc := 26) C dBk_sum_26 rfl ?_
      refine zv_get (pc := 27) C dBk_sum_27 fBk_22 (by first | assumption | exact zu_s | (refine (zu_n (by assumption)).trans ?_; first | assumption | exact zu_s)) rfl ?_
      refine zv_iload (pc := 30) C dBk_sum_30 rfl ?_
      refine zn_iald (pc := 32) C dBk_sum_32 (by first | assumption | exact zu_s | (refine (zu_n (by assumption)).trans ?_; first | assumption | exact zu_s)) (by omega) (by omega) ?_
      refine zv_iload_n (pc := 33) C dBk_sum_33 rfl ?_
      refine zv_icmp_lt (pc := 34) (tgt := 72) C dBk_sum_34 (by decide) (fun c34 => ?_) (fun c34 => ?_)
      · refine zv_iinc (pc := 72) C dBk_sum_72 rfl (zn_inc j) (by decide) ?_
        refine zv_goto (pc := 75) (tgt := 6) C dBk_sum_75 (by decide) ?_
        exact zv_pick [0, 1, 2, 3, 4, 5, 7] rfl (by
          have h := ih (j + 1) (by omega)
          first
            | (have hB : rowB fa fv fk x v1 v2 k1 j = true := by simp [rowB, c23, c34]
               simp only [sumF, hB, if_true] at h
               exact h)
            | (have hB : rowB fa fv fk x v1 v2 k1 j = false := by simp [rowB, c23, c34]
               simp only [sumF, hB, Bool.false_eq_true, if_false] at h
               exact h))
      · refine zv_aload_n (pc := 37) C dBk_sum_37 rfl ?_
        refine zv_get (pc := 38) C dBk_sum_38 fBk_22 (by first | assumption | exact zu_s | (refine (zu_n (by assumption)).trans ?_; first | assumption | exact zu_s)) rfl ?_
        refine zv_iload (pc := 41) C dBk_sum_41 rfl ?_
        refine zn_iald (pc := 43) C dBk_sum_43 (by first | assumption | exact zu_s | (refine (zu_n (by assumption)).trans ?_; first | assumption | exact zu_s)) (by omega) (by omega) ?_
        refine zv_iload_n (pc := 44) C dBk_sum_44 rfl ?_
        refine zv_icmp_gt (pc := 45) (tgt := 72) C dBk_sum_45 (by decide) (fun c45 => ?_) (fun c45 => ?_)
        · refine zv_iinc (pc := 72) C dBk_sum_72 rfl (zn_inc j) (by decide) ?_
          refine zv_goto (pc := 75) (tgt := 6) C dBk_sum_75 (by decide) ?_
          exact zv_pick [0, 1, 2, 3, 4, 5, 7] rfl (by
            have h := ih (j + 1) (by omega)
            first
              | (have hB : rowB fa fv fk x v1 v2 k1 j = true := by simp [rowB, c23, c34, c45]
                 simp only [sumF, hB, if_true] at h
                 exact h)
              | (have hB : rowB fa fv fk x v1 v2 k1 j = false := by simp [rowB, c23, c34, c45]
                 simp only [sumF, hB, Bool.false_eq_true, if_false] at h
                 exact h))
        · refine zv_aload_n (pc := 48) C dBk_sum_48 rfl ?_
          refine zv_get (pc := 49) C dBk_sum_49 fBk_25 (by first | assumption | exact zu_s | (refine (zu_n (by assumption)).trans ?_; first | assumption | exact zu_s)) rfl ?_
          refine zv_iload (pc := 52) C dBk_sum_52 rfl ?_
          refine zn_iald (pc := 54) C dBk_sum_54 (by first | assumption | exact zu_s | (refine (zu_n (by assumption)).trans ?_; first | assumption | exact zu_s)) (by omega) (by omega) ?_
          refine zv_iload (pc := 55) C dBk_sum_55 rfl ?_
          refine zv_icmp_gt (pc := 57) (tgt := 72) C dBk_sum_57 (by decide) (fun c57 => ?_) (fun c57 => ?_)
          · refine zv_iinc (pc := 72) C dBk_sum_72 rfl (zn_inc j) (by decide) ?_
            refine zv_goto (pc := 75) (tgt := 6) C dBk_sum_75 (by decide) ?_
            exact zv_pick [0, 1, 2, 3, 4, 5, 7] rfl (by
              have h := ih (j + 1) (by omega)
              first
                | (have hB : rowB fa fv fk x v1 v2 k1 j = true := by simp [rowB, c23, c34, c45, c57]
                   simp only [sumF, hB, if_true] at h
                   exact h)
                | (have hB : rowB fa fv fk x v1 v2 k1 j = false := by simp [rowB, c23, c34, c45, c57]
                   simp only [sumF, hB, Bool.false_eq_true, if_false] at h
                   exact h))
          · refine zv_lload (pc := 60) C dBk_sum_60 rfl ?_
            refine zv_aload_n (pc := 62) C dBk_sum_62 rfl ?_
            refine zv_get (pc := 63) C dBk_sum_63 fBk_18 (by first | assumption | exact zu_s | (refine (zu_n (by assumption)).trans ?_; first | assumption | exact zu_s)) rfl ?_
            refine zv_iload (pc := 66) C dBk_sum_66 rfl ?_
            refine zn_lald (pc := 68) C dBk_sum_68 (by first | assumption | exact zu_s | (refine (zu_n (by assumption)).trans ?_; first | assumption | exact zu_s)) (by omega) (by omega) ?_
            refine zv_ladd (pc := 69) C dBk_sum_69 ?_
            refine zv_lstore (pc := 70) C dBk_sum_70 (by decide) ?_
            refine zv_iinc (pc := 72) C dBk_sum_72 rfl (zn_inc j) (by decide) ?_
            refine zv_goto (pc := 75) (tgt := 6) C dBk_sum_75 (by decide) ?_
            exact zv_pick [0, 1, 2, 3, 4, 5, 7] rfl (by
              have h := ih (j + 1) (by omega)
              first
                | (have hB : rowB fa fv fk x v1 v2 k1 j = true := by simp [rowB, c23, c34, c45, c57]
                   simp only [sumF, hB, if_true] at h
                   exact h)
                | (have hB : rowB fa fv fk x v1 v2 k1 j = false := by simp [rowB, c23, c34, c45, c57]
                   simp only [sumF, hB, Bool.false_eq_true, if_false] at h
                   exact h))
set_option maxHeartbeats 4000000 in
set_option maxRecDepth 100000 in
theorem cBk_sum {O : zO} {l : Launch} (hk : zK O l) (G : zG) (a0 n : Nat) {b1 b2 b3 b4 b5 : Nat} {hd : Int32} {fa fv fk : Nat → Int32} {fc : Nat → Int64} (x v1 v2 k1 : Int32) (hB : G a0 = some (oBk b1 b2 b3 b4 b5 (nI n) hd)) (h2 : G b2 = some (zI O 400 fa)) (h3 : G b3 = some (zJ O 400 fc)) (h4 : G b4 = some (zI O 400 fv)) (h5 : G b5 = some (zI O 400 fk)) (hn : n ≤ 400) : zM O l yBk_sum [Cond.code yBk_sum bBk_sum 8 (some .long)] rmBk_sum [.ref a0, .int x, .int v1, .int v2, .int k1] G 0 0 (zPr (.long (sumF fa fv fk fc x v1 v2 k1 n)) G) zNo := by
  refine zm_of hk (by decide) (Nat.le_of_ble_eq_true rfl) ?_
  intro p e s m below meth c C hex hr hnm
  refine zv_lconst (pc := 0) (v := 0) C dBk_sum_0 (by decide) ?_
  refine zv_lstore (pc := 1) C dBk_sum_1 (by decide) ?_
  refine zv_iconst (pc := 3) (v := 0) C dBk_sum_3 (by decide) ?_
  refine zv_istore (pc := 4) C dBk_sum_4 (by decide) ?_
  refine zv_pick [0, 1, 2, 3, 4, 5, 7] rfl (lBk_sum a0 n x v1 v2 k1 C hB h2 h3 h4 h5 hn ?_ n 0 (by omega))
  refine zv_lload (pc := 78) C dBk_sum_78 rfl ?_
  exact zv_lret (pc := 80) C hr dBk_sum_80 (Nat.le_of_ble_eq_true rfl) (Nat.le_of_ble_eq_true rfl) (by exact ⟨rfl, rfl⟩)
end
section
/-! shares -/
def pA (fp : Nat → Int32) (k : Nat) : Nat → Int32
  | 0 => 0
  | r + 1 => pA fp k r + fp (k * 4 + r)
def wS (fp : Nat → Int32) (k r : Nat) (x : Int64) : Int64 := if pA fp k 4 = 0 then 0 else x * (fp (k * 4 + r)).toInt64 / (pA fp k 4).toInt64
def rM (fp : Nat → Int32) (k r : Nat) (x : Int64) : Int64 := if pA fp k 4 = 0 then 0 else x * (fp (k * 4 + r)).toInt64 - x * (fp (k * 4 + r)).toInt64 / (pA fp k 4).toInt64 * (pA fp k 4).toInt64
def cL (fp : Nat → Int32) (k : Nat) (x : Int64) : Nat → Int64
  | 0 => x
  | r + 1 => cL fp k x r - wS fp k r x
def plB (fp : Nat → Int32) (k r : Nat) (x : Int64) (j : Nat) : Bool := decide (rM fp k r x < rM fp k j x) || (decide (rM fp k j x = rM fp k r x) && !(decide (nI r ≤ nI j)))
def plc (fp : Nat → Int32) (k r : Nat) (x : Int64) : Nat → Int32
  | 0 => 0
  | j + 1 => if plB fp k r x j then plc fp k r x j + 1 else plc fp k r x j
def shr (fp : Nat → Int32) (k r : Nat) (x : Int64) : Int64 := if pA fp k 4 = 0 then 0 else if (plc fp k r x 4).toInt64 < cL fp k x 4 then wS fp k r x + 1 else wS fp k r x
def shA (fp : Nat → Int32) (k : Nat) (x : Int64) : Nat → Int64
  | 0 => 0
  | r + 1 => shA fp k x r + shr fp k r x
set_option maxHeartbeats 4000000 in
set_option maxRecDepth 100000 in
theorem lSh_allParts {O : zO} {p : Program} {l : Launch} {e : Env} {R : Room} {s : State} {m : MethodId} {args : Array Value} {below : List Frame} {meth : Method} {c : Code} {Q : State → Prop} {G : zG} {kc ks : Nat} (a0 k : Nat) {p1 p2 : Nat} {fp : Nat → Int32} (C : zC O p l s m meth c RSh bSh_allParts 4) (hS : G a0 = some (oSh p1 p2)) (hp : G p1 = some (zI O 24 fp)) (hk6 : k < 6) (kk : zV O p l e R s m args below meth c 4 Q 28 [(0, .ref a0), (1, .int (nI k)), (2, .int (pA fp k 4)), (3, .int (nI 4))] [] G kc ks) : ∀ i j : Nat, j + i = 4 → zV O p l e R s m args below meth c 4 Q 4 [(0, .ref a0), (1, .int (nI k)), (2, .int (pA fp k j)), (3, .int (nI j))] [] G kc ks := by
  intro i
  induction i with
  | zero =>
    intro j hj
    obtain rfl : j = 4 := by omega
    refine zv_iload_n (pc := 4) C dSh_allParts_4 rfl ?_
    refine zv_iconst (pc := 5) (v := 4) C dSh_allParts_5 (by decide) ?_
    refine zv_icmp_ge (pc := 6) (tgt := 28) C dSh_allParts_6 (by decide) (fun cX => ?_) (fun cX => absurd (nI_le (a := 4) (b := 4) (Nat.le_refl _) (by omega)) cX)
    exact kk
  | succ i ih =>
    intro j hj
    refine zv_iload_n (pc := 4) C dSh_allParts_4 rfl ?_
    refine zv_iconst (pc := 5) (v := 4) C dSh_allParts_5 (by decide) ?_
    refine zv_icmp_ge (pc := 6) (tgt := 28) C dSh_allParts_6 (by decide) (fun cX => absurd cX (nI_ge (a := j) (b := 4) (by omega) (by omega))) (fun cX => ?_)
    refine zv_iload_n (pc := 9) C dSh_allParts_9 rfl ?_
    refine zv_aload_n (pc := 10) C dSh_allParts_10 rfl ?_
    refine zv_get (pc := 11) C dSh_allParts_11 fSh_9 (by first | assumption | exact zu_s | (refine (zu_n (by assumption)).trans ?_; first | assumption | exact zu_s)) rfl ?_
    refine zv_iload_n (pc := 14) C dSh_allParts_14 rfl ?_
    refine zv_iconst (pc := 15) (v := 4) C dSh_allParts_15 (by decide) ?_
    refine zv_imul (pc := 16) C dSh_allParts_16 ?_
    refine zv_iload_n (pc := 17) C dSh_allParts_17 rfl ?_
    refine zv_iadd (pc := 18) C dSh_allParts_18 ?_
    refine zv_topi (zn_ix4 k j) ?_
    refine zn_iald (pc := 19) C dSh_allParts_19 (by first | assumption | exact zu_s | (refine (zu_n (by assumption)).trans ?_; first | assumption | exact zu_s)) (by omega) (by omega) ?_
    refine zv_iadd (pc := 20) C dSh_allParts_20 ?_
    refine zv_istore_n (pc := 21) C dSh_allParts_21 (by decide) ?_
    refine zv_iinc (pc := 22) C dSh_allParts_22 rfl (zn_inc j) (by decide) ?_
    refine zv_goto (pc := 25) (tgt := 4) C dSh_allParts_25 (by decide) ?_
    exact zv_pick [0, 1, 2, 3] rfl (ih (j + 1) (by omega))
set_option maxHeartbeats 4000000 in
set_option maxRecDepth 100000 in
theorem cSh_allParts {O : zO} {l : Launch} (hk : zK O l) (G : zG) (a0 k : Nat) {p1 p2 : Nat} {fp : Nat → Int32} (hS : G a0 = some (oSh p1 p2)) (hp : G p1 = some (zI O 24 fp)) (hk6 : k < 6) : zM O l ySh_allParts [Cond.code ySh_allParts bSh_allParts 4 (some .int)] rmSh_allParts [.ref a0, .int (nI k)] G 0 0 (zPr (.int (pA fp k 4)) G) zNo := by
  refine zm_of hk (by decide) (Nat.le_of_ble_eq_true rfl) ?_
  intro p e s m below meth c C hex hr hnm
  refine zv_iconst (pc := 0) (v := 0) C dSh_allParts_0 (by decide) ?_
  refine zv_istore_n (pc := 1) C dSh_allParts_1 (by decide) ?_
  refine zv_iconst (pc := 2) (v := 0) C dSh_allParts_2 (by decide) ?_
  refine zv_istore_n (pc := 3) C dSh_allParts_3 (by decide) ?_
  refine zv_pick [0, 1, 2, 3] rfl (lSh_allParts a0 k C hS hp hk6 ?_ 4 0 (by omega))
  refine zv_iload_n (pc := 28) C dSh_allParts_28 rfl ?_
  exact zv_iret (pc := 29) C hr dSh_allParts_29 (Nat.le_of_ble_eq_true rfl) (Nat.le_of_ble_eq_true rfl) (by exact ⟨rfl, rfl⟩)
set_option maxHeartbeats 4000000 in
set_option maxRecDepth 100000 in
theorem cSh_wholeShare {O : zO} {l : Launch} (hk : zK O l) (G : zG) (a0 k r : Nat) {p1 p2 : Nat} {fp : Nat → Int32} (x : Int64) (hS : G a0 = some (oSh p1 p2)) (hp : G p1 = some (zI O 24 fp)) (hk6 : k < 6) (hr4 : r < 4) : zM O l ySh_wholeShare [Cond.code ySh_wholeShare bSh_wholeShare 6 (some .long)] rmSh_wholeShare [.ref a0, .int (nI k), .int (nI r), .long x] G 0 0 (zPr (.long (wS fp k r x)) G) zNo := by
  refine zm_of hk (by decide) (Nat.le_of_ble_eq_true rfl) ?_
  intro p e s m below meth c C hex hr hnm
  refine zv_aload_n (pc := 0) C dSh_wholeShare_0 rfl ?_
  refine zv_iload_n (pc := 1) C dSh_wholeShare_1 rfl ?_
  refine zv_callV (pc := 2) C dSh_wholeShare_2 (cSh_allParts hk _ _ _ (by first | assumption | exact zu_s | (refine (zu_n (by assumption)).trans ?_; first | assumption | exact zu_s)) (by first | assumption | exact zu_s | (refine (zu_n (by assumption)).trans ?_; first | assumption | exact zu_s)) (by omega)) gSh_24 ⟨rfl, rfl, ⟨Nat.le_of_ble_eq_true rfl, Nat.le_of_ble_eq_true rfl⟩, mSh_allParts⟩ rfl rfl (Nat.le_of_ble_eq_true rfl) (by first | assumption | exact zu_s | (refine (zu_n (by assumption)).trans ?_; first | assumption | exact zu_s)) rfl rfl ⟨Nat.le_of_ble_eq_true rfl, Nat.le_of_ble_eq_true rfl⟩ (fun _ _ h => h.elim) (fun v G' h => ?_)
  obtain ⟨rfl, rfl⟩ := h
  refine zv_istore (pc := 5) C dSh_wholeShare_5 (by decide) ?_
  refine zv_iload (pc := 7) C dSh_wholeShare_7 rfl ?_
  refine zv_if_ne (pc := 9) (tgt := 16) C dSh_wholeShare_9 (by decide) (fun c9 => ?_) (fun c9 => ?_)
  · refine zv_lload_n (pc := 16) C dSh_wholeShare_16 rfl ?_
    refine zv_aload_n (pc := 17) C dSh_wholeShare_17 rfl ?_
    refine zv_get (pc := 18) C dSh_wholeShare_18 fSh_9 (by first | assumption | exact zu_s | (refine (zu_n (by assumption)).trans ?_; first | assumption | exact zu_s)) rfl ?_
    refine zv_iload_n (pc := 21) C dSh_wholeShare_21 rfl ?_
    refine zv_iconst (pc := 22) (v := 4) C dSh_wholeShare_22 (by decide) ?_
    refine zv_imul (pc := 23) C dSh_wholeShare_23 ?_
    refine zv_iload_n (pc := 24) C dSh_wholeShare_24 rfl ?_
    refine zv_iadd (pc := 25) C dSh_wholeShare_25 ?_
    refine zv_topi (zn_ix4 k r) ?_
    refine zn_iald (pc := 26) C dSh_wholeShare_26 (by first | assumption | exact zu_s | (refine (zu_n (by assumption)).trans ?_; first | assumption | exact zu_s)) (by omega) (by omega) ?_
    refine zv_i2l (pc := 27) C dSh_wholeShare_27 ?_
    refine zv_lmul (pc := 28) C dSh_wholeShare_28 ?_
    refine zv_iload (pc := 29) C dSh_wholeShare_29 rfl ?_
    refine zv_i2l (pc := 31) C dSh_wholeShare_31 ?_
    refine zv_ldiv (pc := 32) C dSh_wholeShare_32 (zn_l0 c9) ?_
    exact zv_lret (pc := 33) C hr dSh_wholeShare_33 (Nat.le_of_ble_eq_true rfl) (Nat.le_of_ble_eq_true rfl) (by simp [zPr, wS, c9])
  · refine zv_lconst (pc := 12) (v := 0) C dSh_wholeShare_12 (by decide) ?_
    refine zv_goto (pc := 13) (tgt := 33) C dSh_wholeShare_13 (by decide) ?_
    exact zv_lret (pc := 33) C hr dSh_wholeShare_33 (Nat.le_of_ble_eq_true rfl) (Nat.le_of_ble_eq_true rfl) (by simp [zPr, wS, c9])
set_option maxHeartbeats 4000000 in
set_option maxRecDepth 100000 in
theorem cSh_remainder {O : zO} {l : Launch} (hk : zK O l) (G : zG) (a0 k r : Nat) {p1 p2 : Nat} {fp : Nat → Int32} (x : Int64) (hS : G a0 = some (oSh p1 p2)) (hp : G p1 = some (zI O 24 fp)) (hk6 : k < 6) (hr4 : r < 4) : zM O l ySh_remainder [Cond.code ySh_remainder bSh_remainder 6 (some .long)] rmSh_remainder [.ref a0, .int (nI k), .int (nI r), .long x] G 0 0 (zPr (.long (rM fp k r x)) G) zNo := by
  refine zm_of hk (by decide) (Nat.le_of_ble_eq_true rfl) ?_
  intro p e s m below meth c C hex hr hnm
  refine zv_aload_n (pc := 0) C dSh_remainder_0 rfl ?_
  refine zv_iload_n (pc := 1) C dSh_remainder_1 rfl ?_
  refine zv_callV (pc := 2) C dSh_remainder_2 (cSh_allParts hk _ _ _ (by first | assumption | exact zu_s | (refine (zu_n (by assumption)).trans ?_; first | assumption | exact zu_s)) (by first | assumption | exact zu_s | (refine (zu_n (by assumption)).trans ?_; first | assumption | exact zu_s)) (by omega)) gSh_24 ⟨rfl, rfl, ⟨Nat.le_of_ble_eq_true rfl, Nat.le_of_ble_eq_true rfl⟩, mSh_allParts⟩ rfl rfl (Nat.le_of_ble_eq_true rfl) (by first | assumption | exact zu_s | (refine (zu_n (by assumption)).trans ?_; first | assumption | exact zu_s)) rfl rfl ⟨Nat.le_of_ble_eq_true rfl, Nat.le_of_ble_eq_true rfl⟩ (fun _ _ h => h.elim) (fun v G' h => ?_)
  obtain ⟨rfl, rfl⟩ := h
  refine zv_istore (pc := 5) C dSh_remainder_5 (by decide) ?_
  refine zv_iload (pc := 7) C dSh_remainder_7 rfl ?_
  refine zv_if_ne (pc := 9) (tgt := 16) C dSh_remainder_9 (by decide) (fun c9 => ?_) (fun c9 => ?_)
  · refine zv_lload_n (pc := 16) C dSh_remainder_16 rfl ?_
    refine zv_aload_n (pc := 17) C dSh_remainder_17 rfl ?_
    refine zv_get (pc := 18) C dSh_remainder_18 fSh_9 (by first | assumption | exact zu_s | (refine (zu_n (by assumption)).trans ?_; first | assumption | exact zu_s)) rfl ?_
    refine zv_iload_n (pc := 21) C dSh_remainder_21 rfl ?_
    refine zv_iconst (pc := 22) (v := 4) C dSh_remainder_22 (by decide) ?_
    refine zv_imul (pc := 23) C dSh_remainder_23 ?_
    refine zv_iload_n (pc := 24) C dSh_remainder_24 rfl ?_
    refine zv_iadd (pc := 25) C dSh_remainder_25 ?_
    refine zv_topi (zn_ix4 k r) ?_
    refine zn_iald (pc := 26) C dSh_remainder_26 (by first | assumption | exact zu_s | (refine (zu_n (by assumption)).trans ?_; first | assumption | exact zu_s)) (by omega) (by omega) ?_
    refine zv_i2l (pc := 27) C dSh_remainder_27 ?_
    refine zv_lmul (pc := 28) C dSh_remainder_28 ?_
    refine zv_iload (pc := 29) C dSh_remainder_29 rfl ?_
    refine zv_i2l (pc := 31) C dSh_remainder_31 ?_
    refine zv_lrem (pc := 32) C dSh_remainder_32 (zn_l0 c9) ?_
    exact zv_lret (pc := 33) C hr dSh_remainder_33 (Nat.le_of_ble_eq_true rfl) (Nat.le_of_ble_eq_true rfl) (by simp [zPr, rM, c9])
  · refine zv_lconst (pc := 12) (v := 0) C dSh_remainder_12 (by decide) ?_
    refine zv_goto (pc := 13) (tgt := 33) C dSh_remainder_13 (by decide) ?_
    exact zv_lret (pc := 33) C hr dSh_remainder_33 (Nat.le_of_ble_eq_true rfl) (Nat.le_of_ble_eq_true rfl) (by simp [zPr, rM, c9])
set_option maxHeartbeats 4000000 in
set_option maxRecDepth 100000 in
theorem lSh_centsLeft {O : zO} {p : Program} {l : Launch} {e : Env} {s : State} {m : MethodId} {args : Array Value} {below : List Frame} {meth : Method} {c : Code} {Q : State → Prop} {G : zG} (hk : zK O l) (a0 k : Nat) {p1 p2 : Nat} {fp : Nat → Int32} (x : Int64) (C : zC O p l s m meth c RSh bSh_centsLeft 7) (hS : G a0 = some (oSh p1 p2)) (hp : G p1 = some (zI O 24 fp)) (hk6 : k < 6) (kk : zV O p l e rmSh_centsLeft s m args below meth c 7 Q 31 [(0, .ref a0), (1, .int (nI k)), (2, .long x), (4, .long (cL fp k x 4)), (6, .int (nI 4))] [] G 0 0) : ∀ i j : Nat, j + i = 4 → zV O p l e rmSh_centsLeft s m args below meth c 7 Q 6 [(0, .ref a0), (1, .int (nI k)), (2, .long x), (4, .long (cL fp k x j)), (6, .int (nI j))] [] G 0 0 := by
  intro i
  induction i with
  | zero =>
    intro j hj
    obtain rfl : j = 4 := by omega
    refine zv_iload (pc := 6) C dSh_centsLeft_6 rfl ?_
    refine zv_iconst (pc := 8) (v := 4) C dSh_centsLeft_8 (by decide) ?_
    refine zv_icmp_ge (pc := 9) (tgt := 31) C dSh_centsLeft_9 (by decide) (fun cX => ?_) (fun cX => absurd (nI_le (a := 4) (b := 4) (Nat.le_refl _) (by omega)) cX)
    exact kk
  | succ i ih =>
    intro j hj
    refine zv_iload (pc := 6) C dSh_centsLeft_6 rfl ?_
    refine zv_iconst (pc := 8) (v := 4) C dSh_centsLeft_8 (by decide) ?_
    refine zv_icmp_ge (pc := 9) (tgt := 31) C dSh_centsLeft_9 (by decide) (fun cX => absurd cX (nI_ge (a := j) (b := 4) (by omega) (by omega))) (fun cX => ?_)
    refine zv_lload (pc := 12) C dSh_centsLeft_12 rfl ?_
    refine zv_aload_n (pc := 14) C dSh_centsLeft_14 rfl ?_
    refine zv_iload_n (pc := 15) C dSh_centsLeft_15 rfl ?_
    refine zv_iload (pc := 16) C dSh_centsLeft_16 rfl ?_
    refine zv_lload_n (pc := 18) C dSh_centsLeft_18 rfl ?_
    refine zv_callV (pc := 19) C dSh_centsLeft_19 (cSh_wholeShare hk _ _ _ _ _ (by first | assumption | exact zu_s | (refine (zu_n (by assumption)).trans ?_; first | assumption | exact zu_s)) (by first | assumption | exact zu_s | (refine (zu_n (by assumption)).trans ?_; first | assumption | exact zu_s)) (by omega) (by omega)) gSh_28 ⟨rfl, rfl, ⟨Nat.le_of_ble_eq_true rfl, Nat.le_of_ble_eq_true rfl⟩, mSh_wholeShare⟩ rfl rfl (Nat.le_of_ble_eq_true rfl) (by first | assumption | exact zu_s | (refine (zu_n (by assumption)).trans ?_; first | assumption | exact zu_s)) rfl rfl ⟨Nat.le_of_ble_eq_true rfl, Nat.le_of_ble_eq_true rfl⟩ (fun _ _ h => h.elim) (fun v G' h => ?_)
    obtain ⟨rfl, rfl⟩ := h
    refine zv_lsub (pc := 22) C dSh_centsLeft_22 ?_
    refine zv_lstore (pc := 23) C dSh_centsLeft_23 (by decide) ?_
    refine zv_iinc (pc := 25) C dSh_centsLeft_25 rfl (zn_inc j) (by decide) ?_
    refine zv_goto (pc := 28) (tgt := 6) C dSh_centsLeft_28 (by decide) ?_
    exact zv_pick [0, 1, 2, 4, 6] rfl (ih (j + 1) (by omega))
set_option maxHeartbeats 4000000 in
set_option maxRecDepth 100000 in
theorem cSh_centsLeft {O : zO} {l : Launch} (hk : zK O l) (G : zG) (a0 k : Nat) {p1 p2 : Nat} {fp : Nat → Int32} (x : Int64) (hS : G a0 = some (oSh p1 p2)) (hp : G p1 = some (zI O 24 fp)) (hk6 : k < 6) : zM O l ySh_centsLeft [Cond.code ySh_centsLeft bSh_centsLeft 7 (some .long)] rmSh_centsLeft [.ref a0, .int (nI k), .long x] G 0 0 (zPr (.long (cL fp k x 4)) G) zNo := by
  refine zm_of hk (by decide) (Nat.le_of_ble_eq_true rfl) ?_
  intro p e s m below meth c C hex hr hnm
  refine zv_lload_n (pc := 0) C dSh_centsLeft_0 rfl ?_
  refine zv_lstore (pc := 1) C dSh_centsLeft_1 (by decide) ?_
  refine zv_iconst (pc := 3) (v := 0) C dSh_centsLeft_3 (by decide) ?_
  refine zv_istore (pc := 4) C dSh_centsLeft_4 (by decide) ?_
  refine zv_pick [0, 1, 2, 4, 6] rfl (lSh_centsLeft hk a0 k x C hS hp hk6 ?_ 4 0 (by omega))
  refine zv_lload (pc := 31) C dSh_centsLeft_31 rfl ?_
  exact zv_lret (pc := 33) C hr dSh_centsLeft_33 (Nat.le_of_ble_eq_true rfl) (Nat.le_of_ble_eq_true rfl) (by exact ⟨rfl, rfl⟩)
set_option maxHeartbeats 4000000 in
set_option maxRecDepth 100000 in
theorem lSh_placeByRemainder {O : zO} {p : Program} {l : Launch} {e : Env} {s : State} {m : MethodId} {args : Array Value} {below : List Frame} {meth : Method} {c : Code} {Q : State → Prop} {G : zG} (hk : zK O l) (a0 k r : Nat) {p1 p2 : Nat} {fp : Nat → Int32} (x : Int64) (C : zC O p l s m meth c RSh bSh_placeByRemainder 11) (hS : G a0 = some (oSh p1 p2)) (hp : G p1 = some (zI O 24 fp)) (hk6 : k < 6) (hr4 : r < 4) (kk : zV O p l e rmSh_placeByRemainder s m args below meth c 11 Q 62 [(0, .ref a0), (1, .int (nI k)), (2, .int (nI r)), (3, .long x), (5, .long (rM fp k r x)), (7, .int (plc fp k r x 4)), (8, .int (nI 4))] [] G 0 0) : ∀ i j : Nat, j + i = 4 → zV O p l e rmSh_placeByRemainder s m args below meth c 11 Q 15 [(0, .ref a0), (1, .int (nI k)), (2, .int (nI r)), (3, .long x), (5, .long (rM fp k r x)), (7, .int (plc fp k r x j)), (8, .int (nI j))] [] G 0 0 := by
  intro i
  induction i with
  | zero =>
    intro j hj
    obtain rfl : j = 4 := by omega
    refine zv_iload (pc := 15) C dSh_placeByRemainder_15 rfl ?_
    refine zv_iconst (pc := 17) (v := 4) C dSh_placeByRemainder_17 (by decide) ?_
    refine zv_icmp_ge (pc := 18) (tgt := 62) C dSh_placeByRemainder_18 (by decide) (fun cX => ?_) (fun cX => absurd (nI_le (a := 4) (b := 4) (Nat.le_refl _) (by omega)) cX)
    exact kk
  | succ i ih =>
    intro j hj
    refine zv_iload (pc := 15) C dSh_placeByRemainder_15 rfl ?_
    refine zv_iconst (pc := 17) (v := 4) C dSh_placeByRemainder_17 (by decide) ?_
    refine zv_icmp_ge (pc := 18) (tgt := 62) C dSh_placeByRemainder_18 (by decide) (fun cX => absurd cX (nI_ge (a := j) (b := 4) (by omega) (by omega))) (fun cX => ?_)
    refine zv_aload_n (pc := 21) C dSh_placeByRemainder_21 rfl ?_
    refine zv_iload_n (pc := 22) C dSh_placeByRemainder_22 rfl ?_
    refine zv_iload (pc := 23) C dSh_placeByRemainder_23 rfl ?_
    refine zv_lload_n (pc := 25) C dSh_placeByRemainder_25 rfl ?_
    refine zv_callV (pc := 26) C dSh_placeByRemainder_26 (cSh_remainder hk _ _ _ _ _ (by first | assumption | exact zu_s | (refine (zu_n (by assumption)).trans ?_; first | assumption | exact zu_s)) (by first | assumption | exact zu_s | (refine (zu_n (by assumption)).trans ?_; first | assumption | exact zu_s)) (by omega) (by omega)) gSh_39 ⟨rfl, rfl, ⟨Nat.le_of_ble_eq_true rfl, Nat.le_of_ble_eq_true rfl⟩, mSh_remainder⟩ rfl rfl (Nat.le_of_ble_eq_true rfl) (by first | assumption | exact zu_s | (refine (zu_n (by assumption)).trans ?_; first | assumption | exact zu_s)) rfl rfl ⟨Nat.le_of_ble_eq_true rfl, Nat.le_of_ble_eq_true rfl⟩ (fun _ _ h => h.elim) (fun v G' h => ?_)
    obtain ⟨rfl, rfl⟩ := h
    refine zv_lstore (pc := 29) C dSh_placeByRemainder_29 (by decide) ?_
    refine zv_lload (pc := 31) C dSh_placeByRemainder_31 rfl ?_
    refine zv_lload (pc := 33) C dSh_placeByRemainder_33 rfl ?_
    refine zv_lcmp (pc := 35) C dSh_placeByRemainder_35 ?_
    refine zv_if_gt (pc := 36) (tgt := 53) C dSh_placeByRemainder_36 (by decide) (fun c36 => ?_) (fun c36 => ?_)
    · refine zv_iinc (pc := 53) (v := plc fp k r x j + 1) C dSh_placeByRemainder_53 rfl (by rw [lit1]) (by decide) ?_
      refine zv_iinc (pc := 56) C dSh_placeByRemainder_56 rfl (zn_inc j) (by decide) ?_
      refine zv_goto (pc := 59) (tgt := 15) C dSh_placeByRemainder_59 (by decide) ?_
      exact zv_pick [0, 1, 2, 3, 5, 7, 8] rfl (by
        have h := ih (j + 1) (by omega)
        simp only [lg_cmp_gt, lg_cmp_eq] at c36
        first
          | (have hB : plB fp k r x j = true := by simp [plB, c36]
             simp only [plc, hB, if_true] at h
             exact h)
          | (have hB : plB fp k r x j = false := by simp [plB, c36]
             simp only [plc, hB, Bool.false_eq_true, if_false] at h
             exact h))
    · refine zv_lload (pc := 39) C dSh_placeByRemainder_39 rfl ?_
      refine zv_lload (pc := 41) C dSh_placeByRemainder_41 rfl ?_
      refine zv_lcmp (pc := 43) C dSh_placeByRemainder_43 ?_
      refine zv_if_ne (pc := 44) (tgt := 56) C dSh_placeByRemainder_44 (by decide) (fun c44 => ?_) (fun c44 => ?_)
      · refine zv_iinc (pc := 56) C dSh_placeByRemainder_56 rfl (zn_inc j) (by decide) ?_
        refine zv_goto (pc := 59) (tgt := 15) C dSh_placeByRemainder_59 (by decide) ?_
        exact zv_pick [0, 1, 2, 3, 5, 7, 8] rfl (by
          have h := ih (j + 1) (by omega)
          simp only [lg_cmp_gt, lg_cmp_eq] at c36 c44
          first
            | (have hB : plB fp k r x j = true := by simp [plB, c36, c44]
               simp only [plc, hB, if_true] at h
               exact h)
            | (have hB : plB fp k r x j = false := by simp [plB, c36, c44]
               simp only [plc, hB, Bool.false_eq_true, if_false] at h
               exact h))
      · refine zv_iload (pc := 47) C dSh_placeByRemainder_47 rfl ?_
        refine zv_iload_n (pc := 49) C dSh_placeByRemainder_49 rfl ?_
        refine zv_icmp_ge (pc := 50) (tgt := 56) C dSh_placeByRemainder_50 (by decide) (fun c50 => ?_) (fun c50 => ?_)
        · refine zv_iinc (pc := 56) C dSh_placeByRemainder_56 rfl (zn_inc j) (by decide) ?_
          refine zv_goto (pc := 59) (tgt := 15) C dSh_placeByRemainder_59 (by decide) ?_
          exact zv_pick [0, 1, 2, 3, 5, 7, 8] rfl (by
            have h := ih (j + 1) (by omega)
            simp only [lg_cmp_gt, lg_cmp_eq] at c36 c44
            first
              | (have hB : plB fp k r x j = true := by simp [plB, c36, c44, c50]
                 simp only [plc, hB, if_true] at h
                 exact h)
              | (have hB : plB fp k r x j = false := by simp [plB, c36, c44, c50]
                 simp only [plc, hB, Bool.false_eq_true, if_false] at h
                 exact h))
        · refine zv_iinc (pc := 53) (v := plc fp k r x j + 1) C dSh_placeByRemainder_53 rfl (by rw [lit1]) (by decide) ?_
          refine zv_iinc (pc := 56) C dSh_placeByRemainder_56 rfl (zn_inc j) (by decide) ?_
          refine zv_goto (pc := 59) (tgt := 15) C dSh_placeByRemainder_59 (by decide) ?_
          exact zv_pick [0, 1, 2, 3, 5, 7, 8] rfl (by
            have h := ih (j + 1) (by omega)
            simp only [lg_cmp_gt, lg_cmp_eq] at c36 c44
            first
              | (have hB : plB fp k r x j = true := by simp [plB, c36, c44, c50]
                 simp only [plc, hB, if_true] at h
                 exact h)
              | (have hB : plB fp k r x j = false := by simp [plB, c36, c44, c50]
                 simp only [plc, hB, Bool.false_eq_true, if_false] at h
                 exact h))
set_option maxHeartbeats 4000000 in
set_option maxRecDepth 100000 in
theorem cSh_placeByRemainder {O : zO} {l : Launch} (hk : zK O l) (G : zG) (a0 k r : Nat) {p1 p2 : Nat} {fp : Nat → Int32} (x : Int64) (hS : G a0 = some (oSh p1 p2)) (hp : G p1 = some (zI O 24 fp)) (hk6 : k < 6) (hr4 : r < 4) : zM O l ySh_placeByRemainder [Cond.code ySh_placeByRemainder bSh_placeByRemainder 11 (some .int)] rmSh_placeByRemainder [.ref a0, .int (nI k), .int (nI r), .long x] G 0 0 (zPr (.int (plc fp k r x 4)) G) zNo := by
  refine zm_of hk (by decide) (Nat.le_of_ble_eq_true rfl) ?_
  intro p e s m below meth c C hex hr hnm
  refine zv_aload_n (pc := 0) C dSh_placeByRemainder_0 rfl ?_
  refine zv_iload_n (pc := 1) C dSh_placeByRemainder_1 rfl ?_
  refine zv_iload_n (pc := 2) C dSh_placeByRemainder_2 rfl ?_
  refine zv_lload_n (pc := 3) C dSh_placeByRemainder_3 rfl ?_
  refine zv_callV (pc := 4) C dSh_placeByRemainder_4 (cSh_remainder hk _ _ _ _ _ (by first | assumption | exact zu_s | (refine (zu_n (by assumption)).trans ?_; first | assumption | exact zu_s)) (by first | assumption | exact zu_s | (refine (zu_n (by assumption)).trans ?_; first | assumption | exact zu_s)) (by omega) (by omega)) gSh_39 ⟨rfl, rfl, ⟨Nat.le_of_ble_eq_true rfl, Nat.le_of_ble_eq_true rfl⟩, mSh_remainder⟩ rfl rfl (Nat.le_of_ble_eq_true rfl) (by first | assumption | exact zu_s | (refine (zu_n (by assumption)).trans ?_; first | assumption | exact zu_s)) rfl rfl ⟨Nat.le_of_ble_eq_true rfl, Nat.le_of_ble_eq_true rfl⟩ (fun _ _ h => h.elim) (fun v G' h => ?_)
  obtain ⟨rfl, rfl⟩ := h
  refine zv_lstore (pc := 7) C dSh_placeByRemainder_7 (by decide) ?_
  refine zv_iconst (pc := 9) (v := 0) C dSh_placeByRemainder_9 (by decide) ?_
  refine zv_istore (pc := 10) C dSh_placeByRemainder_10 (by decide) ?_
  refine zv_iconst (pc := 12) (v := 0) C dSh_placeByRemainder_12 (by decide) ?_
  refine zv_istore (pc := 13) C dSh_placeByRemainder_13 (by decide) ?_
  refine zv_pick [0, 1, 2, 3, 5, 7, 8] rfl (lSh_placeByRemainder hk a0 k r x C hS hp hk6 hr4 ?_ 4 0 (by omega))
  refine zv_iload (pc := 62) C dSh_placeByRemainder_62 rfl ?_
  exact zv_iret (pc := 64) C hr dSh_placeByRemainder_64 (Nat.le_of_ble_eq_true rfl) (Nat.le_of_ble_eq_true rfl) (by exact ⟨rfl, rfl⟩)
set_option maxHeartbeats 4000000 in
set_option maxRecDepth 100000 in
theorem cSh_shareOf {O : zO} {l : Launch} (hk : zK O l) (G : zG) (a0 k r : Nat) {p1 p2 : Nat} {fp : Nat → Int32} (x : Int64) (hS : G a0 = some (oSh p1 p2)) (hp : G p1 = some (zI O 24 fp)) (hk6 : k < 6) (hr4 : r < 4) : zM O l ySh_shareOf [Cond.code ySh_shareOf bSh_shareOf 7 (some .long)] rmSh_shareOf [.ref a0, .int (nI k), .int (nI r), .long x] G 0 0 (zPr (.long (shr fp k r x)) G) zNo := by
  refine zm_of hk (by decide) (Nat.le_of_ble_eq_true rfl) ?_
  intro p e s m below meth c C hex hr hnm
  refine zv_aload_n (pc := 0) C dSh_shareOf_0 rfl ?_
  refine zv_iload_n (pc := 1) C dSh_shareOf_1 rfl ?_
  refine zv_callV (pc := 2) C dSh_shareOf_2 (cSh_allParts hk _ _ _ (by first | assumption | exact zu_s | (refine (zu_n (by assumption)).trans ?_; first | assumption | exact zu_s)) (by first | assumption | exact zu_s | (refine (zu_n (by assumption)).trans ?_; first | assumption | exact zu_s)) (by omega)) gSh_24 ⟨rfl, rfl, ⟨Nat.le_of_ble_eq_true rfl, Nat.le_of_ble_eq_true rfl⟩, mSh_allParts⟩ rfl rfl (Nat.le_of_ble_eq_true rfl) (by first | assumption | exact zu_s | (refine (zu_n (by assumption)).trans ?_; first | assumption | exact zu_s)) rfl rfl ⟨Nat.le_of_ble_eq_true rfl, Nat.le_of_ble_eq_true rfl⟩ (fun _ _ h => h.elim) (fun v G' h => ?_)
  obtain ⟨rfl, rfl⟩ := h
  refine zv_if_ne (pc := 5) (tgt := 10) C dSh_shareOf_5 (by decide) (fun c5 => ?_) (fun c5 => ?_)
  · refine zv_aload_n (pc := 10) C dSh_shareOf_10 rfl ?_
    refine zv_iload_n (pc := 11) C dSh_shareOf_11 rfl ?_
    refine zv_iload_n (pc := 12) C dSh_shareOf_12 rfl ?_
    refine zv_lload_n (pc := 13) C dSh_shareOf_13 rfl ?_
    refine zv_callV (pc := 14) C dSh_shareOf_14 (cSh_wholeShare hk _ _ _ _ _ (by first | assumption | exact zu_s | (refine (zu_n (by assumption)).trans ?_; first | assumption | exact zu_s)) (by first | assumption | exact zu_s | (refine (zu_n (by assumption)).trans ?_; first | assumption | exact zu_s)) (by omega) (by omega)) gSh_28 ⟨rfl, rfl, ⟨Nat.le_of_ble_eq_true rfl, Nat.le_of_ble_eq_true rfl⟩, mSh_wholeShare⟩ rfl rfl (Nat.le_of_ble_eq_true rfl) (by first | assumption | exact zu_s | (refine (zu_n (by assumption)).trans ?_; first | assumption | exact zu_s)) rfl rfl ⟨Nat.le_of_ble_eq_true rfl, Nat.le_of_ble_eq_true rfl⟩ (fun _ _ h => h.elim) (fun v G' h => ?_)
    obtain ⟨rfl, rfl⟩ := h
    refine zv_lstore (pc := 17) C dSh_shareOf_17 (by decide) ?_
    refine zv_aload_n (pc := 19) C dSh_shareOf_19 rfl ?_
    refine zv_iload_n (pc := 20) C dSh_shareOf_20 rfl ?_
    refine zv_iload_n (pc := 21) C dSh_shareOf_21 rfl ?_
    refine zv_lload_n (pc := 22) C dSh_shareOf_22 rfl ?_
    refine zv_callV (pc := 23) C dSh_shareOf_23 (cSh_placeByRemainder hk _ _ _ _ _ (by first | assumption | exact zu_s | (refine (zu_n (by assumption)).trans ?_; first | assumption | exact zu_s)) (by first | assumption | exact zu_s | (refine (zu_n (by assumption)).trans ?_; first | assumption | exact zu_s)) (by omega) (by omega)) gSh_31 ⟨rfl, rfl, ⟨Nat.le_of_ble_eq_true rfl, Nat.le_of_ble_eq_true rfl⟩, mSh_placeByRemainder⟩ rfl rfl (Nat.le_of_ble_eq_true rfl) (by first | assumption | exact zu_s | (refine (zu_n (by assumption)).trans ?_; first | assumption | exact zu_s)) rfl rfl ⟨Nat.le_of_ble_eq_true rfl, Nat.le_of_ble_eq_true rfl⟩ (fun _ _ h => h.elim) (fun v G' h => ?_)
    obtain ⟨rfl, rfl⟩ := h
    refine zv_i2l (pc := 26) C dSh_shareOf_26 ?_
    refine zv_aload_n (pc := 27) C dSh_shareOf_27 rfl ?_
    refine zv_iload_n (pc := 28) C dSh_shareOf_28 rfl ?_
    refine zv_lload_n (pc := 29) C dSh_shareOf_29 rfl ?_
    refine zv_callV (pc := 30) C dSh_shareOf_30 (cSh_centsLeft hk _ _ _ _ (by first | assumption | exact zu_s | (refine (zu_n (by assumption)).trans ?_; first | assumption | exact zu_s)) (by first | assumption | exact zu_s | (refine (zu_n (by assumption)).trans ?_; first | assumption | exact zu_s)) (by omega)) gSh_35 ⟨rfl, rfl, ⟨Nat.le_of_ble_eq_true rfl, Nat.le_of_ble_eq_true rfl⟩, mSh_centsLeft⟩ rfl rfl (Nat.le_of_ble_eq_true rfl) (by first | assumption | exact zu_s | (refine (zu_n (by assumption)).trans ?_; first | assumption | exact zu_s)) rfl rfl ⟨Nat.le_of_ble_eq_true rfl, Nat.le_of_ble_eq_true rfl⟩ (fun _ _ h => h.elim) (fun v G' h => ?_)
    obtain ⟨rfl, rfl⟩ := h
    refine zv_lcmp (pc := 33) C dSh_shareOf_33 ?_
    refine zv_if_ge (pc := 34) (tgt := 44) C dSh_shareOf_34 (by decide) (fun c34 => ?_) (fun c34 => ?_)
    · refine zv_lload (pc := 44) C dSh_shareOf_44 rfl ?_
      exact zv_lret (pc := 46) C hr dSh_shareOf_46 (Nat.le_of_ble_eq_true rfl) (Nat.le_of_ble_eq_true rfl) (by first | (have c5n := c5; have c := (lg_cmp_ge _ _).mp c34; simp [zPr, shr, c5n, Int64.not_lt.mpr c]) | (have c5n := c5; have c := fun h => c34 ((lg_cmp_ge _ _).mpr h); simp [zPr, shr, c5n, Int64.not_le.mp c]))
    · refine zv_lload (pc := 37) C dSh_shareOf_37 rfl ?_
      refine zv_lconst (pc := 39) (v := 1) C dSh_shareOf_39 (by decide) ?_
      refine zv_ladd (pc := 40) C dSh_shareOf_40 ?_
      refine zv_goto (pc := 41) (tgt := 46) C dSh_shareOf_41 (by decide) ?_
      exact zv_lret (pc := 46) C hr dSh_shareOf_46 (Nat.le_of_ble_eq_true rfl) (Nat.le_of_ble_eq_true rfl) (by first | (have c5n := c5; have c := (lg_cmp_ge _ _).mp c34; simp [zPr, shr, c5n, Int64.not_lt.mpr c]) | (have c5n := c5; have c := fun h => c34 ((lg_cmp_ge _ _).mpr h); simp [zPr, shr, c5n, Int64.not_le.mp c]))
  · refine zv_lconst (pc := 8) (v := 0) C dSh_shareOf_8 (by decide) ?_
    exact zv_lret (pc := 9) C hr dSh_shareOf_9 (Nat.le_of_ble_eq_true rfl) (Nat.le_of_ble_eq_true rfl) (by simp [zPr, shr, c5])
set_option maxHeartbeats 4000000 in
set_option maxRecDepth 100000 in
theorem lSh_allShares {O : zO} {p : Program} {l : Launch} {e : Env} {s : State} {m : MethodId} {args : Array Value} {below : List Frame} {meth : Method} {c : Code} {Q : State → Prop} {G : zG} (hk : zK O l) (a0 k : Nat) {p1 p2 : Nat} {fp : Nat → Int32} (x : Int64) (C : zC O p l s m meth c RSh bSh_allShares 7) (hS : G a0 = some (oSh p1 p2)) (hp : G p1 = some (zI O 24 fp)) (hk6 : k < 6) (kk : zV O p l e rmSh_allShares s m args below meth c 7 Q 31 [(0, .ref a0), (1, .int (nI k)), (2, .long x), (4, .long (shA fp k x 4)), (6, .int (nI 4))] [] G 0 0) : ∀ i j : Nat, j + i = 4 → zV O p l e rmSh_allShares s m args below meth c 7 Q 6 [(0, .ref a0), (1, .int (nI k)), (2, .long x), (4, .long (shA fp k x j)), (6, .int (nI j))] [] G 0 0 := by
  intro i
  induction i with
  | zero =>
    intro j hj
    obtain rfl : j = 4 := by omega
    refine zv_iload (pc := 6) C dSh_allShares_6 rfl ?_
    refine zv_iconst (pc := 8) (v := 4) C dSh_allShares_8 (by decide) ?_
    refine zv_icmp_ge (pc := 9) (tgt := 31) C dSh_allShares_9 (by decide) (fun cX => ?_) (fun cX => absurd (nI_le (a := 4) (b := 4) (Nat.le_refl _) (by omega)) cX)
    exact kk
  | succ i ih =>
    intro j hj
    refine zv_iload (pc := 6) C dSh_allShares_6 rfl ?_
    refine zv_iconst (pc := 8) (v := 4) C dSh_allShares_8 (by decide) ?_
    refine zv_icmp_ge (pc := 9) (tgt := 31) C dSh_allShares_9 (by decide) (fun cX => absurd cX (nI_ge (a := j) (b := 4) (by omega) (by omega))) (fun cX => ?_)
    refine zv_lload (pc := 12) C dSh_allShares_12 rfl ?_
    refine zv_aload_n (pc := 14) C dSh_allShares_14 rfl ?_
    refine zv_iload_n (pc := 15) C dSh_allShares_15 rfl ?_
    refine zv_iload (pc := 16) C dSh_allShares_16 rfl ?_
    refine zv_lload_n (pc := 18) C dSh_allShares_18 rfl ?_
    refine zv_callV (pc := 19) C dSh_allShares_19 (cSh_shareOf hk _ _ _ _ _ (by first | assumption | exact zu_s | (refine (zu_n (by assumption)).trans ?_; first | assumption | exact zu_s)) (by first | assumption | exact zu_s | (refine (zu_n (by assumption)).trans ?_; first | assumption | exact zu_s)) (by omega) (by omega)) gSh_20 ⟨rfl, rfl, ⟨Nat.le_of_ble_eq_true rfl, Nat.le_of_ble_eq_true rfl⟩, mSh_shareOf⟩ rfl rfl (Nat.le_of_ble_eq_true rfl) (by first | assumption | exact zu_s | (refine (zu_n (by assumption)).trans ?_; first | assumption | exact zu_s)) rfl rfl ⟨Nat.le_of_ble_eq_true rfl, Nat.le_of_ble_eq_true rfl⟩ (fun _ _ h => h.elim) (fun v G' h => ?_)
    obtain ⟨rfl, rfl⟩ := h
    refine zv_ladd (pc := 22) C dSh_allShares_22 ?_
    refine zv_lstore (pc := 23) C dSh_allShares_23 (by decide) ?_
    refine zv_iinc (pc := 25) C dSh_allShares_25 rfl (zn_inc j) (by decide) ?_
    refine zv_goto (pc := 28) (tgt := 6) C dSh_allShares_28 (by decide) ?_
    exact zv_pick [0, 1, 2, 4, 6] rfl (ih (j + 1) (by omega))
set_option maxHeartbeats 4000000 in
set_option maxRecDepth 100000 in
theorem cSh_allShares {O : zO} {l : Launch} (hk : zK O l) (G : zG) (a0 k : Nat) {p1 p2 : Nat} {fp : Nat → Int32} (x : Int64) (hS : G a0 = some (oSh p1 p2)) (hp : G p1 = some (zI O 24 fp)) (hk6 : k < 6) : zM O l ySh_allShares [Cond.code ySh_allShares bSh_allShares 7 (some .long)] rmSh_allShares [.ref a0, .int (nI k), .long x] G 0 0 (zPr (.long (shA fp k x 4)) G) zNo := by
  refine zm_of hk (by decide) (Nat.le_of_ble_eq_true rfl) ?_
  intro p e s m below meth c C hex hr hnm
  refine zv_lconst (pc := 0) (v := 0) C dSh_allShares_0 (by decide) ?_
  refine zv_lstore (pc := 1) C dSh_allShares_1 (by decide) ?_
  refine zv_iconst (pc := 3) (v := 0) C dSh_allShares_3 (by decide) ?_
  refine zv_istore (pc := 4) C dSh_allShares_4 (by decide) ?_
  refine zv_pick [0, 1, 2, 4, 6] rfl (lSh_allShares hk a0 k x C hS hp hk6 ?_ 4 0 (by omega))
  refine zv_lload (pc := 31) C dSh_allShares_31 rfl ?_
  exact zv_lret (pc := 33) C hr dSh_allShares_33 (Nat.le_of_ble_eq_true rfl) (Nat.le_of_ble_eq_true rfl) (by exact ⟨rfl, rfl⟩)
set_option maxHeartbeats 4000000 in
set_option maxRecDepth 100000 in
theorem cSh_costOf {O : zO} {l : Launch} (hk : zK O l) (G : zG) (a0 k : Nat) {p1 p2 : Nat} {fq : Nat → Int32} (x : Int64) (hS : G a0 = some (oSh p1 p2)) (hp : G p2 = some (zI O 6 fq)) (hk6 : k < 6) : zM O l ySh_costOf [Cond.code ySh_costOf bSh_costOf 4 (some .long)] rmSh_costOf [.ref a0, .int (nI k), .long x] G 0 0 (zPr (.long (x * (fq k).toInt64 / 1000)) G) zNo := by
  refine zm_of hk (by decide) (Nat.le_of_ble_eq_true rfl) ?_
  intro p e s m below meth c C hex hr hnm
  refine zv_lload_n (pc := 0) C dSh_costOf_0 rfl ?_
  refine zv_aload_n (pc := 1) C dSh_costOf_1 rfl ?_
  refine zv_get (pc := 2) C dSh_costOf_2 fSh_15 (by first | assumption | exact zu_s | (refine (zu_n (by assumption)).trans ?_; first | assumption | exact zu_s)) rfl ?_
  refine zv_iload_n (pc := 5) C dSh_costOf_5 rfl ?_
  refine zn_iald (pc := 6) C dSh_costOf_6 (by first | assumption | exact zu_s | (refine (zu_n (by assumption)).trans ?_; first | assumption | exact zu_s)) (by omega) (by omega) ?_
  refine zv_i2l (pc := 7) C dSh_costOf_7 ?_
  refine zv_lmul (pc := 8) C dSh_costOf_8 ?_
  refine zv_ldc2 (pc := 9) C dSh_costOf_9 zw_479 ?_
  refine zv_ldiv (pc := 12) C dSh_costOf_12 (by decide) ?_
  exact zv_lret (pc := 13) C hr dSh_costOf_13 (Nat.le_of_ble_eq_true rfl) (Nat.le_of_ble_eq_true rfl) (by exact ⟨rfl, rfl⟩)
end
section
set_option maxHeartbeats 4000000 in
set_option maxRecDepth 100000 in
theorem cSh_setPart {O : zO} {l : Launch} (hk : zK O l) (G : zG) (a0 k r : Nat) {p1 p2 : Nat} {fp : Nat → Int32} (x : Int32) (hS : G a0 = some (oSh p1 p2)) (hp : G p1 = some (zI O 24 fp)) (hk6 : k < 6) (hr4 : r < 4) : zM O l ySh_setPart [Cond.code ySh_setPart bSh_setPart 4 none] rmSh_setPart [.ref a0, .int (nI k), .int (nI r), .int x] G 0 0 (zWr none (zu G p1 (zI O 24 (upd fp (k * 4 + r) x)))) zNo := by
  refine zm_of hk (by decide) (Nat.le_of_ble_eq_true rfl) ?_
  intro p e s m below meth c C hex hr hnm
  refine zv_aload_n (pc := 0) C dSh_setPart_0 rfl ?_
  refine zv_get (pc := 1) C dSh_setPart_1 fSh_9 (by first | assumption | exact zu_s | (refine (zu_n (by assumption)).trans ?_; first | assumption | exact zu_s)) rfl ?_
  refine zv_iload_n (pc := 4) C dSh_setPart_4 rfl ?_
  refine zv_iconst (pc := 5) (v := 4) C dSh_setPart_5 (by decide) ?_
  refine zv_imul (pc := 6) C dSh_setPart_6 ?_
  refine zv_iload_n (pc := 7) C dSh_setPart_7 rfl ?_
  refine zv_iadd (pc := 8) C dSh_setPart_8 ?_
  refine zv_topi (zn_ix4 k r) ?_
  refine zv_iload_n (pc := 9) C dSh_setPart_9 rfl ?_
  refine zn_iast (pc := 10) C dSh_setPart_10 (by first | assumption | exact zu_s | (refine (zu_n (by assumption)).trans ?_; first | assumption | exact zu_s)) (by omega) (by omega) ?_
  exact zv_vret (pc := 11) C hr dSh_setPart_11 (Nat.le_of_ble_eq_true rfl) (Nat.le_of_ble_eq_true rfl) (by exact ⟨rfl, rfl⟩)
set_option maxHeartbeats 4000000 in
set_option maxRecDepth 100000 in
theorem cSh_setCost {O : zO} {l : Launch} (hk : zK O l) (G : zG) (a0 k : Nat) {p1 p2 : Nat} {fq : Nat → Int32} (x : Int32) (hS : G a0 = some (oSh p1 p2)) (hp : G p2 = some (zI O 6 fq)) (hk6 : k < 6) : zM O l ySh_setCost [Cond.code ySh_setCost bSh_setCost 3 none] rmSh_setCost [.ref a0, .int (nI k), .int x] G 0 0 (zWr none (zu G p2 (zI O 6 (upd fq k x)))) zNo := by
  refine zm_of hk (by decide) (Nat.le_of_ble_eq_true rfl) ?_
  intro p e s m below meth c C hex hr hnm
  refine zv_aload_n (pc := 0) C dSh_setCost_0 rfl ?_
  refine zv_get (pc := 1) C dSh_setCost_1 fSh_15 (by first | assumption | exact zu_s | (refine (zu_n (by assumption)).trans ?_; first | assumption | exact zu_s)) rfl ?_
  refine zv_iload_n (pc := 4) C dSh_setCost_4 rfl ?_
  refine zv_iload_n (pc := 5) C dSh_setCost_5 rfl ?_
  refine zn_iast (pc := 6) C dSh_setCost_6 (by first | assumption | exact zu_s | (refine (zu_n (by assumption)).trans ?_; first | assumption | exact zu_s)) (by omega) (by omega) ?_
  exact zv_vret (pc := 7) C hr dSh_setCost_7 (Nat.le_of_ble_eq_true rfl) (Nat.le_of_ble_eq_true rfl) (by exact ⟨rfl, rfl⟩)
set_option maxHeartbeats 4000000 in
set_option maxRecDepth 100000 in
theorem cBk_takeHeldOut {O : zO} {l : Launch} (hk : zK O l) (G : zG) (a0 n h : Nat) {b1 b2 b3 b4 b5 : Nat} (hB : G a0 = some (oBk b1 b2 b3 b4 b5 (nI n) (nI h))) (hle : h ≤ n) : zM O l yBk_takeHeldOut [Cond.code yBk_takeHeldOut bBk_takeHeldOut 1 none] rmBk_takeHeldOut [.ref a0] G 0 0 (zWr none (zu (zu G a0 (oBk b1 b2 b3 b4 b5 (nI (n - h)) (nI h))) a0 (oBk b1 b2 b3 b4 b5 (nI (n - h)) 0))) zNo := by
  refine zm_of hk (by decide) (Nat.le_of_ble_eq_true rfl) ?_
  intro p e s m below meth c C hex hr hnm
  refine zv_aload_n (pc := 0) C dBk_takeHeldOut_0 rfl ?_
  refine zv_dup (pc := 1) C dBk_takeHeldOut_1 rfl ?_
  refine zv_get (pc := 2) C dBk_takeHeldOut_2 fBk_28 (by first | assumption | exact zu_s | (refine (zu_n (by assumption)).trans ?_; first | assumption | exact zu_s)) rfl ?_
  refine zv_aload_n (pc := 5) C dBk_takeHeldOut_5 rfl ?_
  refine zv_get (pc := 6) C dBk_takeHeldOut_6 fBk_32 (by first | assumption | exact zu_s | (refine (zu_n (by assumption)).trans ?_; first | assumption | exact zu_s)) rfl ?_
  refine zv_isub (pc := 9) C dBk_takeHeldOut_9 ?_
  refine zv_topi (pk_sub hle) ?_
  refine zv_put (pc := 10) C dBk_takeHeldOut_10 fBk_28 ⟨tkBk, nmBk⟩ (by first | assumption | exact zu_s | (refine (zu_n (by assumption)).trans ?_; first | assumption | exact zu_s)) rfl (tkBk 5 (by decide)) rfl rfl (Nat.le_of_ble_eq_true rfl) ?_
  refine zv_aload_n (pc := 13) C dBk_takeHeldOut_13 rfl ?_
  refine zv_iconst (pc := 14) (v := 0) C dBk_takeHeldOut_14 (by decide) ?_
  refine zv_put (pc := 15) C dBk_takeHeldOut_15 fBk_32 ⟨tkBk, nmBk⟩ (by first | assumption | exact zu_s | (refine (zu_n (by assumption)).trans ?_; first | assumption | exact zu_s)) rfl (tkBk 6 (by decide)) (by first | rfl | assumption | exact zb_nar _) (by first | rfl | assumption | decide +kernel) (Nat.le_of_ble_eq_true rfl) ?_
  exact zv_vret (pc := 18) C hr dBk_takeHeldOut_18 (Nat.le_of_ble_eq_true rfl) (Nat.le_of_ble_eq_true rfl) (by exact ⟨rfl, rfl⟩)
set_option maxHeartbeats 4000000 in
set_option maxRecDepth 100000 in
theorem cBk_settleHeld {O : zO} {l : Launch} (hk : zK O l) (G : zG) (a0 n h : Nat) {b1 b2 b3 b4 b5 : Nat} (hB : G a0 = some (oBk b1 b2 b3 b4 b5 (nI n) (nI h))) : zM O l yBk_settleHeld [Cond.code yBk_settleHeld bBk_settleHeld 1 none] rmBk_settleHeld [.ref a0] G 0 0 (zWr none (zu G a0 (oBk b1 b2 b3 b4 b5 (nI n) 0))) zNo := by
  refine zm_of hk (by decide) (Nat.le_of_ble_eq_true rfl) ?_
  intro p e s m below meth c C hex hr hnm
  refine zv_aload_n (pc := 0) C dBk_settleHeld_0 rfl ?_
  refine zv_iconst (pc := 1) (v := 0) C dBk_settleHeld_1 (by decide) ?_
  refine zv_put (pc := 2) C dBk_settleHeld_2 fBk_32 ⟨tkBk, nmBk⟩ (by first | assumption | exact zu_s | (refine (zu_n (by assumption)).trans ?_; first | assumption | exact zu_s)) rfl (tkBk 6 (by decide)) (by first | rfl | assumption | exact zb_nar _) (by first | rfl | assumption | decide +kernel) (Nat.le_of_ble_eq_true rfl) ?_
  exact zv_vret (pc := 5) C hr dBk_settleHeld_5 (Nat.le_of_ble_eq_true rfl) (Nat.le_of_ble_eq_true rfl) (by exact ⟨rfl, rfl⟩)
set_option maxHeartbeats 4000000 in
set_option maxRecDepth 100000 in
theorem cBa_take {O : zO} {l : Launch} (hk : zK O l) (G : zG) (a0 n : Nat) {vd kd rv : Int32} {aa ac : Nat} {sa rb tf : Int32} {fa : Nat → Int32} {fc : Nat → Int64} (x : Int32) (z : Int64) (hB : G a0 = some (oBa vd kd rv aa ac (nI n) sa rb tf)) (ha : G aa = some (zI O 20 fa)) (hc : G ac = some (zJ O 20 fc)) (hn : n < 20) : zM O l yBa_take [Cond.code yBa_take bBa_take 4 (some .boolean)] rmBa_take [.ref a0, .int x, .long z] G 0 0 (zWr (some (.int 1)) (zu (zu (zu G aa (zI O 20 (upd fa n x))) ac (zJ O 20 (vp_updL fc n z))) a0 (oBa vd kd rv aa ac (nI (n + 1)) sa rb tf))) zNo := by
  refine zm_of hk (by decide) (Nat.le_of_ble_eq_true rfl) ?_
  intro p e s m below meth c C hex hr hnm
  have n1 : a0 ≠ aa := zd_ne hB ha (by simp [zI])
  have n2 : a0 ≠ ac := zd_ne hB hc (by simp [zJ])
  have n3 : aa ≠ ac := zd_ne ha hc (by simp [zI, zJ])
  have n1' := Ne.symm n1
  have n2' := Ne.symm n2
  have n3' := Ne.symm n3
  refine zv_aload_n (pc := 0) C dBa_take_0 rfl ?_
  refine zv_get (pc := 1) C dBa_take_1 fBa_19 (by first | assumption | exact zu_s | (refine (zu_n (by assumption)).trans ?_; first | assumption | exact zu_s | (refine (zu_n (by assumption)).trans ?_; first | assumption | exact zu_s | (refine (zu_n (by assumption)).trans ?_; first | assumption | exact zu_s)))) rfl ?_
  refine zv_bipush (pc := 4) (v := 20) C dBa_take_4 (by decide) ?_
  refine zv_icmp_lt (pc := 6) (tgt := 11) C dBa_take_6 (by decide) (fun c6 => ?_) (fun c6 => absurd (nI_lt (b := 20) hn (by omega)) c6)
  refine zv_aload_n (pc := 11) C dBa_take_11 rfl ?_
  refine zv_get (pc := 12) C dBa_take_12 fBa_9 (by first | assumption | exact zu_s | (refine (zu_n (by assumption)).trans ?_; first | assumption | exact zu_s | (refine (zu_n (by assumption)).trans ?_; first | assumption | exact zu_s | (refine (zu_n (by assumption)).trans ?_; first | assumption | exact zu_s)))) rfl ?_
  refine zv_aload_n (pc := 15) C dBa_take_15 rfl ?_
  refine zv_get (pc := 16) C dBa_take_16 fBa_19 (by first | assumption | exact zu_s | (refine (zu_n (by assumption)).trans ?_; first | assumption | exact zu_s | (refine (zu_n (by assumption)).trans ?_; first | assumption | exact zu_s | (refine (zu_n (by assumption)).trans ?_; first | assumption | exact zu_s)))) rfl ?_
  refine zv_iload_n (pc := 19) C dBa_take_19 rfl ?_
  refine zn_iast (pc := 20) C dBa_take_20 (by first | assumption | exact zu_s | (refine (zu_n (by assumption)).trans ?_; first | assumption | exact zu_s | (refine (zu_n (by assumption)).trans ?_; first | assumption | exact zu_s | (refine (zu_n (by assumption)).trans ?_; first | assumption | exact zu_s)))) (by omega) (by omega) ?_
  refine zv_aload_n (pc := 21) C dBa_take_21 rfl ?_
  refine zv_get (pc := 22) C dBa_take_22 fBa_15 (by first | assumption | exact zu_s | (refine (zu_n (by assumption)).trans ?_; first | assumption | exact zu_s | (refine (zu_n (by assumption)).trans ?_; first | assumption | exact zu_s | (refine (zu_n (by assumption)).trans ?_; first | assumption | exact zu_s)))) rfl ?_
  refine zv_aload_n (pc := 25) C dBa_take_25 rfl ?_
  refine zv_get (pc := 26) C dBa_take_26 fBa_19 (by first | assumption | exact zu_s | (refine (zu_n (by assumption)).trans ?_; first | assumption | exact zu_s | (refine (zu_n (by assumption)).trans ?_; first | assumption | exact zu_s | (refine (zu_n (by assumption)).trans ?_; first | assumption | exact zu_s)))) rfl ?_
  refine zv_lload_n (pc := 29) C dBa_take_29 rfl ?_
  refine zn_last (pc := 30) C dBa_take_30 (by first | assumption | exact zu_s | (refine (zu_n (by assumption)).trans ?_; first | assumption | exact zu_s | (refine (zu_n (by assumption)).trans ?_; first | assumption | exact zu_s | (refine (zu_n (by assumption)).trans ?_; first | assumption | exact zu_s)))) (by omega) (by omega) ?_
  refine zv_aload_n (pc := 31) C dBa_take_31 rfl ?_
  refine zv_dup (pc := 32) C dBa_take_32 rfl ?_
  refine zv_get (pc := 33) C dBa_take_33 fBa_19 (by first | assumption | exact zu_s | (refine (zu_n (by assumption)).trans ?_; first | assumption | exact zu_s | (refine (zu_n (by assumption)).trans ?_; first | assumption | exact zu_s | (refine (zu_n (by assumption)).trans ?_; first | assumption | exact zu_s)))) rfl ?_
  refine zv_iconst (pc := 36) (v := 1) C dBa_take_36 (by decide) ?_
  refine zv_iadd (pc := 37) C dBa_take_37 ?_
  refine zv_topi (nI_1 n) ?_
  refine zv_put (pc := 38) C dBa_take_38 fBa_19 ⟨tkBa, nmBa⟩ (by first | assumption | exact zu_s | (refine (zu_n (by assumption)).trans ?_; first | assumption | exact zu_s | (refine (zu_n (by assumption)).trans ?_; first | assumption | exact zu_s | (refine (zu_n (by assumption)).trans ?_; first | assumption | exact zu_s)))) rfl (tkBa 5 (by decide)) rfl rfl (Nat.le_of_ble_eq_true rfl) ?_
  refine zv_iconst (pc := 41) (v := 1) C dBa_take_41 (by decide) ?_
  exact zv_zret (pc := 42) C hr (by first | rfl | exact zb_nar _) dBa_take_42 (Nat.le_of_ble_eq_true rfl) (Nat.le_of_ble_eq_true rfl) (by exact ⟨rfl, rfl⟩)
set_option maxHeartbeats 4000000 in
set_option maxRecDepth 100000 in
theorem cBa_takeF {O : zO} {l : Launch} (hk : zK O l) (G : zG) (a0 n : Nat) {vd kd rv : Int32} {aa ac : Nat} {sa rb tf : Int32} {fa : Nat → Int32} {fc : Nat → Int64} (x : Int32) (z : Int64) (hB : G a0 = some (oBa vd kd rv aa ac (nI n) sa rb tf)) (ha : G aa = some (zI O 20 fa)) (hc : G ac = some (zJ O 20 fc)) (hn : n = 20) : zM O l yBa_take [Cond.code yBa_take bBa_take 4 (some .boolean)] rmBa_take [.ref a0, .int x, .long z] G 0 0 (zPr (.int 0) G) zNo := by
  refine zm_of hk (by decide) (Nat.le_of_ble_eq_true rfl) ?_
  intro p e s m below meth c C hex hr hnm
  refine zv_aload_n (pc := 0) C dBa_take_0 rfl ?_
  refine zv_get (pc := 1) C dBa_take_1 fBa_19 (by first | assumption | exact zu_s | (refine (zu_n (by assumption)).trans ?_; first | assumption | exact zu_s)) rfl ?_
  refine zv_bipush (pc := 4) (v := 20) C dBa_take_4 (by decide) ?_
  refine zv_icmp_lt (pc := 6) (tgt := 11) C dBa_take_6 (by decide) (fun c6 => absurd c6 (nI_nlt (b := 20) (by omega) (by omega))) (fun c6 => ?_)
  refine zv_iconst (pc := 9) (v := 0) C dBa_take_9 (by decide) ?_
  exact zv_zret (pc := 10) C hr (by first | rfl | exact zb_nar _) dBa_take_10 (Nat.le_of_ble_eq_true rfl) (Nat.le_of_ble_eq_true rfl) (by exact ⟨rfl, rfl⟩)
/-- two arrays have come, and the object a0 is e0 now -/
def zBaN (O : zO) (G G' : zG) (a0 : Nat) (vd kd rv : Int32) : Prop := ∃ aa ac : Nat, G aa = none ∧ G ac = none ∧ aa ≠ ac ∧ G' a0 = some (oBa vd kd rv aa ac 0 0 (-1) 0) ∧ G' aa = some (zI O 20 (fun _ => 0)) ∧ G' ac = some (zJ O 20 (fun _ => 0)) ∧ ∀ q, q ≠ a0 → q ≠ aa → q ≠ ac → G' q = G q
set_option maxHeartbeats 4000000 in
set_option maxRecDepth 100000 in
theorem cBa_init {O : zO} {l : Launch} (hk : zK O l) (G : zG) (a0 : Nat) (vd kd rv : Int32) (hB : G a0 = some (.inr (0, [.int 0, .int 0, .int 0, .null, .null, .int 0, .int 0, .int 0, .int 0]))) : zM O l yBa_init [Cond.code yBa_init bBa_init 4 none] rmBa_init [.ref a0, .int vd, .int kd, .int rv] G 2 40 (fun v G' => v = none ∧ zBaN O G G' a0 vd kd rv) zNo := by
  refine zm_of hk (by decide) (Nat.le_of_ble_eq_true rfl) ?_
  intro p e s m below meth c C hex hr hnm
  refine zv_aload_n (pc := 0) C dBa_init_0 rfl ?_
  refine zv_objInit (pc := 1) C dBa_init_1 zw_305 zw_47 zw_48 (Nat.le_of_ble_eq_true rfl) (Nat.le_of_ble_eq_true rfl) ?_
  refine zv_aload_n (pc := 4) C dBa_init_4 rfl ?_
  refine zv_bipush (pc := 5) (v := 20) C dBa_init_5 (by decide) ?_
  refine zv_newI (pc := 7) C 20 dBa_init_7 zw_86 (by decide) (by decide) (by decide) (Nat.le_of_ble_eq_true rfl) (Nat.le_of_ble_eq_true rfl) (fun q7 h7 => ?_)
  have n7_a0 : q7 ≠ a0 := zu_fresh h7 (by first | assumption | exact zu_s | (refine (zu_n (by assumption)).trans ?_; first | assumption | exact zu_s | (refine (zu_n (by assumption)).trans ?_; first | assumption | exact zu_s | (refine (zu_n (by assumption)).trans ?_; first | assumption | exact zu_s | (refine (zu_n (by assumption)).trans ?_; first | assumption | exact zu_s | (refine (zu_n (by assumption)).trans ?_; first | assumption | exact zu_s | (refine (zu_n (by assumption)).trans ?_; first | assumption | exact zu_s | (refine (zu_n (by assumption)).trans ?_; first | assumption | exact zu_s | (refine (zu_n (by assumption)).trans ?_; first | assumption | exact zu_s | (refine (zu_n (by assumption)).trans ?_; first | assumption | exact zu_s | (refine (zu_n (by assumption)).trans ?_; first | assumption | exact zu_s | (refine (zu_n (by assumption)).trans ?_; first | assumption | exact zu_s | (refine (zu_n (by assumption)).trans ?_; first | assumption | exact zu_s)))))))))))))
  have n7_a0' := Ne.symm n7_a0
  refine zv_putF (pc := 9) C dBa_init_9 fBa_9 ⟨tkBa, nmBa⟩ hnm (by first | assumption | exact zu_s | (refine (zu_n (by assumption)).trans ?_; first | assumption | exact zu_s | (refine (zu_n (by assumption)).trans ?_; first | assumption | exact zu_s | (refine (zu_n (by assumption)).trans ?_; first | assumption | exact zu_s | (refine (zu_n (by assumption)).trans ?_; first | assumption | exact zu_s | (refine (zu_n (by assumption)).trans ?_; first | assumption | exact zu_s | (refine (zu_n (by assumption)).trans ?_; first | assumption | exact zu_s | (refine (zu_n (by assumption)).trans ?_; first | assumption | exact zu_s | (refine (zu_n (by assumption)).trans ?_; first | assumption | exact zu_s | (refine (zu_n (by assumption)).trans ?_; first | assumption | exact zu_s | (refine (zu_n (by assumption)).trans ?_; first | assumption | exact zu_s | (refine (zu_n (by assumption)).trans ?_; first | assumption | exact zu_s | (refine (zu_n (by assumption)).trans ?_; first | assumption | exact zu_s))))))))))))) rfl rfl (tkBa 3 (by decide)) (by first | rfl | assumption | exact zb_nar _) (by first | rfl | assumption | decide +kernel) (Nat.le_of_ble_eq_true rfl) ?_
  refine zv_aload_n (pc := 12) C dBa_init_12 rfl ?_
  refine zv_bipush (pc := 13) (v := 20) C dBa_init_13 (by decide) ?_
  refine zv_newJ (pc := 15) C 20 dBa_init_15 zw_87 (by decide) (by decide) (by decide) (Nat.le_of_ble_eq_true rfl) (Nat.le_of_ble_eq_true rfl) (fun q15 h15 => ?_)
  have n15_a0 : q15 ≠ a0 := zu_fresh h15 (by first | assumption | exact zu_s | (refine (zu_n (by assumption)).trans ?_; first | assumption | exact zu_s | (refine (zu_n (by assumption)).trans ?_; first | assumption | exact zu_s | (refine (zu_n (by assumption)).trans ?_; first | assumption | exact zu_s | (refine (zu_n (by assumption)).trans ?_; first | assumption | exact zu_s | (refine (zu_n (by assumption)).trans ?_; first | assumption | exact zu_s | (refine (zu_n (by assumption)).trans ?_; first | assumption | exact zu_s | (refine (zu_n (by assumption)).trans ?_; first | assumption | exact zu_s | (refine (zu_n (by assumption)).trans ?_; first | assumption | exact zu_s | (refine (zu_n (by assumption)).trans ?_; first | assumption | exact zu_s | (refine (zu_n (by assumption)).trans ?_; first | assumption | exact zu_s | (refine (zu_n (by assumption)).trans ?_; first | assumption | exact zu_s | (refine (zu_n (by assumption)).trans ?_; first | assumption | exact zu_s)))))))))))))
  have n15_a0' := Ne.symm n15_a0
  have n15_q7 : q15 ≠ q7 := zu_fresh h15 (by first | assumption | exact zu_s | (refine (zu_n (by assumption)).trans ?_; first | assumption | exact zu_s | (refine (zu_n (by assumption)).trans ?_; first | assumption | exact zu_s | (refine (zu_n (by assumption)).trans ?_; first | assumption | exact zu_s | (refine (zu_n (by assumption)).trans ?_; first | assumption | exact zu_s | (refine (zu_n (by assumption)).trans ?_; first | assumption | exact zu_s | (refine (zu_n (by assumption)).trans ?_; first | assumption | exact zu_s | (refine (zu_n (by assumption)).trans ?_; first | assumption | exact zu_s | (refine (zu_n (by assumption)).trans ?_; first | assumption | exact zu_s | (refine (zu_n (by assumption)).trans ?_; first | assumption | exact zu_s | (refine (zu_n (by assumption)).trans ?_; first | assumption | exact zu_s | (refine (zu_n (by assumption)).trans ?_; first | assumption | exact zu_s | (refine (zu_n (by assumption)).trans ?_; first | assumption | exact zu_s)))))))))))))
  have n15_q7' := Ne.symm n15_q7
  refine zv_putF (pc := 17) C dBa_init_17 fBa_15 ⟨tkBa, nmBa⟩ hnm (by first | assumption | exact zu_s | (refine (zu_n (by assumption)).trans ?_; first | assumption | exact zu_s | (refine (zu_n (by assumption)).trans ?_; first | assumption | exact zu_s | (refine (zu_n (by assumption)).trans ?_; first | assumption | exact zu_s | (refine (zu_n (by assumption)).trans ?_; first | assumption | exact zu_s | (refine (zu_n (by assumption)).trans ?_; first | assumption | exact zu_s | (refine (zu_n (by assumption)).trans ?_; first | assumption | exact zu_s | (refine (zu_n (by assumption)).trans ?_; first | assumption | exact zu_s | (refine (zu_n (by assumption)).trans ?_; first | assumption | exact zu_s | (refine (zu_n (by assumption)).trans ?_; first | assumption | exact zu_s | (refine (zu_n (by assumption)).trans ?_; first | assumption | exact zu_s | (refine (zu_n (by assumption)).trans ?_; first | assumption | exact zu_s | (refine (zu_n (by assumption)).trans ?_; first | assumption | exact zu_s))))))))))))) rfl rfl (tkBa 4 (by decide)) (by first | rfl | assumption | exact zb_nar _) (by first | rfl | assumption | decide +kernel) (Nat.le_of_ble_eq_true rfl) ?_
  refine zv_aload_n (pc := 20) C dBa_init_20 rfl ?_
  refine zv_iconst (pc := 21) (v := 0) C dBa_init_21 (by decide) ?_
  refine zv_put (pc := 22) C dBa_init_22 fBa_19 ⟨tkBa, nmBa⟩ (by first | assumption | exact zu_s | (refine (zu_n (by assumption)).trans ?_; first | assumption | exact zu_s | (refine (zu_n (by assumption)).trans ?_; first | assumption | exact zu_s | (refine (zu_n (by assumption)).trans ?_; first | assumption | exact zu_s | (refine (zu_n (by assumption)).trans ?_; first | assumption | exact zu_s | (refine (zu_n (by assumption)).trans ?_; first | assumption | exact zu_s | (refine (zu_n (by assumption)).trans ?_; first | assumption | exact zu_s | (refine (zu_n (by assumption)).trans ?_; first | assumption | exact zu_s | (refine (zu_n (by assumption)).trans ?_; first | assumption | exact zu_s | (refine (zu_n (by assumption)).trans ?_; first | assumption | exact zu_s | (refine (zu_n (by assumption)).trans ?_; first | assumption | exact zu_s | (refine (zu_n (by assumption)).trans ?_; first | assumption | exact zu_s | (refine (zu_n (by assumption)).trans ?_; first | assumption | exact zu_s))))))))))))) rfl (tkBa 5 (by decide)) (by first | rfl | assumption | exact zb_nar _) (by first | rfl | assumption | decide +kernel) (Nat.le_of_ble_eq_true rfl) ?_
  refine zv_aload_n (pc := 25) C dBa_init_25 rfl ?_
  refine zv_iconst (pc := 26) (v := 0) C dBa_init_26 (by decide) ?_
  refine zv_put (pc := 27) C dBa_init_27 fBa_23 ⟨tkBa, nmBa⟩ (by first | assumption | exact zu_s | (refine (zu_n (by assumption)).trans ?_; first | assumption | exact zu_s | (refine (zu_n (by assumption)).trans ?_; first | assumption | exact zu_s | (refine (zu_n (by assumption)).trans ?_; first | assumption | exact zu_s | (refine (zu_n (by assumption)).trans ?_; first | assumption | exact zu_s | (refine (zu_n (by assumption)).trans ?_; first | assumption | exact zu_s | (refine (zu_n (by assumption)).trans ?_; first | assumption | exact zu_s | (refine (zu_n (by assumption)).trans ?_; first | assumption | exact zu_s | (refine (zu_n (by assumption)).trans ?_; first | assumption | exact zu_s | (refine (zu_n (by assumption)).trans ?_; first | assumption | exact zu_s | (refine (zu_n (by assumption)).trans ?_; first | assumption | exact zu_s | (refine (zu_n (by assumption)).trans ?_; first | assumption | exact zu_s | (refine (zu_n (by assumption)).trans ?_; first | assumption | exact zu_s))))))))))))) rfl (tkBa 6 (by decide)) (by first | rfl | assumption | exact zb_nar _) (by first | rfl | assumption | decide +kernel) (Nat.le_of_ble_eq_true rfl) ?_
  refine zv_aload_n (pc := 30) C dBa_init_30 rfl ?_
  refine zv_iconst (pc := 31) (v := -1) C dBa_init_31 (by decide) ?_
  refine zv_put (pc := 32) C dBa_init_32 fBa_26 ⟨tkBa, nmBa⟩ (by first | assumption | exact zu_s | (refine (zu_n (by assumption)).trans ?_; first | assumption | exact zu_s | (refine (zu_n (by assumption)).trans ?_; first | assumption | exact zu_s | (refine (zu_n (by assumption)).trans ?_; first | assumption | exact zu_s | (refine (zu_n (by assumption)).trans ?_; first | assumption | exact zu_s | (refine (zu_n (by assumption)).trans ?_; first | assumption | exact zu_s | (refine (zu_n (by assumption)).trans ?_; first | assumption | exact zu_s | (refine (zu_n (by assumption)).trans ?_; first | assumption | exact zu_s | (refine (zu_n (by assumption)).trans ?_; first | assumption | exact zu_s | (refine (zu_n (by assumption)).trans ?_; first | assumption | exact zu_s | (refine (zu_n (by assumption)).trans ?_; first | assumption | exact zu_s | (refine (zu_n (by assumption)).trans ?_; first | assumption | exact zu_s | (refine (zu_n (by assumption)).trans ?_; first | assumption | exact zu_s))))))))))))) rfl (tkBa 7 (by decide)) (by first | rfl | assumption | exact zb_nar _) (by first | rfl | assumption | decide +kernel) (Nat.le_of_ble_eq_true rfl) ?_
  refine zv_aload_n (pc := 35) C dBa_init_35 rfl ?_
  refine zv_iconst (pc := 36) (v := 0) C dBa_init_36 (by decide) ?_
  refine zv_put (pc := 37) C dBa_init_37 fBa_29 ⟨tkBa, nmBa⟩ (by first | assumption | exact zu_s | (refine (zu_n (by assumption)).trans ?_; first | assumption | exact zu_s | (refine (zu_n (by assumption)).trans ?_; first | assumption | exact zu_s | (refine (zu_n (by assumption)).trans ?_; first | assumption | exact zu_s | (refine (zu_n (by assumption)).trans ?_; first | assumption | exact zu_s | (refine (zu_n (by assumption)).trans ?_; first | assumption | exact zu_s | (refine (zu_n (by assumption)).trans ?_; first | assumption | exact zu_s | (refine (zu_n (by assumption)).trans ?_; first | assumption | exact zu_s | (refine (zu_n (by assumption)).trans ?_; first | assumption | exact zu_s | (refine (zu_n (by assumption)).trans ?_; first | assumption | exact zu_s | (refine (zu_n (by assumption)).trans ?_; first | assumption | exact zu_s | (refine (zu_n (by assumption)).trans ?_; first | assumption | exact zu_s | (refine (zu_n (by assumption)).trans ?_; first | assumption | exact zu_s))))))))))))) rfl (tkBa 8 (by decide)) (by first | rfl | assumption | exact zb_nar _) (by first | rfl | assumption | decide +kernel) (Nat.le_of_ble_eq_true rfl) ?_
  refine zv_aload_n (pc := 40) C dBa_init_40 rfl ?_
  refine zv_iload_n (pc := 41) C dBa_init_41 rfl ?_
  refine zv_putF (pc := 42) C dBa_init_42 fBa_33 ⟨tkBa, nmBa⟩ hnm (by first | assumption | exact zu_s | (refine (zu_n (by assumption)).trans ?_; first | assumption | exact zu_s | (refine (zu_n (by assumption)).trans ?_; first | assumption | exact zu_s | (refine (zu_n (by assumption)).trans ?_; first | assumption | exact zu_s | (refine (zu_n (by assumption)).trans ?_; first | assumption | exact zu_s | (refine (zu_n (by assumption)).trans ?_; first | assumption | exact zu_s | (refine (zu_n (by assumption)).trans ?_; first | assumption | exact zu_s | (refine (zu_n (by assumption)).trans ?_; first | assumption | exact zu_s | (refine (zu_n (by assumption)).trans ?_; first | assumption | exact zu_s | (refine (zu_n (by assumption)).trans ?_; first | assumption | exact zu_s | (refine (zu_n (by assumption)).trans ?_; first | assumption | exact zu_s | (refine (zu_n (by assumption)).trans ?_; first | assumption | exact zu_s | (refine (zu_n (by assumption)).trans ?_; first | assumption | exact zu_s))))))))))))) rfl rfl (tkBa 0 (by decide)) (by first | rfl | assumption | exact zb_nar _) (by first | rfl | assumption | decide +kernel) (Nat.le_of_ble_eq_true rfl) ?_
  refine zv_aload_n (pc := 45) C dBa_init_45 rfl ?_
  refine zv_iload_n (pc := 46) C dBa_init_46 rfl ?_
  refine zv_putF (pc := 47) C dBa_init_47 fBa_36 ⟨tkBa, nmBa⟩ hnm (by first | assumption | exact zu_s | (refine (zu_n (by assumption)).trans ?_; first | assumption | exact zu_s | (refine (zu_n (by assumption)).trans ?_; first | assumption | exact zu_s | (refine (zu_n (by assumption)).trans ?_; first | assumption | exact zu_s | (refine (zu_n (by assumption)).trans ?_; first | assumption | exact zu_s | (refine (zu_n (by assumption)).trans ?_; first | assumption | exact zu_s | (refine (zu_n (by assumption)).trans ?_; first | assumption | exact zu_s | (refine (zu_n (by assumption)).trans ?_; first | assumption | exact zu_s | (refine (zu_n (by assumption)).trans ?_; first | assumption | exact zu_s | (refine (zu_n (by assumption)).trans ?_; first | assumption | exact zu_s | (refine (zu_n (by assumption)).trans ?_; first | assumption | exact zu_s | (refine (zu_n (by assumption)).trans ?_; first | assumption | exact zu_s | (refine (zu_n (by assumption)).trans ?_; first | assumption | exact zu_s))))))))))))) rfl rfl (tkBa 1 (by decide)) (by first | rfl | assumption | exact zb_nar _) (by first | rfl | assumption | decide +kernel) (Nat.le_of_ble_eq_true rfl) ?_
  refine zv_aload_n (pc := 50) C dBa_init_50 rfl ?_
  refine zv_iload_n (pc := 51) C dBa_init_51 rfl ?_
  refine zv_putF (pc := 52) C dBa_init_52 fBa_39 ⟨tkBa, nmBa⟩ hnm (by first | assumption | exact zu_s | (refine (zu_n (by assumption)).trans ?_; first | assumption | exact zu_s | (refine (zu_n (by assumption)).trans ?_; first | assumption | exact zu_s | (refine (zu_n (by assumption)).trans ?_; first | assumption | exact zu_s | (refine (zu_n (by assumption)).trans ?_; first | assumption | exact zu_s | (refine (zu_n (by assumption)).trans ?_; first | assumption | exact zu_s | (refine (zu_n (by assumption)).trans ?_; first | assumption | exact zu_s | (refine (zu_n (by assumption)).trans ?_; first | assumption | exact zu_s | (refine (zu_n (by assumption)).trans ?_; first | assumption | exact zu_s | (refine (zu_n (by assumption)).trans ?_; first | assumption | exact zu_s | (refine (zu_n (by assumption)).trans ?_; first | assumption | exact zu_s | (refine (zu_n (by assumption)).trans ?_; first | assumption | exact zu_s | (refine (zu_n (by assumption)).trans ?_; first | assumption | exact zu_s))))))))))))) rfl rfl (tkBa 2 (by decide)) (by first | rfl | assumption | exact zb_nar _) (by first | rfl | assumption | decide +kernel) (Nat.le_of_ble_eq_true rfl) ?_
  exact zv_vret (pc := 55) C hr dBa_init_55 (Nat.le_of_ble_eq_true rfl) (Nat.le_of_ble_eq_true rfl) (by exact ⟨rfl, q7, q15, h7, (zu_n n15_q7).symm.trans ((zu_n n15_a0).symm.trans h15) , n15_q7', (by first | assumption | exact zu_s | (refine (zu_n (by assumption)).trans ?_; first | assumption | exact zu_s | (refine (zu_n (by assumption)).trans ?_; first | assumption | exact zu_s | (refine (zu_n (by assumption)).trans ?_; first | assumption | exact zu_s | (refine (zu_n (by assumption)).trans ?_; first | assumption | exact zu_s | (refine (zu_n (by assumption)).trans ?_; first | assumption | exact zu_s | (refine (zu_n (by assumption)).trans ?_; first | assumption | exact zu_s | (refine (zu_n (by assumption)).trans ?_; first | assumption | exact zu_s | (refine (zu_n (by assumption)).trans ?_; first | assumption | exact zu_s | (refine (zu_n (by assumption)).trans ?_; first | assumption | exact zu_s | (refine (zu_n (by assumption)).trans ?_; first | assumption | exact zu_s | (refine (zu_n (by assumption)).trans ?_; first | assumption | exact zu_s | (refine (zu_n (by assumption)).trans ?_; first | assumption | exact zu_s))))))))))))), (by first | assumption | exact zu_s | (refine (zu_n (by assumption)).trans ?_; first | assumption | exact zu_s | (refine (zu_n (by assumption)).trans ?_; first | assumption | exact zu_s | (refine (zu_n (by assumption)).trans ?_; first | assumption | exact zu_s | (refine (zu_n (by assumption)).trans ?_; first | assumption | exact zu_s | (refine (zu_n (by assumption)).trans ?_; first | assumption | exact zu_s | (refine (zu_n (by assumption)).trans ?_; first | assumption | exact zu_s | (refine (zu_n (by assumption)).trans ?_; first | assumption | exact zu_s | (refine (zu_n (by assumption)).trans ?_; first | assumption | exact zu_s | (refine (zu_n (by assumption)).trans ?_; first | assumption | exact zu_s | (refine (zu_n (by assumption)).trans ?_; first | assumption | exact zu_s | (refine (zu_n (by assumption)).trans ?_; first | assumption | exact zu_s | (refine (zu_n (by assumption)).trans ?_; first | assumption | exact zu_s))))))))))))), (by first | assumption | exact zu_s | (refine (zu_n (by assumption)).trans ?_; first | assumption | exact zu_s | (refine (zu_n (by assumption)).trans ?_; first | assumption | exact zu_s | (refine (zu_n (by assumption)).trans ?_; first | assumption | exact zu_s | (refine (zu_n (by assumption)).trans ?_; first | assumption | exact zu_s | (refine (zu_n (by assumption)).trans ?_; first | assumption | exact zu_s | (refine (zu_n (by assumption)).trans ?_; first | assumption | exact zu_s | (refine (zu_n (by assumption)).trans ?_; first | assumption | exact zu_s | (refine (zu_n (by assumption)).trans ?_; first | assumption | exact zu_s | (refine (zu_n (by assumption)).trans ?_; first | assumption | exact zu_s | (refine (zu_n (by assumption)).trans ?_; first | assumption | exact zu_s | (refine (zu_n (by assumption)).trans ?_; first | assumption | exact zu_s | (refine (zu_n (by assumption)).trans ?_; first | assumption | exact zu_s))))))))))))), fun q g1 g2 g3 => by simp only [zu, if_neg g1, if_neg g2, if_neg g3]⟩)
end
section
theorem zu_none {G : zG} {a q : Nat} {e : va_E} (h : zu G a e q = none) : G q = none := by
  by_cases hq : q = a
  · rw [hq, zu_s] at h; cases h
  · rwa [zu_n hq] at h
/-- a new Book's arrays -/
def zBkN (O : zO) (G G' : zG) (a0 : Nat) : Prop := ∃ b1 b2 b3 b4 b5 : Nat, [b1, b2, b3, b4, b5].Nodup ∧ (∀ x ∈ [b1, b2, b3, b4, b5], G x = none) ∧ G' a0 = some (oBk b1 b2 b3 b4 b5 0 0) ∧ G' b1 = some (zI O 400 (fun _ => 0)) ∧ G' b2 = some (zI O 400 (fun _ => 0)) ∧ G' b3 = some (zJ O 400 (fun _ => 0)) ∧ G' b4 = some (zI O 400 (fun _ => 0)) ∧ G' b5 = some (zI O 400 (fun _ => 0)) ∧ ∀ q, q ≠ a0 → q ∉ [b1, b2, b3, b4, b5] → G' q = G q
def zShN (O : zO) (G G' : zG) (a0 : Nat) : Prop := ∃ p1 p2 : Nat, p1 ≠ p2 ∧ G p1 = none ∧ G p2 = none ∧ G' a0 = some (oSh p1 p2) ∧ G' p1 = some (zI O 24 (fun _ => 0)) ∧ G' p2 = some (zI O 6 (fun _ => 0)) ∧ ∀ q, q ≠ a0 → q ≠ p1 → q ≠ p2 → G' q = G q
set_option maxHeartbeats 4000000 in
set_option maxRecDepth 100000 in
theorem cBk_init {O : zO} {l : Launch} (hk : zK O l) (G : zG) (a0 : Nat) (hB : G a0 = some (.inr (1, [.null, .null, .null, .null, .null, .int 0, .int 0]))) : zM O l yBk_init [Cond.code yBk_init bBk_init 1 none] rmBk_init [.ref a0] G 5 2000 (fun v G' => v = none ∧ zBkN O G G' a0) zNo := by
  refine zm_of hk (by decide) (Nat.le_of_ble_eq_true rfl) ?_
  intro p e s m below meth c C hex hr hnm
  refine zv_aload_n (pc := 0) C dBk_init_0 rfl ?_
  refine zv_objInit (pc := 1) C dBk_init_1 zw_56 zw_47 zw_48 (Nat.le_of_ble_eq_true rfl) (Nat.le_of_ble_eq_true rfl) ?_
  refine zv_aload_n (pc := 4) C dBk_init_4 rfl ?_
  refine zv_sipush (pc := 5) (v := 400) C dBk_init_5 (by decide) ?_
  refine zv_newI (pc := 8) C 400 dBk_init_8 zw_86 (by decide) (by decide) (by decide) (Nat.le_of_ble_eq_true rfl) (Nat.le_of_ble_eq_true rfl) (fun q8 h8 => ?_)
  have n8_a0 : q8 ≠ a0 := zu_fresh h8 (by first | assumption | exact zu_s | (refine (zu_n (by assumption)).trans ?_; first | assumption | exact zu_s | (refine (zu_n (by assumption)).trans ?_; first | assumption | exact zu_s | (refine (zu_n (by assumption)).trans ?_; first | assumption | exact zu_s | (refine (zu_n (by assumption)).trans ?_; first | assumption | exact zu_s | (refine (zu_n (by assumption)).trans ?_; first | assumption | exact zu_s | (refine (zu_n (by assumption)).trans ?_; first | assumption | exact zu_s | (refine (zu_n (by assumption)).trans ?_; first | assumption | exact zu_s | (refine (zu_n (by assumption)).trans ?_; first | assumption | exact zu_s | (refine (zu_n (by assumption)).trans ?_; first | assumption | exact zu_s | (refine (zu_n (by assumption)).trans ?_; first | assumption | exact zu_s | (refine (zu_n (by assumption)).trans ?_; first | assumption | exact zu_s | (refine (zu_n (by assumption)).trans ?_; first | assumption | exact zu_s | (refine (zu_n (by assumption)).trans ?_; first | assumption | exact zu_s))))))))))))))
  have n8_a0' := Ne.symm n8_a0
  refine zv_putF (pc := 10) C dBk_init_10 fBk_9 ⟨tkBk, nmBk⟩ hnm (by first | assumption | exact zu_s | (refine (zu_n (by assumption)).trans ?_; first | assumption | exact zu_s | (refine (zu_n (by assumption)).trans ?_; first | assumption | exact zu_s | (refine (zu_n (by assumption)).trans ?_; first | assumption | exact zu_s | (refine (zu_n (by assumption)).trans ?_; first | assumption | exact zu_s | (refine (zu_n (by assumption)).trans ?_; first | assumption | exact zu_s | (refine (zu_n (by assumption)).trans ?_; first | assumption | exact zu_s | (refine (zu_n (by assumption)).trans ?_; first | assumption | exact zu_s | (refine (zu_n (by assumption)).trans ?_; first | assumption | exact zu_s | (refine (zu_n (by assumption)).trans ?_; first | assumption | exact zu_s | (refine (zu_n (by assumption)).trans ?_; first | assumption | exact zu_s | (refine (zu_n (by assumption)).trans ?_; first | assumption | exact zu_s | (refine (zu_n (by assumption)).trans ?_; first | assumption | exact zu_s | (refine (zu_n (by assumption)).trans ?_; first | assumption | exact zu_s)))))))))))))) rfl rfl (tkBk 0 (by decide)) (by first | rfl | assumption | exact zb_nar _) (by first | rfl | assumption | decide +kernel) (Nat.le_of_ble_eq_true rfl) ?_
  refine zv_aload_n (pc := 13) C dBk_init_13 rfl ?_
  refine zv_sipush (pc := 14) (v := 400) C dBk_init_14 (by decide) ?_
  refine zv_newI (pc := 17) C 400 dBk_init_17 zw_86 (by decide) (by decide) (by decide) (Nat.le_of_ble_eq_true rfl) (Nat.le_of_ble_eq_true rfl) (fun q17 h17 => ?_)
  have n17_a0 : q17 ≠ a0 := zu_fresh h17 (by first | assumption | exact zu_s | (refine (zu_n (by assumption)).trans ?_; first | assumption | exact zu_s | (refine (zu_n (by assumption)).trans ?_; first | assumption | exact zu_s | (refine (zu_n (by assumption)).trans ?_; first | assumption | exact zu_s | (refine (zu_n (by assumption)).trans ?_; first | assumption | exact zu_s | (refine (zu_n (by assumption)).trans ?_; first | assumption | exact zu_s | (refine (zu_n (by assumption)).trans ?_; first | assumption | exact zu_s | (refine (zu_n (by assumption)).trans ?_; first | assumption | exact zu_s | (refine (zu_n (by assumption)).trans ?_; first | assumption | exact zu_s | (refine (zu_n (by assumption)).trans ?_; first | assumption | exact zu_s | (refine (zu_n (by assumption)).trans ?_; first | assumption | exact zu_s | (refine (zu_n (by assumption)).trans ?_; first | assumption | exact zu_s | (refine (zu_n (by assumption)).trans ?_; first | assumption | exact zu_s | (refine (zu_n (by assumption)).trans ?_; first | assumption | exact zu_s))))))))))))))
  have n17_a0' := Ne.symm n17_a0
  have n17_q8 : q17 ≠ q8 := zu_fresh h17 (by first | assumption | exact zu_s | (refine (zu_n (by assumption)).trans ?_; first | assumption | exact zu_s | (refine (zu_n (by assumption)).trans ?_; first | assumption | exact zu_s | (refine (zu_n (by assumption)).trans ?_; first | assumption | exact zu_s | (refine (zu_n (by assumption)).trans ?_; first | assumption | exact zu_s | (refine (zu_n (by assumption)).trans ?_; first | assumption | exact zu_s | (refine (zu_n (by assumption)).trans ?_; first | assumption | exact zu_s | (refine (zu_n (by assumption)).trans ?_; first | assumption | exact zu_s | (refine (zu_n (by assumption)).trans ?_; first | assumption | exact zu_s | (refine (zu_n (by assumption)).trans ?_; first | assumption | exact zu_s | (refine (zu_n (by assumption)).trans ?_; first | assumption | exact zu_s | (refine (zu_n (by assumption)).trans ?_; first | assumption | exact zu_s | (refine (zu_n (by assumption)).trans ?_; first | assumption | exact zu_s | (refine (zu_n (by assumption)).trans ?_; first | assumption | exact zu_s))))))))))))))
  have n17_q8' := Ne.symm n17_q8
  refine zv_putF (pc := 19) C dBk_init_19 fBk_15 ⟨tkBk, nmBk⟩ hnm (by first | assumption | exact zu_s | (refine (zu_n (by assumption)).trans ?_; first | assumption | exact zu_s | (refine (zu_n (by assumption)).trans ?_; first | assumption | exact zu_s | (refine (zu_n (by assumption)).trans ?_; first | assumption | exact zu_s | (refine (zu_n (by assumption)).trans ?_; first | assumption | exact zu_s | (refine (zu_n (by assumption)).trans ?_; first | assumption | exact zu_s | (refine (zu_n (by assumption)).trans ?_; first | assumption | exact zu_s | (refine (zu_n (by assumption)).trans ?_; first | assumption | exact zu_s | (refine (zu_n (by assumption)).trans ?_; first | assumption | exact zu_s | (refine (zu_n (by assumption)).trans ?_; first | assumption | exact zu_s | (refine (zu_n (by assumption)).trans ?_; first | assumption | exact zu_s | (refine (zu_n (by assumption)).trans ?_; first | assumption | exact zu_s | (refine (zu_n (by assumption)).trans ?_; first | assumption | exact zu_s | (refine (zu_n (by assumption)).trans ?_; first | assumption | exact zu_s)))))))))))))) rfl rfl (tkBk 1 (by decide)) (by first | rfl | assumption | exact zb_nar _) (by first | rfl | assumption | decide +kernel) (Nat.le_of_ble_eq_true rfl) ?_
  refine zv_aload_n (pc := 22) C dBk_init_22 rfl ?_
  refine zv_sipush (pc := 23) (v := 400) C dBk_init_23 (by decide) ?_
  refine zv_newJ (pc := 26) C 400 dBk_init_26 zw_87 (by decide) (by decide) (by decide) (Nat.le_of_ble_eq_true rfl) (Nat.le_of_ble_eq_true rfl) (fun q26 h26 => ?_)
  have n26_a0 : q26 ≠ a0 := zu_fresh h26 (by first | assumption | exact zu_s | (refine (zu_n (by assumption)).trans ?_; first | assumption | exact zu_s | (refine (zu_n (by assumption)).trans ?_; first | assumption | exact zu_s | (refine (zu_n (by assumption)).trans ?_; first | assumption | exact zu_s | (refine (zu_n (by assumption)).trans ?_; first | assumption | exact zu_s | (refine (zu_n (by assumption)).trans ?_; first | assumption | exact zu_s | (refine (zu_n (by assumption)).trans ?_; first | assumption | exact zu_s | (refine (zu_n (by assumption)).trans ?_; first | assumption | exact zu_s | (refine (zu_n (by assumption)).trans ?_; first | assumption | exact zu_s | (refine (zu_n (by assumption)).trans ?_; first | assumption | exact zu_s | (refine (zu_n (by assumption)).trans ?_; first | assumption | exact zu_s | (refine (zu_n (by assumption)).trans ?_; first | assumption | exact zu_s | (refine (zu_n (by assumption)).trans ?_; first | assumption | exact zu_s | (refine (zu_n (by assumption)).trans ?_; first | assumption | exact zu_s))))))))))))))
  have n26_a0' := Ne.symm n26_a0
  have n26_q8 : q26 ≠ q8 := zu_fresh h26 (by first | assumption | exact zu_s | (refine (zu_n (by assumption)).trans ?_; first | assumption | exact zu_s | (refine (zu_n (by assumption)).trans ?_; first | assumption | exact zu_s | (refine (zu_n (by assumption)).trans ?_; first | assumption | exact zu_s | (refine (zu_n (by assumption)).trans ?_; first | assumption | exact zu_s | (refine (zu_n (by assumption)).trans ?_; first | assumption | exact zu_s | (refine (zu_n (by assumption)).trans ?_; first | assumption | exact zu_s | (refine (zu_n (by assumption)).trans ?_; first | assumption | exact zu_s | (refine (zu_n (by assumption)).trans ?_; first | assumption | exact zu_s | (refine (zu_n (by assumption)).trans ?_; first | assumption | exact zu_s | (refine (zu_n (by assumption)).trans ?_; first | assumption | exact zu_s | (refine (zu_n (by assumption)).trans ?_; first | assumption | exact zu_s | (refine (zu_n (by assumption)).trans ?_; first | assumption | exact zu_s | (refine (zu_n (by assumption)).trans ?_; first | assumption | exact zu_s))))))))))))))
  have n26_q8' := Ne.symm n26_q8
  have n26_q17 : q26 ≠ q17 := zu_fresh h26 (by first | assumption | exact zu_s | (refine (zu_n (by assumption)).trans ?_; first | assumption | exact zu_s | (refine (zu_n (by assumption)).trans ?_; first | assumption | exact zu_s | (refine (zu_n (by assumption)).trans ?_; first | assumption | exact zu_s | (refine (zu_n (by assumption)).trans ?_; first | assumption | exact zu_s | (refine (zu_n (by assumption)).trans ?_; first | assumption | exact zu_s | (refine (zu_n (by assumption)).trans ?_; first | assumption | exact zu_s | (refine (zu_n (by assumption)).trans ?_; first | assumption | exact zu_s | (refine (zu_n (by assumption)).trans ?_; first | assumption | exact zu_s | (refine (zu_n (by assumption)).trans ?_; first | assumption | exact zu_s | (refine (zu_n (by assumption)).trans ?_; first | assumption | exact zu_s | (refine (zu_n (by assumption)).trans ?_; first | assumption | exact zu_s | (refine (zu_n (by assumption)).trans ?_; first | assumption | exact zu_s | (refine (zu_n (by assumption)).trans ?_; first | assumption | exact zu_s))))))))))))))
  have n26_q17' := Ne.symm n26_q17
  refine zv_putF (pc := 28) C dBk_init_28 fBk_18 ⟨tkBk, nmBk⟩ hnm (by first | assumption | exact zu_s | (refine (zu_n (by assumption)).trans ?_; first | assumption | exact zu_s | (refine (zu_n (by assumption)).trans ?_; first | assumption | exact zu_s | (refine (zu_n (by assumption)).trans ?_; first | assumption | exact zu_s | (refine (zu_n (by assumption)).trans ?_; first | assumption | exact zu_s | (refine (zu_n (by assumption)).trans ?_; first | assumption | exact zu_s | (refine (zu_n (by assumption)).trans ?_; first | assumption | exact zu_s | (refine (zu_n (by assumption)).trans ?_; first | assumption | exact zu_s | (refine (zu_n (by assumption)).trans ?_; first | assumption | exact zu_s | (refine (zu_n (by assumption)).trans ?_; first | assumption | exact zu_s | (refine (zu_n (by assumption)).trans ?_; first | assumption | exact zu_s | (refine (zu_n (by assumption)).trans ?_; first | assumption | exact zu_s | (refine (zu_n (by assumption)).trans ?_; first | assumption | exact zu_s | (refine (zu_n (by assumption)).trans ?_; first | assumption | exact zu_s)))))))))))))) rfl rfl (tkBk 2 (by decide)) (by first | rfl | assumption | exact zb_nar _) (by first | rfl | assumption | decide +kernel) (Nat.le_of_ble_eq_true rfl) ?_
  refine zv_aload_n (pc := 31) C dBk_init_31 rfl ?_
  refine zv_sipush (pc := 32) (v := 400) C dBk_init_32 (by decide) ?_
  refine zv_newI (pc := 35) C 400 dBk_init_35 zw_86 (by decide) (by decide) (by decide) (Nat.le_of_ble_eq_true rfl) (Nat.le_of_ble_eq_true rfl) (fun q35 h35 => ?_)
  have n35_a0 : q35 ≠ a0 := zu_fresh h35 (by first | assumption | exact zu_s | (refine (zu_n (by assumption)).trans ?_; first | assumption | exact zu_s | (refine (zu_n (by assumption)).trans ?_; first | assumption | exact zu_s | (refine (zu_n (by assumption)).trans ?_; first | assumption | exact zu_s | (refine (zu_n (by assumption)).trans ?_; first | assumption | exact zu_s | (refine (zu_n (by assumption)).trans ?_; first | assumption | exact zu_s | (refine (zu_n (by assumption)).trans ?_; first | assumption | exact zu_s | (refine (zu_n (by assumption)).trans ?_; first | assumption | exact zu_s | (refine (zu_n (by assumption)).trans ?_; first | assumption | exact zu_s | (refine (zu_n (by assumption)).trans ?_; first | assumption | exact zu_s | (refine (zu_n (by assumption)).trans ?_; first | assumption | exact zu_s | (refine (zu_n (by assumption)).trans ?_; first | assumption | exact zu_s | (refine (zu_n (by assumption)).trans ?_; first | assumption | exact zu_s | (refine (zu_n (by assumption)).trans ?_; first | assumption | exact zu_s))))))))))))))
  have n35_a0' := Ne.symm n35_a0
  have n35_q8 : q35 ≠ q8 := zu_fresh h35 (by first | assumption | exact zu_s | (refine (zu_n (by assumption)).trans ?_; first | assumption | exact zu_s | (refine (zu_n (by assumption)).trans ?_; first | assumption | exact zu_s | (refine (zu_n (by assumption)).trans ?_; first | assumption | exact zu_s | (refine (zu_n (by assumption)).trans ?_; first | assumption | exact zu_s | (refine (zu_n (by assumption)).trans ?_; first | assumption | exact zu_s | (refine (zu_n (by assumption)).trans ?_; first | assumption | exact zu_s | (refine (zu_n (by assumption)).trans ?_; first | assumption | exact zu_s | (refine (zu_n (by assumption)).trans ?_; first | assumption | exact zu_s | (refine (zu_n (by assumption)).trans ?_; first | assumption | exact zu_s | (refine (zu_n (by assumption)).trans ?_; first | assumption | exact zu_s | (refine (zu_n (by assumption)).trans ?_; first | assumption | exact zu_s | (refine (zu_n (by assumption)).trans ?_; first | assumption | exact zu_s | (refine (zu_n (by assumption)).trans ?_; first | assumption | exact zu_s))))))))))))))
  have n35_q8' := Ne.symm n35_q8
  have n35_q17 : q35 ≠ q17 := zu_fresh h35 (by first | assumption | exact zu_s | (refine (zu_n (by assumption)).trans ?_; first | assumption | exact zu_s | (refine (zu_n (by assumption)).trans ?_; first | assumption | exact zu_s | (refine (zu_n (by assumption)).trans ?_; first | assumption | exact zu_s | (refine (zu_n (by assumption)).trans ?_; first | assumption | exact zu_s | (refine (zu_n (by assumption)).trans ?_; first | assumption | exact zu_s | (refine (zu_n (by assumption)).trans ?_; first | assumption | exact zu_s | (refine (zu_n (by assumption)).trans ?_; first | assumption | exact zu_s | (refine (zu_n (by assumption)).trans ?_; first | assumption | exact zu_s | (refine (zu_n (by assumption)).trans ?_; first | assumption | exact zu_s | (refine (zu_n (by assumption)).trans ?_; first | assumption | exact zu_s | (refine (zu_n (by assumption)).trans ?_; first | assumption | exact zu_s | (refine (zu_n (by assumption)).trans ?_; first | assumption | exact zu_s | (refine (zu_n (by assumption)).trans ?_; first | assumption | exact zu_s))))))))))))))
  have n35_q17' := Ne.symm n35_q17
  have n35_q26 : q35 ≠ q26 := zu_fresh h35 (by first | assumption | exact zu_s | (refine (zu_n (by assumption)).trans ?_; first | assumption | exact zu_s | (refine (zu_n (by assumption)).trans ?_; first | assumption | exact zu_s | (refine (zu_n (by assumption)).trans ?_; first | assumption | exact zu_s | (refine (zu_n (by assumption)).trans ?_; first | assumption | exact zu_s | (refine (zu_n (by assumption)).trans ?_; first | assumption | exact zu_s | (refine (zu_n (by assumption)).trans ?_; first | assumption | exact zu_s | (refine (zu_n (by assumption)).trans ?_; first | assumption | exact zu_s | (refine (zu_n (by assumption)).trans ?_; first | assumption | exact zu_s | (refine (zu_n (by assumption)).trans ?_; first | assumption | exact zu_s | (refine (zu_n (by assumption)).trans ?_; first | assumption | exact zu_s | (refine (zu_n (by assumption)).trans ?_; first | assumption | exact zu_s | (refine (zu_n (by assumption)).trans ?_; first | assumption | exact zu_s | (refine (zu_n (by assumption)).trans ?_; first | assumption | exact zu_s))))))))))))))
  have n35_q26' := Ne.symm n35_q26
  refine zv_putF (pc := 37) C dBk_init_37 fBk_22 ⟨tkBk, nmBk⟩ hnm (by first | assumption | exact zu_s | (refine (zu_n (by assumption)).trans ?_; first | assumption | exact zu_s | (refine (zu_n (by assumption)).trans ?_; first | assumption | exact zu_s | (refine (zu_n (by assumption)).trans ?_; first | assumption | exact zu_s | (refine (zu_n (by assumption)).trans ?_; first | assumption | exact zu_s | (refine (zu_n (by assumption)).trans ?_; first | assumption | exact zu_s | (refine (zu_n (by assumption)).trans ?_; first | assumption | exact zu_s | (refine (zu_n (by assumption)).trans ?_; first | assumption | exact zu_s | (refine (zu_n (by assumption)).trans ?_; first | assumption | exact zu_s | (refine (zu_n (by assumption)).trans ?_; first | assumption | exact zu_s | (refine (zu_n (by assumption)).trans ?_; first | assumption | exact zu_s | (refine (zu_n (by assumption)).trans ?_; first | assumption | exact zu_s | (refine (zu_n (by assumption)).trans ?_; first | assumption | exact zu_s | (refine (zu_n (by assumption)).trans ?_; first | assumption | exact zu_s)))))))))))))) rfl rfl (tkBk 3 (by decide)) (by first | rfl | assumption | exact zb_nar _) (by first | rfl | assumption | decide +kernel) (Nat.le_of_ble_eq_true rfl) ?_
  refine zv_aload_n (pc := 40) C dBk_init_40 rfl ?_
  refine zv_sipush (pc := 41) (v := 400) C dBk_init_41 (by decide) ?_
  refine zv_newI (pc := 44) C 400 dBk_init_44 zw_86 (by decide) (by decide) (by decide) (Nat.le_of_ble_eq_true rfl) (Nat.le_of_ble_eq_true rfl) (fun q44 h44 => ?_)
  have n44_a0 : q44 ≠ a0 := zu_fresh h44 (by first | assumption | exact zu_s | (refine (zu_n (by assumption)).trans ?_; first | assumption | exact zu_s | (refine (zu_n (by assumption)).trans ?_; first | assumption | exact zu_s | (refine (zu_n (by assumption)).trans ?_; first | assumption | exact zu_s | (refine (zu_n (by assumption)).trans ?_; first | assumption | exact zu_s | (refine (zu_n (by assumption)).trans ?_; first | assumption | exact zu_s | (refine (zu_n (by assumption)).trans ?_; first | assumption | exact zu_s | (refine (zu_n (by assumption)).trans ?_; first | assumption | exact zu_s | (refine (zu_n (by assumption)).trans ?_; first | assumption | exact zu_s | (refine (zu_n (by assumption)).trans ?_; first | assumption | exact zu_s | (refine (zu_n (by assumption)).trans ?_; first | assumption | exact zu_s | (refine (zu_n (by assumption)).trans ?_; first | assumption | exact zu_s | (refine (zu_n (by assumption)).trans ?_; first | assumption | exact zu_s | (refine (zu_n (by assumption)).trans ?_; first | assumption | exact zu_s))))))))))))))
  have n44_a0' := Ne.symm n44_a0
  have n44_q8 : q44 ≠ q8 := zu_fresh h44 (by first | assumption | exact zu_s | (refine (zu_n (by assumption)).trans ?_; first | assumption | exact zu_s | (refine (zu_n (by assumption)).trans ?_; first | assumption | exact zu_s | (refine (zu_n (by assumption)).trans ?_; first | assumption | exact zu_s | (refine (zu_n (by assumption)).trans ?_; first | assumption | exact zu_s | (refine (zu_n (by assumption)).trans ?_; first | assumption | exact zu_s | (refine (zu_n (by assumption)).trans ?_; first | assumption | exact zu_s | (refine (zu_n (by assumption)).trans ?_; first | assumption | exact zu_s | (refine (zu_n (by assumption)).trans ?_; first | assumption | exact zu_s | (refine (zu_n (by assumption)).trans ?_; first | assumption | exact zu_s | (refine (zu_n (by assumption)).trans ?_; first | assumption | exact zu_s | (refine (zu_n (by assumption)).trans ?_; first | assumption | exact zu_s | (refine (zu_n (by assumption)).trans ?_; first | assumption | exact zu_s | (refine (zu_n (by assumption)).trans ?_; first | assumption | exact zu_s))))))))))))))
  have n44_q8' := Ne.symm n44_q8
  have n44_q17 : q44 ≠ q17 := zu_fresh h44 (by first | assumption | exact zu_s | (refine (zu_n (by assumption)).trans ?_; first | assumption | exact zu_s | (refine (zu_n (by assumption)).trans ?_; first | assumption | exact zu_s | (refine (zu_n (by assumption)).trans ?_; first | assumption | exact zu_s | (refine (zu_n (by assumption)).trans ?_; first | assumption | exact zu_s | (refine (zu_n (by assumption)).trans ?_; first | assumption | exact zu_s | (refine (zu_n (by assumption)).trans ?_; first | assumption | exact zu_s | (refine (zu_n (by assumption)).trans ?_; first | assumption | exact zu_s | (refine (zu_n (by assumption)).trans ?_; first | assumption | exact zu_s | (refine (zu_n (by assumption)).trans ?_; first | assumption | exact zu_s | (refine (zu_n (by assumption)).trans ?_; first | assumption | exact zu_s | (refine (zu_n (by assumption)).trans ?_; first | assumption | exact zu_s | (refine (zu_n (by assumption)).trans ?_; first | assumption | exact zu_s | (refine (zu_n (by assumption)).trans ?_; first | assumption | exact zu_s))))))))))))))
  have n44_q17' := Ne.symm n44_q17
  have n44_q26 : q44 ≠ q26 := zu_fresh h44 (by first | assumption | exact zu_s | (refine (zu_n (by assumption)).trans ?_; first | assumption | exact zu_s | (refine (zu_n (by assumption)).trans ?_; first | assumption | exact zu_s | (refine (zu_n (by assumption)).trans ?_; first | assumption | exact zu_s | (refine (zu_n (by assumption)).trans ?_; first | assumption | exact zu_s | (refine (zu_n (by assumption)).trans ?_; first | assumption | exact zu_s | (refine (zu_n (by assumption)).trans ?_; first | assumption | exact zu_s | (refine (zu_n (by assumption)).trans ?_; first | assumption | exact zu_s | (refine (zu_n (by assumption)).trans ?_; first | assumption | exact zu_s | (refine (zu_n (by assumption)).trans ?_; first | assumption | exact zu_s | (refine (zu_n (by assumption)).trans ?_; first | assumption | exact zu_s | (refine (zu_n (by assumption)).trans ?_; first | assumption | exact zu_s | (refine (zu_n (by assumption)).trans ?_; first | assumption | exact zu_s | (refine (zu_n (by assumption)).trans ?_; first | assumption | exact zu_s))))))))))))))
  have n44_q26' := Ne.symm n44_q26
  have n44_q35 : q44 ≠ q35 := zu_fresh h44 (by first | assumption | exact zu_s | (refine (zu_n (by assumption)).trans ?_; first | assumption | exact zu_s | (refine (zu_n (by assumption)).trans ?_; first | assumption | exact zu_s | (refine (zu_n (by assumption)).trans ?_; first | assumption | exact zu_s | (refine (zu_n (by assumption)).trans ?_; first | assumption | exact zu_s | (refine (zu_n (by assumption)).trans ?_; first | assumption | exact zu_s | (refine (zu_n (by assumption)).trans ?_; first | assumption | exact zu_s | (refine (zu_n (by assumption)).trans ?_; first | assumption | exact zu_s | (refine (zu_n (by assumption)).trans ?_; first | assumption | exact zu_s | (refine (zu_n (by assumption)).trans ?_; first | assumption | exact zu_s | (refine (zu_n (by assumption)).trans ?_; first | assumption | exact zu_s | (refine (zu_n (by assumption)).trans ?_; first | assumption | exact zu_s | (refine (zu_n (by assumption)).trans ?_; first | assumption | exact zu_s | (refine (zu_n (by assumption)).trans ?_; first | assumption | exact zu_s))))))))))))))
  have n44_q35' := Ne.symm n44_q35
  refine zv_putF (pc := 46) C dBk_init_46 fBk_25 ⟨tkBk, nmBk⟩ hnm (by first | assumption | exact zu_s | (refine (zu_n (by assumption)).trans ?_; first | assumption | exact zu_s | (refine (zu_n (by assumption)).trans ?_; first | assumption | exact zu_s | (refine (zu_n (by assumption)).trans ?_; first | assumption | exact zu_s | (refine (zu_n (by assumption)).trans ?_; first | assumption | exact zu_s | (refine (zu_n (by assumption)).trans ?_; first | assumption | exact zu_s | (refine (zu_n (by assumption)).trans ?_; first | assumption | exact zu_s | (refine (zu_n (by assumption)).trans ?_; first | assumption | exact zu_s | (refine (zu_n (by assumption)).trans ?_; first | assumption | exact zu_s | (refine (zu_n (by assumption)).trans ?_; first | assumption | exact zu_s | (refine (zu_n (by assumption)).trans ?_; first | assumption | exact zu_s | (refine (zu_n (by assumption)).trans ?_; first | assumption | exact zu_s | (refine (zu_n (by assumption)).trans ?_; first | assumption | exact zu_s | (refine (zu_n (by assumption)).trans ?_; first | assumption | exact zu_s)))))))))))))) rfl rfl (tkBk 4 (by decide)) (by first | rfl | assumption | exact zb_nar _) (by first | rfl | assumption | decide +kernel) (Nat.le_of_ble_eq_true rfl) ?_
  refine zv_aload_n (pc := 49) C dBk_init_49 rfl ?_
  refine zv_iconst (pc := 50) (v := 0) C dBk_init_50 (by decide) ?_
  refine zv_put (pc := 51) C dBk_init_51 fBk_28 ⟨tkBk, nmBk⟩ (by first | assumption | exact zu_s | (refine (zu_n (by assumption)).trans ?_; first | assumption | exact zu_s | (refine (zu_n (by assumption)).trans ?_; first | assumption | exact zu_s | (refine (zu_n (by assumption)).trans ?_; first | assumption | exact zu_s | (refine (zu_n (by assumption)).trans ?_; first | assumption | exact zu_s | (refine (zu_n (by assumption)).trans ?_; first | assumption | exact zu_s | (refine (zu_n (by assumption)).trans ?_; first | assumption | exact zu_s | (refine (zu_n (by assumption)).trans ?_; first | assumption | exact zu_s | (refine (zu_n (by assumption)).trans ?_; first | assumption | exact zu_s | (refine (zu_n (by assumption)).trans ?_; first | assumption | exact zu_s | (refine (zu_n (by assumption)).trans ?_; first | assumption | exact zu_s | (refine (zu_n (by assumption)).trans ?_; first | assumption | exact zu_s | (refine (zu_n (by assumption)).trans ?_; first | assumption | exact zu_s | (refine (zu_n (by assumption)).trans ?_; first | assumption | exact zu_s)))))))))))))) rfl (tkBk 5 (by decide)) (by first | rfl | assumption | exact zb_nar _) (by first | rfl | assumption | decide +kernel) (Nat.le_of_ble_eq_true rfl) ?_
  refine zv_aload_n (pc := 54) C dBk_init_54 rfl ?_
  refine zv_iconst (pc := 55) (v := 0) C dBk_init_55 (by decide) ?_
  refine zv_put (pc := 56) C dBk_init_56 fBk_32 ⟨tkBk, nmBk⟩ (by first | assumption | exact zu_s | (refine (zu_n (by assumption)).trans ?_; first | assumption | exact zu_s | (refine (zu_n (by assumption)).trans ?_; first | assumption | exact zu_s | (refine (zu_n (by assumption)).trans ?_; first | assumption | exact zu_s | (refine (zu_n (by assumption)).trans ?_; first | assumption | exact zu_s | (refine (zu_n (by assumption)).trans ?_; first | assumption | exact zu_s | (refine (zu_n (by assumption)).trans ?_; first | assumption | exact zu_s | (refine (zu_n (by assumption)).trans ?_; first | assumption | exact zu_s | (refine (zu_n (by assumption)).trans ?_; first | assumption | exact zu_s | (refine (zu_n (by assumption)).trans ?_; first | assumption | exact zu_s | (refine (zu_n (by assumption)).trans ?_; first | assumption | exact zu_s | (refine (zu_n (by assumption)).trans ?_; first | assumption | exact zu_s | (refine (zu_n (by assumption)).trans ?_; first | assumption | exact zu_s | (refine (zu_n (by assumption)).trans ?_; first | assumption | exact zu_s)))))))))))))) rfl (tkBk 6 (by decide)) (by first | rfl | assumption | exact zb_nar _) (by first | rfl | assumption | decide +kernel) (Nat.le_of_ble_eq_true rfl) ?_
  exact zv_vret (pc := 59) C hr dBk_init_59 (Nat.le_of_ble_eq_true rfl) (Nat.le_of_ble_eq_true rfl) (by exact ⟨rfl, q8, q17, q26, q35, q44, by simp [*], List.forall_mem_cons.mpr ⟨h8, List.forall_mem_cons.mpr ⟨(zu_none (zu_none (h17))), List.forall_mem_cons.mpr ⟨(zu_none (zu_none (zu_none (zu_none (h26))))), List.forall_mem_cons.mpr ⟨(zu_none (zu_none (zu_none (zu_none (zu_none (zu_none (h35))))))), List.forall_mem_cons.mpr ⟨(zu_none (zu_none (zu_none (zu_none (zu_none (zu_none (zu_none (zu_none (h44))))))))), fun _ h => absurd h List.not_mem_nil⟩⟩⟩⟩⟩, (by first | assumption | exact zu_s | (refine (zu_n (by assumption)).trans ?_; first | assumption | exact zu_s | (refine (zu_n (by assumption)).trans ?_; first | assumption | exact zu_s | (refine (zu_n (by assumption)).trans ?_; first | assumption | exact zu_s | (refine (zu_n (by assumption)).trans ?_; first | assumption | exact zu_s | (refine (zu_n (by assumption)).trans ?_; first | assumption | exact zu_s | (refine (zu_n (by assumption)).trans ?_; first | assumption | exact zu_s | (refine (zu_n (by assumption)).trans ?_; first | assumption | exact zu_s | (refine (zu_n (by assumption)).trans ?_; first | assumption | exact zu_s | (refine (zu_n (by assumption)).trans ?_; first | assumption | exact zu_s | (refine (zu_n (by assumption)).trans ?_; first | assumption | exact zu_s | (refine (zu_n (by assumption)).trans ?_; first | assumption | exact zu_s | (refine (zu_n (by assumption)).trans ?_; first | assumption | exact zu_s | (refine (zu_n (by assumption)).trans ?_; first | assumption | exact zu_s)))))))))))))), (by first | assumption | exact zu_s | (refine (zu_n (by assumption)).trans ?_; first | assumption | exact zu_s | (refine (zu_n (by assumption)).trans ?_; first | assumption | exact zu_s | (refine (zu_n (by assumption)).trans ?_; first | assumption | exact zu_s | (refine (zu_n (by assumption)).trans ?_; first | assumption | exact zu_s | (refine (zu_n (by assumption)).trans ?_; first | assumption | exact zu_s | (refine (zu_n (by assumption)).trans ?_; first | assumption | exact zu_s | (refine (zu_n (by assumption)).trans ?_; first | assumption | exact zu_s | (refine (zu_n (by assumption)).trans ?_; first | assumption | exact zu_s | (refine (zu_n (by assumption)).trans ?_; first | assumption | exact zu_s | (refine (zu_n (by assumption)).trans ?_; first | assumption | exact zu_s | (refine (zu_n (by assumption)).trans ?_; first | assumption | exact zu_s | (refine (zu_n (by assumption)).trans ?_; first | assumption | exact zu_s | (refine (zu_n (by assumption)).trans ?_; first | assumption | exact zu_s)))))))))))))), (by first | assumption | exact zu_s | (refine (zu_n (by assumption)).trans ?_; first | assumption | exact zu_s | (refine (zu_n (by assumption)).trans ?_; first | assumption | exact zu_s | (refine (zu_n (by assumption)).trans ?_; first | assumption | exact zu_s | (refine (zu_n (by assumption)).trans ?_; first | assumption | exact zu_s | (refine (zu_n (by assumption)).trans ?_; first | assumption | exact zu_s | (refine (zu_n (by assumption)).trans ?_; first | assumption | exact zu_s | (refine (zu_n (by assumption)).trans ?_; first | assumption | exact zu_s | (refine (zu_n (by assumption)).trans ?_; first | assumption | exact zu_s | (refine (zu_n (by assumption)).trans ?_; first | assumption | exact zu_s | (refine (zu_n (by assumption)).trans ?_; first | assumption | exact zu_s | (refine (zu_n (by assumption)).trans ?_; first | assumption | exact zu_s | (refine (zu_n (by assumption)).trans ?_; first | assumption | exact zu_s | (refine (zu_n (by assumption)).trans ?_; first | assumption | exact zu_s)))))))))))))), (by first | assumption | exact zu_s | (refine (zu_n (by assumption)).trans ?_; first | assumption | exact zu_s | (refine (zu_n (by assumption)).trans ?_; first | assumption | exact zu_s | (refine (zu_n (by assumption)).trans ?_; first | assumption | exact zu_s | (refine (zu_n (by assumption)).trans ?_; first | assumption | exact zu_s | (refine (zu_n (by assumption)).trans ?_; first | assumption | exact zu_s | (refine (zu_n (by assumption)).trans ?_; first | assumption | exact zu_s | (refine (zu_n (by assumption)).trans ?_; first | assumption | exact zu_s | (refine (zu_n (by assumption)).trans ?_; first | assumption | exact zu_s | (refine (zu_n (by assumption)).trans ?_; first | assumption | exact zu_s | (refine (zu_n (by assumption)).trans ?_; first | assumption | exact zu_s | (refine (zu_n (by assumption)).trans ?_; first | assumption | exact zu_s | (refine (zu_n (by assumption)).trans ?_; first | assumption | exact zu_s | (refine (zu_n (by assumption)).trans ?_; first | assumption | exact zu_s)))))))))))))), (by first | assumption | exact zu_s | (refine (zu_n (by assumption)).trans ?_; first | assumption | exact zu_s | (refine (zu_n (by assumption)).trans ?_; first | assumption | exact zu_s | (refine (zu_n (by assumption)).trans ?_; first | assumption | exact zu_s | (refine (zu_n (by assumption)).trans ?_; first | assumption | exact zu_s | (refine (zu_n (by assumption)).trans ?_; first | assumption | exact zu_s | (refine (zu_n (by assumption)).trans ?_; first | assumption | exact zu_s | (refine (zu_n (by assumption)).trans ?_; first | assumption | exact zu_s | (refine (zu_n (by assumption)).trans ?_; first | assumption | exact zu_s | (refine (zu_n (by assumption)).trans ?_; first | assumption | exact zu_s | (refine (zu_n (by assumption)).trans ?_; first | assumption | exact zu_s | (refine (zu_n (by assumption)).trans ?_; first | assumption | exact zu_s | (refine (zu_n (by assumption)).trans ?_; first | assumption | exact zu_s | (refine (zu_n (by assumption)).trans ?_; first | assumption | exact zu_s)))))))))))))), (by first | assumption | exact zu_s | (refine (zu_n (by assumption)).trans ?_; first | assumption | exact zu_s | (refine (zu_n (by assumption)).trans ?_; first | assumption | exact zu_s | (refine (zu_n (by assumption)).trans ?_; first | assumption | exact zu_s | (refine (zu_n (by assumption)).trans ?_; first | assumption | exact zu_s | (refine (zu_n (by assumption)).trans ?_; first | assumption | exact zu_s | (refine (zu_n (by assumption)).trans ?_; first | assumption | exact zu_s | (refine (zu_n (by assumption)).trans ?_; first | assumption | exact zu_s | (refine (zu_n (by assumption)).trans ?_; first | assumption | exact zu_s | (refine (zu_n (by assumption)).trans ?_; first | assumption | exact zu_s | (refine (zu_n (by assumption)).trans ?_; first | assumption | exact zu_s | (refine (zu_n (by assumption)).trans ?_; first | assumption | exact zu_s | (refine (zu_n (by assumption)).trans ?_; first | assumption | exact zu_s | (refine (zu_n (by assumption)).trans ?_; first | assumption | exact zu_s)))))))))))))), fun z g1 g2 => by simp only [List.mem_cons, List.not_mem_nil, or_false, not_or] at g2; simp only [zu, if_neg g1, if_neg g2.1, if_neg g2.2.1, if_neg g2.2.2.1, if_neg g2.2.2.2.1, if_neg g2.2.2.2.2]⟩)
set_option maxHeartbeats 4000000 in
set_option maxRecDepth 100000 in
theorem cSh_init {O : zO} {l : Launch} (hk : zK O l) (G : zG) (a0 : Nat) (hB : G a0 = some (.inr (2, [.null, .null]))) : zM O l ySh_init [Cond.code ySh_init bSh_init 1 none] rmSh_init [.ref a0] G 2 30 (fun v G' => v = none ∧ zShN O G G' a0) zNo := by
  refine zm_of hk (by decide) (Nat.le_of_ble_eq_true rfl) ?_
  intro p e s m below meth c C hex hr hnm
  refine zv_aload_n (pc := 0) C dSh_init_0 rfl ?_
  refine zv_objInit (pc := 1) C dSh_init_1 zw_93 zw_47 zw_48 (Nat.le_of_ble_eq_true rfl) (Nat.le_of_ble_eq_true rfl) ?_
  refine zv_aload_n (pc := 4) C dSh_init_4 rfl ?_
  refine zv_bipush (pc := 5) (v := 24) C dSh_init_5 (by decide) ?_
  refine zv_newI (pc := 7) C 24 dSh_init_7 zw_86 (by decide) (by decide) (by decide) (Nat.le_of_ble_eq_true rfl) (Nat.le_of_ble_eq_true rfl) (fun q7 h7 => ?_)
  have n7_a0 : q7 ≠ a0 := zu_fresh h7 (by first | assumption | exact zu_s | (refine (zu_n (by assumption)).trans ?_; first | assumption | exact zu_s | (refine (zu_n (by assumption)).trans ?_; first | assumption | exact zu_s | (refine (zu_n (by assumption)).trans ?_; first | assumption | exact zu_s | (refine (zu_n (by assumption)).trans ?_; first | assumption | exact zu_s | (refine (zu_n (by assumption)).trans ?_; first | assumption | exact zu_s))))))
  have n7_a0' := Ne.symm n7_a0
  refine zv_putF (pc := 9) C dSh_init_9 fSh_9 ⟨tkSh, nmSh⟩ hnm (by first | assumption | exact zu_s | (refine (zu_n (by assumption)).trans ?_; first | assumption | exact zu_s | (refine (zu_n (by assumption)).trans ?_; first | assumption | exact zu_s | (refine (zu_n (by assumption)).trans ?_; first | assumption | exact zu_s | (refine (zu_n (by assumption)).trans ?_; first | assumption | exact zu_s | (refine (zu_n (by assumption)).trans ?_; first | assumption | exact zu_s)))))) rfl rfl (tkSh 0 (by decide)) (by first | rfl | assumption | exact zb_nar _) (by first | rfl | assumption | decide +kernel) (Nat.le_of_ble_eq_true rfl) ?_
  refine zv_aload_n (pc := 12) C dSh_init_12 rfl ?_
  refine zv_bipush (pc := 13) (v := 6) C dSh_init_13 (by decide) ?_
  refine zv_newI (pc := 15) C 6 dSh_init_15 zw_86 (by decide) (by decide) (by decide) (Nat.le_of_ble_eq_true rfl) (Nat.le_of_ble_eq_true rfl) (fun q15 h15 => ?_)
  have n15_a0 : q15 ≠ a0 := zu_fresh h15 (by first | assumption | exact zu_s | (refine (zu_n (by assumption)).trans ?_; first | assumption | exact zu_s | (refine (zu_n (by assumption)).trans ?_; first | assumption | exact zu_s | (refine (zu_n (by assumption)).trans ?_; first | assumption | exact zu_s | (refine (zu_n (by assumption)).trans ?_; first | assumption | exact zu_s | (refine (zu_n (by assumption)).trans ?_; first | assumption | exact zu_s))))))
  have n15_a0' := Ne.symm n15_a0
  have n15_q7 : q15 ≠ q7 := zu_fresh h15 (by first | assumption | exact zu_s | (refine (zu_n (by assumption)).trans ?_; first | assumption | exact zu_s | (refine (zu_n (by assumption)).trans ?_; first | assumption | exact zu_s | (refine (zu_n (by assumption)).trans ?_; first | assumption | exact zu_s | (refine (zu_n (by assumption)).trans ?_; first | assumption | exact zu_s | (refine (zu_n (by assumption)).trans ?_; first | assumption | exact zu_s))))))
  have n15_q7' := Ne.symm n15_q7
  refine zv_putF (pc := 17) C dSh_init_17 fSh_15 ⟨tkSh, nmSh⟩ hnm (by first | assumption | exact zu_s | (refine (zu_n (by assumption)).trans ?_; first | assumption | exact zu_s | (refine (zu_n (by assumption)).trans ?_; first | assumption | exact zu_s | (refine (zu_n (by assumption)).trans ?_; first | assumption | exact zu_s | (refine (zu_n (by assumption)).trans ?_; first | assumption | exact zu_s | (refine (zu_n (by assumption)).trans ?_; first | assumption | exact zu_s)))))) rfl rfl (tkSh 1 (by decide)) (by first | rfl | assumption | exact zb_nar _) (by first | rfl | assumption | decide +kernel) (Nat.le_of_ble_eq_true rfl) ?_
  exact zv_vret (pc := 20) C hr dSh_init_20 (Nat.le_of_ble_eq_true rfl) (Nat.le_of_ble_eq_true rfl) (by exact ⟨rfl, q7, q15, n15_q7', h7, zu_none (zu_none h15), (by first | assumption | exact zu_s | (refine (zu_n (by assumption)).trans ?_; first | assumption | exact zu_s | (refine (zu_n (by assumption)).trans ?_; first | assumption | exact zu_s | (refine (zu_n (by assumption)).trans ?_; first | assumption | exact zu_s | (refine (zu_n (by assumption)).trans ?_; first | assumption | exact zu_s | (refine (zu_n (by assumption)).trans ?_; first | assumption | exact zu_s)))))), (by first | assumption | exact zu_s | (refine (zu_n (by assumption)).trans ?_; first | assumption | exact zu_s | (refine (zu_n (by assumption)).trans ?_; first | assumption | exact zu_s | (refine (zu_n (by assumption)).trans ?_; first | assumption | exact zu_s | (refine (zu_n (by assumption)).trans ?_; first | assumption | exact zu_s | (refine (zu_n (by assumption)).trans ?_; first | assumption | exact zu_s)))))), (by first | assumption | exact zu_s | (refine (zu_n (by assumption)).trans ?_; first | assumption | exact zu_s | (refine (zu_n (by assumption)).trans ?_; first | assumption | exact zu_s | (refine (zu_n (by assumption)).trans ?_; first | assumption | exact zu_s | (refine (zu_n (by assumption)).trans ?_; first | assumption | exact zu_s | (refine (zu_n (by assumption)).trans ?_; first | assumption | exact zu_s)))))), fun z g1 g2 g3 => by simp only [zu, if_neg g1, if_neg g2, if_neg g3]⟩)
/-- n rows have been brought in behind the first n0 of them: what lies at a place -/
def brI (f : Nat → Int32) (n j : Nat) (g : Nat → Int32) : Nat → Int32 := fun q => if n ≤ q ∧ q < n + j then g (q - n) else f q
def brJ (f : Nat → Int64) (n j : Nat) (g : Nat → Int64) : Nat → Int64 := fun q => if n ≤ q ∧ q < n + j then g (q - n) else f q
theorem brI_0 (f : Nat → Int32) (n : Nat) (g : Nat → Int32) : brI f n 0 g = f := by funext q; simp only [brI]; rw [if_neg (by omega)]
theorem brJ_0 (f : Nat → Int64) (n : Nat) (g : Nat → Int64) : brJ f n 0 g = f := by funext q; simp only [brJ]; rw [if_neg (by omega)]
theorem brI_s (f : Nat → Int32) (n j : Nat) (g : Nat → Int32) : upd (brI f n j g) (n + j) (g j) = brI f n (j + 1) g := by
  funext q
  simp only [brI, upd]
  by_cases h : q = n + j
  · subst h; rw [if_pos rfl, if_pos (by omega)]; congr 1; omega
  · rw [if_neg h]
    by_cases h2 : n ≤ q ∧ q < n + j
    · rw [if_pos h2, if_pos (by omega)]
    · rw [if_neg h2, if_neg (by omega)]
theorem brJ_s (f : Nat → Int64) (n j : Nat) (g : Nat → Int64) : vp_updL (brJ f n j g) (n + j) (g j) = brJ f n (j + 1) g := by
  funext q
  simp only [brJ, vp_updL]
  by_cases h : q = n + j
  · subst h; rw [if_pos rfl, if_pos (by omega)]; congr 1; omega
  · rw [if_neg h]
    by_cases h2 : n ≤ q ∧ q < n + j
    · rw [if_pos h2, if_pos (by omega)]
    · rw [if_neg h2, if_neg (by omega)]
/-- the Book's cells -/
def zBk (O : zO) (G : zG) (a0 b1 b2 b3 b4 b5 n h : Nat) (f1 f2 : Nat → Int32) (f3 : Nat → Int64) (f4 f5 : Nat → Int32) : Prop := G a0 = some (oBk b1 b2 b3 b4 b5 (nI n) (nI h)) ∧ G b1 = some (zI O 400 f1) ∧ G b2 = some (zI O 400 f2) ∧ G b3 = some (zJ O 400 f3) ∧ G b4 = some (zI O 400 f4) ∧ G b5 = some (zI O 400 f5)
/-- .. behind j rows of a batch -/
def zBr (O : zO) (G G' : zG) (a0 b1 b2 b3 b4 b5 n h : Nat) (f1 f2 : Nat → Int32) (f3 : Nat → Int64) (f4 f5 : Nat → Int32) (x vd kd : Int32) (fa : Nat → Int32) (fc : Nat → Int64) (j : Nat) : Prop := zBk O G' a0 b1 b2 b3 b4 b5 (n + j) (h + j) (brI f1 n j (fun _ => x)) (brI f2 n j fa) (brJ f3 n j fc) (brI f4 n j (fun _ => vd)) (brI f5 n j (fun _ => kd)) ∧ ∀ q, q ≠ a0 → q ∉ [b1, b2, b3, b4, b5] → G' q = G q
set_option maxHeartbeats 4000000 in
set_option maxRecDepth 100000 in
theorem lBk_bringIn {O : zO} {p : Program} {l : Launch} {e : Env} {R : Room} {s : State} {m : MethodId} {args : Array Value} {below : List Frame} {meth : Method} {c : Code} {Q : State → Prop} {G : zG} {kc ks : Nat} (a0 a1 n h r : Nat) {b1 b2 b3 b4 b5 : Nat} {f1 f2 : Nat → Int32} {f3 : Nat → Int64} {f4 f5 : Nat → Int32} {vd kd rv : Int32} {aa ac : Nat} {sz sa rb tf : Int32} {fa : Nat → Int32} {fc : Nat → Int64} (x : Int32) (C : zC O p l s m meth c RBk bBk_bringIn 5) (hN : [b1, b2, b3, b4, b5].Nodup) (hB : G a1 = some (oBa vd kd rv aa ac sz sa rb tf)) (ha : G aa = some (zI O 20 fa)) (hc : G ac = some (zJ O 20 fc)) (m0 : a1 ≠ a0 ∧ aa ≠ a0 ∧ ac ≠ a0) (m1 : a1 ∉ [b1, b2, b3, b4, b5]) (m2 : aa ∉ [b1, b2, b3, b4, b5]) (m3 : ac ∉ [b1, b2, b3, b4, b5]) (m4 : a0 ∉ [b1, b2, b3, b4, b5]) (hr20 : r ≤ 20) (hn : n + r ≤ 400) (kk : ∀ G1, zBr O G G1 a0 b1 b2 b3 b4 b5 n h f1 f2 f3 f4 f5 x vd kd fa fc r → zV O p l e R s m args below meth c 5 Q 103 [(0, .ref a0), (1, .int x), (2, .ref a1), (3, .int (nI r)), (4, .int (nI r))] [] G1 kc ks) : ∀ k j : Nat, j + k = r → ∀ G1, zBr O G G1 a0 b1 b2 b3 b4 b5 n h f1 f2 f3 f4 f5 x vd kd fa fc j → zV O p l e R s m args below meth c 5 Q 3 [(0, .ref a0), (1, .int x), (2, .ref a1), (3, .int (nI r)), (4, .int (nI j))] [] G1 kc ks := by
  intro k
  induction k with
  | zero =>
    intro j hj G1 hG1
    obtain rfl : j = r := by omega
    refine zv_iload (pc := 3) C dBk_bringIn_3 rfl ?_
    refine zv_iload_n (pc := 5) C dBk_bringIn_5 rfl ?_
    refine zv_icmp_ge (pc := 6) (tgt := 103) C dBk_bringIn_6 (by decide) (fun cX => ?_) (fun cX => absurd (nI_le (a := j) (b := j) (Nat.le_refl _) (by omega)) cX)
    exact kk G1 hG1
  | succ k ih =>
    intro j hj G1 hG1
    obtain ⟨⟨g0, g1, g2, g3, g4, g5⟩, gk⟩ := hG1
    have hB1 : G1 a1 = some (oBa vd kd rv aa ac sz sa rb tf) := (gk a1 m0.1 m1).trans hB
    have ha1 : G1 aa = some (zI O 20 fa) := (gk aa m0.2.1 m2).trans ha
    have hc1 : G1 ac = some (zJ O 20 fc) := (gk ac m0.2.2 m3).trans hc
    simp only [List.mem_cons, List.not_mem_nil, or_false, not_or] at m1 m2 m3 m4
    simp only [List.nodup_cons, List.mem_cons, List.not_mem_nil, or_false, not_or] at hN
    obtain ⟨⟨u12, u13, u14, u15⟩, ⟨u23, u24, u25⟩, ⟨u34, u35⟩, u45, -⟩ := hN
    obtain ⟨v1, v2, v3, v4, v5⟩ := m1
    obtain ⟨w1, w2, w3, w4, w5⟩ := m2
    obtain ⟨x1, x2, x3, x4, x5⟩ := m3
    obtain ⟨y1, y2, y3, y4, y5⟩ := m4
    obtain ⟨z1, z2, z3⟩ := m0
    have u12' : b2 ≠ b1 := fun q => u12 q.symm
    have u13' : b3 ≠ b1 := fun q => u13 q.symm
    have u14' : b4 ≠ b1 := fun q => u14 q.symm
    have u15' : b5 ≠ b1 := fun q => u15 q.symm
    have u23' : b3 ≠ b2 := fun q => u23 q.symm
    have u24' : b4 ≠ b2 := fun q => u24 q.symm
    have u25' : b5 ≠ b2 := fun q => u25 q.symm
    have u34' : b4 ≠ b3 := fun q => u34 q.symm
    have u35' : b5 ≠ b3 := fun q => u35 q.symm
    have u45' : b5 ≠ b4 := fun q => u45 q.symm
    have y1' : b1 ≠ a0 := fun q => y1 q.symm
    have y2' : b2 ≠ a0 := fun q => y2 q.symm
    have y3' : b3 ≠ a0 := fun q => y3 q.symm
    have y4' : b4 ≠ a0 := fun q => y4 q.symm
    have y5' : b5 ≠ a0 := fun q => y5 q.symm
    refine zv_iload (pc := 3) C dBk_bringIn_3 rfl ?_
    refine zv_iload_n (pc := 5) C dBk_bringIn_5 rfl ?_
    refine zv_icmp_ge (pc := 6) (tgt := 103) C dBk_bringIn_6 (by decide) (fun cX => absurd cX (nI_ge (a := j) (b := r) (by omega) (by omega))) (fun cX => ?_)
    refine zv_aload_n (pc := 9) C dBk_bringIn_9 rfl ?_
    refine zv_get (pc := 10) C dBk_bringIn_10 fBk_9 (by first | assumption | exact zu_s | (refine (zu_n (by assumption)).trans ?_; first | assumption | exact zu_s | (refine (zu_n (by assumption)).trans ?_; first | assumption | exact zu_s | (refine (zu_n (by assumption)).trans ?_; first | assumption | exact zu_s | (refine (zu_n (by assumption)).trans ?_; first | assumption | exact zu_s | (refine (zu_n (by assumption)).trans ?_; first | assumption | exact zu_s | (refine (zu_n (by assumption)).trans ?_; first | assumption | exact zu_s | (refine (zu_n (by assumption)).trans ?_; first | assumption | exact zu_s)))))))) rfl ?_
    refine zv_aload_n (pc := 13) C dBk_bringIn_13 rfl ?_
    refine zv_get (pc := 14) C dBk_bringIn_14 fBk_28 (by first | assumption | exact zu_s | (refine (zu_n (by assumption)).trans ?_; first | assumption | exact zu_s | (refine (zu_n (by assumption)).trans ?_; first | assumption | exact zu_s | (refine (zu_n (by assumption)).trans ?_; first | assumption | exact zu_s | (refine (zu_n (by assumption)).trans ?_; first | assumption | exact zu_s | (refine (zu_n (by assumption)).trans ?_; first | assumption | exact zu_s | (refine (zu_n (by assumption)).trans ?_; first | assumption | exact zu_s | (refine (zu_n (by assumption)).trans ?_; first | assumption | exact zu_s)))))))) rfl ?_
    refine zv_iload_n (pc := 17) C dBk_bringIn_17 rfl ?_
    refine zn_iast (pc := 18) C dBk_bringIn_18 (by first | assumption | exact zu_s | (refine (zu_n (by assumption)).trans ?_; first | assumption | exact zu_s | (refine (zu_n (by assumption)).trans ?_; first | assumption | exact zu_s | (refine (zu_n (by assumption)).trans ?_; first | assumption | exact zu_s | (refine (zu_n (by assumption)).trans ?_; first | assumption | exact zu_s | (refine (zu_n (by assumption)).trans ?_; first | assumption | exact zu_s | (refine (zu_n (by assumption)).trans ?_; first | assumption | exact zu_s | (refine (zu_n (by assumption)).trans ?_; first | assumption | exact zu_s)))))))) (by omega) (by omega) ?_
    refine zv_aload_n (pc := 19) C dBk_bringIn_19 rfl ?_
    refine zv_get (pc := 20) C dBk_bringIn_20 fBk_15 (by first | assumption | exact zu_s | (refine (zu_n (by assumption)).trans ?_; first | assumption | exact zu_s | (refine (zu_n (by assumption)).trans ?_; first | assumption | exact zu_s | (refine (zu_n (by assumption)).trans ?_; first | assumption | exact zu_s | (refine (zu_n (by assumption)).trans ?_; first | assumption | exact zu_s | (refine (zu_n (by assumption)).trans ?_; first | assumption | exact zu_s | (refine (zu_n (by assumption)).trans ?_; first | assumption | exact zu_s | (refine (zu_n (by assumption)).trans ?_; first | assumption | exact zu_s)))))))) rfl ?_
    refine zv_aload_n (pc := 23) C dBk_bringIn_23 rfl ?_
    refine zv_get (pc := 24) C dBk_bringIn_24 fBk_28 (by first | assumption | exact zu_s | (refine (zu_n (by assumption)).trans ?_; first | assumption | exact zu_s | (refine (zu_n (by assumption)).trans ?_; first | assumption | exact zu_s | (refine (zu_n (by assumption)).trans ?_; first | assumption | exact zu_s | (refine (zu_n (by assumption)).trans ?_; first | assumption | exact zu_s | (refine (zu_n (by assumption)).trans ?_; first | assumption | exact zu_s | (refine (zu_n (by assumption)).trans ?_; first | assumption | exact zu_s | (refine (zu_n (by assumption)).trans ?_; first | assumption | exact zu_s)))))))) rfl ?_
    refine zv_aload_n (pc := 27) C dBk_bringIn_27 rfl ?_
    refine zv_get (pc := 28) C dBk_bringIn_28 fBk_35 (by first | assumption | exact zu_s | (refine (zu_n (by assumption)).trans ?_; first | assumption | exact zu_s | (refine (zu_n (by assumption)).trans ?_; first | assumption | exact zu_s | (refine (zu_n (by assumption)).trans ?_; first | assumption | exact zu_s | (refine (zu_n (by assumption)).trans ?_; first | assumption | exact zu_s | (refine (zu_n (by assumption)).trans ?_; first | assumption | exact zu_s | (refine (zu_n (by assumption)).trans ?_; first | assumption | exact zu_s | (refine (zu_n (by assumption)).trans ?_; first | assumption | exact zu_s)))))))) rfl ?_
    refine zv_iload (pc := 31) C dBk_bringIn_31 rfl ?_
    refine zn_iald (pc := 33) C dBk_bringIn_33 (by first | assumption | exact zu_s | (refine (zu_n (by assumption)).trans ?_; first | assumption | exact zu_s | (refine (zu_n (by assumption)).trans ?_; first | assumption | exact zu_s | (refine (zu_n (by assumption)).trans ?_; first | assumption | exact zu_s | (refine (zu_n (by assumption)).trans ?_; first | assumption | exact zu_s | (refine (zu_n (by assumption)).trans ?_; first | assumption | exact zu_s | (refine (zu_n (by assumption)).trans ?_; first | assumption | exact zu_s | (refine (zu_n (by assumption)).trans ?_; first | assumption | exact zu_s)))))))) (by omega) (by omega) ?_
    refine zn_iast (pc := 34) C dBk_bringIn_34 (by first | assumption | exact zu_s | (refine (zu_n (by assumption)).trans ?_; first | assumption | exact zu_s | (refine (zu_n (by assumption)).trans ?_; first | assumption | exact zu_s | (refine (zu_n (by assumption)).trans ?_; first | assumption | exact zu_s | (refine (zu_n (by assumption)).trans ?_; first | assumption | exact zu_s | (refine (zu_n (by assumption)).trans ?_; first | assumption | exact zu_s | (refine (zu_n (by assumption)).trans ?_; first | assumption | exact zu_s | (refine (zu_n (by assumption)).trans ?_; first | assumption | exact zu_s)))))))) (by omega) (by omega) ?_
    refine zv_aload_n (pc := 35) C dBk_bringIn_35 rfl ?_
    refine zv_get (pc := 36) C dBk_bringIn_36 fBk_18 (by first | assumption | exact zu_s | (refine (zu_n (by assumption)).trans ?_; first | assumption | exact zu_s | (refine (zu_n (by assumption)).trans ?_; first | assumption | exact zu_s | (refine (zu_n (by assumption)).trans ?_; first | assumption | exact zu_s | (refine (zu_n (by assumption)).trans ?_; first | assumption | exact zu_s | (refine (zu_n (by assumption)).trans ?_; first | assumption | exact zu_s | (refine (zu_n (by assumption)).trans ?_; first | assumption | exact zu_s | (refine (zu_n (by assumption)).trans ?_; first | assumption | exact zu_s)))))))) rfl ?_
    refine zv_aload_n (pc := 39) C dBk_bringIn_39 rfl ?_
    refine zv_get (pc := 40) C dBk_bringIn_40 fBk_28 (by first | assumption | exact zu_s | (refine (zu_n (by assumption)).trans ?_; first | assumption | exact zu_s | (refine (zu_n (by assumption)).trans ?_; first | assumption | exact zu_s | (refine (zu_n (by assumption)).trans ?_; first | assumption | exact zu_s | (refine (zu_n (by assumption)).trans ?_; first | assumption | exact zu_s | (refine (zu_n (by assumption)).trans ?_; first | assumption | exact zu_s | (refine (zu_n (by assumption)).trans ?_; first | assumption | exact zu_s | (refine (zu_n (by assumption)).trans ?_; first | assumption | exact zu_s)))))))) rfl ?_
    refine zv_aload_n (pc := 43) C dBk_bringIn_43 rfl ?_
    refine zv_get (pc := 44) C dBk_bringIn_44 fBk_38 (by first | assumption | exact zu_s | (refine (zu_n (by assumption)).trans ?_; first | assumption | exact zu_s | (refine (zu_n (by assumption)).trans ?_; first | assumption | exact zu_s | (refine (zu_n (by assumption)).trans ?_; first | assumption | exact zu_s | (refine (zu_n (by assumption)).trans ?_; first | assumption | exact zu_s | (refine (zu_n (by assumption)).trans ?_; first | assumption | exact zu_s | (refine (zu_n (by assumption)).trans ?_; first | assumption | exact zu_s | (refine (zu_n (by assumption)).trans ?_; first | assumption | exact zu_s)))))))) rfl ?_
    refine zv_iload (pc := 47) C dBk_bringIn_47 rfl ?_
    refine zn_lald (pc := 49) C dBk_bringIn_49 (by first | assumption | exact zu_s | (refine (zu_n (by assumption)).trans ?_; first | assumption | exact zu_s | (refine (zu_n (by assumption)).trans ?_; first | assumption | exact zu_s | (refine (zu_n (by assumption)).trans ?_; first | assumption | exact zu_s | (refine (zu_n (by assumption)).trans ?_; first | assumption | exact zu_s | (refine (zu_n (by assumption)).trans ?_; first | assumption | exact zu_s | (refine (zu_n (by assumption)).trans ?_; first | assumption | exact zu_s | (refine (zu_n (by assumption)).trans ?_; first | assumption | exact zu_s)))))))) (by omega) (by omega) ?_
    refine zn_last (pc := 50) C dBk_bringIn_50 (by first | assumption | exact zu_s | (refine (zu_n (by assumption)).trans ?_; first | assumption | exact zu_s | (refine (zu_n (by assumption)).trans ?_; first | assumption | exact zu_s | (refine (zu_n (by assumption)).trans ?_; first | assumption | exact zu_s | (refine (zu_n (by assumption)).trans ?_; first | assumption | exact zu_s | (refine (zu_n (by assumption)).trans ?_; first | assumption | exact zu_s | (refine (zu_n (by assumption)).trans ?_; first | assumption | exact zu_s | (refine (zu_n (by assumption)).trans ?_; first | assumption | exact zu_s)))))))) (by omega) (by omega) ?_
    refine zv_aload_n (pc := 51) C dBk_bringIn_51 rfl ?_
    refine zv_get (pc := 52) C dBk_bringIn_52 fBk_22 (by first | assumption | exact zu_s | (refine (zu_n (by assumption)).trans ?_; first | assumption | exact zu_s | (refine (zu_n (by assumption)).trans ?_; first | assumption | exact zu_s | (refine (zu_n (by assumption)).trans ?_; first | assumption | exact zu_s | (refine (zu_n (by assumption)).trans ?_; first | assumption | exact zu_s | (refine (zu_n (by assumption)).trans ?_; first | assumption | exact zu_s | (refine (zu_n (by assumption)).trans ?_; first | assumption | exact zu_s | (refine (zu_n (by assumption)).trans ?_; first | assumption | exact zu_s)))))))) rfl ?_
    refine zv_aload_n (pc := 55) C dBk_bringIn_55 rfl ?_
    refine zv_get (pc := 56) C dBk_bringIn_56 fBk_28 (by first | assumption | exact zu_s | (refine (zu_n (by assumption)).trans ?_; first | assumption | exact zu_s | (refine (zu_n (by assumption)).trans ?_; first | assumption | exact zu_s | (refine (zu_n (by assumption)).trans ?_; first | assumption | exact zu_s | (refine (zu_n (by assumption)).trans ?_; first | assumption | exact zu_s | (refine (zu_n (by assumption)).trans ?_; first | assumption | exact zu_s | (refine (zu_n (by assumption)).trans ?_; first | assumption | exact zu_s | (refine (zu_n (by assumption)).trans ?_; first | assumption | exact zu_s)))))))) rfl ?_
    refine zv_aload_n (pc := 59) C dBk_bringIn_59 rfl ?_
    refine zv_get (pc := 60) C dBk_bringIn_60 fBk_39 (by first | assumption | exact zu_s | (refine (zu_n (by assumption)).trans ?_; first | assumption | exact zu_s | (refine (zu_n (by assumption)).trans ?_; first | assumption | exact zu_s | (refine (zu_n (by assumption)).trans ?_; first | assumption | exact zu_s | (refine (zu_n (by assumption)).trans ?_; first | assumption | exact zu_s | (refine (zu_n (by assumption)).trans ?_; first | assumption | exact zu_s | (refine (zu_n (by assumption)).trans ?_; first | assumption | exact zu_s | (refine (zu_n (by assumption)).trans ?_; first | assumption | exact zu_s)))))))) rfl ?_
    refine zn_iast (pc := 63) C dBk_bringIn_63 (by first | assumption | exact zu_s | (refine (zu_n (by assumption)).trans ?_; first | assumption | exact zu_s | (refine (zu_n (by assumption)).trans ?_; first | assumption | exact zu_s | (refine (zu_n (by assumption)).trans ?_; first | assumption | exact zu_s | (refine (zu_n (by assumption)).trans ?_; first | assumption | exact zu_s | (refine (zu_n (by assumption)).trans ?_; first | assumption | exact zu_s | (refine (zu_n (by assumption)).trans ?_; first | assumption | exact zu_s | (refine (zu_n (by assumption)).trans ?_; first | assumption | exact zu_s)))))))) (by omega) (by omega) ?_
    refine zv_aload_n (pc := 64) C dBk_bringIn_64 rfl ?_
    refine zv_get (pc := 65) C dBk_bringIn_65 fBk_25 (by first | assumption | exact zu_s | (refine (zu_n (by assumption)).trans ?_; first | assumption | exact zu_s | (refine (zu_n (by assumption)).trans ?_; first | assumption | exact zu_s | (refine (zu_n (by assumption)).trans ?_; first | assumption | exact zu_s | (refine (zu_n (by assumption)).trans ?_; first | assumption | exact zu_s | (refine (zu_n (by assumption)).trans ?_; first | assumption | exact zu_s | (refine (zu_n (by assumption)).trans ?_; first | assumption | exact zu_s | (refine (zu_n (by assumption)).trans ?_; first | assumption | exact zu_s)))))))) rfl ?_
    refine zv_aload_n (pc := 68) C dBk_bringIn_68 rfl ?_
    refine zv_get (pc := 69) C dBk_bringIn_69 fBk_28 (by first | assumption | exact zu_s | (refine (zu_n (by assumption)).trans ?_; first | assumption | exact zu_s | (refine (zu_n (by assumption)).trans ?_; first | assumption | exact zu_s | (refine (zu_n (by assumption)).trans ?_; first | assumption | exact zu_s | (refine (zu_n (by assumption)).trans ?_; first | assumption | exact zu_s | (refine (zu_n (by assumption)).trans ?_; first | assumption | exact zu_s | (refine (zu_n (by assumption)).trans ?_; first | assumption | exact zu_s | (refine (zu_n (by assumption)).trans ?_; first | assumption | exact zu_s)))))))) rfl ?_
    refine zv_aload_n (pc := 72) C dBk_bringIn_72 rfl ?_
    refine zv_get (pc := 73) C dBk_bringIn_73 fBk_42 (by first | assumption | exact zu_s | (refine (zu_n (by assumption)).trans ?_; first | assumption | exact zu_s | (refine (zu_n (by assumption)).trans ?_; first | assumption | exact zu_s | (refine (zu_n (by assumption)).trans ?_; first | assumption | exact zu_s | (refine (zu_n (by assumption)).trans ?_; first | assumption | exact zu_s | (refine (zu_n (by assumption)).trans ?_; first | assumption | exact zu_s | (refine (zu_n (by assumption)).trans ?_; first | assumption | exact zu_s | (refine (zu_n (by assumption)).trans ?_; first | assumption | exact zu_s)))))))) rfl ?_
    refine zn_iast (pc := 76) C dBk_bringIn_76 (by first | assumption | exact zu_s | (refine (zu_n (by assumption)).trans ?_; first | assumption | exact zu_s | (refine (zu_n (by assumption)).trans ?_; first | assumption | exact zu_s | (refine (zu_n (by assumption)).trans ?_; first | assumption | exact zu_s | (refine (zu_n (by assumption)).trans ?_; first | assumption | exact zu_s | (refine (zu_n (by assumption)).trans ?_; first | assumption | exact zu_s | (refine (zu_n (by assumption)).trans ?_; first | assumption | exact zu_s | (refine (zu_n (by assumption)).trans ?_; first | assumption | exact zu_s)))))))) (by omega) (by omega) ?_
    refine zv_aload_n (pc := 77) C dBk_bringIn_77 rfl ?_
    refine zv_dup (pc := 78) C dBk_bringIn_78 rfl ?_
    refine zv_get (pc := 79) C dBk_bringIn_79 fBk_28 (by first | assumption | exact zu_s | (refine (zu_n (by assumption)).trans ?_; first | assumption | exact zu_s | (refine (zu_n (by assumption)).trans ?_; first | assumption | exact zu_s | (refine (zu_n (by assumption)).trans ?_; first | assumption | exact zu_s | (refine (zu_n (by assumption)).trans ?_; first | assumption | exact zu_s | (refine (zu_n (by assumption)).trans ?_; first | assumption | exact zu_s | (refine (zu_n (by assumption)).trans ?_; first | assumption | exact zu_s | (refine (zu_n (by assumption)).trans ?_; first | assumption | exact zu_s)))))))) rfl ?_
    refine zv_iconst (pc := 82) (v := 1) C dBk_bringIn_82 (by decide) ?_
    refine zv_iadd (pc := 83) C dBk_bringIn_83 ?_
    refine zv_topi (nI_1 (n + j)) ?_
    refine zv_put (pc := 84) C dBk_bringIn_84 fBk_28 ⟨tkBk, nmBk⟩ (by first | assumption | exact zu_s | (refine (zu_n (by assumption)).trans ?_; first | assumption | exact zu_s | (refine (zu_n (by assumption)).trans ?_; first | assumption | exact zu_s | (refine (zu_n (by assumption)).trans ?_; first | assumption | exact zu_s | (refine (zu_n (by assumption)).trans ?_; first | assumption | exact zu_s | (refine (zu_n (by assumption)).trans ?_; first | assumption | exact zu_s | (refine (zu_n (by assumption)).trans ?_; first | assumption | exact zu_s | (refine (zu_n (by assumption)).trans ?_; first | assumption | exact zu_s)))))))) rfl (tkBk 5 (by decide)) rfl rfl (Nat.le_of_ble_eq_true rfl) ?_
    refine zv_aload_n (pc := 87) C dBk_bringIn_87 rfl ?_
    refine zv_dup (pc := 88) C dBk_bringIn_88 rfl ?_
    refine zv_get (pc := 89) C dBk_bringIn_89 fBk_32 (by first | assumption | exact zu_s | (refine (zu_n (by assumption)).trans ?_; first | assumption | exact zu_s | (refine (zu_n (by assumption)).trans ?_; first | assumption | exact zu_s | (refine (zu_n (by assumption)).trans ?_; first | assumption | exact zu_s | (refine (zu_n (by assumption)).trans ?_; first | assumption | exact zu_s | (refine (zu_n (by assumption)).trans ?_; first | assumption | exact zu_s | (refine (zu_n (by assumption)).trans ?_; first | assumption | exact zu_s | (refine (zu_n (by assumption)).trans ?_; first | assumption | exact zu_s)))))))) rfl ?_
    refine zv_iconst (pc := 92) (v := 1) C dBk_bringIn_92 (by decide) ?_
    refine zv_iadd (pc := 93) C dBk_bringIn_93 ?_
    refine zv_topi (nI_1 (h + j)) ?_
    refine zv_put (pc := 94) C dBk_bringIn_94 fBk_32 ⟨tkBk, nmBk⟩ (by first | assumption | exact zu_s | (refine (zu_n (by assumption)).trans ?_; first | assumption | exact zu_s | (refine (zu_n (by assumption)).trans ?_; first | assumption | exact zu_s | (refine (zu_n (by assumption)).trans ?_; first | assumption | exact zu_s | (refine (zu_n (by assumption)).trans ?_; first | assumption | exact zu_s | (refine (zu_n (by assumption)).trans ?_; first | assumption | exact zu_s | (refine (zu_n (by assumption)).trans ?_; first | assumption | exact zu_s | (refine (zu_n (by assumption)).trans ?_; first | assumption | exact zu_s)))))))) rfl (tkBk 6 (by decide)) rfl rfl (Nat.le_of_ble_eq_true rfl) ?_
    refine zv_iinc (pc := 97) C dBk_bringIn_97 rfl (zn_inc j) (by decide) ?_
    refine zv_goto (pc := 100) (tgt := 3) C dBk_bringIn_100 (by decide) ?_
    refine zv_pick [0, 1, 2, 3, 4] rfl (ih (j + 1) (by omega) _ ⟨⟨(by first | assumption | exact zu_s | (refine (zu_n (by assumption)).trans ?_; first | assumption | exact zu_s | (refine (zu_n (by assumption)).trans ?_; first | assumption | exact zu_s | (refine (zu_n (by assumption)).trans ?_; first | assumption | exact zu_s | (refine (zu_n (by assumption)).trans ?_; first | assumption | exact zu_s | (refine (zu_n (by assumption)).trans ?_; first | assumption | exact zu_s | (refine (zu_n (by assumption)).trans ?_; first | assumption | exact zu_s | (refine (zu_n (by assumption)).trans ?_; first | assumption | exact zu_s)))))))), (by rw [← brI_s]; exact (by first | assumption | exact zu_s | (refine (zu_n (by assumption)).trans ?_; first | assumption | exact zu_s | (refine (zu_n (by assumption)).trans ?_; first | assumption | exact zu_s | (refine (zu_n (by assumption)).trans ?_; first | assumption | exact zu_s | (refine (zu_n (by assumption)).trans ?_; first | assumption | exact zu_s | (refine (zu_n (by assumption)).trans ?_; first | assumption | exact zu_s | (refine (zu_n (by assumption)).trans ?_; first | assumption | exact zu_s | (refine (zu_n (by assumption)).trans ?_; first | assumption | exact zu_s))))))))), (by rw [← brI_s]; exact (by first | assumption | exact zu_s | (refine (zu_n (by assumption)).trans ?_; first | assumption | exact zu_s | (refine (zu_n (by assumption)).trans ?_; first | assumption | exact zu_s | (refine (zu_n (by assumption)).trans ?_; first | assumption | exact zu_s | (refine (zu_n (by assumption)).trans ?_; first | assumption | exact zu_s | (refine (zu_n (by assumption)).trans ?_; first | assumption | exact zu_s | (refine (zu_n (by assumption)).trans ?_; first | assumption | exact zu_s | (refine (zu_n (by assumption)).trans ?_; first | assumption | exact zu_s))))))))), (by rw [← brJ_s]; exact (by first | assumption | exact zu_s | (refine (zu_n (by assumption)).trans ?_; first | assumption | exact zu_s | (refine (zu_n (by assumption)).trans ?_; first | assumption | exact zu_s | (refine (zu_n (by assumption)).trans ?_; first | assumption | exact zu_s | (refine (zu_n (by assumption)).trans ?_; first | assumption | exact zu_s | (refine (zu_n (by assumption)).trans ?_; first | assumption | exact zu_s | (refine (zu_n (by assumption)).trans ?_; first | assumption | exact zu_s | (refine (zu_n (by assumption)).trans ?_; first | assumption | exact zu_s))))))))), (by rw [← brI_s]; exact (by first | assumption | exact zu_s | (refine (zu_n (by assumption)).trans ?_; first | assumption | exact zu_s | (refine (zu_n (by assumption)).trans ?_; first | assumption | exact zu_s | (refine (zu_n (by assumption)).trans ?_; first | assumption | exact zu_s | (refine (zu_n (by assumption)).trans ?_; first | assumption | exact zu_s | (refine (zu_n (by assumption)).trans ?_; first | assumption | exact zu_s | (refine (zu_n (by assumption)).trans ?_; first | assumption | exact zu_s | (refine (zu_n (by assumption)).trans ?_; first | assumption | exact zu_s))))))))), (by rw [← brI_s]; exact (by first | assumption | exact zu_s | (refine (zu_n (by assumption)).trans ?_; first | assumption | exact zu_s | (refine (zu_n (by assumption)).trans ?_; first | assumption | exact zu_s | (refine (zu_n (by assumption)).trans ?_; first | assumption | exact zu_s | (refine (zu_n (by assumption)).trans ?_; first | assumption | exact zu_s | (refine (zu_n (by assumption)).trans ?_; first | assumption | exact zu_s | (refine (zu_n (by assumption)).trans ?_; first | assumption | exact zu_s | (refine (zu_n (by assumption)).trans ?_; first | assumption | exact zu_s)))))))))⟩, fun q e1 e2 => ?_⟩)
    rw [← gk q e1 e2]
    simp only [List.mem_cons, List.not_mem_nil, or_false, not_or] at e2
    simp only [zu, if_neg e1, if_neg e2.1, if_neg e2.2.1, if_neg e2.2.2.1, if_neg e2.2.2.2.1, if_neg e2.2.2.2.2]
set_option maxHeartbeats 4000000 in
set_option maxRecDepth 100000 in
theorem cBk_bringIn {O : zO} {l : Launch} (hk : zK O l) (G : zG) (a0 a1 n h r : Nat) {b1 b2 b3 b4 b5 : Nat} {f1 f2 : Nat → Int32} {f3 : Nat → Int64} {f4 f5 : Nat → Int32} {vd kd rv : Int32} {aa ac : Nat} {sz sa rb tf : Int32} {fa : Nat → Int32} {fc : Nat → Int64} (x : Int32) (hK : zBk O G a0 b1 b2 b3 b4 b5 n h f1 f2 f3 f4 f5) (hN : [b1, b2, b3, b4, b5].Nodup) (hB : G a1 = some (oBa vd kd rv aa ac sz sa rb tf)) (ha : G aa = some (zI O 20 fa)) (hc : G ac = some (zJ O 20 fc)) (m0 : a1 ≠ a0 ∧ aa ≠ a0 ∧ ac ≠ a0) (m1 : a1 ∉ [b1, b2, b3, b4, b5]) (m2 : aa ∉ [b1, b2, b3, b4, b5]) (m3 : ac ∉ [b1, b2, b3, b4, b5]) (m4 : a0 ∉ [b1, b2, b3, b4, b5]) (hr20 : r ≤ 20) (hn : n + r ≤ 400) : zM O l yBk_bringIn [Cond.code yBk_bringIn bBk_bringIn 5 none] rmBk_bringIn [.ref a0, .int x, .ref a1, .int (nI r)] G 0 0 (fun v G' => v = none ∧ zBr O G G' a0 b1 b2 b3 b4 b5 n h f1 f2 f3 f4 f5 x vd kd fa fc r) zNo := by
  refine zm_of hk (by decide) (Nat.le_of_ble_eq_true rfl) ?_
  intro p e s m below meth c C hex hr hnm
  refine zv_iconst (pc := 0) (v := 0) C dBk_bringIn_0 (by decide) ?_
  refine zv_istore (pc := 1) C dBk_bringIn_1 (by decide) ?_
  refine zv_pick [0, 1, 2, 3, 4] rfl (lBk_bringIn a0 a1 n h r x C hN hB ha hc m0 m1 m2 m3 m4 hr20 hn (fun G1 hG1 => ?_) r 0 (by omega) G ⟨by rw [brI_0, brI_0, brJ_0, brI_0, brI_0]; exact hK, fun _ _ _ => rfl⟩)
  exact zv_vret (pc := 103) C hr dBk_bringIn_103 (Nat.le_of_ble_eq_true rfl) (Nat.le_of_ble_eq_true rfl) (by exact ⟨rfl, hG1⟩)
end
section
/-! the state of the class: what its cells hold -/
/-- a batch: valid, known, reverses, size, state, reversed by, told to fail, accounts, cents -/
abbrev aB : Type := Int32 × Int32 × Int32 × Nat × Int32 × Int32 × Int32 × (Nat → Int32) × (Nat → Int64)
abbrev bvd (b : aB) : Int32 := b.1
abbrev bkd (b : aB) : Int32 := b.2.1
abbrev brv (b : aB) : Int32 := b.2.2.1
abbrev bsz (b : aB) : Nat := b.2.2.2.1
abbrev bst (b : aB) : Int32 := b.2.2.2.2.1
abbrev brb (b : aB) : Int32 := b.2.2.2.2.2.1
abbrev btf (b : aB) : Int32 := b.2.2.2.2.2.2.1
abbrev bfa (b : aB) : Nat → Int32 := b.2.2.2.2.2.2.2.1
abbrev bfc (b : aB) : Nat → Int64 := b.2.2.2.2.2.2.2.2
/-- the ledger's rows: how many; batch, account, cents, valid, known -/
abbrev aL : Type := Nat × (Nat → Int32) × (Nat → Int32) × (Nat → Int64) × (Nat → Int32) × (Nat → Int32)
/-- accounts and kinds; batches; the ledger; parts and costs; closed, latest, wrong, named, failures -/
abbrev aS : Type := (Nat × (Nat → Int32)) × (Nat × (Nat → aB)) × aL × ((Nat → Int32) × (Nat → Int32)) × (Int32 × Int32 × Int32 × Int32 × Int32)
abbrev sna (S : aS) : Nat := S.1.1
abbrev skd (S : aS) : Nat → Int32 := S.1.2
abbrev snb (S : aS) : Nat := S.2.1.1
abbrev sB (S : aS) : Nat → aB := S.2.1.2
abbrev sL (S : aS) : aL := S.2.2.1
abbrev sn (S : aS) : Nat := S.2.2.1.1
abbrev sfp (S : aS) : Nat → Int32 := S.2.2.2.1.1
abbrev sfq (S : aS) : Nat → Int32 := S.2.2.2.1.2
abbrev scd (S : aS) : Int32 := S.2.2.2.2.1
abbrev slk (S : aS) : Int32 := S.2.2.2.2.2.1
abbrev swr (S : aS) : Int32 := S.2.2.2.2.2.2.1
abbrev snm (S : aS) : Int32 := S.2.2.2.2.2.2.2.1
abbrev sfl (S : aS) : Int32 := S.2.2.2.2.2.2.2.2
/-- a batch's three cells -/
def zBat (O : zO) (G : zG) (x y z : Nat) (b : aB) : Prop := G x = some (oBa (bvd b) (bkd b) (brv b) y z (nI (bsz b)) (bst b) (brb b) (btf b)) ∧ G y = some (zI O 20 (bfa b)) ∧ G z = some (zJ O 20 (bfc b))
/-- bounds -/
def aOk (S : aS) : Prop := sna S ≤ 12 ∧ snb S ≤ 100 ∧ sn S ≤ 400 ∧ ∀ i, i < snb S → bsz (sB S i) ≤ 20
/-- the class's cells hold S: root, kinds, batches, book, shares at ad 0 .. ad 4, the book's arrays at ad 5 .. ad 9, parts and costs at ad 10, ad 11; the batch i at ad (12 + 3 i) and behind it; b: what the array of batches holds -/
def zRep (O : zO) (G : zG) (ad : Nat → Nat) (S : aS) : Prop :=
  (∀ i j, i < 12 + 3 * snb S → j < 12 + 3 * snb S → ad i = ad j → i = j) ∧
  G (ad 0) = some (oDu (ad 1) (ad 2) (ad 3) (ad 4) (nI (sna S)) (nI (snb S)) (scd S) (slk S) (swr S) (snm S) (sfl S)) ∧
  G (ad 1) = some (zI O 12 (skd S)) ∧
  (∃ fb : Nat → Option Nat, G (ad 2) = some (zQ O 3 100 fb) ∧ ∀ i, i < snb S → fb i = some (ad (12 + 3 * i))) ∧
  zBk O G (ad 3) (ad 5) (ad 6) (ad 7) (ad 8) (ad 9) (sn S) 0 (sL S).2.1 (sL S).2.2.1 (sL S).2.2.2.1 (sL S).2.2.2.2.1 (sL S).2.2.2.2.2 ∧
  (G (ad 4) = some (oSh (ad 10) (ad 11)) ∧ G (ad 10) = some (zI O 24 (sfp S)) ∧ G (ad 11) = some (zI O 6 (sfq S))) ∧
  ∀ i, i < snb S → zBat O G (ad (12 + 3 * i)) (ad (13 + 3 * i)) (ad (14 + 3 * i)) (sB S i)
theorem zRep.ne {O : zO} {G : zG} {ad : Nat → Nat} {S : aS} (h : zRep O G ad S) {i j : Nat} (hi : i < 12 + 3 * snb S) (hj : j < 12 + 3 * snb S) (hij : i ≠ j) : ad i ≠ ad j := fun q => hij (h.1 i j hi hj q)
theorem isAccB_nI {j n : Nat} (hj : j < n) (hn : n < 2 ^ 31) : isAccB (nI j) (nI n) = true := by
  simp [isAccB, nI_pos (show j < 2 ^ 31 by omega), nI_ge hj hn]
theorem isAccB_of {x : Int32} {n : Nat} (hn : n < 2 ^ 31) (h : isAccB x (nI n) = true) : ∃ j : Nat, j < n ∧ x = nI j := by
  rcases pk_ix x hn with h1 | h1 | h1
  · simp [isAccB, h1] at h
  · simp [isAccB, h1] at h
  · exact h1
end
section
set_option maxHeartbeats 4000000 in
set_option maxRecDepth 100000 in
theorem cDu_batchAtT {O : zO} {l : Launch} (hk : zK O l) (G : zG) (i : Nat) {ad : Nat → Nat} {S : aS} (hR : zRep O G ad S) (hS : aOk S) (hi : i < snb S) : zM O l yDu_batchAt [Cond.code yDu_batchAt bDu_batchAt 2 (some (.object "DutyLedger$Batch"))] rmDu_batchAt [.ref (ad 0), .int (nI i)] G 0 0 (zPr (.ref (ad (12 + 3 * i))) G) zNo := by
  refine zm_of hk (by decide) (Nat.le_of_ble_eq_true rfl) ?_
  intro p e s m below meth c C hex hr hnm
  obtain ⟨hinj, hD, hK1, ⟨fb, hF, hfb⟩, hBk, ⟨hSh, hp1, hp2⟩, hbs⟩ := id hR
  obtain ⟨ok1, ok2, ok3, ok4⟩ := id hS
  refine zv_iload_n (pc := 0) C dDu_batchAt_0 rfl ?_
  refine zv_if_lt (pc := 1) (tgt := 21) C dDu_batchAt_1 (by decide) (fun c1 => absurd c1 (nI_pos (by omega))) (fun c1 => ?_)
  refine zv_iload_n (pc := 4) C dDu_batchAt_4 rfl ?_
  refine zv_aload_n (pc := 5) C dDu_batchAt_5 rfl ?_
  refine zv_get (pc := 6) C dDu_batchAt_6 fDu_23 (by first | assumption | exact zu_s | (refine (zu_n (by assumption)).trans ?_; first | assumption | exact zu_s)) rfl ?_
  refine zv_icmp_ge (pc := 9) (tgt := 21) C dDu_batchAt_9 (by decide) (fun c9 => absurd c9 (nI_ge hi (by omega))) (fun c9 => ?_)
  refine zv_aload_n (pc := 12) C dDu_batchAt_12 rfl ?_
  refine zv_get (pc := 13) C dDu_batchAt_13 fDu_19 (by first | assumption | exact zu_s | (refine (zu_n (by assumption)).trans ?_; first | assumption | exact zu_s)) rfl ?_
  refine zv_iload_n (pc := 16) C dDu_batchAt_16 rfl ?_
  refine zn_aald (pc := 17) C dDu_batchAt_17 hF (by omega) (by omega) ?_
  rw [hfb i hi]
  refine zv_goto (pc := 18) (tgt := 22) C dDu_batchAt_18 (by decide) ?_
  exact zv_aret (pc := 22) C hr (Or.inl ⟨_, rfl⟩) (by first | exact Or.inl rfl | exact Or.inr ⟨_, rfl⟩) dDu_batchAt_22 (Nat.le_of_ble_eq_true rfl) (Nat.le_of_ble_eq_true rfl) (by exact ⟨rfl, rfl⟩)
set_option maxHeartbeats 4000000 in
set_option maxRecDepth 100000 in
theorem cDu_batchAtF {O : zO} {l : Launch} (hk : zK O l) (G : zG) (x : Int32) {ad : Nat → Nat} {S : aS} (hR : zRep O G ad S) (hS : aOk S) (hx : isAccB x (nI (snb S)) = false) : zM O l yDu_batchAt [Cond.code yDu_batchAt bDu_batchAt 2 (some (.object "DutyLedger$Batch"))] rmDu_batchAt [.ref (ad 0), .int x] G 0 0 (zPr (.null) G) zNo := by
  refine zm_of hk (by decide) (Nat.le_of_ble_eq_true rfl) ?_
  intro p e s m below meth c C hex hr hnm
  obtain ⟨hinj, hD, hK1, ⟨fb, hF, hfb⟩, hBk, ⟨hSh, hp1, hp2⟩, hbs⟩ := id hR
  obtain ⟨ok1, ok2, ok3, ok4⟩ := id hS
  refine zv_iload_n (pc := 0) C dDu_batchAt_0 rfl ?_
  refine zv_if_lt (pc := 1) (tgt := 21) C dDu_batchAt_1 (by decide) (fun c1 => ?_) (fun c1 => ?_)
  · refine zv_null (pc := 21) C dDu_batchAt_21 ?_
    exact zv_aret (pc := 22) C hr (Or.inl ⟨_, rfl⟩) (by first | exact Or.inl rfl | exact Or.inr ⟨_, rfl⟩) dDu_batchAt_22 (Nat.le_of_ble_eq_true rfl) (Nat.le_of_ble_eq_true rfl) (by exact ⟨rfl, rfl⟩)
  · refine zv_iload_n (pc := 4) C dDu_batchAt_4 rfl ?_
    refine zv_aload_n (pc := 5) C dDu_batchAt_5 rfl ?_
    refine zv_get (pc := 6) C dDu_batchAt_6 fDu_23 (by first | assumption | exact zu_s | (refine (zu_n (by assumption)).trans ?_; first | assumption | exact zu_s)) rfl ?_
    refine zv_icmp_ge (pc := 9) (tgt := 21) C dDu_batchAt_9 (by decide) (fun c9 => ?_) (fun c9 => by simp [isAccB, c1, c9] at hx)
    refine zv_null (pc := 21) C dDu_batchAt_21 ?_
    exact zv_aret (pc := 22) C hr (Or.inl ⟨_, rfl⟩) (by first | exact Or.inl rfl | exact Or.inr ⟨_, rfl⟩) dDu_batchAt_22 (Nat.le_of_ble_eq_true rfl) (Nat.le_of_ble_eq_true rfl) (by exact ⟨rfl, rfl⟩)
set_option maxHeartbeats 4000000 in
set_option maxRecDepth 100000 in
theorem cDu_batchThatIsT {O : zO} {l : Launch} (hk : zK O l) (G : zG) (i : Nat) (w : Int32) {ad : Nat → Nat} {S : aS} (hR : zRep O G ad S) (hS : aOk S) (hi : i < snb S) (hw : bst (sB S i) = w) : zM O l yDu_batchThatIs [Cond.code yDu_batchThatIs bDu_batchThatIs 4 (some (.object "DutyLedger$Batch"))] rmDu_batchThatIs [.ref (ad 0), .int w, .int (nI i)] G 0 0 (zPr (.ref (ad (12 + 3 * i))) G) zNo := by
  refine zm_of hk (by decide) (Nat.le_of_ble_eq_true rfl) ?_
  intro p e s m below meth c C hex hr hnm
  obtain ⟨hinj, hD, hK1, ⟨fb, hF, hfb⟩, hBk, ⟨hSh, hp1, hp2⟩, hbs⟩ := id hR
  obtain ⟨ok1, ok2, ok3, ok4⟩ := id hS
  obtain ⟨hb1, hb2, hb3⟩ := hbs i hi
  refine zv_aload_n (pc := 0) C dDu_batchThatIs_0 rfl ?_
  refine zv_iload_n (pc := 1) C dDu_batchThatIs_1 rfl ?_
  refine zv_callV (pc := 2) C dDu_batchThatIs_2 (cDu_batchAtT hk _ _ hR hS hi) gDu_209 ⟨rfl, rfl, ⟨Nat.le_of_ble_eq_true rfl, Nat.le_of_ble_eq_true rfl⟩, mDu_batchAt⟩ rfl rfl (Nat.le_of_ble_eq_true rfl) (by first | assumption | exact zu_s | (refine (zu_n (by assumption)).trans ?_; first | assumption | exact zu_s)) rfl rfl ⟨Nat.le_of_ble_eq_true rfl, Nat.le_of_ble_eq_true rfl⟩ (fun _ _ h => h.elim) (fun v G' h => ?_)
  obtain ⟨rfl, rfl⟩ := h
  refine zv_astore_n (pc := 5) C dDu_batchThatIs_5 (by decide) ?_
  refine zv_aload_n (pc := 6) C dDu_batchThatIs_6 rfl ?_
  refine zv_ifnull (pc := 7) C dDu_batchThatIs_7 ?_
  refine zv_aload_n (pc := 10) C dDu_batchThatIs_10 rfl ?_
  refine zv_get (pc := 11) C dDu_batchThatIs_11 fDu_215 (by first | assumption | exact zu_s | (refine (zu_n (by assumption)).trans ?_; first | assumption | exact zu_s)) rfl ?_
  refine zv_iload_n (pc := 14) C dDu_batchThatIs_14 rfl ?_
  refine zv_icmp_ne (pc := 15) (tgt := 22) C dDu_batchThatIs_15 (by decide) (fun c15 => absurd hw c15) (fun c15 => ?_)
  refine zv_aload_n (pc := 18) C dDu_batchThatIs_18 rfl ?_
  refine zv_goto (pc := 19) (tgt := 23) C dDu_batchThatIs_19 (by decide) ?_
  exact zv_aret (pc := 23) C hr (Or.inl ⟨_, rfl⟩) (by first | exact Or.inl rfl | exact Or.inr ⟨_, rfl⟩) dDu_batchThatIs_23 (Nat.le_of_ble_eq_true rfl) (Nat.le_of_ble_eq_true rfl) (by exact ⟨rfl, rfl⟩)
set_option maxHeartbeats 4000000 in
set_option maxRecDepth 100000 in
theorem cDu_batchThatIsO {O : zO} {l : Launch} (hk : zK O l) (G : zG) (i : Nat) (w : Int32) {ad : Nat → Nat} {S : aS} (hR : zRep O G ad S) (hS : aOk S) (hi : i < snb S) (hw : ¬ bst (sB S i) = w) : zM O l yDu_batchThatIs [Cond.code yDu_batchThatIs bDu_batchThatIs 4 (some (.object "DutyLedger$Batch"))] rmDu_batchThatIs [.ref (ad 0), .int w, .int (nI i)] G 0 0 (zPr (.null) G) zNo := by
  refine zm_of hk (by decide) (Nat.le_of_ble_eq_true rfl) ?_
  intro p e s m below meth c C hex hr hnm
  obtain ⟨hinj, hD, hK1, ⟨fb, hF, hfb⟩, hBk, ⟨hSh, hp1, hp2⟩, hbs⟩ := id hR
  obtain ⟨ok1, ok2, ok3, ok4⟩ := id hS
  obtain ⟨hb1, hb2, hb3⟩ := hbs i hi
  refine zv_aload_n (pc := 0) C dDu_batchThatIs_0 rfl ?_
  refine zv_iload_n (pc := 1) C dDu_batchThatIs_1 rfl ?_
  refine zv_callV (pc := 2) C dDu_batchThatIs_2 (cDu_batchAtT hk _ _ hR hS hi) gDu_209 ⟨rfl, rfl, ⟨Nat.le_of_ble_eq_true rfl, Nat.le_of_ble_eq_true rfl⟩, mDu_batchAt⟩ rfl rfl (Nat.le_of_ble_eq_true rfl) (by first | assumption | exact zu_s | (refine (zu_n (by assumption)).trans ?_; first | assumption | exact zu_s)) rfl rfl ⟨Nat.le_of_ble_eq_true rfl, Nat.le_of_ble_eq_true rfl⟩ (fun _ _ h => h.elim) (fun v G' h => ?_)
  obtain ⟨rfl, rfl⟩ := h
  refine zv_astore_n (pc := 5) C dDu_batchThatIs_5 (by decide) ?_
  refine zv_aload_n (pc := 6) C dDu_batchThatIs_6 rfl ?_
  refine zv_ifnull (pc := 7) C dDu_batchThatIs_7 ?_
  refine zv_aload_n (pc := 10) C dDu_batchThatIs_10 rfl ?_
  refine zv_get (pc := 11) C dDu_batchThatIs_11 fDu_215 (by first | assumption | exact zu_s | (refine (zu_n (by assumption)).trans ?_; first | assumption | exact zu_s)) rfl ?_
  refine zv_iload_n (pc := 14) C dDu_batchThatIs_14 rfl ?_
  refine zv_icmp_ne (pc := 15) (tgt := 22) C dDu_batchThatIs_15 (by decide) (fun c15 => ?_) (fun c15 => absurd c15 hw)
  refine zv_null (pc := 22) C dDu_batchThatIs_22 ?_
  exact zv_aret (pc := 23) C hr (Or.inl ⟨_, rfl⟩) (by first | exact Or.inl rfl | exact Or.inr ⟨_, rfl⟩) dDu_batchThatIs_23 (Nat.le_of_ble_eq_true rfl) (Nat.le_of_ble_eq_true rfl) (by exact ⟨rfl, rfl⟩)
set_option maxHeartbeats 4000000 in
set_option maxRecDepth 100000 in
theorem cDu_batchThatIsF {O : zO} {l : Launch} (hk : zK O l) (G : zG) (x w : Int32) {ad : Nat → Nat} {S : aS} (hR : zRep O G ad S) (hS : aOk S) (hx : isAccB x (nI (snb S)) = false) : zM O l yDu_batchThatIs [Cond.code yDu_batchThatIs bDu_batchThatIs 4 (some (.object "DutyLedger$Batch"))] rmDu_batchThatIs [.ref (ad 0), .int w, .int x] G 0 0 (zPr (.null) G) zNo := by
  refine zm_of hk (by decide) (Nat.le_of_ble_eq_true rfl) ?_
  intro p e s m below meth c C hex hr hnm
  obtain ⟨hinj, hD, hK1, ⟨fb, hF, hfb⟩, hBk, ⟨hSh, hp1, hp2⟩, hbs⟩ := id hR
  obtain ⟨ok1, ok2, ok3, ok4⟩ := id hS
  refine zv_aload_n (pc := 0) C dDu_batchThatIs_0 rfl ?_
  refine zv_iload_n (pc := 1) C dDu_batchThatIs_1 rfl ?_
  refine zv_callV (pc := 2) C dDu_batchThatIs_2 (cDu_batchAtF hk _ _ hR hS hx) gDu_209 ⟨rfl, rfl, ⟨Nat.le_of_ble_eq_true rfl, Nat.le_of_ble_eq_true rfl⟩, mDu_batchAt⟩ rfl rfl (Nat.le_of_ble_eq_true rfl) (by first | assumption | exact zu_s | (refine (zu_n (by assumption)).trans ?_; first | assumption | exact zu_s)) rfl rfl ⟨Nat.le_of_ble_eq_true rfl, Nat.le_of_ble_eq_true rfl⟩ (fun _ _ h => h.elim) (fun v G' h => ?_)
  obtain ⟨rfl, rfl⟩ := h
  refine zv_astore_nN (pc := 5) C dDu_batchThatIs_5 (by decide) ?_
  refine zv_aload_nN (pc := 6) C dDu_batchThatIs_6 rfl ?_
  refine zv_ifnullN (pc := 7) (tgt := 22) C dDu_batchThatIs_7 (by decide) ?_
  refine zv_null (pc := 22) C dDu_batchThatIs_22 ?_
  exact zv_aret (pc := 23) C hr (Or.inl ⟨_, rfl⟩) (by first | exact Or.inl rfl | exact Or.inr ⟨_, rfl⟩) dDu_batchThatIs_23 (Nat.le_of_ble_eq_true rfl) (Nat.le_of_ble_eq_true rfl) (by exact ⟨rfl, rfl⟩)
end
section
/-- what is wrong with a batch -/
def wrongB (S : aS) (b : aB) : Int32 := if nI (bsz b) = 0 then 1 else if ¬ sumL (bfc b) (bsz b) = 0 then 2 else if ¬ (scd S < bkd b) then 3 else if ¬ (slk S ≤ bkd b) then 4 else if 400 - nI (sn S) < nI (bsz b) then 5 else 0
def absL (x : Int64) : Int64 := if 0 < x then x else -x
/-- the account farthest from zero, and how far it is -/
def farP (fa : Nat → Int32) (fc : Nat → Int64) (n : Nat) : Nat → Int32 × Int64
  | 0 => (-1, 0)
  | a + 1 => if decide ((farP fa fc n a).2 < absL (sumA fa fc (nI a) n)) then (nI a, absL (sumA fa fc (nI a) n)) else farP fa fc n a
/-- what the accounts of a kind have -/
def colP (S : aS) (x k1 : Int32) : Nat → Int64
  | 0 => 0
  | a + 1 => if decide (skd S a = x) then colP S x k1 a + sumF (sL S).2.2.1 (sL S).2.2.2.2.1 (sL S).2.2.2.2.2 (sL S).2.2.2.1 (nI a) 0 100000 k1 (sn S) else colP S x k1 a
def colS (S : aS) (x k1 : Int32) : Int64 := if 0 < colP S x k1 (sna S) then colP S x k1 (sna S) else 0
set_option maxHeartbeats 4000000 in
set_option maxRecDepth 100000 in
theorem cDu_whatIsWrongWith {O : zO} {l : Launch} (hk : zK O l) (G : zG) (x : Nat) {y z : Nat} {b : aB} (hb : zBat O G x y z b) (hsz : bsz b ≤ 20) {ad : Nat → Nat} {S : aS} (hR : zRep O G ad S) (hS : aOk S) : zM O l yDu_whatIsWrongWith [Cond.code yDu_whatIsWrongWith bDu_whatIsWrongWith 2 (some .int)] rmDu_whatIsWrongWith [.ref (ad 0), .ref x] G 0 0 (zPr (.int (wrongB S b)) G) zNo := by
  refine zm_of hk (by decide) (Nat.le_of_ble_eq_true rfl) ?_
  intro p e s m below meth c C hex hr hnm
  obtain ⟨hinj, hD, hK1, ⟨fb, hF, hfb⟩, hBk, ⟨hSh, hp1, hp2⟩, hbs⟩ := id hR
  obtain ⟨ok1, ok2, ok3, ok4⟩ := id hS
  obtain ⟨hb1, hb2, hb3⟩ := hb
  obtain ⟨hk0, hk1, hk2, hk3, hk4, hk5⟩ := id hBk
  refine zv_aload_n (pc := 0) C dDu_whatIsWrongWith_0 rfl ?_
  refine zv_get (pc := 1) C dDu_whatIsWrongWith_1 fDu_218 (by first | assumption | exact zu_s | (refine (zu_n (by assumption)).trans ?_; first | assumption | exact zu_s)) rfl ?_
  refine zv_if_ne (pc := 4) (tgt := 9) C dDu_whatIsWrongWith_4 (by decide) (fun c4 => ?_) (fun c4 => ?_)
  · refine zv_aload_n (pc := 9) C dDu_whatIsWrongWith_9 rfl ?_
    refine zv_callV (pc := 10) C dDu_whatIsWrongWith_10 (cBa_sum hk _ _ _ (by first | assumption | exact zu_s | (refine (zu_n (by assumption)).trans ?_; first | assumption | exact zu_s)) (by first | assumption | exact zu_s | (refine (zu_n (by assumption)).trans ?_; first | assumption | exact zu_s)) (by omega)) gDu_233 ⟨rfl, rfl, ⟨Nat.le_of_ble_eq_true rfl, Nat.le_of_ble_eq_true rfl⟩, mBa_sum⟩ rfl rfl (Nat.le_of_ble_eq_true rfl) (by first | assumption | exact zu_s | (refine (zu_n (by assumption)).trans ?_; first | assumption | exact zu_s)) rfl rfl ⟨Nat.le_of_ble_eq_true rfl, Nat.le_of_ble_eq_true rfl⟩ (fun _ _ h => h.elim) (fun v G' h => ?_)
    obtain ⟨rfl, rfl⟩ := h
    refine zv_lconst (pc := 13) (v := 0) C dDu_whatIsWrongWith_13 (by decide) ?_
    refine zv_lcmp (pc := 14) C dDu_whatIsWrongWith_14 ?_
    refine zv_if_eq (pc := 15) (tgt := 20) C dDu_whatIsWrongWith_15 (by decide) (fun c15 => ?_) (fun c15 => ?_)
    · refine zv_aload_n (pc := 20) C dDu_whatIsWrongWith_20 rfl ?_
      refine zv_get (pc := 21) C dDu_whatIsWrongWith_21 fDu_222 (by first | assumption | exact zu_s | (refine (zu_n (by assumption)).trans ?_; first | assumption | exact zu_s)) rfl ?_
      refine zv_aload_n (pc := 24) C dDu_whatIsWrongWith_24 rfl ?_
      refine zv_get (pc := 25) C dDu_whatIsWrongWith_25 fDu_40 (by first | assumption | exact zu_s | (refine (zu_n (by assumption)).trans ?_; first | assumption | exact zu_s)) rfl ?_
      refine zv_icmp_gt (pc := 28) (tgt := 33) C dDu_whatIsWrongWith_28 (by decide) (fun c28 => ?_) (fun c28 => ?_)
      · refine zv_aload_n (pc := 33) C dDu_whatIsWrongWith_33 rfl ?_
        refine zv_get (pc := 34) C dDu_whatIsWrongWith_34 fDu_222 (by first | assumption | exact zu_s | (refine (zu_n (by assumption)).trans ?_; first | assumption | exact zu_s)) rfl ?_
        refine zv_aload_n (pc := 37) C dDu_whatIsWrongWith_37 rfl ?_
        refine zv_get (pc := 38) C dDu_whatIsWrongWith_38 fDu_43 (by first | assumption | exact zu_s | (refine (zu_n (by assumption)).trans ?_; first | assumption | exact zu_s)) rfl ?_
        refine zv_icmp_ge (pc := 41) (tgt := 46) C dDu_whatIsWrongWith_41 (by decide) (fun c41 => ?_) (fun c41 => ?_)
        · refine zv_aload_n (pc := 46) C dDu_whatIsWrongWith_46 rfl ?_
          refine zv_get (pc := 47) C dDu_whatIsWrongWith_47 fDu_29 (by first | assumption | exact zu_s | (refine (zu_n (by assumption)).trans ?_; first | assumption | exact zu_s)) rfl ?_
          refine zv_aload_n (pc := 50) C dDu_whatIsWrongWith_50 rfl ?_
          refine zv_get (pc := 51) C dDu_whatIsWrongWith_51 fDu_218 (by first | assumption | exact zu_s | (refine (zu_n (by assumption)).trans ?_; first | assumption | exact zu_s)) rfl ?_
          refine zv_callV (pc := 54) C dDu_whatIsWrongWith_54 (cBk_hasRoomFor hk _ _ _ _ (by first | assumption | exact zu_s | (refine (zu_n (by assumption)).trans ?_; first | assumption | exact zu_s))) gDu_236 ⟨rfl, rfl, ⟨Nat.le_of_ble_eq_true rfl, Nat.le_of_ble_eq_true rfl⟩, mBk_hasRoomFor⟩ rfl rfl (Nat.le_of_ble_eq_true rfl) (by first | assumption | exact zu_s | (refine (zu_n (by assumption)).trans ?_; first | assumption | exact zu_s)) rfl rfl ⟨Nat.le_of_ble_eq_true rfl, Nat.le_of_ble_eq_true rfl⟩ (fun _ _ h => h.elim) (fun v G' h => ?_)
          obtain ⟨rfl, rfl⟩ := h
          refine zv_if_ne (pc := 57) (tgt := 62) C dDu_whatIsWrongWith_57 (by decide) (fun c57 => ?_) (fun c57 => ?_)
          · refine zv_iconst (pc := 62) (v := 0) C dDu_whatIsWrongWith_62 (by decide) ?_
            exact zv_iret (pc := 63) C hr dDu_whatIsWrongWith_63 (Nat.le_of_ble_eq_true rfl) (Nat.le_of_ble_eq_true rfl) (by simp only [lg_cmp_eq] at c15; first | (have c57 := zb_0.mp c57; simp at c57; simp [zPr, wrongB, c4, c15, c28, c41, c57]) | (have c57 := zb_n0.mp c57; simp at c57; simp [zPr, wrongB, c4, c15, c28, c41, Int32.not_lt.mpr c57]))
          · refine zv_iconst (pc := 60) (v := 5) C dDu_whatIsWrongWith_60 (by decide) ?_
            exact zv_iret (pc := 61) C hr dDu_whatIsWrongWith_61 (Nat.le_of_ble_eq_true rfl) (Nat.le_of_ble_eq_true rfl) (by simp only [lg_cmp_eq] at c15; first | (have c57 := zb_0.mp c57; simp at c57; simp [zPr, wrongB, c4, c15, c28, c41, c57]) | (have c57 := zb_n0.mp c57; simp at c57; simp [zPr, wrongB, c4, c15, c28, c41, Int32.not_lt.mpr c57]))
        · refine zv_iconst (pc := 44) (v := 4) C dDu_whatIsWrongWith_44 (by decide) ?_
          exact zv_iret (pc := 45) C hr dDu_whatIsWrongWith_45 (Nat.le_of_ble_eq_true rfl) (Nat.le_of_ble_eq_true rfl) (by simp only [lg_cmp_eq] at c15; simp [zPr, wrongB, c4, c15, c28, c41])
      · refine zv_iconst (pc := 31) (v := 3) C dDu_whatIsWrongWith_31 (by decide) ?_
        exact zv_iret (pc := 32) C hr dDu_whatIsWrongWith_32 (Nat.le_of_ble_eq_true rfl) (Nat.le_of_ble_eq_true rfl) (by simp only [lg_cmp_eq] at c15; simp [zPr, wrongB, c4, c15, c28])
    · refine zv_iconst (pc := 18) (v := 2) C dDu_whatIsWrongWith_18 (by decide) ?_
      exact zv_iret (pc := 19) C hr dDu_whatIsWrongWith_19 (Nat.le_of_ble_eq_true rfl) (Nat.le_of_ble_eq_true rfl) (by simp only [lg_cmp_eq] at c15; simp [zPr, wrongB, c4, c15])
  · refine zv_iconst (pc := 7) (v := 1) C dDu_whatIsWrongWith_7 (by decide) ?_
    exact zv_iret (pc := 8) C hr dDu_whatIsWrongWith_8 (Nat.le_of_ble_eq_true rfl) (Nat.le_of_ble_eq_true rfl) (by simp [zPr, wrongB, c4])
set_option maxHeartbeats 4000000 in
set_option maxRecDepth 100000 in
theorem lDu_accountFarthestFromZero {O : zO} {p : Program} {l : Launch} {e : Env} {s : State} {m : MethodId} {args : Array Value} {below : List Frame} {meth : Method} {c : Code} {Q : State → Prop} {G : zG} (hk : zK O l) (x : Nat) {y z : Nat} {b : aB} {na : Nat} {a0 : Nat} {d1 d2 d3 d4 : Nat} {nb cd lk wr nm fl : Int32} (C : zC O p l s m meth c RDu bDu_accountFarthestFromZero 8) (hD : G a0 = some (oDu d1 d2 d3 d4 (nI na) nb cd lk wr nm fl)) (hb : zBat O G x y z b) (hsz : bsz b ≤ 20) (hna : na ≤ 12) (kk : zV O p l e rmDu_accountFarthestFromZero s m args below meth c 8 Q 46 [(0, .ref a0), (1, .ref x), (2, .int (farP (bfa b) (bfc b) (bsz b) na).1), (3, .long (farP (bfa b) (bfc b) (bsz b) na).2), (5, .int (nI na))] [] G 0 0) : ∀ k j : Nat, j + k = na → zV O p l e rmDu_accountFarthestFromZero s m args below meth c 8 Q 7 [(0, .ref a0), (1, .ref x), (2, .int (farP (bfa b) (bfc b) (bsz b) j).1), (3, .long (farP (bfa b) (bfc b) (bsz b) j).2), (5, .int (nI j))] [] G 0 0 := by
  intro k
  induction k with
  | zero =>
    intro j hj
    obtain ⟨hb1, hb2, hb3⟩ := id hb
    obtain rfl : j = na := by omega
    refine zv_iload (pc := 7) C dDu_accountFarthestFromZero_7 rfl ?_
    refine zv_aload_n (pc := 9) C dDu_accountFarthestFromZero_9 rfl ?_
    refine zv_get (pc := 10) C dDu_accountFarthestFromZero_10 fDu_13 (by first | assumption | exact zu_s | (refine (zu_n (by assumption)).trans ?_; first | assumption | exact zu_s)) rfl ?_
    refine zv_icmp_ge (pc := 13) (tgt := 46) C dDu_accountFarthestFromZero_13 (by decide) (fun cX => ?_) (fun cX => absurd (nI_le (a := j) (b := j) (Nat.le_refl _) (by omega)) cX)
    exact kk
  | succ k ih =>
    intro j hj
    obtain ⟨hb1, hb2, hb3⟩ := id hb
    refine zv_iload (pc := 7) C dDu_accountFarthestFromZero_7 rfl ?_
    refine zv_aload_n (pc := 9) C dDu_accountFarthestFromZero_9 rfl ?_
    refine zv_get (pc := 10) C dDu_accountFarthestFromZero_10 fDu_13 (by first | assumption | exact zu_s | (refine (zu_n (by assumption)).trans ?_; first | assumption | exact zu_s)) rfl ?_
    refine zv_icmp_ge (pc := 13) (tgt := 46) C dDu_accountFarthestFromZero_13 (by decide) (fun cX => absurd cX (nI_ge (a := j) (b := na) (by omega) (by omega))) (fun cX => ?_)
    refine zv_aload_n (pc := 16) C dDu_accountFarthestFromZero_16 rfl ?_
    refine zv_iload (pc := 17) C dDu_accountFarthestFromZero_17 rfl ?_
    refine zv_callV (pc := 19) C dDu_accountFarthestFromZero_19 (cBa_sumOf hk _ _ _ _ (by first | assumption | exact zu_s | (refine (zu_n (by assumption)).trans ?_; first | assumption | exact zu_s)) (by first | assumption | exact zu_s | (refine (zu_n (by assumption)).trans ?_; first | assumption | exact zu_s)) (by omega) (by first | assumption | exact zu_s | (refine (zu_n (by assumption)).trans ?_; first | assumption | exact zu_s))) gDu_242 ⟨rfl, rfl, ⟨Nat.le_of_ble_eq_true rfl, Nat.le_of_ble_eq_true rfl⟩, mBa_sumOf⟩ rfl rfl (Nat.le_of_ble_eq_true rfl) (by first | assumption | exact zu_s | (refine (zu_n (by assumption)).trans ?_; first | assumption | exact zu_s)) rfl rfl ⟨Nat.le_of_ble_eq_true rfl, Nat.le_of_ble_eq_true rfl⟩ (fun _ _ h => h.elim) (fun v G' h => ?_)
    obtain ⟨rfl, rfl⟩ := h
    refine zv_mabsl (pc := 22) C dDu_accountFarthestFromZero_22 zw_384 zw_385 zw_38 zw_386 (Nat.le_of_ble_eq_true rfl) (Nat.le_of_ble_eq_true rfl) (Nat.le_of_ble_eq_true rfl) (Nat.le_of_ble_eq_true rfl) ?_
    refine zv_topl (y := absL (sumA (bfa b) (bfc b) (nI j) (bsz b))) rfl ?_
    refine zv_lstore (pc := 25) C dDu_accountFarthestFromZero_25 (by decide) ?_
    refine zv_lload (pc := 27) C dDu_accountFarthestFromZero_27 rfl ?_
    refine zv_lload_n (pc := 29) C dDu_accountFarthestFromZero_29 rfl ?_
    refine zv_lcmp (pc := 30) C dDu_accountFarthestFromZero_30 ?_
    refine zv_if_le (pc := 31) (tgt := 40) C dDu_accountFarthestFromZero_31 (by decide) (fun c31 => ?_) (fun c31 => ?_)
    · refine zv_iinc (pc := 40) C dDu_accountFarthestFromZero_40 rfl (zn_inc j) (by decide) ?_
      refine zv_goto (pc := 43) (tgt := 7) C dDu_accountFarthestFromZero_43 (by decide) ?_
      exact zv_pick [0, 1, 2, 3, 5] rfl (by
        have h := ih (j + 1) (by omega)
        simp only [lg_cmp_le, Int64.not_le] at c31
        first
          | (have hB : decide ((farP (bfa b) (bfc b) (bsz b) j).2 < absL (sumA (bfa b) (bfc b) (nI j) (bsz b))) = true := by simp [c31, Int64.not_lt]
             simp only [farP, hB, if_true] at h
             exact h)
          | (have hB : decide ((farP (bfa b) (bfc b) (bsz b) j).2 < absL (sumA (bfa b) (bfc b) (nI j) (bsz b))) = false := by simp [c31, Int64.not_lt]
             simp only [farP, hB, Bool.false_eq_true, if_false] at h
             exact h))
    · refine zv_lload (pc := 34) C dDu_accountFarthestFromZero_34 rfl ?_
      refine zv_lstore_n (pc := 36) C dDu_accountFarthestFromZero_36 (by decide) ?_
      refine zv_iload (pc := 37) C dDu_accountFarthestFromZero_37 rfl ?_
      refine zv_istore_n (pc := 39) C dDu_accountFarthestFromZero_39 (by decide) ?_
      refine zv_iinc (pc := 40) C dDu_accountFarthestFromZero_40 rfl (zn_inc j) (by decide) ?_
      refine zv_goto (pc := 43) (tgt := 7) C dDu_accountFarthestFromZero_43 (by decide) ?_
      exact zv_pick [0, 1, 2, 3, 5] rfl (by
        have h := ih (j + 1) (by omega)
        simp only [lg_cmp_le, Int64.not_le] at c31
        first
          | (have hB : decide ((farP (bfa b) (bfc b) (bsz b) j).2 < absL (sumA (bfa b) (bfc b) (nI j) (bsz b))) = true := by simp [c31, Int64.not_lt]
             simp only [farP, hB, if_true] at h
             exact h)
          | (have hB : decide ((farP (bfa b) (bfc b) (bsz b) j).2 < absL (sumA (bfa b) (bfc b) (nI j) (bsz b))) = false := by simp [c31, Int64.not_lt]
             simp only [farP, hB, Bool.false_eq_true, if_false] at h
             exact h))
set_option maxHeartbeats 4000000 in
set_option maxRecDepth 100000 in
theorem cDu_accountFarthestFromZero {O : zO} {l : Launch} (hk : zK O l) (G : zG) (x : Nat) {y z : Nat} {b : aB} (hb : zBat O G x y z b) (hsz : bsz b ≤ 20) {ad : Nat → Nat} {S : aS} (hR : zRep O G ad S) (hS : aOk S) : zM O l yDu_accountFarthestFromZero [Cond.code yDu_accountFarthestFromZero bDu_accountFarthestFromZero 8 (some .int)] rmDu_accountFarthestFromZero [.ref (ad 0), .ref x] G 0 0 (zPr (.int (farP (bfa b) (bfc b) (bsz b) (sna S)).1) G) zNo := by
  refine zm_of hk (by decide) (Nat.le_of_ble_eq_true rfl) ?_
  intro p e s m below meth c C hex hr hnm
  obtain ⟨hinj, hD, hK1, ⟨fb, hF, hfb⟩, hBk, ⟨hSh, hp1, hp2⟩, hbs⟩ := id hR
  obtain ⟨ok1, ok2, ok3, ok4⟩ := id hS
  refine zv_iconst (pc := 0) (v := -1) C dDu_accountFarthestFromZero_0 (by decide) ?_
  refine zv_istore_n (pc := 1) C dDu_accountFarthestFromZero_1 (by decide) ?_
  refine zv_lconst (pc := 2) (v := 0) C dDu_accountFarthestFromZero_2 (by decide) ?_
  refine zv_lstore_n (pc := 3) C dDu_accountFarthestFromZero_3 (by decide) ?_
  refine zv_iconst (pc := 4) (v := 0) C dDu_accountFarthestFromZero_4 (by decide) ?_
  refine zv_istore (pc := 5) C dDu_accountFarthestFromZero_5 (by decide) ?_
  refine zv_pick [0, 1, 2, 3, 5] rfl (lDu_accountFarthestFromZero hk x C hD hb hsz ok1 ?_ (sna S) 0 (by omega))
  refine zv_iload_n (pc := 46) C dDu_accountFarthestFromZero_46 rfl ?_
  exact zv_iret (pc := 47) C hr dDu_accountFarthestFromZero_47 (Nat.le_of_ble_eq_true rfl) (Nat.le_of_ble_eq_true rfl) (by exact ⟨rfl, rfl⟩)
set_option maxHeartbeats 4000000 in
set_option maxRecDepth 100000 in
theorem lDu_collectedOf {O : zO} {p : Program} {l : Launch} {e : Env} {s : State} {m : MethodId} {args : Array Value} {below : List Frame} {meth : Method} {c : Code} {Q : State → Prop} {G : zG} (hk : zK O l) (x k1 : Int32) {ad : Nat → Nat} {S : aS} (C : zC O p l s m meth c RDu bDu_collectedOf 6) (hR : zRep O G ad S) (hS : aOk S) (kk : zV O p l e rmDu_collectedOf s m args below meth c 6 Q 47 [(0, .ref (ad 0)), (1, .int x), (2, .int k1), (3, .long (colP S x k1 (sna S))), (5, .int (nI (sna S)))] [] G 0 0) : ∀ k j : Nat, j + k = (sna S) → zV O p l e rmDu_collectedOf s m args below meth c 6 Q 5 [(0, .ref (ad 0)), (1, .int x), (2, .int k1), (3, .long (colP S x k1 j)), (5, .int (nI j))] [] G 0 0 := by
  intro k
  induction k with
  | zero =>
    intro j hj
    obtain ⟨hinj, hD, hK1, ⟨fb, hF, hfb⟩, hBk, ⟨hSh, hp1, hp2⟩, hbs⟩ := id hR
    obtain ⟨ok1, ok2, ok3, ok4⟩ := id hS
    obtain ⟨hk0, hk1, hk2, hk3, hk4, hk5⟩ := id hBk
    have hjn : j = sna S := by omega
    subst hjn
    refine zv_iload (pc := 5) C dDu_collectedOf_5 rfl ?_
    refine zv_aload_n (pc := 7) C dDu_collectedOf_7 rfl ?_
    refine zv_get (pc := 8) C dDu_collectedOf_8 fDu_13 (by first | assumption | exact zu_s | (refine (zu_n (by assumption)).trans ?_; first | assumption | exact zu_s)) rfl ?_
    refine zv_icmp_ge (pc := 11) (tgt := 47) C dDu_collectedOf_11 (by decide) (fun cX => ?_) (fun cX => absurd (nI_le (a := sna S) (b := sna S) (Nat.le_refl _) (by omega)) cX)
    exact kk
  | succ k ih =>
    intro j hj
    obtain ⟨hinj, hD, hK1, ⟨fb, hF, hfb⟩, hBk, ⟨hSh, hp1, hp2⟩, hbs⟩ := id hR
    obtain ⟨ok1, ok2, ok3, ok4⟩ := id hS
    obtain ⟨hk0, hk1, hk2, hk3, hk4, hk5⟩ := id hBk
    refine zv_iload (pc := 5) C dDu_collectedOf_5 rfl ?_
    refine zv_aload_n (pc := 7) C dDu_collectedOf_7 rfl ?_
    refine zv_get (pc := 8) C dDu_collectedOf_8 fDu_13 (by first | assumption | exact zu_s | (refine (zu_n (by assumption)).trans ?_; first | assumption | exact zu_s)) rfl ?_
    refine zv_icmp_ge (pc := 11) (tgt := 47) C dDu_collectedOf_11 (by decide) (fun cX => absurd cX (nI_ge (a := j) (b := (sna S)) (by omega) (by omega))) (fun cX => ?_)
    refine zv_aload_n (pc := 14) C dDu_collectedOf_14 rfl ?_
    refine zv_get (pc := 15) C dDu_collectedOf_15 fDu_9 (by first | assumption | exact zu_s | (refine (zu_n (by assumption)).trans ?_; first | assumption | exact zu_s)) rfl ?_
    refine zv_iload (pc := 18) C dDu_collectedOf_18 rfl ?_
    refine zn_iald (pc := 20) C dDu_collectedOf_20 (by first | assumption | exact zu_s | (refine (zu_n (by assumption)).trans ?_; first | assumption | exact zu_s)) (by omega) (by omega) ?_
    refine zv_iload_n (pc := 21) C dDu_collectedOf_21 rfl ?_
    refine zv_icmp_ne (pc := 22) (tgt := 41) C dDu_collectedOf_22 (by decide) (fun c22 => ?_) (fun c22 => ?_)
    · refine zv_iinc (pc := 41) C dDu_collectedOf_41 rfl (zn_inc j) (by decide) ?_
      refine zv_goto (pc := 44) (tgt := 5) C dDu_collectedOf_44 (by decide) ?_
      exact zv_pick [0, 1, 2, 3, 5] rfl (by
        have h := ih (j + 1) (by omega)
        first
          | (have hB : decide (skd S j = x) = true := by simp [c22]
             simp only [colP, hB, if_true] at h
             exact h)
          | (have hB : decide (skd S j = x) = false := by simp [c22]
             simp only [colP, hB, Bool.false_eq_true, if_false] at h
             exact h))
    · refine zv_lload_n (pc := 25) C dDu_collectedOf_25 rfl ?_
      refine zv_aload_n (pc := 26) C dDu_collectedOf_26 rfl ?_
      refine zv_get (pc := 27) C dDu_collectedOf_27 fDu_29 (by first | assumption | exact zu_s | (refine (zu_n (by assumption)).trans ?_; first | assumption | exact zu_s)) rfl ?_
      refine zv_iload (pc := 30) C dDu_collectedOf_30 rfl ?_
      refine zv_iconst (pc := 32) (v := 0) C dDu_collectedOf_32 (by decide) ?_
      refine zv_ldc (pc := 33) C dDu_collectedOf_33 zw_171 ?_
      refine zv_iload_n (pc := 35) C dDu_collectedOf_35 rfl ?_
      refine zv_callV (pc := 36) C dDu_collectedOf_36 (cBk_sum hk _ _ _ _ _ _ _ (by first | assumption | exact zu_s | (refine (zu_n (by assumption)).trans ?_; first | assumption | exact zu_s)) (by first | assumption | exact zu_s | (refine (zu_n (by assumption)).trans ?_; first | assumption | exact zu_s)) (by first | assumption | exact zu_s | (refine (zu_n (by assumption)).trans ?_; first | assumption | exact zu_s)) (by first | assumption | exact zu_s | (refine (zu_n (by assumption)).trans ?_; first | assumption | exact zu_s)) (by first | assumption | exact zu_s | (refine (zu_n (by assumption)).trans ?_; first | assumption | exact zu_s)) (by omega)) gDu_145 ⟨rfl, rfl, ⟨Nat.le_of_ble_eq_true rfl, Nat.le_of_ble_eq_true rfl⟩, mBk_sum⟩ rfl rfl (Nat.le_of_ble_eq_true rfl) (by first | assumption | exact zu_s | (refine (zu_n (by assumption)).trans ?_; first | assumption | exact zu_s)) rfl rfl ⟨Nat.le_of_ble_eq_true rfl, Nat.le_of_ble_eq_true rfl⟩ (fun _ _ h => h.elim) (fun v G' h => ?_)
      obtain ⟨rfl, rfl⟩ := h
      refine zv_ladd (pc := 39) C dDu_collectedOf_39 ?_
      refine zv_lstore_n (pc := 40) C dDu_collectedOf_40 (by decide) ?_
      refine zv_iinc (pc := 41) C dDu_collectedOf_41 rfl (zn_inc j) (by decide) ?_
      refine zv_goto (pc := 44) (tgt := 5) C dDu_collectedOf_44 (by decide) ?_
      exact zv_pick [0, 1, 2, 3, 5] rfl (by
        have h := ih (j + 1) (by omega)
        first
          | (have hB : decide (skd S j = x) = true := by simp [c22]
             simp only [colP, hB, if_true] at h
             exact h)
          | (have hB : decide (skd S j = x) = false := by simp [c22]
             simp only [colP, hB, Bool.false_eq_true, if_false] at h
             exact h))
set_option maxHeartbeats 4000000 in
set_option maxRecDepth 100000 in
theorem cDu_collectedOf {O : zO} {l : Launch} (hk : zK O l) (G : zG) (x k1 : Int32) {ad : Nat → Nat} {S : aS} (hR : zRep O G ad S) (hS : aOk S) : zM O l yDu_collectedOf [Cond.code yDu_collectedOf bDu_collectedOf 6 (some .long)] rmDu_collectedOf [.ref (ad 0), .int x, .int k1] G 0 0 (zPr (.long (colS S x k1)) G) zNo := by
  refine zm_of hk (by decide) (Nat.le_of_ble_eq_true rfl) ?_
  intro p e s m below meth c C hex hr hnm
  obtain ⟨hinj, hD, hK1, ⟨fb, hF, hfb⟩, hBk, ⟨hSh, hp1, hp2⟩, hbs⟩ := id hR
  obtain ⟨ok1, ok2, ok3, ok4⟩ := id hS
  refine zv_lconst (pc := 0) (v := 0) C dDu_collectedOf_0 (by decide) ?_
  refine zv_lstore_n (pc := 1) C dDu_collectedOf_1 (by decide) ?_
  refine zv_iconst (pc := 2) (v := 0) C dDu_collectedOf_2 (by decide) ?_
  refine zv_istore (pc := 3) C dDu_collectedOf_3 (by decide) ?_
  refine zv_pick [0, 1, 2, 3, 5] rfl (lDu_collectedOf hk x k1 C hR hS ?_ (sna S) 0 (by omega))
  refine zv_lload_n (pc := 47) C dDu_collectedOf_47 rfl ?_
  refine zv_lconst (pc := 48) (v := 0) C dDu_collectedOf_48 (by decide) ?_
  refine zv_mmaxl (pc := 49) C dDu_collectedOf_49 zw_472 zw_473 zw_38 zw_474 (Nat.le_of_ble_eq_true rfl) (Nat.le_of_ble_eq_true rfl) (Nat.le_of_ble_eq_true rfl) (Nat.le_of_ble_eq_true rfl) ?_
  exact zv_lret (pc := 52) C hr dDu_collectedOf_52 (Nat.le_of_ble_eq_true rfl) (Nat.le_of_ble_eq_true rfl) (by exact ⟨rfl, rfl⟩)
end
section
/-! answers of the public methods -/
def balS (S : aS) (x v1 v2 k1 : Int32) : Int64 := sumF (sL S).2.2.1 (sL S).2.2.2.2.1 (sL S).2.2.2.2.2 (sL S).2.2.2.1 x v1 v2 k1 (sn S)
def balOk (S : aS) (x d k : Int32) : Bool := isAccB x (nI (sna S)) && isDayB d && isDayB k
def staOk (S : aS) (x d k : Int32) : Bool := isAccB x (nI (sna S)) && isMonthB d && isDayB k
def recOk (S : aS) (x y d k : Int32) : Bool := isAccB x (nI (sna S)) && isAccB y (nI (sna S)) && !(decide (x = y)) && isDayB d && isDayB k
def cntV (S : aS) (w : Int32) : Int32 := if w = 0 then nI (sna S) else if w = 1 then nI (snb S) else if w = 2 then nI (sn S) else if w = 3 then scd S else if w = 4 then slk S else if w = 5 then swr S else if w = 6 then snm S else if w = 7 then nI 0 else if w = 8 then sfl S else -1
def redV (S : aS) (i : Nat) (w : Int32) : Int64 := if w = 0 then ((sL S).2.1 i).toInt64 else if w = 1 then ((sL S).2.2.1 i).toInt64 else if w = 2 then (sL S).2.2.2.1 i else if w = 3 then ((sL S).2.2.2.2.1 i).toInt64 else ((sL S).2.2.2.2.2 i).toInt64
def whB (w : Int32) (n : Int32) : Bool := !(decide (w < 0)) && !(decide (n ≤ w))
def lokV (b : aB) (w : Int32) : Int32 := if w = 0 then bst b else if w = 1 then nI (bsz b) else if w = 2 then brv b else if w = 3 then brb b else if w = 4 then (if btf b = 0 then 0 else 1) else if w = 5 then bvd b else bkd b
def is5 (w : Int32) : Bool := decide (w = 0) || decide (w = 1) || decide (w = 2) || decide (w = 3) || decide (w = 4)
def is7 (w : Int32) : Bool := is5 w || decide (w = 5) || decide (w = 6)
set_option maxHeartbeats 4000000 in
set_option maxRecDepth 100000 in
theorem cDu_balance {O : zO} {l : Launch} (hk : zK O l) (G : zG) (x d k : Int32) {ad : Nat → Nat} {S : aS} (hR : zRep O G ad S) (hS : aOk S) : zM O l yDu_balance [Cond.code yDu_balance bDu_balance 4 (some .long)] rmDu_balance [.ref (ad 0), .int x, .int d, .int k] G 1 6 (fun v G' => balOk S x d k = true ∧ v = some (.long (balS S x 0 d k)) ∧ G' = G) (fun E G' => balOk S x d k = false ∧ E = "java/lang/IllegalArgumentException" ∧ G' = G) := by
  refine zm_of hk (by decide) (Nat.le_of_ble_eq_true rfl) ?_
  intro p e s m below meth c C hex hr hnm
  obtain ⟨hinj, hD, hK1, ⟨fb, hF, hfb⟩, hBk, ⟨hSh, hp1, hp2⟩, hbs⟩ := id hR
  obtain ⟨ok1, ok2, ok3, ok4⟩ := id hS
  obtain ⟨hk0, hk1, hk2, hk3, hk4, hk5⟩ := id hBk
  refine zv_aload_n (pc := 0) C dDu_balance_0 rfl ?_
  refine zv_iload_n (pc := 1) C dDu_balance_1 rfl ?_
  refine zv_callV (pc := 2) C dDu_balance_2 (cDu_isAccount hk _ _ _ hD) gDu_89 ⟨rfl, rfl, ⟨Nat.le_of_ble_eq_true rfl, Nat.le_of_ble_eq_true rfl⟩, mDu_isAccount⟩ rfl rfl (Nat.le_of_ble_eq_true rfl) (by first | assumption | exact zu_s | (refine (zu_n (by assumption)).trans ?_; first | assumption | exact zu_s)) rfl rfl ⟨Nat.le_of_ble_eq_true rfl, Nat.le_of_ble_eq_true rfl⟩ (fun _ _ h => h.elim) (fun v G' h => ?_)
  obtain ⟨rfl, rfl⟩ := h
  refine zv_if_eq (pc := 5) (tgt := 22) C dDu_balance_5 (by decide) (fun c5 => ?_) (fun c5 => ?_)
  · exact zv_throwS (pc := 22) C dDu_balance_22 dDu_balance_25 dDu_balance_26 dDu_balance_28 dDu_balance_31 tDu_143_63 hex (Nat.le_of_ble_eq_true rfl) (Nat.le_of_ble_eq_true rfl) (Nat.le_of_ble_eq_true rfl) (Nat.le_of_ble_eq_true rfl) (Nat.le_of_ble_eq_true rfl) (Nat.le_of_ble_eq_true rfl) (by (try simp only [zb_0, Bool.not_eq_false] at c5); simp [balOk, balS, c5])
  · refine zv_iload_n (pc := 8) C dDu_balance_8 rfl ?_
    refine zv_callS (pc := 9) C dDu_balance_9 (cDu_isDay hk _ _) gDu_71 ⟨rfl, rfl, ⟨Nat.le_of_ble_eq_true rfl, Nat.le_of_ble_eq_true rfl⟩, mDu_isDay⟩ rfl rfl (Nat.le_of_ble_eq_true rfl) ⟨Nat.le_of_ble_eq_true rfl, Nat.le_of_ble_eq_true rfl⟩ (fun _ _ h => h.elim) (fun v G' h => ?_)
    obtain ⟨rfl, rfl⟩ := h
    refine zv_if_eq (pc := 12) (tgt := 22) C dDu_balance_12 (by decide) (fun c12 => ?_) (fun c12 => ?_)
    · exact zv_throwS (pc := 22) C dDu_balance_22 dDu_balance_25 dDu_balance_26 dDu_balance_28 dDu_balance_31 tDu_143_63 hex (Nat.le_of_ble_eq_true rfl) (Nat.le_of_ble_eq_true rfl) (Nat.le_of_ble_eq_true rfl) (Nat.le_of_ble_eq_true rfl) (Nat.le_of_ble_eq_true rfl) (Nat.le_of_ble_eq_true rfl) (by (try simp only [zb_0, Bool.not_eq_false] at c5); (try simp only [zb_0, Bool.not_eq_false] at c12); simp [balOk, balS, c5, c12])
    · refine zv_iload_n (pc := 15) C dDu_balance_15 rfl ?_
      refine zv_callS (pc := 16) C dDu_balance_16 (cDu_isDay hk _ _) gDu_71 ⟨rfl, rfl, ⟨Nat.le_of_ble_eq_true rfl, Nat.le_of_ble_eq_true rfl⟩, mDu_isDay⟩ rfl rfl (Nat.le_of_ble_eq_true rfl) ⟨Nat.le_of_ble_eq_true rfl, Nat.le_of_ble_eq_true rfl⟩ (fun _ _ h => h.elim) (fun v G' h => ?_)
      obtain ⟨rfl, rfl⟩ := h
      refine zv_if_ne (pc := 19) (tgt := 32) C dDu_balance_19 (by decide) (fun c19 => ?_) (fun c19 => ?_)
      · refine zv_aload_n (pc := 32) C dDu_balance_32 rfl ?_
        refine zv_get (pc := 33) C dDu_balance_33 fDu_29 (by first | assumption | exact zu_s | (refine (zu_n (by assumption)).trans ?_; first | assumption | exact zu_s)) rfl ?_
        refine zv_iload_n (pc := 36) C dDu_balance_36 rfl ?_
        refine zv_iconst (pc := 37) (v := 0) C dDu_balance_37 (by decide) ?_
        refine zv_iload_n (pc := 38) C dDu_balance_38 rfl ?_
        refine zv_iload_n (pc := 39) C dDu_balance_39 rfl ?_
        refine zv_callV (pc := 40) C dDu_balance_40 (cBk_sum hk _ _ _ _ _ _ _ (by first | assumption | exact zu_s | (refine (zu_n (by assumption)).trans ?_; first | assumption | exact zu_s)) (by first | assumption | exact zu_s | (refine (zu_n (by assumption)).trans ?_; first | assumption | exact zu_s)) (by first | assumption | exact zu_s | (refine (zu_n (by assumption)).trans ?_; first | assumption | exact zu_s)) (by first | assumption | exact zu_s | (refine (zu_n (by assumption)).trans ?_; first | assumption | exact zu_s)) (by first | assumption | exact zu_s | (refine (zu_n (by assumption)).trans ?_; first | assumption | exact zu_s)) (by omega)) gDu_145 ⟨rfl, rfl, ⟨Nat.le_of_ble_eq_true rfl, Nat.le_of_ble_eq_true rfl⟩, mBk_sum⟩ rfl rfl (Nat.le_of_ble_eq_true rfl) (by first | assumption | exact zu_s | (refine (zu_n (by assumption)).trans ?_; first | assumption | exact zu_s)) rfl rfl ⟨Nat.le_of_ble_eq_true rfl, Nat.le_of_ble_eq_true rfl⟩ (fun _ _ h => h.elim) (fun v G' h => ?_)
        obtain ⟨rfl, rfl⟩ := h
        exact zv_lret (pc := 43) C hr dDu_balance_43 (Nat.le_of_ble_eq_true rfl) (Nat.le_of_ble_eq_true rfl) (by (try simp only [zb_0, Bool.not_eq_false] at c5); (try simp only [zb_0, Bool.not_eq_false] at c12); (try simp only [zb_0, Bool.not_eq_false] at c19); simp [balOk, balS, c5, c12, c19])
      · exact zv_throwS (pc := 22) C dDu_balance_22 dDu_balance_25 dDu_balance_26 dDu_balance_28 dDu_balance_31 tDu_143_63 hex (Nat.le_of_ble_eq_true rfl) (Nat.le_of_ble_eq_true rfl) (Nat.le_of_ble_eq_true rfl) (Nat.le_of_ble_eq_true rfl) (Nat.le_of_ble_eq_true rfl) (Nat.le_of_ble_eq_true rfl) (by (try simp only [zb_0, Bool.not_eq_false] at c5); (try simp only [zb_0, Bool.not_eq_false] at c12); (try simp only [zb_0, Bool.not_eq_false] at c19); simp [balOk, balS, c5, c12, c19])
set_option maxHeartbeats 4000000 in
set_option maxRecDepth 100000 in
theorem cDu_statement {O : zO} {l : Launch} (hk : zK O l) (G : zG) (x d k : Int32) {ad : Nat → Nat} {S : aS} (hR : zRep O G ad S) (hS : aOk S) : zM O l yDu_statement [Cond.code yDu_statement bDu_statement 5 (some .long)] rmDu_statement [.ref (ad 0), .int x, .int d, .int k] G 1 6 (fun v G' => staOk S x d k = true ∧ v = some (.long (balS S x (30 * d) (30 * d + 30 - 1) k)) ∧ G' = G) (fun E G' => staOk S x d k = false ∧ E = "java/lang/IllegalArgumentException" ∧ G' = G) := by
  refine zm_of hk (by decide) (Nat.le_of_ble_eq_true rfl) ?_
  intro p e s m below meth c C hex hr hnm
  obtain ⟨hinj, hD, hK1, ⟨fb, hF, hfb⟩, hBk, ⟨hSh, hp1, hp2⟩, hbs⟩ := id hR
  obtain ⟨ok1, ok2, ok3, ok4⟩ := id hS
  obtain ⟨hk0, hk1, hk2, hk3, hk4, hk5⟩ := id hBk
  refine zv_aload_n (pc := 0) C dDu_statement_0 rfl ?_
  refine zv_iload_n (pc := 1) C dDu_statement_1 rfl ?_
  refine zv_callV (pc := 2) C dDu_statement_2 (cDu_isAccount hk _ _ _ hD) gDu_89 ⟨rfl, rfl, ⟨Nat.le_of_ble_eq_true rfl, Nat.le_of_ble_eq_true rfl⟩, mDu_isAccount⟩ rfl rfl (Nat.le_of_ble_eq_true rfl) (by first | assumption | exact zu_s | (refine (zu_n (by assumption)).trans ?_; first | assumption | exact zu_s)) rfl rfl ⟨Nat.le_of_ble_eq_true rfl, Nat.le_of_ble_eq_true rfl⟩ (fun _ _ h => h.elim) (fun v G' h => ?_)
  obtain ⟨rfl, rfl⟩ := h
  refine zv_if_eq (pc := 5) (tgt := 22) C dDu_statement_5 (by decide) (fun c5 => ?_) (fun c5 => ?_)
  · exact zv_throwS (pc := 22) C dDu_statement_22 dDu_statement_25 dDu_statement_26 dDu_statement_28 dDu_statement_31 tDu_152_63 hex (Nat.le_of_ble_eq_true rfl) (Nat.le_of_ble_eq_true rfl) (Nat.le_of_ble_eq_true rfl) (Nat.le_of_ble_eq_true rfl) (Nat.le_of_ble_eq_true rfl) (Nat.le_of_ble_eq_true rfl) (by (try simp only [zb_0, Bool.not_eq_false] at c5); simp [staOk, balS, c5])
  · refine zv_iload_n (pc := 8) C dDu_statement_8 rfl ?_
    refine zv_callS (pc := 9) C dDu_statement_9 (cDu_isMonth hk _ _) gDu_149 ⟨rfl, rfl, ⟨Nat.le_of_ble_eq_true rfl, Nat.le_of_ble_eq_true rfl⟩, mDu_isMonth⟩ rfl rfl (Nat.le_of_ble_eq_true rfl) ⟨Nat.le_of_ble_eq_true rfl, Nat.le_of_ble_eq_true rfl⟩ (fun _ _ h => h.elim) (fun v G' h => ?_)
    obtain ⟨rfl, rfl⟩ := h
    refine zv_if_eq (pc := 12) (tgt := 22) C dDu_statement_12 (by decide) (fun c12 => ?_) (fun c12 => ?_)
    · exact zv_throwS (pc := 22) C dDu_statement_22 dDu_statement_25 dDu_statement_26 dDu_statement_28 dDu_statement_31 tDu_152_63 hex (Nat.le_of_ble_eq_true rfl) (Nat.le_of_ble_eq_true rfl) (Nat.le_of_ble_eq_true rfl) (Nat.le_of_ble_eq_true rfl) (Nat.le_of_ble_eq_true rfl) (Nat.le_of_ble_eq_true rfl) (by (try simp only [zb_0, Bool.not_eq_false] at c5); (try simp only [zb_0, Bool.not_eq_false] at c12); simp [staOk, balS, c5, c12])
    · refine zv_iload_n (pc := 15) C dDu_statement_15 rfl ?_
      refine zv_callS (pc := 16) C dDu_statement_16 (cDu_isDay hk _ _) gDu_71 ⟨rfl, rfl, ⟨Nat.le_of_ble_eq_true rfl, Nat.le_of_ble_eq_true rfl⟩, mDu_isDay⟩ rfl rfl (Nat.le_of_ble_eq_true rfl) ⟨Nat.le_of_ble_eq_true rfl, Nat.le_of_ble_eq_true rfl⟩ (fun _ _ h => h.elim) (fun v G' h => ?_)
      obtain ⟨rfl, rfl⟩ := h
      refine zv_if_ne (pc := 19) (tgt := 32) C dDu_statement_19 (by decide) (fun c19 => ?_) (fun c19 => ?_)
      · refine zv_bipush (pc := 32) (v := 30) C dDu_statement_32 (by decide) ?_
        refine zv_iload_n (pc := 34) C dDu_statement_34 rfl ?_
        refine zv_imul (pc := 35) C dDu_statement_35 ?_
        refine zv_istore (pc := 36) C dDu_statement_36 (by decide) ?_
        refine zv_aload_n (pc := 38) C dDu_statement_38 rfl ?_
        refine zv_get (pc := 39) C dDu_statement_39 fDu_29 (by first | assumption | exact zu_s | (refine (zu_n (by assumption)).trans ?_; first | assumption | exact zu_s)) rfl ?_
        refine zv_iload_n (pc := 42) C dDu_statement_42 rfl ?_
        refine zv_iload (pc := 43) C dDu_statement_43 rfl ?_
        refine zv_iload (pc := 45) C dDu_statement_45 rfl ?_
        refine zv_bipush (pc := 47) (v := 30) C dDu_statement_47 (by decide) ?_
        refine zv_iadd (pc := 49) C dDu_statement_49 ?_
        refine zv_iconst (pc := 50) (v := 1) C dDu_statement_50 (by decide) ?_
        refine zv_isub (pc := 51) C dDu_statement_51 ?_
        refine zv_iload_n (pc := 52) C dDu_statement_52 rfl ?_
        refine zv_callV (pc := 53) C dDu_statement_53 (cBk_sum hk _ _ _ _ _ _ _ (by first | assumption | exact zu_s | (refine (zu_n (by assumption)).trans ?_; first | assumption | exact zu_s)) (by first | assumption | exact zu_s | (refine (zu_n (by assumption)).trans ?_; first | assumption | exact zu_s)) (by first | assumption | exact zu_s | (refine (zu_n (by assumption)).trans ?_; first | assumption | exact zu_s)) (by first | assumption | exact zu_s | (refine (zu_n (by assumption)).trans ?_; first | assumption | exact zu_s)) (by first | assumption | exact zu_s | (refine (zu_n (by assumption)).trans ?_; first | assumption | exact zu_s)) (by omega)) gDu_145 ⟨rfl, rfl, ⟨Nat.le_of_ble_eq_true rfl, Nat.le_of_ble_eq_true rfl⟩, mBk_sum⟩ rfl rfl (Nat.le_of_ble_eq_true rfl) (by first | assumption | exact zu_s | (refine (zu_n (by assumption)).trans ?_; first | assumption | exact zu_s)) rfl rfl ⟨Nat.le_of_ble_eq_true rfl, Nat.le_of_ble_eq_true rfl⟩ (fun _ _ h => h.elim) (fun v G' h => ?_)
        obtain ⟨rfl, rfl⟩ := h
        exact zv_lret (pc := 56) C hr dDu_statement_56 (Nat.le_of_ble_eq_true rfl) (Nat.le_of_ble_eq_true rfl) (by (try simp only [zb_0, Bool.not_eq_false] at c5); (try simp only [zb_0, Bool.not_eq_false] at c12); (try simp only [zb_0, Bool.not_eq_false] at c19); simp [staOk, balS, c5, c12, c19])
      · exact zv_throwS (pc := 22) C dDu_statement_22 dDu_statement_25 dDu_statement_26 dDu_statement_28 dDu_statement_31 tDu_152_63 hex (Nat.le_of_ble_eq_true rfl) (Nat.le_of_ble_eq_true rfl) (Nat.le_of_ble_eq_true rfl) (Nat.le_of_ble_eq_true rfl) (Nat.le_of_ble_eq_true rfl) (Nat.le_of_ble_eq_true rfl) (by (try simp only [zb_0, Bool.not_eq_false] at c5); (try simp only [zb_0, Bool.not_eq_false] at c12); (try simp only [zb_0, Bool.not_eq_false] at c19); simp [staOk, balS, c5, c12, c19])
set_option maxHeartbeats 4000000 in
set_option maxRecDepth 100000 in
theorem cDu_reconcile {O : zO} {l : Launch} (hk : zK O l) (G : zG) (x y d k : Int32) {ad : Nat → Nat} {S : aS} (hR : zRep O G ad S) (hS : aOk S) : zM O l yDu_reconcile [Cond.code yDu_reconcile bDu_reconcile 5 (some .long)] rmDu_reconcile [.ref (ad 0), .int x, .int y, .int d, .int k] G 1 6 (fun v G' => recOk S x y d k = true ∧ v = some (.long (balS S x 0 d k + balS S y 0 d k)) ∧ G' = G) (fun E G' => recOk S x y d k = false ∧ E = "java/lang/IllegalArgumentException" ∧ G' = G) := by
  refine zm_of hk (by decide) (Nat.le_of_ble_eq_true rfl) ?_
  intro p e s m below meth c C hex hr hnm
  obtain ⟨hinj, hD, hK1, ⟨fb, hF, hfb⟩, hBk, ⟨hSh, hp1, hp2⟩, hbs⟩ := id hR
  obtain ⟨ok1, ok2, ok3, ok4⟩ := id hS
  obtain ⟨hk0, hk1, hk2, hk3, hk4, hk5⟩ := id hBk
  refine zv_aload_n (pc := 0) C dDu_reconcile_0 rfl ?_
  refine zv_iload_n (pc := 1) C dDu_reconcile_1 rfl ?_
  refine zv_callV (pc := 2) C dDu_reconcile_2 (cDu_isAccount hk _ _ _ hD) gDu_89 ⟨rfl, rfl, ⟨Nat.le_of_ble_eq_true rfl, Nat.le_of_ble_eq_true rfl⟩, mDu_isAccount⟩ rfl rfl (Nat.le_of_ble_eq_true rfl) (by first | assumption | exact zu_s | (refine (zu_n (by assumption)).trans ?_; first | assumption | exact zu_s)) rfl rfl ⟨Nat.le_of_ble_eq_true rfl, Nat.le_of_ble_eq_true rfl⟩ (fun _ _ h => h.elim) (fun v G' h => ?_)
  obtain ⟨rfl, rfl⟩ := h
  refine zv_if_eq (pc := 5) (tgt := 21) C dDu_reconcile_5 (by decide) (fun c5 => ?_) (fun c5 => ?_)
  · exact zv_throwS (pc := 21) C dDu_reconcile_21 dDu_reconcile_24 dDu_reconcile_25 dDu_reconcile_27 dDu_reconcile_30 tDu_181_63 hex (Nat.le_of_ble_eq_true rfl) (Nat.le_of_ble_eq_true rfl) (Nat.le_of_ble_eq_true rfl) (Nat.le_of_ble_eq_true rfl) (Nat.le_of_ble_eq_true rfl) (Nat.le_of_ble_eq_true rfl) (by (try simp only [zb_0, Bool.not_eq_false] at c5); simp [recOk, balS, c5])
  · refine zv_aload_n (pc := 8) C dDu_reconcile_8 rfl ?_
    refine zv_iload_n (pc := 9) C dDu_reconcile_9 rfl ?_
    refine zv_callV (pc := 10) C dDu_reconcile_10 (cDu_isAccount hk _ _ _ hD) gDu_89 ⟨rfl, rfl, ⟨Nat.le_of_ble_eq_true rfl, Nat.le_of_ble_eq_true rfl⟩, mDu_isAccount⟩ rfl rfl (Nat.le_of_ble_eq_true rfl) (by first | assumption | exact zu_s | (refine (zu_n (by assumption)).trans ?_; first | assumption | exact zu_s)) rfl rfl ⟨Nat.le_of_ble_eq_true rfl, Nat.le_of_ble_eq_true rfl⟩ (fun _ _ h => h.elim) (fun v G' h => ?_)
    obtain ⟨rfl, rfl⟩ := h
    refine zv_if_eq (pc := 13) (tgt := 21) C dDu_reconcile_13 (by decide) (fun c13 => ?_) (fun c13 => ?_)
    · exact zv_throwS (pc := 21) C dDu_reconcile_21 dDu_reconcile_24 dDu_reconcile_25 dDu_reconcile_27 dDu_reconcile_30 tDu_181_63 hex (Nat.le_of_ble_eq_true rfl) (Nat.le_of_ble_eq_true rfl) (Nat.le_of_ble_eq_true rfl) (Nat.le_of_ble_eq_true rfl) (Nat.le_of_ble_eq_true rfl) (Nat.le_of_ble_eq_true rfl) (by (try simp only [zb_0, Bool.not_eq_false] at c5); (try simp only [zb_0, Bool.not_eq_false] at c13); simp [recOk, balS, c5, c13])
    · refine zv_iload_n (pc := 16) C dDu_reconcile_16 rfl ?_
      refine zv_iload_n (pc := 17) C dDu_reconcile_17 rfl ?_
      refine zv_icmp_ne (pc := 18) (tgt := 31) C dDu_reconcile_18 (by decide) (fun c18 => ?_) (fun c18 => ?_)
      · refine zv_iload_n (pc := 31) C dDu_reconcile_31 rfl ?_
        refine zv_callS (pc := 32) C dDu_reconcile_32 (cDu_isDay hk _ _) gDu_71 ⟨rfl, rfl, ⟨Nat.le_of_ble_eq_true rfl, Nat.le_of_ble_eq_true rfl⟩, mDu_isDay⟩ rfl rfl (Nat.le_of_ble_eq_true rfl) ⟨Nat.le_of_ble_eq_true rfl, Nat.le_of_ble_eq_true rfl⟩ (fun _ _ h => h.elim) (fun v G' h => ?_)
        obtain ⟨rfl, rfl⟩ := h
        refine zv_if_eq (pc := 35) (tgt := 46) C dDu_reconcile_35 (by decide) (fun c35 => ?_) (fun c35 => ?_)
        · exact zv_throwS (pc := 46) C dDu_reconcile_46 dDu_reconcile_49 dDu_reconcile_50 dDu_reconcile_52 dDu_reconcile_55 tDu_74_63 hex (Nat.le_of_ble_eq_true rfl) (Nat.le_of_ble_eq_true rfl) (Nat.le_of_ble_eq_true rfl) (Nat.le_of_ble_eq_true rfl) (Nat.le_of_ble_eq_true rfl) (Nat.le_of_ble_eq_true rfl) (by (try simp only [zb_0, Bool.not_eq_false] at c5); (try simp only [zb_0, Bool.not_eq_false] at c13); (try simp only [zb_0, Bool.not_eq_false] at c18); (try simp only [zb_0, Bool.not_eq_false] at c35); simp [recOk, balS, c5, c13, c18, c35])
        · refine zv_iload (pc := 38) C dDu_reconcile_38 rfl ?_
          refine zv_callS (pc := 40) C dDu_reconcile_40 (cDu_isDay hk _ _) gDu_71 ⟨rfl, rfl, ⟨Nat.le_of_ble_eq_true rfl, Nat.le_of_ble_eq_true rfl⟩, mDu_isDay⟩ rfl rfl (Nat.le_of_ble_eq_true rfl) ⟨Nat.le_of_ble_eq_true rfl, Nat.le_of_ble_eq_true rfl⟩ (fun _ _ h => h.elim) (fun v G' h => ?_)
          obtain ⟨rfl, rfl⟩ := h
          refine zv_if_ne (pc := 43) (tgt := 56) C dDu_reconcile_43 (by decide) (fun c43 => ?_) (fun c43 => ?_)
          · refine zv_aload_n (pc := 56) C dDu_reconcile_56 rfl ?_
            refine zv_get (pc := 57) C dDu_reconcile_57 fDu_29 (by first | assumption | exact zu_s | (refine (zu_n (by assumption)).trans ?_; first | assumption | exact zu_s)) rfl ?_
            refine zv_iload_n (pc := 60) C dDu_reconcile_60 rfl ?_
            refine zv_iconst (pc := 61) (v := 0) C dDu_reconcile_61 (by decide) ?_
            refine zv_iload_n (pc := 62) C dDu_reconcile_62 rfl ?_
            refine zv_iload (pc := 63) C dDu_reconcile_63 rfl ?_
            refine zv_callV (pc := 65) C dDu_reconcile_65 (cBk_sum hk _ _ _ _ _ _ _ (by first | assumption | exact zu_s | (refine (zu_n (by assumption)).trans ?_; first | assumption | exact zu_s)) (by first | assumption | exact zu_s | (refine (zu_n (by assumption)).trans ?_; first | assumption | exact zu_s)) (by first | assumption | exact zu_s | (refine (zu_n (by assumption)).trans ?_; first | assumption | exact zu_s)) (by first | assumption | exact zu_s | (refine (zu_n (by assumption)).trans ?_; first | assumption | exact zu_s)) (by first | assumption | exact zu_s | (refine (zu_n (by assumption)).trans ?_; first | assumption | exact zu_s)) (by omega)) gDu_145 ⟨rfl, rfl, ⟨Nat.le_of_ble_eq_true rfl, Nat.le_of_ble_eq_true rfl⟩, mBk_sum⟩ rfl rfl (Nat.le_of_ble_eq_true rfl) (by first | assumption | exact zu_s | (refine (zu_n (by assumption)).trans ?_; first | assumption | exact zu_s)) rfl rfl ⟨Nat.le_of_ble_eq_true rfl, Nat.le_of_ble_eq_true rfl⟩ (fun _ _ h => h.elim) (fun v G' h => ?_)
            obtain ⟨rfl, rfl⟩ := h
            refine zv_aload_n (pc := 68) C dDu_reconcile_68 rfl ?_
            refine zv_get (pc := 69) C dDu_reconcile_69 fDu_29 (by first | assumption | exact zu_s | (refine (zu_n (by assumption)).trans ?_; first | assumption | exact zu_s)) rfl ?_
            refine zv_iload_n (pc := 72) C dDu_reconcile_72 rfl ?_
            refine zv_iconst (pc := 73) (v := 0) C dDu_reconcile_73 (by decide) ?_
            refine zv_iload_n (pc := 74) C dDu_reconcile_74 rfl ?_
            refine zv_iload (pc := 75) C dDu_reconcile_75 rfl ?_
            refine zv_callV (pc := 77) C dDu_reconcile_77 (cBk_sum hk _ _ _ _ _ _ _ (by first | assumption | exact zu_s | (refine (zu_n (by assumption)).trans ?_; first | assumption | exact zu_s)) (by first | assumption | exact zu_s | (refine (zu_n (by assumption)).trans ?_; first | assumption | exact zu_s)) (by first | assumption | exact zu_s | (refine (zu_n (by assumption)).trans ?_; first | assumption | exact zu_s)) (by first | assumption | exact zu_s | (refine (zu_n (by assumption)).trans ?_; first | assumption | exact zu_s)) (by first | assumption | exact zu_s | (refine (zu_n (by assumption)).trans ?_; first | assumption | exact zu_s)) (by omega)) gDu_145 ⟨rfl, rfl, ⟨Nat.le_of_ble_eq_true rfl, Nat.le_of_ble_eq_true rfl⟩, mBk_sum⟩ rfl rfl (Nat.le_of_ble_eq_true rfl) (by first | assumption | exact zu_s | (refine (zu_n (by assumption)).trans ?_; first | assumption | exact zu_s)) rfl rfl ⟨Nat.le_of_ble_eq_true rfl, Nat.le_of_ble_eq_true rfl⟩ (fun _ _ h => h.elim) (fun v G' h => ?_)
            obtain ⟨rfl, rfl⟩ := h
            refine zv_ladd (pc := 80) C dDu_reconcile_80 ?_
            exact zv_lret (pc := 81) C hr dDu_reconcile_81 (Nat.le_of_ble_eq_true rfl) (Nat.le_of_ble_eq_true rfl) (by (try simp only [zb_0, Bool.not_eq_false] at c5); (try simp only [zb_0, Bool.not_eq_false] at c13); (try simp only [zb_0, Bool.not_eq_false] at c18); (try simp only [zb_0, Bool.not_eq_false] at c35); (try simp only [zb_0, Bool.not_eq_false] at c43); simp [recOk, balS, c5, c13, c18, c35, c43])
          · exact zv_throwS (pc := 46) C dDu_reconcile_46 dDu_reconcile_49 dDu_reconcile_50 dDu_reconcile_52 dDu_reconcile_55 tDu_74_63 hex (Nat.le_of_ble_eq_true rfl) (Nat.le_of_ble_eq_true rfl) (Nat.le_of_ble_eq_true rfl) (Nat.le_of_ble_eq_true rfl) (Nat.le_of_ble_eq_true rfl) (Nat.le_of_ble_eq_true rfl) (by (try simp only [zb_0, Bool.not_eq_false] at c5); (try simp only [zb_0, Bool.not_eq_false] at c13); (try simp only [zb_0, Bool.not_eq_false] at c18); (try simp only [zb_0, Bool.not_eq_false] at c35); (try simp only [zb_0, Bool.not_eq_false] at c43); simp [recOk, balS, c5, c13, c18, c35, c43])
      · exact zv_throwS (pc := 21) C dDu_reconcile_21 dDu_reconcile_24 dDu_reconcile_25 dDu_reconcile_27 dDu_reconcile_30 tDu_181_63 hex (Nat.le_of_ble_eq_true rfl) (Nat.le_of_ble_eq_true rfl) (Nat.le_of_ble_eq_true rfl) (Nat.le_of_ble_eq_true rfl) (Nat.le_of_ble_eq_true rfl) (Nat.le_of_ble_eq_true rfl) (by (try simp only [zb_0, Bool.not_eq_false] at c5); (try simp only [zb_0, Bool.not_eq_false] at c13); (try simp only [zb_0, Bool.not_eq_false] at c18); simp [recOk, balS, c5, c13, c18])
set_option maxHeartbeats 4000000 in
set_option maxRecDepth 100000 in
theorem cDu_count {O : zO} {l : Launch} (hk : zK O l) (G : zG) (w : Int32) {ad : Nat → Nat} {S : aS} (hR : zRep O G ad S) (hS : aOk S) : zM O l yDu_count [Cond.code yDu_count bDu_count 2 (some .int)] rmDu_count [.ref (ad 0), .int w] G 0 0 (zPr (.int (cntV S w)) G) zNo := by
  refine zm_of hk (by decide) (Nat.le_of_ble_eq_true rfl) ?_
  intro p e s m below meth c C hex hr hnm
  obtain ⟨hinj, hD, hK1, ⟨fb, hF, hfb⟩, hBk, ⟨hSh, hp1, hp2⟩, hbs⟩ := id hR
  obtain ⟨ok1, ok2, ok3, ok4⟩ := id hS
  obtain ⟨hk0, hk1, hk2, hk3, hk4, hk5⟩ := id hBk
  refine zv_iload_n (pc := 0) C dDu_count_0 rfl ?_
  by_cases e0 : w = 0
  · subst e0
    refine zv_tabIn (pc := 1) (tgt := 52) C dDu_count_1 (by decide) (by decide) rfl (by decide) ?_
    refine zv_aload_n (pc := 52) C dDu_count_52 rfl ?_
    refine zv_get (pc := 53) C dDu_count_53 fDu_13 (by first | assumption | exact zu_s | (refine (zu_n (by assumption)).trans ?_; first | assumption | exact zu_s)) rfl ?_
    exact zv_iret (pc := 56) C hr dDu_count_56 (Nat.le_of_ble_eq_true rfl) (Nat.le_of_ble_eq_true rfl) (by first | exact ⟨rfl, rfl⟩ | simp [zPr, cntV, *])
  · skip
    by_cases e1 : w = 1
    · subst e1
      refine zv_tabIn (pc := 1) (tgt := 57) C dDu_count_1 (by decide) (by decide) rfl (by decide) ?_
      refine zv_aload_n (pc := 57) C dDu_count_57 rfl ?_
      refine zv_get (pc := 58) C dDu_count_58 fDu_23 (by first | assumption | exact zu_s | (refine (zu_n (by assumption)).trans ?_; first | assumption | exact zu_s)) rfl ?_
      exact zv_iret (pc := 61) C hr dDu_count_61 (Nat.le_of_ble_eq_true rfl) (Nat.le_of_ble_eq_true rfl) (by first | exact ⟨rfl, rfl⟩ | simp [zPr, cntV, *])
    · skip
      by_cases e2 : w = 2
      · subst e2
        refine zv_tabIn (pc := 1) (tgt := 62) C dDu_count_1 (by decide) (by decide) rfl (by decide) ?_
        refine zv_aload_n (pc := 62) C dDu_count_62 rfl ?_
        refine zv_get (pc := 63) C dDu_count_63 fDu_29 (by first | assumption | exact zu_s | (refine (zu_n (by assumption)).trans ?_; first | assumption | exact zu_s)) rfl ?_
        refine zv_get (pc := 66) C dDu_count_66 fDu_183 (by first | assumption | exact zu_s | (refine (zu_n (by assumption)).trans ?_; first | assumption | exact zu_s)) rfl ?_
        exact zv_iret (pc := 69) C hr dDu_count_69 (Nat.le_of_ble_eq_true rfl) (Nat.le_of_ble_eq_true rfl) (by first | exact ⟨rfl, rfl⟩ | simp [zPr, cntV, *])
      · skip
        by_cases e3 : w = 3
        · subst e3
          refine zv_tabIn (pc := 1) (tgt := 70) C dDu_count_1 (by decide) (by decide) rfl (by decide) ?_
          refine zv_aload_n (pc := 70) C dDu_count_70 rfl ?_
          refine zv_get (pc := 71) C dDu_count_71 fDu_40 (by first | assumption | exact zu_s | (refine (zu_n (by assumption)).trans ?_; first | assumption | exact zu_s)) rfl ?_
          exact zv_iret (pc := 74) C hr dDu_count_74 (Nat.le_of_ble_eq_true rfl) (Nat.le_of_ble_eq_true rfl) (by first | exact ⟨rfl, rfl⟩ | simp [zPr, cntV, *])
        · skip
          by_cases e4 : w = 4
          · subst e4
            refine zv_tabIn (pc := 1) (tgt := 75) C dDu_count_1 (by decide) (by decide) rfl (by decide) ?_
            refine zv_aload_n (pc := 75) C dDu_count_75 rfl ?_
            refine zv_get (pc := 76) C dDu_count_76 fDu_43 (by first | assumption | exact zu_s | (refine (zu_n (by assumption)).trans ?_; first | assumption | exact zu_s)) rfl ?_
            exact zv_iret (pc := 79) C hr dDu_count_79 (Nat.le_of_ble_eq_true rfl) (Nat.le_of_ble_eq_true rfl) (by first | exact ⟨rfl, rfl⟩ | simp [zPr, cntV, *])
          · skip
            by_cases e5 : w = 5
            · subst e5
              refine zv_tabIn (pc := 1) (tgt := 80) C dDu_count_1 (by decide) (by decide) rfl (by decide) ?_
              refine zv_aload_n (pc := 80) C dDu_count_80 rfl ?_
              refine zv_get (pc := 81) C dDu_count_81 fDu_46 (by first | assumption | exact zu_s | (refine (zu_n (by assumption)).trans ?_; first | assumption | exact zu_s)) rfl ?_
              exact zv_iret (pc := 84) C hr dDu_count_84 (Nat.le_of_ble_eq_true rfl) (Nat.le_of_ble_eq_true rfl) (by first | exact ⟨rfl, rfl⟩ | simp [zPr, cntV, *])
            · skip
              by_cases e6 : w = 6
              · subst e6
                refine zv_tabIn (pc := 1) (tgt := 85) C dDu_count_1 (by decide) (by decide) rfl (by decide) ?_
                refine zv_aload_n (pc := 85) C dDu_count_85 rfl ?_
                refine zv_get (pc := 86) C dDu_count_86 fDu_49 (by first | assumption | exact zu_s | (refine (zu_n (by assumption)).trans ?_; first | assumption | exact zu_s)) rfl ?_
                exact zv_iret (pc := 89) C hr dDu_count_89 (Nat.le_of_ble_eq_true rfl) (Nat.le_of_ble_eq_true rfl) (by first | exact ⟨rfl, rfl⟩ | simp [zPr, cntV, *])
              · skip
                by_cases e7 : w = 7
                · subst e7
                  refine zv_tabIn (pc := 1) (tgt := 90) C dDu_count_1 (by decide) (by decide) rfl (by decide) ?_
                  refine zv_aload_n (pc := 90) C dDu_count_90 rfl ?_
                  refine zv_get (pc := 91) C dDu_count_91 fDu_29 (by first | assumption | exact zu_s | (refine (zu_n (by assumption)).trans ?_; first | assumption | exact zu_s)) rfl ?_
                  refine zv_get (pc := 94) C dDu_count_94 fDu_225 (by first | assumption | exact zu_s | (refine (zu_n (by assumption)).trans ?_; first | assumption | exact zu_s)) rfl ?_
                  exact zv_iret (pc := 97) C hr dDu_count_97 (Nat.le_of_ble_eq_true rfl) (Nat.le_of_ble_eq_true rfl) (by first | exact ⟨rfl, rfl⟩ | simp [zPr, cntV, *])
                · skip
                  by_cases e8 : w = 8
                  · subst e8
                    refine zv_tabIn (pc := 1) (tgt := 98) C dDu_count_1 (by decide) (by decide) rfl (by decide) ?_
                    refine zv_aload_n (pc := 98) C dDu_count_98 rfl ?_
                    refine zv_get (pc := 99) C dDu_count_99 fDu_52 (by first | assumption | exact zu_s | (refine (zu_n (by assumption)).trans ?_; first | assumption | exact zu_s)) rfl ?_
                    exact zv_iret (pc := 102) C hr dDu_count_102 (Nat.le_of_ble_eq_true rfl) (Nat.le_of_ble_eq_true rfl) (by first | exact ⟨rfl, rfl⟩ | simp [zPr, cntV, *])
                  · skip
                    refine zv_tabOut (pc := 1) (tgt := 103) C dDu_count_1 (by have x0 : w.toInt ≠ 0 := fun h => e0 (Int32.toInt_inj.mp (h.trans (by decide))); have x1 : w.toInt ≠ 1 := fun h => e1 (Int32.toInt_inj.mp (h.trans (by decide))); have x2 : w.toInt ≠ 2 := fun h => e2 (Int32.toInt_inj.mp (h.trans (by decide))); have x3 : w.toInt ≠ 3 := fun h => e3 (Int32.toInt_inj.mp (h.trans (by decide))); have x4 : w.toInt ≠ 4 := fun h => e4 (Int32.toInt_inj.mp (h.trans (by decide))); have x5 : w.toInt ≠ 5 := fun h => e5 (Int32.toInt_inj.mp (h.trans (by decide))); have x6 : w.toInt ≠ 6 := fun h => e6 (Int32.toInt_inj.mp (h.trans (by decide))); have x7 : w.toInt ≠ 7 := fun h => e7 (Int32.toInt_inj.mp (h.trans (by decide))); have x8 : w.toInt ≠ 8 := fun h => e8 (Int32.toInt_inj.mp (h.trans (by decide))); omega) (by decide) ?_
                    refine zv_iconst (pc := 103) (v := -1) C dDu_count_103 (by decide) ?_
                    exact zv_iret (pc := 104) C hr dDu_count_104 (Nat.le_of_ble_eq_true rfl) (Nat.le_of_ble_eq_true rfl) (by first | exact ⟨rfl, rfl⟩ | simp [zPr, cntV, *])
set_option maxHeartbeats 4000000 in
set_option maxRecDepth 100000 in
theorem cDu_readT {O : zO} {l : Launch} (hk : zK O l) (G : zG) (i : Nat) (w : Int32) {ad : Nat → Nat} {S : aS} (hR : zRep O G ad S) (hS : aOk S) (hi : i < sn S) : zM O l yDu_read [Cond.code yDu_read bDu_read 3 (some .long)] rmDu_read [.ref (ad 0), .int (nI i), .int w] G 1 6 (fun v G' => is5 w = true ∧ v = some (.long (redV S i w)) ∧ G' = G) (fun E G' => is5 w = false ∧ E = "java/lang/IndexOutOfBoundsException" ∧ G' = G) := by
  refine zm_of hk (by decide) (Nat.le_of_ble_eq_true rfl) ?_
  intro p e s m below meth c C hex hr hnm
  obtain ⟨hinj, hD, hK1, ⟨fb, hF, hfb⟩, hBk, ⟨hSh, hp1, hp2⟩, hbs⟩ := id hR
  obtain ⟨ok1, ok2, ok3, ok4⟩ := id hS
  obtain ⟨hk0, hk1, hk2, hk3, hk4, hk5⟩ := id hBk
  refine zv_iload_n (pc := 0) C dDu_read_0 rfl ?_
  refine zv_if_lt (pc := 1) (tgt := 15) C dDu_read_1 (by decide) (fun c1 => absurd c1 (nI_pos (by omega))) (fun c1 => ?_)
  refine zv_iload_n (pc := 4) C dDu_read_4 rfl ?_
  refine zv_aload_n (pc := 5) C dDu_read_5 rfl ?_
  refine zv_get (pc := 6) C dDu_read_6 fDu_29 (by first | assumption | exact zu_s | (refine (zu_n (by assumption)).trans ?_; first | assumption | exact zu_s)) rfl ?_
  refine zv_get (pc := 9) C dDu_read_9 fDu_183 (by first | assumption | exact zu_s | (refine (zu_n (by assumption)).trans ?_; first | assumption | exact zu_s)) rfl ?_
  refine zv_icmp_lt (pc := 12) (tgt := 25) C dDu_read_12 (by decide) (fun c12 => ?_) (fun c12 => absurd (nI_lt hi (by omega)) c12)
  refine zv_iload_n (pc := 25) C dDu_read_25 rfl ?_
  by_cases e0 : w = 0
  · subst e0
    refine zv_tabIn (pc := 26) (tgt := 60) C dDu_read_26 (by decide) (by decide) rfl (by decide) ?_
    refine zv_aload_n (pc := 60) C dDu_read_60 rfl ?_
    refine zv_get (pc := 61) C dDu_read_61 fDu_29 (by first | assumption | exact zu_s | (refine (zu_n (by assumption)).trans ?_; first | assumption | exact zu_s)) rfl ?_
    refine zv_get (pc := 64) C dDu_read_64 fDu_191 (by first | assumption | exact zu_s | (refine (zu_n (by assumption)).trans ?_; first | assumption | exact zu_s)) rfl ?_
    refine zv_iload_n (pc := 67) C dDu_read_67 rfl ?_
    refine zn_iald (pc := 68) C dDu_read_68 (by first | assumption | exact zu_s | (refine (zu_n (by assumption)).trans ?_; first | assumption | exact zu_s)) (by omega) (by omega) ?_
    refine zv_i2l (pc := 69) C dDu_read_69 ?_
    exact zv_lret (pc := 70) C hr dDu_read_70 (Nat.le_of_ble_eq_true rfl) (Nat.le_of_ble_eq_true rfl) (by first | (simp [is5, redV]; done) | (simp [is5, redV, *]; done) | (simp only [is5, redV]; decide +kernel))
  · skip
    by_cases e1 : w = 1
    · subst e1
      refine zv_tabIn (pc := 26) (tgt := 71) C dDu_read_26 (by decide) (by decide) rfl (by decide) ?_
      refine zv_aload_n (pc := 71) C dDu_read_71 rfl ?_
      refine zv_get (pc := 72) C dDu_read_72 fDu_29 (by first | assumption | exact zu_s | (refine (zu_n (by assumption)).trans ?_; first | assumption | exact zu_s)) rfl ?_
      refine zv_get (pc := 75) C dDu_read_75 fDu_194 (by first | assumption | exact zu_s | (refine (zu_n (by assumption)).trans ?_; first | assumption | exact zu_s)) rfl ?_
      refine zv_iload_n (pc := 78) C dDu_read_78 rfl ?_
      refine zn_iald (pc := 79) C dDu_read_79 (by first | assumption | exact zu_s | (refine (zu_n (by assumption)).trans ?_; first | assumption | exact zu_s)) (by omega) (by omega) ?_
      refine zv_i2l (pc := 80) C dDu_read_80 ?_
      exact zv_lret (pc := 81) C hr dDu_read_81 (Nat.le_of_ble_eq_true rfl) (Nat.le_of_ble_eq_true rfl) (by first | (simp [is5, redV]; done) | (simp [is5, redV, *]; done) | (simp only [is5, redV]; decide +kernel))
    · skip
      by_cases e2 : w = 2
      · subst e2
        refine zv_tabIn (pc := 26) (tgt := 82) C dDu_read_26 (by decide) (by decide) rfl (by decide) ?_
        refine zv_aload_n (pc := 82) C dDu_read_82 rfl ?_
        refine zv_get (pc := 83) C dDu_read_83 fDu_29 (by first | assumption | exact zu_s | (refine (zu_n (by assumption)).trans ?_; first | assumption | exact zu_s)) rfl ?_
        refine zv_get (pc := 86) C dDu_read_86 fDu_197 (by first | assumption | exact zu_s | (refine (zu_n (by assumption)).trans ?_; first | assumption | exact zu_s)) rfl ?_
        refine zv_iload_n (pc := 89) C dDu_read_89 rfl ?_
        refine zn_lald (pc := 90) C dDu_read_90 (by first | assumption | exact zu_s | (refine (zu_n (by assumption)).trans ?_; first | assumption | exact zu_s)) (by omega) (by omega) ?_
        exact zv_lret (pc := 91) C hr dDu_read_91 (Nat.le_of_ble_eq_true rfl) (Nat.le_of_ble_eq_true rfl) (by first | (simp [is5, redV]; done) | (simp [is5, redV, *]; done) | (simp only [is5, redV]; decide +kernel))
      · skip
        by_cases e3 : w = 3
        · subst e3
          refine zv_tabIn (pc := 26) (tgt := 92) C dDu_read_26 (by decide) (by decide) rfl (by decide) ?_
          refine zv_aload_n (pc := 92) C dDu_read_92 rfl ?_
          refine zv_get (pc := 93) C dDu_read_93 fDu_29 (by first | assumption | exact zu_s | (refine (zu_n (by assumption)).trans ?_; first | assumption | exact zu_s)) rfl ?_
          refine zv_get (pc := 96) C dDu_read_96 fDu_201 (by first | assumption | exact zu_s | (refine (zu_n (by assumption)).trans ?_; first | assumption | exact zu_s)) rfl ?_
          refine zv_iload_n (pc := 99) C dDu_read_99 rfl ?_
          refine zn_iald (pc := 100) C dDu_read_100 (by first | assumption | exact zu_s | (refine (zu_n (by assumption)).trans ?_; first | assumption | exact zu_s)) (by omega) (by omega) ?_
          refine zv_i2l (pc := 101) C dDu_read_101 ?_
          exact zv_lret (pc := 102) C hr dDu_read_102 (Nat.le_of_ble_eq_true rfl) (Nat.le_of_ble_eq_true rfl) (by first | (simp [is5, redV]; done) | (simp [is5, redV, *]; done) | (simp only [is5, redV]; decide +kernel))
        · skip
          by_cases e4 : w = 4
          · subst e4
            refine zv_tabIn (pc := 26) (tgt := 103) C dDu_read_26 (by decide) (by decide) rfl (by decide) ?_
            refine zv_aload_n (pc := 103) C dDu_read_103 rfl ?_
            refine zv_get (pc := 104) C dDu_read_104 fDu_29 (by first | assumption | exact zu_s | (refine (zu_n (by assumption)).trans ?_; first | assumption | exact zu_s)) rfl ?_
            refine zv_get (pc := 107) C dDu_read_107 fDu_204 (by first | assumption | exact zu_s | (refine (zu_n (by assumption)).trans ?_; first | assumption | exact zu_s)) rfl ?_
            refine zv_iload_n (pc := 110) C dDu_read_110 rfl ?_
            refine zn_iald (pc := 111) C dDu_read_111 (by first | assumption | exact zu_s | (refine (zu_n (by assumption)).trans ?_; first | assumption | exact zu_s)) (by omega) (by omega) ?_
            refine zv_i2l (pc := 112) C dDu_read_112 ?_
            exact zv_lret (pc := 113) C hr dDu_read_113 (Nat.le_of_ble_eq_true rfl) (Nat.le_of_ble_eq_true rfl) (by first | (simp [is5, redV]; done) | (simp [is5, redV, *]; done) | (simp only [is5, redV]; decide +kernel))
          · skip
            refine zv_tabOut (pc := 26) (tgt := 114) C dDu_read_26 (by have x0 : w.toInt ≠ 0 := fun h => e0 (Int32.toInt_inj.mp (h.trans (by decide))); have x1 : w.toInt ≠ 1 := fun h => e1 (Int32.toInt_inj.mp (h.trans (by decide))); have x2 : w.toInt ≠ 2 := fun h => e2 (Int32.toInt_inj.mp (h.trans (by decide))); have x3 : w.toInt ≠ 3 := fun h => e3 (Int32.toInt_inj.mp (h.trans (by decide))); have x4 : w.toInt ≠ 4 := fun h => e4 (Int32.toInt_inj.mp (h.trans (by decide))); omega) (by decide) ?_
            exact zv_throwS (pc := 114) C dDu_read_114 dDu_read_117 dDu_read_118 dDu_read_120 dDu_read_123 tDu_207_190 hex (Nat.le_of_ble_eq_true rfl) (Nat.le_of_ble_eq_true rfl) (Nat.le_of_ble_eq_true rfl) (Nat.le_of_ble_eq_true rfl) (Nat.le_of_ble_eq_true rfl) (Nat.le_of_ble_eq_true rfl) (by first | (simp [is5, redV]; done) | (simp [is5, redV, *]; done) | (simp only [is5, redV]; decide +kernel))
set_option maxHeartbeats 4000000 in
set_option maxRecDepth 100000 in
theorem cDu_readF {O : zO} {l : Launch} (hk : zK O l) (G : zG) (x w : Int32) {ad : Nat → Nat} {S : aS} (hR : zRep O G ad S) (hS : aOk S) (hx : isAccB x (nI (sn S)) = false) : zM O l yDu_read [Cond.code yDu_read bDu_read 3 (some .long)] rmDu_read [.ref (ad 0), .int x, .int w] G 1 6 (fun v G' => false = true ∧ v = some (.long 0) ∧ G' = G) (fun E G' => false = false ∧ E = "java/lang/IndexOutOfBoundsException" ∧ G' = G) := by
  refine zm_of hk (by decide) (Nat.le_of_ble_eq_true rfl) ?_
  intro p e s m below meth c C hex hr hnm
  obtain ⟨hinj, hD, hK1, ⟨fb, hF, hfb⟩, hBk, ⟨hSh, hp1, hp2⟩, hbs⟩ := id hR
  obtain ⟨ok1, ok2, ok3, ok4⟩ := id hS
  obtain ⟨hk0, hk1, hk2, hk3, hk4, hk5⟩ := id hBk
  refine zv_iload_n (pc := 0) C dDu_read_0 rfl ?_
  refine zv_if_lt (pc := 1) (tgt := 15) C dDu_read_1 (by decide) (fun c1 => ?_) (fun c1 => ?_)
  · exact zv_throwS (pc := 15) C dDu_read_15 dDu_read_18 dDu_read_19 dDu_read_21 dDu_read_24 tDu_188_190 hex (Nat.le_of_ble_eq_true rfl) (Nat.le_of_ble_eq_true rfl) (Nat.le_of_ble_eq_true rfl) (Nat.le_of_ble_eq_true rfl) (Nat.le_of_ble_eq_true rfl) (Nat.le_of_ble_eq_true rfl) (by (try simp only [zb_0, Bool.not_eq_false] at c1); simp [c1])
  · refine zv_iload_n (pc := 4) C dDu_read_4 rfl ?_
    refine zv_aload_n (pc := 5) C dDu_read_5 rfl ?_
    refine zv_get (pc := 6) C dDu_read_6 fDu_29 (by first | assumption | exact zu_s | (refine (zu_n (by assumption)).trans ?_; first | assumption | exact zu_s)) rfl ?_
    refine zv_get (pc := 9) C dDu_read_9 fDu_183 (by first | assumption | exact zu_s | (refine (zu_n (by assumption)).trans ?_; first | assumption | exact zu_s)) rfl ?_
    refine zv_icmp_lt (pc := 12) (tgt := 25) C dDu_read_12 (by decide) (fun c12 => by simp [isAccB, c1, Int32.not_le.mpr c12] at hx) (fun c12 => ?_)
    exact zv_throwS (pc := 15) C dDu_read_15 dDu_read_18 dDu_read_19 dDu_read_21 dDu_read_24 tDu_188_190 hex (Nat.le_of_ble_eq_true rfl) (Nat.le_of_ble_eq_true rfl) (Nat.le_of_ble_eq_true rfl) (Nat.le_of_ble_eq_true rfl) (Nat.le_of_ble_eq_true rfl) (Nat.le_of_ble_eq_true rfl) (by (try simp only [zb_0, Bool.not_eq_false] at c1); simp [c1])
set_option maxHeartbeats 4000000 in
set_option maxRecDepth 100000 in
theorem cDu_lookT {O : zO} {l : Launch} (hk : zK O l) (G : zG) (i : Nat) (w : Int32) {ad : Nat → Nat} {S : aS} (hR : zRep O G ad S) (hS : aOk S) (hi : i < snb S) : zM O l yDu_look [Cond.code yDu_look bDu_look 4 (some .int)] rmDu_look [.ref (ad 0), .int (nI i), .int w] G 1 6 (fun v G' => is7 w = true ∧ v = some (.int (lokV (sB S i) w)) ∧ G' = G) (fun E G' => is7 w = false ∧ E = "java/lang/IndexOutOfBoundsException" ∧ G' = G) := by
  refine zm_of hk (by decide) (Nat.le_of_ble_eq_true rfl) ?_
  intro p e s m below meth c C hex hr hnm
  obtain ⟨hinj, hD, hK1, ⟨fb, hF, hfb⟩, hBk, ⟨hSh, hp1, hp2⟩, hbs⟩ := id hR
  obtain ⟨ok1, ok2, ok3, ok4⟩ := id hS
  obtain ⟨hk0, hk1, hk2, hk3, hk4, hk5⟩ := id hBk
  obtain ⟨hb1, hb2, hb3⟩ := hbs i hi
  refine zv_aload_n (pc := 0) C dDu_look_0 rfl ?_
  refine zv_iload_n (pc := 1) C dDu_look_1 rfl ?_
  refine zv_callV (pc := 2) C dDu_look_2 (cDu_batchAtT hk _ _ hR hS hi) gDu_209 ⟨rfl, rfl, ⟨Nat.le_of_ble_eq_true rfl, Nat.le_of_ble_eq_true rfl⟩, mDu_batchAt⟩ rfl rfl (Nat.le_of_ble_eq_true rfl) (by first | assumption | exact zu_s | (refine (zu_n (by assumption)).trans ?_; first | assumption | exact zu_s)) rfl rfl ⟨Nat.le_of_ble_eq_true rfl, Nat.le_of_ble_eq_true rfl⟩ (fun _ _ h => h.elim) (fun v G' h => ?_)
  obtain ⟨rfl, rfl⟩ := h
  refine zv_astore_n (pc := 5) C dDu_look_5 (by decide) ?_
  refine zv_aload_n (pc := 6) C dDu_look_6 rfl ?_
  refine zv_ifnonnull (pc := 7) (tgt := 20) C dDu_look_7 (by decide) ?_
  refine zv_iload_n (pc := 20) C dDu_look_20 rfl ?_
  by_cases e0 : w = 0
  · subst e0
    refine zv_tabIn (pc := 21) (tgt := 64) C dDu_look_21 (by decide) (by decide) rfl (by decide) ?_
    refine zv_aload_n (pc := 64) C dDu_look_64 rfl ?_
    refine zv_get (pc := 65) C dDu_look_65 fDu_215 (by first | assumption | exact zu_s | (refine (zu_n (by assumption)).trans ?_; first | assumption | exact zu_s)) rfl ?_
    exact zv_iret (pc := 68) C hr dDu_look_68 (Nat.le_of_ble_eq_true rfl) (Nat.le_of_ble_eq_true rfl) (by first | (simp [is7, is5, lokV]; done) | (simp [is7, is5, lokV, *]; done) | (simp only [is7, is5, lokV]; decide +kernel))
  · skip
    by_cases e1 : w = 1
    · subst e1
      refine zv_tabIn (pc := 21) (tgt := 69) C dDu_look_21 (by decide) (by decide) rfl (by decide) ?_
      refine zv_aload_n (pc := 69) C dDu_look_69 rfl ?_
      refine zv_get (pc := 70) C dDu_look_70 fDu_218 (by first | assumption | exact zu_s | (refine (zu_n (by assumption)).trans ?_; first | assumption | exact zu_s)) rfl ?_
      exact zv_iret (pc := 73) C hr dDu_look_73 (Nat.le_of_ble_eq_true rfl) (Nat.le_of_ble_eq_true rfl) (by first | (simp [is7, is5, lokV]; done) | (simp [is7, is5, lokV, *]; done) | (simp only [is7, is5, lokV]; decide +kernel))
    · skip
      by_cases e2 : w = 2
      · subst e2
        refine zv_tabIn (pc := 21) (tgt := 74) C dDu_look_21 (by decide) (by decide) rfl (by decide) ?_
        refine zv_aload_n (pc := 74) C dDu_look_74 rfl ?_
        refine zv_get (pc := 75) C dDu_look_75 fDu_129 (by first | assumption | exact zu_s | (refine (zu_n (by assumption)).trans ?_; first | assumption | exact zu_s)) rfl ?_
        exact zv_iret (pc := 78) C hr dDu_look_78 (Nat.le_of_ble_eq_true rfl) (Nat.le_of_ble_eq_true rfl) (by first | (simp [is7, is5, lokV]; done) | (simp [is7, is5, lokV, *]; done) | (simp only [is7, is5, lokV]; decide +kernel))
      · skip
        by_cases e3 : w = 3
        · subst e3
          refine zv_tabIn (pc := 21) (tgt := 79) C dDu_look_21 (by decide) (by decide) rfl (by decide) ?_
          refine zv_aload_n (pc := 79) C dDu_look_79 rfl ?_
          refine zv_get (pc := 80) C dDu_look_80 fDu_132 (by first | assumption | exact zu_s | (refine (zu_n (by assumption)).trans ?_; first | assumption | exact zu_s)) rfl ?_
          exact zv_iret (pc := 83) C hr dDu_look_83 (Nat.le_of_ble_eq_true rfl) (Nat.le_of_ble_eq_true rfl) (by first | (simp [is7, is5, lokV]; done) | (simp [is7, is5, lokV, *]; done) | (simp only [is7, is5, lokV]; decide +kernel))
        · skip
          by_cases e4 : w = 4
          · subst e4
            refine zv_tabIn (pc := 21) (tgt := 84) C dDu_look_21 (by decide) (by decide) rfl (by decide) ?_
            refine zv_aload_n (pc := 84) C dDu_look_84 rfl ?_
            refine zv_get (pc := 85) C dDu_look_85 fDu_100 (by first | assumption | exact zu_s | (refine (zu_n (by assumption)).trans ?_; first | assumption | exact zu_s)) rfl ?_
            refine zv_if_eq (pc := 88) (tgt := 95) C dDu_look_88 (by decide) (fun c88 => ?_) (fun c88 => ?_)
            · refine zv_iconst (pc := 95) (v := 0) C dDu_look_95 (by decide) ?_
              exact zv_iret (pc := 96) C hr dDu_look_96 (Nat.le_of_ble_eq_true rfl) (Nat.le_of_ble_eq_true rfl) (by (try simp only [zb_0, Bool.not_eq_false] at c88); first | (simp [is7, is5, lokV, c88]; done) | (simp [is7, is5, lokV, c88, *]; done) | (simp only [is7, is5, lokV, c88]; decide +kernel))
            · refine zv_iconst (pc := 91) (v := 1) C dDu_look_91 (by decide) ?_
              refine zv_goto (pc := 92) (tgt := 96) C dDu_look_92 (by decide) ?_
              exact zv_iret (pc := 96) C hr dDu_look_96 (Nat.le_of_ble_eq_true rfl) (Nat.le_of_ble_eq_true rfl) (by (try simp only [zb_0, Bool.not_eq_false] at c88); first | (simp [is7, is5, lokV, c88]; done) | (simp [is7, is5, lokV, c88, *]; done) | (simp only [is7, is5, lokV, c88]; decide +kernel))
          · skip
            by_cases e5 : w = 5
            · subst e5
              refine zv_tabIn (pc := 21) (tgt := 97) C dDu_look_21 (by decide) (by decide) rfl (by decide) ?_
              refine zv_aload_n (pc := 97) C dDu_look_97 rfl ?_
              refine zv_get (pc := 98) C dDu_look_98 fDu_219 (by first | assumption | exact zu_s | (refine (zu_n (by assumption)).trans ?_; first | assumption | exact zu_s)) rfl ?_
              exact zv_iret (pc := 101) C hr dDu_look_101 (Nat.le_of_ble_eq_true rfl) (Nat.le_of_ble_eq_true rfl) (by first | (simp [is7, is5, lokV]; done) | (simp [is7, is5, lokV, *]; done) | (simp only [is7, is5, lokV]; decide +kernel))
            · skip
              by_cases e6 : w = 6
              · subst e6
                refine zv_tabIn (pc := 21) (tgt := 102) C dDu_look_21 (by decide) (by decide) rfl (by decide) ?_
                refine zv_aload_n (pc := 102) C dDu_look_102 rfl ?_
                refine zv_get (pc := 103) C dDu_look_103 fDu_222 (by first | assumption | exact zu_s | (refine (zu_n (by assumption)).trans ?_; first | assumption | exact zu_s)) rfl ?_
                exact zv_iret (pc := 106) C hr dDu_look_106 (Nat.le_of_ble_eq_true rfl) (Nat.le_of_ble_eq_true rfl) (by first | (simp [is7, is5, lokV]; done) | (simp [is7, is5, lokV, *]; done) | (simp only [is7, is5, lokV]; decide +kernel))
              · skip
                refine zv_tabOut (pc := 21) (tgt := 107) C dDu_look_21 (by have x0 : w.toInt ≠ 0 := fun h => e0 (Int32.toInt_inj.mp (h.trans (by decide))); have x1 : w.toInt ≠ 1 := fun h => e1 (Int32.toInt_inj.mp (h.trans (by decide))); have x2 : w.toInt ≠ 2 := fun h => e2 (Int32.toInt_inj.mp (h.trans (by decide))); have x3 : w.toInt ≠ 3 := fun h => e3 (Int32.toInt_inj.mp (h.trans (by decide))); have x4 : w.toInt ≠ 4 := fun h => e4 (Int32.toInt_inj.mp (h.trans (by decide))); have x5 : w.toInt ≠ 5 := fun h => e5 (Int32.toInt_inj.mp (h.trans (by decide))); have x6 : w.toInt ≠ 6 := fun h => e6 (Int32.toInt_inj.mp (h.trans (by decide))); omega) (by decide) ?_
                exact zv_throwS (pc := 107) C dDu_look_107 dDu_look_110 dDu_look_111 dDu_look_113 dDu_look_116 tDu_207_190 hex (Nat.le_of_ble_eq_true rfl) (Nat.le_of_ble_eq_true rfl) (Nat.le_of_ble_eq_true rfl) (Nat.le_of_ble_eq_true rfl) (Nat.le_of_ble_eq_true rfl) (Nat.le_of_ble_eq_true rfl) (by first | (simp [is7, is5, lokV]; done) | (simp [is7, is5, lokV, *]; done) | (simp only [is7, is5, lokV]; decide +kernel))
set_option maxHeartbeats 4000000 in
set_option maxRecDepth 100000 in
theorem cDu_lookF {O : zO} {l : Launch} (hk : zK O l) (G : zG) (x w : Int32) {ad : Nat → Nat} {S : aS} (hR : zRep O G ad S) (hS : aOk S) (hx : isAccB x (nI (snb S)) = false) : zM O l yDu_look [Cond.code yDu_look bDu_look 4 (some .int)] rmDu_look [.ref (ad 0), .int x, .int w] G 1 6 (fun v G' => false = true ∧ v = some (.int 0) ∧ G' = G) (fun E G' => false = false ∧ E = "java/lang/IndexOutOfBoundsException" ∧ G' = G) := by
  refine zm_of hk (by decide) (Nat.le_of_ble_eq_true rfl) ?_
  intro p e s m below meth c C hex hr hnm
  obtain ⟨hinj, hD, hK1, ⟨fb, hF, hfb⟩, hBk, ⟨hSh, hp1, hp2⟩, hbs⟩ := id hR
  obtain ⟨ok1, ok2, ok3, ok4⟩ := id hS
  obtain ⟨hk0, hk1, hk2, hk3, hk4, hk5⟩ := id hBk
  refine zv_aload_n (pc := 0) C dDu_look_0 rfl ?_
  refine zv_iload_n (pc := 1) C dDu_look_1 rfl ?_
  refine zv_callV (pc := 2) C dDu_look_2 (cDu_batchAtF hk _ _ hR hS hx) gDu_209 ⟨rfl, rfl, ⟨Nat.le_of_ble_eq_true rfl, Nat.le_of_ble_eq_true rfl⟩, mDu_batchAt⟩ rfl rfl (Nat.le_of_ble_eq_true rfl) (by first | assumption | exact zu_s | (refine (zu_n (by assumption)).trans ?_; first | assumption | exact zu_s)) rfl rfl ⟨Nat.le_of_ble_eq_true rfl, Nat.le_of_ble_eq_true rfl⟩ (fun _ _ h => h.elim) (fun v G' h => ?_)
  obtain ⟨rfl, rfl⟩ := h
  refine zv_astore_nN (pc := 5) C dDu_look_5 (by decide) ?_
  refine zv_aload_nN (pc := 6) C dDu_look_6 rfl ?_
  refine zv_ifnonnullN (pc := 7) C dDu_look_7 ?_
  exact zv_throwS (pc := 10) C dDu_look_10 dDu_look_13 dDu_look_14 dDu_look_16 dDu_look_19 tDu_213_190 hex (Nat.le_of_ble_eq_true rfl) (Nat.le_of_ble_eq_true rfl) (Nat.le_of_ble_eq_true rfl) (Nat.le_of_ble_eq_true rfl) (Nat.le_of_ble_eq_true rfl) (Nat.le_of_ble_eq_true rfl) (by simp [])
end
section
/-! changes of the state -/
/-- from S to S': the class's cells, perhaps with three more for each new batch; nothing else has changed -/
def zTo (O : zO) (G G' : zG) (ad : Nat → Nat) (S S' : aS) : Prop := ∃ ad' : Nat → Nat, zRep O G' ad' S' ∧ snb S ≤ snb S' ∧ (∀ i, i < 12 + 3 * snb S → ad' i = ad i) ∧ (∀ i, 12 + 3 * snb S ≤ i → i < 12 + 3 * snb S' → G (ad' i) = none) ∧ ∀ q e, G q = some e → (∀ i, i < 12 + 3 * snb S → q ≠ ad i) → G' q = some e
theorem zTo.same {O : zO} {G G' : zG} {ad : Nat → Nat} {S S' : aS} (h : zRep O G' ad S') (hn : snb S' = snb S) (hq : ∀ q, (∀ i, i < 12 + 3 * snb S → q ≠ ad i) → G' q = G q) : zTo O G G' ad S S' := ⟨ad, h, by omega, fun _ _ => rfl, fun i h1 h2 => by omega, fun q e h1 h2 => (hq q h2).trans h1⟩
theorem zTo.rf {O : zO} {G : zG} {ad : Nat → Nat} {S : aS} (h : zRep O G ad S) : zTo O G G ad S S := zTo.same h rfl (fun _ _ => rfl)
theorem zBk.kept {O : zO} {G G' : zG} {a0 b1 b2 b3 b4 b5 n h : Nat} {f1 f2 : Nat → Int32} {f3 : Nat → Int64} {f4 f5 : Nat → Int32} (hB : zBk O G a0 b1 b2 b3 b4 b5 n h f1 f2 f3 f4 f5) (hk : ∀ q ∈ [a0, b1, b2, b3, b4, b5], G' q = G q) : zBk O G' a0 b1 b2 b3 b4 b5 n h f1 f2 f3 f4 f5 := by
  obtain ⟨h0, h1, h2, h3, h4, h5⟩ := hB
  exact ⟨(hk _ (by simp)).trans h0, (hk _ (by simp)).trans h1, (hk _ (by simp)).trans h2, (hk _ (by simp)).trans h3, (hk _ (by simp)).trans h4, (hk _ (by simp)).trans h5⟩
theorem zBat.kept {O : zO} {G G' : zG} {x y z : Nat} {b : aB} (h : zBat O G x y z b) (h1 : G' x = G x) (h2 : G' y = G y) (h3 : G' z = G z) : zBat O G' x y z b := ⟨h1.trans h.1, h2.trans h.2.1, h3.trans h.2.2⟩
/-- root and kinds are new; all else stays -/
theorem zRep.root {O : zO} {G G' : zG} {ad : Nat → Nat} {S S' : aS} (h : zRep O G ad S) (e1 : S'.2.1 = S.2.1) (e2 : S'.2.2.1 = S.2.2.1) (e3 : S'.2.2.2.1 = S.2.2.2.1)
    (h0 : G' (ad 0) = some (oDu (ad 1) (ad 2) (ad 3) (ad 4) (nI (sna S')) (nI (snb S')) (scd S') (slk S') (swr S') (snm S') (sfl S'))) (h1 : G' (ad 1) = some (zI O 12 (skd S')))
    (hk : ∀ j, 2 ≤ j → j < 12 + 3 * snb S → G' (ad j) = G (ad j)) : zRep O G' ad S' := by
  obtain ⟨hinj, hD, hK1, ⟨fb, hF, hfb⟩, hBk, ⟨hSh, hp1, hp2⟩, hbs⟩ := h
  obtain ⟨⟨na, kd⟩, ⟨nb, B⟩, L, ⟨fp, fq⟩, rest⟩ := S
  obtain ⟨⟨na', kd'⟩, B', L', P', rest'⟩ := S'
  dsimp only at e1 e2 e3
  subst e1; subst e2; subst e3
  refine ⟨hinj, h0, h1, ⟨fb, (hk 2 (by omega) (by omega)).trans hF, hfb⟩, hBk.kept (fun q hq => ?_), ⟨(hk 4 (by omega) (by omega)).trans hSh, (hk 10 (by omega) (by omega)).trans hp1, (hk 11 (by omega) (by omega)).trans hp2⟩, fun i hi => (hbs i hi).kept (hk _ (by omega) (by first | omega | (simp only [snb] at hi ⊢; omega))) (hk _ (by omega) (by first | omega | (simp only [snb] at hi ⊢; omega))) (hk _ (by omega) (by first | omega | (simp only [snb] at hi ⊢; omega)))⟩
  simp only [List.mem_cons, List.not_mem_nil, or_false] at hq
  rcases hq with rfl | rfl | rfl | rfl | rfl | rfl
  · exact hk 3 (by omega) (by omega)
  · exact hk 5 (by omega) (by omega)
  · exact hk 6 (by omega) (by omega)
  · exact hk 7 (by omega) (by omega)
  · exact hk 8 (by omega) (by omega)
  · exact hk 9 (by omega) (by omega)
/-- .. the root alone -/
theorem zTo.root {O : zO} {G : zG} {ad : Nat → Nat} {S S' : aS} (h : zRep O G ad S) (e0 : S'.1 = S.1) (e1 : S'.2.1 = S.2.1) (e2 : S'.2.2.1 = S.2.2.1) (e3 : S'.2.2.2.1 = S.2.2.2.1) {e : va_E} (he : e = oDu (ad 1) (ad 2) (ad 3) (ad 4) (nI (sna S')) (nI (snb S')) (scd S') (slk S') (swr S') (snm S') (sfl S')) : zTo O G (zu G (ad 0) e) ad S S' := by
  subst he
  refine zTo.same (h.root e1 e2 e3 zu_s ((zu_n (h.ne (by omega) (by omega) (by omega))).trans ?_) (fun j h1 h2 => zu_n (h.ne h2 (by omega) (by omega)))) (by rw [snb, snb, e1]) (fun q hq => zu_n (hq 0 (by omega)))
  rw [h.2.2.1, skd, skd, e0]
/-- one more account -/
def acS (S : aS) (x : Int32) : aS := ((sna S + 1, upd (skd S) (sna S) x), S.2)
def clS (S : aS) (x : Int32) : aS := (S.1, S.2.1, S.2.2.1, S.2.2.2.1, (x, S.2.2.2.2.2))
theorem n12 {n : Nat} (hn : n < 2 ^ 31) (h : nI n < 12) : n < 12 := (nI_ltI (b := 12) hn (by omega)).mp h
theorem n100 {n : Nat} (hn : n < 2 ^ 31) (h : nI n < 100) : n < 100 := (nI_ltI (b := 100) hn (by omega)).mp h
set_option maxHeartbeats 4000000 in
set_option maxRecDepth 100000 in
theorem cDu_account {O : zO} {l : Launch} (hk : zK O l) (G : zG) (x : Int32) {ad : Nat → Nat} {S : aS} (hR : zRep O G ad S) (hS : aOk S) : zM O l yDu_account [Cond.code yDu_account bDu_account 2 (some .int)] rmDu_account [.ref (ad 0), .int x] G 1 6 (fun v G' => isKindB x = true ∧ sna S < 12 ∧ v = some (.int (nI (sna S))) ∧ zTo O G G' ad S (acS S x)) (fun E G' => G' = G ∧ ((isKindB x = false ∧ E = "java/lang/IllegalArgumentException") ∨ (isKindB x = true ∧ ¬ sna S < 12 ∧ E = "java/lang/IllegalStateException"))) := by
  refine zm_of hk (by decide) (Nat.le_of_ble_eq_true rfl) ?_
  intro p e s m below meth c C hex hr hnm
  obtain ⟨hinj, hD, hK1, ⟨fb, hF, hfb⟩, hBk, ⟨hSh, hp1, hp2⟩, hbs⟩ := id hR
  obtain ⟨ok1, ok2, ok3, ok4⟩ := id hS
  have n01 : ad 0 ≠ ad 1 := hR.ne (by omega) (by omega) (by omega)
  have n10 := Ne.symm n01
  refine zv_iload_n (pc := 0) C dDu_account_0 rfl ?_
  refine zv_callS (pc := 1) C dDu_account_1 (cDu_isKind hk _ _) gDu_55 ⟨rfl, rfl, ⟨Nat.le_of_ble_eq_true rfl, Nat.le_of_ble_eq_true rfl⟩, mDu_isKind⟩ rfl rfl (Nat.le_of_ble_eq_true rfl) ⟨Nat.le_of_ble_eq_true rfl, Nat.le_of_ble_eq_true rfl⟩ (fun _ _ h => h.elim) (fun v G' h => ?_)
  obtain ⟨rfl, rfl⟩ := h
  refine zv_if_ne (pc := 4) (tgt := 17) C dDu_account_4 (by decide) (fun c4 => ?_) (fun c4 => ?_)
  · refine zv_aload_n (pc := 17) C dDu_account_17 rfl ?_
    refine zv_get (pc := 18) C dDu_account_18 fDu_13 (by first | assumption | exact zu_s | (refine (zu_n (by assumption)).trans ?_; first | assumption | exact zu_s | (refine (zu_n (by assumption)).trans ?_; first | assumption | exact zu_s | (refine (zu_n (by assumption)).trans ?_; first | assumption | exact zu_s)))) rfl ?_
    refine zv_bipush (pc := 21) (v := 12) C dDu_account_21 (by decide) ?_
    refine zv_icmp_lt (pc := 23) (tgt := 36) C dDu_account_23 (by decide) (fun c23 => ?_) (fun c23 => ?_)
    · have hlt : sna S < 12 := n12 (by omega) c23
      refine zv_aload_n (pc := 36) C dDu_account_36 rfl ?_
      refine zv_get (pc := 37) C dDu_account_37 fDu_9 (by first | assumption | exact zu_s | (refine (zu_n (by assumption)).trans ?_; first | assumption | exact zu_s | (refine (zu_n (by assumption)).trans ?_; first | assumption | exact zu_s | (refine (zu_n (by assumption)).trans ?_; first | assumption | exact zu_s)))) rfl ?_
      refine zv_aload_n (pc := 40) C dDu_account_40 rfl ?_
      refine zv_get (pc := 41) C dDu_account_41 fDu_13 (by first | assumption | exact zu_s | (refine (zu_n (by assumption)).trans ?_; first | assumption | exact zu_s | (refine (zu_n (by assumption)).trans ?_; first | assumption | exact zu_s | (refine (zu_n (by assumption)).trans ?_; first | assumption | exact zu_s)))) rfl ?_
      refine zv_iload_n (pc := 44) C dDu_account_44 rfl ?_
      refine zn_iast (pc := 45) C dDu_account_45 (by first | assumption | exact zu_s | (refine (zu_n (by assumption)).trans ?_; first | assumption | exact zu_s | (refine (zu_n (by assumption)).trans ?_; first | assumption | exact zu_s | (refine (zu_n (by assumption)).trans ?_; first | assumption | exact zu_s)))) (by omega) (by omega) ?_
      refine zv_aload_n (pc := 46) C dDu_account_46 rfl ?_
      refine zv_dup (pc := 47) C dDu_account_47 rfl ?_
      refine zv_get (pc := 48) C dDu_account_48 fDu_13 (by first | assumption | exact zu_s | (refine (zu_n (by assumption)).trans ?_; first | assumption | exact zu_s | (refine (zu_n (by assumption)).trans ?_; first | assumption | exact zu_s | (refine (zu_n (by assumption)).trans ?_; first | assumption | exact zu_s)))) rfl ?_
      refine zv_iconst (pc := 51) (v := 1) C dDu_account_51 (by decide) ?_
      refine zv_iadd (pc := 52) C dDu_account_52 ?_
      refine zv_topi (nI_1 (sna S)) ?_
      refine zv_put (pc := 53) C dDu_account_53 fDu_13 ⟨tkDu, nmDu⟩ (by first | assumption | exact zu_s | (refine (zu_n (by assumption)).trans ?_; first | assumption | exact zu_s | (refine (zu_n (by assumption)).trans ?_; first | assumption | exact zu_s | (refine (zu_n (by assumption)).trans ?_; first | assumption | exact zu_s)))) rfl (tkDu 1 (by decide)) rfl rfl (Nat.le_of_ble_eq_true rfl) ?_
      refine zv_aload_n (pc := 56) C dDu_account_56 rfl ?_
      refine zv_get (pc := 57) C dDu_account_57 fDu_13 (by first | assumption | exact zu_s | (refine (zu_n (by assumption)).trans ?_; first | assumption | exact zu_s | (refine (zu_n (by assumption)).trans ?_; first | assumption | exact zu_s | (refine (zu_n (by assumption)).trans ?_; first | assumption | exact zu_s)))) rfl ?_
      refine zv_iconst (pc := 60) (v := 1) C dDu_account_60 (by decide) ?_
      refine zv_isub (pc := 61) C dDu_account_61 ?_
      refine zv_topi (nI_pred (sna S)) ?_
      exact zv_iret (pc := 62) C hr dDu_account_62 (Nat.le_of_ble_eq_true rfl) (Nat.le_of_ble_eq_true rfl) (by (try simp only [zb_0, Bool.not_eq_false] at c4); (try simp only [zb_0, Bool.not_eq_false] at c23); refine ⟨c4, hlt, rfl, zTo.same (hR.root (S' := acS S x) rfl rfl rfl zu_s ((zu_n n10).trans zu_s) (fun j h1 h2 => (zu_n (hR.ne h2 (by omega) (by omega))).trans (zu_n (hR.ne h2 (by omega) (by omega))))) rfl (fun q hq => (zu_n (hq 0 (by omega))).trans (zu_n (hq 1 (by omega))))⟩)
    · exact zv_throwS (pc := 26) C dDu_account_26 dDu_account_29 dDu_account_30 dDu_account_32 dDu_account_35 tDu_68_70 hex (Nat.le_of_ble_eq_true rfl) (Nat.le_of_ble_eq_true rfl) (Nat.le_of_ble_eq_true rfl) (Nat.le_of_ble_eq_true rfl) (Nat.le_of_ble_eq_true rfl) (Nat.le_of_ble_eq_true rfl) (by (try simp only [zb_0, Bool.not_eq_false] at c4); (try simp only [zb_0, Bool.not_eq_false] at c23); exact ⟨rfl, Or.inr ⟨c4, fun h => c23 (nI_lt (b := 12) h (by omega)), rfl⟩⟩)
  · exact zv_throwS (pc := 7) C dDu_account_7 dDu_account_10 dDu_account_11 dDu_account_13 dDu_account_16 tDu_61_63 hex (Nat.le_of_ble_eq_true rfl) (Nat.le_of_ble_eq_true rfl) (Nat.le_of_ble_eq_true rfl) (Nat.le_of_ble_eq_true rfl) (Nat.le_of_ble_eq_true rfl) (Nat.le_of_ble_eq_true rfl) (by (try simp only [zb_0, Bool.not_eq_false] at c4); exact ⟨rfl, Or.inl ⟨c4, rfl⟩⟩)
def clOk (S : aS) (x : Int32) : Bool := isDayB x && decide (scd S < x)
set_option maxHeartbeats 4000000 in
set_option maxRecDepth 100000 in
theorem cDu_close {O : zO} {l : Launch} (hk : zK O l) (G : zG) (x : Int32) {ad : Nat → Nat} {S : aS} (hR : zRep O G ad S) (hS : aOk S) : zM O l yDu_close [Cond.code yDu_close bDu_close 2 (some .boolean)] rmDu_close [.ref (ad 0), .int x] G 0 0 (fun v G' => v = some (.int (zb (clOk S x))) ∧ ((clOk S x = false ∧ G' = G) ∨ (clOk S x = true ∧ zTo O G G' ad S (clS S x)))) zNo := by
  refine zm_of hk (by decide) (Nat.le_of_ble_eq_true rfl) ?_
  intro p e s m below meth c C hex hr hnm
  obtain ⟨hinj, hD, hK1, ⟨fb, hF, hfb⟩, hBk, ⟨hSh, hp1, hp2⟩, hbs⟩ := id hR
  obtain ⟨ok1, ok2, ok3, ok4⟩ := id hS
  refine zv_iload_n (pc := 0) C dDu_close_0 rfl ?_
  refine zv_callS (pc := 1) C dDu_close_1 (cDu_isDay hk _ _) gDu_71 ⟨rfl, rfl, ⟨Nat.le_of_ble_eq_true rfl, Nat.le_of_ble_eq_true rfl⟩, mDu_isDay⟩ rfl rfl (Nat.le_of_ble_eq_true rfl) ⟨Nat.le_of_ble_eq_true rfl, Nat.le_of_ble_eq_true rfl⟩ (fun _ _ h => h.elim) (fun v G' h => ?_)
  obtain ⟨rfl, rfl⟩ := h
  refine zv_if_eq (pc := 4) (tgt := 15) C dDu_close_4 (by decide) (fun c4 => ?_) (fun c4 => ?_)
  · refine zv_iconst (pc := 15) (v := 0) C dDu_close_15 (by decide) ?_
    exact zv_zret (pc := 16) C hr (by first | rfl | exact zb_nar _) dDu_close_16 (Nat.le_of_ble_eq_true rfl) (Nat.le_of_ble_eq_true rfl) (by (try simp only [zb_0, Bool.not_eq_false] at c4); have hz : clOk S x = false := (by simp [clOk, c4]); exact ⟨by rw [hz]; rfl, Or.inl ⟨hz, rfl⟩⟩)
  · refine zv_iload_n (pc := 7) C dDu_close_7 rfl ?_
    refine zv_aload_n (pc := 8) C dDu_close_8 rfl ?_
    refine zv_get (pc := 9) C dDu_close_9 fDu_40 (by first | assumption | exact zu_s | (refine (zu_n (by assumption)).trans ?_; first | assumption | exact zu_s)) rfl ?_
    refine zv_icmp_gt (pc := 12) (tgt := 17) C dDu_close_12 (by decide) (fun c12 => ?_) (fun c12 => ?_)
    · refine zv_aload_n (pc := 17) C dDu_close_17 rfl ?_
      refine zv_iload_n (pc := 18) C dDu_close_18 rfl ?_
      refine zv_put (pc := 19) C dDu_close_19 fDu_40 ⟨tkDu, nmDu⟩ (by first | assumption | exact zu_s | (refine (zu_n (by assumption)).trans ?_; first | assumption | exact zu_s)) rfl (tkDu 6 (by decide)) (by first | rfl | assumption | exact zb_nar _) (by first | rfl | assumption | decide +kernel) (Nat.le_of_ble_eq_true rfl) ?_
      refine zv_iconst (pc := 22) (v := 1) C dDu_close_22 (by decide) ?_
      exact zv_zret (pc := 23) C hr (by first | rfl | exact zb_nar _) dDu_close_23 (Nat.le_of_ble_eq_true rfl) (Nat.le_of_ble_eq_true rfl) (by (try simp only [zb_0, Bool.not_eq_false] at c4); (try simp only [zb_0, Bool.not_eq_false] at c12); have hz : clOk S x = true := (by simp [clOk, c4, c12]); exact ⟨by rw [hz]; rfl, Or.inr ⟨hz, zTo.root (S' := clS S x) hR rfl rfl rfl rfl rfl⟩⟩)
    · refine zv_iconst (pc := 15) (v := 0) C dDu_close_15 (by decide) ?_
      exact zv_zret (pc := 16) C hr (by first | rfl | exact zb_nar _) dDu_close_16 (Nat.le_of_ble_eq_true rfl) (Nat.le_of_ble_eq_true rfl) (by (try simp only [zb_0, Bool.not_eq_false] at c4); (try simp only [zb_0, Bool.not_eq_false] at c12); have hz : clOk S x = false := (by simp [clOk, c4, c12]); exact ⟨by rw [hz]; rfl, Or.inl ⟨hz, rfl⟩⟩)
def ptS (S : aS) (k r : Nat) (x : Int32) : aS := (S.1, S.2.1, S.2.2.1, (upd (sfp S) (k * 4 + r) x, sfq S), S.2.2.2.2)
def csS (S : aS) (k : Nat) (x : Int32) : aS := (S.1, S.2.1, S.2.2.1, (sfp S, upd (sfq S) k x), S.2.2.2.2)
theorem isKindB_of {x : Int32} (h : isKindB x = true) : ∃ k : Nat, k < 6 ∧ x = nI k := isAccB_of (n := 6) (by omega) h
theorem isRecB_of {x : Int32} (h : isRecB x = true) : ∃ k : Nat, k < 4 ∧ x = nI k := isAccB_of (n := 4) (by omega) h
/-- parts or costs are new -/
theorem zRep.shares {O : zO} {G G' : zG} {ad : Nat → Nat} {S S' : aS} (h : zRep O G ad S) (e0 : S'.1 = S.1) (e1 : S'.2.1 = S.2.1) (e2 : S'.2.2.1 = S.2.2.1) (e4 : S'.2.2.2.2 = S.2.2.2.2)
    (h0 : G' (ad 10) = some (zI O 24 (sfp S'))) (h1 : G' (ad 11) = some (zI O 6 (sfq S')))
    (hk : ∀ j, j ≠ 10 → j ≠ 11 → j < 12 + 3 * snb S → G' (ad j) = G (ad j)) : zRep O G' ad S' := by
  obtain ⟨hinj, hD, hK1, ⟨fb, hF, hfb⟩, hBk, ⟨hSh, hp1, hp2⟩, hbs⟩ := h
  obtain ⟨⟨na, kd⟩, ⟨nb, B⟩, L, ⟨fp, fq⟩, rest⟩ := S
  obtain ⟨A', B', L', P', rest'⟩ := S'
  dsimp only at e0 e1 e2 e4
  subst e0; subst e1; subst e2; subst e4
  refine ⟨hinj, (hk 0 (by omega) (by omega) (by omega)).trans hD, (hk 1 (by omega) (by omega) (by omega)).trans hK1, ⟨fb, (hk 2 (by omega) (by omega) (by omega)).trans hF, hfb⟩, hBk.kept (fun q hq => ?_), ⟨(hk 4 (by omega) (by omega) (by omega)).trans hSh, h0, h1⟩, fun i hi => (hbs i hi).kept (hk _ (by omega) (by omega) (by first | omega | (simp only [snb] at hi ⊢; omega))) (hk _ (by omega) (by omega) (by first | omega | (simp only [snb] at hi ⊢; omega))) (hk _ (by omega) (by omega) (by first | omega | (simp only [snb] at hi ⊢; omega)))⟩
  simp only [List.mem_cons, List.not_mem_nil, or_false] at hq
  rcases hq with rfl | rfl | rfl | rfl | rfl | rfl
  · exact hk 3 (by omega) (by omega) (by omega)
  · exact hk 5 (by omega) (by omega) (by omega)
  · exact hk 6 (by omega) (by omega) (by omega)
  · exact hk 7 (by omega) (by omega) (by omega)
  · exact hk 8 (by omega) (by omega) (by omega)
  · exact hk 9 (by omega) (by omega) (by omega)
def ptOk (x : Int32) : Bool := !(decide (x < 0)) && decide (x ≤ 1000)
theorem isKindB_nI {k : Nat} (h : k < 6) : isKindB (nI k) = true := isAccB_nI (n := 6) h (by omega)
theorem isRecB_nI {k : Nat} (h : k < 4) : isRecB (nI k) = true := isAccB_nI (n := 4) h (by omega)
set_option maxHeartbeats 4000000 in
set_option maxRecDepth 100000 in
theorem cDu_partT {O : zO} {l : Launch} (hk : zK O l) (G : zG) (k r : Nat) (x : Int32) (hk6 : k < 6) (hr4 : r < 4) {ad : Nat → Nat} {S : aS} (hR : zRep O G ad S) (hS : aOk S) : zM O l yDu_part [Cond.code yDu_part bDu_part 4 (some .boolean)] rmDu_part [.ref (ad 0), .int (nI k), .int (nI r), .int x] G 0 0 (fun v G' => v = some (.int (zb (ptOk x))) ∧ ((ptOk x = false ∧ G' = G) ∨ (ptOk x = true ∧ zTo O G G' ad S (ptS S k r x)))) zNo := by
  refine zm_of hk (by decide) (Nat.le_of_ble_eq_true rfl) ?_
  intro p e s m below meth c C hex hr hnm
  obtain ⟨hinj, hD, hK1, ⟨fb, hF, hfb⟩, hBk, ⟨hSh, hp1, hp2⟩, hbs⟩ := id hR
  obtain ⟨ok1, ok2, ok3, ok4⟩ := id hS
  refine zv_iload_n (pc := 0) C dDu_part_0 rfl ?_
  refine zv_callS (pc := 1) C dDu_part_1 (cDu_isKind hk _ _) gDu_55 ⟨rfl, rfl, ⟨Nat.le_of_ble_eq_true rfl, Nat.le_of_ble_eq_true rfl⟩, mDu_isKind⟩ rfl rfl (Nat.le_of_ble_eq_true rfl) ⟨Nat.le_of_ble_eq_true rfl, Nat.le_of_ble_eq_true rfl⟩ (fun _ _ h => h.elim) (fun v G' h => ?_)
  obtain ⟨rfl, rfl⟩ := h
  refine zv_if_eq (pc := 4) (tgt := 25) C dDu_part_4 (by decide) (fun c4 => by simp [zb_0, isKindB_nI hk6] at c4) (fun c4 => ?_)
  refine zv_iload_n (pc := 7) C dDu_part_7 rfl ?_
  refine zv_callS (pc := 8) C dDu_part_8 (cDu_isReceiver hk _ _) gDu_154 ⟨rfl, rfl, ⟨Nat.le_of_ble_eq_true rfl, Nat.le_of_ble_eq_true rfl⟩, mDu_isReceiver⟩ rfl rfl (Nat.le_of_ble_eq_true rfl) ⟨Nat.le_of_ble_eq_true rfl, Nat.le_of_ble_eq_true rfl⟩ (fun _ _ h => h.elim) (fun v G' h => ?_)
  obtain ⟨rfl, rfl⟩ := h
  refine zv_if_eq (pc := 11) (tgt := 25) C dDu_part_11 (by decide) (fun c11 => by simp [zb_0, isRecB_nI hr4] at c11) (fun c11 => ?_)
  refine zv_iload_n (pc := 14) C dDu_part_14 rfl ?_
  refine zv_if_lt (pc := 15) (tgt := 25) C dDu_part_15 (by decide) (fun c15 => ?_) (fun c15 => ?_)
  · refine zv_iconst (pc := 25) (v := 0) C dDu_part_25 (by decide) ?_
    exact zv_zret (pc := 26) C hr (by first | rfl | exact zb_nar _) dDu_part_26 (Nat.le_of_ble_eq_true rfl) (Nat.le_of_ble_eq_true rfl) (by (try simp only [zb_0, Bool.not_eq_false] at c15); have hz : ptOk x = false := (by simp [ptOk, c15]); exact ⟨by rw [hz]; rfl, Or.inl ⟨hz, rfl⟩⟩)
  · refine zv_iload_n (pc := 18) C dDu_part_18 rfl ?_
    refine zv_sipush (pc := 19) (v := 1000) C dDu_part_19 (by decide) ?_
    refine zv_icmp_le (pc := 22) (tgt := 27) C dDu_part_22 (by decide) (fun c22 => ?_) (fun c22 => ?_)
    · refine zv_aload_n (pc := 27) C dDu_part_27 rfl ?_
      refine zv_get (pc := 28) C dDu_part_28 fDu_36 (by first | assumption | exact zu_s | (refine (zu_n (by assumption)).trans ?_; first | assumption | exact zu_s)) rfl ?_
      refine zv_iload_n (pc := 31) C dDu_part_31 rfl ?_
      refine zv_iload_n (pc := 32) C dDu_part_32 rfl ?_
      refine zv_iload_n (pc := 33) C dDu_part_33 rfl ?_
      refine zv_callV (pc := 34) C dDu_part_34 (cSh_setPart hk _ _ _ _ _ (by first | assumption | exact zu_s | (refine (zu_n (by assumption)).trans ?_; first | assumption | exact zu_s)) (by first | assumption | exact zu_s | (refine (zu_n (by assumption)).trans ?_; first | assumption | exact zu_s)) (by omega) (by omega)) gDu_157 ⟨rfl, rfl, ⟨Nat.le_of_ble_eq_true rfl, Nat.le_of_ble_eq_true rfl⟩, mSh_setPart⟩ rfl rfl (Nat.le_of_ble_eq_true rfl) (by first | assumption | exact zu_s | (refine (zu_n (by assumption)).trans ?_; first | assumption | exact zu_s)) rfl rfl ⟨Nat.le_of_ble_eq_true rfl, Nat.le_of_ble_eq_true rfl⟩ (fun _ _ h => h.elim) (fun v G' h => ?_)
      obtain ⟨rfl, rfl⟩ := h
      refine zv_iconst (pc := 37) (v := 1) C dDu_part_37 (by decide) ?_
      exact zv_zret (pc := 38) C hr (by first | rfl | exact zb_nar _) dDu_part_38 (Nat.le_of_ble_eq_true rfl) (Nat.le_of_ble_eq_true rfl) (by (try simp only [zb_0, Bool.not_eq_false] at c15); (try simp only [zb_0, Bool.not_eq_false] at c22); have hz : ptOk x = true := (by simp [ptOk, c15, c22]); exact ⟨by rw [hz]; rfl, Or.inr ⟨hz, zTo.same (hR.shares (S' := ptS S k r x) rfl rfl rfl rfl zu_s ((zu_n (hR.ne (by omega) (by omega) (by omega))).trans hp2) (fun j h1 h2 h3 => zu_n (hR.ne h3 (by omega) h1))) rfl (fun q hq => zu_n (hq 10 (by omega)))⟩⟩)
    · refine zv_iconst (pc := 25) (v := 0) C dDu_part_25 (by decide) ?_
      exact zv_zret (pc := 26) C hr (by first | rfl | exact zb_nar _) dDu_part_26 (Nat.le_of_ble_eq_true rfl) (Nat.le_of_ble_eq_true rfl) (by (try simp only [zb_0, Bool.not_eq_false] at c15); (try simp only [zb_0, Bool.not_eq_false] at c22); have hz : ptOk x = false := (by simp [ptOk, c15, c22]); exact ⟨by rw [hz]; rfl, Or.inl ⟨hz, rfl⟩⟩)
set_option maxHeartbeats 4000000 in
set_option maxRecDepth 100000 in
theorem cDu_partF {O : zO} {l : Launch} (hk : zK O l) (G : zG) (y z x : Int32) (hkr : (isKindB y && isRecB z) = false) {ad : Nat → Nat} {S : aS} (hR : zRep O G ad S) (hS : aOk S) : zM O l yDu_part [Cond.code yDu_part bDu_part 4 (some .boolean)] rmDu_part [.ref (ad 0), .int y, .int z, .int x] G 0 0 (zPr (.int 0) G) zNo := by
  refine zm_of hk (by decide) (Nat.le_of_ble_eq_true rfl) ?_
  intro p e s m below meth c C hex hr hnm
  obtain ⟨hinj, hD, hK1, ⟨fb, hF, hfb⟩, hBk, ⟨hSh, hp1, hp2⟩, hbs⟩ := id hR
  obtain ⟨ok1, ok2, ok3, ok4⟩ := id hS
  refine zv_iload_n (pc := 0) C dDu_part_0 rfl ?_
  refine zv_callS (pc := 1) C dDu_part_1 (cDu_isKind hk _ _) gDu_55 ⟨rfl, rfl, ⟨Nat.le_of_ble_eq_true rfl, Nat.le_of_ble_eq_true rfl⟩, mDu_isKind⟩ rfl rfl (Nat.le_of_ble_eq_true rfl) ⟨Nat.le_of_ble_eq_true rfl, Nat.le_of_ble_eq_true rfl⟩ (fun _ _ h => h.elim) (fun v G' h => ?_)
  obtain ⟨rfl, rfl⟩ := h
  refine zv_if_eq (pc := 4) (tgt := 25) C dDu_part_4 (by decide) (fun c4 => ?_) (fun c4 => ?_)
  · refine zv_iconst (pc := 25) (v := 0) C dDu_part_25 (by decide) ?_
    exact zv_zret (pc := 26) C hr (by first | rfl | exact zb_nar _) dDu_part_26 (Nat.le_of_ble_eq_true rfl) (Nat.le_of_ble_eq_true rfl) (by exact ⟨rfl, rfl⟩)
  · refine zv_iload_n (pc := 7) C dDu_part_7 rfl ?_
    refine zv_callS (pc := 8) C dDu_part_8 (cDu_isReceiver hk _ _) gDu_154 ⟨rfl, rfl, ⟨Nat.le_of_ble_eq_true rfl, Nat.le_of_ble_eq_true rfl⟩, mDu_isReceiver⟩ rfl rfl (Nat.le_of_ble_eq_true rfl) ⟨Nat.le_of_ble_eq_true rfl, Nat.le_of_ble_eq_true rfl⟩ (fun _ _ h => h.elim) (fun v G' h => ?_)
    obtain ⟨rfl, rfl⟩ := h
    refine zv_if_eq (pc := 11) (tgt := 25) C dDu_part_11 (by decide) (fun c11 => ?_) (fun c11 => by simp only [zb_0, Bool.not_eq_false] at c4 c11; simp [c4, c11] at hkr)
    refine zv_iconst (pc := 25) (v := 0) C dDu_part_25 (by decide) ?_
    exact zv_zret (pc := 26) C hr (by first | rfl | exact zb_nar _) dDu_part_26 (Nat.le_of_ble_eq_true rfl) (Nat.le_of_ble_eq_true rfl) (by exact ⟨rfl, rfl⟩)
set_option maxHeartbeats 4000000 in
set_option maxRecDepth 100000 in
theorem cDu_costT {O : zO} {l : Launch} (hk : zK O l) (G : zG) (k : Nat) (x : Int32) (hk6 : k < 6) {ad : Nat → Nat} {S : aS} (hR : zRep O G ad S) (hS : aOk S) : zM O l yDu_cost [Cond.code yDu_cost bDu_cost 3 (some .boolean)] rmDu_cost [.ref (ad 0), .int (nI k), .int x] G 0 0 (fun v G' => v = some (.int (zb (ptOk x))) ∧ ((ptOk x = false ∧ G' = G) ∨ (ptOk x = true ∧ zTo O G G' ad S (csS S k x)))) zNo := by
  refine zm_of hk (by decide) (Nat.le_of_ble_eq_true rfl) ?_
  intro p e s m below meth c C hex hr hnm
  obtain ⟨hinj, hD, hK1, ⟨fb, hF, hfb⟩, hBk, ⟨hSh, hp1, hp2⟩, hbs⟩ := id hR
  obtain ⟨ok1, ok2, ok3, ok4⟩ := id hS
  refine zv_iload_n (pc := 0) C dDu_cost_0 rfl ?_
  refine zv_callS (pc := 1) C dDu_cost_1 (cDu_isKind hk _ _) gDu_55 ⟨rfl, rfl, ⟨Nat.le_of_ble_eq_true rfl, Nat.le_of_ble_eq_true rfl⟩, mDu_isKind⟩ rfl rfl (Nat.le_of_ble_eq_true rfl) ⟨Nat.le_of_ble_eq_true rfl, Nat.le_of_ble_eq_true rfl⟩ (fun _ _ h => h.elim) (fun v G' h => ?_)
  obtain ⟨rfl, rfl⟩ := h
  refine zv_if_eq (pc := 4) (tgt := 18) C dDu_cost_4 (by decide) (fun c4 => by simp [zb_0, isKindB_nI hk6] at c4) (fun c4 => ?_)
  refine zv_iload_n (pc := 7) C dDu_cost_7 rfl ?_
  refine zv_if_lt (pc := 8) (tgt := 18) C dDu_cost_8 (by decide) (fun c8 => ?_) (fun c8 => ?_)
  · refine zv_iconst (pc := 18) (v := 0) C dDu_cost_18 (by decide) ?_
    exact zv_zret (pc := 19) C hr (by first | rfl | exact zb_nar _) dDu_cost_19 (Nat.le_of_ble_eq_true rfl) (Nat.le_of_ble_eq_true rfl) (by (try simp only [zb_0, Bool.not_eq_false] at c8); have hz : ptOk x = false := (by simp [ptOk, c8]); exact ⟨by rw [hz]; rfl, Or.inl ⟨hz, rfl⟩⟩)
  · refine zv_iload_n (pc := 11) C dDu_cost_11 rfl ?_
    refine zv_sipush (pc := 12) (v := 1000) C dDu_cost_12 (by decide) ?_
    refine zv_icmp_le (pc := 15) (tgt := 20) C dDu_cost_15 (by decide) (fun c15 => ?_) (fun c15 => ?_)
    · refine zv_aload_n (pc := 20) C dDu_cost_20 rfl ?_
      refine zv_get (pc := 21) C dDu_cost_21 fDu_36 (by first | assumption | exact zu_s | (refine (zu_n (by assumption)).trans ?_; first | assumption | exact zu_s)) rfl ?_
      refine zv_iload_n (pc := 24) C dDu_cost_24 rfl ?_
      refine zv_iload_n (pc := 25) C dDu_cost_25 rfl ?_
      refine zv_callV (pc := 26) C dDu_cost_26 (cSh_setCost hk _ _ _ _ (by first | assumption | exact zu_s | (refine (zu_n (by assumption)).trans ?_; first | assumption | exact zu_s)) (by first | assumption | exact zu_s | (refine (zu_n (by assumption)).trans ?_; first | assumption | exact zu_s)) (by omega)) gDu_160 ⟨rfl, rfl, ⟨Nat.le_of_ble_eq_true rfl, Nat.le_of_ble_eq_true rfl⟩, mSh_setCost⟩ rfl rfl (Nat.le_of_ble_eq_true rfl) (by first | assumption | exact zu_s | (refine (zu_n (by assumption)).trans ?_; first | assumption | exact zu_s)) rfl rfl ⟨Nat.le_of_ble_eq_true rfl, Nat.le_of_ble_eq_true rfl⟩ (fun _ _ h => h.elim) (fun v G' h => ?_)
      obtain ⟨rfl, rfl⟩ := h
      refine zv_iconst (pc := 29) (v := 1) C dDu_cost_29 (by decide) ?_
      exact zv_zret (pc := 30) C hr (by first | rfl | exact zb_nar _) dDu_cost_30 (Nat.le_of_ble_eq_true rfl) (Nat.le_of_ble_eq_true rfl) (by (try simp only [zb_0, Bool.not_eq_false] at c8); (try simp only [zb_0, Bool.not_eq_false] at c15); have hz : ptOk x = true := (by simp [ptOk, c8, c15]); exact ⟨by rw [hz]; rfl, Or.inr ⟨hz, zTo.same (hR.shares (S' := csS S k x) rfl rfl rfl rfl ((zu_n (hR.ne (by omega) (by omega) (by omega))).trans hp1) zu_s (fun j h1 h2 h3 => zu_n (hR.ne h3 (by omega) h2))) rfl (fun q hq => zu_n (hq 11 (by omega)))⟩⟩)
    · refine zv_iconst (pc := 18) (v := 0) C dDu_cost_18 (by decide) ?_
      exact zv_zret (pc := 19) C hr (by first | rfl | exact zb_nar _) dDu_cost_19 (Nat.le_of_ble_eq_true rfl) (Nat.le_of_ble_eq_true rfl) (by (try simp only [zb_0, Bool.not_eq_false] at c8); (try simp only [zb_0, Bool.not_eq_false] at c15); have hz : ptOk x = false := (by simp [ptOk, c8, c15]); exact ⟨by rw [hz]; rfl, Or.inl ⟨hz, rfl⟩⟩)
set_option maxHeartbeats 4000000 in
set_option maxRecDepth 100000 in
theorem cDu_costF {O : zO} {l : Launch} (hk : zK O l) (G : zG) (y x : Int32) (hkr : isKindB y = false) {ad : Nat → Nat} {S : aS} (hR : zRep O G ad S) (hS : aOk S) : zM O l yDu_cost [Cond.code yDu_cost bDu_cost 3 (some .boolean)] rmDu_cost [.ref (ad 0), .int y, .int x] G 0 0 (zPr (.int 0) G) zNo := by
  refine zm_of hk (by decide) (Nat.le_of_ble_eq_true rfl) ?_
  intro p e s m below meth c C hex hr hnm
  obtain ⟨hinj, hD, hK1, ⟨fb, hF, hfb⟩, hBk, ⟨hSh, hp1, hp2⟩, hbs⟩ := id hR
  obtain ⟨ok1, ok2, ok3, ok4⟩ := id hS
  refine zv_iload_n (pc := 0) C dDu_cost_0 rfl ?_
  refine zv_callS (pc := 1) C dDu_cost_1 (cDu_isKind hk _ _) gDu_55 ⟨rfl, rfl, ⟨Nat.le_of_ble_eq_true rfl, Nat.le_of_ble_eq_true rfl⟩, mDu_isKind⟩ rfl rfl (Nat.le_of_ble_eq_true rfl) ⟨Nat.le_of_ble_eq_true rfl, Nat.le_of_ble_eq_true rfl⟩ (fun _ _ h => h.elim) (fun v G' h => ?_)
  obtain ⟨rfl, rfl⟩ := h
  refine zv_if_eq (pc := 4) (tgt := 18) C dDu_cost_4 (by decide) (fun c4 => ?_) (fun c4 => by simp [zb_n0, hkr] at c4)
  refine zv_iconst (pc := 18) (v := 0) C dDu_cost_18 (by decide) ?_
  exact zv_zret (pc := 19) C hr (by first | rfl | exact zb_nar _) dDu_cost_19 (Nat.le_of_ble_eq_true rfl) (Nat.le_of_ble_eq_true rfl) (by exact ⟨rfl, rfl⟩)
end
section
def pasOk (w d : Int32) : Bool := !(decide (w < 0)) && !(decide (6 < w)) && isDayB d
def pasC (S : aS) (k : Nat) (d : Int32) : Int64 := colS S (nI k) d * (sfq S k).toInt64 / 1000
def pasV (S : aS) (k : Nat) (w d : Int32) : Int64 := if w = 4 then pasC S k d else if w = 5 then colS S (nI k) d - shA (sfp S) k (colS S (nI k) d - pasC S k d) 4 else if w = 6 then colS S (nI k) d else shr (sfp S) k w.toNatClampNeg (colS S (nI k) d - pasC S k d)
theorem w4_of {w : Int32} (h0 : ¬ w < 0) (h6 : ¬ 6 < w) (e4 : ¬ w = 4) (e5 : ¬ w = 5) (e6 : ¬ w = 6) : ∃ r : Nat, r < 4 ∧ w = nI r := by
  obtain ⟨j, hj, rfl⟩ := nI_of2 (M := 6) (n := 6) (by decide) h0 (Int32.not_lt.mp h6)
  have a4 : j ≠ 4 := fun h => e4 (by rw [h]; rfl)
  have a5 : j ≠ 5 := fun h => e5 (by rw [h]; rfl)
  have a6 : j ≠ 6 := fun h => e6 (by rw [h]; rfl)
  exact ⟨j, by omega, rfl⟩
set_option maxHeartbeats 4000000 in
set_option maxRecDepth 100000 in
theorem cDu_passedT {O : zO} {l : Launch} (hk : zK O l) (G : zG) (k : Nat) (w d : Int32) (hk6 : k < 6) {ad : Nat → Nat} {S : aS} (hR : zRep O G ad S) (hS : aOk S) : zM O l yDu_passed [Cond.code yDu_passed bDu_passed 8 (some .long)] rmDu_passed [.ref (ad 0), .int (nI k), .int w, .int d] G 1 6 (fun v G' => pasOk w d = true ∧ v = some (.long (pasV S k w d)) ∧ G' = G) (fun E G' => pasOk w d = false ∧ E = "java/lang/IllegalArgumentException" ∧ G' = G) := by
  refine zm_of hk (by decide) (Nat.le_of_ble_eq_true rfl) ?_
  intro p e s m below meth c C hex hr hnm
  obtain ⟨hinj, hD, hK1, ⟨fb, hF, hfb⟩, hBk, ⟨hSh, hp1, hp2⟩, hbs⟩ := id hR
  obtain ⟨ok1, ok2, ok3, ok4⟩ := id hS
  obtain ⟨hk0, hk1, hk2, hk3, hk4, hk5⟩ := id hBk
  refine zv_iload_n (pc := 0) C dDu_passed_0 rfl ?_
  refine zv_callS (pc := 1) C dDu_passed_1 (cDu_isKind hk _ _) gDu_55 ⟨rfl, rfl, ⟨Nat.le_of_ble_eq_true rfl, Nat.le_of_ble_eq_true rfl⟩, mDu_isKind⟩ rfl rfl (Nat.le_of_ble_eq_true rfl) ⟨Nat.le_of_ble_eq_true rfl, Nat.le_of_ble_eq_true rfl⟩ (fun _ _ h => h.elim) (fun v G' h => ?_)
  obtain ⟨rfl, rfl⟩ := h
  refine zv_if_eq (pc := 4) (tgt := 24) C dDu_passed_4 (by decide) (fun c4 => by simp [zb_0, isKindB_nI hk6] at c4) (fun c4 => ?_)
  refine zv_iload_n (pc := 7) C dDu_passed_7 rfl ?_
  refine zv_if_lt (pc := 8) (tgt := 24) C dDu_passed_8 (by decide) (fun c8 => ?_) (fun c8 => ?_)
  · exact zv_throwS (pc := 24) C dDu_passed_24 dDu_passed_27 dDu_passed_28 dDu_passed_30 dDu_passed_33 tDu_164_63 hex (Nat.le_of_ble_eq_true rfl) (Nat.le_of_ble_eq_true rfl) (Nat.le_of_ble_eq_true rfl) (Nat.le_of_ble_eq_true rfl) (Nat.le_of_ble_eq_true rfl) (Nat.le_of_ble_eq_true rfl) (by (try simp only [zb_0, Bool.not_eq_false] at c8); exact ⟨by simp [pasOk, c8], rfl, rfl⟩)
  · refine zv_iload_n (pc := 11) C dDu_passed_11 rfl ?_
    refine zv_bipush (pc := 12) (v := 6) C dDu_passed_12 (by decide) ?_
    refine zv_icmp_gt (pc := 14) (tgt := 24) C dDu_passed_14 (by decide) (fun c14 => ?_) (fun c14 => ?_)
    · exact zv_throwS (pc := 24) C dDu_passed_24 dDu_passed_27 dDu_passed_28 dDu_passed_30 dDu_passed_33 tDu_164_63 hex (Nat.le_of_ble_eq_true rfl) (Nat.le_of_ble_eq_true rfl) (Nat.le_of_ble_eq_true rfl) (Nat.le_of_ble_eq_true rfl) (Nat.le_of_ble_eq_true rfl) (Nat.le_of_ble_eq_true rfl) (by (try simp only [zb_0, Bool.not_eq_false] at c8); (try simp only [zb_0, Bool.not_eq_false] at c14); exact ⟨by simp [pasOk, c8, c14], rfl, rfl⟩)
    · refine zv_iload_n (pc := 17) C dDu_passed_17 rfl ?_
      refine zv_callS (pc := 18) C dDu_passed_18 (cDu_isDay hk _ _) gDu_71 ⟨rfl, rfl, ⟨Nat.le_of_ble_eq_true rfl, Nat.le_of_ble_eq_true rfl⟩, mDu_isDay⟩ rfl rfl (Nat.le_of_ble_eq_true rfl) ⟨Nat.le_of_ble_eq_true rfl, Nat.le_of_ble_eq_true rfl⟩ (fun _ _ h => h.elim) (fun v G' h => ?_)
      obtain ⟨rfl, rfl⟩ := h
      refine zv_if_ne (pc := 21) (tgt := 34) C dDu_passed_21 (by decide) (fun c21 => ?_) (fun c21 => ?_)
      · refine zv_aload_n (pc := 34) C dDu_passed_34 rfl ?_
        refine zv_iload_n (pc := 35) C dDu_passed_35 rfl ?_
        refine zv_iload_n (pc := 36) C dDu_passed_36 rfl ?_
        refine zv_callV (pc := 37) C dDu_passed_37 (cDu_collectedOf hk _ _ _ hR hS) gDu_166 ⟨rfl, rfl, ⟨Nat.le_of_ble_eq_true rfl, Nat.le_of_ble_eq_true rfl⟩, mDu_collectedOf⟩ rfl rfl (Nat.le_of_ble_eq_true rfl) (by first | assumption | exact zu_s | (refine (zu_n (by assumption)).trans ?_; first | assumption | exact zu_s)) rfl rfl ⟨Nat.le_of_ble_eq_true rfl, Nat.le_of_ble_eq_true rfl⟩ (fun _ _ h => h.elim) (fun v G' h => ?_)
        obtain ⟨rfl, rfl⟩ := h
        refine zv_lstore (pc := 40) C dDu_passed_40 (by decide) ?_
        refine zv_aload_n (pc := 42) C dDu_passed_42 rfl ?_
        refine zv_get (pc := 43) C dDu_passed_43 fDu_36 (by first | assumption | exact zu_s | (refine (zu_n (by assumption)).trans ?_; first | assumption | exact zu_s)) rfl ?_
        refine zv_iload_n (pc := 46) C dDu_passed_46 rfl ?_
        refine zv_lload (pc := 47) C dDu_passed_47 rfl ?_
        refine zv_callV (pc := 49) C dDu_passed_49 (cSh_costOf hk _ _ _ _ (by first | assumption | exact zu_s | (refine (zu_n (by assumption)).trans ?_; first | assumption | exact zu_s)) (by first | assumption | exact zu_s | (refine (zu_n (by assumption)).trans ?_; first | assumption | exact zu_s)) (by omega)) gDu_170 ⟨rfl, rfl, ⟨Nat.le_of_ble_eq_true rfl, Nat.le_of_ble_eq_true rfl⟩, mSh_costOf⟩ rfl rfl (Nat.le_of_ble_eq_true rfl) (by first | assumption | exact zu_s | (refine (zu_n (by assumption)).trans ?_; first | assumption | exact zu_s)) rfl rfl ⟨Nat.le_of_ble_eq_true rfl, Nat.le_of_ble_eq_true rfl⟩ (fun _ _ h => h.elim) (fun v G' h => ?_)
        obtain ⟨rfl, rfl⟩ := h
        refine zv_lstore (pc := 52) C dDu_passed_52 (by decide) ?_
        refine zv_iload_n (pc := 54) C dDu_passed_54 rfl ?_
        by_cases e4 : w = 4
        · subst e4
          refine zv_tabIn (pc := 55) (tgt := 80) C dDu_passed_55 (by decide) (by decide) rfl (by decide) ?_
          refine zv_lload (pc := 80) C dDu_passed_80 rfl ?_
          exact zv_lret (pc := 82) C hr dDu_passed_82 (Nat.le_of_ble_eq_true rfl) (Nat.le_of_ble_eq_true rfl) (by (try simp only [zb_0, Bool.not_eq_false] at c8); (try simp only [zb_0, Bool.not_eq_false] at c14); (try simp only [zb_0, Bool.not_eq_false] at c21); refine ⟨by simp [pasOk, c8, c14, c21], ?_, rfl⟩; first | rfl | simp [pasV, pasC])
        · skip
          by_cases e5 : w = 5
          · subst e5
            refine zv_tabIn (pc := 55) (tgt := 83) C dDu_passed_55 (by decide) (by decide) rfl (by decide) ?_
            refine zv_lload (pc := 83) C dDu_passed_83 rfl ?_
            refine zv_aload_n (pc := 85) C dDu_passed_85 rfl ?_
            refine zv_get (pc := 86) C dDu_passed_86 fDu_36 (by first | assumption | exact zu_s | (refine (zu_n (by assumption)).trans ?_; first | assumption | exact zu_s)) rfl ?_
            refine zv_iload_n (pc := 89) C dDu_passed_89 rfl ?_
            refine zv_lload (pc := 90) C dDu_passed_90 rfl ?_
            refine zv_lload (pc := 92) C dDu_passed_92 rfl ?_
            refine zv_lsub (pc := 94) C dDu_passed_94 ?_
            refine zv_callV (pc := 95) C dDu_passed_95 (cSh_allShares hk _ _ _ _ (by first | assumption | exact zu_s | (refine (zu_n (by assumption)).trans ?_; first | assumption | exact zu_s)) (by first | assumption | exact zu_s | (refine (zu_n (by assumption)).trans ?_; first | assumption | exact zu_s)) (by omega)) gDu_174 ⟨rfl, rfl, ⟨Nat.le_of_ble_eq_true rfl, Nat.le_of_ble_eq_true rfl⟩, mSh_allShares⟩ rfl rfl (Nat.le_of_ble_eq_true rfl) (by first | assumption | exact zu_s | (refine (zu_n (by assumption)).trans ?_; first | assumption | exact zu_s)) rfl rfl ⟨Nat.le_of_ble_eq_true rfl, Nat.le_of_ble_eq_true rfl⟩ (fun _ _ h => h.elim) (fun v G' h => ?_)
            obtain ⟨rfl, rfl⟩ := h
            refine zv_lsub (pc := 98) C dDu_passed_98 ?_
            exact zv_lret (pc := 99) C hr dDu_passed_99 (Nat.le_of_ble_eq_true rfl) (Nat.le_of_ble_eq_true rfl) (by (try simp only [zb_0, Bool.not_eq_false] at c8); (try simp only [zb_0, Bool.not_eq_false] at c14); (try simp only [zb_0, Bool.not_eq_false] at c21); refine ⟨by simp [pasOk, c8, c14, c21], ?_, rfl⟩; first | rfl | simp [pasV, pasC])
          · skip
            by_cases e6 : w = 6
            · subst e6
              refine zv_tabIn (pc := 55) (tgt := 100) C dDu_passed_55 (by decide) (by decide) rfl (by decide) ?_
              refine zv_lload (pc := 100) C dDu_passed_100 rfl ?_
              exact zv_lret (pc := 102) C hr dDu_passed_102 (Nat.le_of_ble_eq_true rfl) (Nat.le_of_ble_eq_true rfl) (by (try simp only [zb_0, Bool.not_eq_false] at c8); (try simp only [zb_0, Bool.not_eq_false] at c14); (try simp only [zb_0, Bool.not_eq_false] at c21); refine ⟨by simp [pasOk, c8, c14, c21], ?_, rfl⟩; first | rfl | simp [pasV, pasC])
            · skip
              refine zv_tabOut (pc := 55) (tgt := 103) C dDu_passed_55 (by have x4 : w.toInt ≠ 4 := fun h => e4 (Int32.toInt_inj.mp (h.trans (by decide))); have x5 : w.toInt ≠ 5 := fun h => e5 (Int32.toInt_inj.mp (h.trans (by decide))); have x6 : w.toInt ≠ 6 := fun h => e6 (Int32.toInt_inj.mp (h.trans (by decide))); omega) (by decide) ?_
              obtain ⟨r, hr4, rfl⟩ : ∃ r : Nat, r < 4 ∧ w = nI r := w4_of c8 c14 e4 e5 e6
              refine zv_aload_n (pc := 103) C dDu_passed_103 rfl ?_
              refine zv_get (pc := 104) C dDu_passed_104 fDu_36 (by first | assumption | exact zu_s | (refine (zu_n (by assumption)).trans ?_; first | assumption | exact zu_s)) rfl ?_
              refine zv_iload_n (pc := 107) C dDu_passed_107 rfl ?_
              refine zv_iload_n (pc := 108) C dDu_passed_108 rfl ?_
              refine zv_lload (pc := 109) C dDu_passed_109 rfl ?_
              refine zv_lload (pc := 111) C dDu_passed_111 rfl ?_
              refine zv_lsub (pc := 113) C dDu_passed_113 ?_
              refine zv_callV (pc := 114) C dDu_passed_114 (cSh_shareOf hk _ _ _ _ _ (by first | assumption | exact zu_s | (refine (zu_n (by assumption)).trans ?_; first | assumption | exact zu_s)) (by first | assumption | exact zu_s | (refine (zu_n (by assumption)).trans ?_; first | assumption | exact zu_s)) (by omega) (by omega)) gDu_177 ⟨rfl, rfl, ⟨Nat.le_of_ble_eq_true rfl, Nat.le_of_ble_eq_true rfl⟩, mSh_shareOf⟩ rfl rfl (Nat.le_of_ble_eq_true rfl) (by first | assumption | exact zu_s | (refine (zu_n (by assumption)).trans ?_; first | assumption | exact zu_s)) rfl rfl ⟨Nat.le_of_ble_eq_true rfl, Nat.le_of_ble_eq_true rfl⟩ (fun _ _ h => h.elim) (fun v G' h => ?_)
              obtain ⟨rfl, rfl⟩ := h
              exact zv_lret (pc := 117) C hr dDu_passed_117 (Nat.le_of_ble_eq_true rfl) (Nat.le_of_ble_eq_true rfl) (by (try simp only [zb_0, Bool.not_eq_false] at c8); (try simp only [zb_0, Bool.not_eq_false] at c14); (try simp only [zb_0, Bool.not_eq_false] at c21); refine ⟨by simp [pasOk, c8, c14, c21], ?_, rfl⟩; rw [pasV, if_neg e4, if_neg e5, if_neg e6, nI_clamp (by omega)]; rfl)
      · exact zv_throwS (pc := 24) C dDu_passed_24 dDu_passed_27 dDu_passed_28 dDu_passed_30 dDu_passed_33 tDu_164_63 hex (Nat.le_of_ble_eq_true rfl) (Nat.le_of_ble_eq_true rfl) (Nat.le_of_ble_eq_true rfl) (Nat.le_of_ble_eq_true rfl) (Nat.le_of_ble_eq_true rfl) (Nat.le_of_ble_eq_true rfl) (by (try simp only [zb_0, Bool.not_eq_false] at c8); (try simp only [zb_0, Bool.not_eq_false] at c14); (try simp only [zb_0, Bool.not_eq_false] at c21); exact ⟨by simp [pasOk, c8, c14, c21], rfl, rfl⟩)
set_option maxHeartbeats 4000000 in
set_option maxRecDepth 100000 in
theorem cDu_passedF {O : zO} {l : Launch} (hk : zK O l) (G : zG) (y w d : Int32) (hkr : isKindB y = false) {ad : Nat → Nat} {S : aS} (hR : zRep O G ad S) (hS : aOk S) : zM O l yDu_passed [Cond.code yDu_passed bDu_passed 8 (some .long)] rmDu_passed [.ref (ad 0), .int y, .int w, .int d] G 1 6 (fun v G' => False) (fun E G' => E = "java/lang/IllegalArgumentException" ∧ G' = G) := by
  refine zm_of hk (by decide) (Nat.le_of_ble_eq_true rfl) ?_
  intro p e s m below meth c C hex hr hnm
  obtain ⟨hinj, hD, hK1, ⟨fb, hF, hfb⟩, hBk, ⟨hSh, hp1, hp2⟩, hbs⟩ := id hR
  obtain ⟨ok1, ok2, ok3, ok4⟩ := id hS
  obtain ⟨hk0, hk1, hk2, hk3, hk4, hk5⟩ := id hBk
  refine zv_iload_n (pc := 0) C dDu_passed_0 rfl ?_
  refine zv_callS (pc := 1) C dDu_passed_1 (cDu_isKind hk _ _) gDu_55 ⟨rfl, rfl, ⟨Nat.le_of_ble_eq_true rfl, Nat.le_of_ble_eq_true rfl⟩, mDu_isKind⟩ rfl rfl (Nat.le_of_ble_eq_true rfl) ⟨Nat.le_of_ble_eq_true rfl, Nat.le_of_ble_eq_true rfl⟩ (fun _ _ h => h.elim) (fun v G' h => ?_)
  obtain ⟨rfl, rfl⟩ := h
  refine zv_if_eq (pc := 4) (tgt := 24) C dDu_passed_4 (by decide) (fun c4 => ?_) (fun c4 => by simp [zb_0, hkr] at c4)
  exact zv_throwS (pc := 24) C dDu_passed_24 dDu_passed_27 dDu_passed_28 dDu_passed_30 dDu_passed_33 tDu_164_63 hex (Nat.le_of_ble_eq_true rfl) (Nat.le_of_ble_eq_true rfl) (Nat.le_of_ble_eq_true rfl) (Nat.le_of_ble_eq_true rfl) (Nat.le_of_ble_eq_true rfl) (Nat.le_of_ble_eq_true rfl) (by exact ⟨rfl, rfl⟩)
/-- the batch i is b now -/
def upB (S : aS) (i : Nat) (b : aB) : aS := (S.1, (snb S, fun j => if j = i then b else sB S j), S.2.2)
/-- a batch's cells are new (and root's ints, and the book's cells) -/
theorem zRep.batch {O : zO} {G G' : zG} {ad : Nat → Nat} {S S' : aS} (h : zRep O G ad S) {i : Nat} {b : aB} (e0 : S'.1 = S.1) (e1 : S'.2.1 = (snb S, fun j => if j = i then b else sB S j)) (e3 : S'.2.2.2.1 = S.2.2.2.1)
    (h0 : G' (ad 0) = some (oDu (ad 1) (ad 2) (ad 3) (ad 4) (nI (sna S')) (nI (snb S')) (scd S') (slk S') (swr S') (snm S') (sfl S')))
    (hB : zBk O G' (ad 3) (ad 5) (ad 6) (ad 7) (ad 8) (ad 9) (sn S') 0 (sL S').2.1 (sL S').2.2.1 (sL S').2.2.2.1 (sL S').2.2.2.2.1 (sL S').2.2.2.2.2)
    (hb : zBat O G' (ad (12 + 3 * i)) (ad (13 + 3 * i)) (ad (14 + 3 * i)) b)
    (hk : ∀ j, j ≠ 0 → j ≠ 3 → ¬ (5 ≤ j ∧ j ≤ 9) → ¬ (12 + 3 * i ≤ j ∧ j ≤ 14 + 3 * i) → j < 12 + 3 * snb S → G' (ad j) = G (ad j)) : zRep O G' ad S' := by
  obtain ⟨hinj, hD, hK1, ⟨fb, hF, hfb⟩, hBk, ⟨hSh, hp1, hp2⟩, hbs⟩ := h
  obtain ⟨⟨na, kd⟩, ⟨nb, B⟩, L, ⟨fp, fq⟩, rest⟩ := S
  obtain ⟨A', B', L', P', rest'⟩ := S'
  dsimp only at e0 e1 e3
  subst e0; subst e1; subst e3
  refine ⟨hinj, h0, (hk 1 (by omega) (by omega) (by omega) (by omega) (by omega)).trans hK1, ⟨fb, (hk 2 (by omega) (by omega) (by omega) (by omega) (by omega)).trans hF, hfb⟩, hB, ⟨(hk 4 (by omega) (by omega) (by omega) (by omega) (by omega)).trans hSh, (hk 10 (by omega) (by omega) (by omega) (by omega) (by omega)).trans hp1, (hk 11 (by omega) (by omega) (by omega) (by omega) (by omega)).trans hp2⟩, fun j hj => ?_⟩
  by_cases hij : j = i
  · subst hij
    simp only [sB, if_true]
    exact hb
  · simp only [sB, if_neg hij]
    have hj2 : j < nb := hj
    exact (hbs j hj).kept (hk _ (by omega) (by omega) (by omega) (by omega) (by simp only [snb]; omega)) (hk _ (by omega) (by omega) (by omega) (by omega) (by simp only [snb]; omega)) (hk _ (by omega) (by omega) (by omega) (by omega) (by simp only [snb]; omega))
theorem zRep.bkept {O : zO} {G G' : zG} {ad : Nat → Nat} {S : aS} (h : zRep O G ad S) (hk : ∀ j, (j = 3 ∨ (5 ≤ j ∧ j ≤ 9)) → G' (ad j) = G (ad j)) : zBk O G' (ad 3) (ad 5) (ad 6) (ad 7) (ad 8) (ad 9) (sn S) 0 (sL S).2.1 (sL S).2.2.1 (sL S).2.2.2.1 (sL S).2.2.2.2.1 (sL S).2.2.2.2.2 := h.2.2.2.2.1.kept (fun q hq => by
  simp only [List.mem_cons, List.not_mem_nil, or_false] at hq
  rcases hq with rfl | rfl | rfl | rfl | rfl | rfl
  · exact hk 3 (Or.inl rfl)
  · exact hk 5 (by omega)
  · exact hk 6 (by omega)
  · exact hk 7 (by omega)
  · exact hk 8 (by omega)
  · exact hk 9 (by omega))
def flB (b : aB) (x : Int32) : aB := (bvd b, bkd b, brv b, bsz b, bst b, brb b, x, bfa b, bfc b)
def roB (b : aB) (x : Int32) (z : Int64) : aB := (bvd b, bkd b, brv b, bsz b + 1, bst b, brb b, btf b, upd (bfa b) (bsz b) x, vp_updL (bfc b) (bsz b) z)
set_option maxHeartbeats 4000000 in
set_option maxRecDepth 100000 in
theorem cDu_failsT {O : zO} {l : Launch} (hk : zK O l) (G : zG) (i : Nat) (x : Int32) {ad : Nat → Nat} {S : aS} (hR : zRep O G ad S) (hS : aOk S) (hi : i < snb S) (hw : bst (sB S i) = 0) (hx : narrow .boolean (.int x) = .int x) (hx2 : fits .boolean (.int x) = true) : zM O l yDu_fails [Cond.code yDu_fails bDu_fails 4 (some .boolean)] rmDu_fails [.ref (ad 0), .int (nI i), .int x] G 0 0 (fun v G' => v = some (.int 1) ∧ zTo O G G' ad S (upB S i (flB (sB S i) x))) zNo := by
  refine zm_of hk (by decide) (Nat.le_of_ble_eq_true rfl) ?_
  intro p e s m below meth c C hex hr hnm
  obtain ⟨hinj, hD, hK1, ⟨fb, hF, hfb⟩, hBk, ⟨hSh, hp1, hp2⟩, hbs⟩ := id hR
  obtain ⟨ok1, ok2, ok3, ok4⟩ := id hS
  obtain ⟨hb1, hb2, hb3⟩ := hbs i hi
  refine zv_aload_n (pc := 0) C dDu_fails_0 rfl ?_
  refine zv_iconst (pc := 1) (v := 0) C dDu_fails_1 (by decide) ?_
  refine zv_iload_n (pc := 2) C dDu_fails_2 rfl ?_
  refine zv_callV (pc := 3) C dDu_fails_3 (cDu_batchThatIsT hk _ _ _ hR hS hi hw) gDu_85 ⟨rfl, rfl, ⟨Nat.le_of_ble_eq_true rfl, Nat.le_of_ble_eq_true rfl⟩, mDu_batchThatIs⟩ rfl rfl (Nat.le_of_ble_eq_true rfl) (by first | assumption | exact zu_s | (refine (zu_n (by assumption)).trans ?_; first | assumption | exact zu_s)) rfl rfl ⟨Nat.le_of_ble_eq_true rfl, Nat.le_of_ble_eq_true rfl⟩ (fun _ _ h => h.elim) (fun v G' h => ?_)
  obtain ⟨rfl, rfl⟩ := h
  refine zv_astore_n (pc := 6) C dDu_fails_6 (by decide) ?_
  refine zv_aload_n (pc := 7) C dDu_fails_7 rfl ?_
  refine zv_ifnonnull (pc := 8) (tgt := 13) C dDu_fails_8 (by decide) ?_
  refine zv_aload_n (pc := 13) C dDu_fails_13 rfl ?_
  refine zv_iload_n (pc := 14) C dDu_fails_14 rfl ?_
  refine zv_put (pc := 15) C dDu_fails_15 fDu_100 ⟨tkBa, nmBa⟩ (by first | assumption | exact zu_s | (refine (zu_n (by assumption)).trans ?_; first | assumption | exact zu_s)) rfl (tkBa 8 (by decide)) (by first | rfl | assumption | exact zb_nar _) (by first | rfl | assumption | decide +kernel) (Nat.le_of_ble_eq_true rfl) ?_
  refine zv_iconst (pc := 18) (v := 1) C dDu_fails_18 (by decide) ?_
  exact zv_zret (pc := 19) C hr (by first | rfl | exact zb_nar _) dDu_fails_19 (Nat.le_of_ble_eq_true rfl) (Nat.le_of_ble_eq_true rfl) (by exact ⟨rfl, zTo.same (hR.batch (S' := upB S i (flB (sB S i) x)) (i := i) (b := flB (sB S i) x) rfl rfl rfl ((zu_n (hR.ne (by omega) (by omega) (by omega))).trans hD) (hR.bkept (fun j hj => zu_n (hR.ne (by omega) (by omega) (by omega)))) ⟨zu_s, (zu_n (hR.ne (by omega) (by omega) (by omega))).trans hb2, (zu_n (hR.ne (by omega) (by omega) (by omega))).trans hb3⟩ (fun j g1 g2 g3 g4 g5 => zu_n (hR.ne g5 (by omega) (by omega)))) rfl (fun q hq => zu_n (hq _ (by omega)))⟩)
set_option maxHeartbeats 4000000 in
set_option maxRecDepth 100000 in
theorem cDu_failsO {O : zO} {l : Launch} (hk : zK O l) (G : zG) (i : Nat) (x : Int32) {ad : Nat → Nat} {S : aS} (hR : zRep O G ad S) (hS : aOk S) (hi : i < snb S) (hw : ¬ bst (sB S i) = 0) : zM O l yDu_fails [Cond.code yDu_fails bDu_fails 4 (some .boolean)] rmDu_fails [.ref (ad 0), .int (nI i), .int x] G 0 0 (zPr (.int 0) G) zNo := by
  refine zm_of hk (by decide) (Nat.le_of_ble_eq_true rfl) ?_
  intro p e s m below meth c C hex hr hnm
  obtain ⟨hinj, hD, hK1, ⟨fb, hF, hfb⟩, hBk, ⟨hSh, hp1, hp2⟩, hbs⟩ := id hR
  obtain ⟨ok1, ok2, ok3, ok4⟩ := id hS
  refine zv_aload_n (pc := 0) C dDu_fails_0 rfl ?_
  refine zv_iconst (pc := 1) (v := 0) C dDu_fails_1 (by decide) ?_
  refine zv_iload_n (pc := 2) C dDu_fails_2 rfl ?_
  refine zv_callV (pc := 3) C dDu_fails_3 (cDu_batchThatIsO hk _ _ _ hR hS hi hw) gDu_85 ⟨rfl, rfl, ⟨Nat.le_of_ble_eq_true rfl, Nat.le_of_ble_eq_true rfl⟩, mDu_batchThatIs⟩ rfl rfl (Nat.le_of_ble_eq_true rfl) (by first | assumption | exact zu_s | (refine (zu_n (by assumption)).trans ?_; first | assumption | exact zu_s)) rfl rfl ⟨Nat.le_of_ble_eq_true rfl, Nat.le_of_ble_eq_true rfl⟩ (fun _ _ h => h.elim) (fun v G' h => ?_)
  obtain ⟨rfl, rfl⟩ := h
  refine zv_astore_nN (pc := 6) C dDu_fails_6 (by decide) ?_
  refine zv_aload_nN (pc := 7) C dDu_fails_7 rfl ?_
  refine zv_ifnonnullN (pc := 8) C dDu_fails_8 ?_
  refine zv_iconst (pc := 11) (v := 0) C dDu_fails_11 (by decide) ?_
  exact zv_zret (pc := 12) C hr (by first | rfl | exact zb_nar _) dDu_fails_12 (Nat.le_of_ble_eq_true rfl) (Nat.le_of_ble_eq_true rfl) (by exact ⟨rfl, rfl⟩)
set_option maxHeartbeats 4000000 in
set_option maxRecDepth 100000 in
theorem cDu_failsF {O : zO} {l : Launch} (hk : zK O l) (G : zG) (y x : Int32) {ad : Nat → Nat} {S : aS} (hR : zRep O G ad S) (hS : aOk S) (hx : isAccB y (nI (snb S)) = false) : zM O l yDu_fails [Cond.code yDu_fails bDu_fails 4 (some .boolean)] rmDu_fails [.ref (ad 0), .int y, .int x] G 0 0 (zPr (.int 0) G) zNo := by
  refine zm_of hk (by decide) (Nat.le_of_ble_eq_true rfl) ?_
  intro p e s m below meth c C hex hr hnm
  obtain ⟨hinj, hD, hK1, ⟨fb, hF, hfb⟩, hBk, ⟨hSh, hp1, hp2⟩, hbs⟩ := id hR
  obtain ⟨ok1, ok2, ok3, ok4⟩ := id hS
  refine zv_aload_n (pc := 0) C dDu_fails_0 rfl ?_
  refine zv_iconst (pc := 1) (v := 0) C dDu_fails_1 (by decide) ?_
  refine zv_iload_n (pc := 2) C dDu_fails_2 rfl ?_
  refine zv_callV (pc := 3) C dDu_fails_3 (cDu_batchThatIsF hk _ _ _ hR hS hx) gDu_85 ⟨rfl, rfl, ⟨Nat.le_of_ble_eq_true rfl, Nat.le_of_ble_eq_true rfl⟩, mDu_batchThatIs⟩ rfl rfl (Nat.le_of_ble_eq_true rfl) (by first | assumption | exact zu_s | (refine (zu_n (by assumption)).trans ?_; first | assumption | exact zu_s)) rfl rfl ⟨Nat.le_of_ble_eq_true rfl, Nat.le_of_ble_eq_true rfl⟩ (fun _ _ h => h.elim) (fun v G' h => ?_)
  obtain ⟨rfl, rfl⟩ := h
  refine zv_astore_nN (pc := 6) C dDu_fails_6 (by decide) ?_
  refine zv_aload_nN (pc := 7) C dDu_fails_7 rfl ?_
  refine zv_ifnonnullN (pc := 8) C dDu_fails_8 ?_
  refine zv_iconst (pc := 11) (v := 0) C dDu_fails_11 (by decide) ?_
  exact zv_zret (pc := 12) C hr (by first | rfl | exact zb_nar _) dDu_fails_12 (Nat.le_of_ble_eq_true rfl) (Nat.le_of_ble_eq_true rfl) (by exact ⟨rfl, rfl⟩)
end
section
set_option maxHeartbeats 4000000 in
set_option maxRecDepth 100000 in
theorem cDu_rowT {O : zO} {l : Launch} (hk : zK O l) (G : zG) (i : Nat) (x : Int32) (z : Int64) {ad : Nat → Nat} {S : aS} (hR : zRep O G ad S) (hS : aOk S) (hi : i < snb S) (hw : bst (sB S i) = 0) (hlt : bsz (sB S i) < 20) : zM O l yDu_row [Cond.code yDu_row bDu_row 6 (some .boolean)] rmDu_row [.ref (ad 0), .int (nI i), .int x, .long z] G 0 0 (fun v G' => (v = some (.int 0) ∧ (isAccB x (nI (sna S)) && centsB z) = false ∧ G' = G) ∨ (v = some (.int 1) ∧ (isAccB x (nI (sna S)) && centsB z) = true ∧ zTo O G G' ad S (upB S i (roB (sB S i) x z)))) zNo := by
  refine zm_of hk (by decide) (Nat.le_of_ble_eq_true rfl) ?_
  intro p e s m below meth c C hex hr hnm
  obtain ⟨hinj, hD, hK1, ⟨fb, hF, hfb⟩, hBk, ⟨hSh, hp1, hp2⟩, hbs⟩ := id hR
  obtain ⟨ok1, ok2, ok3, ok4⟩ := id hS
  obtain ⟨hb1, hb2, hb3⟩ := hbs i hi
  refine zv_aload_n (pc := 0) C dDu_row_0 rfl ?_
  refine zv_iconst (pc := 1) (v := 0) C dDu_row_1 (by decide) ?_
  refine zv_iload_n (pc := 2) C dDu_row_2 rfl ?_
  refine zv_callV (pc := 3) C dDu_row_3 (cDu_batchThatIsT hk _ _ _ hR hS hi hw) gDu_85 ⟨rfl, rfl, ⟨Nat.le_of_ble_eq_true rfl, Nat.le_of_ble_eq_true rfl⟩, mDu_batchThatIs⟩ rfl rfl (Nat.le_of_ble_eq_true rfl) (by first | assumption | exact zu_s | (refine (zu_n (by assumption)).trans ?_; first | assumption | exact zu_s)) rfl rfl ⟨Nat.le_of_ble_eq_true rfl, Nat.le_of_ble_eq_true rfl⟩ (fun _ _ h => h.elim) (fun v G' h => ?_)
  obtain ⟨rfl, rfl⟩ := h
  refine zv_astore (pc := 6) C dDu_row_6 (by decide) ?_
  refine zv_aload (pc := 8) C dDu_row_8 rfl ?_
  refine zv_ifnull (pc := 10) C dDu_row_10 ?_
  refine zv_aload_n (pc := 13) C dDu_row_13 rfl ?_
  refine zv_iload_n (pc := 14) C dDu_row_14 rfl ?_
  refine zv_callV (pc := 15) C dDu_row_15 (cDu_isAccount hk _ _ _ hD) gDu_89 ⟨rfl, rfl, ⟨Nat.le_of_ble_eq_true rfl, Nat.le_of_ble_eq_true rfl⟩, mDu_isAccount⟩ rfl rfl (Nat.le_of_ble_eq_true rfl) (by first | assumption | exact zu_s | (refine (zu_n (by assumption)).trans ?_; first | assumption | exact zu_s)) rfl rfl ⟨Nat.le_of_ble_eq_true rfl, Nat.le_of_ble_eq_true rfl⟩ (fun _ _ h => h.elim) (fun v G' h => ?_)
  obtain ⟨rfl, rfl⟩ := h
  refine zv_if_eq (pc := 18) (tgt := 28) C dDu_row_18 (by decide) (fun c18 => ?_) (fun c18 => ?_)
  · refine zv_iconst (pc := 28) (v := 0) C dDu_row_28 (by decide) ?_
    exact zv_zret (pc := 29) C hr (by first | rfl | exact zb_nar _) dDu_row_29 (Nat.le_of_ble_eq_true rfl) (Nat.le_of_ble_eq_true rfl) (by (try simp only [zb_0, Bool.not_eq_false] at c18); exact Or.inl ⟨rfl, by simp [c18], rfl⟩)
  · refine zv_lload_n (pc := 21) C dDu_row_21 rfl ?_
    refine zv_callS (pc := 22) C dDu_row_22 (cDu_canBeCents hk _ _) gDu_92 ⟨rfl, rfl, ⟨Nat.le_of_ble_eq_true rfl, Nat.le_of_ble_eq_true rfl⟩, mDu_canBeCents⟩ rfl rfl (Nat.le_of_ble_eq_true rfl) ⟨Nat.le_of_ble_eq_true rfl, Nat.le_of_ble_eq_true rfl⟩ (fun _ _ h => h.elim) (fun v G' h => ?_)
    obtain ⟨rfl, rfl⟩ := h
    refine zv_if_ne (pc := 25) (tgt := 30) C dDu_row_25 (by decide) (fun c25 => ?_) (fun c25 => ?_)
    · refine zv_aload (pc := 30) C dDu_row_30 rfl ?_
      refine zv_iload_n (pc := 32) C dDu_row_32 rfl ?_
      refine zv_lload_n (pc := 33) C dDu_row_33 rfl ?_
      refine zv_callV (pc := 34) C dDu_row_34 (cBa_take hk _ _ _ _ _ hb1 hb2 hb3 hlt) gDu_96 ⟨rfl, rfl, ⟨Nat.le_of_ble_eq_true rfl, Nat.le_of_ble_eq_true rfl⟩, mBa_take⟩ rfl rfl (Nat.le_of_ble_eq_true rfl) (by first | assumption | exact zu_s | (refine (zu_n (by assumption)).trans ?_; first | assumption | exact zu_s)) rfl rfl ⟨Nat.le_of_ble_eq_true rfl, Nat.le_of_ble_eq_true rfl⟩ (fun _ _ h => h.elim) (fun v G' h => ?_)
      obtain ⟨rfl, rfl⟩ := h
      exact zv_zret (pc := 37) C hr (by first | rfl | exact zb_nar _) dDu_row_37 (Nat.le_of_ble_eq_true rfl) (Nat.le_of_ble_eq_true rfl) (by (try simp only [zb_0, Bool.not_eq_false] at c18); (try simp only [zb_0, Bool.not_eq_false] at c25); exact Or.inr ⟨rfl, by simp [c18, c25], zTo.same (hR.batch (S' := upB S i (roB (sB S i) x z)) (i := i) (b := roB (sB S i) x z) rfl rfl rfl ((zu_n (hR.ne (by omega) (by omega) (by omega))).trans ((zu_n (hR.ne (by omega) (by omega) (by omega))).trans ((zu_n (hR.ne (by omega) (by omega) (by omega))).trans (hD)))) (hR.bkept (fun j hj => (zu_n (hR.ne (by omega) (by omega) (by omega))).trans ((zu_n (hR.ne (by omega) (by omega) (by omega))).trans (zu_n (hR.ne (by omega) (by omega) (by omega)))))) ⟨zu_s, (zu_n (hR.ne (by omega) (by omega) (by omega))).trans ((zu_n (hR.ne (by omega) (by omega) (by omega))).trans (zu_s)), (zu_n (hR.ne (by omega) (by omega) (by omega))).trans (zu_s)⟩ (fun j g1 g2 g3 g4 g5 => (zu_n (hR.ne (by omega) (by omega) (by omega))).trans ((zu_n (hR.ne (by omega) (by omega) (by omega))).trans (zu_n (hR.ne (by omega) (by omega) (by omega)))))) rfl (fun q hq => (zu_n (hq _ (by omega))).trans ((zu_n (hq _ (by omega))).trans (zu_n (hq _ (by omega)))))⟩)
    · refine zv_iconst (pc := 28) (v := 0) C dDu_row_28 (by decide) ?_
      exact zv_zret (pc := 29) C hr (by first | rfl | exact zb_nar _) dDu_row_29 (Nat.le_of_ble_eq_true rfl) (Nat.le_of_ble_eq_true rfl) (by (try simp only [zb_0, Bool.not_eq_false] at c18); (try simp only [zb_0, Bool.not_eq_false] at c25); exact Or.inl ⟨rfl, by simp [c18, c25], rfl⟩)
set_option maxHeartbeats 4000000 in
set_option maxRecDepth 100000 in
theorem cDu_rowU {O : zO} {l : Launch} (hk : zK O l) (G : zG) (i : Nat) (x : Int32) (z : Int64) {ad : Nat → Nat} {S : aS} (hR : zRep O G ad S) (hS : aOk S) (hi : i < snb S) (hw : bst (sB S i) = 0) (hlt : bsz (sB S i) = 20) : zM O l yDu_row [Cond.code yDu_row bDu_row 6 (some .boolean)] rmDu_row [.ref (ad 0), .int (nI i), .int x, .long z] G 0 0 (zPr (.int 0) G) zNo := by
  refine zm_of hk (by decide) (Nat.le_of_ble_eq_true rfl) ?_
  intro p e s m below meth c C hex hr hnm
  obtain ⟨hinj, hD, hK1, ⟨fb, hF, hfb⟩, hBk, ⟨hSh, hp1, hp2⟩, hbs⟩ := id hR
  obtain ⟨ok1, ok2, ok3, ok4⟩ := id hS
  obtain ⟨hb1, hb2, hb3⟩ := hbs i hi
  refine zv_aload_n (pc := 0) C dDu_row_0 rfl ?_
  refine zv_iconst (pc := 1) (v := 0) C dDu_row_1 (by decide) ?_
  refine zv_iload_n (pc := 2) C dDu_row_2 rfl ?_
  refine zv_callV (pc := 3) C dDu_row_3 (cDu_batchThatIsT hk _ _ _ hR hS hi hw) gDu_85 ⟨rfl, rfl, ⟨Nat.le_of_ble_eq_true rfl, Nat.le_of_ble_eq_true rfl⟩, mDu_batchThatIs⟩ rfl rfl (Nat.le_of_ble_eq_true rfl) (by first | assumption | exact zu_s | (refine (zu_n (by assumption)).trans ?_; first | assumption | exact zu_s)) rfl rfl ⟨Nat.le_of_ble_eq_true rfl, Nat.le_of_ble_eq_true rfl⟩ (fun _ _ h => h.elim) (fun v G' h => ?_)
  obtain ⟨rfl, rfl⟩ := h
  refine zv_astore (pc := 6) C dDu_row_6 (by decide) ?_
  refine zv_aload (pc := 8) C dDu_row_8 rfl ?_
  refine zv_ifnull (pc := 10) C dDu_row_10 ?_
  refine zv_aload_n (pc := 13) C dDu_row_13 rfl ?_
  refine zv_iload_n (pc := 14) C dDu_row_14 rfl ?_
  refine zv_callV (pc := 15) C dDu_row_15 (cDu_isAccount hk _ _ _ hD) gDu_89 ⟨rfl, rfl, ⟨Nat.le_of_ble_eq_true rfl, Nat.le_of_ble_eq_true rfl⟩, mDu_isAccount⟩ rfl rfl (Nat.le_of_ble_eq_true rfl) (by first | assumption | exact zu_s | (refine (zu_n (by assumption)).trans ?_; first | assumption | exact zu_s)) rfl rfl ⟨Nat.le_of_ble_eq_true rfl, Nat.le_of_ble_eq_true rfl⟩ (fun _ _ h => h.elim) (fun v G' h => ?_)
  obtain ⟨rfl, rfl⟩ := h
  refine zv_if_eq (pc := 18) (tgt := 28) C dDu_row_18 (by decide) (fun c18 => ?_) (fun c18 => ?_)
  · refine zv_iconst (pc := 28) (v := 0) C dDu_row_28 (by decide) ?_
    exact zv_zret (pc := 29) C hr (by first | rfl | exact zb_nar _) dDu_row_29 (Nat.le_of_ble_eq_true rfl) (Nat.le_of_ble_eq_true rfl) (by exact ⟨rfl, rfl⟩)
  · refine zv_lload_n (pc := 21) C dDu_row_21 rfl ?_
    refine zv_callS (pc := 22) C dDu_row_22 (cDu_canBeCents hk _ _) gDu_92 ⟨rfl, rfl, ⟨Nat.le_of_ble_eq_true rfl, Nat.le_of_ble_eq_true rfl⟩, mDu_canBeCents⟩ rfl rfl (Nat.le_of_ble_eq_true rfl) ⟨Nat.le_of_ble_eq_true rfl, Nat.le_of_ble_eq_true rfl⟩ (fun _ _ h => h.elim) (fun v G' h => ?_)
    obtain ⟨rfl, rfl⟩ := h
    refine zv_if_ne (pc := 25) (tgt := 30) C dDu_row_25 (by decide) (fun c25 => ?_) (fun c25 => ?_)
    · refine zv_aload (pc := 30) C dDu_row_30 rfl ?_
      refine zv_iload_n (pc := 32) C dDu_row_32 rfl ?_
      refine zv_lload_n (pc := 33) C dDu_row_33 rfl ?_
      refine zv_callV (pc := 34) C dDu_row_34 (cBa_takeF hk _ _ _ _ _ hb1 hb2 hb3 hlt) gDu_96 ⟨rfl, rfl, ⟨Nat.le_of_ble_eq_true rfl, Nat.le_of_ble_eq_true rfl⟩, mBa_take⟩ rfl rfl (Nat.le_of_ble_eq_true rfl) (by first | assumption | exact zu_s | (refine (zu_n (by assumption)).trans ?_; first | assumption | exact zu_s)) rfl rfl ⟨Nat.le_of_ble_eq_true rfl, Nat.le_of_ble_eq_true rfl⟩ (fun _ _ h => h.elim) (fun v G' h => ?_)
      obtain ⟨rfl, rfl⟩ := h
      exact zv_zret (pc := 37) C hr (by first | rfl | exact zb_nar _) dDu_row_37 (Nat.le_of_ble_eq_true rfl) (Nat.le_of_ble_eq_true rfl) (by exact ⟨rfl, rfl⟩)
    · refine zv_iconst (pc := 28) (v := 0) C dDu_row_28 (by decide) ?_
      exact zv_zret (pc := 29) C hr (by first | rfl | exact zb_nar _) dDu_row_29 (Nat.le_of_ble_eq_true rfl) (Nat.le_of_ble_eq_true rfl) (by exact ⟨rfl, rfl⟩)
set_option maxHeartbeats 4000000 in
set_option maxRecDepth 100000 in
theorem cDu_rowO {O : zO} {l : Launch} (hk : zK O l) (G : zG) (i : Nat) (x : Int32) (z : Int64) {ad : Nat → Nat} {S : aS} (hR : zRep O G ad S) (hS : aOk S) (hi : i < snb S) (hw : ¬ bst (sB S i) = 0) : zM O l yDu_row [Cond.code yDu_row bDu_row 6 (some .boolean)] rmDu_row [.ref (ad 0), .int (nI i), .int x, .long z] G 0 0 (zPr (.int 0) G) zNo := by
  refine zm_of hk (by decide) (Nat.le_of_ble_eq_true rfl) ?_
  intro p e s m below meth c C hex hr hnm
  obtain ⟨hinj, hD, hK1, ⟨fb, hF, hfb⟩, hBk, ⟨hSh, hp1, hp2⟩, hbs⟩ := id hR
  obtain ⟨ok1, ok2, ok3, ok4⟩ := id hS
  refine zv_aload_n (pc := 0) C dDu_row_0 rfl ?_
  refine zv_iconst (pc := 1) (v := 0) C dDu_row_1 (by decide) ?_
  refine zv_iload_n (pc := 2) C dDu_row_2 rfl ?_
  refine zv_callV (pc := 3) C dDu_row_3 (cDu_batchThatIsO hk _ _ _ hR hS hi hw) gDu_85 ⟨rfl, rfl, ⟨Nat.le_of_ble_eq_true rfl, Nat.le_of_ble_eq_true rfl⟩, mDu_batchThatIs⟩ rfl rfl (Nat.le_of_ble_eq_true rfl) (by first | assumption | exact zu_s | (refine (zu_n (by assumption)).trans ?_; first | assumption | exact zu_s)) rfl rfl ⟨Nat.le_of_ble_eq_true rfl, Nat.le_of_ble_eq_true rfl⟩ (fun _ _ h => h.elim) (fun v G' h => ?_)
  obtain ⟨rfl, rfl⟩ := h
  refine zv_astoreN (pc := 6) C dDu_row_6 (by decide) ?_
  refine zv_aloadN (pc := 8) C dDu_row_8 rfl ?_
  refine zv_ifnullN (pc := 10) (tgt := 28) C dDu_row_10 (by decide) ?_
  refine zv_iconst (pc := 28) (v := 0) C dDu_row_28 (by decide) ?_
  exact zv_zret (pc := 29) C hr (by first | rfl | exact zb_nar _) dDu_row_29 (Nat.le_of_ble_eq_true rfl) (Nat.le_of_ble_eq_true rfl) (by exact ⟨rfl, rfl⟩)
set_option maxHeartbeats 4000000 in
set_option maxRecDepth 100000 in
theorem cDu_rowF {O : zO} {l : Launch} (hk : zK O l) (G : zG) (y x : Int32) (z : Int64) {ad : Nat → Nat} {S : aS} (hR : zRep O G ad S) (hS : aOk S) (hx : isAccB y (nI (snb S)) = false) : zM O l yDu_row [Cond.code yDu_row bDu_row 6 (some .boolean)] rmDu_row [.ref (ad 0), .int y, .int x, .long z] G 0 0 (zPr (.int 0) G) zNo := by
  refine zm_of hk (by decide) (Nat.le_of_ble_eq_true rfl) ?_
  intro p e s m below meth c C hex hr hnm
  obtain ⟨hinj, hD, hK1, ⟨fb, hF, hfb⟩, hBk, ⟨hSh, hp1, hp2⟩, hbs⟩ := id hR
  obtain ⟨ok1, ok2, ok3, ok4⟩ := id hS
  refine zv_aload_n (pc := 0) C dDu_row_0 rfl ?_
  refine zv_iconst (pc := 1) (v := 0) C dDu_row_1 (by decide) ?_
  refine zv_iload_n (pc := 2) C dDu_row_2 rfl ?_
  refine zv_callV (pc := 3) C dDu_row_3 (cDu_batchThatIsF hk _ _ _ hR hS hx) gDu_85 ⟨rfl, rfl, ⟨Nat.le_of_ble_eq_true rfl, Nat.le_of_ble_eq_true rfl⟩, mDu_batchThatIs⟩ rfl rfl (Nat.le_of_ble_eq_true rfl) (by first | assumption | exact zu_s | (refine (zu_n (by assumption)).trans ?_; first | assumption | exact zu_s)) rfl rfl ⟨Nat.le_of_ble_eq_true rfl, Nat.le_of_ble_eq_true rfl⟩ (fun _ _ h => h.elim) (fun v G' h => ?_)
  obtain ⟨rfl, rfl⟩ := h
  refine zv_astoreN (pc := 6) C dDu_row_6 (by decide) ?_
  refine zv_aloadN (pc := 8) C dDu_row_8 rfl ?_
  refine zv_ifnullN (pc := 10) (tgt := 28) C dDu_row_10 (by decide) ?_
  refine zv_iconst (pc := 28) (v := 0) C dDu_row_28 (by decide) ?_
  exact zv_zret (pc := 29) C hr (by first | rfl | exact zb_nar _) dDu_row_29 (Nat.le_of_ble_eq_true rfl) (Nat.le_of_ble_eq_true rfl) (by exact ⟨rfl, rfl⟩)
/-- one more batch -/
def adB (S : aS) (b : aB) : aS := (S.1, (snb S + 1, fun j => if j = snb S then b else sB S j), S.2.2)
def adN (ad : Nat → Nat) (n x y z : Nat) : Nat → Nat := fun i => if i = 12 + 3 * n then x else if i = 13 + 3 * n then y else if i = 14 + 3 * n then z else ad i
theorem adN_old {ad : Nat → Nat} {n x y z i : Nat} (h : i < 12 + 3 * n) : adN ad n x y z i = ad i := by
  simp only [adN]; rw [if_neg (by omega), if_neg (by omega), if_neg (by omega)]
theorem adN_x {ad : Nat → Nat} {n x y z : Nat} : adN ad n x y z (12 + 3 * n) = x := by unfold adN; rw [if_pos rfl]
theorem adN_y {ad : Nat → Nat} {n x y z : Nat} : adN ad n x y z (13 + 3 * n) = y := by unfold adN; rw [if_neg (by omega), if_pos rfl]
theorem adN_z {ad : Nat → Nat} {n x y z : Nat} : adN ad n x y z (14 + 3 * n) = z := by unfold adN; rw [if_neg (by omega), if_neg (by omega), if_pos rfl]
/-- x, y, z are apart from each other and from the class's cells -/
def zApt (ad : Nat → Nat) (S : aS) (x y z : Nat) : Prop := (x ≠ y ∧ x ≠ z ∧ y ≠ z) ∧ ∀ i, i < 12 + 3 * snb S → x ≠ ad i ∧ y ≠ ad i ∧ z ≠ ad i
theorem zRep.add {O : zO} {G G' : zG} {ad : Nat → Nat} {S : aS} {x y z : Nat} {b : aB} (h : zRep O G ad S) (hA : zApt ad S x y z) {fb : Nat → Option Nat} (hfb : ∀ i, i < snb S → fb i = some (ad (12 + 3 * i)))
    (h0 : G' (ad 0) = some (oDu (ad 1) (ad 2) (ad 3) (ad 4) (nI (sna S)) (nI (snb S + 1)) (scd S) (slk S) (swr S) (snm S) (sfl S)))
    (h2 : G' (ad 2) = some (zQ O 3 100 (va_up fb (snb S) (some x)))) (hb : zBat O G' x y z b) (hk : ∀ j, j ≠ 0 → j ≠ 2 → j < 12 + 3 * snb S → G' (ad j) = G (ad j)) : zRep O G' (adN ad (snb S) x y z) (adB S b) := by
  have hO : ∀ j, j < 12 + 3 * snb S → adN ad (snb S) x y z j = ad j := fun j hj => adN_old hj
  obtain ⟨hinj, hD, hK1, -, hBk, ⟨hSh, hp1, hp2⟩, hbs⟩ := id h
  obtain ⟨⟨a1, a2, a3⟩, a4⟩ := hA
  have hnb : snb (adB S b) = snb S + 1 := rfl
  refine ⟨fun i j hi hj hij => ?_, ?_, ?_, ⟨va_up fb (snb S) (some x), ?_, fun i hi => ?_⟩, ?_, ⟨?_, ?_, ?_⟩, fun i hi => ?_⟩
  · rw [hnb] at hi hj
    by_cases g1 : i < 12 + 3 * snb S <;> by_cases g2 : j < 12 + 3 * snb S
    · rw [hO i g1, hO j g2] at hij; exact hinj i j g1 g2 hij
    · rw [hO i g1] at hij
      rcases (show j = 12 + 3 * snb S ∨ j = 13 + 3 * snb S ∨ j = 14 + 3 * snb S by omega) with rfl | rfl | rfl
      · rw [adN_x] at hij; exact absurd hij.symm (a4 i g1).1
      · rw [adN_y] at hij; exact absurd hij.symm (a4 i g1).2.1
      · rw [adN_z] at hij; exact absurd hij.symm (a4 i g1).2.2
    · rw [hO j g2] at hij
      rcases (show i = 12 + 3 * snb S ∨ i = 13 + 3 * snb S ∨ i = 14 + 3 * snb S by omega) with rfl | rfl | rfl
      · rw [adN_x] at hij; exact absurd hij (a4 j g2).1
      · rw [adN_y] at hij; exact absurd hij (a4 j g2).2.1
      · rw [adN_z] at hij; exact absurd hij (a4 j g2).2.2
    · rcases (show i = 12 + 3 * snb S ∨ i = 13 + 3 * snb S ∨ i = 14 + 3 * snb S by omega) with rfl | rfl | rfl <;> rcases (show j = 12 + 3 * snb S ∨ j = 13 + 3 * snb S ∨ j = 14 + 3 * snb S by omega) with rfl | rfl | rfl <;> simp only [adN_x, adN_y, adN_z] at hij <;> first | rfl | exact absurd hij a1 | exact absurd hij a2 | exact absurd hij a3 | exact absurd hij.symm a1 | exact absurd hij.symm a2 | exact absurd hij.symm a3
  · rw [hO 0 (by omega), hO 1 (by omega), hO 2 (by omega), hO 3 (by omega), hO 4 (by omega)]; exact h0
  · rw [hO 1 (by omega)]; exact (hk 1 (by omega) (by omega) (by omega)).trans hK1
  · rw [hO 2 (by omega)]; exact h2
  · rw [hnb] at hi
    by_cases g : i = snb S
    · subst g; rw [va_up_self, adN_x]
    · rw [va_up_ne _ _ g, hO _ (by omega)]; exact hfb i (by omega)
  · rw [hO 3 (by omega), hO 5 (by omega), hO 6 (by omega), hO 7 (by omega), hO 8 (by omega), hO 9 (by omega)]
    exact h.bkept (fun j hj => hk j (by omega) (by omega) (by omega))
  · rw [hO 4 (by omega), hO 10 (by omega), hO 11 (by omega)]; exact (hk 4 (by omega) (by omega) (by omega)).trans hSh
  · rw [hO 10 (by omega)]; exact (hk 10 (by omega) (by omega) (by omega)).trans hp1
  · rw [hO 11 (by omega)]; exact (hk 11 (by omega) (by omega) (by omega)).trans hp2
  · rw [hnb] at hi
    by_cases g : i = snb S
    · subst g
      rw [adN_x, adN_y, adN_z]
      show zBat O G' x y z (if snb S = snb S then b else sB S (snb S))
      rw [if_pos rfl]; exact hb
    · rw [hO _ (by omega), hO _ (by omega), hO _ (by omega)]
      show zBat O G' _ _ _ (if i = snb S then b else sB S i)
      rw [if_neg g]
      exact (hbs i (by omega)).kept (hk _ (by omega) (by omega) (by omega)) (hk _ (by omega) (by omega) (by omega)) (hk _ (by omega) (by omega) (by omega))
set_option maxHeartbeats 4000000 in
set_option maxRecDepth 100000 in
theorem cDu_keep {O : zO} {l : Launch} (hk : zK O l) (G : zG) (x : Nat) {y z : Nat} {b : aB} {ad : Nat → Nat} {S : aS} (hR : zRep O G ad S) (hS : aOk S) (hb : zBat O G x y z b) (hA : zApt ad S x y z) (hlt : snb S < 100) : zM O l yDu_keep [Cond.code yDu_keep bDu_keep 2 (some .int)] rmDu_keep [.ref (ad 0), .ref x] G 0 0 (fun v G' => v = some (.int (nI (snb S))) ∧ zRep O G' (adN ad (snb S) x y z) (adB S b) ∧ ∀ q, q ≠ ad 0 → q ≠ ad 2 → G' q = G q) zNo := by
  refine zm_of hk (by decide) (Nat.le_of_ble_eq_true rfl) ?_
  intro p e s m below meth c C hex hr hnm
  obtain ⟨hinj, hD, hK1, ⟨fb, hF, hfb⟩, hBk, ⟨hSh, hp1, hp2⟩, hbs⟩ := id hR
  obtain ⟨ok1, ok2, ok3, ok4⟩ := id hS
  obtain ⟨hb1, hb2, hb3⟩ := id hb
  have n02 : ad 0 ≠ ad 2 := hR.ne (by omega) (by omega) (by omega)
  have n20 := Ne.symm n02
  have x0 := (hA.2 0 (by omega)).1
  have x2 := (hA.2 2 (by omega)).1
  refine zv_aload_n (pc := 0) C dDu_keep_0 rfl ?_
  refine zv_get (pc := 1) C dDu_keep_1 fDu_19 (by first | assumption | exact zu_s | (refine (zu_n (by assumption)).trans ?_; first | assumption | exact zu_s | (refine (zu_n (by assumption)).trans ?_; first | assumption | exact zu_s | (refine (zu_n (by assumption)).trans ?_; first | assumption | exact zu_s)))) rfl ?_
  refine zv_aload_n (pc := 4) C dDu_keep_4 rfl ?_
  refine zv_get (pc := 5) C dDu_keep_5 fDu_23 (by first | assumption | exact zu_s | (refine (zu_n (by assumption)).trans ?_; first | assumption | exact zu_s | (refine (zu_n (by assumption)).trans ?_; first | assumption | exact zu_s | (refine (zu_n (by assumption)).trans ?_; first | assumption | exact zu_s)))) rfl ?_
  refine zv_aload_n (pc := 8) C dDu_keep_8 rfl ?_
  refine zn_aast (pc := 9) C dDu_keep_9 hF hb1 hlt (by omega) ?_
  refine zv_aload_n (pc := 10) C dDu_keep_10 rfl ?_
  refine zv_dup (pc := 11) C dDu_keep_11 rfl ?_
  refine zv_get (pc := 12) C dDu_keep_12 fDu_23 (by first | assumption | exact zu_s | (refine (zu_n (by assumption)).trans ?_; first | assumption | exact zu_s | (refine (zu_n (by assumption)).trans ?_; first | assumption | exact zu_s | (refine (zu_n (by assumption)).trans ?_; first | assumption | exact zu_s)))) rfl ?_
  refine zv_iconst (pc := 15) (v := 1) C dDu_keep_15 (by decide) ?_
  refine zv_iadd (pc := 16) C dDu_keep_16 ?_
  refine zv_topi (nI_1 (snb S)) ?_
  refine zv_put (pc := 17) C dDu_keep_17 fDu_23 ⟨tkDu, nmDu⟩ (by first | assumption | exact zu_s | (refine (zu_n (by assumption)).trans ?_; first | assumption | exact zu_s | (refine (zu_n (by assumption)).trans ?_; first | assumption | exact zu_s | (refine (zu_n (by assumption)).trans ?_; first | assumption | exact zu_s)))) rfl (tkDu 3 (by decide)) rfl rfl (Nat.le_of_ble_eq_true rfl) ?_
  refine zv_aload_n (pc := 20) C dDu_keep_20 rfl ?_
  refine zv_get (pc := 21) C dDu_keep_21 fDu_23 (by first | assumption | exact zu_s | (refine (zu_n (by assumption)).trans ?_; first | assumption | exact zu_s | (refine (zu_n (by assumption)).trans ?_; first | assumption | exact zu_s | (refine (zu_n (by assumption)).trans ?_; first | assumption | exact zu_s)))) rfl ?_
  refine zv_iconst (pc := 24) (v := 1) C dDu_keep_24 (by decide) ?_
  refine zv_isub (pc := 25) C dDu_keep_25 ?_
  refine zv_topi (nI_pred (snb S)) ?_
  exact zv_iret (pc := 26) C hr dDu_keep_26 (Nat.le_of_ble_eq_true rfl) (Nat.le_of_ble_eq_true rfl) (by exact ⟨rfl, hR.add hA hfb zu_s ((zu_n n20).trans zu_s) (hb.kept ((zu_n x0).trans (zu_n x2)) ((zu_n (hA.2 0 (by omega)).2.1).trans (zu_n (hA.2 2 (by omega)).2.1)) ((zu_n (hA.2 0 (by omega)).2.2).trans (zu_n (hA.2 2 (by omega)).2.2))) (fun j g1 g2 g3 => (zu_n (hR.ne g3 (by omega) g1)).trans (zu_n (hR.ne g3 (by omega) g2))), fun q g1 g2 => (zu_n g1).trans (zu_n g2)⟩)
end
section
def nwB (vd kd rv : Int32) : aB := (vd, kd, rv, 0, 0, -1, 0, fun _ => 0, fun _ => 0)
theorem zRep.keptAll {O : zO} {G G' : zG} {ad : Nat → Nat} {S : aS} (h : zRep O G ad S) (hk : ∀ j, j < 12 + 3 * snb S → G' (ad j) = G (ad j)) : zRep O G' ad S := h.root rfl rfl rfl ((hk 0 (by omega)).trans h.2.1) ((hk 1 (by omega)).trans h.2.2.1) (fun j _ g => hk j g)
theorem zRep.dom {O : zO} {G : zG} {ad : Nat → Nat} {S : aS} (h : zRep O G ad S) {i : Nat} (hi : i < 12 + 3 * snb S) : ∃ e, G (ad i) = some e := by
  obtain ⟨hinj, hD, hK1, ⟨fb, hF, hfb⟩, ⟨k0, k1, k2, k3, k4, k5⟩, ⟨hSh, hp1, hp2⟩, hbs⟩ := h
  rcases Nat.lt_or_ge i 12 with g | g
  · rcases (show i = 0 ∨ i = 1 ∨ i = 2 ∨ i = 3 ∨ i = 4 ∨ i = 5 ∨ i = 6 ∨ i = 7 ∨ i = 8 ∨ i = 9 ∨ i = 10 ∨ i = 11 by omega) with rfl | rfl | rfl | rfl | rfl | rfl | rfl | rfl | rfl | rfl | rfl | rfl
    all_goals first | exact ⟨_, hD⟩ | exact ⟨_, hK1⟩ | exact ⟨_, hF⟩ | exact ⟨_, k0⟩ | exact ⟨_, k1⟩ | exact ⟨_, k2⟩ | exact ⟨_, k3⟩ | exact ⟨_, k4⟩ | exact ⟨_, k5⟩ | exact ⟨_, hSh⟩ | exact ⟨_, hp1⟩ | exact ⟨_, hp2⟩
  · obtain ⟨b1, b2, b3⟩ := hbs ((i - 12) / 3) (by omega)
    rcases (show i = 12 + 3 * ((i - 12) / 3) ∨ i = 13 + 3 * ((i - 12) / 3) ∨ i = 14 + 3 * ((i - 12) / 3) by omega) with q | q | q <;> rw [q]
    · exact ⟨_, b1⟩
    · exact ⟨_, b2⟩
    · exact ⟨_, b3⟩
/-- cells that weren't there are apart from the class's -/
theorem zRep.apt {O : zO} {G : zG} {ad : Nat → Nat} {S : aS} (h : zRep O G ad S) {x y z : Nat} (hx : G x = none) (hy : G y = none) (hz : G z = none) (h1 : x ≠ y) (h2 : x ≠ z) (h3 : y ≠ z) : zApt ad S x y z := ⟨⟨h1, h2, h3⟩, fun i hi => by
  obtain ⟨e, he⟩ := h.dom hi
  exact ⟨zu_fresh hx he, zu_fresh hy he, zu_fresh hz he⟩⟩
/-- a new batch stands beside the class's cells -/
theorem zRep.born {O : zO} {G G' : zG} {ad : Nat → Nat} {S : aS} (h : zRep O G ad S) {q : Nat} {e0 : va_E} {vd kd rv : Int32} (hq : G q = none) (hN : zBaN O (zu G q e0) G' q vd kd rv) : ∃ y z : Nat, G y = none ∧ G z = none ∧ zApt ad S q y z ∧ zBat O G' q y z (nwB vd kd rv) ∧ zRep O G' ad S ∧ ∀ a e, G a = some e → G' a = some e := by
  obtain ⟨y, z, hy, hz, hyz, g1, g2, g3, g4⟩ := hN
  have hy0 := zu_none hy
  have hz0 := zu_none hz
  have nqy : q ≠ y := fun w => by rw [← w, zu_s] at hy; cases hy
  have nqz : q ≠ z := fun w => by rw [← w, zu_s] at hz; cases hz
  have hk : ∀ a e, G a = some e → G' a = some e := fun a e ha => by
    have m1 : a ≠ q := Ne.symm (zu_fresh hq ha)
    rw [g4 a m1 (Ne.symm (zu_fresh hy0 ha)) (Ne.symm (zu_fresh hz0 ha)), zu_n m1]; exact ha
  exact ⟨y, z, hy0, hz0, h.apt hq hy0 hz0 nqy nqz hyz, ⟨g1, g2, g3⟩, h.keptAll (fun j hj => by obtain ⟨e, he⟩ := h.dom hj; rw [he]; exact hk _ _ he), hk⟩
def daysOk (x y : Int32) : Bool := isDayB x && isDayB y
theorem zTo_add {O : zO} {G G1 G2 : zG} {ad : Nat → Nat} {S : aS} {x y z : Nat} {b : aB} (hR2 : zRep O G2 (adN ad (snb S) x y z) (adB S b)) (hx : G x = none) (hy : G y = none) (hz : G z = none) (hfr : ∀ q, q ≠ ad 0 → q ≠ ad 2 → G2 q = G1 q) (hkp : ∀ a e, G a = some e → G1 a = some e) : zTo O G G2 ad S (adB S b) := by
  refine ⟨adN ad (snb S) x y z, hR2, Nat.le_succ _, fun i hi => adN_old hi, fun i h1 h2 => ?_, fun q e g1 g2 => by rw [hfr q (g2 0 (by omega)) (g2 2 (by omega))]; exact hkp q e g1⟩
  have h2 : i < 12 + 3 * (snb S + 1) := h2
  rcases (show i = 12 + 3 * snb S ∨ i = 13 + 3 * snb S ∨ i = 14 + 3 * snb S by omega) with rfl | rfl | rfl
  · rw [adN_x]; exact hx
  · rw [adN_y]; exact hy
  · rw [adN_z]; exact hz
set_option maxHeartbeats 4000000 in
set_option maxRecDepth 100000 in
theorem cDu_batch {O : zO} {l : Launch} (hk : zK O l) (G : zG) (x1 x2 : Int32) {ad : Nat → Nat} {S : aS} (hR : zRep O G ad S) (hS : aOk S) : zM O l yDu_batch [Cond.code yDu_batch bDu_batch 3 (some .int)] rmDu_batch [.ref (ad 0), .int x1, .int x2] G 3 49 (fun v G' => daysOk x1 x2 = true ∧ snb S < 100 ∧ v = some (.int (nI (snb S))) ∧ zTo O G G' ad S (adB S (nwB x1 x2 (-1)))) (fun E G' => G' = G ∧ ((daysOk x1 x2 = false ∧ E = "java/lang/IllegalArgumentException") ∨ (daysOk x1 x2 = true ∧ ¬ snb S < 100 ∧ E = "java/lang/IllegalStateException"))) := by
  refine zm_of hk (by decide) (Nat.le_of_ble_eq_true rfl) ?_
  intro p e s m below meth c C hex hr hnm
  obtain ⟨hinj, hD, hK1, ⟨fb, hF, hfb⟩, hBk, ⟨hSh, hp1, hp2⟩, hbs⟩ := id hR
  obtain ⟨ok1, ok2, ok3, ok4⟩ := id hS
  refine zv_iload_n (pc := 0) C dDu_batch_0 rfl ?_
  refine zv_callS (pc := 1) C dDu_batch_1 (cDu_isDay hk _ _) gDu_71 ⟨rfl, rfl, ⟨Nat.le_of_ble_eq_true rfl, Nat.le_of_ble_eq_true rfl⟩, mDu_isDay⟩ rfl rfl (Nat.le_of_ble_eq_true rfl) ⟨Nat.le_of_ble_eq_true rfl, Nat.le_of_ble_eq_true rfl⟩ (fun _ _ h => h.elim) (fun v G' h => ?_)
  obtain ⟨rfl, rfl⟩ := h
  refine zv_if_eq (pc := 4) (tgt := 14) C dDu_batch_4 (by decide) (fun c4 => ?_) (fun c4 => ?_)
  · exact zv_throwS (pc := 14) C dDu_batch_14 dDu_batch_17 dDu_batch_18 dDu_batch_20 dDu_batch_23 tDu_74_63 hex (Nat.le_of_ble_eq_true rfl) (Nat.le_of_ble_eq_true rfl) (Nat.le_of_ble_eq_true rfl) (Nat.le_of_ble_eq_true rfl) (Nat.le_of_ble_eq_true rfl) (Nat.le_of_ble_eq_true rfl) (by (try simp only [zb_0, Bool.not_eq_false] at c4); exact ⟨rfl, Or.inl ⟨by simp [daysOk, c4], rfl⟩⟩)
  · refine zv_iload_n (pc := 7) C dDu_batch_7 rfl ?_
    refine zv_callS (pc := 8) C dDu_batch_8 (cDu_isDay hk _ _) gDu_71 ⟨rfl, rfl, ⟨Nat.le_of_ble_eq_true rfl, Nat.le_of_ble_eq_true rfl⟩, mDu_isDay⟩ rfl rfl (Nat.le_of_ble_eq_true rfl) ⟨Nat.le_of_ble_eq_true rfl, Nat.le_of_ble_eq_true rfl⟩ (fun _ _ h => h.elim) (fun v G' h => ?_)
    obtain ⟨rfl, rfl⟩ := h
    refine zv_if_ne (pc := 11) (tgt := 24) C dDu_batch_11 (by decide) (fun c11 => ?_) (fun c11 => ?_)
    · refine zv_aload_n (pc := 24) C dDu_batch_24 rfl ?_
      refine zv_get (pc := 25) C dDu_batch_25 fDu_23 (by first | assumption | exact zu_s | (refine (zu_n (by assumption)).trans ?_; first | assumption | exact zu_s)) rfl ?_
      refine zv_bipush (pc := 28) (v := 100) C dDu_batch_28 (by decide) ?_
      refine zv_icmp_lt (pc := 30) (tgt := 43) C dDu_batch_30 (by decide) (fun c30 => ?_) (fun c30 => ?_)
      · have hlt : snb S < 100 := n100 (by omega) c30
        refine zv_aload_n (pc := 43) C dDu_batch_43 rfl ?_
        refine zv_new (pc := 44) C (fs := [.int 0, .int 0, .int 0, .null, .null, .int 0, .int 0, .int 0, .int 0]) dDu_batch_44 nDu_17 tkBa (by decide +kernel) (Nat.le_of_ble_eq_true rfl) (Nat.le_of_ble_eq_true rfl) (fun q44 h44 => ?_)
        refine zv_dup (pc := 47) C dDu_batch_47 rfl ?_
        refine zv_iload_n (pc := 48) C dDu_batch_48 rfl ?_
        refine zv_iload_n (pc := 49) C dDu_batch_49 rfl ?_
        refine zv_iconst (pc := 50) (v := -1) C dDu_batch_50 (by decide) ?_
        refine zv_callI (pc := 51) C dDu_batch_51 zNo_not (cBa_init hk _ _ _ _ _ zu_s) gDu_78 ⟨rfl, rfl, ⟨Nat.le_of_ble_eq_true rfl, Nat.le_of_ble_eq_true rfl⟩, mBa_init⟩ rfl rfl rfl (Nat.le_of_ble_eq_true rfl) ⟨Nat.le_of_ble_eq_true rfl, Nat.le_of_ble_eq_true rfl⟩ (fun v G' h => ?_)
        obtain ⟨rfl, hN⟩ := h
        obtain ⟨y, z, hy, hz, hA, hb, hR1, hkp⟩ := hR.born h44 hN
        have hD1 := hR1.2.1
        refine zv_callV (pc := 54) C dDu_batch_54 (cDu_keep hk _ _ hR1 hS hb hA hlt) gDu_81 ⟨rfl, rfl, ⟨Nat.le_of_ble_eq_true rfl, Nat.le_of_ble_eq_true rfl⟩, mDu_keep⟩ rfl rfl (Nat.le_of_ble_eq_true rfl) (by first | assumption | exact zu_s | (refine (zu_n (by assumption)).trans ?_; first | assumption | exact zu_s)) rfl rfl ⟨Nat.le_of_ble_eq_true rfl, Nat.le_of_ble_eq_true rfl⟩ (fun _ _ h => h.elim) (fun v G' h => ?_)
        obtain ⟨rfl, hR2, hfr⟩ := h
        exact zv_iret (pc := 57) C hr dDu_batch_57 (Nat.le_of_ble_eq_true rfl) (Nat.le_of_ble_eq_true rfl) (by (try simp only [zb_0, Bool.not_eq_false] at c4); (try simp only [zb_0, Bool.not_eq_false] at c11); (try simp only [zb_0, Bool.not_eq_false] at c30); exact ⟨by simp [daysOk, c4, c11, c30], hlt, rfl, zTo_add hR2 h44 hy hz hfr hkp⟩)
      · exact zv_throwS (pc := 33) C dDu_batch_33 dDu_batch_36 dDu_batch_37 dDu_batch_39 dDu_batch_42 tDu_76_70 hex (Nat.le_of_ble_eq_true rfl) (Nat.le_of_ble_eq_true rfl) (Nat.le_of_ble_eq_true rfl) (Nat.le_of_ble_eq_true rfl) (Nat.le_of_ble_eq_true rfl) (Nat.le_of_ble_eq_true rfl) (by (try simp only [zb_0, Bool.not_eq_false] at c4); (try simp only [zb_0, Bool.not_eq_false] at c11); (try simp only [zb_0, Bool.not_eq_false] at c30); exact ⟨rfl, Or.inr ⟨by simp [daysOk, c4, c11, c30], fun h => c30 (nI_lt (b := 100) h (by omega)), rfl⟩⟩)
    · exact zv_throwS (pc := 14) C dDu_batch_14 dDu_batch_17 dDu_batch_18 dDu_batch_20 dDu_batch_23 tDu_74_63 hex (Nat.le_of_ble_eq_true rfl) (Nat.le_of_ble_eq_true rfl) (Nat.le_of_ble_eq_true rfl) (Nat.le_of_ble_eq_true rfl) (Nat.le_of_ble_eq_true rfl) (Nat.le_of_ble_eq_true rfl) (by (try simp only [zb_0, Bool.not_eq_false] at c4); (try simp only [zb_0, Bool.not_eq_false] at c11); exact ⟨rfl, Or.inl ⟨by simp [daysOk, c4, c11], rfl⟩⟩)
end
