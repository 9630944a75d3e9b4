/-! a ghost heap over the kit's worlds: what lies at each address that the law's run has made -/
abbrev zG : Type := Nat → Option va_E
/-- classes and slots, array classes, the law's start -/
abbrev zO : Type := va_G × List (ClassId × FieldType) × State
def zu (G : zG) (a : Nat) (e : va_E) : zG := fun q => if q = a then some e else G q
theorem zu_s {G : zG} {a : Nat} {e : va_E} : zu G a e a = some e := by simp [zu]
theorem zu_n {G : zG} {a b : Nat} {e : va_E} (h : b ≠ a) : zu G a e b = G b := by simp [zu, h]
/-- the heap H holds G; what was there before the law began is as it was -/
def zH (O : zO) (G : zG) (H : Heap) : Prop := O.2.2.heap.size ≤ H.size ∧ (∀ q : Nat, q < O.2.2.heap.size → H[q]? = O.2.2.heap[q]?) ∧ ∀ (a : Nat) (e : va_E), G a = some e → O.2.2.heap.size ≤ a ∧ va_at O.1 vwCl (a, e) H
theorem zH.lt {O : zO} {G : zG} {H : Heap} (h : zH O G H) {a : Nat} {e : va_E} (ha : G a = some e) : a < H.size := (h.2.2 a e ha).2.lt
theorem zH.one {O : zO} {G : zG} {H : Heap} (h : zH O G H) {a : Nat} {e : va_E} (ha : G a = some e) : va_P O.1 vwCl [(a, e)] H := by
  intro k q hk
  have hz : k < 1 := (List.getElem?_eq_some_iff.mp hk).1
  rw [show k = 0 by omega] at hk
  cases hk
  exact (h.2.2 a e ha).2
theorem zH.set {O : zO} {G : zG} {H H1 : Heap} (h : zH O G H) {a : Nat} {e0 e : va_E} (ha : G a = some e0) (he : va_at O.1 vwCl (a, e) H1) (z : H1.size = H.size) (oq : ∀ q : Nat, q ≠ a → H1[q]? = H[q]?) : zH O (zu G a e) H1 := by
  obtain ⟨h1, h2, h3⟩ := h
  have hb := (h3 a e0 ha).1
  refine ⟨by rw [z]; exact h1, fun q hq => by rw [oq q (by omega)]; exact h2 q hq, fun b e' hb' => ?_⟩
  by_cases hba : b = a
  · subst hba
    rw [zu_s] at hb'
    cases hb'
    exact ⟨hb, he⟩
  · rw [zu_n hba] at hb'
    exact ⟨(h3 b e' hb').1, (h3 b e' hb').2.kept (oq b hba)⟩
theorem zH.push {O : zO} {G : zG} {H H1 : Heap} (h : zH O G H) {e : va_E} (he : va_at O.1 vwCl (H.size, e) H1) (z : H1.size = H.size + 1) (oq : ∀ q : Nat, q < H.size → H1[q]? = H[q]?) : G H.size = none ∧ zH O (zu G H.size e) H1 := by
  have hn : G H.size = none := by
    cases hg : G H.size with
    | none => rfl
    | some e' => exact absurd (h.lt hg) (by omega)
  obtain ⟨h1, h2, h3⟩ := h
  refine ⟨hn, by omega, fun q hq => by rw [oq q (by omega)]; exact h2 q hq, fun b e' hb' => ?_⟩
  by_cases hba : b = H.size
  · subst hba
    rw [zu_s] at hb'
    cases hb'
    exact ⟨h1, he⟩
  · rw [zu_n hba] at hb'
    exact ⟨(h3 b e' hb').1, (h3 b e' hb').2.kept (oq b (h3 b e' hb').2.lt)⟩
/-- locals by their numbers -/
theorem zl_mem {i : Nat} {v : Value} : ∀ {ls : List (Nat × Value)}, ls.lookup i = some v → (i, v) ∈ ls
  | [], h => by cases h
  | (j, w) :: ls, h => by
    by_cases hij : i = j
    · subst hij
      simp at h
      rw [h]
      exact List.mem_cons_self
    · have h2 : (i == j) = false := by simpa using hij
      rw [List.lookup_cons, h2] at h
      exact List.mem_cons_of_mem _ (zl_mem h)
theorem zl_at {la : Array Slot} {nL : Nat} {ls : List (Nat × Value)} (h : lv_has la nL ls) {i : Nat} {v : Value} (hk : ls.lookup i = some v) : la[i]? = some (.val v) := h.2.2 (i, v) (zl_mem hk)
def zs1 (ls : List (Nat × Value)) (i : Nat) (v : Value) : List (Nat × Value) := (i, v) :: ls.filter (fun q => !(q.1 == i) && !(q.1 + 1 == i && q.2.category == 2))
def zs2 (ls : List (Nat × Value)) (i : Nat) (v : Value) : List (Nat × Value) := (i, v) :: ls.filter (fun q => !(q.1 == i) && (!(q.1 == i + 1) && !(q.1 + 1 == i && q.2.category == 2)))
def zpk (ls : List (Nat × Value)) : List Nat → Option (List (Nat × Value))
  | [] => some []
  | i :: is => match ls.lookup i, zpk ls is with
    | some v, some r => some ((i, v) :: r)
    | _, _ => none
theorem zpk_has {la : Array Slot} {nL : Nat} {ls : List (Nat × Value)} (h : lv_has la nL ls) : ∀ (is : List Nat) {l' : List (Nat × Value)}, zpk ls is = some l' → lv_has la nL l' := by
  intro is l' hp
  refine ⟨h.1, h.2.1, ?_⟩
  revert l'
  induction is with
  | nil => intro l' hp q hq; simp [zpk] at hp; subst hp; cases hq
  | cons i is ih =>
    intro l' hp q hq
    simp only [zpk] at hp
    cases h1 : ls.lookup i with
    | none => rw [h1] at hp; cases hp
    | some v =>
      cases h2 : zpk ls is with
      | none => rw [h1, h2] at hp; cases hp
      | some r =>
        rw [h1, h2] at hp
        cases hp
        rcases List.mem_cons.mp hq with rfl | hq
        · exact zl_at h h1
        · exact ih h2 q hq
/-- words that hold in every state, the castable and declares ones among them -/
def zgw (w : Cond) : Bool := goodWord w || (match w with
  | .castable _ _ => true
  | .declares _ => true
  | _ => false)
def zT2 : List Cond := lw_tbl.filter zgw
theorem zT_2 {w : Cond} (h : w ∈ zT) : w ∈ zT2 := by
  obtain ⟨h1, h2⟩ := List.mem_filter.mp h
  exact List.mem_filter.mpr ⟨h1, by simp [zgw, h2]⟩
theorem zgw_at {args a' : Array Value} {s U : State} {w : Cond} (hW : s.WarmedH U.vm) (hg : zgw w = true) (h : w.before args s = true) : w.before a' U = true := by
  by_cases hgo : goodWord w = true
  · exact word_at hW (good_of_word hgo) h
  · cases w with
    | castable C T => exact va_Nw.use rfl (va_Nw.warmC hW (va_Nw.of rfl h))
    | declares x => exact va_Nw.use rfl (va_Nw.warmD hW (va_Nw.of rfl h))
    | _ => simp [zgw, hgo] at hg
def zFr (O : zO) : Addr → Prop := fun q => O.2.2.heap.size ≤ q
def zStr : List (String × Nat × String) := [("DutyLedger", 61, "no such kind"), ("DutyLedger", 68, "no more accounts"), ("DutyLedger", 74, "no such day"), ("DutyLedger", 76, "no more batches"), ("DutyLedger", 104, "no such open batch"), ("DutyLedger", 113, "the batch is void"), ("DutyLedger", 121, "the batch failed"), ("DutyLedger", 127, "no such posted batch, or no such day"), ("DutyLedger", 135, "reversed, or a reversal"), ("DutyLedger", 141, "the reversal can't be posted"), ("DutyLedger", 143, "no such account or day"), ("DutyLedger", 152, "no such account, month or day"), ("DutyLedger", 164, "no such kind, day or what"), ("DutyLedger", 181, "no two such accounts"), ("DutyLedger", 188, "no such row"), ("DutyLedger", 207, "no such what"), ("DutyLedger", 213, "no such batch")]
def zNot : List (String × String) := [("java/lang/IllegalStateException", "java/lang/IllegalArgumentException"), ("java/lang/UnsupportedOperationException", "java/lang/IllegalArgumentException"), ("java/lang/IndexOutOfBoundsException", "java/lang/IllegalArgumentException"), ("java/lang/IllegalArgumentException", "java/lang/IllegalStateException"), ("java/lang/UnsupportedOperationException", "java/lang/IllegalStateException"), ("java/lang/IndexOutOfBoundsException", "java/lang/IllegalStateException"), ("java/lang/IllegalArgumentException", "java/lang/UnsupportedOperationException"), ("java/lang/IllegalStateException", "java/lang/UnsupportedOperationException"), ("java/lang/IndexOutOfBoundsException", "java/lang/UnsupportedOperationException"), ("java/lang/IllegalArgumentException", "java/lang/IndexOutOfBoundsException"), ("java/lang/IllegalStateException", "java/lang/IndexOutOfBoundsException"), ("java/lang/UnsupportedOperationException", "java/lang/IndexOutOfBoundsException")]
/-- .. of its heap, its texts, its classes -/
def zK2 (O : zO) : Prop := O.2.1.map (fun q => q.2) = [.int, .long, .boolean, .object RBa] ∧ va_AO RBa O.2.2 ∧ (va_Nw (.methodLinkNest RDu 28 yBk_init RDu) O.2.2 ∧ va_Nw (.methodLinkNest RDu 35 ySh_init RDu) O.2.2) ∧ (vx_Zq Bundle.tN "UNASSIGNED_STACK" Bundle.steD (zFr O) O.2.2 O.2.2.heap ∧ vx_Zq Bundle.tN "SUPPRESSED_SENTINEL" Bundle.listD (zFr O) O.2.2 O.2.2.heap) ∧ (∀ q ∈ zStr, ∃ sa : Nat, vk_R q.1 q.2.1 q.2.2 sa O.2.2) ∧ ∀ q ∈ zNot, va_Nc q.1 q.2 O.2.2
/-- what is given of the law's start -/
def zK (O : zO) (l : Launch) : Prop := l.stackTraces = false ∧ (∀ w ∈ zT2, w.before #[] O.2.2 = true) ∧ va_K O.1 vwCl O.2.1 O.2.2 ∧ zK2 O
/-- where a method stands -/
def zC (O : zO) (p : Program) (l : Launch) (s : State) (m : MethodId) (meth : Method) (c : Code) (own : String) (cc : ByteArray) (nL : Nat) : Prop :=
  p.tables.exec = Jvm.exec ∧ c.code = cc ∧ c.maxLocals = nL ∧ s.vm.findClass own = some m.cls ∧ meth.locks = false ∧ O.2.2.WarmedH s.vm ∧ (O.2.2.heap.size ≤ s.heap.size ∧ ∀ q : Nat, q < O.2.2.heap.size → s.heap[q]? = O.2.2.heap[q]?) ∧ zK O l
section ZC
variable {O : zO} {p : Program} {l : Launch} {s : State} {m : MethodId} {meth : Method} {c : Code} {own : String} {cc : ByteArray} {nL : Nat}
theorem zC.k (C : zC O p l s m meth c own cc nL) : zK O l := C.2.2.2.2.2.2.2
theorem zC.w2 (C : zC O p l s m meth c own cc nL) (args : Array Value) : ∀ w ∈ zT2, w.before args s = true := fun w hw => zgw_at C.2.2.2.2.2.1 (List.mem_filter.mp hw).2 (C.k.2.1 w hw)
theorem zC.w (C : zC O p l s m meth c own cc nL) (args : Array Value) : ∀ w ∈ zT, w.before args s = true := fun w hw => C.w2 args w (zT_2 hw)
theorem zC.t (C : zC O p l s m meth c own cc nL) (t : Nat) {ty : FieldType} (h : ([.int, .long, .boolean, .object RBa] : List FieldType)[t]? = some ty) : (O.2.1[t]?).map (fun q => q.2) = some ty := by
  rw [← List.getElem?_map, C.k.2.2.2.1]; exact h
theorem zC.K (C : zC O p l s m meth c own cc nL) : va_K O.1 vwCl O.2.1 s := va_K.moved C.2.2.2.2.2.1.alike C.k.2.2.1
end ZC
/-- from here on the method goes well: V at pc with the locals ls, the stack st, the heap G, k cells and n slots made -/
def zV (O : zO) (p : Program) (l : Launch) (e : Env) (R : Room) (s : State) (m : MethodId) (args : Array Value) (below : List Frame) (meth : Method) (c : Code) (nL : Nat) (Q : State → Prop) (pc : Nat) (ls : List (Nat × Value)) (st : List Value) (G : zG) (k n : Nat) : Prop :=
  ∀ (H : Heap) (locs : List Loc) (la : Array Slot), lv_has la nL ls → zH O G H → (∀ z ∈ locs, O.2.2.heap.size ≤ z.base) → W p l e R s m args below meth c H locs k n Q (F0 m pc la st)
section ZR
variable {O : zO} {p : Program} {l : Launch} {e : Env} {R : Room} {s : State} {m : MethodId} {args : Array Value} {below : List Frame} {meth : Method} {c : Code} {own : String} {cc : ByteArray} {nL : Nat} {Q : State → Prop} {pc : Nat} {ls : List (Nat × Value)} {st : List Value} {G : zG} {kc ks : Nat}
theorem zv_iconst (C : zC O p l s m meth c own cc nL) {n : Int} {v : Int32} (d : decode cc pc = .ok (.iconst n, 1)) (hv : Int32.ofInt n = v) (kk : zV O p l e R s m args below meth c nL Q (pc + 1) ls (.int v :: st) G kc ks) : zV O p l e R s m args below meth c nL Q pc ls st G kc ks := fun H locs la hl hP hL => lv_iconst C.1 C.2.1 d hv (kk H locs la hl hP hL)
theorem zv_bipush (C : zC O p l s m meth c own cc nL) {n : Int} {v : Int32} (d : decode cc pc = .ok (.bipush n, 2)) (hv : (Int8.ofInt n).toInt32 = v) (kk : zV O p l e R s m args below meth c nL Q (pc + 2) ls (.int v :: st) G kc ks) : zV O p l e R s m args below meth c nL Q pc ls st G kc ks := fun H locs la hl hP hL => lv_bipush C.1 C.2.1 d hv (kk H locs la hl hP hL)
theorem zv_sipush (C : zC O p l s m meth c own cc nL) {n : Int} {v : Int32} (d : decode cc pc = .ok (.sipush n, 3)) (hv : (Int16.ofInt n).toInt32 = v) (kk : zV O p l e R s m args below meth c nL Q (pc + 3) ls (.int v :: st) G kc ks) : zV O p l e R s m args below meth c nL Q pc ls st G kc ks := fun H locs la hl hP hL => lv_sipush C.1 C.2.1 d hv (kk H locs la hl hP hL)
theorem zv_lconst (C : zC O p l s m meth c own cc nL) {n : Fin 2} {v : Int64} (d : decode cc pc = .ok (.lconst n, 1)) (hv : Int64.ofNat (n : Nat) = v) (kk : zV O p l e R s m args below meth c nL Q (pc + 1) ls (.long v :: st) G kc ks) : zV O p l e R s m args below meth c nL Q pc ls st G kc ks := fun H locs la hl hP hL => lv_lconst C.1 C.2.1 d hv (kk H locs la hl hP hL)
theorem zv_ldc (C : zC O p l s m meth c own cc nL) {ix : Nat} {v : Int32} (d : decode cc pc = .ok (.ldc ix, 2)) (w : Cond.constant own ix v ∈ zT) (kk : zV O p l e R s m args below meth c nL Q (pc + 2) ls (.int v :: st) G kc ks) : zV O p l e R s m args below meth c nL Q pc ls st G kc ks := fun H locs la hl hP hL => lv_ldc C.1 C.2.1 C.2.2.2.1 (C.w args _ w) d (kk H locs la hl hP hL)
theorem zv_ldcw (C : zC O p l s m meth c own cc nL) {ix : Nat} {v : Int32} (d : decode cc pc = .ok (.ldc_w ix, 3)) (w : Cond.constant own ix v ∈ zT) (kk : zV O p l e R s m args below meth c nL Q (pc + 3) ls (.int v :: st) G kc ks) : zV O p l e R s m args below meth c nL Q pc ls st G kc ks := fun H locs la hl hP hL => lv_ldcw C.1 C.2.1 C.2.2.2.1 (C.w args _ w) d (kk H locs la hl hP hL)
theorem zv_ldc2 (C : zC O p l s m meth c own cc nL) {ix : Nat} {v : Int64} (d : decode cc pc = .ok (.ldc2_w ix, 3)) (w : Cond.constantLong own ix v ∈ zT) (kk : zV O p l e R s m args below meth c nL Q (pc + 3) ls (.long v :: st) G kc ks) : zV O p l e R s m args below meth c nL Q pc ls st G kc ks := fun H locs la hl hP hL => lv_ldc2 C.1 C.2.1 C.2.2.2.1 (C.w args _ w) d (kk H locs la hl hP hL)
theorem zv_null (C : zC O p l s m meth c own cc nL)  (d : decode cc pc = .ok (.aconst_null, 1)) (kk : zV O p l e R s m args below meth c nL Q (pc + 1) ls (.null :: st) G kc ks) : zV O p l e R s m args below meth c nL Q pc ls st G kc ks := fun H locs la hl hP hL => lv_null C.1 C.2.1 d (kk H locs la hl hP hL)
theorem zv_iload_n (C : zC O p l s m meth c own cc nL) {i : Fin 4} {x : Int32} (d : decode cc pc = .ok (.iload_n i, 1)) (h : ls.lookup (i : Nat) = some (.int x)) (kk : zV O p l e R s m args below meth c nL Q (pc + 1) ls (.int x :: st) G kc ks) : zV O p l e R s m args below meth c nL Q pc ls st G kc ks := fun H locs la hl hP hL => lv_iload_n C.1 C.2.1 d rfl (zl_at hl h) (kk H locs la hl hP hL)
theorem zv_iload (C : zC O p l s m meth c own cc nL) {i : Nat} {x : Int32} (d : decode cc pc = .ok (.iload i, 2)) (h : ls.lookup i = some (.int x)) (kk : zV O p l e R s m args below meth c nL Q (pc + 2) ls (.int x :: st) G kc ks) : zV O p l e R s m args below meth c nL Q pc ls st G kc ks := fun H locs la hl hP hL => lv_iload C.1 C.2.1 d (zl_at hl h) (kk H locs la hl hP hL)
theorem zv_lload_n (C : zC O p l s m meth c own cc nL) {i : Fin 4} {x : Int64} (d : decode cc pc = .ok (.lload_n i, 1)) (h : ls.lookup (i : Nat) = some (.long x)) (kk : zV O p l e R s m args below meth c nL Q (pc + 1) ls (.long x :: st) G kc ks) : zV O p l e R s m args below meth c nL Q pc ls st G kc ks := fun H locs la hl hP hL => lv_lload_n C.1 C.2.1 d rfl (zl_at hl h) (kk H locs la hl hP hL)
theorem zv_lload (C : zC O p l s m meth c own cc nL) {i : Nat} {x : Int64} (d : decode cc pc = .ok (.lload i, 2)) (h : ls.lookup i = some (.long x)) (kk : zV O p l e R s m args below meth c nL Q (pc + 2) ls (.long x :: st) G kc ks) : zV O p l e R s m args below meth c nL Q pc ls st G kc ks := fun H locs la hl hP hL => lv_lload C.1 C.2.1 d (zl_at hl h) (kk H locs la hl hP hL)
theorem zv_aload_n (C : zC O p l s m meth c own cc nL) {i : Fin 4} {x : Nat} (d : decode cc pc = .ok (.aload_n i, 1)) (h : ls.lookup (i : Nat) = some (.ref x)) (kk : zV O p l e R s m args below meth c nL Q (pc + 1) ls (.ref x :: st) G kc ks) : zV O p l e R s m args below meth c nL Q pc ls st G kc ks := fun H locs la hl hP hL => lv_aload_n C.1 C.2.1 d rfl (zl_at hl h) (kk H locs la hl hP hL)
theorem zv_aload (C : zC O p l s m meth c own cc nL) {i : Nat} {x : Nat} (d : decode cc pc = .ok (.aload i, 2)) (h : ls.lookup i = some (.ref x)) (kk : zV O p l e R s m args below meth c nL Q (pc + 2) ls (.ref x :: st) G kc ks) : zV O p l e R s m args below meth c nL Q pc ls st G kc ks := fun H locs la hl hP hL => lv_aload C.1 C.2.1 d (zl_at hl h) (kk H locs la hl hP hL)
theorem zv_aload_nN (C : zC O p l s m meth c own cc nL) {i : Fin 4} (d : decode cc pc = .ok (.aload_n i, 1)) (h : ls.lookup (i : Nat) = some .null) (kk : zV O p l e R s m args below meth c nL Q (pc + 1) ls (.null :: st) G kc ks) : zV O p l e R s m args below meth c nL Q pc ls st G kc ks := fun H locs la hl hP hL => lv_aload_nN C.1 C.2.1 d rfl (zl_at hl h) (kk H locs la hl hP hL)
theorem zv_aloadN (C : zC O p l s m meth c own cc nL) {i : Nat} (d : decode cc pc = .ok (.aload i, 2)) (h : ls.lookup i = some .null) (kk : zV O p l e R s m args below meth c nL Q (pc + 2) ls (.null :: st) G kc ks) : zV O p l e R s m args below meth c nL Q pc ls st G kc ks := fun H locs la hl hP hL => lv_aloadN C.1 C.2.1 d (zl_at hl h) (kk H locs la hl hP hL)
theorem zv_istore_n (C : zC O p l s m meth c own cc nL) {i : Fin 4} {x : Int32} (d : decode cc pc = .ok (.istore_n i, 1)) (hn : (i : Nat) < nL) (kk : zV O p l e R s m args below meth c nL Q (pc + 1) (zs1 ls (i : Nat) (.int x)) st G kc ks) : zV O p l e R s m args below meth c nL Q pc ls (.int x :: st) G kc ks := fun H locs la hl hP hL => lv_istore_n C.1 C.2.1 d rfl hl hn rfl (fun la' hl' => kk H locs la' hl' hP hL)
theorem zv_istore (C : zC O p l s m meth c own cc nL) {i : Nat} {x : Int32} (d : decode cc pc = .ok (.istore i, 2)) (hn : i < nL) (kk : zV O p l e R s m args below meth c nL Q (pc + 2) (zs1 ls i (.int x)) st G kc ks) : zV O p l e R s m args below meth c nL Q pc ls (.int x :: st) G kc ks := fun H locs la hl hP hL => lv_istore C.1 C.2.1 d hl hn rfl (fun la' hl' => kk H locs la' hl' hP hL)
theorem zv_lstore_n (C : zC O p l s m meth c own cc nL) {i : Fin 4} {x : Int64} (d : decode cc pc = .ok (.lstore_n i, 1)) (hn : (i : Nat) + 1 < nL) (kk : zV O p l e R s m args below meth c nL Q (pc + 1) (zs2 ls (i : Nat) (.long x)) st G kc ks) : zV O p l e R s m args below meth c nL Q pc ls (.long x :: st) G kc ks := fun H locs la hl hP hL => lv_lstore_n C.1 C.2.1 d rfl hl hn rfl (fun la' hl' => kk H locs la' hl' hP hL)
theorem zv_lstore (C : zC O p l s m meth c own cc nL) {i : Nat} {x : Int64} (d : decode cc pc = .ok (.lstore i, 2)) (hn : i + 1 < nL) (kk : zV O p l e R s m args below meth c nL Q (pc + 2) (zs2 ls i (.long x)) st G kc ks) : zV O p l e R s m args below meth c nL Q pc ls (.long x :: st) G kc ks := fun H locs la hl hP hL => lv_lstore C.1 C.2.1 d hl hn rfl (fun la' hl' => kk H locs la' hl' hP hL)
theorem zv_astore_n (C : zC O p l s m meth c own cc nL) {i : Fin 4} {x : Nat} (d : decode cc pc = .ok (.astore_n i, 1)) (hn : (i : Nat) < nL) (kk : zV O p l e R s m args below meth c nL Q (pc + 1) (zs1 ls (i : Nat) (.ref x)) st G kc ks) : zV O p l e R s m args below meth c nL Q pc ls (.ref x :: st) G kc ks := fun H locs la hl hP hL => lv_astore_n C.1 C.2.1 d rfl hl hn rfl (fun la' hl' => kk H locs la' hl' hP hL)
theorem zv_astore (C : zC O p l s m meth c own cc nL) {i : Nat} {x : Nat} (d : decode cc pc = .ok (.astore i, 2)) (hn : i < nL) (kk : zV O p l e R s m args below meth c nL Q (pc + 2) (zs1 ls i (.ref x)) st G kc ks) : zV O p l e R s m args below meth c nL Q pc ls (.ref x :: st) G kc ks := fun H locs la hl hP hL => lv_astore C.1 C.2.1 d hl hn rfl (fun la' hl' => kk H locs la' hl' hP hL)
theorem zv_astore_nN (C : zC O p l s m meth c own cc nL) {i : Fin 4} (d : decode cc pc = .ok (.astore_n i, 1)) (hn : (i : Nat) < nL) (kk : zV O p l e R s m args below meth c nL Q (pc + 1) (zs1 ls (i : Nat) .null) st G kc ks) : zV O p l e R s m args below meth c nL Q pc ls (.null :: st) G kc ks := fun H locs la hl hP hL => lv_astore_nN C.1 C.2.1 d rfl hl hn rfl (fun la' hl' => kk H locs la' hl' hP hL)
theorem zv_astoreN (C : zC O p l s m meth c own cc nL) {i : Nat} (d : decode cc pc = .ok (.astore i, 2)) (hn : i < nL) (kk : zV O p l e R s m args below meth c nL Q (pc + 2) (zs1 ls i .null) st G kc ks) : zV O p l e R s m args below meth c nL Q pc ls (.null :: st) G kc ks := fun H locs la hl hP hL => lv_astoreN C.1 C.2.1 d hl hn rfl (fun la' hl' => kk H locs la' hl' hP hL)
theorem zv_iadd (C : zC O p l s m meth c own cc nL) {x y : Int32} (d : decode cc pc = .ok (.iadd, 1)) (kk : zV O p l e R s m args below meth c nL Q (pc + 1) ls (.int (x + y) :: st) G kc ks) : zV O p l e R s m args below meth c nL Q pc ls (.int y :: .int x :: st) G kc ks := fun H locs la hl hP hL => lv_iadd C.1 C.2.1 d (kk H locs la hl hP hL)
theorem zv_isub (C : zC O p l s m meth c own cc nL) {x y : Int32} (d : decode cc pc = .ok (.isub, 1)) (kk : zV O p l e R s m args below meth c nL Q (pc + 1) ls (.int (x - y) :: st) G kc ks) : zV O p l e R s m args below meth c nL Q pc ls (.int y :: .int x :: st) G kc ks := fun H locs la hl hP hL => lv_isub C.1 C.2.1 d (kk H locs la hl hP hL)
theorem zv_imul (C : zC O p l s m meth c own cc nL) {x y : Int32} (d : decode cc pc = .ok (.imul, 1)) (kk : zV O p l e R s m args below meth c nL Q (pc + 1) ls (.int (x * y) :: st) G kc ks) : zV O p l e R s m args below meth c nL Q pc ls (.int y :: .int x :: st) G kc ks := fun H locs la hl hP hL => lv_imul C.1 C.2.1 d (kk H locs la hl hP hL)
theorem zv_iand (C : zC O p l s m meth c own cc nL) {x y : Int32} (d : decode cc pc = .ok (.iand, 1)) (kk : zV O p l e R s m args below meth c nL Q (pc + 1) ls (.int (x &&& y) :: st) G kc ks) : zV O p l e R s m args below meth c nL Q pc ls (.int y :: .int x :: st) G kc ks := fun H locs la hl hP hL => lv_iand C.1 C.2.1 d (kk H locs la hl hP hL)
theorem zv_ior (C : zC O p l s m meth c own cc nL) {x y : Int32} (d : decode cc pc = .ok (.ior, 1)) (kk : zV O p l e R s m args below meth c nL Q (pc + 1) ls (.int (x ||| y) :: st) G kc ks) : zV O p l e R s m args below meth c nL Q pc ls (.int y :: .int x :: st) G kc ks := fun H locs la hl hP hL => lv_ior C.1 C.2.1 d (kk H locs la hl hP hL)
theorem zv_ixor (C : zC O p l s m meth c own cc nL) {x y : Int32} (d : decode cc pc = .ok (.ixor, 1)) (kk : zV O p l e R s m args below meth c nL Q (pc + 1) ls (.int (x ^^^ y) :: st) G kc ks) : zV O p l e R s m args below meth c nL Q pc ls (.int y :: .int x :: st) G kc ks := fun H locs la hl hP hL => lv_ixor C.1 C.2.1 d (kk H locs la hl hP hL)
theorem zv_ladd (C : zC O p l s m meth c own cc nL) {x y : Int64} (d : decode cc pc = .ok (.ladd, 1)) (kk : zV O p l e R s m args below meth c nL Q (pc + 1) ls (.long (x + y) :: st) G kc ks) : zV O p l e R s m args below meth c nL Q pc ls (.long y :: .long x :: st) G kc ks := fun H locs la hl hP hL => lv_ladd C.1 C.2.1 d (kk H locs la hl hP hL)
theorem zv_lsub (C : zC O p l s m meth c own cc nL) {x y : Int64} (d : decode cc pc = .ok (.lsub, 1)) (kk : zV O p l e R s m args below meth c nL Q (pc + 1) ls (.long (x - y) :: st) G kc ks) : zV O p l e R s m args below meth c nL Q pc ls (.long y :: .long x :: st) G kc ks := fun H locs la hl hP hL => lv_lsub C.1 C.2.1 d (kk H locs la hl hP hL)
theorem zv_lmul (C : zC O p l s m meth c own cc nL) {x y : Int64} (d : decode cc pc = .ok (.lmul, 1)) (kk : zV O p l e R s m args below meth c nL Q (pc + 1) ls (.long (x * y) :: st) G kc ks) : zV O p l e R s m args below meth c nL Q pc ls (.long y :: .long x :: st) G kc ks := fun H locs la hl hP hL => lv_lmul C.1 C.2.1 d (kk H locs la hl hP hL)
theorem zv_idiv (C : zC O p l s m meth c own cc nL) {x y : Int32} (d : decode cc pc = .ok (.idiv, 1)) (hne : ¬ y = 0) (kk : zV O p l e R s m args below meth c nL Q (pc + 1) ls (.int (x / y) :: st) G kc ks) : zV O p l e R s m args below meth c nL Q pc ls (.int y :: .int x :: st) G kc ks := fun H locs la hl hP hL => lv_idiv C.1 C.2.1 d hne (kk H locs la hl hP hL)
theorem zv_irem (C : zC O p l s m meth c own cc nL) {x y : Int32} (d : decode cc pc = .ok (.irem, 1)) (hne : ¬ y = 0) (kk : zV O p l e R s m args below meth c nL Q (pc + 1) ls (.int (x - x / y * y) :: st) G kc ks) : zV O p l e R s m args below meth c nL Q pc ls (.int y :: .int x :: st) G kc ks := fun H locs la hl hP hL => lv_irem C.1 C.2.1 d hne (kk H locs la hl hP hL)
theorem zv_ldiv (C : zC O p l s m meth c own cc nL) {x y : Int64} (d : decode cc pc = .ok (.ldiv, 1)) (hne : ¬ y = 0) (kk : zV O p l e R s m args below meth c nL Q (pc + 1) ls (.long (x / y) :: st) G kc ks) : zV O p l e R s m args below meth c nL Q pc ls (.long y :: .long x :: st) G kc ks := fun H locs la hl hP hL => lv_ldiv C.1 C.2.1 d hne (kk H locs la hl hP hL)
theorem zv_lrem (C : zC O p l s m meth c own cc nL) {x y : Int64} (d : decode cc pc = .ok (.lrem, 1)) (hne : ¬ y = 0) (kk : zV O p l e R s m args below meth c nL Q (pc + 1) ls (.long (x - x / y * y) :: st) G kc ks) : zV O p l e R s m args below meth c nL Q pc ls (.long y :: .long x :: st) G kc ks := fun H locs la hl hP hL => lv_lrem C.1 C.2.1 d hne (kk H locs la hl hP hL)
theorem zv_ineg (C : zC O p l s m meth c own cc nL) {x : Int32} (d : decode cc pc = .ok (.ineg, 1)) (kk : zV O p l e R s m args below meth c nL Q (pc + 1) ls (.int (-x) :: st) G kc ks) : zV O p l e R s m args below meth c nL Q pc ls (.int x :: st) G kc ks := fun H locs la hl hP hL => lv_ineg C.1 C.2.1 d (kk H locs la hl hP hL)
theorem zv_lneg (C : zC O p l s m meth c own cc nL) {x : Int64} (d : decode cc pc = .ok (.lneg, 1)) (kk : zV O p l e R s m args below meth c nL Q (pc + 1) ls (.long (-x) :: st) G kc ks) : zV O p l e R s m args below meth c nL Q pc ls (.long x :: st) G kc ks := fun H locs la hl hP hL => lv_lneg C.1 C.2.1 d (kk H locs la hl hP hL)
theorem zv_i2l (C : zC O p l s m meth c own cc nL) {x : Int32} (d : decode cc pc = .ok (.i2l, 1)) (kk : zV O p l e R s m args below meth c nL Q (pc + 1) ls (.long x.toInt64 :: st) G kc ks) : zV O p l e R s m args below meth c nL Q pc ls (.int x :: st) G kc ks := fun H locs la hl hP hL => lv_i2l C.1 C.2.1 d rfl (kk H locs la hl hP hL)
theorem zv_l2i (C : zC O p l s m meth c own cc nL) {x : Int64} (d : decode cc pc = .ok (.l2i, 1)) (kk : zV O p l e R s m args below meth c nL Q (pc + 1) ls (.int x.toInt32 :: st) G kc ks) : zV O p l e R s m args below meth c nL Q pc ls (.long x :: st) G kc ks := fun H locs la hl hP hL => lv_l2i C.1 C.2.1 d rfl (kk H locs la hl hP hL)
theorem zv_lcmp (C : zC O p l s m meth c own cc nL) {x y : Int64} (d : decode cc pc = .ok (.lcmp, 1)) (kk : zV O p l e R s m args below meth c nL Q (pc + 1) ls (.int (lg_cmp x y) :: st) G kc ks) : zV O p l e R s m args below meth c nL Q pc ls (.long y :: .long x :: st) G kc ks := fun H locs la hl hP hL => W.lcmp C.1 C.2.1 d (kk H locs la hl hP hL)
theorem zv_dup (C : zC O p l s m meth c own cc nL) {v : Value} (d : decode cc pc = .ok (.dup, 1)) (hv : v.category = 1) (kk : zV O p l e R s m args below meth c nL Q (pc + 1) ls (v :: v :: st) G kc ks) : zV O p l e R s m args below meth c nL Q pc ls (v :: st) G kc ks := fun H locs la hl hP hL => lv_dup C.1 C.2.1 d hv (kk H locs la hl hP hL)
theorem zv_pop (C : zC O p l s m meth c own cc nL) {v : Value} (d : decode cc pc = .ok (.pop, 1)) (hv : v.category = 1) (kk : zV O p l e R s m args below meth c nL Q (pc + 1) ls st G kc ks) : zV O p l e R s m args below meth c nL Q pc ls (v :: st) G kc ks := fun H locs la hl hP hL => lv_pop C.1 C.2.1 d hv (kk H locs la hl hP hL)
theorem zv_pop2 (C : zC O p l s m meth c own cc nL) {v : Value} (d : decode cc pc = .ok (.pop2, 1)) (hv : v.category = 2) (kk : zV O p l e R s m args below meth c nL Q (pc + 1) ls st G kc ks) : zV O p l e R s m args below meth c nL Q pc ls (v :: st) G kc ks := fun H locs la hl hP hL => lv_pop2_2 C.1 C.2.1 d hv (kk H locs la hl hP hL)
theorem zv_dup_x1 (C : zC O p l s m meth c own cc nL) {v w : Value} (d : decode cc pc = .ok (.dup_x1, 1)) (hv : v.category = 1) (hw : w.category = 1) (kk : zV O p l e R s m args below meth c nL Q (pc + 1) ls (v :: w :: v :: st) G kc ks) : zV O p l e R s m args below meth c nL Q pc ls (v :: w :: st) G kc ks := fun H locs la hl hP hL => lv_dup_x1 C.1 C.2.1 d hv hw (kk H locs la hl hP hL)
theorem zv_dup_x2 (C : zC O p l s m meth c own cc nL) {v w u : Value} (d : decode cc pc = .ok (.dup_x2, 1)) (hv : v.category = 1) (hw : w.category = 1) (hu : u.category = 1) (kk : zV O p l e R s m args below meth c nL Q (pc + 1) ls (v :: w :: u :: v :: st) G kc ks) : zV O p l e R s m args below meth c nL Q pc ls (v :: w :: u :: st) G kc ks := fun H locs la hl hP hL => lv_dup_x2 C.1 C.2.1 d hv hw hu (kk H locs la hl hP hL)
theorem zv_dup2 (C : zC O p l s m meth c own cc nL) {v w : Value} (d : decode cc pc = .ok (.dup2, 1)) (hv : v.category = 1) (hw : w.category = 1) (kk : zV O p l e R s m args below meth c nL Q (pc + 1) ls (v :: w :: v :: w :: st) G kc ks) : zV O p l e R s m args below meth c nL Q pc ls (v :: w :: st) G kc ks := fun H locs la hl hP hL => lv_dup2_11 C.1 C.2.1 d hv hw (kk H locs la hl hP hL)
theorem zv_dup2l (C : zC O p l s m meth c own cc nL) {v : Value} (d : decode cc pc = .ok (.dup2, 1)) (hv : v.category = 2) (kk : zV O p l e R s m args below meth c nL Q (pc + 1) ls (v :: v :: st) G kc ks) : zV O p l e R s m args below meth c nL Q pc ls (v :: st) G kc ks := fun H locs la hl hP hL => lv_dup2_2 C.1 C.2.1 d hv (kk H locs la hl hP hL)
theorem zv_if_eq (C : zC O p l s m meth c own cc nL) {x : Int32} {off : Int} {tgt : Nat} (d : decode cc pc = .ok (.ifCond .eq off, 3)) (ht : (pc : Int) + off = (tgt : Int)) (kt : x = 0 → zV O p l e R s m args below meth c nL Q tgt ls st G kc ks) (kf : ¬ x = 0 → zV O p l e R s m args below meth c nL Q (pc + 3) ls st G kc ks) : zV O p l e R s m args below meth c nL Q pc ls (.int x :: st) G kc ks := fun H locs la hl hP hL => lv_if_eq C.1 C.2.1 d ht (fun h => kt h H locs la hl hP hL) (fun h => kf h H locs la hl hP hL)
theorem zv_icmp_eq (C : zC O p l s m meth c own cc nL) {x y : Int32} {off : Int} {tgt : Nat} (d : decode cc pc = .ok (.if_icmp .eq off, 3)) (ht : (pc : Int) + off = (tgt : Int)) (kt : x = y → zV O p l e R s m args below meth c nL Q tgt ls st G kc ks) (kf : ¬ x = y → zV O p l e R s m args below meth c nL Q (pc + 3) ls st G kc ks) : zV O p l e R s m args below meth c nL Q pc ls (.int y :: .int x :: st) G kc ks := fun H locs la hl hP hL => lv_icmp_eq C.1 C.2.1 d ht (fun h => kt h H locs la hl hP hL) (fun h => kf h H locs la hl hP hL)
theorem zv_if_ne (C : zC O p l s m meth c own cc nL) {x : Int32} {off : Int} {tgt : Nat} (d : decode cc pc = .ok (.ifCond .ne off, 3)) (ht : (pc : Int) + off = (tgt : Int)) (kt : ¬ x = 0 → zV O p l e R s m args below meth c nL Q tgt ls st G kc ks) (kf : x = 0 → zV O p l e R s m args below meth c nL Q (pc + 3) ls st G kc ks) : zV O p l e R s m args below meth c nL Q pc ls (.int x :: st) G kc ks := fun H locs la hl hP hL => lv_if_ne C.1 C.2.1 d ht (fun h => kt h H locs la hl hP hL) (fun h => kf h H locs la hl hP hL)
theorem zv_icmp_ne (C : zC O p l s m meth c own cc nL) {x y : Int32} {off : Int} {tgt : Nat} (d : decode cc pc = .ok (.if_icmp .ne off, 3)) (ht : (pc : Int) + off = (tgt : Int)) (kt : ¬ x = y → zV O p l e R s m args below meth c nL Q tgt ls st G kc ks) (kf : x = y → zV O p l e R s m args below meth c nL Q (pc + 3) ls st G kc ks) : zV O p l e R s m args below meth c nL Q pc ls (.int y :: .int x :: st) G kc ks := fun H locs la hl hP hL => lv_icmp_ne C.1 C.2.1 d ht (fun h => kt h H locs la hl hP hL) (fun h => kf h H locs la hl hP hL)
theorem zv_if_lt (C : zC O p l s m meth c own cc nL) {x : Int32} {off : Int} {tgt : Nat} (d : decode cc pc = .ok (.ifCond .lt off, 3)) (ht : (pc : Int) + off = (tgt : Int)) (kt : x < 0 → zV O p l e R s m args below meth c nL Q tgt ls st G kc ks) (kf : ¬ x < 0 → zV O p l e R s m args below meth c nL Q (pc + 3) ls st G kc ks) : zV O p l e R s m args below meth c nL Q pc ls (.int x :: st) G kc ks := fun H locs la hl hP hL => lv_if_lt C.1 C.2.1 d ht (fun h => kt h H locs la hl hP hL) (fun h => kf h H locs la hl hP hL)
theorem zv_icmp_lt (C : zC O p l s m meth c own cc nL) {x y : Int32} {off : Int} {tgt : Nat} (d : decode cc pc = .ok (.if_icmp .lt off, 3)) (ht : (pc : Int) + off = (tgt : Int)) (kt : x < y → zV O p l e R s m args below meth c nL Q tgt ls st G kc ks) (kf : ¬ x < y → zV O p l e R s m args below meth c nL Q (pc + 3) ls st G kc ks) : zV O p l e R s m args below meth c nL Q pc ls (.int y :: .int x :: st) G kc ks := fun H locs la hl hP hL => lv_icmp_lt C.1 C.2.1 d ht (fun h => kt h H locs la hl hP hL) (fun h => kf h H locs la hl hP hL)
theorem zv_if_ge (C : zC O p l s m meth c own cc nL) {x : Int32} {off : Int} {tgt : Nat} (d : decode cc pc = .ok (.ifCond .ge off, 3)) (ht : (pc : Int) + off = (tgt : Int)) (kt : 0 ≤ x → zV O p l e R s m args below meth c nL Q tgt ls st G kc ks) (kf : ¬ 0 ≤ x → zV O p l e R s m args below meth c nL Q (pc + 3) ls st G kc ks) : zV O p l e R s m args below meth c nL Q pc ls (.int x :: st) G kc ks := fun H locs la hl hP hL => lv_if_ge C.1 C.2.1 d ht (fun h => kt h H locs la hl hP hL) (fun h => kf h H locs la hl hP hL)
theorem zv_icmp_ge (C : zC O p l s m meth c own cc nL) {x y : Int32} {off : Int} {tgt : Nat} (d : decode cc pc = .ok (.if_icmp .ge off, 3)) (ht : (pc : Int) + off = (tgt : Int)) (kt : y ≤ x → zV O p l e R s m args below meth c nL Q tgt ls st G kc ks) (kf : ¬ y ≤ x → zV O p l e R s m args below meth c nL Q (pc + 3) ls st G kc ks) : zV O p l e R s m args below meth c nL Q pc ls (.int y :: .int x :: st) G kc ks := fun H locs la hl hP hL => lv_icmp_ge C.1 C.2.1 d ht (fun h => kt h H locs la hl hP hL) (fun h => kf h H locs la hl hP hL)
theorem zv_if_gt (C : zC O p l s m meth c own cc nL) {x : Int32} {off : Int} {tgt : Nat} (d : decode cc pc = .ok (.ifCond .gt off, 3)) (ht : (pc : Int) + off = (tgt : Int)) (kt : 0 < x → zV O p l e R s m args below meth c nL Q tgt ls st G kc ks) (kf : ¬ 0 < x → zV O p l e R s m args below meth c nL Q (pc + 3) ls st G kc ks) : zV O p l e R s m args below meth c nL Q pc ls (.int x :: st) G kc ks := fun H locs la hl hP hL => lv_if_gt C.1 C.2.1 d ht (fun h => kt h H locs la hl hP hL) (fun h => kf h H locs la hl hP hL)
theorem zv_icmp_gt (C : zC O p l s m meth c own cc nL) {x y : Int32} {off : Int} {tgt : Nat} (d : decode cc pc = .ok (.if_icmp .gt off, 3)) (ht : (pc : Int) + off = (tgt : Int)) (kt : y < x → zV O p l e R s m args below meth c nL Q tgt ls st G kc ks) (kf : ¬ y < x → zV O p l e R s m args below meth c nL Q (pc + 3) ls st G kc ks) : zV O p l e R s m args below meth c nL Q pc ls (.int y :: .int x :: st) G kc ks := fun H locs la hl hP hL => lv_icmp_gt C.1 C.2.1 d ht (fun h => kt h H locs la hl hP hL) (fun h => kf h H locs la hl hP hL)
theorem zv_if_le (C : zC O p l s m meth c own cc nL) {x : Int32} {off : Int} {tgt : Nat} (d : decode cc pc = .ok (.ifCond .le off, 3)) (ht : (pc : Int) + off = (tgt : Int)) (kt : x ≤ 0 → zV O p l e R s m args below meth c nL Q tgt ls st G kc ks) (kf : ¬ x ≤ 0 → zV O p l e R s m args below meth c nL Q (pc + 3) ls st G kc ks) : zV O p l e R s m args below meth c nL Q pc ls (.int x :: st) G kc ks := fun H locs la hl hP hL => lv_if_le C.1 C.2.1 d ht (fun h => kt h H locs la hl hP hL) (fun h => kf h H locs la hl hP hL)
theorem zv_icmp_le (C : zC O p l s m meth c own cc nL) {x y : Int32} {off : Int} {tgt : Nat} (d : decode cc pc = .ok (.if_icmp .le off, 3)) (ht : (pc : Int) + off = (tgt : Int)) (kt : x ≤ y → zV O p l e R s m args below meth c nL Q tgt ls st G kc ks) (kf : ¬ x ≤ y → zV O p l e R s m args below meth c nL Q (pc + 3) ls st G kc ks) : zV O p l e R s m args below meth c nL Q pc ls (.int y :: .int x :: st) G kc ks := fun H locs la hl hP hL => lv_icmp_le C.1 C.2.1 d ht (fun h => kt h H locs la hl hP hL) (fun h => kf h H locs la hl hP hL)
theorem zv_goto (C : zC O p l s m meth c own cc nL) {off : Int} {tgt : Nat} (d : decode cc pc = .ok (.goto off, 3)) (ht : (pc : Int) + off = (tgt : Int)) (kk : zV O p l e R s m args below meth c nL Q tgt ls st G kc ks) : zV O p l e R s m args below meth c nL Q pc ls st G kc ks := fun H locs la hl hP hL => lv_goto C.1 C.2.1 d ht (kk H locs la hl hP hL)
theorem zv_ifnull (C : zC O p l s m meth c own cc nL) {x : Nat} {off : Int} (d : decode cc pc = .ok (.ifnull off, 3)) (kk : zV O p l e R s m args below meth c nL Q (pc + 3) ls st G kc ks) : zV O p l e R s m args below meth c nL Q pc ls (.ref x :: st) G kc ks := fun H locs la hl hP hL => lv_ifnull C.1 C.2.1 d (kk H locs la hl hP hL)
theorem zv_ifnullN (C : zC O p l s m meth c own cc nL) {off : Int} {tgt : Nat} (d : decode cc pc = .ok (.ifnull off, 3)) (ht : (pc : Int) + off = (tgt : Int)) (kk : zV O p l e R s m args below meth c nL Q tgt ls st G kc ks) : zV O p l e R s m args below meth c nL Q pc ls (.null :: st) G kc ks := fun H locs la hl hP hL => lv_ifnullN C.1 C.2.1 d ht (kk H locs la hl hP hL)
theorem zv_ifnonnull (C : zC O p l s m meth c own cc nL) {x : Nat} {off : Int} {tgt : Nat} (d : decode cc pc = .ok (.ifnonnull off, 3)) (ht : (pc : Int) + off = (tgt : Int)) (kk : zV O p l e R s m args below meth c nL Q tgt ls st G kc ks) : zV O p l e R s m args below meth c nL Q pc ls (.ref x :: st) G kc ks := fun H locs la hl hP hL => lv_ifnonnull C.1 C.2.1 d ht (kk H locs la hl hP hL)
theorem zv_ifnonnullN (C : zC O p l s m meth c own cc nL) {off : Int} (d : decode cc pc = .ok (.ifnonnull off, 3)) (kk : zV O p l e R s m args below meth c nL Q (pc + 3) ls st G kc ks) : zV O p l e R s m args below meth c nL Q pc ls (.null :: st) G kc ks := fun H locs la hl hP hL => lv_ifnonnullN C.1 C.2.1 d (kk H locs la hl hP hL)
theorem zv_tabOut (C : zC O p l s m meth c own cc nL) {dflt lo hi : Int} {offs : Array Int} {len : Nat} {x : Int32} {tgt : Nat} (d : decode cc pc = .ok (.tableswitch dflt lo hi offs, len)) (h : x.toInt < lo ∨ hi < x.toInt) (ht : (pc : Int) + dflt = (tgt : Int)) (kk : zV O p l e R s m args below meth c nL Q tgt ls st G kc ks) : zV O p l e R s m args below meth c nL Q pc ls (.int x :: st) G kc ks := fun H locs la hl hP hL => lv_tableOut C.1 C.2.1 d h ht (kk H locs la hl hP hL)
theorem zv_tabIn (C : zC O p l s m meth c own cc nL) {dflt lo hi : Int} {offs : Array Int} {len : Nat} {x : Int32} {off : Int} {tgt : Nat} (d : decode cc pc = .ok (.tableswitch dflt lo hi offs, len)) (h1 : ¬ x.toInt < lo) (h2 : ¬ hi < x.toInt) (ho : offs[(x.toInt - lo).toNat]? = some off) (ht : (pc : Int) + off = (tgt : Int)) (kk : zV O p l e R s m args below meth c nL Q tgt ls st G kc ks) : zV O p l e R s m args below meth c nL Q pc ls (.int x :: st) G kc ks := fun H locs la hl hP hL => lv_tableIn C.1 C.2.1 d h1 h2 ho ht (kk H locs la hl hP hL)
theorem zv_lookup (C : zC O p l s m meth c own cc nL) {dflt : Int} {ps : Array (Int × Int)} {len : Nat} {x : Int32} {off : Int} {tgt : Nat} (d : decode cc pc = .ok (.lookupswitch dflt ps, len)) (hp : (ps.toList.zip (ps.toList.drop 1)).all (fun (a, next) => a.1 < next.1) = true) (ho : Op.lookupswitch.offset ps.toList dflt x.toInt = off) (ht : (pc : Int) + off = (tgt : Int)) (kk : zV O p l e R s m args below meth c nL Q tgt ls st G kc ks) : zV O p l e R s m args below meth c nL Q pc ls (.int x :: st) G kc ks := fun H locs la hl hP hL => lv_lookup C.1 C.2.1 d hp ho ht (kk H locs la hl hP hL)
theorem zv_iinc (C : zC O p l s m meth c own cc nL) {i : Nat} {n : Int} {x v : Int32} (d : decode cc pc = .ok (.iinc i n, 3)) (h : ls.lookup i = some (.int x)) (hv : x + Int32.ofInt n = v) (hn : i < nL) (kk : zV O p l e R s m args below meth c nL Q (pc + 3) (zs1 ls i (.int v)) st G kc ks) : zV O p l e R s m args below meth c nL Q pc ls st G kc ks := fun H locs la hl hP hL => by
  obtain ⟨k, hk⟩ := List.getElem?_of_mem (zl_mem h)
  exact lv_iinc C.1 C.2.1 d hl hk hv hn rfl (fun la' hl' => kk H locs la' hl' hP hL)
theorem zv_pick {l' : List (Nat × Value)} (is : List Nat) (h : zpk ls is = some l') (kk : zV O p l e R s m args below meth c nL Q pc l' st G kc ks) : zV O p l e R s m args below meth c nL Q pc ls st G kc ks := fun H locs la hl hP hL => kk H locs la (zpk_has hl is h) hP hL
theorem zv_widen {k n : Nat} (h1 : kc ≤ k) (h2 : ks ≤ n) (kk : zV O p l e R s m args below meth c nL Q pc ls st G k n) : zV O p l e R s m args below meth c nL Q pc ls st G kc ks := fun H locs la hl hP hL => W.widen h1 h2 (kk H locs la hl hP hL)
/-- less is known of the heap -/
theorem zv_less {G' : zG} (h : ∀ a x, G' a = some x → G a = some x) (kk : zV O p l e R s m args below meth c nL Q pc ls st G' kc ks) : zV O p l e R s m args below meth c nL Q pc ls st G kc ks := fun H locs la hl hP hL => kk H locs la hl ⟨hP.1, hP.2.1, fun a x hx => hP.2.2 a x (h a x hx)⟩ hL
/-- a field that an instruction names -/
def zF (own : String) (ix ci k : Nat) (Cn : String) (T : u_T) (N : Nat) : Prop := vwCl[ci]? = some (Cn, T, N) ∧ k < N ∧ (∀ w ∈ u_ws Cn T N, w ∈ zT) ∧ Cond.fieldLink own ix (T k).1 (T k).2.1 (T k).2.2.1 ∈ zT
def zFw (T : u_T) (N : Nat) (ty : Nat → FieldType) : Prop := (∀ k, k < N → parseFieldDescriptor (T k).2.2.1 = some (ty k)) ∧ (∀ a, a < N → ∀ b, b < N → a ≠ b → (T a).2.1 ≠ (T b).2.1)
theorem zv_get (C : zC O p l s m meth c own cc nL) {ix ci k N a : Nat} {Cn : String} {T : u_T} {fs : List Value} {v : Value} (d : decode cc pc = .ok (.getfield ix, 3)) (F : zF own ix ci k Cn T N) (hG : G a = some (.inr (ci, fs))) (hv : fs[k]? = some v) (kk : zV O p l e R s m args below meth c nL Q (pc + 3) ls (v :: st) G kc ks) : zV O p l e R s m args below meth c nL Q pc ls (.ref a :: st) G kc ks := fun H locs la hl hP hL =>
  va_get C.1 C.2.1 (C.w args) F.2.2.1 C.2.2.2.1 C.K (hP.one hG) 0 rfl F.1 k F.2.1 (C.w args _ F.2.2.2) (fun _ h => h) hv d (kk H locs la hl hP hL)
theorem zL_in {O : zO} {locs : List Loc} {a i : Nat} (hL : ∀ z ∈ locs, O.2.2.heap.size ≤ z.base) (ha : O.2.2.heap.size ≤ a) : ∀ z ∈ locs ++ [(⟨a, i⟩ : Loc)], O.2.2.heap.size ≤ z.base := by
  intro z hz
  rcases List.mem_append.mp hz with h | h
  · exact hL z h
  · rw [List.mem_singleton.mp h]; exact ha
theorem zv_put (C : zC O p l s m meth c own cc nL) {ix ci k N a : Nat} {Cn : String} {T : u_T} {ty0 : Nat → FieldType} {fs : List Value} {v : Value} {ty : FieldType} (d : decode cc pc = .ok (.putfield ix, 3)) (F : zF own ix ci k Cn T N) (F2 : zFw T N ty0) (hG : G a = some (.inr (ci, fs))) (hfin : (T k).2.2.2 = false) (hd : parseFieldDescriptor (T k).2.2.1 = some ty) (hn : narrow ty v = v) (hfit : fits ty v = true) (hlen : k < fs.length) (kk : zV O p l e R s m args below meth c nL Q (pc + 3) ls st (zu G a (.inr (ci, fs.set k v))) kc ks) : zV O p l e R s m args below meth c nL Q pc ls (v :: .ref a :: st) G kc ks := fun H locs la hl hP hL => by
  obtain ⟨hc, hk, hin, hlink⟩ := F
  obtain ⟨hty, hnm⟩ := F2
  have hts := C.w args
  have hK := C.K
  have hap := va_apart (own := own) hts hin ty0 hty hnm hK hc
  obtain ⟨r, h1, cell, q1, q2, q3, q4⟩ := (hP.2.2 a _ hG).2
  have hr : r = (Cn, T, N) := Option.some.inj (h1.symm.trans hc)
  subst hr
  obtain ⟨hS, hfc, kC, hkC, hkind⟩ := hK.1 ci _ hc
  obtain ⟨cf, kf, fi, f, hi, hsl⟩ := hS k hk
  have hlay := hts _ (hin _ (u_in_lay hk))
  unfold u_lay at hlay
  rw [if_neg (by rw [hfin]; decide)] at hlay
  have hst := (u_facts hfc hkC (u_lays hts hin hk) hi).1
  have h6 := u_store hfc hkC hkind hlay hi hd hn hfit
  refine W.putK C.1 C.2.1 (f := f) ⟨C.2.2.2.1, hts _ hlink, ⟨_, _, _, hi⟩, hst⟩ (by rw [q2]; exact h6) q1 q3 (by rw [hsl]; exact k2_hasslot (q4 k hk)) rfl rfl d fun H' e1 e2 e3 => ?_
  rw [hsl] at e1 ⊢
  exact kk H' _ la hl (hP.set hG ⟨_, hc, t_OB.to (V := updV (vp_V fs) k v) ⟨_, e1, q2, q3, t_set q4 hap hk v⟩ (fun j _ => vp_updV_set hlen v j)⟩ e2 e3) (zL_in hL (hP.2.2 a _ hG).1)
theorem zv_putF (C : zC O p l s m meth c own cc nL) {ix ci k N a : Nat} {Cn : String} {T : u_T} {ty0 : Nat → FieldType} {fs : List Value} {v : Value} {ty : FieldType} (d : decode cc pc = .ok (.putfield ix, 3)) (F : zF own ix ci k Cn T N) (F2 : zFw T N ty0) (hin2 : meth.name = "<init>") (hG : G a = some (.inr (ci, fs))) (hfin : (T k).2.2.2 = true) (hdecl : (T k).1 = own) (hd : parseFieldDescriptor (T k).2.2.1 = some ty) (hn : narrow ty v = v) (hfit : fits ty v = true) (hlen : k < fs.length) (kk : zV O p l e R s m args below meth c nL Q (pc + 3) ls st (zu G a (.inr (ci, fs.set k v))) kc ks) : zV O p l e R s m args below meth c nL Q pc ls (v :: .ref a :: st) G kc ks := fun H locs la hl hP hL => by
  obtain ⟨hc, hk, hin, hlink⟩ := F
  obtain ⟨hty, hnm⟩ := F2
  have hts := C.w args
  have hK := C.K
  have hown := C.2.2.2.1
  have hap := va_apart (own := own) hts hin ty0 hty hnm hK hc
  obtain ⟨r, h1, cell, q1, q2, q3, q4⟩ := (hP.2.2 a _ hG).2
  have hr : r = (Cn, T, N) := Option.some.inj (h1.symm.trans hc)
  subst hr
  obtain ⟨hS, hfc, kC, hkC, hkind⟩ := hK.1 ci _ hc
  obtain ⟨cf, kf, fi, f, hi, hsl⟩ := hS k hk
  have hlay := hts _ (hin _ (u_in_lay hk))
  unfold u_lay at hlay
  rw [if_pos hfin] at hlay
  have hst := (u_facts hfc hkC (u_lays hts hin hk) hi).1
  have hcf : m.cls = cf := by
    obtain ⟨_, _, c', _, _, _, -, -, hf', -, -, -, hown2, -⟩ := Cond.laysFinal_spec hlay
    have e1 : c' = cf := by have := hi.symm.trans hf'; simp at this; exact this.1.symm
    rw [hdecl] at hown2
    rw [← e1]; exact Option.some.inj (hown.symm.trans hown2)
  have h6 := u_fits hfc hkC hkind (Or.inr hlay) hi hd hn hfit
  refine W.putFinK C.1 C.2.1 hown (hts _ hlink) hi hst hcf hin2 (by rw [q2]; exact h6) q1 q3 (by rw [hsl]; exact k2_hasslot (q4 k hk)) rfl rfl d fun H' e1 e2 e3 => ?_
  rw [hsl] at e1 ⊢
  exact kk H' _ la hl (hP.set hG ⟨_, hc, t_OB.to (V := updV (vp_V fs) k v) ⟨_, e1, q2, q3, t_set q4 hap hk v⟩ (fun j _ => vp_updV_set hlen v j)⟩ e2 e3) (zL_in hL (hP.2.2 a _ hG).1)
/-- arrays: of ints, of longs, of booleans, of references -/
def zA (O : zO) (t : Nat) : ClassId := ((O.2.1[t]?).map (fun q => q.1)).getD 0
def zI (O : zO) (n : Nat) (f : Nat → Int32) : va_E := .inl (zA O 0, n, .inl f)
def zJ (O : zO) (n : Nat) (f : Nat → Int64) : va_E := .inl (zA O 1, n, .inr (.inl f))
def zB (O : zO) (n : Nat) (f : Nat → Int32) : va_E := .inl (zA O 2, n, .inl f)
def zQ (O : zO) (t n : Nat) (f : Nat → Option Nat) : va_E := .inl (zA O t, n, .inr (.inr (.inr (.inr f))))
theorem zA_at {O : zO} {t : Nat} {ty : FieldType} (h : (O.2.1[t]?).map (fun q => q.2) = some ty) : O.2.1[t]? = some (zA O t, ty) := by
  cases hq : O.2.1[t]? with
  | none => rw [hq] at h; cases h
  | some q =>
    rw [hq] at h
    simp only [Option.map_some, Option.some.injEq] at h
    simp [zA, hq, ← h]
theorem zv_iald (C : zC O p l s m meth c own cc nL) {a n : Nat} {f : Nat → Int32} {i : Int32} (d : decode cc pc = .ok (.iaload, 1)) (hG : G a = some (zI O n f)) (hin : vp_in i n) (kk : zV O p l e R s m args below meth c nL Q (pc + 1) ls (.int (f i.toNatClampNeg) :: st) G kc ks) : zV O p l e R s m args below meth c nL Q pc ls (.int i :: .ref a :: st) G kc ks := fun H locs la hl hP hL =>
  va_iald C.1 C.2.1 C.K (hP.one hG) 0 0 rfl (zA_at (C.t 0 rfl)) hin d (kk H locs la hl hP hL)
theorem zv_lald (C : zC O p l s m meth c own cc nL) {a n : Nat} {f : Nat → Int64} {i : Int32} (d : decode cc pc = .ok (.laload, 1)) (hG : G a = some (zJ O n f)) (hin : vp_in i n) (kk : zV O p l e R s m args below meth c nL Q (pc + 1) ls (.long (f i.toNatClampNeg) :: st) G kc ks) : zV O p l e R s m args below meth c nL Q pc ls (.int i :: .ref a :: st) G kc ks := fun H locs la hl hP hL =>
  va_lald C.1 C.2.1 C.K (hP.one hG) 0 1 rfl (zA_at (C.t 1 rfl)) hin d (kk H locs la hl hP hL)
theorem zv_zald (C : zC O p l s m meth c own cc nL) {a n : Nat} {f : Nat → Int32} {i : Int32} (d : decode cc pc = .ok (.baload, 1)) (hG : G a = some (zB O n f)) (hin : vp_in i n) (kk : zV O p l e R s m args below meth c nL Q (pc + 1) ls (.int (f i.toNatClampNeg) :: st) G kc ks) : zV O p l e R s m args below meth c nL Q pc ls (.int i :: .ref a :: st) G kc ks := fun H locs la hl hP hL =>
  va_zald C.1 C.2.1 C.K (hP.one hG) 0 2 rfl (zA_at (C.t 2 rfl)) hin d (kk H locs la hl hP hL)
theorem zv_aald (C : zC O p l s m meth c own cc nL) {a n : Nat} {f : Nat → Option Nat} {i : Int32} (d : decode cc pc = .ok (.aaload, 1)) (hG : G a = some (zQ O 3 n f)) (hin : vp_in i n) (kk : zV O p l e R s m args below meth c nL Q (pc + 1) ls (va_rf (f i.toNatClampNeg) :: st) G kc ks) : zV O p l e R s m args below meth c nL Q pc ls (.int i :: .ref a :: st) G kc ks := fun H locs la hl hP hL =>
  va_aldq C.1 C.2.1 C.K (hP.one hG) 0 3 rfl (zA_at (C.t 3 rfl)) hin d (kk H locs la hl hP hL)
theorem zv_alen (C : zC O p l s m meth c own cc nL) {a : Nat} {x : vp_A} (t : Nat) {ty : FieldType} {v : Int32} (d : decode cc pc = .ok (.arraylength, 1)) (ht : (O.2.1[t]?).map (fun q => q.2) = some ty) (hG : G a = some (.inl (zA O t, x))) (hv : Int32.ofNat x.1 = v) (kk : zV O p l e R s m args below meth c nL Q (pc + 1) ls (.int v :: st) G kc ks) : zV O p l e R s m args below meth c nL Q pc ls (.ref a :: st) G kc ks := fun H locs la hl hP hL =>
  va_alen C.1 C.2.1 C.K (hP.one hG) 0 t rfl (zA_at ht) hv d (kk H locs la hl hP hL)
theorem zv_iast (C : zC O p l s m meth c own cc nL) {a n : Nat} {f : Nat → Int32} {i x : Int32} (d : decode cc pc = .ok (.iastore, 1)) (hG : G a = some (zI O n f)) (hin : vp_in i n) (kk : zV O p l e R s m args below meth c nL Q (pc + 1) ls st (zu G a (zI O n (upd f i.toNatClampNeg x))) kc ks) : zV O p l e R s m args below meth c nL Q pc ls (.int x :: .int i :: .ref a :: st) G kc ks := fun H locs la hl hP hL => by
  refine W.iast C.1 C.2.1 (hP.2.2 a _ hG).2 ((C.K.2 0 _ (zA_at (C.t 0 rfl))).1 n (fun j => .int (f j))) (fun q => by cases q) (by show ¬ (i < 0 ∨ (arrV _ _ _).slots.size ≤ _); rw [arrV_size]; exact hin) rfl rfl d fun H1 e z oq => ?_
  refine kk H1 _ la hl (hP.set hG ?_ z oq) (zL_in hL (hP.2.2 a _ hG).1)
  show H1[a]? = some (vp_cell _ _)
  rw [e]
  rw [vp_cell_i, vp_cell_i, arrV_store]
  congr 2
  funext q
  by_cases hq : q = i.toNatClampNeg
  · subst hq
    simp [updV, upd]
  · simp [updV, upd, hq]
theorem zv_last (C : zC O p l s m meth c own cc nL) {a n : Nat} {f : Nat → Int64} {i : Int32} {x : Int64} (d : decode cc pc = .ok (.lastore, 1)) (hG : G a = some (zJ O n f)) (hin : vp_in i n) (kk : zV O p l e R s m args below meth c nL Q (pc + 1) ls st (zu G a (zJ O n (vp_updL f i.toNatClampNeg x))) kc ks) : zV O p l e R s m args below meth c nL Q pc ls (.long x :: .int i :: .ref a :: st) G kc ks := fun H locs la hl hP hL => by
  refine W.last C.1 C.2.1 (hP.2.2 a _ hG).2 ((C.K.2 1 _ (zA_at (C.t 1 rfl))).1 n (fun j => .long (f j))) (fun q => by cases q) (by show ¬ (i < 0 ∨ (arrV _ _ _).slots.size ≤ _); rw [arrV_size]; exact hin) rfl rfl d fun H1 e z oq => ?_
  refine kk H1 _ la hl (hP.set hG ?_ z oq) (zL_in hL (hP.2.2 a _ hG).1)
  show H1[a]? = some (vp_cell _ _)
  rw [e]
  rw [vp_cell_l, vp_cell_l, arrV_store]
  congr 2
  funext q
  by_cases hq : q = i.toNatClampNeg
  · subst hq
    simp [updV, vp_updL]
  · simp [updV, vp_updL, hq]
theorem zv_aast (C : zC O p l s m meth c own cc nL) {a n v : Nat} {vs : List Value} {f : Nat → Option Nat} {i : Int32} (d : decode cc pc = .ok (.aastore, 1)) (hG : G a = some (zQ O 3 n f)) (hv : G v = some (.inr (0, vs))) (hin : vp_in i n) (kk : zV O p l e R s m args below meth c nL Q (pc + 1) ls st (zu G a (zQ O 3 n (va_up f i.toNatClampNeg (some v)))) kc ks) : zV O p l e R s m args below meth c nL Q pc ls (.ref v :: .int i :: .ref a :: st) G kc ks := fun H locs la hl hP hL => by
  have hlt : i.toNatClampNeg < n := Nat.not_le.mp fun q => hin (Or.inr q)
  have h0 : ¬ i < 0 := fun q => hin (Or.inl q)
  obtain ⟨r', hr', cellV, g1, g2, g3, -⟩ := (hP.2.2 v _ hv).2
  have hcls := (C.K.1 0 (RBa, TBa, 9) rfl).2
  obtain ⟨kA, comp, k1, k2, k3, -⟩ := (C.K.2 3 _ (zA_at (C.t 3 rfl))).2
  have hcomp : comp = O.1.1 0 := Option.some.inj (k3.symm.trans hcls.1)
  subst hcomp
  obtain ⟨kC, hkC, -⟩ := hcls.2
  refine W.aast C.1 C.2.1 (hP.2.2 a _ hG).2 (fun q h => by cases h) (fun h => by cases h) k1 k2 rfl hkC ⟨h0, by show _ < (arrV _ _ _).slots.size; rw [arrV_size]; exact hlt⟩ g1 (fun q h => by rw [g3] at h; cases h) (by rw [g2]; exact hkC) (by rw [g2]; exact va_assign hcls) rfl rfl d fun H1 e z oq => ?_
  refine kk H1 _ la hl (hP.set hG ?_ z oq) (zL_in hL (hP.2.2 a _ hG).1)
  show H1[a]? = some (vp_cell _ _)
  rw [e]
  rw [vp_cell_q, vp_cell_q, arrV_store]
  congr 2
  funext q
  by_cases hq : q = i.toNatClampNeg
  · subst hq
    simp [updV, va_up, va_rf]
  · simp [updV, va_up, hq]
/-- what 'new' names -/
def zN (own : String) (ix ci : Nat) (Cn : String) (T : u_T) (N : Nat) : Prop := vwCl[ci]? = some (Cn, T, N) ∧ (∀ w ∈ u_ws Cn T N, w ∈ zT) ∧ Cond.classLink own ix Cn ∈ zT ∧ Cond.instantiable Cn N ∈ zT ∧ Cond.initialized Cn ∈ zT
theorem zv_new (C : zC O p l s m meth c own cc nL) {ix ci N : Nat} {Cn : String} {T : u_T} {ty : Nat → FieldType} {fs : List Value} (d : decode cc pc = .ok (.new ix, 3)) (F : zN own ix ci Cn T N) (hty : ∀ k, k < N → parseFieldDescriptor (T k).2.2.1 = some (ty k)) (hfs : ∀ j, j < N → defaultValue (ty j) = vp_V fs j) (hcells : kc + 1 ≤ R.cells) (hslots : ks + N ≤ R.slots) (kk : ∀ q : Nat, G q = none → zV O p l e R s m args below meth c nL Q (pc + 3) ls (.ref q :: st) (zu G q (.inr (ci, fs))) (kc + 1) (ks + N)) : zV O p l e R s m args below meth c nL Q pc ls st G kc ks := fun H locs la hl hP hL => by
  obtain ⟨hc, hin, w1, w2, w3⟩ := F
  have hts := C.w args
  have hKn := C.K.1 ci _ hc
  refine W.newcK C.1 C.2.1 C.2.2.2.1 (hts _ w1) (hts _ w2) (hts _ w3) rfl d hcells hslots hKn.2.1 rfl fun H1 kC hkC e1 z1 o1 => ?_
  obtain ⟨hn, hP1⟩ := hP.push (e := .inr (ci, fs)) ⟨_, hc, (u_born ty hts hin hKn hkC e1 hty).to hfs⟩ z1 o1
  exact kk _ hn H1 locs la hl hP1 hL
theorem zv_newa (C : zC O p l s m meth c own cc nL) (t : Nat) {atype : ArrayType} {ty : FieldType} {n : Int32} {N : Nat} {a0 : vp_A} (d : decode cc pc = .ok (.newarray atype, 2)) (hty : newarray.typeOf atype = ty) (w : Cond.arrayClass (newarray.typeOf atype) ∈ zT) (ht : ([.int, .long, .boolean, .object RBa] : List FieldType)[t]? = some ty) (hR : ∀ cA : ClassId, s.vm.findClass ("[" ++ ty.toString) = some cA → va_RA s (zA O t) ty → cA = zA O t) (ha : ∀ cA : ClassId, vp_cell cA a0 = arrV cA N (fun _ => defaultValue ty)) (hn : ¬ n < 0) (hN : n.toNatClampNeg = N) (hbytes : N * componentBytes ty ≤ 536870912) (hcells : kc + 1 ≤ R.cells) (hslots : ks + N ≤ R.slots) (kk : ∀ q : Nat, G q = none → zV O p l e R s m args below meth c nL Q (pc + 2) ls (.ref q :: st) (zu G q (.inl (zA O t, a0))) (kc + 1) (ks + N)) : zV O p l e R s m args below meth c nL Q pc ls (.int n :: st) G kc ks := fun H locs la hl hP hL => by
  subst hty
  refine va_newaK C.1 C.2.1 (C.w args _ w) rfl d rfl hn hN hbytes hcells hslots rfl fun H1 cA e1 z1 o1 hAr hNm => ?_
  have hc := hR cA hNm (C.K.2 t _ (zA_at (C.t t ht))).2
  subst hc
  obtain ⟨hn1, hP1⟩ := hP.push (e := .inl (zA O t, a0)) (show H1[H.size]? = some (vp_cell _ _) by rw [ha]; exact e1) z1 o1
  exact kk _ hn1 H1 locs la hl hP1 hL
theorem zv_anew (C : zC O p l s m meth c own cc nL) {ix : Nat} {n : Int32} {N : Nat} (d : decode cc pc = .ok (.anewarray ix, 3)) (w : Cond.classLink own ix RBa ∈ zT) (hn : ¬ n < 0) (hN : n.toNatClampNeg = N) (hbytes : N * 4 ≤ 536870912) (hcells : kc + 1 ≤ R.cells) (hslots : ks + N ≤ R.slots) (kk : ∀ q : Nat, G q = none → zV O p l e R s m args below meth c nL Q (pc + 3) ls (.ref q :: st) (zu G q (zQ O 3 N (fun _ => none))) (kc + 1) (ks + N)) : zV O p l e R s m args below meth c nL Q pc ls (.int n :: st) G kc ks := fun H locs la hl hP hL => by
  subst hN
  refine W.anew C.1 C.2.1 C.2.2.2.1 (C.w args _ w) (va_AO.use (va_AO.moved C.2.2.2.2.2.1.alike C.k.2.2.2.2.1)) rfl d rfl hn hbytes hcells hslots fun cA kA comp f1 f2 f3 f4 => ?_
  generalize hH1 : H.push ({ cls := cA, slots := Array.replicate n.toNatClampNeg .null, vm := .none } : Cell) = H1
  have z1 : H1.size = H.size + 1 := by rw [← hH1, Array.size_push]
  have e1 : H1[H.size]? = some (arrV cA n.toNatClampNeg (fun _ => .null)) := by rw [← hH1, Array.getElem?_push_size, ← arrV_new]
  have o1 : ∀ q : Nat, q < H.size → H1[q]? = H[q]? := fun q hq => by rw [← hH1, Array.getElem?_push, if_neg (Nat.ne_of_lt hq)]
  obtain ⟨kA2, comp2, g1, g2, g3, g4⟩ := (C.K.2 3 _ (zA_at (C.t 3 rfl))).2
  have hc : cA = zA O 3 := Option.some.inj (f1.symm.trans g4)
  subst hc
  obtain ⟨hn1, hP1⟩ := hP.push (e := zQ O 3 n.toNatClampNeg (fun _ => none)) (show H1[H.size]? = some (vp_cell _ _) by rw [vp_cell_q]; exact e1) z1 o1
  exact kk _ hn1 H1 locs la hl hP1 hL
theorem zv_newI (C : zC O p l s m meth c own cc nL) {n : Int32} (N : Nat) (d : decode cc pc = .ok (.newarray .int, 2)) (w : Cond.arrayClass .int ∈ zT) (hn : ¬ n < 0) (hN : n.toNatClampNeg = N) (hbytes : N * 4 ≤ 536870912) (hcells : kc + 1 ≤ R.cells) (hslots : ks + N ≤ R.slots) (kk : ∀ q : Nat, G q = none → zV O p l e R s m args below meth c nL Q (pc + 2) ls (.ref q :: st) (zu G q (zI O N (fun _ => 0))) (kc + 1) (ks + N)) : zV O p l e R s m args below meth c nL Q pc ls (.int n :: st) G kc ks :=
  zv_newa C 0 d rfl w rfl (fun cA h1 h2 => Option.some.inj (h1.symm.trans h2)) (a0 := (N, .inl (fun _ => 0))) (fun cA => by rw [vp_cell_i]; rfl) hn hN hbytes hcells hslots kk
theorem zv_newJ (C : zC O p l s m meth c own cc nL) {n : Int32} (N : Nat) (d : decode cc pc = .ok (.newarray .long, 2)) (w : Cond.arrayClass .long ∈ zT) (hn : ¬ n < 0) (hN : n.toNatClampNeg = N) (hbytes : N * 8 ≤ 536870912) (hcells : kc + 1 ≤ R.cells) (hslots : ks + N ≤ R.slots) (kk : ∀ q : Nat, G q = none → zV O p l e R s m args below meth c nL Q (pc + 2) ls (.ref q :: st) (zu G q (zJ O N (fun _ => 0))) (kc + 1) (ks + N)) : zV O p l e R s m args below meth c nL Q pc ls (.int n :: st) G kc ks :=
  zv_newa C 1 d rfl w rfl (fun cA h1 h2 => Option.some.inj (h1.symm.trans h2)) (a0 := (N, .inr (.inl (fun _ => 0)))) (fun cA => by rw [vp_cell_l]; rfl) hn hN hbytes hcells hslots kk
theorem zv_newB (C : zC O p l s m meth c own cc nL) {n : Int32} (N : Nat) (d : decode cc pc = .ok (.newarray .boolean, 2)) (w : Cond.arrayClass .boolean ∈ zT) (hn : ¬ n < 0) (hN : n.toNatClampNeg = N) (hbytes : N * 1 ≤ 536870912) (hcells : kc + 1 ≤ R.cells) (hslots : ks + N ≤ R.slots) (kk : ∀ q : Nat, G q = none → zV O p l e R s m args below meth c nL Q (pc + 2) ls (.ref q :: st) (zu G q (zB O N (fun _ => 0))) (kc + 1) (ks + N)) : zV O p l e R s m args below meth c nL Q pc ls (.int n :: st) G kc ks :=
  zv_newa C 2 d rfl w rfl (fun cA h1 h2 => Option.some.inj (h1.symm.trans h2)) (a0 := (N, .inl (fun _ => 0))) (fun cA => by rw [vp_cell_i]; rfl) hn hN hbytes hcells hslots kk
theorem zv_zast (C : zC O p l s m meth c own cc nL) {a n : Nat} {f : Nat → Int32} {i x : Int32} (d : decode cc pc = .ok (.bastore, 1)) (hG : G a = some (zB O n f)) (hin : vp_in i n) (kk : zV O p l e R s m args below meth c nL Q (pc + 1) ls st (zu G a (zB O n (upd f i.toNatClampNeg (vp_nar .boolean x)))) kc ks) : zV O p l e R s m args below meth c nL Q pc ls (.int x :: .int i :: .ref a :: st) G kc ks := fun H locs la hl hP hL => by
  refine W.zast C.1 C.2.1 (hP.2.2 a _ hG).2 ((C.K.2 2 _ (zA_at (C.t 2 rfl))).1 n (fun j => .int (f j))) (fun q => by cases q) (by show ¬ (i < 0 ∨ (arrV _ _ _).slots.size ≤ _); rw [arrV_size]; exact hin) rfl rfl d fun H1 e z oq => ?_
  refine kk H1 _ la hl (hP.set hG ?_ z oq) (zL_in hL (hP.2.2 a _ hG).1)
  show H1[a]? = some (vp_cell _ _)
  rw [e]
  rw [vp_cell_i, vp_cell_i, arrV_store]
  congr 2
  funext q
  by_cases hq : q = i.toNatClampNeg
  · subst hq
    simp [updV, upd]
    rfl
  · simp [updV, upd, hq]
theorem zv_objInit (C : zC O p l s m meth c own cc nL) {ix a : Nat} (d : decode cc pc = .ok (.invokespecial ix, 3)) (w1 : Cond.methodLink own ix Lib.objectInit ∈ zT) (w2 : Cond.instanceMethod Lib.objectInit ∈ zT) (w3 : Cond.code Lib.objectInit ⟨#[0xb1]⟩ 1 none ∈ zT) (hframes : 1 ≤ R.frames) (hlocals : (st.map fun v => v.category).sum + 12 ≤ R.locals) (kk : zV O p l e R s m args below meth c nL Q (pc + 3) ls st G kc ks) : zV O p l e R s m args below meth c nL Q pc ls (.ref a :: st) G kc ks := fun H locs la hl hP hL => by
  refine W.objInit C.1 C.2.1 C.2.2.2.1 (C.w args _ w1) (C.w args _ w2) (C.w args _ w3) rfl (by rw [C.2.2.1]; exact hl.1) rfl d hframes (by show 2 * 0 + _ + 12 ≤ _; omega) ?_
  exact kk H locs la hl hP hL
theorem zv_mmaxl (C : zC O p l s m meth c own cc nL) {ix : Nat} {x y : Int64} (d : decode cc pc = .ok (.invokestatic ix, 3)) (w1 : Cond.methodLink own ix Lib.MathLoose.max_long.x ∈ zT) (w2 : Cond.static Lib.MathLoose.max_long.x ∈ zT) (w3 : Cond.initialized "java/lang/Math" ∈ zT) (w4 : Cond.code Lib.MathLoose.max_long.x Lib.MathLoose.max_long.code 4 (some .long) ∈ zT) (hframes : 1 ≤ R.frames) (hlocals : (st.map fun v => v.category).sum + 15 ≤ R.locals) (hc : kc ≤ R.cells) (hs : ks ≤ R.slots) (kk : zV O p l e R s m args below meth c nL Q (pc + 3) ls (.long (if y < x then x else y) :: st) G kc ks) : zV O p l e R s m args below meth c nL Q pc ls (.long y :: .long x :: st) G kc ks := fun H locs la hl hP hL =>
  va_mmax_long C.1 C.2.1 (C.2.2.1.trans hl.1.symm) C.2.2.2.1 (C.w args _ w1) (C.w args _ w2) (C.w args _ w3) (C.w args _ w4) hframes hlocals hc hs d (kk H locs la hl hP hL)
theorem zv_mabsl (C : zC O p l s m meth c own cc nL) {ix : Nat} {x : Int64} (d : decode cc pc = .ok (.invokestatic ix, 3)) (w1 : Cond.methodLink own ix Lib.MathLoose.abs_long.x ∈ zT) (w2 : Cond.static Lib.MathLoose.abs_long.x ∈ zT) (w3 : Cond.initialized "java/lang/Math" ∈ zT) (w4 : Cond.code Lib.MathLoose.abs_long.x Lib.MathLoose.abs_long.code 2 (some .long) ∈ zT) (hframes : 1 ≤ R.frames) (hlocals : (st.map fun v => v.category).sum + 13 ≤ R.locals) (hc : kc ≤ R.cells) (hs : ks ≤ R.slots) (kk : zV O p l e R s m args below meth c nL Q (pc + 3) ls (.long (if 0 < x then x else -x) :: st) G kc ks) : zV O p l e R s m args below meth c nL Q pc ls (.long x :: st) G kc ks := fun H locs la hl hP hL =>
  va_mabs_long C.1 C.2.1 (C.2.2.1.trans hl.1.symm) C.2.2.2.1 (C.w args _ w1) (C.w args _ w2) (C.w args _ w3) (C.w args _ w4) hframes hlocals hc hs d (kk H locs la hl hP hL)
end ZR
/-- a method's contract over the ghost heap: it returns with Q, or throws with X -/
def zQc (O : zO) (Qm : Option Value → zG → Prop) : Array Value → State → Outcome → State → Prop := fun _ _ o t => ∃ (v : Option Value) (G' : zG), o = .returned v ∧ Qm v G' ∧ zH O G' t.heap
def zXc (O : zO) (Xm : String → zG → Prop) : String → State → State → Prop := fun E _ t => ∃ G' : zG, Xm E G' ∧ zH O G' t.heap
def zPc (O : zO) (av : List Value) (G : zG) : Array Value → State → Prop := va_Pc av (fun U => O.2.2.WarmedH U.vm ∧ zH O G U.heap)
def zM (O : zO) (l : Launch) (y : MethodName) (ws : List Cond) (rm : Room) (av : List Value) (G : zG) (mc ms : Nat) (Qm : Option Value → zG → Prop) (Xm : String → zG → Prop) : Prop := vx_Met l y ws rm (zPc O av G) (zQc O Qm) (zXc O Xm) mc ms (zFr O)
/-- what a body owes at its end -/
def zE (O : zO) (below : List Frame) (Qm : Option Value → zG → Prop) (Xm : String → zG → Prop) (args : Array Value) (s : State) (mc ms : Nat) : State → Prop := vx_MQ below (zQc O Qm) (zXc O Xm) args s mc ms (zFr O)
theorem zPc_blind {O : zO} {av : List Value} {G : zG} : FrameBlind (zPc O av G) := fun _ _ _ _ h => ⟨h.1, h.2.1, h.2.2⟩
theorem zm_of {O : zO} {l : Launch} {y : MethodName} {cc : ByteArray} {maxL : Nat} {ret : Option FieldType} {rm : Room} {av : List Value} {G : zG} {mc ms : Nat} {Qm : Option Value → zG → Prop} {Xm : String → zG → Prop} (hk : zK O l) (hy : plainName y.cls = true) (hlen : (lg_sl av).length ≤ maxL)
    (body : ∀ (p : Program) (e : Env) (s : State) (m : MethodId) (below : List Frame) (meth : Method) (c : Code), zC O p l s m meth c y.cls cc maxL → (∀ x ∈ c.exceptionTable.toList, False) → meth.sig.returnType = ret → meth.name = y.name →
      zV O p l e rm s m av.toArray below meth c maxL (zE O below Qm Xm av.toArray s mc ms) 0 (lv_args 0 av) [] G 0 0) : zM O l y [Cond.code y cc maxL ret] rm av G mc ms Qm Xm := by
  refine vx_ofW (cc := cc) (maxL := maxL) (ret := ret) (ws' := []) hy rfl ?_
  intro p e s m as below meth c s₁ B hml hex hv
  obtain ⟨rfl, hW, hP⟩ := hv
  have C : zC O p l s m meth c y.cls cc maxL := ⟨B.exec, B.bytes, hml, findClass_of_methodNamed B.named, B.notSynchronized, hW, ⟨hP.1, hP.2.1⟩, hk⟩
  rw [lg_entry_eq]
  exact body p e s m below meth c C hex B.returns (name_of_methodNamed B.named B.method).1 s.heap [] _ (lv_entry av hlen) hP (fun z hz => by cases hz)
/-- a thrown object lies over the frame -/
def zVX (O : zO) (p : Program) (l : Launch) (e : Env) (R : Room) (s : State) (m : MethodId) (args : Array Value) (below : List Frame) (meth : Method) (c : Code) (nL : Nat) (Q : State → Prop) (pc : Nat) (ls : List (Nat × Value)) (st : List Value) (G : zG) (k n : Nat) (E : String) : Prop :=
  ∀ (H : Heap) (locs : List Loc) (la : Array Slot) (q : Addr) (ce : Cell), lv_has la nL ls → zH O G H → (∀ z ∈ locs, O.2.2.heap.size ≤ z.base) → H[q]? = some ce → ce.vm = .none → s.vm.findClass E = some ce.cls → vx_W p l e R s m args below meth c H locs k n Q (F0 m pc la st) q
section ZQ
variable {O : zO} {p : Program} {l : Launch} {e : Env} {R : Room} {s : State} {m : MethodId} {args : Array Value} {below : List Frame} {meth : Method} {c : Code} {own : String} {cc : ByteArray} {nL : Nat} {Q : State → Prop} {pc : Nat} {ls : List (Nat × Value)} {st st0 : List Value} {G : zG} {kc ks mc ms : Nat} {Qm : Option Value → zG → Prop} {Xm : String → zG → Prop}
theorem zv_iret (C : zC O p l s m meth c own cc nL) {v : Int32} (hr : meth.sig.returnType = some .int) (d : decode cc pc = .ok (.ireturn, 1)) (h1 : kc ≤ mc) (h2 : ks ≤ ms) (hq : Qm (some (.int v)) G) : zV O p l e R s m args below meth c nL (zE O below Qm Xm args s mc ms) pc ls [.int v] G kc ks := fun H locs la hl hP hL => by
  refine vx_ret (W.widen h1 h2 ?_)
  exact W.iret C.1 C.2.1 hr (fun t ht hW => ⟨_, G, rfl, hq, by rw [ht]; exact hP⟩) hL d C.2.2.2.2.1
theorem zv_zret (C : zC O p l s m meth c own cc nL) {v : Int32} {ty : FieldType} (hr : meth.sig.returnType = some ty) (hn : narrow ty (.int v) = .int v) (d : decode cc pc = .ok (.ireturn, 1)) (h1 : kc ≤ mc) (h2 : ks ≤ ms) (hq : Qm (some (.int v)) G) : zV O p l e R s m args below meth c nL (zE O below Qm Xm args s mc ms) pc ls [.int v] G kc ks := fun H locs la hl hP hL => by
  refine vx_ret (W.widen h1 h2 ?_)
  exact W.zret C.1 C.2.1 hr hn (fun t ht hW => ⟨_, G, rfl, hq, by rw [ht]; exact hP⟩) hL d C.2.2.2.2.1
theorem zv_lret (C : zC O p l s m meth c own cc nL) {v : Int64} (hr : meth.sig.returnType = some .long) (d : decode cc pc = .ok (.lreturn, 1)) (h1 : kc ≤ mc) (h2 : ks ≤ ms) (hq : Qm (some (.long v)) G) : zV O p l e R s m args below meth c nL (zE O below Qm Xm args s mc ms) pc ls [.long v] G kc ks := fun H locs la hl hP hL => by
  refine vx_ret (W.widen h1 h2 ?_)
  exact W.lret C.1 C.2.1 hr (fun t ht hW => ⟨_, G, rfl, hq, by rw [ht]; exact hP⟩) hL d C.2.2.2.2.1
theorem zv_aret (C : zC O p l s m meth c own cc nL) {v : Value} {rt : FieldType} (hr : meth.sig.returnType = some rt) (hrt : (∃ n, rt = .object n) ∨ ∃ t, rt = .array t) (hv : v = .null ∨ ∃ a, v = .ref a) (d : decode cc pc = .ok (.areturn, 1)) (h1 : kc ≤ mc) (h2 : ks ≤ ms) (hq : Qm (some v) G) : zV O p l e R s m args below meth c nL (zE O below Qm Xm args s mc ms) pc ls [v] G kc ks := fun H locs la hl hP hL => by
  refine vx_ret (W.widen h1 h2 ?_)
  exact W.aret C.1 C.2.1 hr hrt hv (fun t ht hW => ⟨_, G, rfl, hq, by rw [ht]; exact hP⟩) hL d C.2.2.2.2.1
theorem zv_vret (C : zC O p l s m meth c own cc nL) (hr : meth.sig.returnType = none) (d : decode cc pc = .ok (.return_, 1)) (h1 : kc ≤ mc) (h2 : ks ≤ ms) (hq : Qm none G) : zV O p l e R s m args below meth c nL (zE O below Qm Xm args s mc ms) pc ls [] G kc ks := fun H locs la hl hP hL => by
  refine vx_ret (W.widen h1 h2 ?_)
  exact W.vret C.1 C.2.1 hr (fun t ht hW => ⟨_, G, rfl, hq, by rw [ht]; exact hP⟩) hL d C.2.2.2.2.1
theorem zx_out (C : zC O p l s m meth c own cc nL) {E : String} (hex : ∀ x ∈ c.exceptionTable.toList, False) (h1 : kc ≤ mc) (h2 : ks ≤ ms) (hx : Xm E G) : zVX O p l e R s m args below meth c nL (zE O below Qm Xm args s mc ms) pc ls st G kc ks E := fun H locs la q ce hl hP hL hce hcv hcl =>
  vx_out (fun x hx => (hex x hx).elim) C.2.2.2.2.1 hce hcv hcl (fun t ht _ => ⟨G, hx, by rw [ht]; exact hP⟩) hL h1 h2
theorem zL_app {locs L : List Loc} (hL : ∀ z ∈ locs, O.2.2.heap.size ≤ z.base) (h : ∀ z ∈ L, zFr O z.base) : ∀ z ∈ locs ++ L, O.2.2.heap.size ≤ z.base := fun z hz => (List.mem_append.mp hz).elim (hL z) (h z)
variable {mC mS : Nat} {Qn : Option Value → zG → Prop} {Xn : String → zG → Prop} {a9 : Array Value}
/-- a call has been run -/
theorem zv_ran (hr : ∀ (H : Heap) (locs : List Loc) (la : Array Slot), lv_has la nL ls → zH O G H → vx_Run p l e R s m args below meth c H locs kc ks mC mS (F0 m pc la st0) st (zQc O Qn a9) (zXc O Xn) (zFr O))
    (kx : ∀ (E : String) (G' : zG), Xn E G' → zVX O p l e R s m args below meth c nL Q pc ls st G' (kc + mC) (ks + mS) E)
    (kk : ∀ (v : Option Value) (G' : zG), Qn v G' → zV O p l e R s m args below meth c nL Q (pc + 3) ls (v.toList ++ st) G' (kc + mC) (ks + mS)) : zV O p l e R s m args below meth c nL Q pc ls st0 G kc ks := fun H locs la hl hP hL => by
  intro T hT X
  rcases hr H locs la hl hP T hT X with ⟨v, st₀, t, T', L, h0, X', hL', e1, e2, ⟨v', G', hv, hq, hH⟩, st⟩ | ⟨q, st₀, t, T', L, E, ce, h0, X', hL', e1, e2, ⟨G', hx, hH⟩, hce, hcv, hcl, st⟩
  · cases hv
    obtain ⟨t2, a1, b1⟩ := kk v G' hq T'.heap (locs ++ L) la hl (by rw [e1]; exact hH) (zL_app hL hL') T' rfl X'
    exact ⟨t2, st t2 a1, b1⟩
  · obtain ⟨t2, a1, b1⟩ := kx E G' hx T'.heap (locs ++ L) la q ce hl (by rw [e1]; exact hH) (zL_app hL hL') (by rw [e1]; exact hce) hcv hcl T' rfl X'
    exact ⟨t2, st.trans a1, b1⟩
/-- .. of a method that doesn't throw -/
theorem zv_ranN (hr : ∀ (H : Heap) (locs : List Loc) (la : Array Slot), lv_has la nL ls → zH O G H → va_Run p l e R s m args below meth c H locs kc ks mC mS (F0 m pc la st0) st (zQc O Qn a9) (zFr O))
    (kk : ∀ (v : Option Value) (G' : zG), Qn v G' → zV O p l e R s m args below meth c nL Q (pc + 3) ls (v.toList ++ st) G' (kc + mC) (ks + mS)) : zV O p l e R s m args below meth c nL Q pc ls st0 G kc ks := fun H locs la hl hP hL => by
  intro T hT X
  obtain ⟨v, st₀, t, T', L, h0, X', hL', e1, e2, ⟨v', G', hv, hq, hH⟩, st⟩ := hr H locs la hl hP T hT X
  cases hv
  obtain ⟨t2, a1, b1⟩ := kk v G' hq T'.heap (locs ++ L) la hl (by rw [e1]; exact hH) (zL_app hL hL') T' rfl X'
  exact ⟨t2, st t2 a1, b1⟩
variable {y : MethodName} {cy : ByteArray} {maxL n ix : Nat} {ret : Option FieldType} {rm : Room} {As : List Value} {b : Nat}
theorem zC.fix (C : zC O p l s m meth c own cc nL) (args : Array Value) : CallFix p m c cc nL s args zT own := ⟨C.1, C.2.1, C.2.2.1, C.2.2.2.1, C.w args⟩
theorem zC.pre (C : zC O p l s m meth c own cc nL) {H : Heap} (hP : zH O G H) : PreS s H (zPc O As G) As := ⟨zPc_blind, fun _ hU hW => ⟨rfl, State.WarmedH.trans C.2.2.2.2.2.1 hW, by rw [hU]; exact hP⟩⟩
theorem zC.preV (C : zC O p l s m meth c own cc nL) {H : Heap} (hP : zH O G H) {ci : Nat} {fs : List Value} {r : vw_C} (hG : G b = some (.inr (ci, fs))) (hc : vwCl[ci]? = some r) : PreV s H r.1 b (zPc O (.ref b :: As) G) As := ⟨zPc_blind, va_recv C.K (hP.one hG) hc (q0 := 0) rfl, fun _ hU hW => ⟨rfl, State.WarmedH.trans C.2.2.2.2.2.1 hW, by rw [hU]; exact hP⟩⟩
/-- room and number of parameters -/
def zRm (R rm : Room) (y : MethodName) (maxL mC mS n : Nat) : Prop := rm.cells = mC ∧ rm.slots = mS ∧ (rm.frames + 1 ≤ R.frames ∧ 8 + (maxL + 11) + rm.locals ≤ R.locals) ∧ (y.cls ≠ "java/lang/invoke/MethodHandle" ∧ y.cls ≠ "java/lang/invoke/VarHandle" ∧ (parseMethodDescriptor y.desc).map (fun d => d.parameters.length) = some n)
theorem zv_callV (C : zC O p l s m meth c own cc nL) (d : decode cc pc = .ok (.invokevirtual ix, 3)) (hM : zM O l y [Cond.code y cy maxL ret] rm (.ref b :: As) G mC mS Qn Xn) (hw : ∀ w ∈ wsV own ix y.cls y [Cond.code y cy maxL ret], w ∈ zT) (hr : zRm R rm y maxL mC mS n) (hn : As.length = n) (hst : st0 = As.reverse ++ .ref b :: st) (hcat : (st.map fun v => v.category).sum ≤ 8)
    {ci : Nat} {fs : List Value} {r : vw_C} (hG : G b = some (.inr (ci, fs))) (hc : vwCl[ci]? = some r) (hrc : r.1 = y.cls) (hf : kc + mC ≤ R.cells ∧ ks + mS ≤ R.slots)
    (kx : ∀ (E : String) (G' : zG), Xn E G' → zVX O p l e R s m args below meth c nL Q pc ls st G' (kc + mC) (ks + mS) E)
    (kk : ∀ (v : Option Value) (G' : zG), Qn v G' → zV O p l e R s m args below meth c nL Q (pc + 3) ls (v.toList ++ st) G' (kc + mC) (ks + mS)) : zV O p l e R s m args below meth c nL Q pc ls st0 G kc ks :=
  zv_ran (fun H locs la hl hP => vx_runV (C.fix args) hM (cwV n (C.w args) (zT_good hw) rfl hr.1 hr.2.1 ⟨rfl, hr.2.2.2⟩ hr.2.2.1) (by have h := C.preV (As := As) hP hG hc; rw [hrc] at h; exact h) rfl hn hl.1 hst (lv_room hcat) d hf) kx kk
theorem zv_callS (C : zC O p l s m meth c own cc nL) (d : decode cc pc = .ok (.invokestatic ix, 3)) (hM : zM O l y [Cond.code y cy maxL ret] rm As G mC mS Qn Xn) (hw : ∀ w ∈ va_wsS own ix y [Cond.code y cy maxL ret], w ∈ zT) (hr : zRm R rm y maxL mC mS n) (hn : As.length = n) (hst : st0 = As.reverse ++ st) (hcat : (st.map fun v => v.category).sum ≤ 8) (hf : kc + mC ≤ R.cells ∧ ks + mS ≤ R.slots)
    (kx : ∀ (E : String) (G' : zG), Xn E G' → zVX O p l e R s m args below meth c nL Q pc ls st G' (kc + mC) (ks + mS) E)
    (kk : ∀ (v : Option Value) (G' : zG), Qn v G' → zV O p l e R s m args below meth c nL Q (pc + 3) ls (v.toList ++ st) G' (kc + mC) (ks + mS)) : zV O p l e R s m args below meth c nL Q pc ls st0 G kc ks :=
  zv_ran (fun H locs la hl hP => vx_runS (C.fix args) hM (va_cwS n (C.w args) (zT_good hw) rfl hr.1 hr.2.1 hr.2.2.2 hr.2.2.1) (C.pre hP) rfl hn hl.1 hst (lv_room hcat) d hf) kx kk
/-- a contract that never throws, as the kit's own -/
theorem zM.met {O : zO} {l : Launch} {y : MethodName} {ws : List Cond} {rm : Room} {av : List Value} {G : zG} {mc ms : Nat} {Qm : Option Value → zG → Prop} {Xm : String → zG → Prop} (hX : ∀ E G', ¬ Xm E G') (h : zM O l y ws rm av G mc ms Qm Xm) : Met l y ws rm (zPc O av G) (zQc O Qm) mc ms (zFr O) := by
  intro p e ha hc hk s m args below hf happ hP hK
  obtain ⟨k, o, h1, h2, h3, hQ⟩ := h p e ha hc hk s m args below hf happ hP hK
  refine ⟨k, o, h1, h2, h3, ?_⟩
  rcases hQ with hQ | ⟨q, -, E, ce, L, ⟨G', hx, -⟩, -⟩
  · exact hQ
  · exact (hX E G' hx).elim
theorem zv_callI (C : zC O p l s m meth c own cc nL) (d : decode cc pc = .ok (.invokespecial ix, 3)) (hX : ∀ E G', ¬ Xn E G') (hM : zM O l y [Cond.code y cy maxL none] rm (.ref b :: As) G mC mS Qn Xn) (hw : ∀ w ∈ [Cond.code y cy maxL none, .initialized y.cls, .methodLink own ix y, .instanceMethod y], w ∈ zT) (hr : zRm R rm y maxL mC mS n) (hin : y.name = "<init>") (hn : As.length = n) (hst : st0 = As.reverse ++ .ref b :: st) (hcat : (st.map fun v => v.category).sum ≤ 8) (hf : kc + mC ≤ R.cells ∧ ks + mS ≤ R.slots)
    (kk : ∀ (v : Option Value) (G' : zG), Qn v G' → zV O p l e R s m args below meth c nL Q (pc + 3) ls (v.toList ++ st) G' (kc + mC) (ks + mS)) : zV O p l e R s m args below meth c nL Q pc ls st0 G kc ks :=
  zv_ranN (fun H locs la hl hP => va_runI (C.fix args) (hM.met hX) (cwI n (C.w args) (zT_good (fun w h => hw w (by rw [List.mem_singleton.mp h]; exact List.mem_cons_self))) rfl hr.1 hr.2.1 (C.w args _ (hw _ (by simp))) (C.w args _ (hw _ (by simp))) (C.w args _ (hw _ (by simp))) hin hr.2.2.2 hr.2.2.1) (C.pre hP) rfl hn hl.1 hst (lv_room hcat) d hf) kk
/-- a private constructor of a nest mate -/
theorem zv_callIN (C : zC O p l s m meth c own cc nL) {host : String} (d : decode cc pc = .ok (.invokespecial ix, 3)) (hX : ∀ E G', ¬ Xn E G') (hM : zM O l y [Cond.code y cy maxL none] rm (.ref b :: As) G mC mS Qn Xn) (hw : ∀ w ∈ [Cond.code y cy maxL none, .initialized y.cls, .instanceMethod y], w ∈ zT) (hN : va_Nw (.methodLinkNest own ix y host) O.2.2) (hr : zRm R rm y maxL mC mS n) (hin : y.name = "<init>") (hn : As.length = n) (hst : st0 = As.reverse ++ .ref b :: st) (hcat : (st.map fun v => v.category).sum ≤ 8) (hf : kc + mC ≤ R.cells ∧ ks + mS ≤ R.slots)
    (kk : ∀ (v : Option Value) (G' : zG), Qn v G' → zV O p l e R s m args below meth c nL Q (pc + 3) ls (v.toList ++ st) G' (kc + mC) (ks + mS)) : zV O p l e R s m args below meth c nL Q pc ls st0 G kc ks :=
  zv_ranN (fun H locs la hl hP => va_runIN (C.fix args) (hM.met hX) ⟨va_cnB n (C.w args) (zT_good (fun w h => hw w (by rw [List.mem_singleton.mp h]; exact List.mem_cons_self))) rfl hr.1 hr.2.1 (va_Nw.warmM C.2.2.2.2.2.1 hN) (C.w args _ (hw _ (by simp))) hr.2.2.2 hr.2.2.1, hin, C.w args _ (hw _ (by simp))⟩ (C.pre hP) rfl hn hl.1 hst (lv_room hcat) d hf) kk
theorem zH.ext {H H1 : Heap} (h : zH O G H) (z : H.size ≤ H1.size) (oq : ∀ q : Nat, q < H.size → H1[q]? = H[q]?) : zH O G H1 := by
  obtain ⟨h1, h2, h3⟩ := h
  exact ⟨by omega, fun q hq => by rw [oq q (by omega)]; exact h2 q hq, fun a e ha => ⟨(h3 a e ha).1, (h3 a e ha).2.kept (oq a (h3 a e ha).2.lt)⟩⟩
/-- 'throw new E("text")' -/
def zTh (own : String) (ik is ic : Nat) (cls text : String) (names : List String) : Prop := (Bundle.fit cls = true ∧ ∀ n ∈ names, Bundle.fit n = true) ∧ Cond.classLink own ik cls ∈ zT ∧ Cond.initialized cls ∈ zT ∧ (own, is, text) ∈ zStr ∧ (∀ w ∈ vx_atS own ic cls names, w ∈ zT2) ∧ ∀ w ∈ Cond.classLink own ik cls :: Cond.initialized cls :: vx_atS own ic cls names, vx_ot w = true
theorem zv_throwS (C : zC O p l s m meth c own cc nL) {cls text : String} {names : List String} {ik is ic : Nat} (d0 : decode cc pc = .ok (.new ik, 3)) (d3 : decode cc (pc + 3) = .ok (.dup, 1)) (d4 : decode cc (pc + 4) = .ok (.ldc is, 2)) (d6 : decode cc (pc + 6) = .ok (.invokespecial ic, 3)) (d9 : decode cc (pc + 9) = .ok (.athrow, 1)) (T : zTh own ik is ic cls text names) (hex : ∀ x ∈ c.exceptionTable.toList, False)
    (hfr : names.length + 3 < R.frames) (hlo : (st.map fun v => v.category).sum + (13 * (names.length + 1) + 43) ≤ R.locals) (hc : kc + 1 ≤ R.cells) (hs : ks + 6 ≤ R.slots) (h1 : kc + 1 ≤ mc) (h2 : ks + 6 ≤ ms) (hx : Xm cls G) : zV O p l e R s m args below meth c nL (zE O below Qm Xm args s mc ms) pc ls st G kc ks := fun H locs la hl hP hL T0 hT X => by
  obtain ⟨⟨t1, t2⟩, t3, t4, t5, t6, t7⟩ := T
  obtain ⟨sa, hsa⟩ := C.k.2.2.2.2.2.2.2.1 _ t5
  have hz : s.heap.size ≤ H.size := by rw [← hT]; exact (vx_frame X.same).1
  have hW := C.2.2.2.2.2.1
  have hb := C.2.2.2.2.2.2.1
  have hkeep : ∀ q : Nat, q < O.2.2.heap.size → ¬ zFr O q → s.heap[q]? = O.2.2.heap[q]? := fun q hq _ => hb.2 q hq
  refine vx_throwS (A := zFr O) C.1 C.2.1 C.k.1 C.2.2.2.1 t1 t2 (C.w args _ t3) (C.w args _ t4) (vk_R.warm hW hsa) (fun w hw => C.w2 args w (t6 w hw)) t7 (vx_Zq.moved hW.alike (C.k.2.2.2.2.2.2.1.1.kept hkeep)) (vx_Zq.moved hW.alike (C.k.2.2.2.2.2.2.1.2.kept hkeep)) ⟨hz, fun q hq hA => ?_, hL⟩ (hl.1.trans C.2.2.1.symm) d0 d3 d4 d6 d9 (fun x hx => (hex x hx).elim) hfr hlo hc hs C.2.2.2.2.1 (fun t _ g1 g2 => ⟨G, hx, hP.ext g1 g2⟩) hL h1 h2 T0 hT X
  have hq0 : q < O.2.2.heap.size := Nat.not_le.mp hA
  rw [hP.2.1 q hq0, hb.2 q hq0]
end ZQ
