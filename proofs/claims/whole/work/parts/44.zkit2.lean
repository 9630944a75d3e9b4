/-! handlers, static calls of methods with handlers, the script -/
theorem zM.mono {O : zO} {l : Launch} {y : MethodName} {ws : List Cond} {rm : Room} {av : List Value} {G : zG} {mc ms : Nat} {Qm Qm' : Option Value → zG → Prop} {Xm Xm' : String → zG → Prop} (h : zM O l y ws rm av G mc ms Qm Xm) (hq : ∀ v G', Qm v G' → Qm' v G') (hx : ∀ E G', Xm E G' → Xm' E G') : zM O l y ws rm av G mc ms Qm' Xm' := by
  intro p e ha hc hk s m args below hf happ hP hK
  obtain ⟨k, o, h1, h2, h3, hQ⟩ := h p e ha hc hk s m args below hf happ hP hK
  refine ⟨k, o, h1, h2, h3, ?_⟩
  rcases hQ with ⟨⟨v, G', g1, g2, g3⟩, g4⟩ | ⟨q, g1, E, ce, L, ⟨G', g2, g3⟩, g4⟩
  · exact Or.inl ⟨⟨v, G', g1, hq v G' g2, g3⟩, g4⟩
  · exact Or.inr ⟨q, g1, E, ce, L, ⟨G', hx E G' g2, g3⟩, g4⟩
theorem zm_ofH {O : zO} {l : Launch} {y : MethodName} {cc : ByteArray} {maxL : Nat} {ret : Option FieldType} {hh : List (Nat × Nat × Nat × Nat)} {rm : Room} {av : List Value} {G : zG} {mc ms : Nat} {Qm : Option Value → zG → Prop} {Xm : String → zG → Prop} (hk : zK O l) (hy : plainName y.cls = true) (hlen : (lg_sl av).length ≤ maxL)
    (body : ∀ (p : Program) (e : Env) (s : State) (m : MethodId) (below : List Frame) (meth : Method) (c : Code), zC O p l s m meth c y.cls cc maxL → c.exceptionTable.toList = tableOf hh → meth.sig.returnType = ret →
      zV O p l e rm s m av.toArray below meth c maxL (zE O below Qm Xm av.toArray s mc ms) 0 (lv_args 0 av) [] G 0 0) : zM O l y [Cond.codeWith y cc maxL ret hh] rm av G mc ms Qm Xm := by
  refine vx_ofWH (cc := cc) (maxL := maxL) (ret := ret) (hh := hh) (ws' := []) hy rfl ?_
  intro p e s m as below meth c s₁ B hml hv
  obtain ⟨rfl, hW, hP⟩ := hv
  have hex : c.exceptionTable.toList = tableOf hh := vx_table (x := y) B (atoms_spec (ws := [Cond.codeWith y cc maxL ret hh]) B.pre _ List.mem_cons_self)
  have C : zC O p l s m meth c y.cls cc maxL := ⟨B.exec, B.bytes, hml, findClass_of_methodNamed B.named, B.notSynchronized, hW, ⟨hP.1, hP.2.1⟩, hk⟩
  rw [lg_entry_eq]
  exact body p e s m below meth c C hex B.returns s.heap [] _ (lv_entry av hlen) hP (fun z hz => by cases hz)
section ZX
variable {O : zO} {p : Program} {l : Launch} {e : Env} {R : Room} {s : State} {m : MethodId} {args : Array Value} {below : List Frame} {meth : Method} {c : Code} {own : String} {cc : ByteArray} {nL : Nat} {Q : State → Prop} {pc : Nat} {ls : List (Nat × Value)} {st st0 : List Value} {G : zG} {kc ks mC mS : Nat} {Qn : Option Value → zG → Prop} {Xn : String → zG → Prop}
theorem zx_catch (C : zC O p l s m meth c own cc nL) {E name : String} {hh : List (Nat × Nat × Nat × Nat)} (hex : c.exceptionTable.toList = tableOf hh) (pre : List ExceptionTableEntry) (x : ExceptionTableEntry) (suf : List ExceptionTableEntry) (hsplit : tableOf hh = pre ++ x :: suf)
    (hpass : ∀ z ∈ pre, z.catchType ≠ 0 ∧ ∃ nm : String, Cond.classLink own z.catchType nm ∈ zT ∧ (E, nm) ∈ zNot) (hx : covers x pc = true) (h0 : x.catchType ≠ 0) (hlink : Cond.classLink own x.catchType name ∈ zT) (hcast : Cond.castable E name ∈ zT2) {tgt : Nat} (ht : x.handlerPc = tgt)
    (kk : ∀ q : Nat, zV O p l e R s m args below meth c nL Q tgt ls [.ref q] G kc ks) : zVX O p l e R s m args below meth c nL Q pc ls st G kc ks E := fun H locs la q ce hl hP hL hce hcv hcl => by
  subst ht
  refine vx_catch C.2.2.2.1 pre x suf (hex.trans hsplit) (fun z hz => ?_) hx h0 (C.w args _ hlink) (C.w2 args _ hcast) hce hcv hcl (kk q H locs la hl hP hL)
  obtain ⟨g1, nm, g2, g3⟩ := hpass z hz
  exact Or.inr ⟨g1, nm, C.w args _ g2, va_Nc.moved C.2.2.2.2.2.1.alike (C.k.2.2.2.2.2.2.2.2 _ g3)⟩
theorem zv_callSW (C : zC O p l s m meth c own cc nL) {y : MethodName} {cy : ByteArray} {maxL n ix : Nat} {ret : Option FieldType} {hh : List (Nat × Nat × Nat × Nat)} {rm : Room} {As : List Value} (d : decode cc pc = .ok (.invokestatic ix, 3)) (hX : ∀ E G', ¬ Xn E G') (hM : zM O l y [Cond.codeWith y cy maxL ret hh] rm As G mC mS Qn Xn) (hw : ∀ w ∈ va_wsS own ix y [Cond.codeWith y cy maxL ret hh], w ∈ zT) (hr : zRm R rm y maxL mC mS n) (hn : As.length = n) (hst : st0 = As.reverse ++ st) (hcat : (st.map fun v => v.category).sum ≤ 8) (hf : kc + mC ≤ R.cells ∧ ks + mS ≤ R.slots)
    (kk : ∀ (v : Option Value) (G' : zG), Qn v G' → zV O p l e R s m args below meth c nL Q (pc + 3) ls (v.toList ++ st) G' (kc + mC) (ks + mS)) : zV O p l e R s m args below meth c nL Q pc ls st0 G kc ks :=
  zv_ranN (fun H locs la hl hP => vx_runSW (C.fix args) (hM.met hX) (vx_cwSW n (C.w args) (zT_good hw) rfl hr.1 hr.2.1 hr.2.2.2 hr.2.2.1) (C.pre hP) rfl hn hl.1 hst (lv_room hcat) d hf) kk
theorem zv_land (C : zC O p l s m meth c own cc nL) {x y : Int64} (d : decode cc pc = .ok (.land, 1)) (kk : zV O p l e R s m args below meth c nL Q (pc + 1) ls (.long (x &&& y) :: st) G kc ks) : zV O p l e R s m args below meth c nL Q pc ls (.long y :: .long x :: st) G kc ks := fun H locs la hl hP hL => lv_land C.1 C.2.1 d (kk H locs la hl hP hL)
theorem zv_lor (C : zC O p l s m meth c own cc nL) {x y : Int64} (d : decode cc pc = .ok (.lor, 1)) (kk : zV O p l e R s m args below meth c nL Q (pc + 1) ls (.long (x ||| y) :: st) G kc ks) : zV O p l e R s m args below meth c nL Q pc ls (.long y :: .long x :: st) G kc ks := fun H locs la hl hP hL => lv_lor C.1 C.2.1 d (kk H locs la hl hP hL)
theorem zv_lshl (C : zC O p l s m meth c own cc nL) {x : Int64} {y : Int32} (d : decode cc pc = .ok (.lshl, 1)) (kk : zV O p l e R s m args below meth c nL Q (pc + 1) ls (.long (x <<< (y.toInt64 &&& 63)) :: st) G kc ks) : zV O p l e R s m args below meth c nL Q pc ls (.int y :: .long x :: st) G kc ks := fun H locs la hl hP hL => lv_lshl C.1 C.2.1 d rfl (kk H locs la hl hP hL)
/-- the script at b -/
def zSc (O : zO) (b L : Nat) (xs : Nat → Int32) : Prop := va_X b L xs O.2.2 O.2.2.heap ∧ b < O.2.2.heap.size ∧ L < 2 ^ 31
theorem zSc.at (C : zC O p l s m meth c own cc nL) {b L : Nat} {xs : Nat → Int32} (hX : zSc O b L xs) {H : Heap} (hP : zH O G H) : va_X b L xs s H := va_X.moved C.2.2.2.2.2.1.alike (hX.1.kept (hP.2.1 b hX.2.1))
theorem zv_sld (C : zC O p l s m meth c own cc nL) {b L j : Nat} {xs : Nat → Int32} (hX : zSc O b L xs) (d : decode cc pc = .ok (.iaload, 1)) (hj : j < L) (kk : zV O p l e R s m args below meth c nL Q (pc + 1) ls (.int (xs j) :: st) G kc ks) : zV O p l e R s m args below meth c nL Q pc ls (.int (nI j) :: .ref b :: st) G kc ks := fun H locs la hl hP hL => by
  have hlt := hX.2.2
  obtain ⟨scr, h1, h2, h3, h4, h5⟩ := hX.at C hP
  have hc : (nI j).toNatClampNeg = j := nI_clamp (by omega)
  exact W.iald (v := .int (xs j)) C.1 C.2.1 h1 h2 h3 (by rw [h4]; exact vp_in_nI hj hlt) (by rw [hc]; exact h5 _ hj) rfl rfl d (kk H locs la hl hP hL)
theorem zv_slen (C : zC O p l s m meth c own cc nL) {b L : Nat} {xs : Nat → Int32} (hX : zSc O b L xs) (d : decode cc pc = .ok (.arraylength, 1)) (kk : zV O p l e R s m args below meth c nL Q (pc + 1) ls (.int (nI L) :: st) G kc ks) : zV O p l e R s m args below meth c nL Q pc ls (.ref b :: st) G kc ks := fun H locs la hl hP hL => by
  obtain ⟨scr, h1, h2, h3, h4, h5⟩ := hX.at C hP
  exact W.alen (n := Int32.ofNat L) C.1 C.2.1 h1 h2 (by rw [h4] <;> rfl) rfl rfl d (kk H locs la hl hP hL)
end ZX
