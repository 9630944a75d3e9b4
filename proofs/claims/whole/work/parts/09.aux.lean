/-! small words for contracts -/
def zb (b : Bool) : Int32 := if b then 1 else 0
theorem zb_t {b : Bool} (h : b = true) : zb b = 1 := by simp [zb, h]
theorem zb_f {b : Bool} (h : b = false) : zb b = 0 := by simp [zb, h]
theorem zb_0 {b : Bool} : zb b = 0 ↔ b = false := by cases b <;> simp [zb]
theorem zb_n0 {b : Bool} : ¬ zb b = 0 ↔ b = true := by cases b <;> simp [zb]
theorem zb_nar (b : Bool) : narrow .boolean (.int (zb b)) = .int (zb b) := by cases b <;> rfl
/-- it returns v, the heap is as it was -/
def zPr (v : Value) (G : zG) : Option Value → zG → Prop := fun v' G' => v' = some v ∧ G' = G
def zNo : String → zG → Prop := fun _ _ => False
theorem zNo_not : ∀ E G', ¬ zNo E G' := fun _ _ h => h
theorem zn_inc (j : Nat) : nI j + Int32.ofInt 1 = nI (j + 1) := by rw [lit1]; exact nI_1 j
theorem zu_ne {G : zG} {a b : Nat} {e e1 e2 : va_E} (h2 : G b = some e2) (h1 : G a = some e1) (hne : e1 ≠ e2) : zu G a e b = some e2 := by
  rw [zu_n (fun h => hne (by subst h; rw [h1] at h2; exact Option.some.inj h2))]; exact h2
section ZN
variable {O : zO} {p : Program} {l : Launch} {e : Env} {R : Room} {s : State} {m : MethodId} {args : Array Value} {below : List Frame} {meth : Method} {c : Code} {own : String} {cc : ByteArray} {nL : Nat} {Q : State → Prop} {pc : Nat} {ls : List (Nat × Value)} {st : List Value} {G : zG} {kc ks : Nat} {a n j : Nat}
theorem zn_iald (C : zC O p l s m meth c own cc nL) {f : Nat → Int32} (d : decode cc pc = .ok (.iaload, 1)) (hG : G a = some (zI O n f)) (hj : j < n) (hn : n < 2 ^ 31) (kk : zV O p l e R s m args below meth c nL Q (pc + 1) ls (.int (f j) :: st) G kc ks) : zV O p l e R s m args below meth c nL Q pc ls (.int (nI j) :: .ref a :: st) G kc ks :=
  zv_iald C d hG (vp_in_nI hj hn) (by rw [nI_clamp (by omega)]; exact kk)
theorem zn_lald (C : zC O p l s m meth c own cc nL) {f : Nat → Int64} (d : decode cc pc = .ok (.laload, 1)) (hG : G a = some (zJ O n f)) (hj : j < n) (hn : n < 2 ^ 31) (kk : zV O p l e R s m args below meth c nL Q (pc + 1) ls (.long (f j) :: st) G kc ks) : zV O p l e R s m args below meth c nL Q pc ls (.int (nI j) :: .ref a :: st) G kc ks :=
  zv_lald C d hG (vp_in_nI hj hn) (by rw [nI_clamp (by omega)]; exact kk)
theorem zn_zald (C : zC O p l s m meth c own cc nL) {f : Nat → Int32} (d : decode cc pc = .ok (.baload, 1)) (hG : G a = some (zB O n f)) (hj : j < n) (hn : n < 2 ^ 31) (kk : zV O p l e R s m args below meth c nL Q (pc + 1) ls (.int (f j) :: st) G kc ks) : zV O p l e R s m args below meth c nL Q pc ls (.int (nI j) :: .ref a :: st) G kc ks :=
  zv_zald C d hG (vp_in_nI hj hn) (by rw [nI_clamp (by omega)]; exact kk)
theorem zn_aald (C : zC O p l s m meth c own cc nL) {f : Nat → Option Nat} (d : decode cc pc = .ok (.aaload, 1)) (hG : G a = some (zQ O 3 n f)) (hj : j < n) (hn : n < 2 ^ 31) (kk : zV O p l e R s m args below meth c nL Q (pc + 1) ls (va_rf (f j) :: st) G kc ks) : zV O p l e R s m args below meth c nL Q pc ls (.int (nI j) :: .ref a :: st) G kc ks :=
  zv_aald C d hG (vp_in_nI hj hn) (by rw [nI_clamp (by omega)]; exact kk)
theorem zn_iast (C : zC O p l s m meth c own cc nL) {f : Nat → Int32} {x : Int32} (d : decode cc pc = .ok (.iastore, 1)) (hG : G a = some (zI O n f)) (hj : j < n) (hn : n < 2 ^ 31) (kk : zV O p l e R s m args below meth c nL Q (pc + 1) ls st (zu G a (zI O n (upd f j x))) kc ks) : zV O p l e R s m args below meth c nL Q pc ls (.int x :: .int (nI j) :: .ref a :: st) G kc ks :=
  zv_iast C d hG (vp_in_nI hj hn) (by rw [nI_clamp (by omega)]; exact kk)
theorem zn_last (C : zC O p l s m meth c own cc nL) {f : Nat → Int64} {x : Int64} (d : decode cc pc = .ok (.lastore, 1)) (hG : G a = some (zJ O n f)) (hj : j < n) (hn : n < 2 ^ 31) (kk : zV O p l e R s m args below meth c nL Q (pc + 1) ls st (zu G a (zJ O n (vp_updL f j x))) kc ks) : zV O p l e R s m args below meth c nL Q pc ls (.long x :: .int (nI j) :: .ref a :: st) G kc ks :=
  zv_last C d hG (vp_in_nI hj hn) (by rw [nI_clamp (by omega)]; exact kk)
theorem zn_zast (C : zC O p l s m meth c own cc nL) {f : Nat → Int32} {x : Int32} (d : decode cc pc = .ok (.bastore, 1)) (hG : G a = some (zB O n f)) (hj : j < n) (hn : n < 2 ^ 31) (kk : zV O p l e R s m args below meth c nL Q (pc + 1) ls st (zu G a (zB O n (upd f j (vp_nar .boolean x)))) kc ks) : zV O p l e R s m args below meth c nL Q pc ls (.int x :: .int (nI j) :: .ref a :: st) G kc ks :=
  zv_zast C d hG (vp_in_nI hj hn) (by rw [nI_clamp (by omega)]; exact kk)
theorem zn_aast (C : zC O p l s m meth c own cc nL) {v : Nat} {vs : List Value} {f : Nat → Option Nat} (d : decode cc pc = .ok (.aastore, 1)) (hG : G a = some (zQ O 3 n f)) (hv : G v = some (.inr (0, vs))) (hj : j < n) (hn : n < 2 ^ 31) (kk : zV O p l e R s m args below meth c nL Q (pc + 1) ls st (zu G a (zQ O 3 n (va_up f j (some v)))) kc ks) : zV O p l e R s m args below meth c nL Q pc ls (.ref v :: .int (nI j) :: .ref a :: st) G kc ks :=
  zv_aast C d hG hv (vp_in_nI hj hn) (by rw [nI_clamp (by omega)]; exact kk)
end ZN
/-! days, kinds and the like -/
def isDayB (x : Int32) : Bool := !(decide (x < 0)) && !(decide (100000 < x))
def isMonthB (x : Int32) : Bool := !(decide (x < 0)) && !(decide (3333 < x))
def isKindB (x : Int32) : Bool := !(decide (x < 0)) && !(decide ((6 : Int32) ≤ x))
def isRecB (x : Int32) : Bool := !(decide (x < 0)) && !(decide ((4 : Int32) ≤ x))
def centsB (x : Int64) : Bool := !(decide (x = 0)) && !(decide (x < -1000000000)) && !(decide (1000000000 < x))
def isAccB (x n : Int32) : Bool := !(decide (x < 0)) && !(decide (n ≤ x))
section ZN2
variable {O : zO} {p : Program} {l : Launch} {e : Env} {R : Room} {s : State} {m : MethodId} {args : Array Value} {below : List Frame} {meth : Method} {c : Code} {nL : Nat} {Q : State → Prop} {pc : Nat} {ls : List (Nat × Value)} {st : List Value} {G : zG} {kc ks : Nat}
theorem zv_topi {x y : Int32} (h : x = y) (kk : zV O p l e R s m args below meth c nL Q pc ls (.int y :: st) G kc ks) : zV O p l e R s m args below meth c nL Q pc ls (.int x :: st) G kc ks := h ▸ kk
theorem zv_topl {x y : Int64} (h : x = y) (kk : zV O p l e R s m args below meth c nL Q pc ls (.long y :: st) G kc ks) : zV O p l e R s m args below meth c nL Q pc ls (.long x :: st) G kc ks := h ▸ kk
end ZN2
theorem zn_ix4 (k r : Nat) : nI k * 4 + nI r = nI (k * 4 + r) := by rw [show (4 : Int32) = nI 4 from rfl, pk_mul, nI_add]
theorem zn_l0 {x : Int32} (h : ¬ x = 0) : ¬ x.toInt64 = 0 := fun q => h (by
  have h1 : x.toInt64.toInt = (0 : Int64).toInt := by rw [q]
  rw [Int32.toInt_toInt64] at h1
  exact Int32.toInt_inj.mp (by rw [h1]; rfl))
def zWr (v : Option Value) (G2 : zG) : Option Value → zG → Prop := fun v' G' => v' = v ∧ G' = G2
theorem zu_fresh {G : zG} {q b : Nat} {e : va_E} (h : G q = none) (hb : G b = some e) : q ≠ b := fun x => by rw [x, hb] at h; cases h
theorem zd_ne {G : zG} {a b : Nat} {e1 e2 : va_E} (h1 : G a = some e1) (h2 : G b = some e2) (hne : e1 ≠ e2) : a ≠ b := fun x => hne (by rw [x, h2] at h1; exact (Option.some.inj h1).symm)
