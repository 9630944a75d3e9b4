/-! shares -/
def pA (fp : Nat → Int32) (k : Nat) : Nat → Int32
  | 0 => 0
  | r + 1 => pA fp k r + fp (k * 4 + r)
def wS (fp : Nat → Int32) (k r : Nat) (x : Int64) : Int64 := if pA fp k 4 = 0 then 0 else x * (fp (k * 4 + r)).toInt64 / (pA fp k 4).toInt64
def rM (fp : Nat → Int32) (k r : Nat) (x : Int64) : Int64 := if pA fp k 4 = 0 then 0 else x * (fp (k * 4 + r)).toInt64 - x * (fp (k * 4 + r)).toInt64 / (pA fp k 4).toInt64 * (pA fp k 4).toInt64
def cL (fp : Nat → Int32) (k : Nat) (x : Int64) : Nat → Int64
  | 0 => x
  | r + 1 => cL fp k x r - wS fp k r x
def plB (fp : Nat → Int32) (k r : Nat) (x : Int64) (j : Nat) : Bool := decide (rM fp k r x < rM fp k j x) || (decide (rM fp k j x = rM fp k r x) && !(decide (nI r ≤ nI j)))
def plc (fp : Nat → Int32) (k r : Nat) (x : Int64) : Nat → Int32
  | 0 => 0
  | j + 1 => if plB fp k r x j then plc fp k r x j + 1 else plc fp k r x j
def shr (fp : Nat → Int32) (k r : Nat) (x : Int64) : Int64 := if pA fp k 4 = 0 then 0 else if (plc fp k r x 4).toInt64 < cL fp k x 4 then wS fp k r x + 1 else wS fp k r x
def shA (fp : Nat → Int32) (k : Nat) (x : Int64) : Nat → Int64
  | 0 => 0
  | r + 1 => shA fp k x r + shr fp k r x
set_option maxHeartbeats 4000000 in
set_option maxRecDepth 100000 in
theorem lSh_allParts {O : zO} {p : Program} {l : Launch} {e : Env} {R : Room} {s : State} {m : MethodId} {args : Array Value} {below : List Frame} {meth : Method} {c : Code} {Q : State → Prop} {G : zG} {kc ks : Nat} (a0 k : Nat) {p1 p2 : Nat} {fp : Nat → Int32} (C : zC O p l s m meth c RSh bSh_allParts 4) (hS : G a0 = some (oSh p1 p2)) (hp : G p1 = some (zI O 24 fp)) (hk6 : k < 6) (kk : zV O p l e R s m args below meth c 4 Q 28 [(0, .ref a0), (1, .int (nI k)), (2, .int (pA fp k 4)), (3, .int (nI 4))] [] G kc ks) : ∀ i j : Nat, j + i = 4 → zV O p l e R s m args below meth c 4 Q 4 [(0, .ref a0), (1, .int (nI k)), (2, .int (pA fp k j)), (3, .int (nI j))] [] G kc ks := by
  intro i
  induction i with
  | zero =>
    intro j hj
    obtain rfl : j = 4 := by omega
    refine zv_iload_n (pc := 4) C dSh_allParts_4 rfl ?_
    refine zv_iconst (pc := 5) (v := 4) C dSh_allParts_5 (by decide) ?_
    refine zv_icmp_ge (pc := 6) (tgt := 28) C dSh_allParts_6 (by decide) (fun cX => ?_) (fun cX => absurd (nI_le (a := 4) (b := 4) (Nat.le_refl _) (by omega)) cX)
    exact kk
  | succ i ih =>
    intro j hj
    refine zv_iload_n (pc := 4) C dSh_allParts_4 rfl ?_
    refine zv_iconst (pc := 5) (v := 4) C dSh_allParts_5 (by decide) ?_
    refine zv_icmp_ge (pc := 6) (tgt := 28) C dSh_allParts_6 (by decide) (fun cX => absurd cX (nI_ge (a := j) (b := 4) (by omega) (by omega))) (fun cX => ?_)
    refine zv_iload_n (pc := 9) C dSh_allParts_9 rfl ?_
    refine zv_aload_n (pc := 10) C dSh_allParts_10 rfl ?_
    refine zv_get (pc := 11) C dSh_allParts_11 fSh_9 (by first | assumption | exact zu_s | (refine (zu_n (by assumption)).trans ?_; first | assumption | exact zu_s)) rfl ?_
    refine zv_iload_n (pc := 14) C dSh_allParts_14 rfl ?_
    refine zv_iconst (pc := 15) (v := 4) C dSh_allParts_15 (by decide) ?_
    refine zv_imul (pc := 16) C dSh_allParts_16 ?_
    refine zv_iload_n (pc := 17) C dSh_allParts_17 rfl ?_
    refine zv_iadd (pc := 18) C dSh_allParts_18 ?_
    refine zv_topi (zn_ix4 k j) ?_
    refine zn_iald (pc := 19) C dSh_allParts_19 (by first | assumption | exact zu_s | (refine (zu_n (by assumption)).trans ?_; first | assumption | exact zu_s)) (by omega) (by omega) ?_
    refine zv_iadd (pc := 20) C dSh_allParts_20 ?_
    refine zv_istore_n (pc := 21) C dSh_allParts_21 (by decide) ?_
    refine zv_iinc (pc := 22) C dSh_allParts_22 rfl (zn_inc j) (by decide) ?_
    refine zv_goto (pc := 25) (tgt := 4) C dSh_allParts_25 (by decide) ?_
    exact zv_pick [0, 1, 2, 3] rfl (ih (j + 1) (by omega))
set_option maxHeartbeats 4000000 in
set_option maxRecDepth 100000 in
theorem cSh_allParts {O : zO} {l : Launch} (hk : zK O l) (G : zG) (a0 k : Nat) {p1 p2 : Nat} {fp : Nat → Int32} (hS : G a0 = some (oSh p1 p2)) (hp : G p1 = some (zI O 24 fp)) (hk6 : k < 6) : zM O l ySh_allParts [Cond.code ySh_allParts bSh_allParts 4 (some .int)] rmSh_allParts [.ref a0, .int (nI k)] G 0 0 (zPr (.int (pA fp k 4)) G) zNo := by
  refine zm_of hk (by decide) (Nat.le_of_ble_eq_true rfl) ?_
  intro p e s m below meth c C hex hr hnm
  refine zv_iconst (pc := 0) (v := 0) C dSh_allParts_0 (by decide) ?_
  refine zv_istore_n (pc := 1) C dSh_allParts_1 (by decide) ?_
  refine zv_iconst (pc := 2) (v := 0) C dSh_allParts_2 (by decide) ?_
  refine zv_istore_n (pc := 3) C dSh_allParts_3 (by decide) ?_
  refine zv_pick [0, 1, 2, 3] rfl (lSh_allParts a0 k C hS hp hk6 ?_ 4 0 (by omega))
  refine zv_iload_n (pc := 28) C dSh_allParts_28 rfl ?_
  exact zv_iret (pc := 29) C hr dSh_allParts_29 (Nat.le_of_ble_eq_true rfl) (Nat.le_of_ble_eq_true rfl) (by exact ⟨rfl, rfl⟩)
set_option maxHeartbeats 4000000 in
set_option maxRecDepth 100000 in
theorem cSh_wholeShare {O : zO} {l : Launch} (hk : zK O l) (G : zG) (a0 k r : Nat) {p1 p2 : Nat} {fp : Nat → Int32} (x : Int64) (hS : G a0 = some (oSh p1 p2)) (hp : G p1 = some (zI O 24 fp)) (hk6 : k < 6) (hr4 : r < 4) : zM O l ySh_wholeShare [Cond.code ySh_wholeShare bSh_wholeShare 6 (some .long)] rmSh_wholeShare [.ref a0, .int (nI k), .int (nI r), .long x] G 0 0 (zPr (.long (wS fp k r x)) G) zNo := by
  refine zm_of hk (by decide) (Nat.le_of_ble_eq_true rfl) ?_
  intro p e s m below meth c C hex hr hnm
  refine zv_aload_n (pc := 0) C dSh_wholeShare_0 rfl ?_
  refine zv_iload_n (pc := 1) C dSh_wholeShare_1 rfl ?_
  refine zv_callV (pc := 2) C dSh_wholeShare_2 (cSh_allParts hk _ _ _ (by first | assumption | exact zu_s | (refine (zu_n (by assumption)).trans ?_; first | assumption | exact zu_s)) (by first | assumption | exact zu_s | (refine (zu_n (by assumption)).trans ?_; first | assumption | exact zu_s)) (by omega)) gSh_24 ⟨rfl, rfl, ⟨Nat.le_of_ble_eq_true rfl, Nat.le_of_ble_eq_true rfl⟩, mSh_allParts⟩ rfl rfl (Nat.le_of_ble_eq_true rfl) (by first | assumption | exact zu_s | (refine (zu_n (by assumption)).trans ?_; first | assumption | exact zu_s)) rfl rfl ⟨Nat.le_of_ble_eq_true rfl, Nat.le_of_ble_eq_true rfl⟩ (fun _ _ h => h.elim) (fun v G' h => ?_)
  obtain ⟨rfl, rfl⟩ := h
  refine zv_istore (pc := 5) C dSh_wholeShare_5 (by decide) ?_
  refine zv_iload (pc := 7) C dSh_wholeShare_7 rfl ?_
  refine zv_if_ne (pc := 9) (tgt := 16) C dSh_wholeShare_9 (by decide) (fun c9 => ?_) (fun c9 => ?_)
  · refine zv_lload_n (pc := 16) C dSh_wholeShare_16 rfl ?_
    refine zv_aload_n (pc := 17) C dSh_wholeShare_17 rfl ?_
    refine zv_get (pc := 18) C dSh_wholeShare_18 fSh_9 (by first | assumption | exact zu_s | (refine (zu_n (by assumption)).trans ?_; first | assumption | exact zu_s)) rfl ?_
    refine zv_iload_n (pc := 21) C dSh_wholeShare_21 rfl ?_
    refine zv_iconst (pc := 22) (v := 4) C dSh_wholeShare_22 (by decide) ?_
    refine zv_imul (pc := 23) C dSh_wholeShare_23 ?_
    refine zv_iload_n (pc := 24) C dSh_wholeShare_24 rfl ?_
    refine zv_iadd (pc := 25) C dSh_wholeShare_25 ?_
    refine zv_topi (zn_ix4 k r) ?_
    refine zn_iald (pc := 26) C dSh_wholeShare_26 (by first | assumption | exact zu_s | (refine (zu_n (by assumption)).trans ?_; first | assumption | exact zu_s)) (by omega) (by omega) ?_
    refine zv_i2l (pc := 27) C dSh_wholeShare_27 ?_
    refine zv_lmul (pc := 28) C dSh_wholeShare_28 ?_
    refine zv_iload (pc := 29) C dSh_wholeShare_29 rfl ?_
    refine zv_i2l (pc := 31) C dSh_wholeShare_31 ?_
    refine zv_ldiv (pc := 32) C dSh_wholeShare_32 (zn_l0 c9) ?_
    exact zv_lret (pc := 33) C hr dSh_wholeShare_33 (Nat.le_of_ble_eq_true rfl) (Nat.le_of_ble_eq_true rfl) (by simp [zPr, wS, c9])
  · refine zv_lconst (pc := 12) (v := 0) C dSh_wholeShare_12 (by decide) ?_
    refine zv_goto (pc := 13) (tgt := 33) C dSh_wholeShare_13 (by decide) ?_
    exact zv_lret (pc := 33) C hr dSh_wholeShare_33 (Nat.le_of_ble_eq_true rfl) (Nat.le_of_ble_eq_true rfl) (by simp [zPr, wS, c9])
set_option maxHeartbeats 4000000 in
set_option maxRecDepth 100000 in
theorem cSh_remainder {O : zO} {l : Launch} (hk : zK O l) (G : zG) (a0 k r : Nat) {p1 p2 : Nat} {fp : Nat → Int32} (x : Int64) (hS : G a0 = some (oSh p1 p2)) (hp : G p1 = some (zI O 24 fp)) (hk6 : k < 6) (hr4 : r < 4) : zM O l ySh_remainder [Cond.code ySh_remainder bSh_remainder 6 (some .long)] rmSh_remainder [.ref a0, .int (nI k), .int (nI r), .long x] G 0 0 (zPr (.long (rM fp k r x)) G) zNo := by
  refine zm_of hk (by decide) (Nat.le_of_ble_eq_true rfl) ?_
  intro p e s m below meth c C hex hr hnm
  refine zv_aload_n (pc := 0) C dSh_remainder_0 rfl ?_
  refine zv_iload_n (pc := 1) C dSh_remainder_1 rfl ?_
  refine zv_callV (pc := 2) C dSh_remainder_2 (cSh_allParts hk _ _ _ (by first | assumption | exact zu_s | (refine (zu_n (by assumption)).trans ?_; first | assumption | exact zu_s)) (by first | assumption | exact zu_s | (refine (zu_n (by assumption)).trans ?_; first | assumption | exact zu_s)) (by omega)) gSh_24 ⟨rfl, rfl, ⟨Nat.le_of_ble_eq_true rfl, Nat.le_of_ble_eq_true rfl⟩, mSh_allParts⟩ rfl rfl (Nat.le_of_ble_eq_true rfl) (by first | assumption | exact zu_s | (refine (zu_n (by assumption)).trans ?_; first | assumption | exact zu_s)) rfl rfl ⟨Nat.le_of_ble_eq_true rfl, Nat.le_of_ble_eq_true rfl⟩ (fun _ _ h => h.elim) (fun v G' h => ?_)
  obtain ⟨rfl, rfl⟩ := h
  refine zv_istore (pc := 5) C dSh_remainder_5 (by decide) ?_
  refine zv_iload (pc := 7) C dSh_remainder_7 rfl ?_
  refine zv_if_ne (pc := 9) (tgt := 16) C dSh_remainder_9 (by decide) (fun c9 => ?_) (fun c9 => ?_)
  · refine zv_lload_n (pc := 16) C dSh_remainder_16 rfl ?_
    refine zv_aload_n (pc := 17) C dSh_remainder_17 rfl ?_
    refine zv_get (pc := 18) C dSh_remainder_18 fSh_9 (by first | assumption | exact zu_s | (refine (zu_n (by assumption)).trans ?_; first | assumption | exact zu_s)) rfl ?_
    refine zv_iload_n (pc := 21) C dSh_remainder_21 rfl ?_
    refine zv_iconst (pc := 22) (v := 4) C dSh_remainder_22 (by decide) ?_
    refine zv_imul (pc := 23) C dSh_remainder_23 ?_
    refine zv_iload_n (pc := 24) C dSh_remainder_24 rfl ?_
    refine zv_iadd (pc := 25) C dSh_remainder_25 ?_
    refine zv_topi (zn_ix4 k r) ?_
    refine zn_iald (pc := 26) C dSh_remainder_26 (by first | assumption | exact zu_s | (refine (zu_n (by assumption)).trans ?_; first | assumption | exact zu_s)) (by omega) (by omega) ?_
    refine zv_i2l (pc := 27) C dSh_remainder_27 ?_
    refine zv_lmul (pc := 28) C dSh_remainder_28 ?_
    refine zv_iload (pc := 29) C dSh_remainder_29 rfl ?_
    refine zv_i2l (pc := 31) C dSh_remainder_31 ?_
    refine zv_lrem (pc := 32) C dSh_remainder_32 (zn_l0 c9) ?_
    exact zv_lret (pc := 33) C hr dSh_remainder_33 (Nat.le_of_ble_eq_true rfl) (Nat.le_of_ble_eq_true rfl) (by simp [zPr, rM, c9])
  · refine zv_lconst (pc := 12) (v := 0) C dSh_remainder_12 (by decide) ?_
    refine zv_goto (pc := 13) (tgt := 33) C dSh_remainder_13 (by decide) ?_
    exact zv_lret (pc := 33) C hr dSh_remainder_33 (Nat.le_of_ble_eq_true rfl) (Nat.le_of_ble_eq_true rfl) (by simp [zPr, rM, c9])
set_option maxHeartbeats 4000000 in
set_option maxRecDepth 100000 in
theorem lSh_centsLeft {O : zO} {p : Program} {l : Launch} {e : Env} {s : State} {m : MethodId} {args : Array Value} {below : List Frame} {meth : Method} {c : Code} {Q : State → Prop} {G : zG} (hk : zK O l) (a0 k : Nat) {p1 p2 : Nat} {fp : Nat → Int32} (x : Int64) (C : zC O p l s m meth c RSh bSh_centsLeft 7) (hS : G a0 = some (oSh p1 p2)) (hp : G p1 = some (zI O 24 fp)) (hk6 : k < 6) (kk : zV O p l e rmSh_centsLeft s m args below meth c 7 Q 31 [(0, .ref a0), (1, .int (nI k)), (2, .long x), (4, .long (cL fp k x 4)), (6, .int (nI 4))] [] G 0 0) : ∀ i j : Nat, j + i = 4 → zV O p l e rmSh_centsLeft s m args below meth c 7 Q 6 [(0, .ref a0), (1, .int (nI k)), (2, .long x), (4, .long (cL fp k x j)), (6, .int (nI j))] [] G 0 0 := by
  intro i
  induction i with
  | zero =>
    intro j hj
    obtain rfl : j = 4 := by omega
    refine zv_iload (pc := 6) C dSh_centsLeft_6 rfl ?_
    refine zv_iconst (pc := 8) (v := 4) C dSh_centsLeft_8 (by decide) ?_
    refine zv_icmp_ge (pc := 9) (tgt := 31) C dSh_centsLeft_9 (by decide) (fun cX => ?_) (fun cX => absurd (nI_le (a := 4) (b := 4) (Nat.le_refl _) (by omega)) cX)
    exact kk
  | succ i ih =>
    intro j hj
    refine zv_iload (pc := 6) C dSh_centsLeft_6 rfl ?_
    refine zv_iconst (pc := 8) (v := 4) C dSh_centsLeft_8 (by decide) ?_
    refine zv_icmp_ge (pc := 9) (tgt := 31) C dSh_centsLeft_9 (by decide) (fun cX => absurd cX (nI_ge (a := j) (b := 4) (by omega) (by omega))) (fun cX => ?_)
    refine zv_lload (pc := 12) C dSh_centsLeft_12 rfl ?_
    refine zv_aload_n (pc := 14) C dSh_centsLeft_14 rfl ?_
    refine zv_iload_n (pc := 15) C dSh_centsLeft_15 rfl ?_
    refine zv_iload (pc := 16) C dSh_centsLeft_16 rfl ?_
    refine zv_lload_n (pc := 18) C dSh_centsLeft_18 rfl ?_
    refine zv_callV (pc := 19) C dSh_centsLeft_19 (cSh_wholeShare hk _ _ _ _ _ (by first | assumption | exact zu_s | (refine (zu_n (by assumption)).trans ?_; first | assumption | exact zu_s)) (by first | assumption | exact zu_s | (refine (zu_n (by assumption)).trans ?_; first | assumption | exact zu_s)) (by omega) (by omega)) gSh_28 ⟨rfl, rfl, ⟨Nat.le_of_ble_eq_true rfl, Nat.le_of_ble_eq_true rfl⟩, mSh_wholeShare⟩ rfl rfl (Nat.le_of_ble_eq_true rfl) (by first | assumption | exact zu_s | (refine (zu_n (by assumption)).trans ?_; first | assumption | exact zu_s)) rfl rfl ⟨Nat.le_of_ble_eq_true rfl, Nat.le_of_ble_eq_true rfl⟩ (fun _ _ h => h.elim) (fun v G' h => ?_)
    obtain ⟨rfl, rfl⟩ := h
    refine zv_lsub (pc := 22) C dSh_centsLeft_22 ?_
    refine zv_lstore (pc := 23) C dSh_centsLeft_23 (by decide) ?_
    refine zv_iinc (pc := 25) C dSh_centsLeft_25 rfl (zn_inc j) (by decide) ?_
    refine zv_goto (pc := 28) (tgt := 6) C dSh_centsLeft_28 (by decide) ?_
    exact zv_pick [0, 1, 2, 4, 6] rfl (ih (j + 1) (by omega))
set_option maxHeartbeats 4000000 in
set_option maxRecDepth 100000 in
theorem cSh_centsLeft {O : zO} {l : Launch} (hk : zK O l) (G : zG) (a0 k : Nat) {p1 p2 : Nat} {fp : Nat → Int32} (x : Int64) (hS : G a0 = some (oSh p1 p2)) (hp : G p1 = some (zI O 24 fp)) (hk6 : k < 6) : zM O l ySh_centsLeft [Cond.code ySh_centsLeft bSh_centsLeft 7 (some .long)] rmSh_centsLeft [.ref a0, .int (nI k), .long x] G 0 0 (zPr (.long (cL fp k x 4)) G) zNo := by
  refine zm_of hk (by decide) (Nat.le_of_ble_eq_true rfl) ?_
  intro p e s m below meth c C hex hr hnm
  refine zv_lload_n (pc := 0) C dSh_centsLeft_0 rfl ?_
  refine zv_lstore (pc := 1) C dSh_centsLeft_1 (by decide) ?_
  refine zv_iconst (pc := 3) (v := 0) C dSh_centsLeft_3 (by decide) ?_
  refine zv_istore (pc := 4) C dSh_centsLeft_4 (by decide) ?_
  refine zv_pick [0, 1, 2, 4, 6] rfl (lSh_centsLeft hk a0 k x C hS hp hk6 ?_ 4 0 (by omega))
  refine zv_lload (pc := 31) C dSh_centsLeft_31 rfl ?_
  exact zv_lret (pc := 33) C hr dSh_centsLeft_33 (Nat.le_of_ble_eq_true rfl) (Nat.le_of_ble_eq_true rfl) (by exact ⟨rfl, rfl⟩)
set_option maxHeartbeats 4000000 in
set_option maxRecDepth 100000 in
theorem lSh_placeByRemainder {O : zO} {p : Program} {l : Launch} {e : Env} {s : State} {m : MethodId} {args : Array Value} {below : List Frame} {meth : Method} {c : Code} {Q : State → Prop} {G : zG} (hk : zK O l) (a0 k r : Nat) {p1 p2 : Nat} {fp : Nat → Int32} (x : Int64) (C : zC O p l s m meth c RSh bSh_placeByRemainder 11) (hS : G a0 = some (oSh p1 p2)) (hp : G p1 = some (zI O 24 fp)) (hk6 : k < 6) (hr4 : r < 4) (kk : zV O p l e rmSh_placeByRemainder s m args below meth c 11 Q 62 [(0, .ref a0), (1, .int (nI k)), (2, .int (nI r)), (3, .long x), (5, .long (rM fp k r x)), (7, .int (plc fp k r x 4)), (8, .int (nI 4))] [] G 0 0) : ∀ i j : Nat, j + i = 4 → zV O p l e rmSh_placeByRemainder s m args below meth c 11 Q 15 [(0, .ref a0), (1, .int (nI k)), (2, .int (nI r)), (3, .long x), (5, .long (rM fp k r x)), (7, .int (plc fp k r x j)), (8, .int (nI j))] [] G 0 0 := by
  intro i
  induction i with
  | zero =>
    intro j hj
    obtain rfl : j = 4 := by omega
    refine zv_iload (pc := 15) C dSh_placeByRemainder_15 rfl ?_
    refine zv_iconst (pc := 17) (v := 4) C dSh_placeByRemainder_17 (by decide) ?_
    refine zv_icmp_ge (pc := 18) (tgt := 62) C dSh_placeByRemainder_18 (by decide) (fun cX => ?_) (fun cX => absurd (nI_le (a := 4) (b := 4) (Nat.le_refl _) (by omega)) cX)
    exact kk
  | succ i ih =>
    intro j hj
    refine zv_iload (pc := 15) C dSh_placeByRemainder_15 rfl ?_
    refine zv_iconst (pc := 17) (v := 4) C dSh_placeByRemainder_17 (by decide) ?_
    refine zv_icmp_ge (pc := 18) (tgt := 62) C dSh_placeByRemainder_18 (by decide) (fun cX => absurd cX (nI_ge (a := j) (b := 4) (by omega) (by omega))) (fun cX => ?_)
    refine zv_aload_n (pc := 21) C dSh_placeByRemainder_21 rfl ?_
    refine zv_iload_n (pc := 22) C dSh_placeByRemainder_22 rfl ?_
    refine zv_iload (pc := 23) C dSh_placeByRemainder_23 rfl ?_
    refine zv_lload_n (pc := 25) C dSh_placeByRemainder_25 rfl ?_
    refine zv_callV (pc := 26) C dSh_placeByRemainder_26 (cSh_remainder hk _ _ _ _ _ (by first | assumption | exact zu_s | (refine (zu_n (by assumption)).trans ?_; first | assumption | exact zu_s)) (by first | assumption | exact zu_s | (refine (zu_n (by assumption)).trans ?_; first | assumption | exact zu_s)) (by omega) (by omega)) gSh_39 ⟨rfl, rfl, ⟨Nat.le_of_ble_eq_true rfl, Nat.le_of_ble_eq_true rfl⟩, mSh_remainder⟩ rfl rfl (Nat.le_of_ble_eq_true rfl) (by first | assumption | exact zu_s | (refine (zu_n (by assumption)).trans ?_; first | assumption | exact zu_s)) rfl rfl ⟨Nat.le_of_ble_eq_true rfl, Nat.le_of_ble_eq_true rfl⟩ (fun _ _ h => h.elim) (fun v G' h => ?_)
    obtain ⟨rfl, rfl⟩ := h
    refine zv_lstore (pc := 29) C dSh_placeByRemainder_29 (by decide) ?_
    refine zv_lload (pc := 31) C dSh_placeByRemainder_31 rfl ?_
    refine zv_lload (pc := 33) C dSh_placeByRemainder_33 rfl ?_
    refine zv_lcmp (pc := 35) C dSh_placeByRemainder_35 ?_
    refine zv_if_gt (pc := 36) (tgt := 53) C dSh_placeByRemainder_36 (by decide) (fun c36 => ?_) (fun c36 => ?_)
    · refine zv_iinc (pc := 53) (v := plc fp k r x j + 1) C dSh_placeByRemainder_53 rfl (by rw [lit1]) (by decide) ?_
      refine zv_iinc (pc := 56) C dSh_placeByRemainder_56 rfl (zn_inc j) (by decide) ?_
      refine zv_goto (pc := 59) (tgt := 15) C dSh_placeByRemainder_59 (by decide) ?_
      exact zv_pick [0, 1, 2, 3, 5, 7, 8] rfl (by
        have h := ih (j + 1) (by omega)
        simp only [lg_cmp_gt, lg_cmp_eq] at c36
        first
          | (have hB : plB fp k r x j = true := by simp [plB, c36]
             simp only [plc, hB, if_true] at h
             exact h)
          | (have hB : plB fp k r x j = false := by simp [plB, c36]
             simp only [plc, hB, Bool.false_eq_true, if_false] at h
             exact h))
    · refine zv_lload (pc := 39) C dSh_placeByRemainder_39 rfl ?_
      refine zv_lload (pc := 41) C dSh_placeByRemainder_41 rfl ?_
      refine zv_lcmp (pc := 43) C dSh_placeByRemainder_43 ?_
      refine zv_if_ne (pc := 44) (tgt := 56) C dSh_placeByRemainder_44 (by decide) (fun c44 => ?_) (fun c44 => ?_)
      · refine zv_iinc (pc := 56) C dSh_placeByRemainder_56 rfl (zn_inc j) (by decide) ?_
        refine zv_goto (pc := 59) (tgt := 15) C dSh_placeByRemainder_59 (by decide) ?_
        exact zv_pick [0, 1, 2, 3, 5, 7, 8] rfl (by
          have h := ih (j + 1) (by omega)
          simp only [lg_cmp_gt, lg_cmp_eq] at c36 c44
          first
            | (have hB : plB fp k r x j = true := by simp [plB, c36, c44]
               simp only [plc, hB, if_true] at h
               exact h)
            | (have hB : plB fp k r x j = false := by simp [plB, c36, c44]
               simp only [plc, hB, Bool.false_eq_true, if_false] at h
               exact h))
      · refine zv_iload (pc := 47) C dSh_placeByRemainder_47 rfl ?_
        refine zv_iload_n (pc := 49) C dSh_placeByRemainder_49 rfl ?_
        refine zv_icmp_ge (pc := 50) (tgt := 56) C dSh_placeByRemainder_50 (by decide) (fun c50 => ?_) (fun c50 => ?_)
        · refine zv_iinc (pc := 56) C dSh_placeByRemainder_56 rfl (zn_inc j) (by decide) ?_
          refine zv_goto (pc := 59) (tgt := 15) C dSh_placeByRemainder_59 (by decide) ?_
          exact zv_pick [0, 1, 2, 3, 5, 7, 8] rfl (by
            have h := ih (j + 1) (by omega)
            simp only [lg_cmp_gt, lg_cmp_eq] at c36 c44
            first
              | (have hB : plB fp k r x j = true := by simp [plB, c36, c44, c50]
                 simp only [plc, hB, if_true] at h
                 exact h)
              | (have hB : plB fp k r x j = false := by simp [plB, c36, c44, c50]
                 simp only [plc, hB, Bool.false_eq_true, if_false] at h
                 exact h))
        · refine zv_iinc (pc := 53) (v := plc fp k r x j + 1) C dSh_placeByRemainder_53 rfl (by rw [lit1]) (by decide) ?_
          refine zv_iinc (pc := 56) C dSh_placeByRemainder_56 rfl (zn_inc j) (by decide) ?_
          refine zv_goto (pc := 59) (tgt := 15) C dSh_placeByRemainder_59 (by decide) ?_
          exact zv_pick [0, 1, 2, 3, 5, 7, 8] rfl (by
            have h := ih (j + 1) (by omega)
            simp only [lg_cmp_gt, lg_cmp_eq] at c36 c44
            first
              | (have hB : plB fp k r x j = true := by simp [plB, c36, c44, c50]
                 simp only [plc, hB, if_true] at h
                 exact h)
              | (have hB : plB fp k r x j = false := by simp [plB, c36, c44, c50]
                 simp only [plc, hB, Bool.false_eq_true, if_false] at h
                 exact h))
set_option maxHeartbeats 4000000 in
set_option maxRecDepth 100000 in
theorem cSh_placeByRemainder {O : zO} {l : Launch} (hk : zK O l) (G : zG) (a0 k r : Nat) {p1 p2 : Nat} {fp : Nat → Int32} (x : Int64) (hS : G a0 = some (oSh p1 p2)) (hp : G p1 = some (zI O 24 fp)) (hk6 : k < 6) (hr4 : r < 4) : zM O l ySh_placeByRemainder [Cond.code ySh_placeByRemainder bSh_placeByRemainder 11 (some .int)] rmSh_placeByRemainder [.ref a0, .int (nI k), .int (nI r), .long x] G 0 0 (zPr (.int (plc fp k r x 4)) G) zNo := by
  refine zm_of hk (by decide) (Nat.le_of_ble_eq_true rfl) ?_
  intro p e s m below meth c C hex hr hnm
  refine zv_aload_n (pc := 0) C dSh_placeByRemainder_0 rfl ?_
  refine zv_iload_n (pc := 1) C dSh_placeByRemainder_1 rfl ?_
  refine zv_iload_n (pc := 2) C dSh_placeByRemainder_2 rfl ?_
  refine zv_lload_n (pc := 3) C dSh_placeByRemainder_3 rfl ?_
  refine zv_callV (pc := 4) C dSh_placeByRemainder_4 (cSh_remainder hk _ _ _ _ _ (by first | assumption | exact zu_s | (refine (zu_n (by assumption)).trans ?_; first | assumption | exact zu_s)) (by first | assumption | exact zu_s | (refine (zu_n (by assumption)).trans ?_; first | assumption | exact zu_s)) (by omega) (by omega)) gSh_39 ⟨rfl, rfl, ⟨Nat.le_of_ble_eq_true rfl, Nat.le_of_ble_eq_true rfl⟩, mSh_remainder⟩ rfl rfl (Nat.le_of_ble_eq_true rfl) (by first | assumption | exact zu_s | (refine (zu_n (by assumption)).trans ?_; first | assumption | exact zu_s)) rfl rfl ⟨Nat.le_of_ble_eq_true rfl, Nat.le_of_ble_eq_true rfl⟩ (fun _ _ h => h.elim) (fun v G' h => ?_)
  obtain ⟨rfl, rfl⟩ := h
  refine zv_lstore (pc := 7) C dSh_placeByRemainder_7 (by decide) ?_
  refine zv_iconst (pc := 9) (v := 0) C dSh_placeByRemainder_9 (by decide) ?_
  refine zv_istore (pc := 10) C dSh_placeByRemainder_10 (by decide) ?_
  refine zv_iconst (pc := 12) (v := 0) C dSh_placeByRemainder_12 (by decide) ?_
  refine zv_istore (pc := 13) C dSh_placeByRemainder_13 (by decide) ?_
  refine zv_pick [0, 1, 2, 3, 5, 7, 8] rfl (lSh_placeByRemainder hk a0 k r x C hS hp hk6 hr4 ?_ 4 0 (by omega))
  refine zv_iload (pc := 62) C dSh_placeByRemainder_62 rfl ?_
  exact zv_iret (pc := 64) C hr dSh_placeByRemainder_64 (Nat.le_of_ble_eq_true rfl) (Nat.le_of_ble_eq_true rfl) (by exact ⟨rfl, rfl⟩)
set_option maxHeartbeats 4000000 in
set_option maxRecDepth 100000 in
theorem cSh_shareOf {O : zO} {l : Launch} (hk : zK O l) (G : zG) (a0 k r : Nat) {p1 p2 : Nat} {fp : Nat → Int32} (x : Int64) (hS : G a0 = some (oSh p1 p2)) (hp : G p1 = some (zI O 24 fp)) (hk6 : k < 6) (hr4 : r < 4) : zM O l ySh_shareOf [Cond.code ySh_shareOf bSh_shareOf 7 (some .long)] rmSh_shareOf [.ref a0, .int (nI k), .int (nI r), .long x] G 0 0 (zPr (.long (shr fp k r x)) G) zNo := by
  refine zm_of hk (by decide) (Nat.le_of_ble_eq_true rfl) ?_
  intro p e s m below meth c C hex hr hnm
  refine zv_aload_n (pc := 0) C dSh_shareOf_0 rfl ?_
  refine zv_iload_n (pc := 1) C dSh_shareOf_1 rfl ?_
  refine zv_callV (pc := 2) C dSh_shareOf_2 (cSh_allParts hk _ _ _ (by first | assumption | exact zu_s | (refine (zu_n (by assumption)).trans ?_; first | assumption | exact zu_s)) (by first | assumption | exact zu_s | (refine (zu_n (by assumption)).trans ?_; first | assumption | exact zu_s)) (by omega)) gSh_24 ⟨rfl, rfl, ⟨Nat.le_of_ble_eq_true rfl, Nat.le_of_ble_eq_true rfl⟩, mSh_allParts⟩ rfl rfl (Nat.le_of_ble_eq_true rfl) (by first | assumption | exact zu_s | (refine (zu_n (by assumption)).trans ?_; first | assumption | exact zu_s)) rfl rfl ⟨Nat.le_of_ble_eq_true rfl, Nat.le_of_ble_eq_true rfl⟩ (fun _ _ h => h.elim) (fun v G' h => ?_)
  obtain ⟨rfl, rfl⟩ := h
  refine zv_if_ne (pc := 5) (tgt := 10) C dSh_shareOf_5 (by decide) (fun c5 => ?_) (fun c5 => ?_)
  · refine zv_aload_n (pc := 10) C dSh_shareOf_10 rfl ?_
    refine zv_iload_n (pc := 11) C dSh_shareOf_11 rfl ?_
    refine zv_iload_n (pc := 12) C dSh_shareOf_12 rfl ?_
    refine zv_lload_n (pc := 13) C dSh_shareOf_13 rfl ?_
    refine zv_callV (pc := 14) C dSh_shareOf_14 (cSh_wholeShare hk _ _ _ _ _ (by first | assumption | exact zu_s | (refine (zu_n (by assumption)).trans ?_; first | assumption | exact zu_s)) (by first | assumption | exact zu_s | (refine (zu_n (by assumption)).trans ?_; first | assumption | exact zu_s)) (by omega) (by omega)) gSh_28 ⟨rfl, rfl, ⟨Nat.le_of_ble_eq_true rfl, Nat.le_of_ble_eq_true rfl⟩, mSh_wholeShare⟩ rfl rfl (Nat.le_of_ble_eq_true rfl) (by first | assumption | exact zu_s | (refine (zu_n (by assumption)).trans ?_; first | assumption | exact zu_s)) rfl rfl ⟨Nat.le_of_ble_eq_true rfl, Nat.le_of_ble_eq_true rfl⟩ (fun _ _ h => h.elim) (fun v G' h => ?_)
    obtain ⟨rfl, rfl⟩ := h
    refine zv_lstore (pc := 17) C dSh_shareOf_17 (by decide) ?_
    refine zv_aload_n (pc := 19) C dSh_shareOf_19 rfl ?_
    refine zv_iload_n (pc := 20) C dSh_shareOf_20 rfl ?_
    refine zv_iload_n (pc := 21) C dSh_shareOf_21 rfl ?_
    refine zv_lload_n (pc := 22) C dSh_shareOf_22 rfl ?_
    refine zv_callV (pc := 23) C dSh_shareOf_23 (cSh_placeByRemainder hk _ _ _ _ _ (by first | assumption | exact zu_s | (refine (zu_n (by assumption)).trans ?_; first | assumption | exact zu_s)) (by first | assumption | exact zu_s | (refine (zu_n (by assumption)).trans ?_; first | assumption | exact zu_s)) (by omega) (by omega)) gSh_31 ⟨rfl, rfl, ⟨Nat.le_of_ble_eq_true rfl, Nat.le_of_ble_eq_true rfl⟩, mSh_placeByRemainder⟩ rfl rfl (Nat.le_of_ble_eq_true rfl) (by first | assumption | exact zu_s | (refine (zu_n (by assumption)).trans ?_; first | assumption | exact zu_s)) rfl rfl ⟨Nat.le_of_ble_eq_true rfl, Nat.le_of_ble_eq_true rfl⟩ (fun _ _ h => h.elim) (fun v G' h => ?_)
    obtain ⟨rfl, rfl⟩ := h
    refine zv_i2l (pc := 26) C dSh_shareOf_26 ?_
    refine zv_aload_n (pc := 27) C dSh_shareOf_27 rfl ?_
    refine zv_iload_n (pc := 28) C dSh_shareOf_28 rfl ?_
    refine zv_lload_n (pc := 29) C dSh_shareOf_29 rfl ?_
    refine zv_callV (pc := 30) C dSh_shareOf_30 (cSh_centsLeft hk _ _ _ _ (by first | assumption | exact zu_s | (refine (zu_n (by assumption)).trans ?_; first | assumption | exact zu_s)) (by first | assumption | exact zu_s | (refine (zu_n (by assumption)).trans ?_; first | assumption | exact zu_s)) (by omega)) gSh_35 ⟨rfl, rfl, ⟨Nat.le_of_ble_eq_true rfl, Nat.le_of_ble_eq_true rfl⟩, mSh_centsLeft⟩ rfl rfl (Nat.le_of_ble_eq_true rfl) (by first | assumption | exact zu_s | (refine (zu_n (by assumption)).trans ?_; first | assumption | exact zu_s)) rfl rfl ⟨Nat.le_of_ble_eq_true rfl, Nat.le_of_ble_eq_true rfl⟩ (fun _ _ h => h.elim) (fun v G' h => ?_)
    obtain ⟨rfl, rfl⟩ := h
    refine zv_lcmp (pc := 33) C dSh_shareOf_33 ?_
    refine zv_if_ge (pc := 34) (tgt := 44) C dSh_shareOf_34 (by decide) (fun c34 => ?_) (fun c34 => ?_)
    · refine zv_lload (pc := 44) C dSh_shareOf_44 rfl ?_
      exact zv_lret (pc := 46) C hr dSh_shareOf_46 (Nat.le_of_ble_eq_true rfl) (Nat.le_of_ble_eq_true rfl) (by first | (have c5n := c5; have c := (lg_cmp_ge _ _).mp c34; simp [zPr, shr, c5n, Int64.not_lt.mpr c]) | (have c5n := c5; have c := fun h => c34 ((lg_cmp_ge _ _).mpr h); simp [zPr, shr, c5n, Int64.not_le.mp c]))
    · refine zv_lload (pc := 37) C dSh_shareOf_37 rfl ?_
      refine zv_lconst (pc := 39) (v := 1) C dSh_shareOf_39 (by decide) ?_
      refine zv_ladd (pc := 40) C dSh_shareOf_40 ?_
      refine zv_goto (pc := 41) (tgt := 46) C dSh_shareOf_41 (by decide) ?_
      exact zv_lret (pc := 46) C hr dSh_shareOf_46 (Nat.le_of_ble_eq_true rfl) (Nat.le_of_ble_eq_true rfl) (by first | (have c5n := c5; have c := (lg_cmp_ge _ _).mp c34; simp [zPr, shr, c5n, Int64.not_lt.mpr c]) | (have c5n := c5; have c := fun h => c34 ((lg_cmp_ge _ _).mpr h); simp [zPr, shr, c5n, Int64.not_le.mp c]))
  · refine zv_lconst (pc := 8) (v := 0) C dSh_shareOf_8 (by decide) ?_
    exact zv_lret (pc := 9) C hr dSh_shareOf_9 (Nat.le_of_ble_eq_true rfl) (Nat.le_of_ble_eq_true rfl) (by simp [zPr, shr, c5])
set_option maxHeartbeats 4000000 in
set_option maxRecDepth 100000 in
theorem lSh_allShares {O : zO} {p : Program} {l : Launch} {e : Env} {s : State} {m : MethodId} {args : Array Value} {below : List Frame} {meth : Method} {c : Code} {Q : State → Prop} {G : zG} (hk : zK O l) (a0 k : Nat) {p1 p2 : Nat} {fp : Nat → Int32} (x : Int64) (C : zC O p l s m meth c RSh bSh_allShares 7) (hS : G a0 = some (oSh p1 p2)) (hp : G p1 = some (zI O 24 fp)) (hk6 : k < 6) (kk : zV O p l e rmSh_allShares s m args below meth c 7 Q 31 [(0, .ref a0), (1, .int (nI k)), (2, .long x), (4, .long (shA fp k x 4)), (6, .int (nI 4))] [] G 0 0) : ∀ i j : Nat, j + i = 4 → zV O p l e rmSh_allShares s m args below meth c 7 Q 6 [(0, .ref a0), (1, .int (nI k)), (2, .long x), (4, .long (shA fp k x j)), (6, .int (nI j))] [] G 0 0 := by
  intro i
  induction i with
  | zero =>
    intro j hj
    obtain rfl : j = 4 := by omega
    refine zv_iload (pc := 6) C dSh_allShares_6 rfl ?_
    refine zv_iconst (pc := 8) (v := 4) C dSh_allShares_8 (by decide) ?_
    refine zv_icmp_ge (pc := 9) (tgt := 31) C dSh_allShares_9 (by decide) (fun cX => ?_) (fun cX => absurd (nI_le (a := 4) (b := 4) (Nat.le_refl _) (by omega)) cX)
    exact kk
  | succ i ih =>
    intro j hj
    refine zv_iload (pc := 6) C dSh_allShares_6 rfl ?_
    refine zv_iconst (pc := 8) (v := 4) C dSh_allShares_8 (by decide) ?_
    refine zv_icmp_ge (pc := 9) (tgt := 31) C dSh_allShares_9 (by decide) (fun cX => absurd cX (nI_ge (a := j) (b := 4) (by omega) (by omega))) (fun cX => ?_)
    refine zv_lload (pc := 12) C dSh_allShares_12 rfl ?_
    refine zv_aload_n (pc := 14) C dSh_allShares_14 rfl ?_
    refine zv_iload_n (pc := 15) C dSh_allShares_15 rfl ?_
    refine zv_iload (pc := 16) C dSh_allShares_16 rfl ?_
    refine zv_lload_n (pc := 18) C dSh_allShares_18 rfl ?_
    refine zv_callV (pc := 19) C dSh_allShares_19 (cSh_shareOf hk _ _ _ _ _ (by first | assumption | exact zu_s | (refine (zu_n (by assumption)).trans ?_; first | assumption | exact zu_s)) (by first | assumption | exact zu_s | (refine (zu_n (by assumption)).trans ?_; first | assumption | exact zu_s)) (by omega) (by omega)) gSh_20 ⟨rfl, rfl, ⟨Nat.le_of_ble_eq_true rfl, Nat.le_of_ble_eq_true rfl⟩, mSh_shareOf⟩ rfl rfl (Nat.le_of_ble_eq_true rfl) (by first | assumption | exact zu_s | (refine (zu_n (by assumption)).trans ?_; first | assumption | exact zu_s)) rfl rfl ⟨Nat.le_of_ble_eq_true rfl, Nat.le_of_ble_eq_true rfl⟩ (fun _ _ h => h.elim) (fun v G' h => ?_)
    obtain ⟨rfl, rfl⟩ := h
    refine zv_ladd (pc := 22) C dSh_allShares_22 ?_
    refine zv_lstore (pc := 23) C dSh_allShares_23 (by decide) ?_
    refine zv_iinc (pc := 25) C dSh_allShares_25 rfl (zn_inc j) (by decide) ?_
    refine zv_goto (pc := 28) (tgt := 6) C dSh_allShares_28 (by decide) ?_
    exact zv_pick [0, 1, 2, 4, 6] rfl (ih (j + 1) (by omega))
set_option maxHeartbeats 4000000 in
set_option maxRecDepth 100000 in
theorem cSh_allShares {O : zO} {l : Launch} (hk : zK O l) (G : zG) (a0 k : Nat) {p1 p2 : Nat} {fp : Nat → Int32} (x : Int64) (hS : G a0 = some (oSh p1 p2)) (hp : G p1 = some (zI O 24 fp)) (hk6 : k < 6) : zM O l ySh_allShares [Cond.code ySh_allShares bSh_allShares 7 (some .long)] rmSh_allShares [.ref a0, .int (nI k), .long x] G 0 0 (zPr (.long (shA fp k x 4)) G) zNo := by
  refine zm_of hk (by decide) (Nat.le_of_ble_eq_true rfl) ?_
  intro p e s m below meth c C hex hr hnm
  refine zv_lconst (pc := 0) (v := 0) C dSh_allShares_0 (by decide) ?_
  refine zv_lstore (pc := 1) C dSh_allShares_1 (by decide) ?_
  refine zv_iconst (pc := 3) (v := 0) C dSh_allShares_3 (by decide) ?_
  refine zv_istore (pc := 4) C dSh_allShares_4 (by decide) ?_
  refine zv_pick [0, 1, 2, 4, 6] rfl (lSh_allShares hk a0 k x C hS hp hk6 ?_ 4 0 (by omega))
  refine zv_lload (pc := 31) C dSh_allShares_31 rfl ?_
  exact zv_lret (pc := 33) C hr dSh_allShares_33 (Nat.le_of_ble_eq_true rfl) (Nat.le_of_ble_eq_true rfl) (by exact ⟨rfl, rfl⟩)
set_option maxHeartbeats 4000000 in
set_option maxRecDepth 100000 in
theorem cSh_costOf {O : zO} {l : Launch} (hk : zK O l) (G : zG) (a0 k : Nat) {p1 p2 : Nat} {fq : Nat → Int32} (x : Int64) (hS : G a0 = some (oSh p1 p2)) (hp : G p2 = some (zI O 6 fq)) (hk6 : k < 6) : zM O l ySh_costOf [Cond.code ySh_costOf bSh_costOf 4 (some .long)] rmSh_costOf [.ref a0, .int (nI k), .long x] G 0 0 (zPr (.long (x * (fq k).toInt64 / 1000)) G) zNo := by
  refine zm_of hk (by decide) (Nat.le_of_ble_eq_true rfl) ?_
  intro p e s m below meth c C hex hr hnm
  refine zv_lload_n (pc := 0) C dSh_costOf_0 rfl ?_
  refine zv_aload_n (pc := 1) C dSh_costOf_1 rfl ?_
  refine zv_get (pc := 2) C dSh_costOf_2 fSh_15 (by first | assumption | exact zu_s | (refine (zu_n (by assumption)).trans ?_; first | assumption | exact zu_s)) rfl ?_
  refine zv_iload_n (pc := 5) C dSh_costOf_5 rfl ?_
  refine zn_iald (pc := 6) C dSh_costOf_6 (by first | assumption | exact zu_s | (refine (zu_n (by assumption)).trans ?_; first | assumption | exact zu_s)) (by omega) (by omega) ?_
  refine zv_i2l (pc := 7) C dSh_costOf_7 ?_
  refine zv_lmul (pc := 8) C dSh_costOf_8 ?_
  refine zv_ldc2 (pc := 9) C dSh_costOf_9 zw_479 ?_
  refine zv_ldiv (pc := 12) C dSh_costOf_12 (by decide) ?_
  exact zv_lret (pc := 13) C hr dSh_costOf_13 (Nat.le_of_ble_eq_true rfl) (Nat.le_of_ble_eq_true rfl) (by exact ⟨rfl, rfl⟩)
