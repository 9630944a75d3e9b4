/-! the objects of the class -/
abbrev oBa (vd kd rv : Int32) (aa ac : Nat) (sz sa rb tf : Int32) : va_E := .inr (0, [.int vd, .int kd, .int rv, .ref aa, .ref ac, .int sz, .int sa, .int rb, .int tf])
abbrev oBk (b1 b2 b3 b4 b5 : Nat) (sz hd : Int32) : va_E := .inr (1, [.ref b1, .ref b2, .ref b3, .ref b4, .ref b5, .int sz, .int hd])
abbrev oSh (p1 p2 : Nat) : va_E := .inr (2, [.ref p1, .ref p2])
abbrev oDu (d1 d2 d3 d4 : Nat) (na nb cd lk wr nm fl : Int32) : va_E := .inr (3, [.ref d1, .int na, .ref d2, .int nb, .ref d3, .ref d4, .int cd, .int lk, .int wr, .int nm, .int fl])
def sumL (fc : Nat → Int64) : Nat → Int64
  | 0 => 0
  | j + 1 => sumL fc j + fc j
def sumA (fa : Nat → Int32) (fc : Nat → Int64) (x : Int32) : Nat → Int64
  | 0 => 0
  | j + 1 => if decide (fa j = x) then sumA fa fc x j + fc j else sumA fa fc x j
def rowB (fa fv fk : Nat → Int32) (x v1 v2 k1 : Int32) (j : Nat) : Bool := decide (fa j = x) && !(decide (fv j < v1)) && !(decide (v2 < fv j)) && !(decide (k1 < fk j))
def sumF (fa fv fk : Nat → Int32) (fc : Nat → Int64) (x v1 v2 k1 : Int32) : Nat → Int64
  | 0 => 0
  | j + 1 => if rowB fa fv fk x v1 v2 k1 j then sumF fa fv fk fc x v1 v2 k1 j + fc j else sumF fa fv fk fc x v1 v2 k1 j
set_option maxHeartbeats 4000000 in
set_option maxRecDepth 100000 in
theorem cDu_isAccount {O : zO} {l : Launch} (hk : zK O l) (G : zG) (a0 : Nat) {d1 d2 d3 d4 : Nat} {na nb cd lk wr nm fl : Int32} (x : Int32) (hD : G a0 = some (oDu d1 d2 d3 d4 na nb cd lk wr nm fl)) : zM O l yDu_isAccount [Cond.code yDu_isAccount bDu_isAccount 2 (some .boolean)] rmDu_isAccount [.ref a0, .int x] G 0 0 (zPr (.int (zb (isAccB x na))) G) zNo := by
  refine zm_of hk (by decide) (Nat.le_of_ble_eq_true rfl) ?_
  intro p e s m below meth c C hex hr hnm
  refine zv_iload_n (pc := 0) C dDu_isAccount_0 rfl ?_
  refine zv_if_lt (pc := 1) (tgt := 16) C dDu_isAccount_1 (by decide) (fun c1 => ?_) (fun c1 => ?_)
  · refine zv_iconst (pc := 16) (v := 0) C dDu_isAccount_16 (by decide) ?_
    exact zv_zret (pc := 17) C hr (by first | rfl | exact zb_nar _) dDu_isAccount_17 (Nat.le_of_ble_eq_true rfl) (Nat.le_of_ble_eq_true rfl) (by simp_all [zPr, zb, isAccB])
  · refine zv_iload_n (pc := 4) C dDu_isAccount_4 rfl ?_
    refine zv_aload_n (pc := 5) C dDu_isAccount_5 rfl ?_
    refine zv_get (pc := 6) C dDu_isAccount_6 fDu_13 (by first | assumption | exact zu_s | (refine (zu_n (by assumption)).trans ?_; first | assumption | exact zu_s)) rfl ?_
    refine zv_icmp_ge (pc := 9) (tgt := 16) C dDu_isAccount_9 (by decide) (fun c9 => ?_) (fun c9 => ?_)
    · refine zv_iconst (pc := 16) (v := 0) C dDu_isAccount_16 (by decide) ?_
      exact zv_zret (pc := 17) C hr (by first | rfl | exact zb_nar _) dDu_isAccount_17 (Nat.le_of_ble_eq_true rfl) (Nat.le_of_ble_eq_true rfl) (by simp_all [zPr, zb, isAccB])
    · refine zv_iconst (pc := 12) (v := 1) C dDu_isAccount_12 (by decide) ?_
      refine zv_goto (pc := 13) (tgt := 17) C dDu_isAccount_13 (by decide) ?_
      exact zv_zret (pc := 17) C hr (by first | rfl | exact zb_nar _) dDu_isAccount_17 (Nat.le_of_ble_eq_true rfl) (Nat.le_of_ble_eq_true rfl) (by simp_all [zPr, zb, isAccB])
set_option maxHeartbeats 4000000 in
set_option maxRecDepth 100000 in
theorem lBa_sum {O : zO} {p : Program} {l : Launch} {e : Env} {R : Room} {s : State} {m : MethodId} {args : Array Value} {below : List Frame} {meth : Method} {c : Code} {Q : State → Prop} {G : zG} {kc ks : Nat} (a0 n : Nat) {vd kd rv : Int32} {aa ac : Nat} {sa rb tf : Int32} {fc : Nat → Int64} (C : zC O p l s m meth c RBa bBa_sum 4) (hB : G a0 = some (oBa vd kd rv aa ac (nI n) sa rb tf)) (hc : G ac = some (zJ O 20 fc)) (hn : n ≤ 20) (kk : zV O p l e R s m args below meth c 4 Q 27 [(0, .ref a0), (1, .long (sumL fc n)), (3, .int (nI n))] [] G kc ks) : ∀ k j : Nat, j + k = n → zV O p l e R s m args below meth c 4 Q 4 [(0, .ref a0), (1, .long (sumL fc j)), (3, .int (nI j))] [] G kc ks := by
  intro k
  induction k with
  | zero =>
    intro j hj
    obtain rfl : j = n := by omega
    refine zv_iload_n (pc := 4) C dBa_sum_4 rfl ?_
    refine zv_aload_n (pc := 5) C dBa_sum_5 rfl ?_
    refine zv_get (pc := 6) C dBa_sum_6 fBa_19 (by first | assumption | exact zu_s | (refine (zu_n (by assumption)).trans ?_; first | assumption | exact zu_s)) rfl ?_
    refine zv_icmp_ge (pc := 9) (tgt := 27) C dBa_sum_9 (by decide) (fun cX => ?_) (fun cX => absurd (nI_le (a := j) (b := j) (Nat.le_refl _) (by omega)) cX)
    exact kk
  | succ k ih =>
    intro j hj
    refine zv_iload_n (pc := 4) C dBa_sum_4 rfl ?_
    refine zv_aload_n (pc := 5) C dBa_sum_5 rfl ?_
    refine zv_get (pc := 6) C dBa_sum_6 fBa_19 (by first | assumption | exact zu_s | (refine (zu_n (by assumption)).trans ?_; first | assumption | exact zu_s)) rfl ?_
    refine zv_icmp_ge (pc := 9) (tgt := 27) C dBa_sum_9 (by decide) (fun cX => absurd cX (nI_ge (a := j) (b := n) (by omega) (by omega))) (fun cX => ?_)
    refine zv_lload_n (pc := 12) C dBa_sum_12 rfl ?_
    refine zv_aload_n (pc := 13) C dBa_sum_13 rfl ?_
    refine zv_get (pc := 14) C dBa_sum_14 fBa_15 (by first | assumption | exact zu_s | (refine (zu_n (by assumption)).trans ?_; first | assumption | exact zu_s)) rfl ?_
    refine zv_iload_n (pc := 17) C dBa_sum_17 rfl ?_
    refine zn_lald (pc := 18) C dBa_sum_18 (by first | assumption | exact zu_s | (refine (zu_n (by assumption)).trans ?_; first | assumption | exact zu_s)) (by omega) (by omega) ?_
    refine zv_ladd (pc := 19) C dBa_sum_19 ?_
    refine zv_lstore_n (pc := 20) C dBa_sum_20 (by decide) ?_
    refine zv_iinc (pc := 21) C dBa_sum_21 rfl (zn_inc j) (by decide) ?_
    refine zv_goto (pc := 24) (tgt := 4) C dBa_sum_24 (by decide) ?_
    exact zv_pick [0, 1, 3] rfl (ih (j + 1) (by omega))
set_option maxHeartbeats 4000000 in
set_option maxRecDepth 100000 in
theorem cBa_sum {O : zO} {l : Launch} (hk : zK O l) (G : zG) (a0 n : Nat) {vd kd rv : Int32} {aa ac : Nat} {sa rb tf : Int32} {fc : Nat → Int64} (hB : G a0 = some (oBa vd kd rv aa ac (nI n) sa rb tf)) (hc : G ac = some (zJ O 20 fc)) (hn : n ≤ 20) : zM O l yBa_sum [Cond.code yBa_sum bBa_sum 4 (some .long)] rmBa_sum [.ref a0] G 0 0 (zPr (.long (sumL fc n)) G) zNo := by
  refine zm_of hk (by decide) (Nat.le_of_ble_eq_true rfl) ?_
  intro p e s m below meth c C hex hr hnm
  refine zv_lconst (pc := 0) (v := 0) C dBa_sum_0 (by decide) ?_
  refine zv_lstore_n (pc := 1) C dBa_sum_1 (by decide) ?_
  refine zv_iconst (pc := 2) (v := 0) C dBa_sum_2 (by decide) ?_
  refine zv_istore_n (pc := 3) C dBa_sum_3 (by decide) ?_
  refine zv_pick [0, 1, 3] rfl (lBa_sum a0 n C hB hc hn ?_ n 0 (by omega))
  refine zv_lload_n (pc := 27) C dBa_sum_27 rfl ?_
  exact zv_lret (pc := 28) C hr dBa_sum_28 (Nat.le_of_ble_eq_true rfl) (Nat.le_of_ble_eq_true rfl) (by exact ⟨rfl, rfl⟩)
set_option maxHeartbeats 4000000 in
set_option maxRecDepth 100000 in
theorem lBa_sumOf {O : zO} {p : Program} {l : Launch} {e : Env} {R : Room} {s : State} {m : MethodId} {args : Array Value} {below : List Frame} {meth : Method} {c : Code} {Q : State → Prop} {G : zG} {kc ks : Nat} (a0 n : Nat) {vd kd rv : Int32} {aa ac : Nat} {sa rb tf : Int32} {fc : Nat → Int64} {fa : Nat → Int32} (x : Int32) (C : zC O p l s m meth c RBa bBa_sumOf 5) (hB : G a0 = some (oBa vd kd rv aa ac (nI n) sa rb tf)) (hc : G ac = some (zJ O 20 fc)) (hn : n ≤ 20) (ha : G aa = some (zI O 20 fa)) (kk : zV O p l e R s m args below meth c 5 Q 41 [(0, .ref a0), (1, .int x), (2, .long (sumA fa fc x n)), (4, .int (nI n))] [] G kc ks) : ∀ k j : Nat, j + k = n → zV O p l e R s m args below meth c 5 Q 5 [(0, .ref a0), (1, .int x), (2, .long (sumA fa fc x j)), (4, .int (nI j))] [] G kc ks := by
  intro k
  induction k with
  | zero =>
    intro j hj
    obtain rfl : j = n := by omega
    refine zv_iload (pc := 5) C dBa_sumOf_5 rfl ?_
    refine zv_aload_n (pc := 7) C dBa_sumOf_7 rfl ?_
    refine zv_get (pc := 8) C dBa_sumOf_8 fBa_19 (by first | assumption | exact zu_s | (refine (zu_n (by assumption)).trans ?_; first | assumption | exact zu_s)) rfl ?_
    refine zv_icmp_ge (pc := 11) (tgt := 41) C dBa_sumOf_11 (by decide) (fun cX => ?_) (fun cX => absurd (nI_le (a := j) (b := j) (Nat.le_refl _) (by omega)) cX)
    exact kk
  | succ k ih =>
    intro j hj
    refine zv_iload (pc := 5) C dBa_sumOf_5 rfl ?_
    refine zv_aload_n (pc := 7) C dBa_sumOf_7 rfl ?_
    refine zv_get (pc := 8) C dBa_sumOf_8 fBa_19 (by first | assumption | exact zu_s | (refine (zu_n (by assumption)).trans ?_; first | assumption | exact zu_s)) rfl ?_
    refine zv_icmp_ge (pc := 11) (tgt := 41) C dBa_sumOf_11 (by decide) (fun cX => absurd cX (nI_ge (a := j) (b := n) (by omega) (by omega))) (fun cX => ?_)
    refine zv_aload_n (pc := 14) C dBa_sumOf_14 rfl ?_
    refine zv_get (pc := 15) C dBa_sumOf_15 fBa_9 (by first | assumption | exact zu_s | (refine (zu_n (by assumption)).trans ?_; first | assumption | exact zu_s)) rfl ?_
    refine zv_iload (pc := 18) C dBa_sumOf_18 rfl ?_
    refine zn_iald (pc := 20) C dBa_sumOf_20 (by first | assumption | exact zu_s | (refine (zu_n (by assumption)).trans ?_; first | assumption | exact zu_s)) (by omega) (by omega) ?_
    refine zv_iload_n (pc := 21) C dBa_sumOf_21 rfl ?_
    refine zv_icmp_ne (pc := 22) (tgt := 35) C dBa_sumOf_22 (by decide) (fun c22 => ?_) (fun c22 => ?_)
    · refine zv_iinc (pc := 35) C dBa_sumOf_35 rfl (zn_inc j) (by decide) ?_
      refine zv_goto (pc := 38) (tgt := 5) C dBa_sumOf_38 (by decide) ?_
      exact zv_pick [0, 1, 2, 4] rfl (by
        have h := ih (j + 1) (by omega)
        first
          | (have hB : decide (fa j = x) = true := by simp [c22]
             simp only [sumA, hB, if_true] at h
             exact h)
          | (have hB : decide (fa j = x) = false := by simp [c22]
             simp only [sumA, hB, Bool.false_eq_true, if_false] at h
             exact h))
    · refine zv_lload_n (pc := 25) C dBa_sumOf_25 rfl ?_
      refine zv_aload_n (pc := 26) C dBa_sumOf_26 rfl ?_
      refine zv_get (pc := 27) C dBa_sumOf_27 fBa_15 (by first | assumption | exact zu_s | (refine (zu_n (by assumption)).trans ?_; first | assumption | exact zu_s)) rfl ?_
      refine zv_iload (pc := 30) C dBa_sumOf_30 rfl ?_
      refine zn_lald (pc := 32) C dBa_sumOf_32 (by first | assumption | exact zu_s | (refine (zu_n (by assumption)).trans ?_; first | assumption | exact zu_s)) (by omega) (by omega) ?_
      refine zv_ladd (pc := 33) C dBa_sumOf_33 ?_
      refine zv_lstore_n (pc := 34) C dBa_sumOf_34 (by decide) ?_
      refine zv_iinc (pc := 35) C dBa_sumOf_35 rfl (zn_inc j) (by decide) ?_
      refine zv_goto (pc := 38) (tgt := 5) C dBa_sumOf_38 (by decide) ?_
      exact zv_pick [0, 1, 2, 4] rfl (by
        have h := ih (j + 1) (by omega)
        first
          | (have hB : decide (fa j = x) = true := by simp [c22]
             simp only [sumA, hB, if_true] at h
             exact h)
          | (have hB : decide (fa j = x) = false := by simp [c22]
             simp only [sumA, hB, Bool.false_eq_true, if_false] at h
             exact h))
set_option maxHeartbeats 4000000 in
set_option maxRecDepth 100000 in
theorem cBa_sumOf {O : zO} {l : Launch} (hk : zK O l) (G : zG) (a0 n : Nat) {vd kd rv : Int32} {aa ac : Nat} {sa rb tf : Int32} {fc : Nat → Int64} {fa : Nat → Int32} (x : Int32) (hB : G a0 = some (oBa vd kd rv aa ac (nI n) sa rb tf)) (hc : G ac = some (zJ O 20 fc)) (hn : n ≤ 20) (ha : G aa = some (zI O 20 fa)) : zM O l yBa_sumOf [Cond.code yBa_sumOf bBa_sumOf 5 (some .long)] rmBa_sumOf [.ref a0, .int x] G 0 0 (zPr (.long (sumA fa fc x n)) G) zNo := by
  refine zm_of hk (by decide) (Nat.le_of_ble_eq_true rfl) ?_
  intro p e s m below meth c C hex hr hnm
  refine zv_lconst (pc := 0) (v := 0) C dBa_sumOf_0 (by decide) ?_
  refine zv_lstore_n (pc := 1) C dBa_sumOf_1 (by decide) ?_
  refine zv_iconst (pc := 2) (v := 0) C dBa_sumOf_2 (by decide) ?_
  refine zv_istore (pc := 3) C dBa_sumOf_3 (by decide) ?_
  refine zv_pick [0, 1, 2, 4] rfl (lBa_sumOf a0 n x C hB hc hn ha ?_ n 0 (by omega))
  refine zv_lload_n (pc := 41) C dBa_sumOf_41 rfl ?_
  exact zv_lret (pc := 42) C hr dBa_sumOf_42 (Nat.le_of_ble_eq_true rfl) (Nat.le_of_ble_eq_true rfl) (by exact ⟨rfl, rfl⟩)
set_option maxHeartbeats 4000000 in
set_option maxRecDepth 100000 in
theorem cBk_hasRoomFor {O : zO} {l : Launch} (hk : zK O l) (G : zG) (a0 n : Nat) {b1 b2 b3 b4 b5 : Nat} {hd : Int32} (x : Int32) (hB : G a0 = some (oBk b1 b2 b3 b4 b5 (nI n) hd)) : zM O l yBk_hasRoomFor [Cond.code yBk_hasRoomFor bBk_hasRoomFor 2 (some .boolean)] rmBk_hasRoomFor [.ref a0, .int x] G 0 0 (zPr (.int (zb (!(decide (400 - nI n < x))))) G) zNo := by
  refine zm_of hk (by decide) (Nat.le_of_ble_eq_true rfl) ?_
  intro p e s m below meth c C hex hr hnm
  refine zv_iload_n (pc := 0) C dBk_hasRoomFor_0 rfl ?_
  refine zv_sipush (pc := 1) (v := 400) C dBk_hasRoomFor_1 (by decide) ?_
  refine zv_aload_n (pc := 4) C dBk_hasRoomFor_4 rfl ?_
  refine zv_get (pc := 5) C dBk_hasRoomFor_5 fBk_28 (by first | assumption | exact zu_s | (refine (zu_n (by assumption)).trans ?_; first | assumption | exact zu_s)) rfl ?_
  refine zv_isub (pc := 8) C dBk_hasRoomFor_8 ?_
  refine zv_icmp_gt (pc := 9) (tgt := 16) C dBk_hasRoomFor_9 (by decide) (fun c9 => ?_) (fun c9 => ?_)
  · refine zv_iconst (pc := 16) (v := 0) C dBk_hasRoomFor_16 (by decide) ?_
    exact zv_zret (pc := 17) C hr (by first | rfl | exact zb_nar _) dBk_hasRoomFor_17 (Nat.le_of_ble_eq_true rfl) (Nat.le_of_ble_eq_true rfl) (by simp_all [zPr, zb])
  · refine zv_iconst (pc := 12) (v := 1) C dBk_hasRoomFor_12 (by decide) ?_
    refine zv_goto (pc := 13) (tgt := 17) C dBk_hasRoomFor_13 (by decide) ?_
    exact zv_zret (pc := 17) C hr (by first | rfl | exact zb_nar _) dBk_hasRoomFor_17 (Nat.le_of_ble_eq_true rfl) (Nat.le_of_ble_eq_true rfl) (by simp_all [zPr, zb])
set_option maxHeartbeats 4000000 in
set_option maxRecDepth 100000 in
theorem lBk_sum {O : zO} {p : Program} {l : Launch} {e : Env} {R : Room} {s : State} {m : MethodId} {args : Array Value} {below : List Frame} {meth : Method} {c : Code} {Q : State → Prop} {G : zG} {kc ks : Nat} (a0 n : Nat) {b1 b2 b3 b4 b5 : Nat} {hd : Int32} {fa fv fk : Nat → Int32} {fc : Nat → Int64} (x v1 v2 k1 : Int32) (C : zC O p l s m meth c RBk bBk_sum 8) (hB : G a0 = some (oBk b1 b2 b3 b4 b5 (nI n) hd)) (h2 : G b2 = some (zI O 400 fa)) (h3 : G b3 = some (zJ O 400 fc)) (h4 : G b4 = some (zI O 400 fv)) (h5 : G b5 = some (zI O 400 fk)) (hn : n ≤ 400) (kk : zV O p l e R s m args below meth c 8 Q 78 [(0, .ref a0), (1, .int x), (2, .int v1), (3, .int v2), (4, .int k1), (5, .long (sumF fa fv fk fc x v1 v2 k1 n)), (7, .int (nI n))] [] G kc ks) : ∀ k j : Nat, j + k = n → zV O p l e R s m args below meth c 8 Q 6 [(0, .ref a0), (1, .int x), (2, .int v1), (3, .int v2), (4, .int k1), (5, .long (sumF fa fv fk fc x v1 v2 k1 j)), (7, .int (nI j))] [] G kc ks := by
  intro k
  induction k with
  | zero =>
    intro j hj
    obtain rfl : j = n := by omega
    refine zv_iload (pc := 6) C dBk_sum_6 rfl ?_
    refine zv_aload_n (pc := 8) C dBk_sum_8 rfl ?_
    refine zv_get (pc := 9) C dBk_sum_9 fBk_28 (by first | assumption | exact zu_s | (refine (zu_n (by assumption)).trans ?_; first | assumption | exact zu_s)) rfl ?_
    refine zv_icmp_ge (pc := 12) (tgt := 78) C dBk_sum_12 (by decide) (fun cX => ?_) (fun cX => absurd (nI_le (a := j) (b := j) (Nat.le_refl _) (by omega)) cX)
    exact kk
  | succ k ih =>
    intro j hj
    refine zv_iload (pc := 6) C dBk_sum_6 rfl ?_
    refine zv_aload_n (pc := 8) C dBk_sum_8 rfl ?_
    refine zv_get (pc := 9) C dBk_sum_9 fBk_28 (by first | assumption | exact zu_s | (refine (zu_n (by assumption)).trans ?_; first | assumption | exact zu_s)) rfl ?_
    refine zv_icmp_ge (pc := 12) (tgt := 78) C dBk_sum_12 (by decide) (fun cX => absurd cX (nI_ge (a := j) (b := n) (by omega) (by omega))) (fun cX => ?_)
    refine zv_aload_n (pc := 15) C dBk_sum_15 rfl ?_
    refine zv_get (pc := 16) C dBk_sum_16 fBk_15 (by first | assumption | exact zu_s | (refine (zu_n (by assumption)).trans ?_; first | assumption | exact zu_s)) rfl ?_
    refine zv_iload (pc := 19) C dBk_sum_19 rfl ?_
    refine zn_iald (pc := 21) C dBk_sum_21 (by first | assumption | exact zu_s | (refine (zu_n (by assumption)).trans ?_; first | assumption | exact zu_s)) (by omega) (by omega) ?_
    refine zv_iload_n (pc := 22) C dBk_sum_22 rfl ?_
    refine zv_icmp_ne (pc := 23) (tgt := 72) C dBk_sum_23 (by decide) (fun c23 => ?_) (fun c23 => ?_)
    · refine zv_iinc (pc := 72) C dBk_sum_72 rfl (zn_inc j) (by decide) ?_
      refine zv_goto (pc := 75) (tgt := 6) C dBk_sum_75 (by decide) ?_
      exact zv_pick [0, 1, 2, 3, 4, 5, 7] rfl (by
        have h := ih (j + 1) (by omega)
        first
          | (have hB : rowB fa fv fk x v1 v2 k1 j = true := by simp [rowB, c23]
             simp only [sumF, hB, if_true] at h
             exact h)
          | (have hB : rowB fa fv fk x v1 v2 k1 j = false := by simp [rowB, c23]
             simp only [sumF, hB, Bool.false_eq_true, if_false] at h
             exact h))
    · refine zv_aload_n (pc := 26) C dBk_sum_26 rfl ?_
      refine zv_get (pc := 27) C dBk_sum_27 fBk_22 (by first | assumption | exact zu_s | (refine (zu_n (by assumption)).trans ?_; first | assumption | exact zu_s)) rfl ?_
      refine zv_iload (pc := 30) C dBk_sum_30 rfl ?_
      refine zn_iald (pc := 32) C dBk_sum_32 (by first | assumption | exact zu_s | (refine (zu_n (by assumption)).trans ?_; first | assumption | exact zu_s)) (by omega) (by omega) ?_
      refine zv_iload_n (pc := 33) C dBk_sum_33 rfl ?_
      refine zv_icmp_lt (pc := 34) (tgt := 72) C dBk_sum_34 (by decide) (fun c34 => ?_) (fun c34 => ?_)
      · refine zv_iinc (pc := 72) C dBk_sum_72 rfl (zn_inc j) (by decide) ?_
        refine zv_goto (pc := 75) (tgt := 6) C dBk_sum_75 (by decide) ?_
        exact zv_pick [0, 1, 2, 3, 4, 5, 7] rfl (by
          have h := ih (j + 1) (by omega)
          first
            | (have hB : rowB fa fv fk x v1 v2 k1 j = true := by simp [rowB, c23, c34]
               simp only [sumF, hB, if_true] at h
               exact h)
            | (have hB : rowB fa fv fk x v1 v2 k1 j = false := by simp [rowB, c23, c34]
               simp only [sumF, hB, Bool.false_eq_true, if_false] at h
               exact h))
      · refine zv_aload_n (pc := 37) C dBk_sum_37 rfl ?_
        refine zv_get (pc := 38) C dBk_sum_38 fBk_22 (by first | assumption | exact zu_s | (refine (zu_n (by assumption)).trans ?_; first | assumption | exact zu_s)) rfl ?_
        refine zv_iload (pc := 41) C dBk_sum_41 rfl ?_
        refine zn_iald (pc := 43) C dBk_sum_43 (by first | assumption | exact zu_s | (refine (zu_n (by assumption)).trans ?_; first | assumption | exact zu_s)) (by omega) (by omega) ?_
        refine zv_iload_n (pc := 44) C dBk_sum_44 rfl ?_
        refine zv_icmp_gt (pc := 45) (tgt := 72) C dBk_sum_45 (by decide) (fun c45 => ?_) (fun c45 => ?_)
        · refine zv_iinc (pc := 72) C dBk_sum_72 rfl (zn_inc j) (by decide) ?_
          refine zv_goto (pc := 75) (tgt := 6) C dBk_sum_75 (by decide) ?_
          exact zv_pick [0, 1, 2, 3, 4, 5, 7] rfl (by
            have h := ih (j + 1) (by omega)
            first
              | (have hB : rowB fa fv fk x v1 v2 k1 j = true := by simp [rowB, c23, c34, c45]
                 simp only [sumF, hB, if_true] at h
                 exact h)
              | (have hB : rowB fa fv fk x v1 v2 k1 j = false := by simp [rowB, c23, c34, c45]
                 simp only [sumF, hB, Bool.false_eq_true, if_false] at h
                 exact h))
        · refine zv_aload_n (pc := 48) C dBk_sum_48 rfl ?_
          refine zv_get (pc := 49) C dBk_sum_49 fBk_25 (by first | assumption | exact zu_s | (refine (zu_n (by assumption)).trans ?_; first | assumption | exact zu_s)) rfl ?_
          refine zv_iload (pc := 52) C dBk_sum_52 rfl ?_
          refine zn_iald (pc := 54) C dBk_sum_54 (by first | assumption | exact zu_s | (refine (zu_n (by assumption)).trans ?_; first | assumption | exact zu_s)) (by omega) (by omega) ?_
          refine zv_iload (pc := 55) C dBk_sum_55 rfl ?_
          refine zv_icmp_gt (pc := 57) (tgt := 72) C dBk_sum_57 (by decide) (fun c57 => ?_) (fun c57 => ?_)
          · refine zv_iinc (pc := 72) C dBk_sum_72 rfl (zn_inc j) (by decide) ?_
            refine zv_goto (pc := 75) (tgt := 6) C dBk_sum_75 (by decide) ?_
            exact zv_pick [0, 1, 2, 3, 4, 5, 7] rfl (by
              have h := ih (j + 1) (by omega)
              first
                | (have hB : rowB fa fv fk x v1 v2 k1 j = true := by simp [rowB, c23, c34, c45, c57]
                   simp only [sumF, hB, if_true] at h
                   exact h)
                | (have hB : rowB fa fv fk x v1 v2 k1 j = false := by simp [rowB, c23, c34, c45, c57]
                   simp only [sumF, hB, Bool.false_eq_true, if_false] at h
                   exact h))
          · refine zv_lload (pc := 60) C dBk_sum_60 rfl ?_
            refine zv_aload_n (pc := 62) C dBk_sum_62 rfl ?_
            refine zv_get (pc := 63) C dBk_sum_63 fBk_18 (by first | assumption | exact zu_s | (refine (zu_n (by assumption)).trans ?_; first | assumption | exact zu_s)) rfl ?_
            refine zv_iload (pc := 66) C dBk_sum_66 rfl ?_
            refine zn_lald (pc := 68) C dBk_sum_68 (by first | assumption | exact zu_s | (refine (zu_n (by assumption)).trans ?_; first | assumption | exact zu_s)) (by omega) (by omega) ?_
            refine zv_ladd (pc := 69) C dBk_sum_69 ?_
            refine zv_lstore (pc := 70) C dBk_sum_70 (by decide) ?_
            refine zv_iinc (pc := 72) C dBk_sum_72 rfl (zn_inc j) (by decide) ?_
            refine zv_goto (pc := 75) (tgt := 6) C dBk_sum_75 (by decide) ?_
            exact zv_pick [0, 1, 2, 3, 4, 5, 7] rfl (by
              have h := ih (j + 1) (by omega)
              first
                | (have hB : rowB fa fv fk x v1 v2 k1 j = true := by simp [rowB, c23, c34, c45, c57]
                   simp only [sumF, hB, if_true] at h
                   exact h)
                | (have hB : rowB fa fv fk x v1 v2 k1 j = false := by simp [rowB, c23, c34, c45, c57]
                   simp only [sumF, hB, Bool.false_eq_true, if_false] at h
                   exact h))
set_option maxHeartbeats 4000000 in
set_option maxRecDepth 100000 in
theorem cBk_sum {O : zO} {l : Launch} (hk : zK O l) (G : zG) (a0 n : Nat) {b1 b2 b3 b4 b5 : Nat} {hd : Int32} {fa fv fk : Nat → Int32} {fc : Nat → Int64} (x v1 v2 k1 : Int32) (hB : G a0 = some (oBk b1 b2 b3 b4 b5 (nI n) hd)) (h2 : G b2 = some (zI O 400 fa)) (h3 : G b3 = some (zJ O 400 fc)) (h4 : G b4 = some (zI O 400 fv)) (h5 : G b5 = some (zI O 400 fk)) (hn : n ≤ 400) : zM O l yBk_sum [Cond.code yBk_sum bBk_sum 8 (some .long)] rmBk_sum [.ref a0, .int x, .int v1, .int v2, .int k1] G 0 0 (zPr (.long (sumF fa fv fk fc x v1 v2 k1 n)) G) zNo := by
  refine zm_of hk (by decide) (Nat.le_of_ble_eq_true rfl) ?_
  intro p e s m below meth c C hex hr hnm
  refine zv_lconst (pc := 0) (v := 0) C dBk_sum_0 (by decide) ?_
  refine zv_lstore (pc := 1) C dBk_sum_1 (by decide) ?_
  refine zv_iconst (pc := 3) (v := 0) C dBk_sum_3 (by decide) ?_
  refine zv_istore (pc := 4) C dBk_sum_4 (by decide) ?_
  refine zv_pick [0, 1, 2, 3, 4, 5, 7] rfl (lBk_sum a0 n x v1 v2 k1 C hB h2 h3 h4 h5 hn ?_ n 0 (by omega))
  refine zv_lload (pc := 78) C dBk_sum_78 rfl ?_
  exact zv_lret (pc := 80) C hr dBk_sum_80 (Nat.le_of_ble_eq_true rfl) (Nat.le_of_ble_eq_true rfl) (by exact ⟨rfl, rfl⟩)
