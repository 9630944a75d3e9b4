/-- what is wrong with a batch -/
def wrongB (S : aS) (b : aB) : Int32 := if nI (bsz b) = 0 then 1 else if ¬ sumL (bfc b) (bsz b) = 0 then 2 else if ¬ (scd S < bkd b) then 3 else if ¬ (slk S ≤ bkd b) then 4 else if 400 - nI (sn S) < nI (bsz b) then 5 else 0
def absL (x : Int64) : Int64 := if 0 < x then x else -x
/-- the account farthest from zero, and how far it is -/
def farP (fa : Nat → Int32) (fc : Nat → Int64) (n : Nat) : Nat → Int32 × Int64
  | 0 => (-1, 0)
  | a + 1 => if decide ((farP fa fc n a).2 < absL (sumA fa fc (nI a) n)) then (nI a, absL (sumA fa fc (nI a) n)) else farP fa fc n a
/-- what the accounts of a kind have -/
def colP (S : aS) (x k1 : Int32) : Nat → Int64
  | 0 => 0
  | a + 1 => if decide (skd S a = x) then colP S x k1 a + sumF (sL S).2.2.1 (sL S).2.2.2.2.1 (sL S).2.2.2.2.2 (sL S).2.2.2.1 (nI a) 0 100000 k1 (sn S) else colP S x k1 a
def colS (S : aS) (x k1 : Int32) : Int64 := if 0 < colP S x k1 (sna S) then colP S x k1 (sna S) else 0
set_option maxHeartbeats 4000000 in
set_option maxRecDepth 100000 in
theorem cDu_whatIsWrongWith {O : zO} {l : Launch} (hk : zK O l) (G : zG) (x : Nat) {y z : Nat} {b : aB} (hb : zBat O G x y z b) (hsz : bsz b ≤ 20) {ad : Nat → Nat} {S : aS} (hR : zRep O G ad S) (hS : aOk S) : zM O l yDu_whatIsWrongWith [Cond.code yDu_whatIsWrongWith bDu_whatIsWrongWith 2 (some .int)] rmDu_whatIsWrongWith [.ref (ad 0), .ref x] G 0 0 (zPr (.int (wrongB S b)) G) zNo := by
  refine zm_of hk (by decide) (Nat.le_of_ble_eq_true rfl) ?_
  intro p e s m below meth c C hex hr hnm
  obtain ⟨hinj, hD, hK1, ⟨fb, hF, hfb⟩, hBk, ⟨hSh, hp1, hp2⟩, hbs⟩ := id hR
  obtain ⟨ok1, ok2, ok3, ok4⟩ := id hS
  obtain ⟨hb1, hb2, hb3⟩ := hb
  obtain ⟨hk0, hk1, hk2, hk3, hk4, hk5⟩ := id hBk
  refine zv_aload_n (pc := 0) C dDu_whatIsWrongWith_0 rfl ?_
  refine zv_get (pc := 1) C dDu_whatIsWrongWith_1 fDu_218 (by first | assumption | exact zu_s | (refine (zu_n (by assumption)).trans ?_; first | assumption | exact zu_s)) rfl ?_
  refine zv_if_ne (pc := 4) (tgt := 9) C dDu_whatIsWrongWith_4 (by decide) (fun c4 => ?_) (fun c4 => ?_)
  · refine zv_aload_n (pc := 9) C dDu_whatIsWrongWith_9 rfl ?_
    refine zv_callV (pc := 10) C dDu_whatIsWrongWith_10 (cBa_sum hk _ _ _ (by first | assumption | exact zu_s | (refine (zu_n (by assumption)).trans ?_; first | assumption | exact zu_s)) (by first | assumption | exact zu_s | (refine (zu_n (by assumption)).trans ?_; first | assumption | exact zu_s)) (by omega)) gDu_233 ⟨rfl, rfl, ⟨Nat.le_of_ble_eq_true rfl, Nat.le_of_ble_eq_true rfl⟩, mBa_sum⟩ rfl rfl (Nat.le_of_ble_eq_true rfl) (by first | assumption | exact zu_s | (refine (zu_n (by assumption)).trans ?_; first | assumption | exact zu_s)) rfl rfl ⟨Nat.le_of_ble_eq_true rfl, Nat.le_of_ble_eq_true rfl⟩ (fun _ _ h => h.elim) (fun v G' h => ?_)
    obtain ⟨rfl, rfl⟩ := h
    refine zv_lconst (pc := 13) (v := 0) C dDu_whatIsWrongWith_13 (by decide) ?_
    refine zv_lcmp (pc := 14) C dDu_whatIsWrongWith_14 ?_
    refine zv_if_eq (pc := 15) (tgt := 20) C dDu_whatIsWrongWith_15 (by decide) (fun c15 => ?_) (fun c15 => ?_)
    · refine zv_aload_n (pc := 20) C dDu_whatIsWrongWith_20 rfl ?_
      refine zv_get (pc := 21) C dDu_whatIsWrongWith_21 fDu_222 (by first | assumption | exact zu_s | (refine (zu_n (by assumption)).trans ?_; first | assumption | exact zu_s)) rfl ?_
      refine zv_aload_n (pc := 24) C dDu_whatIsWrongWith_24 rfl ?_
      refine zv_get (pc := 25) C dDu_whatIsWrongWith_25 fDu_40 (by first | assumption | exact zu_s | (refine (zu_n (by assumption)).trans ?_; first | assumption | exact zu_s)) rfl ?_
      refine zv_icmp_gt (pc := 28) (tgt := 33) C dDu_whatIsWrongWith_28 (by decide) (fun c28 => ?_) (fun c28 => ?_)
      · refine zv_aload_n (pc := 33) C dDu_whatIsWrongWith_33 rfl ?_
        refine zv_get (pc := 34) C dDu_whatIsWrongWith_34 fDu_222 (by first | assumption | exact zu_s | (refine (zu_n (by assumption)).trans ?_; first | assumption | exact zu_s)) rfl ?_
        refine zv_aload_n (pc := 37) C dDu_whatIsWrongWith_37 rfl ?_
        refine zv_get (pc := 38) C dDu_whatIsWrongWith_38 fDu_43 (by first | assumption | exact zu_s | (refine (zu_n (by assumption)).trans ?_; first | assumption | exact zu_s)) rfl ?_
        refine zv_icmp_ge (pc := 41) (tgt := 46) C dDu_whatIsWrongWith_41 (by decide) (fun c41 => ?_) (fun c41 => ?_)
        · refine zv_aload_n (pc := 46) C dDu_whatIsWrongWith_46 rfl ?_
          refine zv_get (pc := 47) C dDu_whatIsWrongWith_47 fDu_29 (by first | assumption | exact zu_s | (refine (zu_n (by assumption)).trans ?_; first | assumption | exact zu_s)) rfl ?_
          refine zv_aload_n (pc := 50) C dDu_whatIsWrongWith_50 rfl ?_
          refine zv_get (pc := 51) C dDu_whatIsWrongWith_51 fDu_218 (by first | assumption | exact zu_s | (refine (zu_n (by assumption)).trans ?_; first | assumption | exact zu_s)) rfl ?_
          refine zv_callV (pc := 54) C dDu_whatIsWrongWith_54 (cBk_hasRoomFor hk _ _ _ _ (by first | assumption | exact zu_s | (refine (zu_n (by assumption)).trans ?_; first | assumption | exact zu_s))) gDu_236 ⟨rfl, rfl, ⟨Nat.le_of_ble_eq_true rfl, Nat.le_of_ble_eq_true rfl⟩, mBk_hasRoomFor⟩ rfl rfl (Nat.le_of_ble_eq_true rfl) (by first | assumption | exact zu_s | (refine (zu_n (by assumption)).trans ?_; first | assumption | exact zu_s)) rfl rfl ⟨Nat.le_of_ble_eq_true rfl, Nat.le_of_ble_eq_true rfl⟩ (fun _ _ h => h.elim) (fun v G' h => ?_)
          obtain ⟨rfl, rfl⟩ := h
          refine zv_if_ne (pc := 57) (tgt := 62) C dDu_whatIsWrongWith_57 (by decide) (fun c57 => ?_) (fun c57 => ?_)
          · refine zv_iconst (pc := 62) (v := 0) C dDu_whatIsWrongWith_62 (by decide) ?_
            exact zv_iret (pc := 63) C hr dDu_whatIsWrongWith_63 (Nat.le_of_ble_eq_true rfl) (Nat.le_of_ble_eq_true rfl) (by simp only [lg_cmp_eq] at c15; first | (have c57 := zb_0.mp c57; simp at c57; simp [zPr, wrongB, c4, c15, c28, c41, c57]) | (have c57 := zb_n0.mp c57; simp at c57; simp [zPr, wrongB, c4, c15, c28, c41, Int32.not_lt.mpr c57]))
          · refine zv_iconst (pc := 60) (v := 5) C dDu_whatIsWrongWith_60 (by decide) ?_
            exact zv_iret (pc := 61) C hr dDu_whatIsWrongWith_61 (Nat.le_of_ble_eq_true rfl) (Nat.le_of_ble_eq_true rfl) (by simp only [lg_cmp_eq] at c15; first | (have c57 := zb_0.mp c57; simp at c57; simp [zPr, wrongB, c4, c15, c28, c41, c57]) | (have c57 := zb_n0.mp c57; simp at c57; simp [zPr, wrongB, c4, c15, c28, c41, Int32.not_lt.mpr c57]))
        · refine zv_iconst (pc := 44) (v := 4) C dDu_whatIsWrongWith_44 (by decide) ?_
          exact zv_iret (pc := 45) C hr dDu_whatIsWrongWith_45 (Nat.le_of_ble_eq_true rfl) (Nat.le_of_ble_eq_true rfl) (by simp only [lg_cmp_eq] at c15; simp [zPr, wrongB, c4, c15, c28, c41])
      · refine zv_iconst (pc := 31) (v := 3) C dDu_whatIsWrongWith_31 (by decide) ?_
        exact zv_iret (pc := 32) C hr dDu_whatIsWrongWith_32 (Nat.le_of_ble_eq_true rfl) (Nat.le_of_ble_eq_true rfl) (by simp only [lg_cmp_eq] at c15; simp [zPr, wrongB, c4, c15, c28])
    · refine zv_iconst (pc := 18) (v := 2) C dDu_whatIsWrongWith_18 (by decide) ?_
      exact zv_iret (pc := 19) C hr dDu_whatIsWrongWith_19 (Nat.le_of_ble_eq_true rfl) (Nat.le_of_ble_eq_true rfl) (by simp only [lg_cmp_eq] at c15; simp [zPr, wrongB, c4, c15])
  · refine zv_iconst (pc := 7) (v := 1) C dDu_whatIsWrongWith_7 (by decide) ?_
    exact zv_iret (pc := 8) C hr dDu_whatIsWrongWith_8 (Nat.le_of_ble_eq_true rfl) (Nat.le_of_ble_eq_true rfl) (by simp [zPr, wrongB, c4])
set_option maxHeartbeats 4000000 in
set_option maxRecDepth 100000 in
theorem lDu_accountFarthestFromZero {O : zO} {p : Program} {l : Launch} {e : Env} {s : State} {m : MethodId} {args : Array Value} {below : List Frame} {meth : Method} {c : Code} {Q : State → Prop} {G : zG} (hk : zK O l) (x : Nat) {y z : Nat} {b : aB} {na : Nat} {a0 : Nat} {d1 d2 d3 d4 : Nat} {nb cd lk wr nm fl : Int32} (C : zC O p l s m meth c RDu bDu_accountFarthestFromZero 8) (hD : G a0 = some (oDu d1 d2 d3 d4 (nI na) nb cd lk wr nm fl)) (hb : zBat O G x y z b) (hsz : bsz b ≤ 20) (hna : na ≤ 12) (kk : zV O p l e rmDu_accountFarthestFromZero s m args below meth c 8 Q 46 [(0, .ref a0), (1, .ref x), (2, .int (farP (bfa b) (bfc b) (bsz b) na).1), (3, .long (farP (bfa b) (bfc b) (bsz b) na).2), (5, .int (nI na))] [] G 0 0) : ∀ k j : Nat, j + k = na → zV O p l e rmDu_accountFarthestFromZero s m args below meth c 8 Q 7 [(0, .ref a0), (1, .ref x), (2, .int (farP (bfa b) (bfc b) (bsz b) j).1), (3, .long (farP (bfa b) (bfc b) (bsz b) j).2), (5, .int (nI j))] [] G 0 0 := by
  intro k
  induction k with
  | zero =>
    intro j hj
    obtain ⟨hb1, hb2, hb3⟩ := id hb
    obtain rfl : j = na := by omega
    refine zv_iload (pc := 7) C dDu_accountFarthestFromZero_7 rfl ?_
    refine zv_aload_n (pc := 9) C dDu_accountFarthestFromZero_9 rfl ?_
    refine zv_get (pc := 10) C dDu_accountFarthestFromZero_10 fDu_13 (by first | assumption | exact zu_s | (refine (zu_n (by assumption)).trans ?_; first | assumption | exact zu_s)) rfl ?_
    refine zv_icmp_ge (pc := 13) (tgt := 46) C dDu_accountFarthestFromZero_13 (by decide) (fun cX => ?_) (fun cX => absurd (nI_le (a := j) (b := j) (Nat.le_refl _) (by omega)) cX)
    exact kk
  | succ k ih =>
    intro j hj
    obtain ⟨hb1, hb2, hb3⟩ := id hb
    refine zv_iload (pc := 7) C dDu_accountFarthestFromZero_7 rfl ?_
    refine zv_aload_n (pc := 9) C dDu_accountFarthestFromZero_9 rfl ?_
    refine zv_get (pc := 10) C dDu_accountFarthestFromZero_10 fDu_13 (by first | assumption | exact zu_s | (refine (zu_n (by assumption)).trans ?_; first | assumption | exact zu_s)) rfl ?_
    refine zv_icmp_ge (pc := 13) (tgt := 46) C dDu_accountFarthestFromZero_13 (by decide) (fun cX => absurd cX (nI_ge (a := j) (b := na) (by omega) (by omega))) (fun cX => ?_)
    refine zv_aload_n (pc := 16) C dDu_accountFarthestFromZero_16 rfl ?_
    refine zv_iload (pc := 17) C dDu_accountFarthestFromZero_17 rfl ?_
    refine zv_callV (pc := 19) C dDu_accountFarthestFromZero_19 (cBa_sumOf hk _ _ _ _ (by first | assumption | exact zu_s | (refine (zu_n (by assumption)).trans ?_; first | assumption | exact zu_s)) (by first | assumption | exact zu_s | (refine (zu_n (by assumption)).trans ?_; first | assumption | exact zu_s)) (by omega) (by first | assumption | exact zu_s | (refine (zu_n (by assumption)).trans ?_; first | assumption | exact zu_s))) gDu_242 ⟨rfl, rfl, ⟨Nat.le_of_ble_eq_true rfl, Nat.le_of_ble_eq_true rfl⟩, mBa_sumOf⟩ rfl rfl (Nat.le_of_ble_eq_true rfl) (by first | assumption | exact zu_s | (refine (zu_n (by assumption)).trans ?_; first | assumption | exact zu_s)) rfl rfl ⟨Nat.le_of_ble_eq_true rfl, Nat.le_of_ble_eq_true rfl⟩ (fun _ _ h => h.elim) (fun v G' h => ?_)
    obtain ⟨rfl, rfl⟩ := h
    refine zv_mabsl (pc := 22) C dDu_accountFarthestFromZero_22 zw_384 zw_385 zw_38 zw_386 (Nat.le_of_ble_eq_true rfl) (Nat.le_of_ble_eq_true rfl) (Nat.le_of_ble_eq_true rfl) (Nat.le_of_ble_eq_true rfl) ?_
    refine zv_topl (y := absL (sumA (bfa b) (bfc b) (nI j) (bsz b))) rfl ?_
    refine zv_lstore (pc := 25) C dDu_accountFarthestFromZero_25 (by decide) ?_
    refine zv_lload (pc := 27) C dDu_accountFarthestFromZero_27 rfl ?_
    refine zv_lload_n (pc := 29) C dDu_accountFarthestFromZero_29 rfl ?_
    refine zv_lcmp (pc := 30) C dDu_accountFarthestFromZero_30 ?_
    refine zv_if_le (pc := 31) (tgt := 40) C dDu_accountFarthestFromZero_31 (by decide) (fun c31 => ?_) (fun c31 => ?_)
    · refine zv_iinc (pc := 40) C dDu_accountFarthestFromZero_40 rfl (zn_inc j) (by decide) ?_
      refine zv_goto (pc := 43) (tgt := 7) C dDu_accountFarthestFromZero_43 (by decide) ?_
      exact zv_pick [0, 1, 2, 3, 5] rfl (by
        have h := ih (j + 1) (by omega)
        simp only [lg_cmp_le, Int64.not_le] at c31
        first
          | (have hB : decide ((farP (bfa b) (bfc b) (bsz b) j).2 < absL (sumA (bfa b) (bfc b) (nI j) (bsz b))) = true := by simp [c31, Int64.not_lt]
             simp only [farP, hB, if_true] at h
             exact h)
          | (have hB : decide ((farP (bfa b) (bfc b) (bsz b) j).2 < absL (sumA (bfa b) (bfc b) (nI j) (bsz b))) = false := by simp [c31, Int64.not_lt]
             simp only [farP, hB, Bool.false_eq_true, if_false] at h
             exact h))
    · refine zv_lload (pc := 34) C dDu_accountFarthestFromZero_34 rfl ?_
      refine zv_lstore_n (pc := 36) C dDu_accountFarthestFromZero_36 (by decide) ?_
      refine zv_iload (pc := 37) C dDu_accountFarthestFromZero_37 rfl ?_
      refine zv_istore_n (pc := 39) C dDu_accountFarthestFromZero_39 (by decide) ?_
      refine zv_iinc (pc := 40) C dDu_accountFarthestFromZero_40 rfl (zn_inc j) (by decide) ?_
      refine zv_goto (pc := 43) (tgt := 7) C dDu_accountFarthestFromZero_43 (by decide) ?_
      exact zv_pick [0, 1, 2, 3, 5] rfl (by
        have h := ih (j + 1) (by omega)
        simp only [lg_cmp_le, Int64.not_le] at c31
        first
          | (have hB : decide ((farP (bfa b) (bfc b) (bsz b) j).2 < absL (sumA (bfa b) (bfc b) (nI j) (bsz b))) = true := by simp [c31, Int64.not_lt]
             simp only [farP, hB, if_true] at h
             exact h)
          | (have hB : decide ((farP (bfa b) (bfc b) (bsz b) j).2 < absL (sumA (bfa b) (bfc b) (nI j) (bsz b))) = false := by simp [c31, Int64.not_lt]
             simp only [farP, hB, Bool.false_eq_true, if_false] at h
             exact h))
set_option maxHeartbeats 4000000 in
set_option maxRecDepth 100000 in
theorem cDu_accountFarthestFromZero {O : zO} {l : Launch} (hk : zK O l) (G : zG) (x : Nat) {y z : Nat} {b : aB} (hb : zBat O G x y z b) (hsz : bsz b ≤ 20) {ad : Nat → Nat} {S : aS} (hR : zRep O G ad S) (hS : aOk S) : zM O l yDu_accountFarthestFromZero [Cond.code yDu_accountFarthestFromZero bDu_accountFarthestFromZero 8 (some .int)] rmDu_accountFarthestFromZero [.ref (ad 0), .ref x] G 0 0 (zPr (.int (farP (bfa b) (bfc b) (bsz b) (sna S)).1) G) zNo := by
  refine zm_of hk (by decide) (Nat.le_of_ble_eq_true rfl) ?_
  intro p e s m below meth c C hex hr hnm
  obtain ⟨hinj, hD, hK1, ⟨fb, hF, hfb⟩, hBk, ⟨hSh, hp1, hp2⟩, hbs⟩ := id hR
  obtain ⟨ok1, ok2, ok3, ok4⟩ := id hS
  refine zv_iconst (pc := 0) (v := -1) C dDu_accountFarthestFromZero_0 (by decide) ?_
  refine zv_istore_n (pc := 1) C dDu_accountFarthestFromZero_1 (by decide) ?_
  refine zv_lconst (pc := 2) (v := 0) C dDu_accountFarthestFromZero_2 (by decide) ?_
  refine zv_lstore_n (pc := 3) C dDu_accountFarthestFromZero_3 (by decide) ?_
  refine zv_iconst (pc := 4) (v := 0) C dDu_accountFarthestFromZero_4 (by decide) ?_
  refine zv_istore (pc := 5) C dDu_accountFarthestFromZero_5 (by decide) ?_
  refine zv_pick [0, 1, 2, 3, 5] rfl (lDu_accountFarthestFromZero hk x C hD hb hsz ok1 ?_ (sna S) 0 (by omega))
  refine zv_iload_n (pc := 46) C dDu_accountFarthestFromZero_46 rfl ?_
  exact zv_iret (pc := 47) C hr dDu_accountFarthestFromZero_47 (Nat.le_of_ble_eq_true rfl) (Nat.le_of_ble_eq_true rfl) (by exact ⟨rfl, rfl⟩)
set_option maxHeartbeats 4000000 in
set_option maxRecDepth 100000 in
theorem lDu_collectedOf {O : zO} {p : Program} {l : Launch} {e : Env} {s : State} {m : MethodId} {args : Array Value} {below : List Frame} {meth : Method} {c : Code} {Q : State → Prop} {G : zG} (hk : zK O l) (x k1 : Int32) {ad : Nat → Nat} {S : aS} (C : zC O p l s m meth c RDu bDu_collectedOf 6) (hR : zRep O G ad S) (hS : aOk S) (kk : zV O p l e rmDu_collectedOf s m args below meth c 6 Q 47 [(0, .ref (ad 0)), (1, .int x), (2, .int k1), (3, .long (colP S x k1 (sna S))), (5, .int (nI (sna S)))] [] G 0 0) : ∀ k j : Nat, j + k = (sna S) → zV O p l e rmDu_collectedOf s m args below meth c 6 Q 5 [(0, .ref (ad 0)), (1, .int x), (2, .int k1), (3, .long (colP S x k1 j)), (5, .int (nI j))] [] G 0 0 := by
  intro k
  induction k with
  | zero =>
    intro j hj
    obtain ⟨hinj, hD, hK1, ⟨fb, hF, hfb⟩, hBk, ⟨hSh, hp1, hp2⟩, hbs⟩ := id hR
    obtain ⟨ok1, ok2, ok3, ok4⟩ := id hS
    obtain ⟨hk0, hk1, hk2, hk3, hk4, hk5⟩ := id hBk
    have hjn : j = sna S := by omega
    subst hjn
    refine zv_iload (pc := 5) C dDu_collectedOf_5 rfl ?_
    refine zv_aload_n (pc := 7) C dDu_collectedOf_7 rfl ?_
    refine zv_get (pc := 8) C dDu_collectedOf_8 fDu_13 (by first | assumption | exact zu_s | (refine (zu_n (by assumption)).trans ?_; first | assumption | exact zu_s)) rfl ?_
    refine zv_icmp_ge (pc := 11) (tgt := 47) C dDu_collectedOf_11 (by decide) (fun cX => ?_) (fun cX => absurd (nI_le (a := sna S) (b := sna S) (Nat.le_refl _) (by omega)) cX)
    exact kk
  | succ k ih =>
    intro j hj
    obtain ⟨hinj, hD, hK1, ⟨fb, hF, hfb⟩, hBk, ⟨hSh, hp1, hp2⟩, hbs⟩ := id hR
    obtain ⟨ok1, ok2, ok3, ok4⟩ := id hS
    obtain ⟨hk0, hk1, hk2, hk3, hk4, hk5⟩ := id hBk
    refine zv_iload (pc := 5) C dDu_collectedOf_5 rfl ?_
    refine zv_aload_n (pc := 7) C dDu_collectedOf_7 rfl ?_
    refine zv_get (pc := 8) C dDu_collectedOf_8 fDu_13 (by first | assumption | exact zu_s | (refine (zu_n (by assumption)).trans ?_; first | assumption | exact zu_s)) rfl ?_
    refine zv_icmp_ge (pc := 11) (tgt := 47) C dDu_collectedOf_11 (by decide) (fun cX => absurd cX (nI_ge (a := j) (b := (sna S)) (by omega) (by omega))) (fun cX => ?_)
    refine zv_aload_n (pc := 14) C dDu_collectedOf_14 rfl ?_
    refine zv_get (pc := 15) C dDu_collectedOf_15 fDu_9 (by first | assumption | exact zu_s | (refine (zu_n (by assumption)).trans ?_; first | assumption | exact zu_s)) rfl ?_
    refine zv_iload (pc := 18) C dDu_collectedOf_18 rfl ?_
    refine zn_iald (pc := 20) C dDu_collectedOf_20 (by first | assumption | exact zu_s | (refine (zu_n (by assumption)).trans ?_; first | assumption | exact zu_s)) (by omega) (by omega) ?_
    refine zv_iload_n (pc := 21) C dDu_collectedOf_21 rfl ?_
    refine zv_icmp_ne (pc := 22) (tgt := 41) C dDu_collectedOf_22 (by decide) (fun c22 => ?_) (fun c22 => ?_)
    · refine zv_iinc (pc := 41) C dDu_collectedOf_41 rfl (zn_inc j) (by decide) ?_
      refine zv_goto (pc := 44) (tgt := 5) C dDu_collectedOf_44 (by decide) ?_
      exact zv_pick [0, 1, 2, 3, 5] rfl (by
        have h := ih (j + 1) (by omega)
        first
          | (have hB : decide (skd S j = x) = true := by simp [c22]
             simp only [colP, hB, if_true] at h
             exact h)
          | (have hB : decide (skd S j = x) = false := by simp [c22]
             simp only [colP, hB, Bool.false_eq_true, if_false] at h
             exact h))
    · refine zv_lload_n (pc := 25) C dDu_collectedOf_25 rfl ?_
      refine zv_aload_n (pc := 26) C dDu_collectedOf_26 rfl ?_
      refine zv_get (pc := 27) C dDu_collectedOf_27 fDu_29 (by first | assumption | exact zu_s | (refine (zu_n (by assumption)).trans ?_; first | assumption | exact zu_s)) rfl ?_
      refine zv_iload (pc := 30) C dDu_collectedOf_30 rfl ?_
      refine zv_iconst (pc := 32) (v := 0) C dDu_collectedOf_32 (by decide) ?_
      refine zv_ldc (pc := 33) C dDu_collectedOf_33 zw_171 ?_
      refine zv_iload_n (pc := 35) C dDu_collectedOf_35 rfl ?_
      refine zv_callV (pc := 36) C dDu_collectedOf_36 (cBk_sum hk _ _ _ _ _ _ _ (by first | assumption | exact zu_s | (refine (zu_n (by assumption)).trans ?_; first | assumption | exact zu_s)) (by first | assumption | exact zu_s | (refine (zu_n (by assumption)).trans ?_; first | assumption | exact zu_s)) (by first | assumption | exact zu_s | (refine (zu_n (by assumption)).trans ?_; first | assumption | exact zu_s)) (by first | assumption | exact zu_s | (refine (zu_n (by assumption)).trans ?_; first | assumption | exact zu_s)) (by first | assumption | exact zu_s | (refine (zu_n (by assumption)).trans ?_; first | assumption | exact zu_s)) (by omega)) gDu_145 ⟨rfl, rfl, ⟨Nat.le_of_ble_eq_true rfl, Nat.le_of_ble_eq_true rfl⟩, mBk_sum⟩ rfl rfl (Nat.le_of_ble_eq_true rfl) (by first | assumption | exact zu_s | (refine (zu_n (by assumption)).trans ?_; first | assumption | exact zu_s)) rfl rfl ⟨Nat.le_of_ble_eq_true rfl, Nat.le_of_ble_eq_true rfl⟩ (fun _ _ h => h.elim) (fun v G' h => ?_)
      obtain ⟨rfl, rfl⟩ := h
      refine zv_ladd (pc := 39) C dDu_collectedOf_39 ?_
      refine zv_lstore_n (pc := 40) C dDu_collectedOf_40 (by decide) ?_
      refine zv_iinc (pc := 41) C dDu_collectedOf_41 rfl (zn_inc j) (by decide) ?_
      refine zv_goto (pc := 44) (tgt := 5) C dDu_collectedOf_44 (by decide) ?_
      exact zv_pick [0, 1, 2, 3, 5] rfl (by
        have h := ih (j + 1) (by omega)
        first
          | (have hB : decide (skd S j = x) = true := by simp [c22]
             simp only [colP, hB, if_true] at h
             exact h)
          | (have hB : decide (skd S j = x) = false := by simp [c22]
             simp only [colP, hB, Bool.false_eq_true, if_false] at h
             exact h))
set_option maxHeartbeats 4000000 in
set_option maxRecDepth 100000 in
theorem cDu_collectedOf {O : zO} {l : Launch} (hk : zK O l) (G : zG) (x k1 : Int32) {ad : Nat → Nat} {S : aS} (hR : zRep O G ad S) (hS : aOk S) : zM O l yDu_collectedOf [Cond.code yDu_collectedOf bDu_collectedOf 6 (some .long)] rmDu_collectedOf [.ref (ad 0), .int x, .int k1] G 0 0 (zPr (.long (colS S x k1)) G) zNo := by
  refine zm_of hk (by decide) (Nat.le_of_ble_eq_true rfl) ?_
  intro p e s m below meth c C hex hr hnm
  obtain ⟨hinj, hD, hK1, ⟨fb, hF, hfb⟩, hBk, ⟨hSh, hp1, hp2⟩, hbs⟩ := id hR
  obtain ⟨ok1, ok2, ok3, ok4⟩ := id hS
  refine zv_lconst (pc := 0) (v := 0) C dDu_collectedOf_0 (by decide) ?_
  refine zv_lstore_n (pc := 1) C dDu_collectedOf_1 (by decide) ?_
  refine zv_iconst (pc := 2) (v := 0) C dDu_collectedOf_2 (by decide) ?_
  refine zv_istore (pc := 3) C dDu_collectedOf_3 (by decide) ?_
  refine zv_pick [0, 1, 2, 3, 5] rfl (lDu_collectedOf hk x k1 C hR hS ?_ (sna S) 0 (by omega))
  refine zv_lload_n (pc := 47) C dDu_collectedOf_47 rfl ?_
  refine zv_lconst (pc := 48) (v := 0) C dDu_collectedOf_48 (by decide) ?_
  refine zv_mmaxl (pc := 49) C dDu_collectedOf_49 zw_472 zw_473 zw_38 zw_474 (Nat.le_of_ble_eq_true rfl) (Nat.le_of_ble_eq_true rfl) (Nat.le_of_ble_eq_true rfl) (Nat.le_of_ble_eq_true rfl) ?_
  exact zv_lret (pc := 52) C hr dDu_collectedOf_52 (Nat.le_of_ble_eq_true rfl) (Nat.le_of_ble_eq_true rfl) (by exact ⟨rfl, rfl⟩)
