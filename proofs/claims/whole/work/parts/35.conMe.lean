/-! the reference's sums -/
abbrev lfa (M : aM) : Nat → Int32 := fun q => mra M (mlg M q)
abbrev lfc (M : aM) : Nat → Int64 := fun q => mrc M (mlg M q)
abbrev lfv (M : aM) : Nat → Int32 := fun q => mvo M (mlg M q / 20)
abbrev lfk (M : aM) : Nat → Int32 := fun q => mkn M (mlg M q / 20)
abbrev balM (M : aM) (x v1 v2 k1 : Int32) : Int64 := sumF (lfa M) (lfv M) (lfk M) (lfc M) x v1 v2 k1 (mn M)
theorem rowB_in (fa fv fk : Nat → Int32) (x v1 v2 k1 : Int32) (j : Nat) : rowB fa fv fk x v1 v2 k1 j = (decide (fa j = x) && inB (fv j).toInt64 v1.toInt64 v2.toInt64 && !(decide (k1 < fk j))) := by
  rw [inB_32]; unfold rowB; simp only [Bool.and_assoc]
def colQ (kd : Nat → Int32) (g : Nat → Int64) (x : Int32) : Nat → Int64
  | 0 => 0
  | a + 1 => if decide (kd a = x) then colQ kd g x a + g a else colQ kd g x a
abbrev colG (M : aM) (k1 : Int32) : Nat → Int64 := fun a => balM M (nI a) 0 100000 k1
def colM (M : aM) (x k1 : Int32) : Int64 := if 0 < colQ (mko M) (colG M k1) x (mna M) then colQ (mko M) (colG M k1) x (mna M) else 0
def staOkM (M : aM) (x d k : Int32) : Bool := isAccB x (nI (mna M)) && isMonthB d && isDayB k
def balOkM (M : aM) (x d k : Int32) : Bool := isAccB x (nI (mna M)) && isDayB d && isDayB k
def recOkM (M : aM) (x y d k : Int32) : Bool := isAccB x (nI (mna M)) && isAccB y (nI (mna M)) && !(decide (x = y)) && isDayB d && isDayB k
theorem inB_mon (x : Int32) : inB x.toInt64 0 3333 = isMonthB x := inB_32 x 0 3333
set_option maxHeartbeats 4000000 in
set_option maxRecDepth 100000 in
theorem lMo_sum {O : zO} {p : Program} {l : Launch} {e : Env} {s : State} {m : MethodId} {args : Array Value} {below : List Frame} {meth : Method} {c : Code} {Q : State → Prop} {G : zG} (hk : zK O l) (x v1 v2 k1 : Int32) {am : Nat → Nat} {M : aM} (C : zC O p l s m meth c RMo bMo_sum 10) (hM : zMm O G am M) (hO : mOk M) (kk : zV O p l e rmMo_sum s m args below meth c 10 Q 112 [(0, .ref (am 0)), (1, .int x), (2, .int v1), (3, .int v2), (4, .int k1), (5, .long (sumF (lfa M) (lfv M) (lfk M) (lfc M) x v1 v2 k1 (mn M))), (7, .int (nI (mn M)))] [] G 0 0) : ∀ k j : Nat, j + k = (mn M) → zV O p l e rmMo_sum s m args below meth c 10 Q 6 [(0, .ref (am 0)), (1, .int x), (2, .int v1), (3, .int v2), (4, .int k1), (5, .long (sumF (lfa M) (lfv M) (lfk M) (lfc M) x v1 v2 k1 j)), (7, .int (nI j))] [] G 0 0 := by
  intro k
  induction k with
  | zero =>
    intro j hj
    obtain ⟨hinj, h0, h1, h2, h3, h4, h5, h6, h7, h8, h9, h10, h11, h12, h13⟩ := id hM
    obtain ⟨o1, o2, o3, o4, o5⟩ := id hO
    have hjn : j = (mn M) := by omega
    subst hjn
    refine zv_iload (pc := 6) C dMo_sum_6 rfl ?_
    refine zv_aload_n (pc := 8) C dMo_sum_8 rfl ?_
    refine zv_get (pc := 9) C dMo_sum_9 fMo_103 (by first | assumption | exact zu_s | (refine (zu_n (by assumption)).trans ?_; first | assumption | exact zu_s)) rfl ?_
    refine zv_icmp_ge (pc := 12) (tgt := 112) C dMo_sum_12 (by decide) (fun cX => ?_) (fun cX => absurd (nI_le (a := (mn M)) (b := (mn M)) (Nat.le_refl _) (by omega)) cX)
    exact kk
  | succ k ih =>
    intro j hj
    obtain ⟨hinj, h0, h1, h2, h3, h4, h5, h6, h7, h8, h9, h10, h11, h12, h13⟩ := id hM
    obtain ⟨o1, o2, o3, o4, o5⟩ := id hO
    refine zv_iload (pc := 6) C dMo_sum_6 rfl ?_
    refine zv_aload_n (pc := 8) C dMo_sum_8 rfl ?_
    refine zv_get (pc := 9) C dMo_sum_9 fMo_103 (by first | assumption | exact zu_s | (refine (zu_n (by assumption)).trans ?_; first | assumption | exact zu_s)) rfl ?_
    refine zv_icmp_ge (pc := 12) (tgt := 112) C dMo_sum_12 (by decide) (fun cX => absurd cX (nI_ge (a := j) (b := (mn M)) (by omega) (by omega))) (fun cX => ?_)
    refine zv_aload_n (pc := 15) C dMo_sum_15 rfl ?_
    refine zv_get (pc := 16) C dMo_sum_16 fMo_52 (by first | assumption | exact zu_s | (refine (zu_n (by assumption)).trans ?_; first | assumption | exact zu_s)) rfl ?_
    refine zv_iload (pc := 19) C dMo_sum_19 rfl ?_
    refine zn_iald (pc := 21) C dMo_sum_21 (by first | assumption | exact zu_s | (refine (zu_n (by assumption)).trans ?_; first | assumption | exact zu_s)) (by omega) (by omega) ?_
    refine zv_bipush (pc := 22) (v := 20) C dMo_sum_22 (by decide) ?_
    have ho5 := o5 j (by omega)
    refine zv_idiv (pc := 24) C dMo_sum_24 (by decide) ?_
    refine zv_topi (y := nI (mlg M j / 20)) (by rw [show (20 : Int32) = nI 20 from rfl, pk_div (by omega) (by omega) (by omega)]) ?_
    refine zv_istore (pc := 25) C dMo_sum_25 (by decide) ?_
    refine zv_aload_n (pc := 27) C dMo_sum_27 rfl ?_
    refine zv_get (pc := 28) C dMo_sum_28 fMo_45 (by first | assumption | exact zu_s | (refine (zu_n (by assumption)).trans ?_; first | assumption | exact zu_s)) rfl ?_
    refine zv_aload_n (pc := 31) C dMo_sum_31 rfl ?_
    refine zv_get (pc := 32) C dMo_sum_32 fMo_52 (by first | assumption | exact zu_s | (refine (zu_n (by assumption)).trans ?_; first | assumption | exact zu_s)) rfl ?_
    refine zv_iload (pc := 35) C dMo_sum_35 rfl ?_
    refine zn_iald (pc := 37) C dMo_sum_37 (by first | assumption | exact zu_s | (refine (zu_n (by assumption)).trans ?_; first | assumption | exact zu_s)) (by omega) (by omega) ?_
    refine zn_iald (pc := 38) C dMo_sum_38 (by first | assumption | exact zu_s | (refine (zu_n (by assumption)).trans ?_; first | assumption | exact zu_s)) (by omega) (by omega) ?_
    refine zv_iload_n (pc := 39) C dMo_sum_39 rfl ?_
    refine zv_icmp_ne (pc := 40) (tgt := 77) C dMo_sum_40 (by decide) (fun c40 => ?_) (fun c40 => ?_)
    · refine zv_iconst (pc := 77) (v := 0) C dMo_sum_77 (by decide) ?_
      refine zv_istore (pc := 78) C dMo_sum_78 (by decide) ?_
      refine zv_lload (pc := 80) C dMo_sum_80 rfl ?_
      refine zv_iload (pc := 82) C dMo_sum_82 rfl ?_
      refine zv_if_eq (pc := 84) (tgt := 102) C dMo_sum_84 (by decide) (fun c84 => ?_) (fun c84 => absurd rfl c84)
      refine zv_lconst (pc := 102) (v := 0) C dMo_sum_102 (by decide) ?_
      refine zv_ladd (pc := 103) C dMo_sum_103 ?_
      refine zv_lstore (pc := 104) C dMo_sum_104 (by decide) ?_
      refine zv_iinc (pc := 106) C dMo_sum_106 rfl (zn_inc j) (by decide) ?_
      refine zv_goto (pc := 109) (tgt := 6) C dMo_sum_109 (by decide) ?_
      exact zv_pick [0, 1, 2, 3, 4, 5, 7] rfl (by
        have h := ih (j + 1) (by omega)
        first
        | (have hB : rowB (lfa M) (lfv M) (lfk M) x v1 v2 k1 j = true := by rw [rowB_in]; simp [c40]
           simp only [sumF, hB, if_true] at h
           exact h)
        | (have hB : rowB (lfa M) (lfv M) (lfk M) x v1 v2 k1 j = false := by rw [rowB_in]; simp [c40]
           simp only [sumF, hB, Bool.false_eq_true, if_false] at h
           simp only [Int64.add_zero]
           exact h))
    · refine zv_aload_n (pc := 43) C dMo_sum_43 rfl ?_
      refine zv_get (pc := 44) C dMo_sum_44 fMo_26 (by first | assumption | exact zu_s | (refine (zu_n (by assumption)).trans ?_; first | assumption | exact zu_s)) rfl ?_
      refine zv_iload (pc := 47) C dMo_sum_47 rfl ?_
      refine zn_iald (pc := 49) C dMo_sum_49 (by first | assumption | exact zu_s | (refine (zu_n (by assumption)).trans ?_; first | assumption | exact zu_s)) (by omega) (by omega) ?_
      refine zv_i2l (pc := 50) C dMo_sum_50 ?_
      refine zv_iload_n (pc := 51) C dMo_sum_51 rfl ?_
      refine zv_i2l (pc := 52) C dMo_sum_52 ?_
      refine zv_iload_n (pc := 53) C dMo_sum_53 rfl ?_
      refine zv_i2l (pc := 54) C dMo_sum_54 ?_
      refine zv_callS (pc := 55) C dMo_sum_55 (cMo_in hk _ _ _ _) gMo_66 ⟨rfl, rfl, ⟨Nat.le_of_ble_eq_true rfl, Nat.le_of_ble_eq_true rfl⟩, mMo_in⟩ rfl rfl (Nat.le_of_ble_eq_true rfl) ⟨Nat.le_of_ble_eq_true rfl, Nat.le_of_ble_eq_true rfl⟩ (fun _ _ h => h.elim) (fun v G' h => ?_)
      obtain ⟨rfl, rfl⟩ := h
      refine zv_if_eq (pc := 58) (tgt := 77) C dMo_sum_58 (by decide) (fun c58 => ?_) (fun c58 => ?_)
      · refine zv_iconst (pc := 77) (v := 0) C dMo_sum_77 (by decide) ?_
        refine zv_istore (pc := 78) C dMo_sum_78 (by decide) ?_
        refine zv_lload (pc := 80) C dMo_sum_80 rfl ?_
        refine zv_iload (pc := 82) C dMo_sum_82 rfl ?_
        refine zv_if_eq (pc := 84) (tgt := 102) C dMo_sum_84 (by decide) (fun c84 => ?_) (fun c84 => absurd rfl c84)
        refine zv_lconst (pc := 102) (v := 0) C dMo_sum_102 (by decide) ?_
        refine zv_ladd (pc := 103) C dMo_sum_103 ?_
        refine zv_lstore (pc := 104) C dMo_sum_104 (by decide) ?_
        refine zv_iinc (pc := 106) C dMo_sum_106 rfl (zn_inc j) (by decide) ?_
        refine zv_goto (pc := 109) (tgt := 6) C dMo_sum_109 (by decide) ?_
        exact zv_pick [0, 1, 2, 3, 4, 5, 7] rfl (by
          have h := ih (j + 1) (by omega)
          (try simp only [zb_0, Bool.not_eq_false] at c58)
          first
          | (have hB : rowB (lfa M) (lfv M) (lfk M) x v1 v2 k1 j = true := by rw [rowB_in]; simp [c40, c58]
             simp only [sumF, hB, if_true] at h
             exact h)
          | (have hB : rowB (lfa M) (lfv M) (lfk M) x v1 v2 k1 j = false := by rw [rowB_in]; simp [c40, c58]
             simp only [sumF, hB, Bool.false_eq_true, if_false] at h
             simp only [Int64.add_zero]
             exact h))
      · refine zv_aload_n (pc := 61) C dMo_sum_61 rfl ?_
        refine zv_get (pc := 62) C dMo_sum_62 fMo_29 (by first | assumption | exact zu_s | (refine (zu_n (by assumption)).trans ?_; first | assumption | exact zu_s)) rfl ?_
        refine zv_iload (pc := 65) C dMo_sum_65 rfl ?_
        refine zn_iald (pc := 67) C dMo_sum_67 (by first | assumption | exact zu_s | (refine (zu_n (by assumption)).trans ?_; first | assumption | exact zu_s)) (by omega) (by omega) ?_
        refine zv_iload (pc := 68) C dMo_sum_68 rfl ?_
        refine zv_icmp_gt (pc := 70) (tgt := 77) C dMo_sum_70 (by decide) (fun c70 => ?_) (fun c70 => ?_)
        · refine zv_iconst (pc := 77) (v := 0) C dMo_sum_77 (by decide) ?_
          refine zv_istore (pc := 78) C dMo_sum_78 (by decide) ?_
          refine zv_lload (pc := 80) C dMo_sum_80 rfl ?_
          refine zv_iload (pc := 82) C dMo_sum_82 rfl ?_
          refine zv_if_eq (pc := 84) (tgt := 102) C dMo_sum_84 (by decide) (fun c84 => ?_) (fun c84 => absurd rfl c84)
          refine zv_lconst (pc := 102) (v := 0) C dMo_sum_102 (by decide) ?_
          refine zv_ladd (pc := 103) C dMo_sum_103 ?_
          refine zv_lstore (pc := 104) C dMo_sum_104 (by decide) ?_
          refine zv_iinc (pc := 106) C dMo_sum_106 rfl (zn_inc j) (by decide) ?_
          refine zv_goto (pc := 109) (tgt := 6) C dMo_sum_109 (by decide) ?_
          exact zv_pick [0, 1, 2, 3, 4, 5, 7] rfl (by
            have h := ih (j + 1) (by omega)
            (try simp only [zb_0, Bool.not_eq_false] at c58)
            first
            | (have hB : rowB (lfa M) (lfv M) (lfk M) x v1 v2 k1 j = true := by rw [rowB_in]; simp [c40, c58, c70]
               simp only [sumF, hB, if_true] at h
               exact h)
            | (have hB : rowB (lfa M) (lfv M) (lfk M) x v1 v2 k1 j = false := by rw [rowB_in]; simp [c40, c58, c70]
               simp only [sumF, hB, Bool.false_eq_true, if_false] at h
               simp only [Int64.add_zero]
               exact h))
        · refine zv_iconst (pc := 73) (v := 1) C dMo_sum_73 (by decide) ?_
          refine zv_goto (pc := 74) (tgt := 78) C dMo_sum_74 (by decide) ?_
          refine zv_istore (pc := 78) C dMo_sum_78 (by decide) ?_
          refine zv_lload (pc := 80) C dMo_sum_80 rfl ?_
          refine zv_iload (pc := 82) C dMo_sum_82 rfl ?_
          refine zv_if_eq (pc := 84) (tgt := 102) C dMo_sum_84 (by decide) (fun c84 => absurd c84 (by decide)) (fun c84 => ?_)
          refine zv_aload_n (pc := 87) C dMo_sum_87 rfl ?_
          refine zv_get (pc := 88) C dMo_sum_88 fMo_48 (by first | assumption | exact zu_s | (refine (zu_n (by assumption)).trans ?_; first | assumption | exact zu_s)) rfl ?_
          refine zv_aload_n (pc := 91) C dMo_sum_91 rfl ?_
          refine zv_get (pc := 92) C dMo_sum_92 fMo_52 (by first | assumption | exact zu_s | (refine (zu_n (by assumption)).trans ?_; first | assumption | exact zu_s)) rfl ?_
          refine zv_iload (pc := 95) C dMo_sum_95 rfl ?_
          refine zn_iald (pc := 97) C dMo_sum_97 (by first | assumption | exact zu_s | (refine (zu_n (by assumption)).trans ?_; first | assumption | exact zu_s)) (by omega) (by omega) ?_
          refine zn_lald (pc := 98) C dMo_sum_98 (by first | assumption | exact zu_s | (refine (zu_n (by assumption)).trans ?_; first | assumption | exact zu_s)) (by omega) (by omega) ?_
          refine zv_goto (pc := 99) (tgt := 103) C dMo_sum_99 (by decide) ?_
          refine zv_ladd (pc := 103) C dMo_sum_103 ?_
          refine zv_lstore (pc := 104) C dMo_sum_104 (by decide) ?_
          refine zv_iinc (pc := 106) C dMo_sum_106 rfl (zn_inc j) (by decide) ?_
          refine zv_goto (pc := 109) (tgt := 6) C dMo_sum_109 (by decide) ?_
          exact zv_pick [0, 1, 2, 3, 4, 5, 7] rfl (by
            have h := ih (j + 1) (by omega)
            (try simp only [zb_0, Bool.not_eq_false] at c58)
            first
            | (have hB : rowB (lfa M) (lfv M) (lfk M) x v1 v2 k1 j = true := by rw [rowB_in]; simp [c40, c58, c70]
               simp only [sumF, hB, if_true] at h
               exact h)
            | (have hB : rowB (lfa M) (lfv M) (lfk M) x v1 v2 k1 j = false := by rw [rowB_in]; simp [c40, c58, c70]
               simp only [sumF, hB, Bool.false_eq_true, if_false] at h
               simp only [Int64.add_zero]
               exact h))
set_option maxHeartbeats 4000000 in
set_option maxRecDepth 100000 in
theorem cMo_sum {O : zO} {l : Launch} (hk : zK O l) (G : zG) (x v1 v2 k1 : Int32) {am : Nat → Nat} {M : aM} (hM : zMm O G am M) (hO : mOk M) : zM O l yMo_sum [Cond.code yMo_sum bMo_sum 10 (some .long)] rmMo_sum [.ref (am 0), .int x, .int v1, .int v2, .int k1] G 0 0 (zPr (.long (balM M x v1 v2 k1)) G) zNo := by
  refine zm_of hk (by decide) (Nat.le_of_ble_eq_true rfl) ?_
  intro p e s m below meth c C hex hr hnm
  obtain ⟨hinj, h0, h1, h2, h3, h4, h5, h6, h7, h8, h9, h10, h11, h12, h13⟩ := id hM
  obtain ⟨o1, o2, o3, o4, o5⟩ := id hO
  refine zv_lconst (pc := 0) (v := 0) C dMo_sum_0 (by decide) ?_
  refine zv_lstore (pc := 1) C dMo_sum_1 (by decide) ?_
  refine zv_iconst (pc := 3) (v := 0) C dMo_sum_3 (by decide) ?_
  refine zv_istore (pc := 4) C dMo_sum_4 (by decide) ?_
  refine zv_pick [0, 1, 2, 3, 4, 5, 7] rfl (lMo_sum hk x v1 v2 k1 C hM hO ?_ (mn M) 0 (by omega))
  refine zv_lload (pc := 112) C dMo_sum_112 rfl ?_
  exact zv_lret (pc := 114) C hr dMo_sum_114 (Nat.le_of_ble_eq_true rfl) (Nat.le_of_ble_eq_true rfl) (by exact ⟨rfl, rfl⟩)
set_option maxHeartbeats 4000000 in
set_option maxRecDepth 100000 in
theorem cMo_balance {O : zO} {l : Launch} (hk : zK O l) (G : zG) (x d k : Int32) {am : Nat → Nat} {M : aM} (hM : zMm O G am M) (hO : mOk M) : zM O l yMo_balance [Cond.code yMo_balance bMo_balance 4 (some .long)] rmMo_balance [.ref (am 0), .int x, .int d, .int k] G 0 0 (fun v G' => (balOkM M x d k = false ∧ v = some (.long 0) ∧ zMt O G G' am (thM M 1)) ∨ (balOkM M x d k = true ∧ v = some (.long (balM M x 0 d k)) ∧ zMt O G G' am (thM M 0))) zNo := by
  refine zm_of hk (by decide) (Nat.le_of_ble_eq_true rfl) ?_
  intro p e s m below meth c C hex hr hnm
  obtain ⟨hinj, h0, h1, h2, h3, h4, h5, h6, h7, h8, h9, h10, h11, h12, h13⟩ := id hM
  obtain ⟨o1, o2, o3, o4, o5⟩ := id hO
  refine zv_aload_n (pc := 0) C dMo_balance_0 rfl ?_
  refine zv_aload_n (pc := 1) C dMo_balance_1 rfl ?_
  refine zv_iload_n (pc := 2) C dMo_balance_2 rfl ?_
  refine zv_callV (pc := 3) C dMo_balance_3 (cMo_isAccount hk _ _ hM hO) gMo_92 ⟨rfl, rfl, ⟨Nat.le_of_ble_eq_true rfl, Nat.le_of_ble_eq_true rfl⟩, mMo_isAccount⟩ rfl rfl (Nat.le_of_ble_eq_true rfl) (by first | assumption | exact zu_s | (refine (zu_n (hM.ne (by omega) (by omega) (by omega))).trans ?_; first | assumption | exact zu_s)) rfl rfl ⟨Nat.le_of_ble_eq_true rfl, Nat.le_of_ble_eq_true rfl⟩ (fun _ _ h => h.elim) (fun v G' h => ?_)
  obtain ⟨rfl, rfl⟩ := h
  refine zv_if_eq (pc := 6) (tgt := 27) C dMo_balance_6 (by decide) (fun c6 => ?_) (fun c6 => ?_)
  · refine zv_iconst (pc := 27) (v := 1) C dMo_balance_27 (by decide) ?_
    refine zv_put (pc := 28) C dMo_balance_28 fMo_61 ⟨tkMo, nmMo⟩ (by first | assumption | exact zu_s | (refine (zu_n (hM.ne (by omega) (by omega) (by omega))).trans ?_; first | assumption | exact zu_s)) rfl (tkMo 0 (by decide)) (by first | rfl | assumption | exact zb_nar _) (by first | rfl | assumption | decide +kernel) (Nat.le_of_ble_eq_true rfl) ?_
    have hM1 := hM.th (1)
    refine zv_aload_n (pc := 31) C dMo_balance_31 rfl ?_
    refine zv_get (pc := 32) C dMo_balance_32 fMo_61 (by first | assumption | exact zu_s | (refine (zu_n (hM.ne (by omega) (by omega) (by omega))).trans ?_; first | assumption | exact zu_s)) rfl ?_
    refine zv_if_le (pc := 35) (tgt := 42) C dMo_balance_35 (by decide) (fun c35 => absurd c35 (by decide)) (fun c35 => ?_)
    refine zv_lconst (pc := 38) (v := 0) C dMo_balance_38 (by decide) ?_
    refine zv_goto (pc := 39) (tgt := 50) C dMo_balance_39 (by decide) ?_
    exact zv_lret (pc := 50) C hr dMo_balance_50 (Nat.le_of_ble_eq_true rfl) (Nat.le_of_ble_eq_true rfl) (by (try simp only [zb_0, Bool.not_eq_false] at c6); exact Or.inl ⟨by simp [balOkM, c6], rfl, hM1, fun q hq => (zu_n (hq _ (by omega)))⟩)
  · refine zv_iload_n (pc := 9) C dMo_balance_9 rfl ?_
    refine zv_callS (pc := 10) C dMo_balance_10 (cMo_isDay hk _ _) gMo_82 ⟨rfl, rfl, ⟨Nat.le_of_ble_eq_true rfl, Nat.le_of_ble_eq_true rfl⟩, mMo_isDay⟩ rfl rfl (Nat.le_of_ble_eq_true rfl) ⟨Nat.le_of_ble_eq_true rfl, Nat.le_of_ble_eq_true rfl⟩ (fun _ _ h => h.elim) (fun v G' h => ?_)
    obtain ⟨rfl, rfl⟩ := h
    refine zv_if_eq (pc := 13) (tgt := 27) C dMo_balance_13 (by decide) (fun c13 => ?_) (fun c13 => ?_)
    · refine zv_iconst (pc := 27) (v := 1) C dMo_balance_27 (by decide) ?_
      refine zv_put (pc := 28) C dMo_balance_28 fMo_61 ⟨tkMo, nmMo⟩ (by first | assumption | exact zu_s | (refine (zu_n (hM.ne (by omega) (by omega) (by omega))).trans ?_; first | assumption | exact zu_s)) rfl (tkMo 0 (by decide)) (by first | rfl | assumption | exact zb_nar _) (by first | rfl | assumption | decide +kernel) (Nat.le_of_ble_eq_true rfl) ?_
      have hM1 := hM.th (1)
      refine zv_aload_n (pc := 31) C dMo_balance_31 rfl ?_
      refine zv_get (pc := 32) C dMo_balance_32 fMo_61 (by first | assumption | exact zu_s | (refine (zu_n (hM.ne (by omega) (by omega) (by omega))).trans ?_; first | assumption | exact zu_s)) rfl ?_
      refine zv_if_le (pc := 35) (tgt := 42) C dMo_balance_35 (by decide) (fun c35 => absurd c35 (by decide)) (fun c35 => ?_)
      refine zv_lconst (pc := 38) (v := 0) C dMo_balance_38 (by decide) ?_
      refine zv_goto (pc := 39) (tgt := 50) C dMo_balance_39 (by decide) ?_
      exact zv_lret (pc := 50) C hr dMo_balance_50 (Nat.le_of_ble_eq_true rfl) (Nat.le_of_ble_eq_true rfl) (by (try simp only [zb_0, Bool.not_eq_false] at c6); (try simp only [zb_0, Bool.not_eq_false] at c13); exact Or.inl ⟨by simp [balOkM, c6, c13], rfl, hM1, fun q hq => (zu_n (hq _ (by omega)))⟩)
    · refine zv_iload_n (pc := 16) C dMo_balance_16 rfl ?_
      refine zv_callS (pc := 17) C dMo_balance_17 (cMo_isDay hk _ _) gMo_82 ⟨rfl, rfl, ⟨Nat.le_of_ble_eq_true rfl, Nat.le_of_ble_eq_true rfl⟩, mMo_isDay⟩ rfl rfl (Nat.le_of_ble_eq_true rfl) ⟨Nat.le_of_ble_eq_true rfl, Nat.le_of_ble_eq_true rfl⟩ (fun _ _ h => h.elim) (fun v G' h => ?_)
      obtain ⟨rfl, rfl⟩ := h
      refine zv_if_eq (pc := 20) (tgt := 27) C dMo_balance_20 (by decide) (fun c20 => ?_) (fun c20 => ?_)
      · refine zv_iconst (pc := 27) (v := 1) C dMo_balance_27 (by decide) ?_
        refine zv_put (pc := 28) C dMo_balance_28 fMo_61 ⟨tkMo, nmMo⟩ (by first | assumption | exact zu_s | (refine (zu_n (hM.ne (by omega) (by omega) (by omega))).trans ?_; first | assumption | exact zu_s)) rfl (tkMo 0 (by decide)) (by first | rfl | assumption | exact zb_nar _) (by first | rfl | assumption | decide +kernel) (Nat.le_of_ble_eq_true rfl) ?_
        have hM1 := hM.th (1)
        refine zv_aload_n (pc := 31) C dMo_balance_31 rfl ?_
        refine zv_get (pc := 32) C dMo_balance_32 fMo_61 (by first | assumption | exact zu_s | (refine (zu_n (hM.ne (by omega) (by omega) (by omega))).trans ?_; first | assumption | exact zu_s)) rfl ?_
        refine zv_if_le (pc := 35) (tgt := 42) C dMo_balance_35 (by decide) (fun c35 => absurd c35 (by decide)) (fun c35 => ?_)
        refine zv_lconst (pc := 38) (v := 0) C dMo_balance_38 (by decide) ?_
        refine zv_goto (pc := 39) (tgt := 50) C dMo_balance_39 (by decide) ?_
        exact zv_lret (pc := 50) C hr dMo_balance_50 (Nat.le_of_ble_eq_true rfl) (Nat.le_of_ble_eq_true rfl) (by (try simp only [zb_0, Bool.not_eq_false] at c6); (try simp only [zb_0, Bool.not_eq_false] at c13); (try simp only [zb_0, Bool.not_eq_false] at c20); exact Or.inl ⟨by simp [balOkM, c6, c13, c20], rfl, hM1, fun q hq => (zu_n (hq _ (by omega)))⟩)
      · refine zv_iconst (pc := 23) (v := 0) C dMo_balance_23 (by decide) ?_
        refine zv_goto (pc := 24) (tgt := 28) C dMo_balance_24 (by decide) ?_
        refine zv_put (pc := 28) C dMo_balance_28 fMo_61 ⟨tkMo, nmMo⟩ (by first | assumption | exact zu_s | (refine (zu_n (hM.ne (by omega) (by omega) (by omega))).trans ?_; first | assumption | exact zu_s)) rfl (tkMo 0 (by decide)) (by first | rfl | assumption | exact zb_nar _) (by first | rfl | assumption | decide +kernel) (Nat.le_of_ble_eq_true rfl) ?_
        have hM1 := hM.th (0)
        refine zv_aload_n (pc := 31) C dMo_balance_31 rfl ?_
        refine zv_get (pc := 32) C dMo_balance_32 fMo_61 (by first | assumption | exact zu_s | (refine (zu_n (hM.ne (by omega) (by omega) (by omega))).trans ?_; first | assumption | exact zu_s)) rfl ?_
        refine zv_if_le (pc := 35) (tgt := 42) C dMo_balance_35 (by decide) (fun c35 => ?_) (fun c35 => absurd c35 (by decide))
        refine zv_aload_n (pc := 42) C dMo_balance_42 rfl ?_
        refine zv_iload_n (pc := 43) C dMo_balance_43 rfl ?_
        refine zv_iconst (pc := 44) (v := 0) C dMo_balance_44 (by decide) ?_
        refine zv_iload_n (pc := 45) C dMo_balance_45 rfl ?_
        refine zv_iload_n (pc := 46) C dMo_balance_46 rfl ?_
        refine zv_callV (pc := 47) C dMo_balance_47 (cMo_sum hk _ _ _ _ _ hM1 hO) gMo_123 ⟨rfl, rfl, ⟨Nat.le_of_ble_eq_true rfl, Nat.le_of_ble_eq_true rfl⟩, mMo_sum⟩ rfl rfl (Nat.le_of_ble_eq_true rfl) (by first | assumption | exact zu_s | (refine (zu_n (hM.ne (by omega) (by omega) (by omega))).trans ?_; first | assumption | exact zu_s)) rfl rfl ⟨Nat.le_of_ble_eq_true rfl, Nat.le_of_ble_eq_true rfl⟩ (fun _ _ h => h.elim) (fun v G' h => ?_)
        obtain ⟨rfl, rfl⟩ := h
        exact zv_lret (pc := 50) C hr dMo_balance_50 (Nat.le_of_ble_eq_true rfl) (Nat.le_of_ble_eq_true rfl) (by (try simp only [zb_0, Bool.not_eq_false] at c6); (try simp only [zb_0, Bool.not_eq_false] at c13); (try simp only [zb_0, Bool.not_eq_false] at c20); exact Or.inr ⟨by simp [balOkM, c6, c13, c20], rfl, hM1, fun q hq => (zu_n (hq _ (by omega)))⟩)
set_option maxHeartbeats 4000000 in
set_option maxRecDepth 100000 in
theorem cMo_statement {O : zO} {l : Launch} (hk : zK O l) (G : zG) (x d k : Int32) {am : Nat → Nat} {M : aM} (hM : zMm O G am M) (hO : mOk M) : zM O l yMo_statement [Cond.code yMo_statement bMo_statement 4 (some .long)] rmMo_statement [.ref (am 0), .int x, .int d, .int k] G 0 0 (fun v G' => (staOkM M x d k = false ∧ v = some (.long 0) ∧ zMt O G G' am (thM M 1)) ∨ (staOkM M x d k = true ∧ v = some (.long (balM M x (30 * d) (30 * d + 29) k)) ∧ zMt O G G' am (thM M 0))) zNo := by
  refine zm_of hk (by decide) (Nat.le_of_ble_eq_true rfl) ?_
  intro p e s m below meth c C hex hr hnm
  obtain ⟨hinj, h0, h1, h2, h3, h4, h5, h6, h7, h8, h9, h10, h11, h12, h13⟩ := id hM
  obtain ⟨o1, o2, o3, o4, o5⟩ := id hO
  refine zv_aload_n (pc := 0) C dMo_statement_0 rfl ?_
  refine zv_aload_n (pc := 1) C dMo_statement_1 rfl ?_
  refine zv_iload_n (pc := 2) C dMo_statement_2 rfl ?_
  refine zv_callV (pc := 3) C dMo_statement_3 (cMo_isAccount hk _ _ hM hO) gMo_92 ⟨rfl, rfl, ⟨Nat.le_of_ble_eq_true rfl, Nat.le_of_ble_eq_true rfl⟩, mMo_isAccount⟩ rfl rfl (Nat.le_of_ble_eq_true rfl) (by first | assumption | exact zu_s | (refine (zu_n (hM.ne (by omega) (by omega) (by omega))).trans ?_; first | assumption | exact zu_s)) rfl rfl ⟨Nat.le_of_ble_eq_true rfl, Nat.le_of_ble_eq_true rfl⟩ (fun _ _ h => h.elim) (fun v G' h => ?_)
  obtain ⟨rfl, rfl⟩ := h
  refine zv_if_eq (pc := 6) (tgt := 32) C dMo_statement_6 (by decide) (fun c6 => ?_) (fun c6 => ?_)
  · refine zv_iconst (pc := 32) (v := 1) C dMo_statement_32 (by decide) ?_
    refine zv_put (pc := 33) C dMo_statement_33 fMo_61 ⟨tkMo, nmMo⟩ (by first | assumption | exact zu_s | (refine (zu_n (hM.ne (by omega) (by omega) (by omega))).trans ?_; first | assumption | exact zu_s)) rfl (tkMo 0 (by decide)) (by first | rfl | assumption | exact zb_nar _) (by first | rfl | assumption | decide +kernel) (Nat.le_of_ble_eq_true rfl) ?_
    have hM1 := hM.th (1)
    refine zv_aload_n (pc := 36) C dMo_statement_36 rfl ?_
    refine zv_get (pc := 37) C dMo_statement_37 fMo_61 (by first | assumption | exact zu_s | (refine (zu_n (hM.ne (by omega) (by omega) (by omega))).trans ?_; first | assumption | exact zu_s)) rfl ?_
    refine zv_if_le (pc := 40) (tgt := 47) C dMo_statement_40 (by decide) (fun c40 => absurd c40 (by decide)) (fun c40 => ?_)
    refine zv_lconst (pc := 43) (v := 0) C dMo_statement_43 (by decide) ?_
    refine zv_goto (pc := 44) (tgt := 64) C dMo_statement_44 (by decide) ?_
    exact zv_lret (pc := 64) C hr dMo_statement_64 (Nat.le_of_ble_eq_true rfl) (Nat.le_of_ble_eq_true rfl) (by (try simp only [zb_0, Bool.not_eq_false] at c6); exact Or.inl ⟨by simp [staOkM, c6], rfl, hM1, fun q hq => (zu_n (hq _ (by omega)))⟩)
  · refine zv_iload_n (pc := 9) C dMo_statement_9 rfl ?_
    refine zv_i2l (pc := 10) C dMo_statement_10 ?_
    refine zv_lconst (pc := 11) (v := 0) C dMo_statement_11 (by decide) ?_
    refine zv_ldc2 (pc := 12) C dMo_statement_12 zw_709 ?_
    refine zv_callS (pc := 15) C dMo_statement_15 (cMo_in hk _ _ _ _) gMo_66 ⟨rfl, rfl, ⟨Nat.le_of_ble_eq_true rfl, Nat.le_of_ble_eq_true rfl⟩, mMo_in⟩ rfl rfl (Nat.le_of_ble_eq_true rfl) ⟨Nat.le_of_ble_eq_true rfl, Nat.le_of_ble_eq_true rfl⟩ (fun _ _ h => h.elim) (fun v G' h => ?_)
    obtain ⟨rfl, rfl⟩ := h
    refine zv_if_eq (pc := 18) (tgt := 32) C dMo_statement_18 (by decide) (fun c18 => ?_) (fun c18 => ?_)
    · refine zv_iconst (pc := 32) (v := 1) C dMo_statement_32 (by decide) ?_
      refine zv_put (pc := 33) C dMo_statement_33 fMo_61 ⟨tkMo, nmMo⟩ (by first | assumption | exact zu_s | (refine (zu_n (hM.ne (by omega) (by omega) (by omega))).trans ?_; first | assumption | exact zu_s)) rfl (tkMo 0 (by decide)) (by first | rfl | assumption | exact zb_nar _) (by first | rfl | assumption | decide +kernel) (Nat.le_of_ble_eq_true rfl) ?_
      have hM1 := hM.th (1)
      refine zv_aload_n (pc := 36) C dMo_statement_36 rfl ?_
      refine zv_get (pc := 37) C dMo_statement_37 fMo_61 (by first | assumption | exact zu_s | (refine (zu_n (hM.ne (by omega) (by omega) (by omega))).trans ?_; first | assumption | exact zu_s)) rfl ?_
      refine zv_if_le (pc := 40) (tgt := 47) C dMo_statement_40 (by decide) (fun c40 => absurd c40 (by decide)) (fun c40 => ?_)
      refine zv_lconst (pc := 43) (v := 0) C dMo_statement_43 (by decide) ?_
      refine zv_goto (pc := 44) (tgt := 64) C dMo_statement_44 (by decide) ?_
      exact zv_lret (pc := 64) C hr dMo_statement_64 (Nat.le_of_ble_eq_true rfl) (Nat.le_of_ble_eq_true rfl) (by (try simp only [zb_0, Bool.not_eq_false] at c6); (try simp only [zb_0, Bool.not_eq_false] at c18); (try rw [inB_mon] at c18); exact Or.inl ⟨by simp [staOkM, c6, c18], rfl, hM1, fun q hq => (zu_n (hq _ (by omega)))⟩)
    · refine zv_iload_n (pc := 21) C dMo_statement_21 rfl ?_
      refine zv_callS (pc := 22) C dMo_statement_22 (cMo_isDay hk _ _) gMo_82 ⟨rfl, rfl, ⟨Nat.le_of_ble_eq_true rfl, Nat.le_of_ble_eq_true rfl⟩, mMo_isDay⟩ rfl rfl (Nat.le_of_ble_eq_true rfl) ⟨Nat.le_of_ble_eq_true rfl, Nat.le_of_ble_eq_true rfl⟩ (fun _ _ h => h.elim) (fun v G' h => ?_)
      obtain ⟨rfl, rfl⟩ := h
      refine zv_if_eq (pc := 25) (tgt := 32) C dMo_statement_25 (by decide) (fun c25 => ?_) (fun c25 => ?_)
      · refine zv_iconst (pc := 32) (v := 1) C dMo_statement_32 (by decide) ?_
        refine zv_put (pc := 33) C dMo_statement_33 fMo_61 ⟨tkMo, nmMo⟩ (by first | assumption | exact zu_s | (refine (zu_n (hM.ne (by omega) (by omega) (by omega))).trans ?_; first | assumption | exact zu_s)) rfl (tkMo 0 (by decide)) (by first | rfl | assumption | exact zb_nar _) (by first | rfl | assumption | decide +kernel) (Nat.le_of_ble_eq_true rfl) ?_
        have hM1 := hM.th (1)
        refine zv_aload_n (pc := 36) C dMo_statement_36 rfl ?_
        refine zv_get (pc := 37) C dMo_statement_37 fMo_61 (by first | assumption | exact zu_s | (refine (zu_n (hM.ne (by omega) (by omega) (by omega))).trans ?_; first | assumption | exact zu_s)) rfl ?_
        refine zv_if_le (pc := 40) (tgt := 47) C dMo_statement_40 (by decide) (fun c40 => absurd c40 (by decide)) (fun c40 => ?_)
        refine zv_lconst (pc := 43) (v := 0) C dMo_statement_43 (by decide) ?_
        refine zv_goto (pc := 44) (tgt := 64) C dMo_statement_44 (by decide) ?_
        exact zv_lret (pc := 64) C hr dMo_statement_64 (Nat.le_of_ble_eq_true rfl) (Nat.le_of_ble_eq_true rfl) (by (try simp only [zb_0, Bool.not_eq_false] at c6); (try simp only [zb_0, Bool.not_eq_false] at c18); (try simp only [zb_0, Bool.not_eq_false] at c25); (try rw [inB_mon] at c18); exact Or.inl ⟨by simp [staOkM, c6, c18, c25], rfl, hM1, fun q hq => (zu_n (hq _ (by omega)))⟩)
      · refine zv_iconst (pc := 28) (v := 0) C dMo_statement_28 (by decide) ?_
        refine zv_goto (pc := 29) (tgt := 33) C dMo_statement_29 (by decide) ?_
        refine zv_put (pc := 33) C dMo_statement_33 fMo_61 ⟨tkMo, nmMo⟩ (by first | assumption | exact zu_s | (refine (zu_n (hM.ne (by omega) (by omega) (by omega))).trans ?_; first | assumption | exact zu_s)) rfl (tkMo 0 (by decide)) (by first | rfl | assumption | exact zb_nar _) (by first | rfl | assumption | decide +kernel) (Nat.le_of_ble_eq_true rfl) ?_
        have hM1 := hM.th (0)
        refine zv_aload_n (pc := 36) C dMo_statement_36 rfl ?_
        refine zv_get (pc := 37) C dMo_statement_37 fMo_61 (by first | assumption | exact zu_s | (refine (zu_n (hM.ne (by omega) (by omega) (by omega))).trans ?_; first | assumption | exact zu_s)) rfl ?_
        refine zv_if_le (pc := 40) (tgt := 47) C dMo_statement_40 (by decide) (fun c40 => ?_) (fun c40 => absurd c40 (by decide))
        refine zv_aload_n (pc := 47) C dMo_statement_47 rfl ?_
        refine zv_iload_n (pc := 48) C dMo_statement_48 rfl ?_
        refine zv_bipush (pc := 49) (v := 30) C dMo_statement_49 (by decide) ?_
        refine zv_iload_n (pc := 51) C dMo_statement_51 rfl ?_
        refine zv_imul (pc := 52) C dMo_statement_52 ?_
        refine zv_bipush (pc := 53) (v := 30) C dMo_statement_53 (by decide) ?_
        refine zv_iload_n (pc := 55) C dMo_statement_55 rfl ?_
        refine zv_imul (pc := 56) C dMo_statement_56 ?_
        refine zv_bipush (pc := 57) (v := 29) C dMo_statement_57 (by decide) ?_
        refine zv_iadd (pc := 59) C dMo_statement_59 ?_
        refine zv_iload_n (pc := 60) C dMo_statement_60 rfl ?_
        refine zv_callV (pc := 61) C dMo_statement_61 (cMo_sum hk _ _ _ _ _ hM1 hO) gMo_123 ⟨rfl, rfl, ⟨Nat.le_of_ble_eq_true rfl, Nat.le_of_ble_eq_true rfl⟩, mMo_sum⟩ rfl rfl (Nat.le_of_ble_eq_true rfl) (by first | assumption | exact zu_s | (refine (zu_n (hM.ne (by omega) (by omega) (by omega))).trans ?_; first | assumption | exact zu_s)) rfl rfl ⟨Nat.le_of_ble_eq_true rfl, Nat.le_of_ble_eq_true rfl⟩ (fun _ _ h => h.elim) (fun v G' h => ?_)
        obtain ⟨rfl, rfl⟩ := h
        exact zv_lret (pc := 64) C hr dMo_statement_64 (Nat.le_of_ble_eq_true rfl) (Nat.le_of_ble_eq_true rfl) (by (try simp only [zb_0, Bool.not_eq_false] at c6); (try simp only [zb_0, Bool.not_eq_false] at c18); (try simp only [zb_0, Bool.not_eq_false] at c25); (try rw [inB_mon] at c18); exact Or.inr ⟨by simp [staOkM, c6, c18, c25], rfl, hM1, fun q hq => (zu_n (hq _ (by omega)))⟩)
set_option maxHeartbeats 4000000 in
set_option maxRecDepth 100000 in
theorem cMo_reconcile {O : zO} {l : Launch} (hk : zK O l) (G : zG) (x y d k : Int32) {am : Nat → Nat} {M : aM} (hM : zMm O G am M) (hO : mOk M) : zM O l yMo_reconcile [Cond.code yMo_reconcile bMo_reconcile 5 (some .long)] rmMo_reconcile [.ref (am 0), .int x, .int y, .int d, .int k] G 0 0 (fun v G' => (recOkM M x y d k = false ∧ v = some (.long 0) ∧ zMt O G G' am (thM M 1)) ∨ (recOkM M x y d k = true ∧ v = some (.long (balM M x 0 d k + balM M y 0 d k)) ∧ zMt O G G' am (thM M 0))) zNo := by
  refine zm_of hk (by decide) (Nat.le_of_ble_eq_true rfl) ?_
  intro p e s m below meth c C hex hr hnm
  obtain ⟨hinj, h0, h1, h2, h3, h4, h5, h6, h7, h8, h9, h10, h11, h12, h13⟩ := id hM
  obtain ⟨o1, o2, o3, o4, o5⟩ := id hO
  refine zv_aload_n (pc := 0) C dMo_reconcile_0 rfl ?_
  refine zv_aload_n (pc := 1) C dMo_reconcile_1 rfl ?_
  refine zv_iload_n (pc := 2) C dMo_reconcile_2 rfl ?_
  refine zv_callV (pc := 3) C dMo_reconcile_3 (cMo_isAccount hk _ _ hM hO) gMo_92 ⟨rfl, rfl, ⟨Nat.le_of_ble_eq_true rfl, Nat.le_of_ble_eq_true rfl⟩, mMo_isAccount⟩ rfl rfl (Nat.le_of_ble_eq_true rfl) (by first | assumption | exact zu_s | (refine (zu_n (hM.ne (by omega) (by omega) (by omega))).trans ?_; first | assumption | exact zu_s)) rfl rfl ⟨Nat.le_of_ble_eq_true rfl, Nat.le_of_ble_eq_true rfl⟩ (fun _ _ h => h.elim) (fun v G' h => ?_)
  obtain ⟨rfl, rfl⟩ := h
  refine zv_if_eq (pc := 6) (tgt := 41) C dMo_reconcile_6 (by decide) (fun c6 => ?_) (fun c6 => ?_)
  · refine zv_iconst (pc := 41) (v := 1) C dMo_reconcile_41 (by decide) ?_
    refine zv_put (pc := 42) C dMo_reconcile_42 fMo_61 ⟨tkMo, nmMo⟩ (by first | assumption | exact zu_s | (refine (zu_n (hM.ne (by omega) (by omega) (by omega))).trans ?_; first | assumption | exact zu_s)) rfl (tkMo 0 (by decide)) (by first | rfl | assumption | exact zb_nar _) (by first | rfl | assumption | decide +kernel) (Nat.le_of_ble_eq_true rfl) ?_
    have hM1 := hM.th (1)
    refine zv_aload_n (pc := 45) C dMo_reconcile_45 rfl ?_
    refine zv_get (pc := 46) C dMo_reconcile_46 fMo_61 (by first | assumption | exact zu_s | (refine (zu_n (hM.ne (by omega) (by omega) (by omega))).trans ?_; first | assumption | exact zu_s)) rfl ?_
    refine zv_if_le (pc := 49) (tgt := 56) C dMo_reconcile_49 (by decide) (fun c49 => absurd c49 (by decide)) (fun c49 => ?_)
    refine zv_lconst (pc := 52) (v := 0) C dMo_reconcile_52 (by decide) ?_
    refine zv_goto (pc := 53) (tgt := 75) C dMo_reconcile_53 (by decide) ?_
    exact zv_lret (pc := 75) C hr dMo_reconcile_75 (Nat.le_of_ble_eq_true rfl) (Nat.le_of_ble_eq_true rfl) (by (try simp only [zb_0, Bool.not_eq_false] at c6); exact Or.inl ⟨by simp [recOkM, c6], rfl, hM1, fun q hq => (zu_n (hq _ (by omega)))⟩)
  · refine zv_aload_n (pc := 9) C dMo_reconcile_9 rfl ?_
    refine zv_iload_n (pc := 10) C dMo_reconcile_10 rfl ?_
    refine zv_callV (pc := 11) C dMo_reconcile_11 (cMo_isAccount hk _ _ hM hO) gMo_92 ⟨rfl, rfl, ⟨Nat.le_of_ble_eq_true rfl, Nat.le_of_ble_eq_true rfl⟩, mMo_isAccount⟩ rfl rfl (Nat.le_of_ble_eq_true rfl) (by first | assumption | exact zu_s | (refine (zu_n (hM.ne (by omega) (by omega) (by omega))).trans ?_; first | assumption | exact zu_s)) rfl rfl ⟨Nat.le_of_ble_eq_true rfl, Nat.le_of_ble_eq_true rfl⟩ (fun _ _ h => h.elim) (fun v G' h => ?_)
    obtain ⟨rfl, rfl⟩ := h
    refine zv_if_eq (pc := 14) (tgt := 41) C dMo_reconcile_14 (by decide) (fun c14 => ?_) (fun c14 => ?_)
    · refine zv_iconst (pc := 41) (v := 1) C dMo_reconcile_41 (by decide) ?_
      refine zv_put (pc := 42) C dMo_reconcile_42 fMo_61 ⟨tkMo, nmMo⟩ (by first | assumption | exact zu_s | (refine (zu_n (hM.ne (by omega) (by omega) (by omega))).trans ?_; first | assumption | exact zu_s)) rfl (tkMo 0 (by decide)) (by first | rfl | assumption | exact zb_nar _) (by first | rfl | assumption | decide +kernel) (Nat.le_of_ble_eq_true rfl) ?_
      have hM1 := hM.th (1)
      refine zv_aload_n (pc := 45) C dMo_reconcile_45 rfl ?_
      refine zv_get (pc := 46) C dMo_reconcile_46 fMo_61 (by first | assumption | exact zu_s | (refine (zu_n (hM.ne (by omega) (by omega) (by omega))).trans ?_; first | assumption | exact zu_s)) rfl ?_
      refine zv_if_le (pc := 49) (tgt := 56) C dMo_reconcile_49 (by decide) (fun c49 => absurd c49 (by decide)) (fun c49 => ?_)
      refine zv_lconst (pc := 52) (v := 0) C dMo_reconcile_52 (by decide) ?_
      refine zv_goto (pc := 53) (tgt := 75) C dMo_reconcile_53 (by decide) ?_
      exact zv_lret (pc := 75) C hr dMo_reconcile_75 (Nat.le_of_ble_eq_true rfl) (Nat.le_of_ble_eq_true rfl) (by (try simp only [zb_0, Bool.not_eq_false] at c6); (try simp only [zb_0, Bool.not_eq_false] at c14); exact Or.inl ⟨by simp [recOkM, c6, c14], rfl, hM1, fun q hq => (zu_n (hq _ (by omega)))⟩)
    · refine zv_iload_n (pc := 17) C dMo_reconcile_17 rfl ?_
      refine zv_iload_n (pc := 18) C dMo_reconcile_18 rfl ?_
      refine zv_icmp_eq (pc := 19) (tgt := 41) C dMo_reconcile_19 (by decide) (fun c19 => ?_) (fun c19 => ?_)
      · refine zv_iconst (pc := 41) (v := 1) C dMo_reconcile_41 (by decide) ?_
        refine zv_put (pc := 42) C dMo_reconcile_42 fMo_61 ⟨tkMo, nmMo⟩ (by first | assumption | exact zu_s | (refine (zu_n (hM.ne (by omega) (by omega) (by omega))).trans ?_; first | assumption | exact zu_s)) rfl (tkMo 0 (by decide)) (by first | rfl | assumption | exact zb_nar _) (by first | rfl | assumption | decide +kernel) (Nat.le_of_ble_eq_true rfl) ?_
        have hM1 := hM.th (1)
        refine zv_aload_n (pc := 45) C dMo_reconcile_45 rfl ?_
        refine zv_get (pc := 46) C dMo_reconcile_46 fMo_61 (by first | assumption | exact zu_s | (refine (zu_n (hM.ne (by omega) (by omega) (by omega))).trans ?_; first | assumption | exact zu_s)) rfl ?_
        refine zv_if_le (pc := 49) (tgt := 56) C dMo_reconcile_49 (by decide) (fun c49 => absurd c49 (by decide)) (fun c49 => ?_)
        refine zv_lconst (pc := 52) (v := 0) C dMo_reconcile_52 (by decide) ?_
        refine zv_goto (pc := 53) (tgt := 75) C dMo_reconcile_53 (by decide) ?_
        exact zv_lret (pc := 75) C hr dMo_reconcile_75 (Nat.le_of_ble_eq_true rfl) (Nat.le_of_ble_eq_true rfl) (by (try simp only [zb_0, Bool.not_eq_false] at c6); (try simp only [zb_0, Bool.not_eq_false] at c14); (try simp only [zb_0, Bool.not_eq_false] at c19); exact Or.inl ⟨by simp [recOkM, c6, c14, c19], rfl, hM1, fun q hq => (zu_n (hq _ (by omega)))⟩)
      · refine zv_iload_n (pc := 22) C dMo_reconcile_22 rfl ?_
        refine zv_callS (pc := 23) C dMo_reconcile_23 (cMo_isDay hk _ _) gMo_82 ⟨rfl, rfl, ⟨Nat.le_of_ble_eq_true rfl, Nat.le_of_ble_eq_true rfl⟩, mMo_isDay⟩ rfl rfl (Nat.le_of_ble_eq_true rfl) ⟨Nat.le_of_ble_eq_true rfl, Nat.le_of_ble_eq_true rfl⟩ (fun _ _ h => h.elim) (fun v G' h => ?_)
        obtain ⟨rfl, rfl⟩ := h
        refine zv_if_eq (pc := 26) (tgt := 41) C dMo_reconcile_26 (by decide) (fun c26 => ?_) (fun c26 => ?_)
        · refine zv_iconst (pc := 41) (v := 1) C dMo_reconcile_41 (by decide) ?_
          refine zv_put (pc := 42) C dMo_reconcile_42 fMo_61 ⟨tkMo, nmMo⟩ (by first | assumption | exact zu_s | (refine (zu_n (hM.ne (by omega) (by omega) (by omega))).trans ?_; first | assumption | exact zu_s)) rfl (tkMo 0 (by decide)) (by first | rfl | assumption | exact zb_nar _) (by first | rfl | assumption | decide +kernel) (Nat.le_of_ble_eq_true rfl) ?_
          have hM1 := hM.th (1)
          refine zv_aload_n (pc := 45) C dMo_reconcile_45 rfl ?_
          refine zv_get (pc := 46) C dMo_reconcile_46 fMo_61 (by first | assumption | exact zu_s | (refine (zu_n (hM.ne (by omega) (by omega) (by omega))).trans ?_; first | assumption | exact zu_s)) rfl ?_
          refine zv_if_le (pc := 49) (tgt := 56) C dMo_reconcile_49 (by decide) (fun c49 => absurd c49 (by decide)) (fun c49 => ?_)
          refine zv_lconst (pc := 52) (v := 0) C dMo_reconcile_52 (by decide) ?_
          refine zv_goto (pc := 53) (tgt := 75) C dMo_reconcile_53 (by decide) ?_
          exact zv_lret (pc := 75) C hr dMo_reconcile_75 (Nat.le_of_ble_eq_true rfl) (Nat.le_of_ble_eq_true rfl) (by (try simp only [zb_0, Bool.not_eq_false] at c6); (try simp only [zb_0, Bool.not_eq_false] at c14); (try simp only [zb_0, Bool.not_eq_false] at c19); (try simp only [zb_0, Bool.not_eq_false] at c26); exact Or.inl ⟨by simp [recOkM, c6, c14, c19, c26], rfl, hM1, fun q hq => (zu_n (hq _ (by omega)))⟩)
        · refine zv_iload (pc := 29) C dMo_reconcile_29 rfl ?_
          refine zv_callS (pc := 31) C dMo_reconcile_31 (cMo_isDay hk _ _) gMo_82 ⟨rfl, rfl, ⟨Nat.le_of_ble_eq_true rfl, Nat.le_of_ble_eq_true rfl⟩, mMo_isDay⟩ rfl rfl (Nat.le_of_ble_eq_true rfl) ⟨Nat.le_of_ble_eq_true rfl, Nat.le_of_ble_eq_true rfl⟩ (fun _ _ h => h.elim) (fun v G' h => ?_)
          obtain ⟨rfl, rfl⟩ := h
          refine zv_if_eq (pc := 34) (tgt := 41) C dMo_reconcile_34 (by decide) (fun c34 => ?_) (fun c34 => ?_)
          · refine zv_iconst (pc := 41) (v := 1) C dMo_reconcile_41 (by decide) ?_
            refine zv_put (pc := 42) C dMo_reconcile_42 fMo_61 ⟨tkMo, nmMo⟩ (by first | assumption | exact zu_s | (refine (zu_n (hM.ne (by omega) (by omega) (by omega))).trans ?_; first | assumption | exact zu_s)) rfl (tkMo 0 (by decide)) (by first | rfl | assumption | exact zb_nar _) (by first | rfl | assumption | decide +kernel) (Nat.le_of_ble_eq_true rfl) ?_
            have hM1 := hM.th (1)
            refine zv_aload_n (pc := 45) C dMo_reconcile_45 rfl ?_
            refine zv_get (pc := 46) C dMo_reconcile_46 fMo_61 (by first | assumption | exact zu_s | (refine (zu_n (hM.ne (by omega) (by omega) (by omega))).trans ?_; first | assumption | exact zu_s)) rfl ?_
            refine zv_if_le (pc := 49) (tgt := 56) C dMo_reconcile_49 (by decide) (fun c49 => absurd c49 (by decide)) (fun c49 => ?_)
            refine zv_lconst (pc := 52) (v := 0) C dMo_reconcile_52 (by decide) ?_
            refine zv_goto (pc := 53) (tgt := 75) C dMo_reconcile_53 (by decide) ?_
            exact zv_lret (pc := 75) C hr dMo_reconcile_75 (Nat.le_of_ble_eq_true rfl) (Nat.le_of_ble_eq_true rfl) (by (try simp only [zb_0, Bool.not_eq_false] at c6); (try simp only [zb_0, Bool.not_eq_false] at c14); (try simp only [zb_0, Bool.not_eq_false] at c19); (try simp only [zb_0, Bool.not_eq_false] at c26); (try simp only [zb_0, Bool.not_eq_false] at c34); exact Or.inl ⟨by simp [recOkM, c6, c14, c19, c26, c34], rfl, hM1, fun q hq => (zu_n (hq _ (by omega)))⟩)
          · refine zv_iconst (pc := 37) (v := 0) C dMo_reconcile_37 (by decide) ?_
            refine zv_goto (pc := 38) (tgt := 42) C dMo_reconcile_38 (by decide) ?_
            refine zv_put (pc := 42) C dMo_reconcile_42 fMo_61 ⟨tkMo, nmMo⟩ (by first | assumption | exact zu_s | (refine (zu_n (hM.ne (by omega) (by omega) (by omega))).trans ?_; first | assumption | exact zu_s)) rfl (tkMo 0 (by decide)) (by first | rfl | assumption | exact zb_nar _) (by first | rfl | assumption | decide +kernel) (Nat.le_of_ble_eq_true rfl) ?_
            have hM1 := hM.th (0)
            refine zv_aload_n (pc := 45) C dMo_reconcile_45 rfl ?_
            refine zv_get (pc := 46) C dMo_reconcile_46 fMo_61 (by first | assumption | exact zu_s | (refine (zu_n (hM.ne (by omega) (by omega) (by omega))).trans ?_; first | assumption | exact zu_s)) rfl ?_
            refine zv_if_le (pc := 49) (tgt := 56) C dMo_reconcile_49 (by decide) (fun c49 => ?_) (fun c49 => absurd c49 (by decide))
            refine zv_aload_n (pc := 56) C dMo_reconcile_56 rfl ?_
            refine zv_iload_n (pc := 57) C dMo_reconcile_57 rfl ?_
            refine zv_iconst (pc := 58) (v := 0) C dMo_reconcile_58 (by decide) ?_
            refine zv_iload_n (pc := 59) C dMo_reconcile_59 rfl ?_
            refine zv_iload (pc := 60) C dMo_reconcile_60 rfl ?_
            refine zv_callV (pc := 62) C dMo_reconcile_62 (cMo_sum hk _ _ _ _ _ hM1 hO) gMo_123 ⟨rfl, rfl, ⟨Nat.le_of_ble_eq_true rfl, Nat.le_of_ble_eq_true rfl⟩, mMo_sum⟩ rfl rfl (Nat.le_of_ble_eq_true rfl) (by first | assumption | exact zu_s | (refine (zu_n (hM.ne (by omega) (by omega) (by omega))).trans ?_; first | assumption | exact zu_s)) rfl rfl ⟨Nat.le_of_ble_eq_true rfl, Nat.le_of_ble_eq_true rfl⟩ (fun _ _ h => h.elim) (fun v G' h => ?_)
            obtain ⟨rfl, rfl⟩ := h
            refine zv_aload_n (pc := 65) C dMo_reconcile_65 rfl ?_
            refine zv_iload_n (pc := 66) C dMo_reconcile_66 rfl ?_
            refine zv_iconst (pc := 67) (v := 0) C dMo_reconcile_67 (by decide) ?_
            refine zv_iload_n (pc := 68) C dMo_reconcile_68 rfl ?_
            refine zv_iload (pc := 69) C dMo_reconcile_69 rfl ?_
            refine zv_callV (pc := 71) C dMo_reconcile_71 (cMo_sum hk _ _ _ _ _ hM1 hO) gMo_123 ⟨rfl, rfl, ⟨Nat.le_of_ble_eq_true rfl, Nat.le_of_ble_eq_true rfl⟩, mMo_sum⟩ rfl rfl (Nat.le_of_ble_eq_true rfl) (by first | assumption | exact zu_s | (refine (zu_n (hM.ne (by omega) (by omega) (by omega))).trans ?_; first | assumption | exact zu_s)) rfl rfl ⟨Nat.le_of_ble_eq_true rfl, Nat.le_of_ble_eq_true rfl⟩ (fun _ _ h => h.elim) (fun v G' h => ?_)
            obtain ⟨rfl, rfl⟩ := h
            refine zv_ladd (pc := 74) C dMo_reconcile_74 ?_
            exact zv_lret (pc := 75) C hr dMo_reconcile_75 (Nat.le_of_ble_eq_true rfl) (Nat.le_of_ble_eq_true rfl) (by (try simp only [zb_0, Bool.not_eq_false] at c6); (try simp only [zb_0, Bool.not_eq_false] at c14); (try simp only [zb_0, Bool.not_eq_false] at c19); (try simp only [zb_0, Bool.not_eq_false] at c26); (try simp only [zb_0, Bool.not_eq_false] at c34); exact Or.inr ⟨by simp [recOkM, c6, c14, c19, c26, c34], rfl, hM1, fun q hq => (zu_n (hq _ (by omega)))⟩)
set_option maxHeartbeats 4000000 in
set_option maxRecDepth 100000 in
theorem lMo_sumOf {O : zO} {p : Program} {l : Launch} {e : Env} {s : State} {m : MethodId} {args : Array Value} {below : List Frame} {meth : Method} {c : Code} {Q : State → Prop} {G : zG} (hk : zK O l) (x k1 : Int32) {am : Nat → Nat} {M : aM} (C : zC O p l s m meth c RMo bMo_sumOf 6) (hM : zMm O G am M) (hO : mOk M) (kk : zV O p l e rmMo_sumOf s m args below meth c 6 Q 48 [(0, .ref (am 0)), (1, .int x), (2, .int k1), (3, .long (colQ (mko M) (colG M k1) x (mna M))), (5, .int (nI (mna M)))] [] G 0 0) : ∀ k j : Nat, j + k = (mna M) → zV O p l e rmMo_sumOf s m args below meth c 6 Q 5 [(0, .ref (am 0)), (1, .int x), (2, .int k1), (3, .long (colQ (mko M) (colG M k1) x j)), (5, .int (nI j))] [] G 0 0 := by
  intro k
  induction k with
  | zero =>
    intro j hj
    obtain ⟨hinj, h0, h1, h2, h3, h4, h5, h6, h7, h8, h9, h10, h11, h12, h13⟩ := id hM
    obtain ⟨o1, o2, o3, o4, o5⟩ := id hO
    have hjn : j = (mna M) := by omega
    subst hjn
    refine zv_iload (pc := 5) C dMo_sumOf_5 rfl ?_
    refine zv_aload_n (pc := 7) C dMo_sumOf_7 rfl ?_
    refine zv_get (pc := 8) C dMo_sumOf_8 fMo_72 (by first | assumption | exact zu_s | (refine (zu_n (by assumption)).trans ?_; first | assumption | exact zu_s)) rfl ?_
    refine zv_icmp_ge (pc := 11) (tgt := 48) C dMo_sumOf_11 (by decide) (fun cX => ?_) (fun cX => absurd (nI_le (a := (mna M)) (b := (mna M)) (Nat.le_refl _) (by omega)) cX)
    exact kk
  | succ k ih =>
    intro j hj
    obtain ⟨hinj, h0, h1, h2, h3, h4, h5, h6, h7, h8, h9, h10, h11, h12, h13⟩ := id hM
    obtain ⟨o1, o2, o3, o4, o5⟩ := id hO
    refine zv_iload (pc := 5) C dMo_sumOf_5 rfl ?_
    refine zv_aload_n (pc := 7) C dMo_sumOf_7 rfl ?_
    refine zv_get (pc := 8) C dMo_sumOf_8 fMo_72 (by first | assumption | exact zu_s | (refine (zu_n (by assumption)).trans ?_; first | assumption | exact zu_s)) rfl ?_
    refine zv_icmp_ge (pc := 11) (tgt := 48) C dMo_sumOf_11 (by decide) (fun cX => absurd cX (nI_ge (a := j) (b := (mna M)) (by omega) (by omega))) (fun cX => ?_)
    refine zv_lload_n (pc := 14) C dMo_sumOf_14 rfl ?_
    refine zv_aload_n (pc := 15) C dMo_sumOf_15 rfl ?_
    refine zv_get (pc := 16) C dMo_sumOf_16 fMo_19 (by first | assumption | exact zu_s | (refine (zu_n (by assumption)).trans ?_; first | assumption | exact zu_s)) rfl ?_
    refine zv_iload (pc := 19) C dMo_sumOf_19 rfl ?_
    refine zn_iald (pc := 21) C dMo_sumOf_21 (by first | assumption | exact zu_s | (refine (zu_n (by assumption)).trans ?_; first | assumption | exact zu_s)) (by omega) (by omega) ?_
    refine zv_iload_n (pc := 22) C dMo_sumOf_22 rfl ?_
    refine zv_icmp_ne (pc := 23) (tgt := 39) C dMo_sumOf_23 (by decide) (fun c23 => ?_) (fun c23 => ?_)
    · refine zv_lconst (pc := 39) (v := 0) C dMo_sumOf_39 (by decide) ?_
      refine zv_ladd (pc := 40) C dMo_sumOf_40 ?_
      refine zv_lstore_n (pc := 41) C dMo_sumOf_41 (by decide) ?_
      refine zv_iinc (pc := 42) C dMo_sumOf_42 rfl (zn_inc j) (by decide) ?_
      refine zv_goto (pc := 45) (tgt := 5) C dMo_sumOf_45 (by decide) ?_
      exact zv_pick [0, 1, 2, 3, 5] rfl (by
        have h := ih (j + 1) (by omega)
        first
        | (have hB : decide (mko M j = x) = true := by simp [c23]
           simp only [colQ, hB, if_true] at h
           exact h)
        | (have hB : decide (mko M j = x) = false := by simp [c23]
           simp only [colQ, hB, Bool.false_eq_true, if_false] at h
           simp only [Int64.add_zero]
           exact h))
    · refine zv_aload_n (pc := 26) C dMo_sumOf_26 rfl ?_
      refine zv_iload (pc := 27) C dMo_sumOf_27 rfl ?_
      refine zv_iconst (pc := 29) (v := 0) C dMo_sumOf_29 (by decide) ?_
      refine zv_ldc (pc := 30) C dMo_sumOf_30 zw_729 ?_
      refine zv_iload_n (pc := 32) C dMo_sumOf_32 rfl ?_
      refine zv_callV (pc := 33) C dMo_sumOf_33 (cMo_sum hk _ _ _ _ _ hM hO) gMo_123 ⟨rfl, rfl, ⟨Nat.le_of_ble_eq_true rfl, Nat.le_of_ble_eq_true rfl⟩, mMo_sum⟩ rfl rfl (Nat.le_of_ble_eq_true rfl) (by first | assumption | exact zu_s | (refine (zu_n (by assumption)).trans ?_; first | assumption | exact zu_s)) rfl rfl ⟨Nat.le_of_ble_eq_true rfl, Nat.le_of_ble_eq_true rfl⟩ (fun _ _ h => h.elim) (fun v G' h => ?_)
      obtain ⟨rfl, rfl⟩ := h
      refine zv_goto (pc := 36) (tgt := 40) C dMo_sumOf_36 (by decide) ?_
      refine zv_ladd (pc := 40) C dMo_sumOf_40 ?_
      refine zv_lstore_n (pc := 41) C dMo_sumOf_41 (by decide) ?_
      refine zv_iinc (pc := 42) C dMo_sumOf_42 rfl (zn_inc j) (by decide) ?_
      refine zv_goto (pc := 45) (tgt := 5) C dMo_sumOf_45 (by decide) ?_
      exact zv_pick [0, 1, 2, 3, 5] rfl (by
        have h := ih (j + 1) (by omega)
        first
        | (have hB : decide (mko M j = x) = true := by simp [c23]
           simp only [colQ, hB, if_true] at h
           exact h)
        | (have hB : decide (mko M j = x) = false := by simp [c23]
           simp only [colQ, hB, Bool.false_eq_true, if_false] at h
           simp only [Int64.add_zero]
           exact h))
set_option maxHeartbeats 4000000 in
set_option maxRecDepth 100000 in
theorem cMo_sumOf {O : zO} {l : Launch} (hk : zK O l) (G : zG) (x k1 : Int32) {am : Nat → Nat} {M : aM} (hM : zMm O G am M) (hO : mOk M) : zM O l yMo_sumOf [Cond.code yMo_sumOf bMo_sumOf 6 (some .long)] rmMo_sumOf [.ref (am 0), .int x, .int k1] G 0 0 (zPr (.long (colM M x k1)) G) zNo := by
  refine zm_of hk (by decide) (Nat.le_of_ble_eq_true rfl) ?_
  intro p e s m below meth c C hex hr hnm
  obtain ⟨hinj, h0, h1, h2, h3, h4, h5, h6, h7, h8, h9, h10, h11, h12, h13⟩ := id hM
  obtain ⟨o1, o2, o3, o4, o5⟩ := id hO
  refine zv_lconst (pc := 0) (v := 0) C dMo_sumOf_0 (by decide) ?_
  refine zv_lstore_n (pc := 1) C dMo_sumOf_1 (by decide) ?_
  refine zv_iconst (pc := 2) (v := 0) C dMo_sumOf_2 (by decide) ?_
  refine zv_istore (pc := 3) C dMo_sumOf_3 (by decide) ?_
  refine zv_pick [0, 1, 2, 3, 5] rfl (lMo_sumOf hk x k1 C hM hO ?_ (mna M) 0 (by omega))
  refine zv_lload_n (pc := 48) C dMo_sumOf_48 rfl ?_
  refine zv_lconst (pc := 49) (v := 0) C dMo_sumOf_49 (by decide) ?_
  refine zv_lcmp (pc := 50) C dMo_sumOf_50 ?_
  refine zv_if_le (pc := 51) (tgt := 58) C dMo_sumOf_51 (by decide) (fun c51 => ?_) (fun c51 => ?_)
  · refine zv_lconst (pc := 58) (v := 0) C dMo_sumOf_58 (by decide) ?_
    exact zv_lret (pc := 59) C hr dMo_sumOf_59 (Nat.le_of_ble_eq_true rfl) (Nat.le_of_ble_eq_true rfl) (by simp only [lg_cmp_le, Int64.not_le] at c51; first | (rw [colM, if_pos c51]; exact ⟨rfl, rfl⟩) | (rw [colM, if_neg (Int64.not_lt.mpr c51)]; exact ⟨rfl, rfl⟩))
  · refine zv_lload_n (pc := 54) C dMo_sumOf_54 rfl ?_
    refine zv_goto (pc := 55) (tgt := 59) C dMo_sumOf_55 (by decide) ?_
    exact zv_lret (pc := 59) C hr dMo_sumOf_59 (Nat.le_of_ble_eq_true rfl) (Nat.le_of_ble_eq_true rfl) (by simp only [lg_cmp_le, Int64.not_le] at c51; first | (rw [colM, if_pos c51]; exact ⟨rfl, rfl⟩) | (rw [colM, if_neg (Int64.not_lt.mpr c51)]; exact ⟨rfl, rfl⟩))
theorem zn_4 (k : Nat) : (4 : Int32) * nI k = nI (k * 4) := by rw [show (4 : Int32) = nI 4 from rfl, pk_mul, Nat.mul_comm]
theorem pA4 (fp : Nat → Int32) (k : Nat) : pA fp k 4 = fp (k * 4) + fp (k * 4 + 1) + fp (k * 4 + 2) + fp (k * 4 + 3) := by simp only [pA, Int32.zero_add, Nat.add_zero]
set_option maxHeartbeats 4000000 in
set_option maxRecDepth 100000 in
theorem cMo_partsOf {O : zO} {l : Launch} (hk : zK O l) (G : zG) (k : Nat) {am : Nat → Nat} {M : aM} (hM : zMm O G am M) (hO : mOk M) (hk6 : k < 6) : zM O l yMo_partsOf [Cond.code yMo_partsOf bMo_partsOf 2 (some .int)] rmMo_partsOf [.ref (am 0), .int (nI k)] G 0 0 (zPr (.int (pA (mfp M) k 4)) G) zNo := by
  refine zm_of hk (by decide) (Nat.le_of_ble_eq_true rfl) ?_
  intro p e s m below meth c C hex hr hnm
  obtain ⟨hinj, h0, h1, h2, h3, h4, h5, h6, h7, h8, h9, h10, h11, h12, h13⟩ := id hM
  obtain ⟨o1, o2, o3, o4, o5⟩ := id hO
  refine zv_aload_n (pc := 0) C dMo_partsOf_0 rfl ?_
  refine zv_get (pc := 1) C dMo_partsOf_1 fMo_55 (by first | assumption | exact zu_s | (refine (zu_n (hM.ne (by omega) (by omega) (by omega))).trans ?_; first | assumption | exact zu_s)) rfl ?_
  refine zv_iconst (pc := 4) (v := 4) C dMo_partsOf_4 (by decide) ?_
  refine zv_iload_n (pc := 5) C dMo_partsOf_5 rfl ?_
  refine zv_imul (pc := 6) C dMo_partsOf_6 ?_
  refine zv_topi (zn_4 k) ?_
  refine zn_iald (pc := 7) C dMo_partsOf_7 (by first | assumption | exact zu_s | (refine (zu_n (hM.ne (by omega) (by omega) (by omega))).trans ?_; first | assumption | exact zu_s)) (by omega) (by omega) ?_
  refine zv_aload_n (pc := 8) C dMo_partsOf_8 rfl ?_
  refine zv_get (pc := 9) C dMo_partsOf_9 fMo_55 (by first | assumption | exact zu_s | (refine (zu_n (hM.ne (by omega) (by omega) (by omega))).trans ?_; first | assumption | exact zu_s)) rfl ?_
  refine zv_iconst (pc := 12) (v := 4) C dMo_partsOf_12 (by decide) ?_
  refine zv_iload_n (pc := 13) C dMo_partsOf_13 rfl ?_
  refine zv_imul (pc := 14) C dMo_partsOf_14 ?_
  refine zv_iconst (pc := 15) (v := 1) C dMo_partsOf_15 (by decide) ?_
  refine zv_iadd (pc := 16) C dMo_partsOf_16 ?_
  refine zv_topi (zn_4k k 1) ?_
  refine zn_iald (pc := 17) C dMo_partsOf_17 (by first | assumption | exact zu_s | (refine (zu_n (hM.ne (by omega) (by omega) (by omega))).trans ?_; first | assumption | exact zu_s)) (by omega) (by omega) ?_
  refine zv_iadd (pc := 18) C dMo_partsOf_18 ?_
  refine zv_aload_n (pc := 19) C dMo_partsOf_19 rfl ?_
  refine zv_get (pc := 20) C dMo_partsOf_20 fMo_55 (by first | assumption | exact zu_s | (refine (zu_n (hM.ne (by omega) (by omega) (by omega))).trans ?_; first | assumption | exact zu_s)) rfl ?_
  refine zv_iconst (pc := 23) (v := 4) C dMo_partsOf_23 (by decide) ?_
  refine zv_iload_n (pc := 24) C dMo_partsOf_24 rfl ?_
  refine zv_imul (pc := 25) C dMo_partsOf_25 ?_
  refine zv_iconst (pc := 26) (v := 2) C dMo_partsOf_26 (by decide) ?_
  refine zv_iadd (pc := 27) C dMo_partsOf_27 ?_
  refine zv_topi (zn_4k k 2) ?_
  refine zn_iald (pc := 28) C dMo_partsOf_28 (by first | assumption | exact zu_s | (refine (zu_n (hM.ne (by omega) (by omega) (by omega))).trans ?_; first | assumption | exact zu_s)) (by omega) (by omega) ?_
  refine zv_iadd (pc := 29) C dMo_partsOf_29 ?_
  refine zv_aload_n (pc := 30) C dMo_partsOf_30 rfl ?_
  refine zv_get (pc := 31) C dMo_partsOf_31 fMo_55 (by first | assumption | exact zu_s | (refine (zu_n (hM.ne (by omega) (by omega) (by omega))).trans ?_; first | assumption | exact zu_s)) rfl ?_
  refine zv_iconst (pc := 34) (v := 4) C dMo_partsOf_34 (by decide) ?_
  refine zv_iload_n (pc := 35) C dMo_partsOf_35 rfl ?_
  refine zv_imul (pc := 36) C dMo_partsOf_36 ?_
  refine zv_iconst (pc := 37) (v := 3) C dMo_partsOf_37 (by decide) ?_
  refine zv_iadd (pc := 38) C dMo_partsOf_38 ?_
  refine zv_topi (zn_4k k 3) ?_
  refine zn_iald (pc := 39) C dMo_partsOf_39 (by first | assumption | exact zu_s | (refine (zu_n (hM.ne (by omega) (by omega) (by omega))).trans ?_; first | assumption | exact zu_s)) (by omega) (by omega) ?_
  refine zv_iadd (pc := 40) C dMo_partsOf_40 ?_
  exact zv_iret (pc := 41) C hr dMo_partsOf_41 (Nat.le_of_ble_eq_true rfl) (Nat.le_of_ble_eq_true rfl) (by rw [pA4]; exact ⟨rfl, rfl⟩)
set_option maxHeartbeats 4000000 in
set_option maxRecDepth 100000 in
theorem lMo_share {O : zO} {p : Program} {l : Launch} {e : Env} {R : Room} {s : State} {m : MethodId} {args : Array Value} {below : List Frame} {meth : Method} {c : Code} {Q : State → Prop} {G : zG} {kc ks : Nat} (k r : Nat) (x : Int64) {am : Nat → Nat} {M : aM} (C : zC O p l s m meth c RMo bMo_share 14) (h0 : G (am 0) = some (oMo am (mth M) (nI (mna M)) (nI (mnb M)) (nI (mn M)) (mcd M) (mlk M) (mwr M) (mnm M) (mfl M))) (h12 : G (am 12) = some (zI O 24 (mfp M))) (hk6 : k < 6) (hr4 : r < 4) (hp : ¬ pA (mfp M) k 4 = 0) (kk : zV O p l e R s m args below meth c 14 Q 121 [(0, .ref (am 0)), (1, .int (nI k)), (2, .int (nI r)), (3, .long x), (5, .int (pA (mfp M) k 4)), (6, .long (cL (mfp M) k x 4)), (8, .int (plc (mfp M) k r x 4)), (9, .long (rM (mfp M) k r x)), (11, .int (nI 4))] [] G kc ks) : ∀ i j : Nat, j + i = 4 → zV O p l e R s m args below meth c 14 Q 42 [(0, .ref (am 0)), (1, .int (nI k)), (2, .int (nI r)), (3, .long x), (5, .int (pA (mfp M) k 4)), (6, .long (cL (mfp M) k x j)), (8, .int (plc (mfp M) k r x j)), (9, .long (rM (mfp M) k r x)), (11, .int (nI j))] [] G kc ks := by
  intro i
  induction i with
  | zero =>
    intro j hj
    obtain rfl : j = 4 := by omega
    refine zv_iload (pc := 42) C dMo_share_42 rfl ?_
    refine zv_iconst (pc := 44) (v := 4) C dMo_share_44 (by decide) ?_
    refine zv_icmp_ge (pc := 45) (tgt := 121) C dMo_share_45 (by decide) (fun cX => ?_) (fun cX => absurd (nI_le (a := 4) (b := 4) (Nat.le_refl _) (by omega)) cX)
    exact kk
  | succ i ih =>
    intro j hj
    refine zv_iload (pc := 42) C dMo_share_42 rfl ?_
    refine zv_iconst (pc := 44) (v := 4) C dMo_share_44 (by decide) ?_
    refine zv_icmp_ge (pc := 45) (tgt := 121) C dMo_share_45 (by decide) (fun cX => absurd cX (nI_ge (a := j) (b := 4) (by omega) (by omega))) (fun cX => ?_)
    refine zv_lload_n (pc := 48) C dMo_share_48 rfl ?_
    refine zv_aload_n (pc := 49) C dMo_share_49 rfl ?_
    refine zv_get (pc := 50) C dMo_share_50 fMo_55 (by first | assumption | exact zu_s | (refine (zu_n (by assumption)).trans ?_; first | assumption | exact zu_s)) rfl ?_
    refine zv_iconst (pc := 53) (v := 4) C dMo_share_53 (by decide) ?_
    refine zv_iload_n (pc := 54) C dMo_share_54 rfl ?_
    refine zv_imul (pc := 55) C dMo_share_55 ?_
    refine zv_iload (pc := 56) C dMo_share_56 rfl ?_
    refine zv_iadd (pc := 58) C dMo_share_58 ?_
    refine zv_topi (zn_4k k j) ?_
    refine zn_iald (pc := 59) C dMo_share_59 (by first | assumption | exact zu_s | (refine (zu_n (by assumption)).trans ?_; first | assumption | exact zu_s)) (by omega) (by omega) ?_
    refine zv_i2l (pc := 60) C dMo_share_60 ?_
    refine zv_lmul (pc := 61) C dMo_share_61 ?_
    refine zv_lstore (pc := 62) C dMo_share_62 (by decide) ?_
    refine zv_lload (pc := 64) C dMo_share_64 rfl ?_
    refine zv_lload (pc := 66) C dMo_share_66 rfl ?_
    refine zv_iload (pc := 68) C dMo_share_68 rfl ?_
    refine zv_i2l (pc := 70) C dMo_share_70 ?_
    refine zv_ldiv (pc := 71) C dMo_share_71 (zn_l0 hp) ?_
    refine zv_topl (y := wS (mfp M) k j x) (by rw [wS, if_neg hp]) ?_
    refine zv_lsub (pc := 72) C dMo_share_72 ?_
    refine zv_lstore (pc := 73) C dMo_share_73 (by decide) ?_
    refine zv_iload (pc := 75) C dMo_share_75 rfl ?_
    refine zv_lload (pc := 77) C dMo_share_77 rfl ?_
    refine zv_iload (pc := 79) C dMo_share_79 rfl ?_
    refine zv_i2l (pc := 81) C dMo_share_81 ?_
    refine zv_lrem (pc := 82) C dMo_share_82 (zn_l0 hp) ?_
    refine zv_topl (y := rM (mfp M) k j x) (by rw [rM, if_neg hp]) ?_
    refine zv_lload (pc := 83) C dMo_share_83 rfl ?_
    refine zv_lcmp (pc := 85) C dMo_share_85 ?_
    refine zv_if_gt (pc := 86) (tgt := 107) C dMo_share_86 (by decide) (fun c86 => ?_) (fun c86 => ?_)
    · refine zv_iconst (pc := 107) (v := 1) C dMo_share_107 (by decide) ?_
      refine zv_goto (pc := 108) (tgt := 112) C dMo_share_108 (by decide) ?_
      refine zv_iadd (pc := 112) C dMo_share_112 ?_
      refine zv_istore (pc := 113) C dMo_share_113 (by decide) ?_
      refine zv_iinc (pc := 115) C dMo_share_115 rfl (zn_inc j) (by decide) ?_
      refine zv_goto (pc := 118) (tgt := 42) C dMo_share_118 (by decide) ?_
      exact zv_pick [0, 1, 2, 3, 5, 6, 8, 9, 11] rfl (by
        have h := ih (j + 1) (by omega)
        simp only [lg_cmp_gt, lg_cmp_eq] at c86
        first
        | (have hB : plB (mfp M) k r x j = true := by simp [plB, c86]
           simp only [plc, hB, if_true] at h
           exact h)
        | (have hB : plB (mfp M) k r x j = false := by simp [plB, c86]
           simp only [plc, hB, Bool.false_eq_true, if_false] at h
           simp only [Int32.add_zero]
           exact h))
    · refine zv_lload (pc := 89) C dMo_share_89 rfl ?_
      refine zv_iload (pc := 91) C dMo_share_91 rfl ?_
      refine zv_i2l (pc := 93) C dMo_share_93 ?_
      refine zv_lrem (pc := 94) C dMo_share_94 (zn_l0 hp) ?_
      refine zv_topl (y := rM (mfp M) k j x) (by rw [rM, if_neg hp]) ?_
      refine zv_lload (pc := 95) C dMo_share_95 rfl ?_
      refine zv_lcmp (pc := 97) C dMo_share_97 ?_
      refine zv_if_ne (pc := 98) (tgt := 111) C dMo_share_98 (by decide) (fun c98 => ?_) (fun c98 => ?_)
      · refine zv_iconst (pc := 111) (v := 0) C dMo_share_111 (by decide) ?_
        refine zv_iadd (pc := 112) C dMo_share_112 ?_
        refine zv_istore (pc := 113) C dMo_share_113 (by decide) ?_
        refine zv_iinc (pc := 115) C dMo_share_115 rfl (zn_inc j) (by decide) ?_
        refine zv_goto (pc := 118) (tgt := 42) C dMo_share_118 (by decide) ?_
        exact zv_pick [0, 1, 2, 3, 5, 6, 8, 9, 11] rfl (by
          have h := ih (j + 1) (by omega)
          simp only [lg_cmp_gt, lg_cmp_eq] at c86 c98
          first
          | (have hB : plB (mfp M) k r x j = true := by simp [plB, c86, c98]
             simp only [plc, hB, if_true] at h
             exact h)
          | (have hB : plB (mfp M) k r x j = false := by simp [plB, c86, c98]
             simp only [plc, hB, Bool.false_eq_true, if_false] at h
             simp only [Int32.add_zero]
             exact h))
      · refine zv_iload (pc := 101) C dMo_share_101 rfl ?_
        refine zv_iload_n (pc := 103) C dMo_share_103 rfl ?_
        refine zv_icmp_ge (pc := 104) (tgt := 111) C dMo_share_104 (by decide) (fun c104 => ?_) (fun c104 => ?_)
        · refine zv_iconst (pc := 111) (v := 0) C dMo_share_111 (by decide) ?_
          refine zv_iadd (pc := 112) C dMo_share_112 ?_
          refine zv_istore (pc := 113) C dMo_share_113 (by decide) ?_
          refine zv_iinc (pc := 115) C dMo_share_115 rfl (zn_inc j) (by decide) ?_
          refine zv_goto (pc := 118) (tgt := 42) C dMo_share_118 (by decide) ?_
          exact zv_pick [0, 1, 2, 3, 5, 6, 8, 9, 11] rfl (by
            have h := ih (j + 1) (by omega)
            simp only [lg_cmp_gt, lg_cmp_eq] at c86 c98
            first
            | (have hB : plB (mfp M) k r x j = true := by simp [plB, c86, c98, c104]
               simp only [plc, hB, if_true] at h
               exact h)
            | (have hB : plB (mfp M) k r x j = false := by simp [plB, c86, c98, c104]
               simp only [plc, hB, Bool.false_eq_true, if_false] at h
               simp only [Int32.add_zero]
               exact h))
        · refine zv_iconst (pc := 107) (v := 1) C dMo_share_107 (by decide) ?_
          refine zv_goto (pc := 108) (tgt := 112) C dMo_share_108 (by decide) ?_
          refine zv_iadd (pc := 112) C dMo_share_112 ?_
          refine zv_istore (pc := 113) C dMo_share_113 (by decide) ?_
          refine zv_iinc (pc := 115) C dMo_share_115 rfl (zn_inc j) (by decide) ?_
          refine zv_goto (pc := 118) (tgt := 42) C dMo_share_118 (by decide) ?_
          exact zv_pick [0, 1, 2, 3, 5, 6, 8, 9, 11] rfl (by
            have h := ih (j + 1) (by omega)
            simp only [lg_cmp_gt, lg_cmp_eq] at c86 c98
            first
            | (have hB : plB (mfp M) k r x j = true := by simp [plB, c86, c98, c104]
               simp only [plc, hB, if_true] at h
               exact h)
            | (have hB : plB (mfp M) k r x j = false := by simp [plB, c86, c98, c104]
               simp only [plc, hB, Bool.false_eq_true, if_false] at h
               simp only [Int32.add_zero]
               exact h))
set_option maxHeartbeats 4000000 in
set_option maxRecDepth 100000 in
theorem cMo_share {O : zO} {l : Launch} (hk : zK O l) (G : zG) (k r : Nat) (x : Int64) {am : Nat → Nat} {M : aM} (hM : zMm O G am M) (hO : mOk M) (hk6 : k < 6) (hr4 : r < 4) : zM O l yMo_share [Cond.code yMo_share bMo_share 14 (some .long)] rmMo_share [.ref (am 0), .int (nI k), .int (nI r), .long x] G 0 0 (zPr (.long (shr (mfp M) k r x)) G) zNo := by
  refine zm_of hk (by decide) (Nat.le_of_ble_eq_true rfl) ?_
  intro p e s m below meth c C hex hr hnm
  obtain ⟨hinj, h0, h1, h2, h3, h4, h5, h6, h7, h8, h9, h10, h11, h12, h13⟩ := id hM
  obtain ⟨o1, o2, o3, o4, o5⟩ := id hO
  refine zv_aload_n (pc := 0) C dMo_share_0 rfl ?_
  refine zv_iload_n (pc := 1) C dMo_share_1 rfl ?_
  refine zv_callV (pc := 2) C dMo_share_2 (cMo_partsOf hk _ _ hM hO hk6) gMo_134 ⟨rfl, rfl, ⟨Nat.le_of_ble_eq_true rfl, Nat.le_of_ble_eq_true rfl⟩, mMo_partsOf⟩ rfl rfl (Nat.le_of_ble_eq_true rfl) (by first | assumption | exact zu_s | (refine (zu_n (hM.ne (by omega) (by omega) (by omega))).trans ?_; first | assumption | exact zu_s)) rfl rfl ⟨Nat.le_of_ble_eq_true rfl, Nat.le_of_ble_eq_true rfl⟩ (fun _ _ h => h.elim) (fun v G' h => ?_)
  obtain ⟨rfl, rfl⟩ := h
  refine zv_istore (pc := 5) C dMo_share_5 (by decide) ?_
  refine zv_iload (pc := 7) C dMo_share_7 rfl ?_
  refine zv_if_ne (pc := 9) (tgt := 14) C dMo_share_9 (by decide) (fun c9 => ?_) (fun c9 => ?_)
  · have hp := c9
    refine zv_lload_n (pc := 14) C dMo_share_14 rfl ?_
    refine zv_lstore (pc := 15) C dMo_share_15 (by decide) ?_
    refine zv_iconst (pc := 17) (v := 0) C dMo_share_17 (by decide) ?_
    refine zv_istore (pc := 18) C dMo_share_18 (by decide) ?_
    refine zv_lload_n (pc := 20) C dMo_share_20 rfl ?_
    refine zv_aload_n (pc := 21) C dMo_share_21 rfl ?_
    refine zv_get (pc := 22) C dMo_share_22 fMo_55 (by first | assumption | exact zu_s | (refine (zu_n (hM.ne (by omega) (by omega) (by omega))).trans ?_; first | assumption | exact zu_s)) rfl ?_
    refine zv_iconst (pc := 25) (v := 4) C dMo_share_25 (by decide) ?_
    refine zv_iload_n (pc := 26) C dMo_share_26 rfl ?_
    refine zv_imul (pc := 27) C dMo_share_27 ?_
    refine zv_iload_n (pc := 28) C dMo_share_28 rfl ?_
    refine zv_iadd (pc := 29) C dMo_share_29 ?_
    refine zv_topi (zn_4k k r) ?_
    refine zn_iald (pc := 30) C dMo_share_30 (by first | assumption | exact zu_s | (refine (zu_n (hM.ne (by omega) (by omega) (by omega))).trans ?_; first | assumption | exact zu_s)) (by omega) (by omega) ?_
    refine zv_i2l (pc := 31) C dMo_share_31 ?_
    refine zv_lmul (pc := 32) C dMo_share_32 ?_
    refine zv_iload (pc := 33) C dMo_share_33 rfl ?_
    refine zv_i2l (pc := 35) C dMo_share_35 ?_
    refine zv_lrem (pc := 36) C dMo_share_36 (zn_l0 hp) ?_
    refine zv_topl (y := rM (mfp M) k r x) (by rw [rM, if_neg hp]) ?_
    refine zv_lstore (pc := 37) C dMo_share_37 (by decide) ?_
    refine zv_iconst (pc := 39) (v := 0) C dMo_share_39 (by decide) ?_
    refine zv_istore (pc := 40) C dMo_share_40 (by decide) ?_
    refine zv_pick [0, 1, 2, 3, 5, 6, 8, 9, 11] rfl (lMo_share k r x C h0 h12 hk6 hr4 hp ?_ 4 0 (by omega))
    refine zv_lload_n (pc := 121) C dMo_share_121 rfl ?_
    refine zv_aload_n (pc := 122) C dMo_share_122 rfl ?_
    refine zv_get (pc := 123) C dMo_share_123 fMo_55 (by first | assumption | exact zu_s | (refine (zu_n (hM.ne (by omega) (by omega) (by omega))).trans ?_; first | assumption | exact zu_s)) rfl ?_
    refine zv_iconst (pc := 126) (v := 4) C dMo_share_126 (by decide) ?_
    refine zv_iload_n (pc := 127) C dMo_share_127 rfl ?_
    refine zv_imul (pc := 128) C dMo_share_128 ?_
    refine zv_iload_n (pc := 129) C dMo_share_129 rfl ?_
    refine zv_iadd (pc := 130) C dMo_share_130 ?_
    refine zv_topi (zn_4k k r) ?_
    refine zn_iald (pc := 131) C dMo_share_131 (by first | assumption | exact zu_s | (refine (zu_n (hM.ne (by omega) (by omega) (by omega))).trans ?_; first | assumption | exact zu_s)) (by omega) (by omega) ?_
    refine zv_i2l (pc := 132) C dMo_share_132 ?_
    refine zv_lmul (pc := 133) C dMo_share_133 ?_
    refine zv_iload (pc := 134) C dMo_share_134 rfl ?_
    refine zv_i2l (pc := 136) C dMo_share_136 ?_
    refine zv_ldiv (pc := 137) C dMo_share_137 (zn_l0 hp) ?_
    refine zv_topl (y := wS (mfp M) k r x) (by rw [wS, if_neg hp]) ?_
    refine zv_iload (pc := 138) C dMo_share_138 rfl ?_
    refine zv_i2l (pc := 140) C dMo_share_140 ?_
    refine zv_lload (pc := 141) C dMo_share_141 rfl ?_
    refine zv_lcmp (pc := 143) C dMo_share_143 ?_
    refine zv_if_ge (pc := 144) (tgt := 151) C dMo_share_144 (by decide) (fun c144 => ?_) (fun c144 => ?_)
    · refine zv_lconst (pc := 151) (v := 0) C dMo_share_151 (by decide) ?_
      refine zv_ladd (pc := 152) C dMo_share_152 ?_
      exact zv_lret (pc := 153) C hr dMo_share_153 (Nat.le_of_ble_eq_true rfl) (Nat.le_of_ble_eq_true rfl) (by simp only [lg_cmp_ge, Int64.not_le] at c144; first | (rw [shr, if_neg c9, if_pos c144]; exact ⟨rfl, rfl⟩) | (rw [shr, if_neg c9, if_neg (Int64.not_lt.mpr c144)]; simp [zPr]))
    · refine zv_lconst (pc := 147) (v := 1) C dMo_share_147 (by decide) ?_
      refine zv_goto (pc := 148) (tgt := 152) C dMo_share_148 (by decide) ?_
      refine zv_ladd (pc := 152) C dMo_share_152 ?_
      exact zv_lret (pc := 153) C hr dMo_share_153 (Nat.le_of_ble_eq_true rfl) (Nat.le_of_ble_eq_true rfl) (by simp only [lg_cmp_ge, Int64.not_le] at c144; first | (rw [shr, if_neg c9, if_pos c144]; exact ⟨rfl, rfl⟩) | (rw [shr, if_neg c9, if_neg (Int64.not_lt.mpr c144)]; simp [zPr]))
  · refine zv_lconst (pc := 12) (v := 0) C dMo_share_12 (by decide) ?_
    exact zv_lret (pc := 13) C hr dMo_share_13 (Nat.le_of_ble_eq_true rfl) (Nat.le_of_ble_eq_true rfl) (by rw [shr, if_pos c9]; exact ⟨rfl, rfl⟩)
def pasMC (M : aM) (k : Nat) (d : Int32) : Int64 := colM M (nI k) d * (mfq M k).toInt64 / 1000
def pasM (M : aM) (k : Nat) (w d : Int32) : Int64 := if w = 4 then pasMC M k d else if w = 5 then colM M (nI k) d - shA (mfp M) k (colM M (nI k) d - pasMC M k d) 4 else if w = 6 then colM M (nI k) d else shr (mfp M) k w.toNatClampNeg (colM M (nI k) d - pasMC M k d)
theorem pas_in (w d : Int32) : pasOk w d = (inB w.toInt64 0 6 && isDayB d) := by
  rw [show inB w.toInt64 0 6 = inB w.toInt64 (0 : Int32).toInt64 (6 : Int32).toInt64 from rfl, inB_32]; rfl
theorem w6_is {j : Nat} (hj : j ≤ 6) (h : (4 : Int32) ≤ nI j) (h4 : ¬ nI j = 4) (h5 : ¬ nI j = 5) : nI j = 6 := by
  have e4 : j ≠ 4 := fun h => h4 (by rw [h]; rfl)
  have e5 : j ≠ 5 := fun h => h5 (by rw [h]; rfl)
  have g4 : 4 ≤ j := (nI_leI (a := 4) (by omega) (by omega)).mp h
  rw [show j = 6 by omega]; rfl
theorem w6_of {w : Int32} (h : inB w.toInt64 0 6 = true) : ∃ j : Nat, j ≤ 6 ∧ w = nI j := by
  rw [show inB w.toInt64 0 6 = inB w.toInt64 (0 : Int32).toInt64 (6 : Int32).toInt64 from rfl, inB_32] at h
  simp only [Bool.and_eq_true, Bool.not_eq_true', decide_eq_false_iff_not] at h
  obtain ⟨j, hj, rfl⟩ := nI_of2 (M := 6) (n := 6) (by decide) h.1 (Int32.not_lt.mp h.2)
  exact ⟨j, by omega, rfl⟩
set_option maxHeartbeats 4000000 in
set_option maxRecDepth 100000 in
theorem lMo_passed {O : zO} {p : Program} {l : Launch} {e : Env} {s : State} {m : MethodId} {args : Array Value} {below : List Frame} {meth : Method} {c : Code} {Q : State → Prop} {G : zG} (hk : zK O l) (k : Nat) (w d : Int32) (x y : Int64) {am : Nat → Nat} {M : aM} (C : zC O p l s m meth c RMo bMo_passed 11) (hM : zMm O G am M) (hO : mOk M) (hk6 : k < 6) (kk : zV O p l e rmMo_passed s m args below meth c 11 Q 103 [(0, .ref (am 0)), (1, .int (nI k)), (2, .int w), (3, .int d), (4, .long x), (6, .long y), (8, .long (shA (mfp M) k (x - y) 4)), (10, .int (nI 4))] [] G 0 0) : ∀ i j : Nat, j + i = 4 → zV O p l e rmMo_passed s m args below meth c 11 Q 74 [(0, .ref (am 0)), (1, .int (nI k)), (2, .int w), (3, .int d), (4, .long x), (6, .long y), (8, .long (shA (mfp M) k (x - y) j)), (10, .int (nI j))] [] G 0 0 := by
  intro i
  induction i with
  | zero =>
    intro j hj
    obtain ⟨hinj, h0, h1, h2, h3, h4, h5, h6, h7, h8, h9, h10, h11, h12, h13⟩ := id hM
    obtain ⟨o1, o2, o3, o4, o5⟩ := id hO
    obtain rfl : j = 4 := by omega
    refine zv_iload (pc := 74) C dMo_passed_74 rfl ?_
    refine zv_iconst (pc := 76) (v := 4) C dMo_passed_76 (by decide) ?_
    refine zv_icmp_ge (pc := 77) (tgt := 103) C dMo_passed_77 (by decide) (fun cX => ?_) (fun cX => absurd (nI_le (a := 4) (b := 4) (Nat.le_refl _) (by omega)) cX)
    exact kk
  | succ i ih =>
    intro j hj
    obtain ⟨hinj, h0, h1, h2, h3, h4, h5, h6, h7, h8, h9, h10, h11, h12, h13⟩ := id hM
    obtain ⟨o1, o2, o3, o4, o5⟩ := id hO
    refine zv_iload (pc := 74) C dMo_passed_74 rfl ?_
    refine zv_iconst (pc := 76) (v := 4) C dMo_passed_76 (by decide) ?_
    refine zv_icmp_ge (pc := 77) (tgt := 103) C dMo_passed_77 (by decide) (fun cX => absurd cX (nI_ge (a := j) (b := 4) (by omega) (by omega))) (fun cX => ?_)
    refine zv_lload (pc := 80) C dMo_passed_80 rfl ?_
    refine zv_aload_n (pc := 82) C dMo_passed_82 rfl ?_
    refine zv_iload_n (pc := 83) C dMo_passed_83 rfl ?_
    refine zv_iload (pc := 84) C dMo_passed_84 rfl ?_
    refine zv_lload (pc := 86) C dMo_passed_86 rfl ?_
    refine zv_lload (pc := 88) C dMo_passed_88 rfl ?_
    refine zv_lsub (pc := 90) C dMo_passed_90 ?_
    refine zv_callV (pc := 91) C dMo_passed_91 (cMo_share hk _ _ _ _ hM hO hk6 (by omega)) gMo_142 ⟨rfl, rfl, ⟨Nat.le_of_ble_eq_true rfl, Nat.le_of_ble_eq_true rfl⟩, mMo_share⟩ rfl rfl (Nat.le_of_ble_eq_true rfl) (by first | assumption | exact zu_s | (refine (zu_n (by assumption)).trans ?_; first | assumption | exact zu_s)) rfl rfl ⟨Nat.le_of_ble_eq_true rfl, Nat.le_of_ble_eq_true rfl⟩ (fun _ _ h => h.elim) (fun v G' h => ?_)
    obtain ⟨rfl, rfl⟩ := h
    refine zv_ladd (pc := 94) C dMo_passed_94 ?_
    refine zv_lstore (pc := 95) C dMo_passed_95 (by decide) ?_
    refine zv_iinc (pc := 97) C dMo_passed_97 rfl (zn_inc j) (by decide) ?_
    refine zv_goto (pc := 100) (tgt := 74) C dMo_passed_100 (by decide) ?_
    exact zv_pick [0, 1, 2, 3, 4, 6, 8, 10] rfl (ih (j + 1) (by omega))
set_option maxHeartbeats 4000000 in
set_option maxRecDepth 100000 in
theorem cMo_passedT {O : zO} {l : Launch} (hk : zK O l) (G : zG) (k : Nat) (w d : Int32) {am : Nat → Nat} {M : aM} (hM : zMm O G am M) (hO : mOk M) (hk6 : k < 6) : zM O l yMo_passed [Cond.code yMo_passed bMo_passed 11 (some .long)] rmMo_passed [.ref (am 0), .int (nI k), .int w, .int d] G 0 0 (fun v G' => (pasOk w d = false ∧ v = some (.long 0) ∧ zMt O G G' am (thM M 1)) ∨ (pasOk w d = true ∧ v = some (.long (pasM M k w d)) ∧ zMt O G G' am (thM M 0))) zNo := by
  refine zm_of hk (by decide) (Nat.le_of_ble_eq_true rfl) ?_
  intro p e s m below meth c C hex hr hnm
  obtain ⟨hinj, h0, h1, h2, h3, h4, h5, h6, h7, h8, h9, h10, h11, h12, h13⟩ := id hM
  obtain ⟨o1, o2, o3, o4, o5⟩ := id hO
  refine zv_aload_n (pc := 0) C dMo_passed_0 rfl ?_
  refine zv_iload_n (pc := 1) C dMo_passed_1 rfl ?_
  refine zv_callS (pc := 2) C dMo_passed_2 (cMo_isKind hk _ _) gMo_78 ⟨rfl, rfl, ⟨Nat.le_of_ble_eq_true rfl, Nat.le_of_ble_eq_true rfl⟩, mMo_isKind⟩ rfl rfl (Nat.le_of_ble_eq_true rfl) ⟨Nat.le_of_ble_eq_true rfl, Nat.le_of_ble_eq_true rfl⟩ (fun _ _ h => h.elim) (fun v G' h => ?_)
  obtain ⟨rfl, rfl⟩ := h
  refine zv_if_eq (pc := 5) (tgt := 31) C dMo_passed_5 (by decide) (fun c5 => by simp [zb_0, isKindB_nI hk6] at c5) (fun c5 => ?_)
  refine zv_iload_n (pc := 8) C dMo_passed_8 rfl ?_
  refine zv_i2l (pc := 9) C dMo_passed_9 ?_
  refine zv_lconst (pc := 10) (v := 0) C dMo_passed_10 (by decide) ?_
  refine zv_ldc2 (pc := 11) C dMo_passed_11 zw_724 ?_
  refine zv_callS (pc := 14) C dMo_passed_14 (cMo_in hk _ _ _ _) gMo_66 ⟨rfl, rfl, ⟨Nat.le_of_ble_eq_true rfl, Nat.le_of_ble_eq_true rfl⟩, mMo_in⟩ rfl rfl (Nat.le_of_ble_eq_true rfl) ⟨Nat.le_of_ble_eq_true rfl, Nat.le_of_ble_eq_true rfl⟩ (fun _ _ h => h.elim) (fun v G' h => ?_)
  obtain ⟨rfl, rfl⟩ := h
  refine zv_if_eq (pc := 17) (tgt := 31) C dMo_passed_17 (by decide) (fun c17 => ?_) (fun c17 => ?_)
  · refine zv_iconst (pc := 31) (v := 1) C dMo_passed_31 (by decide) ?_
    refine zv_put (pc := 32) C dMo_passed_32 fMo_61 ⟨tkMo, nmMo⟩ (by first | assumption | exact zu_s | (refine (zu_n (hM.ne (by omega) (by omega) (by omega))).trans ?_; first | assumption | exact zu_s)) rfl (tkMo 0 (by decide)) (by first | rfl | assumption | exact zb_nar _) (by first | rfl | assumption | decide +kernel) (Nat.le_of_ble_eq_true rfl) ?_
    have hM1 := hM.th (1)
    refine zv_aload_n (pc := 35) C dMo_passed_35 rfl ?_
    refine zv_get (pc := 36) C dMo_passed_36 fMo_61 (by first | assumption | exact zu_s | (refine (zu_n (hM.ne (by omega) (by omega) (by omega))).trans ?_; first | assumption | exact zu_s)) rfl ?_
    refine zv_if_le (pc := 39) (tgt := 44) C dMo_passed_39 (by decide) (fun c39 => absurd c39 (by decide)) (fun c39 => ?_)
    refine zv_lconst (pc := 42) (v := 0) C dMo_passed_42 (by decide) ?_
    exact zv_lret (pc := 43) C hr dMo_passed_43 (Nat.le_of_ble_eq_true rfl) (Nat.le_of_ble_eq_true rfl) (by (try simp only [zb_0, Bool.not_eq_false] at c17); exact Or.inl ⟨by rw [pas_in]; simp [c17], rfl, hM1, fun q hq => (zu_n (hq _ (by omega)))⟩)
  · refine zv_iload_n (pc := 20) C dMo_passed_20 rfl ?_
    refine zv_callS (pc := 21) C dMo_passed_21 (cMo_isDay hk _ _) gMo_82 ⟨rfl, rfl, ⟨Nat.le_of_ble_eq_true rfl, Nat.le_of_ble_eq_true rfl⟩, mMo_isDay⟩ rfl rfl (Nat.le_of_ble_eq_true rfl) ⟨Nat.le_of_ble_eq_true rfl, Nat.le_of_ble_eq_true rfl⟩ (fun _ _ h => h.elim) (fun v G' h => ?_)
    obtain ⟨rfl, rfl⟩ := h
    refine zv_if_eq (pc := 24) (tgt := 31) C dMo_passed_24 (by decide) (fun c24 => ?_) (fun c24 => ?_)
    · refine zv_iconst (pc := 31) (v := 1) C dMo_passed_31 (by decide) ?_
      refine zv_put (pc := 32) C dMo_passed_32 fMo_61 ⟨tkMo, nmMo⟩ (by first | assumption | exact zu_s | (refine (zu_n (hM.ne (by omega) (by omega) (by omega))).trans ?_; first | assumption | exact zu_s)) rfl (tkMo 0 (by decide)) (by first | rfl | assumption | exact zb_nar _) (by first | rfl | assumption | decide +kernel) (Nat.le_of_ble_eq_true rfl) ?_
      have hM1 := hM.th (1)
      refine zv_aload_n (pc := 35) C dMo_passed_35 rfl ?_
      refine zv_get (pc := 36) C dMo_passed_36 fMo_61 (by first | assumption | exact zu_s | (refine (zu_n (hM.ne (by omega) (by omega) (by omega))).trans ?_; first | assumption | exact zu_s)) rfl ?_
      refine zv_if_le (pc := 39) (tgt := 44) C dMo_passed_39 (by decide) (fun c39 => absurd c39 (by decide)) (fun c39 => ?_)
      refine zv_lconst (pc := 42) (v := 0) C dMo_passed_42 (by decide) ?_
      exact zv_lret (pc := 43) C hr dMo_passed_43 (Nat.le_of_ble_eq_true rfl) (Nat.le_of_ble_eq_true rfl) (by (try simp only [zb_0, Bool.not_eq_false] at c17); (try simp only [zb_0, Bool.not_eq_false] at c24); exact Or.inl ⟨by rw [pas_in]; simp [c17, c24], rfl, hM1, fun q hq => (zu_n (hq _ (by omega)))⟩)
    · refine zv_iconst (pc := 27) (v := 0) C dMo_passed_27 (by decide) ?_
      refine zv_goto (pc := 28) (tgt := 32) C dMo_passed_28 (by decide) ?_
      refine zv_put (pc := 32) C dMo_passed_32 fMo_61 ⟨tkMo, nmMo⟩ (by first | assumption | exact zu_s | (refine (zu_n (hM.ne (by omega) (by omega) (by omega))).trans ?_; first | assumption | exact zu_s)) rfl (tkMo 0 (by decide)) (by first | rfl | assumption | exact zb_nar _) (by first | rfl | assumption | decide +kernel) (Nat.le_of_ble_eq_true rfl) ?_
      have hM1 := hM.th (0)
      refine zv_aload_n (pc := 35) C dMo_passed_35 rfl ?_
      refine zv_get (pc := 36) C dMo_passed_36 fMo_61 (by first | assumption | exact zu_s | (refine (zu_n (hM.ne (by omega) (by omega) (by omega))).trans ?_; first | assumption | exact zu_s)) rfl ?_
      refine zv_if_le (pc := 39) (tgt := 44) C dMo_passed_39 (by decide) (fun c39 => ?_) (fun c39 => absurd c39 (by decide))
      have d17 : inB w.toInt64 0 6 = true := by simpa only [zb_0, Bool.not_eq_false] using c17
      obtain ⟨jw, hjw, rfl⟩ := w6_of d17
      refine zv_aload_n (pc := 44) C dMo_passed_44 rfl ?_
      refine zv_iload_n (pc := 45) C dMo_passed_45 rfl ?_
      refine zv_iload_n (pc := 46) C dMo_passed_46 rfl ?_
      refine zv_callV (pc := 47) C dMo_passed_47 (cMo_sumOf hk _ _ _ hM1 hO) gMo_139 ⟨rfl, rfl, ⟨Nat.le_of_ble_eq_true rfl, Nat.le_of_ble_eq_true rfl⟩, mMo_sumOf⟩ rfl rfl (Nat.le_of_ble_eq_true rfl) (by first | assumption | exact zu_s | (refine (zu_n (hM.ne (by omega) (by omega) (by omega))).trans ?_; first | assumption | exact zu_s)) rfl rfl ⟨Nat.le_of_ble_eq_true rfl, Nat.le_of_ble_eq_true rfl⟩ (fun _ _ h => h.elim) (fun v G' h => ?_)
      obtain ⟨rfl, rfl⟩ := h
      refine zv_lstore (pc := 50) C dMo_passed_50 (by decide) ?_
      refine zv_lload (pc := 52) C dMo_passed_52 rfl ?_
      refine zv_aload_n (pc := 54) C dMo_passed_54 rfl ?_
      refine zv_get (pc := 55) C dMo_passed_55 fMo_58 (by first | assumption | exact zu_s | (refine (zu_n (hM.ne (by omega) (by omega) (by omega))).trans ?_; first | assumption | exact zu_s)) rfl ?_
      refine zv_iload_n (pc := 58) C dMo_passed_58 rfl ?_
      refine zn_iald (pc := 59) C dMo_passed_59 (by first | assumption | exact zu_s | (refine (zu_n (hM.ne (by omega) (by omega) (by omega))).trans ?_; first | assumption | exact zu_s)) (by omega) (by omega) ?_
      refine zv_i2l (pc := 60) C dMo_passed_60 ?_
      refine zv_lmul (pc := 61) C dMo_passed_61 ?_
      refine zv_ldc2 (pc := 62) C dMo_passed_62 zw_715 ?_
      refine zv_ldiv (pc := 65) C dMo_passed_65 (by decide) ?_
      refine zv_lstore (pc := 66) C dMo_passed_66 (by decide) ?_
      refine zv_lconst (pc := 68) (v := 0) C dMo_passed_68 (by decide) ?_
      refine zv_lstore (pc := 69) C dMo_passed_69 (by decide) ?_
      refine zv_iconst (pc := 71) (v := 0) C dMo_passed_71 (by decide) ?_
      refine zv_istore (pc := 72) C dMo_passed_72 (by decide) ?_
      refine zv_pick [0, 1, 2, 3, 4, 6, 8, 10] rfl (lMo_passed hk k _ _ _ _ C hM1 hO hk6 ?_ 4 0 (by omega))
      refine zv_iload_n (pc := 103) C dMo_passed_103 rfl ?_
      refine zv_iconst (pc := 104) (v := 4) C dMo_passed_104 (by decide) ?_
      refine zv_icmp_ge (pc := 105) (tgt := 122) C dMo_passed_105 (by decide) (fun c105 => ?_) (fun c105 => ?_)
      · refine zv_iload_n (pc := 122) C dMo_passed_122 rfl ?_
        refine zv_iconst (pc := 123) (v := 4) C dMo_passed_123 (by decide) ?_
        refine zv_icmp_ne (pc := 124) (tgt := 132) C dMo_passed_124 (by decide) (fun c124 => ?_) (fun c124 => ?_)
        · refine zv_iload_n (pc := 132) C dMo_passed_132 rfl ?_
          refine zv_iconst (pc := 133) (v := 5) C dMo_passed_133 (by decide) ?_
          refine zv_icmp_ne (pc := 134) (tgt := 145) C dMo_passed_134 (by decide) (fun c134 => ?_) (fun c134 => ?_)
          · refine zv_lload (pc := 145) C dMo_passed_145 rfl ?_
            exact zv_lret (pc := 147) C hr dMo_passed_147 (Nat.le_of_ble_eq_true rfl) (Nat.le_of_ble_eq_true rfl) (by (try simp only [zb_0, Bool.not_eq_false] at c17); (try simp only [zb_0, Bool.not_eq_false] at c24); (try simp only [zb_0, Bool.not_eq_false] at c105); (try simp only [zb_0, Bool.not_eq_false] at c124); (try simp only [zb_0, Bool.not_eq_false] at c134); refine Or.inr ⟨by rw [pas_in]; simp [c17, c24], ?_, hM1, fun q hq => (zu_n (hq _ (by omega)))⟩; rw [pasM, if_neg c124, if_neg c134, if_pos (w6_is hjw c105 c124 c134)]; rfl)
          · refine zv_lload (pc := 137) C dMo_passed_137 rfl ?_
            refine zv_lload (pc := 139) C dMo_passed_139 rfl ?_
            refine zv_lsub (pc := 141) C dMo_passed_141 ?_
            refine zv_goto (pc := 142) (tgt := 147) C dMo_passed_142 (by decide) ?_
            exact zv_lret (pc := 147) C hr dMo_passed_147 (Nat.le_of_ble_eq_true rfl) (Nat.le_of_ble_eq_true rfl) (by (try simp only [zb_0, Bool.not_eq_false] at c17); (try simp only [zb_0, Bool.not_eq_false] at c24); (try simp only [zb_0, Bool.not_eq_false] at c105); (try simp only [zb_0, Bool.not_eq_false] at c124); (try simp only [zb_0, Bool.not_eq_false] at c134); refine Or.inr ⟨by rw [pas_in]; simp [c17, c24], ?_, hM1, fun q hq => (zu_n (hq _ (by omega)))⟩; rw [pasM, if_neg c124, if_pos c134]; rfl)
        · refine zv_lload (pc := 127) C dMo_passed_127 rfl ?_
          refine zv_goto (pc := 129) (tgt := 147) C dMo_passed_129 (by decide) ?_
          exact zv_lret (pc := 147) C hr dMo_passed_147 (Nat.le_of_ble_eq_true rfl) (Nat.le_of_ble_eq_true rfl) (by (try simp only [zb_0, Bool.not_eq_false] at c17); (try simp only [zb_0, Bool.not_eq_false] at c24); (try simp only [zb_0, Bool.not_eq_false] at c105); (try simp only [zb_0, Bool.not_eq_false] at c124); refine Or.inr ⟨by rw [pas_in]; simp [c17, c24], ?_, hM1, fun q hq => (zu_n (hq _ (by omega)))⟩; rw [pasM, if_pos c124]; rfl)
      · have hj4 : jw < 4 := (nI_ltI (b := 4) (by omega) (by omega)).mp (Int32.not_le.mp c105)
        refine zv_aload_n (pc := 108) C dMo_passed_108 rfl ?_
        refine zv_iload_n (pc := 109) C dMo_passed_109 rfl ?_
        refine zv_iload_n (pc := 110) C dMo_passed_110 rfl ?_
        refine zv_lload (pc := 111) C dMo_passed_111 rfl ?_
        refine zv_lload (pc := 113) C dMo_passed_113 rfl ?_
        refine zv_lsub (pc := 115) C dMo_passed_115 ?_
        refine zv_callV (pc := 116) C dMo_passed_116 (cMo_share hk _ _ _ _ hM1 hO hk6 hj4) gMo_142 ⟨rfl, rfl, ⟨Nat.le_of_ble_eq_true rfl, Nat.le_of_ble_eq_true rfl⟩, mMo_share⟩ rfl rfl (Nat.le_of_ble_eq_true rfl) (by first | assumption | exact zu_s | (refine (zu_n (hM.ne (by omega) (by omega) (by omega))).trans ?_; first | assumption | exact zu_s)) rfl rfl ⟨Nat.le_of_ble_eq_true rfl, Nat.le_of_ble_eq_true rfl⟩ (fun _ _ h => h.elim) (fun v G' h => ?_)
        obtain ⟨rfl, rfl⟩ := h
        refine zv_goto (pc := 119) (tgt := 147) C dMo_passed_119 (by decide) ?_
        exact zv_lret (pc := 147) C hr dMo_passed_147 (Nat.le_of_ble_eq_true rfl) (Nat.le_of_ble_eq_true rfl) (by (try simp only [zb_0, Bool.not_eq_false] at c17); (try simp only [zb_0, Bool.not_eq_false] at c24); (try simp only [zb_0, Bool.not_eq_false] at c105); refine Or.inr ⟨by rw [pas_in]; simp [c17, c24], ?_, hM1, fun q hq => (zu_n (hq _ (by omega)))⟩; rw [pasM, if_neg (fun h => by have := (nI_eq (a := jw) (b := 4) (by omega) (by omega)).mp h; omega), if_neg (fun h => by have := (nI_eq (a := jw) (b := 5) (by omega) (by omega)).mp h; omega), if_neg (fun h => by have := (nI_eq (a := jw) (b := 6) (by omega) (by omega)).mp h; omega), nI_clamp (by omega)]; rfl)
set_option maxHeartbeats 4000000 in
set_option maxRecDepth 100000 in
theorem cMo_passedF {O : zO} {l : Launch} (hk : zK O l) (G : zG) (y w d : Int32) {am : Nat → Nat} {M : aM} (hM : zMm O G am M) (hO : mOk M) (hkr : isKindB y = false) : zM O l yMo_passed [Cond.code yMo_passed bMo_passed 11 (some .long)] rmMo_passed [.ref (am 0), .int y, .int w, .int d] G 0 0 (fun v G' => v = some (.long 0) ∧ zMt O G G' am (thM M 1)) zNo := by
  refine zm_of hk (by decide) (Nat.le_of_ble_eq_true rfl) ?_
  intro p e s m below meth c C hex hr hnm
  obtain ⟨hinj, h0, h1, h2, h3, h4, h5, h6, h7, h8, h9, h10, h11, h12, h13⟩ := id hM
  obtain ⟨o1, o2, o3, o4, o5⟩ := id hO
  refine zv_aload_n (pc := 0) C dMo_passed_0 rfl ?_
  refine zv_iload_n (pc := 1) C dMo_passed_1 rfl ?_
  refine zv_callS (pc := 2) C dMo_passed_2 (cMo_isKind hk _ _) gMo_78 ⟨rfl, rfl, ⟨Nat.le_of_ble_eq_true rfl, Nat.le_of_ble_eq_true rfl⟩, mMo_isKind⟩ rfl rfl (Nat.le_of_ble_eq_true rfl) ⟨Nat.le_of_ble_eq_true rfl, Nat.le_of_ble_eq_true rfl⟩ (fun _ _ h => h.elim) (fun v G' h => ?_)
  obtain ⟨rfl, rfl⟩ := h
  refine zv_if_eq (pc := 5) (tgt := 31) C dMo_passed_5 (by decide) (fun c5 => ?_) (fun c5 => by simp [zb_0, hkr] at c5)
  refine zv_iconst (pc := 31) (v := 1) C dMo_passed_31 (by decide) ?_
  refine zv_put (pc := 32) C dMo_passed_32 fMo_61 ⟨tkMo, nmMo⟩ (by first | assumption | exact zu_s | (refine (zu_n (hM.ne (by omega) (by omega) (by omega))).trans ?_; first | assumption | exact zu_s | (refine (zu_n (hM.ne (by omega) (by omega) (by omega))).trans ?_; first | assumption | exact zu_s))) rfl (tkMo 0 (by decide)) (by first | rfl | assumption | exact zb_nar _) (by first | rfl | assumption | decide +kernel) (Nat.le_of_ble_eq_true rfl) ?_
  have hM1 := hM.th (1)
  refine zv_aload_n (pc := 35) C dMo_passed_35 rfl ?_
  refine zv_get (pc := 36) C dMo_passed_36 fMo_61 (by first | assumption | exact zu_s | (refine (zu_n (hM.ne (by omega) (by omega) (by omega))).trans ?_; first | assumption | exact zu_s | (refine (zu_n (hM.ne (by omega) (by omega) (by omega))).trans ?_; first | assumption | exact zu_s))) rfl ?_
  refine zv_if_le (pc := 39) (tgt := 44) C dMo_passed_39 (by decide) (fun c39 => absurd c39 (by decide)) (fun c39 => ?_)
  refine zv_lconst (pc := 42) (v := 0) C dMo_passed_42 (by decide) ?_
  exact zv_lret (pc := 43) C hr dMo_passed_43 (Nat.le_of_ble_eq_true rfl) (Nat.le_of_ble_eq_true rfl) (by exact ⟨rfl, hM1, fun q hq => (zu_n (hq _ (by omega)))⟩)
