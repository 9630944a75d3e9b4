/-! answers of the public methods -/
def balS (S : aS) (x v1 v2 k1 : Int32) : Int64 := sumF (sL S).2.2.1 (sL S).2.2.2.2.1 (sL S).2.2.2.2.2 (sL S).2.2.2.1 x v1 v2 k1 (sn S)
def balOk (S : aS) (x d k : Int32) : Bool := isAccB x (nI (sna S)) && isDayB d && isDayB k
def staOk (S : aS) (x d k : Int32) : Bool := isAccB x (nI (sna S)) && isMonthB d && isDayB k
def recOk (S : aS) (x y d k : Int32) : Bool := isAccB x (nI (sna S)) && isAccB y (nI (sna S)) && !(decide (x = y)) && isDayB d && isDayB k
def cntV (S : aS) (w : Int32) : Int32 := if w = 0 then nI (sna S) else if w = 1 then nI (snb S) else if w = 2 then nI (sn S) else if w = 3 then scd S else if w = 4 then slk S else if w = 5 then swr S else if w = 6 then snm S else if w = 7 then nI 0 else if w = 8 then sfl S else -1
def redV (S : aS) (i : Nat) (w : Int32) : Int64 := if w = 0 then ((sL S).2.1 i).toInt64 else if w = 1 then ((sL S).2.2.1 i).toInt64 else if w = 2 then (sL S).2.2.2.1 i else if w = 3 then ((sL S).2.2.2.2.1 i).toInt64 else ((sL S).2.2.2.2.2 i).toInt64
def whB (w : Int32) (n : Int32) : Bool := !(decide (w < 0)) && !(decide (n ≤ w))
def lokV (b : aB) (w : Int32) : Int32 := if w = 0 then bst b else if w = 1 then nI (bsz b) else if w = 2 then brv b else if w = 3 then brb b else if w = 4 then (if btf b = 0 then 0 else 1) else if w = 5 then bvd b else bkd b
def is5 (w : Int32) : Bool := decide (w = 0) || decide (w = 1) || decide (w = 2) || decide (w = 3) || decide (w = 4)
def is7 (w : Int32) : Bool := is5 w || decide (w = 5) || decide (w = 6)
set_option maxHeartbeats 4000000 in
set_option maxRecDepth 100000 in
theorem cDu_balance {O : zO} {l : Launch} (hk : zK O l) (G : zG) (x d k : Int32) {ad : Nat → Nat} {S : aS} (hR : zRep O G ad S) (hS : aOk S) : zM O l yDu_balance [Cond.code yDu_balance bDu_balance 4 (some .long)] rmDu_balance [.ref (ad 0), .int x, .int d, .int k] G 1 6 (fun v G' => balOk S x d k = true ∧ v = some (.long (balS S x 0 d k)) ∧ G' = G) (fun E G' => balOk S x d k = false ∧ E = "java/lang/IllegalArgumentException" ∧ G' = G) := by
  refine zm_of hk (by decide) (Nat.le_of_ble_eq_true rfl) ?_
  intro p e s m below meth c C hex hr hnm
  obtain ⟨hinj, hD, hK1, ⟨fb, hF, hfb⟩, hBk, ⟨hSh, hp1, hp2⟩, hbs⟩ := id hR
  obtain ⟨ok1, ok2, ok3, ok4⟩ := id hS
  obtain ⟨hk0, hk1, hk2, hk3, hk4, hk5⟩ := id hBk
  refine zv_aload_n (pc := 0) C dDu_balance_0 rfl ?_
  refine zv_iload_n (pc := 1) C dDu_balance_1 rfl ?_
  refine zv_callV (pc := 2) C dDu_balance_2 (cDu_isAccount hk _ _ _ hD) gDu_89 ⟨rfl, rfl, ⟨Nat.le_of_ble_eq_true rfl, Nat.le_of_ble_eq_true rfl⟩, mDu_isAccount⟩ rfl rfl (Nat.le_of_ble_eq_true rfl) (by first | assumption | exact zu_s | (refine (zu_n (by assumption)).trans ?_; first | assumption | exact zu_s)) rfl rfl ⟨Nat.le_of_ble_eq_true rfl, Nat.le_of_ble_eq_true rfl⟩ (fun _ _ h => h.elim) (fun v G' h => ?_)
  obtain ⟨rfl, rfl⟩ := h
  refine zv_if_eq (pc := 5) (tgt := 22) C dDu_balance_5 (by decide) (fun c5 => ?_) (fun c5 => ?_)
  · exact zv_throwS (pc := 22) C dDu_balance_22 dDu_balance_25 dDu_balance_26 dDu_balance_28 dDu_balance_31 tDu_143_63 hex (Nat.le_of_ble_eq_true rfl) (Nat.le_of_ble_eq_true rfl) (Nat.le_of_ble_eq_true rfl) (Nat.le_of_ble_eq_true rfl) (Nat.le_of_ble_eq_true rfl) (Nat.le_of_ble_eq_true rfl) (by (try simp only [zb_0, Bool.not_eq_false] at c5); simp [balOk, balS, c5])
  · refine zv_iload_n (pc := 8) C dDu_balance_8 rfl ?_
    refine zv_callS (pc := 9) C dDu_balance_9 (cDu_isDay hk _ _) gDu_71 ⟨rfl, rfl, ⟨Nat.le_of_ble_eq_true rfl, Nat.le_of_ble_eq_true rfl⟩, mDu_isDay⟩ rfl rfl (Nat.le_of_ble_eq_true rfl) ⟨Nat.le_of_ble_eq_true rfl, Nat.le_of_ble_eq_true rfl⟩ (fun _ _ h => h.elim) (fun v G' h => ?_)
    obtain ⟨rfl, rfl⟩ := h
    refine zv_if_eq (pc := 12) (tgt := 22) C dDu_balance_12 (by decide) (fun c12 => ?_) (fun c12 => ?_)
    · exact zv_throwS (pc := 22) C dDu_balance_22 dDu_balance_25 dDu_balance_26 dDu_balance_28 dDu_balance_31 tDu_143_63 hex (Nat.le_of_ble_eq_true rfl) (Nat.le_of_ble_eq_true rfl) (Nat.le_of_ble_eq_true rfl) (Nat.le_of_ble_eq_true rfl) (Nat.le_of_ble_eq_true rfl) (Nat.le_of_ble_eq_true rfl) (by (try simp only [zb_0, Bool.not_eq_false] at c5); (try simp only [zb_0, Bool.not_eq_false] at c12); simp [balOk, balS, c5, c12])
    · refine zv_iload_n (pc := 15) C dDu_balance_15 rfl ?_
      refine zv_callS (pc := 16) C dDu_balance_16 (cDu_isDay hk _ _) gDu_71 ⟨rfl, rfl, ⟨Nat.le_of_ble_eq_true rfl, Nat.le_of_ble_eq_true rfl⟩, mDu_isDay⟩ rfl rfl (Nat.le_of_ble_eq_true rfl) ⟨Nat.le_of_ble_eq_true rfl, Nat.le_of_ble_eq_true rfl⟩ (fun _ _ h => h.elim) (fun v G' h => ?_)
      obtain ⟨rfl, rfl⟩ := h
      refine zv_if_ne (pc := 19) (tgt := 32) C dDu_balance_19 (by decide) (fun c19 => ?_) (fun c19 => ?_)
      · refine zv_aload_n (pc := 32) C dDu_balance_32 rfl ?_
        refine zv_get (pc := 33) C dDu_balance_33 fDu_29 (by first | assumption | exact zu_s | (refine (zu_n (by assumption)).trans ?_; first | assumption | exact zu_s)) rfl ?_
        refine zv_iload_n (pc := 36) C dDu_balance_36 rfl ?_
        refine zv_iconst (pc := 37) (v := 0) C dDu_balance_37 (by decide) ?_
        refine zv_iload_n (pc := 38) C dDu_balance_38 rfl ?_
        refine zv_iload_n (pc := 39) C dDu_balance_39 rfl ?_
        refine zv_callV (pc := 40) C dDu_balance_40 (cBk_sum hk _ _ _ _ _ _ _ (by first | assumption | exact zu_s | (refine (zu_n (by assumption)).trans ?_; first | assumption | exact zu_s)) (by first | assumption | exact zu_s | (refine (zu_n (by assumption)).trans ?_; first | assumption | exact zu_s)) (by first | assumption | exact zu_s | (refine (zu_n (by assumption)).trans ?_; first | assumption | exact zu_s)) (by first | assumption | exact zu_s | (refine (zu_n (by assumption)).trans ?_; first | assumption | exact zu_s)) (by first | assumption | exact zu_s | (refine (zu_n (by assumption)).trans ?_; first | assumption | exact zu_s)) (by omega)) gDu_145 ⟨rfl, rfl, ⟨Nat.le_of_ble_eq_true rfl, Nat.le_of_ble_eq_true rfl⟩, mBk_sum⟩ rfl rfl (Nat.le_of_ble_eq_true rfl) (by first | assumption | exact zu_s | (refine (zu_n (by assumption)).trans ?_; first | assumption | exact zu_s)) rfl rfl ⟨Nat.le_of_ble_eq_true rfl, Nat.le_of_ble_eq_true rfl⟩ (fun _ _ h => h.elim) (fun v G' h => ?_)
        obtain ⟨rfl, rfl⟩ := h
        exact zv_lret (pc := 43) C hr dDu_balance_43 (Nat.le_of_ble_eq_true rfl) (Nat.le_of_ble_eq_true rfl) (by (try simp only [zb_0, Bool.not_eq_false] at c5); (try simp only [zb_0, Bool.not_eq_false] at c12); (try simp only [zb_0, Bool.not_eq_false] at c19); simp [balOk, balS, c5, c12, c19])
      · exact zv_throwS (pc := 22) C dDu_balance_22 dDu_balance_25 dDu_balance_26 dDu_balance_28 dDu_balance_31 tDu_143_63 hex (Nat.le_of_ble_eq_true rfl) (Nat.le_of_ble_eq_true rfl) (Nat.le_of_ble_eq_true rfl) (Nat.le_of_ble_eq_true rfl) (Nat.le_of_ble_eq_true rfl) (Nat.le_of_ble_eq_true rfl) (by (try simp only [zb_0, Bool.not_eq_false] at c5); (try simp only [zb_0, Bool.not_eq_false] at c12); (try simp only [zb_0, Bool.not_eq_false] at c19); simp [balOk, balS, c5, c12, c19])
set_option maxHeartbeats 4000000 in
set_option maxRecDepth 100000 in
theorem cDu_statement {O : zO} {l : Launch} (hk : zK O l) (G : zG) (x d k : Int32) {ad : Nat → Nat} {S : aS} (hR : zRep O G ad S) (hS : aOk S) : zM O l yDu_statement [Cond.code yDu_statement bDu_statement 5 (some .long)] rmDu_statement [.ref (ad 0), .int x, .int d, .int k] G 1 6 (fun v G' => staOk S x d k = true ∧ v = some (.long (balS S x (30 * d) (30 * d + 30 - 1) k)) ∧ G' = G) (fun E G' => staOk S x d k = false ∧ E = "java/lang/IllegalArgumentException" ∧ G' = G) := by
  refine zm_of hk (by decide) (Nat.le_of_ble_eq_true rfl) ?_
  intro p e s m below meth c C hex hr hnm
  obtain ⟨hinj, hD, hK1, ⟨fb, hF, hfb⟩, hBk, ⟨hSh, hp1, hp2⟩, hbs⟩ := id hR
  obtain ⟨ok1, ok2, ok3, ok4⟩ := id hS
  obtain ⟨hk0, hk1, hk2, hk3, hk4, hk5⟩ := id hBk
  refine zv_aload_n (pc := 0) C dDu_statement_0 rfl ?_
  refine zv_iload_n (pc := 1) C dDu_statement_1 rfl ?_
  refine zv_callV (pc := 2) C dDu_statement_2 (cDu_isAccount hk _ _ _ hD) gDu_89 ⟨rfl, rfl, ⟨Nat.le_of_ble_eq_true rfl, Nat.le_of_ble_eq_true rfl⟩, mDu_isAccount⟩ rfl rfl (Nat.le_of_ble_eq_true rfl) (by first | assumption | exact zu_s | (refine (zu_n (by assumption)).trans ?_; first | assumption | exact zu_s)) rfl rfl ⟨Nat.le_of_ble_eq_true rfl, Nat.le_of_ble_eq_true rfl⟩ (fun _ _ h => h.elim) (fun v G' h => ?_)
  obtain ⟨rfl, rfl⟩ := h
  refine zv_if_eq (pc := 5) (tgt := 22) C dDu_statement_5 (by decide) (fun c5 => ?_) (fun c5 => ?_)
  · exact zv_throwS (pc := 22) C dDu_statement_22 dDu_statement_25 dDu_statement_26 dDu_statement_28 dDu_statement_31 tDu_152_63 hex (Nat.le_of_ble_eq_true rfl) (Nat.le_of_ble_eq_true rfl) (Nat.le_of_ble_eq_true rfl) (Nat.le_of_ble_eq_true rfl) (Nat.le_of_ble_eq_true rfl) (Nat.le_of_ble_eq_true rfl) (by (try simp only [zb_0, Bool.not_eq_false] at c5); simp [staOk, balS, c5])
  · refine zv_iload_n (pc := 8) C dDu_statement_8 rfl ?_
    refine zv_callS (pc := 9) C dDu_statement_9 (cDu_isMonth hk _ _) gDu_149 ⟨rfl, rfl, ⟨Nat.le_of_ble_eq_true rfl, Nat.le_of_ble_eq_true rfl⟩, mDu_isMonth⟩ rfl rfl (Nat.le_of_ble_eq_true rfl) ⟨Nat.le_of_ble_eq_true rfl, Nat.le_of_ble_eq_true rfl⟩ (fun _ _ h => h.elim) (fun v G' h => ?_)
    obtain ⟨rfl, rfl⟩ := h
    refine zv_if_eq (pc := 12) (tgt := 22) C dDu_statement_12 (by decide) (fun c12 => ?_) (fun c12 => ?_)
    · exact zv_throwS (pc := 22) C dDu_statement_22 dDu_statement_25 dDu_statement_26 dDu_statement_28 dDu_statement_31 tDu_152_63 hex (Nat.le_of_ble_eq_true rfl) (Nat.le_of_ble_eq_true rfl) (Nat.le_of_ble_eq_true rfl) (Nat.le_of_ble_eq_true rfl) (Nat.le_of_ble_eq_true rfl) (Nat.le_of_ble_eq_true rfl) (by (try simp only [zb_0, Bool.not_eq_false] at c5); (try simp only [zb_0, Bool.not_eq_false] at c12); simp [staOk, balS, c5, c12])
    · refine zv_iload_n (pc := 15) C dDu_statement_15 rfl ?_
      refine zv_callS (pc := 16) C dDu_statement_16 (cDu_isDay hk _ _) gDu_71 ⟨rfl, rfl, ⟨Nat.le_of_ble_eq_true rfl, Nat.le_of_ble_eq_true rfl⟩, mDu_isDay⟩ rfl rfl (Nat.le_of_ble_eq_true rfl) ⟨Nat.le_of_ble_eq_true rfl, Nat.le_of_ble_eq_true rfl⟩ (fun _ _ h => h.elim) (fun v G' h => ?_)
      obtain ⟨rfl, rfl⟩ := h
      refine zv_if_ne (pc := 19) (tgt := 32) C dDu_statement_19 (by decide) (fun c19 => ?_) (fun c19 => ?_)
      · refine zv_bipush (pc := 32) (v := 30) C dDu_statement_32 (by decide) ?_
        refine zv_iload_n (pc := 34) C dDu_statement_34 rfl ?_
        refine zv_imul (pc := 35) C dDu_statement_35 ?_
        refine zv_istore (pc := 36) C dDu_statement_36 (by decide) ?_
        refine zv_aload_n (pc := 38) C dDu_statement_38 rfl ?_
        refine zv_get (pc := 39) C dDu_statement_39 fDu_29 (by first | assumption | exact zu_s | (refine (zu_n (by assumption)).trans ?_; first | assumption | exact zu_s)) rfl ?_
        refine zv_iload_n (pc := 42) C dDu_statement_42 rfl ?_
        refine zv_iload (pc := 43) C dDu_statement_43 rfl ?_
        refine zv_iload (pc := 45) C dDu_statement_45 rfl ?_
        refine zv_bipush (pc := 47) (v := 30) C dDu_statement_47 (by decide) ?_
        refine zv_iadd (pc := 49) C dDu_statement_49 ?_
        refine zv_iconst (pc := 50) (v := 1) C dDu_statement_50 (by decide) ?_
        refine zv_isub (pc := 51) C dDu_statement_51 ?_
        refine zv_iload_n (pc := 52) C dDu_statement_52 rfl ?_
        refine zv_callV (pc := 53) C dDu_statement_53 (cBk_sum hk _ _ _ _ _ _ _ (by first | assumption | exact zu_s | (refine (zu_n (by assumption)).trans ?_; first | assumption | exact zu_s)) (by first | assumption | exact zu_s | (refine (zu_n (by assumption)).trans ?_; first | assumption | exact zu_s)) (by first | assumption | exact zu_s | (refine (zu_n (by assumption)).trans ?_; first | assumption | exact zu_s)) (by first | assumption | exact zu_s | (refine (zu_n (by assumption)).trans ?_; first | assumption | exact zu_s)) (by first | assumption | exact zu_s | (refine (zu_n (by assumption)).trans ?_; first | assumption | exact zu_s)) (by omega)) gDu_145 ⟨rfl, rfl, ⟨Nat.le_of_ble_eq_true rfl, Nat.le_of_ble_eq_true rfl⟩, mBk_sum⟩ rfl rfl (Nat.le_of_ble_eq_true rfl) (by first | assumption | exact zu_s | (refine (zu_n (by assumption)).trans ?_; first | assumption | exact zu_s)) rfl rfl ⟨Nat.le_of_ble_eq_true rfl, Nat.le_of_ble_eq_true rfl⟩ (fun _ _ h => h.elim) (fun v G' h => ?_)
        obtain ⟨rfl, rfl⟩ := h
        exact zv_lret (pc := 56) C hr dDu_statement_56 (Nat.le_of_ble_eq_true rfl) (Nat.le_of_ble_eq_true rfl) (by (try simp only [zb_0, Bool.not_eq_false] at c5); (try simp only [zb_0, Bool.not_eq_false] at c12); (try simp only [zb_0, Bool.not_eq_false] at c19); simp [staOk, balS, c5, c12, c19])
      · exact zv_throwS (pc := 22) C dDu_statement_22 dDu_statement_25 dDu_statement_26 dDu_statement_28 dDu_statement_31 tDu_152_63 hex (Nat.le_of_ble_eq_true rfl) (Nat.le_of_ble_eq_true rfl) (Nat.le_of_ble_eq_true rfl) (Nat.le_of_ble_eq_true rfl) (Nat.le_of_ble_eq_true rfl) (Nat.le_of_ble_eq_true rfl) (by (try simp only [zb_0, Bool.not_eq_false] at c5); (try simp only [zb_0, Bool.not_eq_false] at c12); (try simp only [zb_0, Bool.not_eq_false] at c19); simp [staOk, balS, c5, c12, c19])
set_option maxHeartbeats 4000000 in
set_option maxRecDepth 100000 in
theorem cDu_reconcile {O : zO} {l : Launch} (hk : zK O l) (G : zG) (x y d k : Int32) {ad : Nat → Nat} {S : aS} (hR : zRep O G ad S) (hS : aOk S) : zM O l yDu_reconcile [Cond.code yDu_reconcile bDu_reconcile 5 (some .long)] rmDu_reconcile [.ref (ad 0), .int x, .int y, .int d, .int k] G 1 6 (fun v G' => recOk S x y d k = true ∧ v = some (.long (balS S x 0 d k + balS S y 0 d k)) ∧ G' = G) (fun E G' => recOk S x y d k = false ∧ E = "java/lang/IllegalArgumentException" ∧ G' = G) := by
  refine zm_of hk (by decide) (Nat.le_of_ble_eq_true rfl) ?_
  intro p e s m below meth c C hex hr hnm
  obtain ⟨hinj, hD, hK1, ⟨fb, hF, hfb⟩, hBk, ⟨hSh, hp1, hp2⟩, hbs⟩ := id hR
  obtain ⟨ok1, ok2, ok3, ok4⟩ := id hS
  obtain ⟨hk0, hk1, hk2, hk3, hk4, hk5⟩ := id hBk
  refine zv_aload_n (pc := 0) C dDu_reconcile_0 rfl ?_
  refine zv_iload_n (pc := 1) C dDu_reconcile_1 rfl ?_
  refine zv_callV (pc := 2) C dDu_reconcile_2 (cDu_isAccount hk _ _ _ hD) gDu_89 ⟨rfl, rfl, ⟨Nat.le_of_ble_eq_true rfl, Nat.le_of_ble_eq_true rfl⟩, mDu_isAccount⟩ rfl rfl (Nat.le_of_ble_eq_true rfl) (by first | assumption | exact zu_s | (refine (zu_n (by assumption)).trans ?_; first | assumption | exact zu_s)) rfl rfl ⟨Nat.le_of_ble_eq_true rfl, Nat.le_of_ble_eq_true rfl⟩ (fun _ _ h => h.elim) (fun v G' h => ?_)
  obtain ⟨rfl, rfl⟩ := h
  refine zv_if_eq (pc := 5) (tgt := 21) C dDu_reconcile_5 (by decide) (fun c5 => ?_) (fun c5 => ?_)
  · exact zv_throwS (pc := 21) C dDu_reconcile_21 dDu_reconcile_24 dDu_reconcile_25 dDu_reconcile_27 dDu_reconcile_30 tDu_181_63 hex (Nat.le_of_ble_eq_true rfl) (Nat.le_of_ble_eq_true rfl) (Nat.le_of_ble_eq_true rfl) (Nat.le_of_ble_eq_true rfl) (Nat.le_of_ble_eq_true rfl) (Nat.le_of_ble_eq_true rfl) (by (try simp only [zb_0, Bool.not_eq_false] at c5); simp [recOk, balS, c5])
  · refine zv_aload_n (pc := 8) C dDu_reconcile_8 rfl ?_
    refine zv_iload_n (pc := 9) C dDu_reconcile_9 rfl ?_
    refine zv_callV (pc := 10) C dDu_reconcile_10 (cDu_isAccount hk _ _ _ hD) gDu_89 ⟨rfl, rfl, ⟨Nat.le_of_ble_eq_true rfl, Nat.le_of_ble_eq_true rfl⟩, mDu_isAccount⟩ rfl rfl (Nat.le_of_ble_eq_true rfl) (by first | assumption | exact zu_s | (refine (zu_n (by assumption)).trans ?_; first | assumption | exact zu_s)) rfl rfl ⟨Nat.le_of_ble_eq_true rfl, Nat.le_of_ble_eq_true rfl⟩ (fun _ _ h => h.elim) (fun v G' h => ?_)
    obtain ⟨rfl, rfl⟩ := h
    refine zv_if_eq (pc := 13) (tgt := 21) C dDu_reconcile_13 (by decide) (fun c13 => ?_) (fun c13 => ?_)
    · exact zv_throwS (pc := 21) C dDu_reconcile_21 dDu_reconcile_24 dDu_reconcile_25 dDu_reconcile_27 dDu_reconcile_30 tDu_181_63 hex (Nat.le_of_ble_eq_true rfl) (Nat.le_of_ble_eq_true rfl) (Nat.le_of_ble_eq_true rfl) (Nat.le_of_ble_eq_true rfl) (Nat.le_of_ble_eq_true rfl) (Nat.le_of_ble_eq_true rfl) (by (try simp only [zb_0, Bool.not_eq_false] at c5); (try simp only [zb_0, Bool.not_eq_false] at c13); simp [recOk, balS, c5, c13])
    · refine zv_iload_n (pc := 16) C dDu_reconcile_16 rfl ?_
      refine zv_iload_n (pc := 17) C dDu_reconcile_17 rfl ?_
      refine zv_icmp_ne (pc := 18) (tgt := 31) C dDu_reconcile_18 (by decide) (fun c18 => ?_) (fun c18 => ?_)
      · refine zv_iload_n (pc := 31) C dDu_reconcile_31 rfl ?_
        refine zv_callS (pc := 32) C dDu_reconcile_32 (cDu_isDay hk _ _) gDu_71 ⟨rfl, rfl, ⟨Nat.le_of_ble_eq_true rfl, Nat.le_of_ble_eq_true rfl⟩, mDu_isDay⟩ rfl rfl (Nat.le_of_ble_eq_true rfl) ⟨Nat.le_of_ble_eq_true rfl, Nat.le_of_ble_eq_true rfl⟩ (fun _ _ h => h.elim) (fun v G' h => ?_)
        obtain ⟨rfl, rfl⟩ := h
        refine zv_if_eq (pc := 35) (tgt := 46) C dDu_reconcile_35 (by decide) (fun c35 => ?_) (fun c35 => ?_)
        · exact zv_throwS (pc := 46) C dDu_reconcile_46 dDu_reconcile_49 dDu_reconcile_50 dDu_reconcile_52 dDu_reconcile_55 tDu_74_63 hex (Nat.le_of_ble_eq_true rfl) (Nat.le_of_ble_eq_true rfl) (Nat.le_of_ble_eq_true rfl) (Nat.le_of_ble_eq_true rfl) (Nat.le_of_ble_eq_true rfl) (Nat.le_of_ble_eq_true rfl) (by (try simp only [zb_0, Bool.not_eq_false] at c5); (try simp only [zb_0, Bool.not_eq_false] at c13); (try simp only [zb_0, Bool.not_eq_false] at c18); (try simp only [zb_0, Bool.not_eq_false] at c35); simp [recOk, balS, c5, c13, c18, c35])
        · refine zv_iload (pc := 38) C dDu_reconcile_38 rfl ?_
          refine zv_callS (pc := 40) C dDu_reconcile_40 (cDu_isDay hk _ _) gDu_71 ⟨rfl, rfl, ⟨Nat.le_of_ble_eq_true rfl, Nat.le_of_ble_eq_true rfl⟩, mDu_isDay⟩ rfl rfl (Nat.le_of_ble_eq_true rfl) ⟨Nat.le_of_ble_eq_true rfl, Nat.le_of_ble_eq_true rfl⟩ (fun _ _ h => h.elim) (fun v G' h => ?_)
          obtain ⟨rfl, rfl⟩ := h
          refine zv_if_ne (pc := 43) (tgt := 56) C dDu_reconcile_43 (by decide) (fun c43 => ?_) (fun c43 => ?_)
          · refine zv_aload_n (pc := 56) C dDu_reconcile_56 rfl ?_
            refine zv_get (pc := 57) C dDu_reconcile_57 fDu_29 (by first | assumption | exact zu_s | (refine (zu_n (by assumption)).trans ?_; first | assumption | exact zu_s)) rfl ?_
            refine zv_iload_n (pc := 60) C dDu_reconcile_60 rfl ?_
            refine zv_iconst (pc := 61) (v := 0) C dDu_reconcile_61 (by decide) ?_
            refine zv_iload_n (pc := 62) C dDu_reconcile_62 rfl ?_
            refine zv_iload (pc := 63) C dDu_reconcile_63 rfl ?_
            refine zv_callV (pc := 65) C dDu_reconcile_65 (cBk_sum hk _ _ _ _ _ _ _ (by first | assumption | exact zu_s | (refine (zu_n (by assumption)).trans ?_; first | assumption | exact zu_s)) (by first | assumption | exact zu_s | (refine (zu_n (by assumption)).trans ?_; first | assumption | exact zu_s)) (by first | assumption | exact zu_s | (refine (zu_n (by assumption)).trans ?_; first | assumption | exact zu_s)) (by first | assumption | exact zu_s | (refine (zu_n (by assumption)).trans ?_; first | assumption | exact zu_s)) (by first | assumption | exact zu_s | (refine (zu_n (by assumption)).trans ?_; first | assumption | exact zu_s)) (by omega)) gDu_145 ⟨rfl, rfl, ⟨Nat.le_of_ble_eq_true rfl, Nat.le_of_ble_eq_true rfl⟩, mBk_sum⟩ rfl rfl (Nat.le_of_ble_eq_true rfl) (by first | assumption | exact zu_s | (refine (zu_n (by assumption)).trans ?_; first | assumption | exact zu_s)) rfl rfl ⟨Nat.le_of_ble_eq_true rfl, Nat.le_of_ble_eq_true rfl⟩ (fun _ _ h => h.elim) (fun v G' h => ?_)
            obtain ⟨rfl, rfl⟩ := h
            refine zv_aload_n (pc := 68) C dDu_reconcile_68 rfl ?_
            refine zv_get (pc := 69) C dDu_reconcile_69 fDu_29 (by first | assumption | exact zu_s | (refine (zu_n (by assumption)).trans ?_; first | assumption | exact zu_s)) rfl ?_
            refine zv_iload_n (pc := 72) C dDu_reconcile_72 rfl ?_
            refine zv_iconst (pc := 73) (v := 0) C dDu_reconcile_73 (by decide) ?_
            refine zv_iload_n (pc := 74) C dDu_reconcile_74 rfl ?_
            refine zv_iload (pc := 75) C dDu_reconcile_75 rfl ?_
            refine zv_callV (pc := 77) C dDu_reconcile_77 (cBk_sum hk _ _ _ _ _ _ _ (by first | assumption | exact zu_s | (refine (zu_n (by assumption)).trans ?_; first | assumption | exact zu_s)) (by first | assumption | exact zu_s | (refine (zu_n (by assumption)).trans ?_; first | assumption | exact zu_s)) (by first | assumption | exact zu_s | (refine (zu_n (by assumption)).trans ?_; first | assumption | exact zu_s)) (by first | assumption | exact zu_s | (refine (zu_n (by assumption)).trans ?_; first | assumption | exact zu_s)) (by first | assumption | exact zu_s | (refine (zu_n (by assumption)).trans ?_; first | assumption | exact zu_s)) (by omega)) gDu_145 ⟨rfl, rfl, ⟨Nat.le_of_ble_eq_true rfl, Nat.le_of_ble_eq_true rfl⟩, mBk_sum⟩ rfl rfl (Nat.le_of_ble_eq_true rfl) (by first | assumption | exact zu_s | (refine (zu_n (by assumption)).trans ?_; first | assumption | exact zu_s)) rfl rfl ⟨Nat.le_of_ble_eq_true rfl, Nat.le_of_ble_eq_true rfl⟩ (fun _ _ h => h.elim) (fun v G' h => ?_)
            obtain ⟨rfl, rfl⟩ := h
            refine zv_ladd (pc := 80) C dDu_reconcile_80 ?_
            exact zv_lret (pc := 81) C hr dDu_reconcile_81 (Nat.le_of_ble_eq_true rfl) (Nat.le_of_ble_eq_true rfl) (by (try simp only [zb_0, Bool.not_eq_false] at c5); (try simp only [zb_0, Bool.not_eq_false] at c13); (try simp only [zb_0, Bool.not_eq_false] at c18); (try simp only [zb_0, Bool.not_eq_false] at c35); (try simp only [zb_0, Bool.not_eq_false] at c43); simp [recOk, balS, c5, c13, c18, c35, c43])
          · exact zv_throwS (pc := 46) C dDu_reconcile_46 dDu_reconcile_49 dDu_reconcile_50 dDu_reconcile_52 dDu_reconcile_55 tDu_74_63 hex (Nat.le_of_ble_eq_true rfl) (Nat.le_of_ble_eq_true rfl) (Nat.le_of_ble_eq_true rfl) (Nat.le_of_ble_eq_true rfl) (Nat.le_of_ble_eq_true rfl) (Nat.le_of_ble_eq_true rfl) (by (try simp only [zb_0, Bool.not_eq_false] at c5); (try simp only [zb_0, Bool.not_eq_false] at c13); (try simp only [zb_0, Bool.not_eq_false] at c18); (try simp only [zb_0, Bool.not_eq_false] at c35); (try simp only [zb_0, Bool.not_eq_false] at c43); simp [recOk, balS, c5, c13, c18, c35, c43])
      · exact zv_throwS (pc := 21) C dDu_reconcile_21 dDu_reconcile_24 dDu_reconcile_25 dDu_reconcile_27 dDu_reconcile_30 tDu_181_63 hex (Nat.le_of_ble_eq_true rfl) (Nat.le_of_ble_eq_true rfl) (Nat.le_of_ble_eq_true rfl) (Nat.le_of_ble_eq_true rfl) (Nat.le_of_ble_eq_true rfl) (Nat.le_of_ble_eq_true rfl) (by (try simp only [zb_0, Bool.not_eq_false] at c5); (try simp only [zb_0, Bool.not_eq_false] at c13); (try simp only [zb_0, Bool.not_eq_false] at c18); simp [recOk, balS, c5, c13, c18])
set_option maxHeartbeats 4000000 in
set_option maxRecDepth 100000 in
theorem cDu_count {O : zO} {l : Launch} (hk : zK O l) (G : zG) (w : Int32) {ad : Nat → Nat} {S : aS} (hR : zRep O G ad S) (hS : aOk S) : zM O l yDu_count [Cond.code yDu_count bDu_count 2 (some .int)] rmDu_count [.ref (ad 0), .int w] G 0 0 (zPr (.int (cntV S w)) G) zNo := by
  refine zm_of hk (by decide) (Nat.le_of_ble_eq_true rfl) ?_
  intro p e s m below meth c C hex hr hnm
  obtain ⟨hinj, hD, hK1, ⟨fb, hF, hfb⟩, hBk, ⟨hSh, hp1, hp2⟩, hbs⟩ := id hR
  obtain ⟨ok1, ok2, ok3, ok4⟩ := id hS
  obtain ⟨hk0, hk1, hk2, hk3, hk4, hk5⟩ := id hBk
  refine zv_iload_n (pc := 0) C dDu_count_0 rfl ?_
  by_cases e0 : w = 0
  · subst e0
    refine zv_tabIn (pc := 1) (tgt := 52) C dDu_count_1 (by decide) (by decide) rfl (by decide) ?_
    refine zv_aload_n (pc := 52) C dDu_count_52 rfl ?_
    refine zv_get (pc := 53) C dDu_count_53 fDu_13 (by first | assumption | exact zu_s | (refine (zu_n (by assumption)).trans ?_; first | assumption | exact zu_s)) rfl ?_
    exact zv_iret (pc := 56) C hr dDu_count_56 (Nat.le_of_ble_eq_true rfl) (Nat.le_of_ble_eq_true rfl) (by first | exact ⟨rfl, rfl⟩ | simp [zPr, cntV, *])
  · skip
    by_cases e1 : w = 1
    · subst e1
      refine zv_tabIn (pc := 1) (tgt := 57) C dDu_count_1 (by decide) (by decide) rfl (by decide) ?_
      refine zv_aload_n (pc := 57) C dDu_count_57 rfl ?_
      refine zv_get (pc := 58) C dDu_count_58 fDu_23 (by first | assumption | exact zu_s | (refine (zu_n (by assumption)).trans ?_; first | assumption | exact zu_s)) rfl ?_
      exact zv_iret (pc := 61) C hr dDu_count_61 (Nat.le_of_ble_eq_true rfl) (Nat.le_of_ble_eq_true rfl) (by first | exact ⟨rfl, rfl⟩ | simp [zPr, cntV, *])
    · skip
      by_cases e2 : w = 2
      · subst e2
        refine zv_tabIn (pc := 1) (tgt := 62) C dDu_count_1 (by decide) (by decide) rfl (by decide) ?_
        refine zv_aload_n (pc := 62) C dDu_count_62 rfl ?_
        refine zv_get (pc := 63) C dDu_count_63 fDu_29 (by first | assumption | exact zu_s | (refine (zu_n (by assumption)).trans ?_; first | assumption | exact zu_s)) rfl ?_
        refine zv_get (pc := 66) C dDu_count_66 fDu_183 (by first | assumption | exact zu_s | (refine (zu_n (by assumption)).trans ?_; first | assumption | exact zu_s)) rfl ?_
        exact zv_iret (pc := 69) C hr dDu_count_69 (Nat.le_of_ble_eq_true rfl) (Nat.le_of_ble_eq_true rfl) (by first | exact ⟨rfl, rfl⟩ | simp [zPr, cntV, *])
      · skip
        by_cases e3 : w = 3
        · subst e3
          refine zv_tabIn (pc := 1) (tgt := 70) C dDu_count_1 (by decide) (by decide) rfl (by decide) ?_
          refine zv_aload_n (pc := 70) C dDu_count_70 rfl ?_
          refine zv_get (pc := 71) C dDu_count_71 fDu_40 (by first | assumption | exact zu_s | (refine (zu_n (by assumption)).trans ?_; first | assumption | exact zu_s)) rfl ?_
          exact zv_iret (pc := 74) C hr dDu_count_74 (Nat.le_of_ble_eq_true rfl) (Nat.le_of_ble_eq_true rfl) (by first | exact ⟨rfl, rfl⟩ | simp [zPr, cntV, *])
        · skip
          by_cases e4 : w = 4
          · subst e4
            refine zv_tabIn (pc := 1) (tgt := 75) C dDu_count_1 (by decide) (by decide) rfl (by decide) ?_
            refine zv_aload_n (pc := 75) C dDu_count_75 rfl ?_
            refine zv_get (pc := 76) C dDu_count_76 fDu_43 (by first | assumption | exact zu_s | (refine (zu_n (by assumption)).trans ?_; first | assumption | exact zu_s)) rfl ?_
            exact zv_iret (pc := 79) C hr dDu_count_79 (Nat.le_of_ble_eq_true rfl) (Nat.le_of_ble_eq_true rfl) (by first | exact ⟨rfl, rfl⟩ | simp [zPr, cntV, *])
          · skip
            by_cases e5 : w = 5
            · subst e5
              refine zv_tabIn (pc := 1) (tgt := 80) C dDu_count_1 (by decide) (by decide) rfl (by decide) ?_
              refine zv_aload_n (pc := 80) C dDu_count_80 rfl ?_
              refine zv_get (pc := 81) C dDu_count_81 fDu_46 (by first | assumption | exact zu_s | (refine (zu_n (by assumption)).trans ?_; first | assumption | exact zu_s)) rfl ?_
              exact zv_iret (pc := 84) C hr dDu_count_84 (Nat.le_of_ble_eq_true rfl) (Nat.le_of_ble_eq_true rfl) (by first | exact ⟨rfl, rfl⟩ | simp [zPr, cntV, *])
            · skip
              by_cases e6 : w = 6
              · subst e6
                refine zv_tabIn (pc := 1) (tgt := 85) C dDu_count_1 (by decide) (by decide) rfl (by decide) ?_
                refine zv_aload_n (pc := 85) C dDu_count_85 rfl ?_
                refine zv_get (pc := 86) C dDu_count_86 fDu_49 (by first | assumption | exact zu_s | (refine (zu_n (by assumption)).trans ?_; first | assumption | exact zu_s)) rfl ?_
                exact zv_iret (pc := 89) C hr dDu_count_89 (Nat.le_of_ble_eq_true rfl) (Nat.le_of_ble_eq_true rfl) (by first | exact ⟨rfl, rfl⟩ | simp [zPr, cntV, *])
              · skip
                by_cases e7 : w = 7
                · subst e7
                  refine zv_tabIn (pc := 1) (tgt := 90) C dDu_count_1 (by decide) (by decide) rfl (by decide) ?_
                  refine zv_aload_n (pc := 90) C dDu_count_90 rfl ?_
                  refine zv_get (pc := 91) C dDu_count_91 fDu_29 (by first | assumption | exact zu_s | (refine (zu_n (by assumption)).trans ?_; first | assumption | exact zu_s)) rfl ?_
                  refine zv_get (pc := 94) C dDu_count_94 fDu_225 (by first | assumption | exact zu_s | (refine (zu_n (by assumption)).trans ?_; first | assumption | exact zu_s)) rfl ?_
                  exact zv_iret (pc := 97) C hr dDu_count_97 (Nat.le_of_ble_eq_true rfl) (Nat.le_of_ble_eq_true rfl) (by first | exact ⟨rfl, rfl⟩ | simp [zPr, cntV, *])
                · skip
                  by_cases e8 : w = 8
                  · subst e8
                    refine zv_tabIn (pc := 1) (tgt := 98) C dDu_count_1 (by decide) (by decide) rfl (by decide) ?_
                    refine zv_aload_n (pc := 98) C dDu_count_98 rfl ?_
                    refine zv_get (pc := 99) C dDu_count_99 fDu_52 (by first | assumption | exact zu_s | (refine (zu_n (by assumption)).trans ?_; first | assumption | exact zu_s)) rfl ?_
                    exact zv_iret (pc := 102) C hr dDu_count_102 (Nat.le_of_ble_eq_true rfl) (Nat.le_of_ble_eq_true rfl) (by first | exact ⟨rfl, rfl⟩ | simp [zPr, cntV, *])
                  · skip
                    refine zv_tabOut (pc := 1) (tgt := 103) C dDu_count_1 (by have x0 : w.toInt ≠ 0 := fun h => e0 (Int32.toInt_inj.mp (h.trans (by decide))); have x1 : w.toInt ≠ 1 := fun h => e1 (Int32.toInt_inj.mp (h.trans (by decide))); have x2 : w.toInt ≠ 2 := fun h => e2 (Int32.toInt_inj.mp (h.trans (by decide))); have x3 : w.toInt ≠ 3 := fun h => e3 (Int32.toInt_inj.mp (h.trans (by decide))); have x4 : w.toInt ≠ 4 := fun h => e4 (Int32.toInt_inj.mp (h.trans (by decide))); have x5 : w.toInt ≠ 5 := fun h => e5 (Int32.toInt_inj.mp (h.trans (by decide))); have x6 : w.toInt ≠ 6 := fun h => e6 (Int32.toInt_inj.mp (h.trans (by decide))); have x7 : w.toInt ≠ 7 := fun h => e7 (Int32.toInt_inj.mp (h.trans (by decide))); have x8 : w.toInt ≠ 8 := fun h => e8 (Int32.toInt_inj.mp (h.trans (by decide))); omega) (by decide) ?_
                    refine zv_iconst (pc := 103) (v := -1) C dDu_count_103 (by decide) ?_
                    exact zv_iret (pc := 104) C hr dDu_count_104 (Nat.le_of_ble_eq_true rfl) (Nat.le_of_ble_eq_true rfl) (by first | exact ⟨rfl, rfl⟩ | simp [zPr, cntV, *])
set_option maxHeartbeats 4000000 in
set_option maxRecDepth 100000 in
theorem cDu_readT {O : zO} {l : Launch} (hk : zK O l) (G : zG) (i : Nat) (w : Int32) {ad : Nat → Nat} {S : aS} (hR : zRep O G ad S) (hS : aOk S) (hi : i < sn S) : zM O l yDu_read [Cond.code yDu_read bDu_read 3 (some .long)] rmDu_read [.ref (ad 0), .int (nI i), .int w] G 1 6 (fun v G' => is5 w = true ∧ v = some (.long (redV S i w)) ∧ G' = G) (fun E G' => is5 w = false ∧ E = "java/lang/IndexOutOfBoundsException" ∧ G' = G) := by
  refine zm_of hk (by decide) (Nat.le_of_ble_eq_true rfl) ?_
  intro p e s m below meth c C hex hr hnm
  obtain ⟨hinj, hD, hK1, ⟨fb, hF, hfb⟩, hBk, ⟨hSh, hp1, hp2⟩, hbs⟩ := id hR
  obtain ⟨ok1, ok2, ok3, ok4⟩ := id hS
  obtain ⟨hk0, hk1, hk2, hk3, hk4, hk5⟩ := id hBk
  refine zv_iload_n (pc := 0) C dDu_read_0 rfl ?_
  refine zv_if_lt (pc := 1) (tgt := 15) C dDu_read_1 (by decide) (fun c1 => absurd c1 (nI_pos (by omega))) (fun c1 => ?_)
  refine zv_iload_n (pc := 4) C dDu_read_4 rfl ?_
  refine zv_aload_n (pc := 5) C dDu_read_5 rfl ?_
  refine zv_get (pc := 6) C dDu_read_6 fDu_29 (by first | assumption | exact zu_s | (refine (zu_n (by assumption)).trans ?_; first | assumption | exact zu_s)) rfl ?_
  refine zv_get (pc := 9) C dDu_read_9 fDu_183 (by first | assumption | exact zu_s | (refine (zu_n (by assumption)).trans ?_; first | assumption | exact zu_s)) rfl ?_
  refine zv_icmp_lt (pc := 12) (tgt := 25) C dDu_read_12 (by decide) (fun c12 => ?_) (fun c12 => absurd (nI_lt hi (by omega)) c12)
  refine zv_iload_n (pc := 25) C dDu_read_25 rfl ?_
  by_cases e0 : w = 0
  · subst e0
    refine zv_tabIn (pc := 26) (tgt := 60) C dDu_read_26 (by decide) (by decide) rfl (by decide) ?_
    refine zv_aload_n (pc := 60) C dDu_read_60 rfl ?_
    refine zv_get (pc := 61) C dDu_read_61 fDu_29 (by first | assumption | exact zu_s | (refine (zu_n (by assumption)).trans ?_; first | assumption | exact zu_s)) rfl ?_
    refine zv_get (pc := 64) C dDu_read_64 fDu_191 (by first | assumption | exact zu_s | (refine (zu_n (by assumption)).trans ?_; first | assumption | exact zu_s)) rfl ?_
    refine zv_iload_n (pc := 67) C dDu_read_67 rfl ?_
    refine zn_iald (pc := 68) C dDu_read_68 (by first | assumption | exact zu_s | (refine (zu_n (by assumption)).trans ?_; first | assumption | exact zu_s)) (by omega) (by omega) ?_
    refine zv_i2l (pc := 69) C dDu_read_69 ?_
    exact zv_lret (pc := 70) C hr dDu_read_70 (Nat.le_of_ble_eq_true rfl) (Nat.le_of_ble_eq_true rfl) (by first | (simp [is5, redV]; done) | (simp [is5, redV, *]; done) | (simp only [is5, redV]; decide +kernel))
  · skip
    by_cases e1 : w = 1
    · subst e1
      refine zv_tabIn (pc := 26) (tgt := 71) C dDu_read_26 (by decide) (by decide) rfl (by decide) ?_
      refine zv_aload_n (pc := 71) C dDu_read_71 rfl ?_
      refine zv_get (pc := 72) C dDu_read_72 fDu_29 (by first | assumption | exact zu_s | (refine (zu_n (by assumption)).trans ?_; first | assumption | exact zu_s)) rfl ?_
      refine zv_get (pc := 75) C dDu_read_75 fDu_194 (by first | assumption | exact zu_s | (refine (zu_n (by assumption)).trans ?_; first | assumption | exact zu_s)) rfl ?_
      refine zv_iload_n (pc := 78) C dDu_read_78 rfl ?_
      refine zn_iald (pc := 79) C dDu_read_79 (by first | assumption | exact zu_s | (refine (zu_n (by assumption)).trans ?_; first | assumption | exact zu_s)) (by omega) (by omega) ?_
      refine zv_i2l (pc := 80) C dDu_read_80 ?_
      exact zv_lret (pc := 81) C hr dDu_read_81 (Nat.le_of_ble_eq_true rfl) (Nat.le_of_ble_eq_true rfl) (by first | (simp [is5, redV]; done) | (simp [is5, redV, *]; done) | (simp only [is5, redV]; decide +kernel))
    · skip
      by_cases e2 : w = 2
      · subst e2
        refine zv_tabIn (pc := 26) (tgt := 82) C dDu_read_26 (by decide) (by decide) rfl (by decide) ?_
        refine zv_aload_n (pc := 82) C dDu_read_82 rfl ?_
        refine zv_get (pc := 83) C dDu_read_83 fDu_29 (by first | assumption | exact zu_s | (refine (zu_n (by assumption)).trans ?_; first | assumption | exact zu_s)) rfl ?_
        refine zv_get (pc := 86) C dDu_read_86 fDu_197 (by first | assumption | exact zu_s | (refine (zu_n (by assumption)).trans ?_; first | assumption | exact zu_s)) rfl ?_
        refine zv_iload_n (pc := 89) C dDu_read_89 rfl ?_
        refine zn_lald (pc := 90) C dDu_read_90 (by first | assumption | exact zu_s | (refine (zu_n (by assumption)).trans ?_; first | assumption | exact zu_s)) (by omega) (by omega) ?_
        exact zv_lret (pc := 91) C hr dDu_read_91 (Nat.le_of_ble_eq_true rfl) (Nat.le_of_ble_eq_true rfl) (by first | (simp [is5, redV]; done) | (simp [is5, redV, *]; done) | (simp only [is5, redV]; decide +kernel))
      · skip
        by_cases e3 : w = 3
        · subst e3
          refine zv_tabIn (pc := 26) (tgt := 92) C dDu_read_26 (by decide) (by decide) rfl (by decide) ?_
          refine zv_aload_n (pc := 92) C dDu_read_92 rfl ?_
          refine zv_get (pc := 93) C dDu_read_93 fDu_29 (by first | assumption | exact zu_s | (refine (zu_n (by assumption)).trans ?_; first | assumption | exact zu_s)) rfl ?_
          refine zv_get (pc := 96) C dDu_read_96 fDu_201 (by first | assumption | exact zu_s | (refine (zu_n (by assumption)).trans ?_; first | assumption | exact zu_s)) rfl ?_
          refine zv_iload_n (pc := 99) C dDu_read_99 rfl ?_
          refine zn_iald (pc := 100) C dDu_read_100 (by first | assumption | exact zu_s | (refine (zu_n (by assumption)).trans ?_; first | assumption | exact zu_s)) (by omega) (by omega) ?_
          refine zv_i2l (pc := 101) C dDu_read_101 ?_
          exact zv_lret (pc := 102) C hr dDu_read_102 (Nat.le_of_ble_eq_true rfl) (Nat.le_of_ble_eq_true rfl) (by first | (simp [is5, redV]; done) | (simp [is5, redV, *]; done) | (simp only [is5, redV]; decide +kernel))
        · skip
          by_cases e4 : w = 4
          · subst e4
            refine zv_tabIn (pc := 26) (tgt := 103) C dDu_read_26 (by decide) (by decide) rfl (by decide) ?_
            refine zv_aload_n (pc := 103) C dDu_read_103 rfl ?_
            refine zv_get (pc := 104) C dDu_read_104 fDu_29 (by first | assumption | exact zu_s | (refine (zu_n (by assumption)).trans ?_; first | assumption | exact zu_s)) rfl ?_
            refine zv_get (pc := 107) C dDu_read_107 fDu_204 (by first | assumption | exact zu_s | (refine (zu_n (by assumption)).trans ?_; first | assumption | exact zu_s)) rfl ?_
            refine zv_iload_n (pc := 110) C dDu_read_110 rfl ?_
            refine zn_iald (pc := 111) C dDu_read_111 (by first | assumption | exact zu_s | (refine (zu_n (by assumption)).trans ?_; first | assumption | exact zu_s)) (by omega) (by omega) ?_
            refine zv_i2l (pc := 112) C dDu_read_112 ?_
            exact zv_lret (pc := 113) C hr dDu_read_113 (Nat.le_of_ble_eq_true rfl) (Nat.le_of_ble_eq_true rfl) (by first | (simp [is5, redV]; done) | (simp [is5, redV, *]; done) | (simp only [is5, redV]; decide +kernel))
          · skip
            refine zv_tabOut (pc := 26) (tgt := 114) C dDu_read_26 (by have x0 : w.toInt ≠ 0 := fun h => e0 (Int32.toInt_inj.mp (h.trans (by decide))); have x1 : w.toInt ≠ 1 := fun h => e1 (Int32.toInt_inj.mp (h.trans (by decide))); have x2 : w.toInt ≠ 2 := fun h => e2 (Int32.toInt_inj.mp (h.trans (by decide))); have x3 : w.toInt ≠ 3 := fun h => e3 (Int32.toInt_inj.mp (h.trans (by decide))); have x4 : w.toInt ≠ 4 := fun h => e4 (Int32.toInt_inj.mp (h.trans (by decide))); omega) (by decide) ?_
            exact zv_throwS (pc := 114) C dDu_read_114 dDu_read_117 dDu_read_118 dDu_read_120 dDu_read_123 tDu_207_190 hex (Nat.le_of_ble_eq_true rfl) (Nat.le_of_ble_eq_true rfl) (Nat.le_of_ble_eq_true rfl) (Nat.le_of_ble_eq_true rfl) (Nat.le_of_ble_eq_true rfl) (Nat.le_of_ble_eq_true rfl) (by first | (simp [is5, redV]; done) | (simp [is5, redV, *]; done) | (simp only [is5, redV]; decide +kernel))
set_option maxHeartbeats 4000000 in
set_option maxRecDepth 100000 in
theorem cDu_readF {O : zO} {l : Launch} (hk : zK O l) (G : zG) (x w : Int32) {ad : Nat → Nat} {S : aS} (hR : zRep O G ad S) (hS : aOk S) (hx : isAccB x (nI (sn S)) = false) : zM O l yDu_read [Cond.code yDu_read bDu_read 3 (some .long)] rmDu_read [.ref (ad 0), .int x, .int w] G 1 6 (fun v G' => false = true ∧ v = some (.long 0) ∧ G' = G) (fun E G' => false = false ∧ E = "java/lang/IndexOutOfBoundsException" ∧ G' = G) := by
  refine zm_of hk (by decide) (Nat.le_of_ble_eq_true rfl) ?_
  intro p e s m below meth c C hex hr hnm
  obtain ⟨hinj, hD, hK1, ⟨fb, hF, hfb⟩, hBk, ⟨hSh, hp1, hp2⟩, hbs⟩ := id hR
  obtain ⟨ok1, ok2, ok3, ok4⟩ := id hS
  obtain ⟨hk0, hk1, hk2, hk3, hk4, hk5⟩ := id hBk
  refine zv_iload_n (pc := 0) C dDu_read_0 rfl ?_
  refine zv_if_lt (pc := 1) (tgt := 15) C dDu_read_1 (by decide) (fun c1 => ?_) (fun c1 => ?_)
  · exact zv_throwS (pc := 15) C dDu_read_15 dDu_read_18 dDu_read_19 dDu_read_21 dDu_read_24 tDu_188_190 hex (Nat.le_of_ble_eq_true rfl) (Nat.le_of_ble_eq_true rfl) (Nat.le_of_ble_eq_true rfl) (Nat.le_of_ble_eq_true rfl) (Nat.le_of_ble_eq_true rfl) (Nat.le_of_ble_eq_true rfl) (by (try simp only [zb_0, Bool.not_eq_false] at c1); simp [c1])
  · refine zv_iload_n (pc := 4) C dDu_read_4 rfl ?_
    refine zv_aload_n (pc := 5) C dDu_read_5 rfl ?_
    refine zv_get (pc := 6) C dDu_read_6 fDu_29 (by first | assumption | exact zu_s | (refine (zu_n (by assumption)).trans ?_; first | assumption | exact zu_s)) rfl ?_
    refine zv_get (pc := 9) C dDu_read_9 fDu_183 (by first | assumption | exact zu_s | (refine (zu_n (by assumption)).trans ?_; first | assumption | exact zu_s)) rfl ?_
    refine zv_icmp_lt (pc := 12) (tgt := 25) C dDu_read_12 (by decide) (fun c12 => by simp [isAccB, c1, Int32.not_le.mpr c12] at hx) (fun c12 => ?_)
    exact zv_throwS (pc := 15) C dDu_read_15 dDu_read_18 dDu_read_19 dDu_read_21 dDu_read_24 tDu_188_190 hex (Nat.le_of_ble_eq_true rfl) (Nat.le_of_ble_eq_true rfl) (Nat.le_of_ble_eq_true rfl) (Nat.le_of_ble_eq_true rfl) (Nat.le_of_ble_eq_true rfl) (Nat.le_of_ble_eq_true rfl) (by (try simp only [zb_0, Bool.not_eq_false] at c1); simp [c1])
set_option maxHeartbeats 4000000 in
set_option maxRecDepth 100000 in
theorem cDu_lookT {O : zO} {l : Launch} (hk : zK O l) (G : zG) (i : Nat) (w : Int32) {ad : Nat → Nat} {S : aS} (hR : zRep O G ad S) (hS : aOk S) (hi : i < snb S) : zM O l yDu_look [Cond.code yDu_look bDu_look 4 (some .int)] rmDu_look [.ref (ad 0), .int (nI i), .int w] G 1 6 (fun v G' => is7 w = true ∧ v = some (.int (lokV (sB S i) w)) ∧ G' = G) (fun E G' => is7 w = false ∧ E = "java/lang/IndexOutOfBoundsException" ∧ G' = G) := by
  refine zm_of hk (by decide) (Nat.le_of_ble_eq_true rfl) ?_
  intro p e s m below meth c C hex hr hnm
  obtain ⟨hinj, hD, hK1, ⟨fb, hF, hfb⟩, hBk, ⟨hSh, hp1, hp2⟩, hbs⟩ := id hR
  obtain ⟨ok1, ok2, ok3, ok4⟩ := id hS
  obtain ⟨hk0, hk1, hk2, hk3, hk4, hk5⟩ := id hBk
  obtain ⟨hb1, hb2, hb3⟩ := hbs i hi
  refine zv_aload_n (pc := 0) C dDu_look_0 rfl ?_
  refine zv_iload_n (pc := 1) C dDu_look_1 rfl ?_
  refine zv_callV (pc := 2) C dDu_look_2 (cDu_batchAtT hk _ _ hR hS hi) gDu_209 ⟨rfl, rfl, ⟨Nat.le_of_ble_eq_true rfl, Nat.le_of_ble_eq_true rfl⟩, mDu_batchAt⟩ rfl rfl (Nat.le_of_ble_eq_true rfl) (by first | assumption | exact zu_s | (refine (zu_n (by assumption)).trans ?_; first | assumption | exact zu_s)) rfl rfl ⟨Nat.le_of_ble_eq_true rfl, Nat.le_of_ble_eq_true rfl⟩ (fun _ _ h => h.elim) (fun v G' h => ?_)
  obtain ⟨rfl, rfl⟩ := h
  refine zv_astore_n (pc := 5) C dDu_look_5 (by decide) ?_
  refine zv_aload_n (pc := 6) C dDu_look_6 rfl ?_
  refine zv_ifnonnull (pc := 7) (tgt := 20) C dDu_look_7 (by decide) ?_
  refine zv_iload_n (pc := 20) C dDu_look_20 rfl ?_
  by_cases e0 : w = 0
  · subst e0
    refine zv_tabIn (pc := 21) (tgt := 64) C dDu_look_21 (by decide) (by decide) rfl (by decide) ?_
    refine zv_aload_n (pc := 64) C dDu_look_64 rfl ?_
    refine zv_get (pc := 65) C dDu_look_65 fDu_215 (by first | assumption | exact zu_s | (refine (zu_n (by assumption)).trans ?_; first | assumption | exact zu_s)) rfl ?_
    exact zv_iret (pc := 68) C hr dDu_look_68 (Nat.le_of_ble_eq_true rfl) (Nat.le_of_ble_eq_true rfl) (by first | (simp [is7, is5, lokV]; done) | (simp [is7, is5, lokV, *]; done) | (simp only [is7, is5, lokV]; decide +kernel))
  · skip
    by_cases e1 : w = 1
    · subst e1
      refine zv_tabIn (pc := 21) (tgt := 69) C dDu_look_21 (by decide) (by decide) rfl (by decide) ?_
      refine zv_aload_n (pc := 69) C dDu_look_69 rfl ?_
      refine zv_get (pc := 70) C dDu_look_70 fDu_218 (by first | assumption | exact zu_s | (refine (zu_n (by assumption)).trans ?_; first | assumption | exact zu_s)) rfl ?_
      exact zv_iret (pc := 73) C hr dDu_look_73 (Nat.le_of_ble_eq_true rfl) (Nat.le_of_ble_eq_true rfl) (by first | (simp [is7, is5, lokV]; done) | (simp [is7, is5, lokV, *]; done) | (simp only [is7, is5, lokV]; decide +kernel))
    · skip
      by_cases e2 : w = 2
      · subst e2
        refine zv_tabIn (pc := 21) (tgt := 74) C dDu_look_21 (by decide) (by decide) rfl (by decide) ?_
        refine zv_aload_n (pc := 74) C dDu_look_74 rfl ?_
        refine zv_get (pc := 75) C dDu_look_75 fDu_129 (by first | assumption | exact zu_s | (refine (zu_n (by assumption)).trans ?_; first | assumption | exact zu_s)) rfl ?_
        exact zv_iret (pc := 78) C hr dDu_look_78 (Nat.le_of_ble_eq_true rfl) (Nat.le_of_ble_eq_true rfl) (by first | (simp [is7, is5, lokV]; done) | (simp [is7, is5, lokV, *]; done) | (simp only [is7, is5, lokV]; decide +kernel))
      · skip
        by_cases e3 : w = 3
        · subst e3
          refine zv_tabIn (pc := 21) (tgt := 79) C dDu_look_21 (by decide) (by decide) rfl (by decide) ?_
          refine zv_aload_n (pc := 79) C dDu_look_79 rfl ?_
          refine zv_get (pc := 80) C dDu_look_80 fDu_132 (by first | assumption | exact zu_s | (refine (zu_n (by assumption)).trans ?_; first | assumption | exact zu_s)) rfl ?_
          exact zv_iret (pc := 83) C hr dDu_look_83 (Nat.le_of_ble_eq_true rfl) (Nat.le_of_ble_eq_true rfl) (by first | (simp [is7, is5, lokV]; done) | (simp [is7, is5, lokV, *]; done) | (simp only [is7, is5, lokV]; decide +kernel))
        · skip
          by_cases e4 : w = 4
          · subst e4
            refine zv_tabIn (pc := 21) (tgt := 84) C dDu_look_21 (by decide) (by decide) rfl (by decide) ?_
            refine zv_aload_n (pc := 84) C dDu_look_84 rfl ?_
            refine zv_get (pc := 85) C dDu_look_85 fDu_100 (by first | assumption | exact zu_s | (refine (zu_n (by assumption)).trans ?_; first | assumption | exact zu_s)) rfl ?_
            refine zv_if_eq (pc := 88) (tgt := 95) C dDu_look_88 (by decide) (fun c88 => ?_) (fun c88 => ?_)
            · refine zv_iconst (pc := 95) (v := 0) C dDu_look_95 (by decide) ?_
              exact zv_iret (pc := 96) C hr dDu_look_96 (Nat.le_of_ble_eq_true rfl) (Nat.le_of_ble_eq_true rfl) (by (try simp only [zb_0, Bool.not_eq_false] at c88); first | (simp [is7, is5, lokV, c88]; done) | (simp [is7, is5, lokV, c88, *]; done) | (simp only [is7, is5, lokV, c88]; decide +kernel))
            · refine zv_iconst (pc := 91) (v := 1) C dDu_look_91 (by decide) ?_
              refine zv_goto (pc := 92) (tgt := 96) C dDu_look_92 (by decide) ?_
              exact zv_iret (pc := 96) C hr dDu_look_96 (Nat.le_of_ble_eq_true rfl) (Nat.le_of_ble_eq_true rfl) (by (try simp only [zb_0, Bool.not_eq_false] at c88); first | (simp [is7, is5, lokV, c88]; done) | (simp [is7, is5, lokV, c88, *]; done) | (simp only [is7, is5, lokV, c88]; decide +kernel))
          · skip
            by_cases e5 : w = 5
            · subst e5
              refine zv_tabIn (pc := 21) (tgt := 97) C dDu_look_21 (by decide) (by decide) rfl (by decide) ?_
              refine zv_aload_n (pc := 97) C dDu_look_97 rfl ?_
              refine zv_get (pc := 98) C dDu_look_98 fDu_219 (by first | assumption | exact zu_s | (refine (zu_n (by assumption)).trans ?_; first | assumption | exact zu_s)) rfl ?_
              exact zv_iret (pc := 101) C hr dDu_look_101 (Nat.le_of_ble_eq_true rfl) (Nat.le_of_ble_eq_true rfl) (by first | (simp [is7, is5, lokV]; done) | (simp [is7, is5, lokV, *]; done) | (simp only [is7, is5, lokV]; decide +kernel))
            · skip
              by_cases e6 : w = 6
              · subst e6
                refine zv_tabIn (pc := 21) (tgt := 102) C dDu_look_21 (by decide) (by decide) rfl (by decide) ?_
                refine zv_aload_n (pc := 102) C dDu_look_102 rfl ?_
                refine zv_get (pc := 103) C dDu_look_103 fDu_222 (by first | assumption | exact zu_s | (refine (zu_n (by assumption)).trans ?_; first | assumption | exact zu_s)) rfl ?_
                exact zv_iret (pc := 106) C hr dDu_look_106 (Nat.le_of_ble_eq_true rfl) (Nat.le_of_ble_eq_true rfl) (by first | (simp [is7, is5, lokV]; done) | (simp [is7, is5, lokV, *]; done) | (simp only [is7, is5, lokV]; decide +kernel))
              · skip
                refine zv_tabOut (pc := 21) (tgt := 107) C dDu_look_21 (by have x0 : w.toInt ≠ 0 := fun h => e0 (Int32.toInt_inj.mp (h.trans (by decide))); have x1 : w.toInt ≠ 1 := fun h => e1 (Int32.toInt_inj.mp (h.trans (by decide))); have x2 : w.toInt ≠ 2 := fun h => e2 (Int32.toInt_inj.mp (h.trans (by decide))); have x3 : w.toInt ≠ 3 := fun h => e3 (Int32.toInt_inj.mp (h.trans (by decide))); have x4 : w.toInt ≠ 4 := fun h => e4 (Int32.toInt_inj.mp (h.trans (by decide))); have x5 : w.toInt ≠ 5 := fun h => e5 (Int32.toInt_inj.mp (h.trans (by decide))); have x6 : w.toInt ≠ 6 := fun h => e6 (Int32.toInt_inj.mp (h.trans (by decide))); omega) (by decide) ?_
                exact zv_throwS (pc := 107) C dDu_look_107 dDu_look_110 dDu_look_111 dDu_look_113 dDu_look_116 tDu_207_190 hex (Nat.le_of_ble_eq_true rfl) (Nat.le_of_ble_eq_true rfl) (Nat.le_of_ble_eq_true rfl) (Nat.le_of_ble_eq_true rfl) (Nat.le_of_ble_eq_true rfl) (Nat.le_of_ble_eq_true rfl) (by first | (simp [is7, is5, lokV]; done) | (simp [is7, is5, lokV, *]; done) | (simp only [is7, is5, lokV]; decide +kernel))
set_option maxHeartbeats 4000000 in
set_option maxRecDepth 100000 in
theorem cDu_lookF {O : zO} {l : Launch} (hk : zK O l) (G : zG) (x w : Int32) {ad : Nat → Nat} {S : aS} (hR : zRep O G ad S) (hS : aOk S) (hx : isAccB x (nI (snb S)) = false) : zM O l yDu_look [Cond.code yDu_look bDu_look 4 (some .int)] rmDu_look [.ref (ad 0), .int x, .int w] G 1 6 (fun v G' => false = true ∧ v = some (.int 0) ∧ G' = G) (fun E G' => false = false ∧ E = "java/lang/IndexOutOfBoundsException" ∧ G' = G) := by
  refine zm_of hk (by decide) (Nat.le_of_ble_eq_true rfl) ?_
  intro p e s m below meth c C hex hr hnm
  obtain ⟨hinj, hD, hK1, ⟨fb, hF, hfb⟩, hBk, ⟨hSh, hp1, hp2⟩, hbs⟩ := id hR
  obtain ⟨ok1, ok2, ok3, ok4⟩ := id hS
  obtain ⟨hk0, hk1, hk2, hk3, hk4, hk5⟩ := id hBk
  refine zv_aload_n (pc := 0) C dDu_look_0 rfl ?_
  refine zv_iload_n (pc := 1) C dDu_look_1 rfl ?_
  refine zv_callV (pc := 2) C dDu_look_2 (cDu_batchAtF hk _ _ hR hS hx) gDu_209 ⟨rfl, rfl, ⟨Nat.le_of_ble_eq_true rfl, Nat.le_of_ble_eq_true rfl⟩, mDu_batchAt⟩ rfl rfl (Nat.le_of_ble_eq_true rfl) (by first | assumption | exact zu_s | (refine (zu_n (by assumption)).trans ?_; first | assumption | exact zu_s)) rfl rfl ⟨Nat.le_of_ble_eq_true rfl, Nat.le_of_ble_eq_true rfl⟩ (fun _ _ h => h.elim) (fun v G' h => ?_)
  obtain ⟨rfl, rfl⟩ := h
  refine zv_astore_nN (pc := 5) C dDu_look_5 (by decide) ?_
  refine zv_aload_nN (pc := 6) C dDu_look_6 rfl ?_
  refine zv_ifnonnullN (pc := 7) C dDu_look_7 ?_
  exact zv_throwS (pc := 10) C dDu_look_10 dDu_look_13 dDu_look_14 dDu_look_16 dDu_look_19 tDu_213_190 hex (Nat.le_of_ble_eq_true rfl) (Nat.le_of_ble_eq_true rfl) (Nat.le_of_ble_eq_true rfl) (Nat.le_of_ble_eq_true rfl) (Nat.le_of_ble_eq_true rfl) (Nat.le_of_ble_eq_true rfl) (by simp [])
