/-! changes of the state -/
/-- from S to S': the class's cells, perhaps with three more for each new batch; nothing else has changed -/
def zTo (O : zO) (G G' : zG) (ad : Nat → Nat) (S S' : aS) : Prop := ∃ ad' : Nat → Nat, zRep O G' ad' S' ∧ snb S ≤ snb S' ∧ (∀ i, i < 12 + 3 * snb S → ad' i = ad i) ∧ (∀ i, 12 + 3 * snb S ≤ i → i < 12 + 3 * snb S' → G (ad' i) = none) ∧ ∀ q e, G q = some e → (∀ i, i < 12 + 3 * snb S → q ≠ ad i) → G' q = some e
theorem zTo.same {O : zO} {G G' : zG} {ad : Nat → Nat} {S S' : aS} (h : zRep O G' ad S') (hn : snb S' = snb S) (hq : ∀ q, (∀ i, i < 12 + 3 * snb S → q ≠ ad i) → G' q = G q) : zTo O G G' ad S S' := ⟨ad, h, by omega, fun _ _ => rfl, fun i h1 h2 => by omega, fun q e h1 h2 => (hq q h2).trans h1⟩
theorem zTo.rf {O : zO} {G : zG} {ad : Nat → Nat} {S : aS} (h : zRep O G ad S) : zTo O G G ad S S := zTo.same h rfl (fun _ _ => rfl)
theorem zBk.kept {O : zO} {G G' : zG} {a0 b1 b2 b3 b4 b5 n h : Nat} {f1 f2 : Nat → Int32} {f3 : Nat → Int64} {f4 f5 : Nat → Int32} (hB : zBk O G a0 b1 b2 b3 b4 b5 n h f1 f2 f3 f4 f5) (hk : ∀ q ∈ [a0, b1, b2, b3, b4, b5], G' q = G q) : zBk O G' a0 b1 b2 b3 b4 b5 n h f1 f2 f3 f4 f5 := by
  obtain ⟨h0, h1, h2, h3, h4, h5⟩ := hB
  exact ⟨(hk _ (by simp)).trans h0, (hk _ (by simp)).trans h1, (hk _ (by simp)).trans h2, (hk _ (by simp)).trans h3, (hk _ (by simp)).trans h4, (hk _ (by simp)).trans h5⟩
theorem zBat.kept {O : zO} {G G' : zG} {x y z : Nat} {b : aB} (h : zBat O G x y z b) (h1 : G' x = G x) (h2 : G' y = G y) (h3 : G' z = G z) : zBat O G' x y z b := ⟨h1.trans h.1, h2.trans h.2.1, h3.trans h.2.2⟩
/-- root and kinds are new; all else stays -/
theorem zRep.root {O : zO} {G G' : zG} {ad : Nat → Nat} {S S' : aS} (h : zRep O G ad S) (e1 : S'.2.1 = S.2.1) (e2 : S'.2.2.1 = S.2.2.1) (e3 : S'.2.2.2.1 = S.2.2.2.1)
    (h0 : G' (ad 0) = some (oDu (ad 1) (ad 2) (ad 3) (ad 4) (nI (sna S')) (nI (snb S')) (scd S') (slk S') (swr S') (snm S') (sfl S'))) (h1 : G' (ad 1) = some (zI O 12 (skd S')))
    (hk : ∀ j, 2 ≤ j → j < 12 + 3 * snb S → G' (ad j) = G (ad j)) : zRep O G' ad S' := by
  obtain ⟨hinj, hD, hK1, ⟨fb, hF, hfb⟩, hBk, ⟨hSh, hp1, hp2⟩, hbs⟩ := h
  obtain ⟨⟨na, kd⟩, ⟨nb, B⟩, L, ⟨fp, fq⟩, rest⟩ := S
  obtain ⟨⟨na', kd'⟩, B', L', P', rest'⟩ := S'
  dsimp only at e1 e2 e3
  subst e1; subst e2; subst e3
  refine ⟨hinj, h0, h1, ⟨fb, (hk 2 (by omega) (by omega)).trans hF, hfb⟩, hBk.kept (fun q hq => ?_), ⟨(hk 4 (by omega) (by omega)).trans hSh, (hk 10 (by omega) (by omega)).trans hp1, (hk 11 (by omega) (by omega)).trans hp2⟩, fun i hi => (hbs i hi).kept (hk _ (by omega) (by first | omega | (simp only [snb] at hi ⊢; omega))) (hk _ (by omega) (by first | omega | (simp only [snb] at hi ⊢; omega))) (hk _ (by omega) (by first | omega | (simp only [snb] at hi ⊢; omega)))⟩
  simp only [List.mem_cons, List.not_mem_nil, or_false] at hq
  rcases hq with rfl | rfl | rfl | rfl | rfl | rfl
  · exact hk 3 (by omega) (by omega)
  · exact hk 5 (by omega) (by omega)
  · exact hk 6 (by omega) (by omega)
  · exact hk 7 (by omega) (by omega)
  · exact hk 8 (by omega) (by omega)
  · exact hk 9 (by omega) (by omega)
/-- .. the root alone -/
theorem zTo.root {O : zO} {G : zG} {ad : Nat → Nat} {S S' : aS} (h : zRep O G ad S) (e0 : S'.1 = S.1) (e1 : S'.2.1 = S.2.1) (e2 : S'.2.2.1 = S.2.2.1) (e3 : S'.2.2.2.1 = S.2.2.2.1) {e : va_E} (he : e = oDu (ad 1) (ad 2) (ad 3) (ad 4) (nI (sna S')) (nI (snb S')) (scd S') (slk S') (swr S') (snm S') (sfl S')) : zTo O G (zu G (ad 0) e) ad S S' := by
  subst he
  refine zTo.same (h.root e1 e2 e3 zu_s ((zu_n (h.ne (by omega) (by omega) (by omega))).trans ?_) (fun j h1 h2 => zu_n (h.ne h2 (by omega) (by omega)))) (by rw [snb, snb, e1]) (fun q hq => zu_n (hq 0 (by omega)))
  rw [h.2.2.1, skd, skd, e0]
/-- one more account -/
def acS (S : aS) (x : Int32) : aS := ((sna S + 1, upd (skd S) (sna S) x), S.2)
def clS (S : aS) (x : Int32) : aS := (S.1, S.2.1, S.2.2.1, S.2.2.2.1, (x, S.2.2.2.2.2))
theorem n12 {n : Nat} (hn : n < 2 ^ 31) (h : nI n < 12) : n < 12 := (nI_ltI (b := 12) hn (by omega)).mp h
theorem n100 {n : Nat} (hn : n < 2 ^ 31) (h : nI n < 100) : n < 100 := (nI_ltI (b := 100) hn (by omega)).mp h
set_option maxHeartbeats 4000000 in
set_option maxRecDepth 100000 in
theorem cDu_account {O : zO} {l : Launch} (hk : zK O l) (G : zG) (x : Int32) {ad : Nat → Nat} {S : aS} (hR : zRep O G ad S) (hS : aOk S) : zM O l yDu_account [Cond.code yDu_account bDu_account 2 (some .int)] rmDu_account [.ref (ad 0), .int x] G 1 6 (fun v G' => isKindB x = true ∧ sna S < 12 ∧ v = some (.int (nI (sna S))) ∧ zTo O G G' ad S (acS S x)) (fun E G' => G' = G ∧ ((isKindB x = false ∧ E = "java/lang/IllegalArgumentException") ∨ (isKindB x = true ∧ ¬ sna S < 12 ∧ E = "java/lang/IllegalStateException"))) := by
  refine zm_of hk (by decide) (Nat.le_of_ble_eq_true rfl) ?_
  intro p e s m below meth c C hex hr hnm
  obtain ⟨hinj, hD, hK1, ⟨fb, hF, hfb⟩, hBk, ⟨hSh, hp1, hp2⟩, hbs⟩ := id hR
  obtain ⟨ok1, ok2, ok3, ok4⟩ := id hS
  have n01 : ad 0 ≠ ad 1 := hR.ne (by omega) (by omega) (by omega)
  have n10 := Ne.symm n01
  refine zv_iload_n (pc := 0) C dDu_account_0 rfl ?_
  refine zv_callS (pc := 1) C dDu_account_1 (cDu_isKind hk _ _) gDu_55 ⟨rfl, rfl, ⟨Nat.le_of_ble_eq_true rfl, Nat.le_of_ble_eq_true rfl⟩, mDu_isKind⟩ rfl rfl (Nat.le_of_ble_eq_true rfl) ⟨Nat.le_of_ble_eq_true rfl, Nat.le_of_ble_eq_true rfl⟩ (fun _ _ h => h.elim) (fun v G' h => ?_)
  obtain ⟨rfl, rfl⟩ := h
  refine zv_if_ne (pc := 4) (tgt := 17) C dDu_account_4 (by decide) (fun c4 => ?_) (fun c4 => ?_)
  · refine zv_aload_n (pc := 17) C dDu_account_17 rfl ?_
    refine zv_get (pc := 18) C dDu_account_18 fDu_13 (by first | assumption | exact zu_s | (refine (zu_n (by assumption)).trans ?_; first | assumption | exact zu_s | (refine (zu_n (by assumption)).trans ?_; first | assumption | exact zu_s | (refine (zu_n (by assumption)).trans ?_; first | assumption | exact zu_s)))) rfl ?_
    refine zv_bipush (pc := 21) (v := 12) C dDu_account_21 (by decide) ?_
    refine zv_icmp_lt (pc := 23) (tgt := 36) C dDu_account_23 (by decide) (fun c23 => ?_) (fun c23 => ?_)
    · have hlt : sna S < 12 := n12 (by omega) c23
      refine zv_aload_n (pc := 36) C dDu_account_36 rfl ?_
      refine zv_get (pc := 37) C dDu_account_37 fDu_9 (by first | assumption | exact zu_s | (refine (zu_n (by assumption)).trans ?_; first | assumption | exact zu_s | (refine (zu_n (by assumption)).trans ?_; first | assumption | exact zu_s | (refine (zu_n (by assumption)).trans ?_; first | assumption | exact zu_s)))) rfl ?_
      refine zv_aload_n (pc := 40) C dDu_account_40 rfl ?_
      refine zv_get (pc := 41) C dDu_account_41 fDu_13 (by first | assumption | exact zu_s | (refine (zu_n (by assumption)).trans ?_; first | assumption | exact zu_s | (refine (zu_n (by assumption)).trans ?_; first | assumption | exact zu_s | (refine (zu_n (by assumption)).trans ?_; first | assumption | exact zu_s)))) rfl ?_
      refine zv_iload_n (pc := 44) C dDu_account_44 rfl ?_
      refine zn_iast (pc := 45) C dDu_account_45 (by first | assumption | exact zu_s | (refine (zu_n (by assumption)).trans ?_; first | assumption | exact zu_s | (refine (zu_n (by assumption)).trans ?_; first | assumption | exact zu_s | (refine (zu_n (by assumption)).trans ?_; first | assumption | exact zu_s)))) (by omega) (by omega) ?_
      refine zv_aload_n (pc := 46) C dDu_account_46 rfl ?_
      refine zv_dup (pc := 47) C dDu_account_47 rfl ?_
      refine zv_get (pc := 48) C dDu_account_48 fDu_13 (by first | assumption | exact zu_s | (refine (zu_n (by assumption)).trans ?_; first | assumption | exact zu_s | (refine (zu_n (by assumption)).trans ?_; first | assumption | exact zu_s | (refine (zu_n (by assumption)).trans ?_; first | assumption | exact zu_s)))) rfl ?_
      refine zv_iconst (pc := 51) (v := 1) C dDu_account_51 (by decide) ?_
      refine zv_iadd (pc := 52) C dDu_account_52 ?_
      refine zv_topi (nI_1 (sna S)) ?_
      refine zv_put (pc := 53) C dDu_account_53 fDu_13 ⟨tkDu, nmDu⟩ (by first | assumption | exact zu_s | (refine (zu_n (by assumption)).trans ?_; first | assumption | exact zu_s | (refine (zu_n (by assumption)).trans ?_; first | assumption | exact zu_s | (refine (zu_n (by assumption)).trans ?_; first | assumption | exact zu_s)))) rfl (tkDu 1 (by decide)) rfl rfl (Nat.le_of_ble_eq_true rfl) ?_
      refine zv_aload_n (pc := 56) C dDu_account_56 rfl ?_
      refine zv_get (pc := 57) C dDu_account_57 fDu_13 (by first | assumption | exact zu_s | (refine (zu_n (by assumption)).trans ?_; first | assumption | exact zu_s | (refine (zu_n (by assumption)).trans ?_; first | assumption | exact zu_s | (refine (zu_n (by assumption)).trans ?_; first | assumption | exact zu_s)))) rfl ?_
      refine zv_iconst (pc := 60) (v := 1) C dDu_account_60 (by decide) ?_
      refine zv_isub (pc := 61) C dDu_account_61 ?_
      refine zv_topi (nI_pred (sna S)) ?_
      exact zv_iret (pc := 62) C hr dDu_account_62 (Nat.le_of_ble_eq_true rfl) (Nat.le_of_ble_eq_true rfl) (by (try simp only [zb_0, Bool.not_eq_false] at c4); (try simp only [zb_0, Bool.not_eq_false] at c23); refine ⟨c4, hlt, rfl, zTo.same (hR.root (S' := acS S x) rfl rfl rfl zu_s ((zu_n n10).trans zu_s) (fun j h1 h2 => (zu_n (hR.ne h2 (by omega) (by omega))).trans (zu_n (hR.ne h2 (by omega) (by omega))))) rfl (fun q hq => (zu_n (hq 0 (by omega))).trans (zu_n (hq 1 (by omega))))⟩)
    · exact zv_throwS (pc := 26) C dDu_account_26 dDu_account_29 dDu_account_30 dDu_account_32 dDu_account_35 tDu_68_70 hex (Nat.le_of_ble_eq_true rfl) (Nat.le_of_ble_eq_true rfl) (Nat.le_of_ble_eq_true rfl) (Nat.le_of_ble_eq_true rfl) (Nat.le_of_ble_eq_true rfl) (Nat.le_of_ble_eq_true rfl) (by (try simp only [zb_0, Bool.not_eq_false] at c4); (try simp only [zb_0, Bool.not_eq_false] at c23); exact ⟨rfl, Or.inr ⟨c4, fun h => c23 (nI_lt (b := 12) h (by omega)), rfl⟩⟩)
  · exact zv_throwS (pc := 7) C dDu_account_7 dDu_account_10 dDu_account_11 dDu_account_13 dDu_account_16 tDu_61_63 hex (Nat.le_of_ble_eq_true rfl) (Nat.le_of_ble_eq_true rfl) (Nat.le_of_ble_eq_true rfl) (Nat.le_of_ble_eq_true rfl) (Nat.le_of_ble_eq_true rfl) (Nat.le_of_ble_eq_true rfl) (by (try simp only [zb_0, Bool.not_eq_false] at c4); exact ⟨rfl, Or.inl ⟨c4, rfl⟩⟩)
def clOk (S : aS) (x : Int32) : Bool := isDayB x && decide (scd S < x)
set_option maxHeartbeats 4000000 in
set_option maxRecDepth 100000 in
theorem cDu_close {O : zO} {l : Launch} (hk : zK O l) (G : zG) (x : Int32) {ad : Nat → Nat} {S : aS} (hR : zRep O G ad S) (hS : aOk S) : zM O l yDu_close [Cond.code yDu_close bDu_close 2 (some .boolean)] rmDu_close [.ref (ad 0), .int x] G 0 0 (fun v G' => v = some (.int (zb (clOk S x))) ∧ ((clOk S x = false ∧ G' = G) ∨ (clOk S x = true ∧ zTo O G G' ad S (clS S x)))) zNo := by
  refine zm_of hk (by decide) (Nat.le_of_ble_eq_true rfl) ?_
  intro p e s m below meth c C hex hr hnm
  obtain ⟨hinj, hD, hK1, ⟨fb, hF, hfb⟩, hBk, ⟨hSh, hp1, hp2⟩, hbs⟩ := id hR
  obtain ⟨ok1, ok2, ok3, ok4⟩ := id hS
  refine zv_iload_n (pc := 0) C dDu_close_0 rfl ?_
  refine zv_callS (pc := 1) C dDu_close_1 (cDu_isDay hk _ _) gDu_71 ⟨rfl, rfl, ⟨Nat.le_of_ble_eq_true rfl, Nat.le_of_ble_eq_true rfl⟩, mDu_isDay⟩ rfl rfl (Nat.le_of_ble_eq_true rfl) ⟨Nat.le_of_ble_eq_true rfl, Nat.le_of_ble_eq_true rfl⟩ (fun _ _ h => h.elim) (fun v G' h => ?_)
  obtain ⟨rfl, rfl⟩ := h
  refine zv_if_eq (pc := 4) (tgt := 15) C dDu_close_4 (by decide) (fun c4 => ?_) (fun c4 => ?_)
  · refine zv_iconst (pc := 15) (v := 0) C dDu_close_15 (by decide) ?_
    exact zv_zret (pc := 16) C hr (by first | rfl | exact zb_nar _) dDu_close_16 (Nat.le_of_ble_eq_true rfl) (Nat.le_of_ble_eq_true rfl) (by (try simp only [zb_0, Bool.not_eq_false] at c4); have hz : clOk S x = false := (by simp [clOk, c4]); exact ⟨by rw [hz]; rfl, Or.inl ⟨hz, rfl⟩⟩)
  · refine zv_iload_n (pc := 7) C dDu_close_7 rfl ?_
    refine zv_aload_n (pc := 8) C dDu_close_8 rfl ?_
    refine zv_get (pc := 9) C dDu_close_9 fDu_40 (by first | assumption | exact zu_s | (refine (zu_n (by assumption)).trans ?_; first | assumption | exact zu_s)) rfl ?_
    refine zv_icmp_gt (pc := 12) (tgt := 17) C dDu_close_12 (by decide) (fun c12 => ?_) (fun c12 => ?_)
    · refine zv_aload_n (pc := 17) C dDu_close_17 rfl ?_
      refine zv_iload_n (pc := 18) C dDu_close_18 rfl ?_
      refine zv_put (pc := 19) C dDu_close_19 fDu_40 ⟨tkDu, nmDu⟩ (by first | assumption | exact zu_s | (refine (zu_n (by assumption)).trans ?_; first | assumption | exact zu_s)) rfl (tkDu 6 (by decide)) (by first | rfl | assumption | exact zb_nar _) (by first | rfl | assumption | decide +kernel) (Nat.le_of_ble_eq_true rfl) ?_
      refine zv_iconst (pc := 22) (v := 1) C dDu_close_22 (by decide) ?_
      exact zv_zret (pc := 23) C hr (by first | rfl | exact zb_nar _) dDu_close_23 (Nat.le_of_ble_eq_true rfl) (Nat.le_of_ble_eq_true rfl) (by (try simp only [zb_0, Bool.not_eq_false] at c4); (try simp only [zb_0, Bool.not_eq_false] at c12); have hz : clOk S x = true := (by simp [clOk, c4, c12]); exact ⟨by rw [hz]; rfl, Or.inr ⟨hz, zTo.root (S' := clS S x) hR rfl rfl rfl rfl rfl⟩⟩)
    · refine zv_iconst (pc := 15) (v := 0) C dDu_close_15 (by decide) ?_
      exact zv_zret (pc := 16) C hr (by first | rfl | exact zb_nar _) dDu_close_16 (Nat.le_of_ble_eq_true rfl) (Nat.le_of_ble_eq_true rfl) (by (try simp only [zb_0, Bool.not_eq_false] at c4); (try simp only [zb_0, Bool.not_eq_false] at c12); have hz : clOk S x = false := (by simp [clOk, c4, c12]); exact ⟨by rw [hz]; rfl, Or.inl ⟨hz, rfl⟩⟩)
def ptS (S : aS) (k r : Nat) (x : Int32) : aS := (S.1, S.2.1, S.2.2.1, (upd (sfp S) (k * 4 + r) x, sfq S), S.2.2.2.2)
def csS (S : aS) (k : Nat) (x : Int32) : aS := (S.1, S.2.1, S.2.2.1, (sfp S, upd (sfq S) k x), S.2.2.2.2)
theorem isKindB_of {x : Int32} (h : isKindB x = true) : ∃ k : Nat, k < 6 ∧ x = nI k := isAccB_of (n := 6) (by omega) h
theorem isRecB_of {x : Int32} (h : isRecB x = true) : ∃ k : Nat, k < 4 ∧ x = nI k := isAccB_of (n := 4) (by omega) h
/-- parts or costs are new -/
theorem zRep.shares {O : zO} {G G' : zG} {ad : Nat → Nat} {S S' : aS} (h : zRep O G ad S) (e0 : S'.1 = S.1) (e1 : S'.2.1 = S.2.1) (e2 : S'.2.2.1 = S.2.2.1) (e4 : S'.2.2.2.2 = S.2.2.2.2)
    (h0 : G' (ad 10) = some (zI O 24 (sfp S'))) (h1 : G' (ad 11) = some (zI O 6 (sfq S')))
    (hk : ∀ j, j ≠ 10 → j ≠ 11 → j < 12 + 3 * snb S → G' (ad j) = G (ad j)) : zRep O G' ad S' := by
  obtain ⟨hinj, hD, hK1, ⟨fb, hF, hfb⟩, hBk, ⟨hSh, hp1, hp2⟩, hbs⟩ := h
  obtain ⟨⟨na, kd⟩, ⟨nb, B⟩, L, ⟨fp, fq⟩, rest⟩ := S
  obtain ⟨A', B', L', P', rest'⟩ := S'
  dsimp only at e0 e1 e2 e4
  subst e0; subst e1; subst e2; subst e4
  refine ⟨hinj, (hk 0 (by omega) (by omega) (by omega)).trans hD, (hk 1 (by omega) (by omega) (by omega)).trans hK1, ⟨fb, (hk 2 (by omega) (by omega) (by omega)).trans hF, hfb⟩, hBk.kept (fun q hq => ?_), ⟨(hk 4 (by omega) (by omega) (by omega)).trans hSh, h0, h1⟩, fun i hi => (hbs i hi).kept (hk _ (by omega) (by omega) (by first | omega | (simp only [snb] at hi ⊢; omega))) (hk _ (by omega) (by omega) (by first | omega | (simp only [snb] at hi ⊢; omega))) (hk _ (by omega) (by omega) (by first | omega | (simp only [snb] at hi ⊢; omega)))⟩
  simp only [List.mem_cons, List.not_mem_nil, or_false] at hq
  rcases hq with rfl | rfl | rfl | rfl | rfl | rfl
  · exact hk 3 (by omega) (by omega) (by omega)
  · exact hk 5 (by omega) (by omega) (by omega)
  · exact hk 6 (by omega) (by omega) (by omega)
  · exact hk 7 (by omega) (by omega) (by omega)
  · exact hk 8 (by omega) (by omega) (by omega)
  · exact hk 9 (by omega) (by omega) (by omega)
def ptOk (x : Int32) : Bool := !(decide (x < 0)) && decide (x ≤ 1000)
theorem isKindB_nI {k : Nat} (h : k < 6) : isKindB (nI k) = true := isAccB_nI (n := 6) h (by omega)
theorem isRecB_nI {k : Nat} (h : k < 4) : isRecB (nI k) = true := isAccB_nI (n := 4) h (by omega)
set_option maxHeartbeats 4000000 in
set_option maxRecDepth 100000 in
theorem cDu_partT {O : zO} {l : Launch} (hk : zK O l) (G : zG) (k r : Nat) (x : Int32) (hk6 : k < 6) (hr4 : r < 4) {ad : Nat → Nat} {S : aS} (hR : zRep O G ad S) (hS : aOk S) : zM O l yDu_part [Cond.code yDu_part bDu_part 4 (some .boolean)] rmDu_part [.ref (ad 0), .int (nI k), .int (nI r), .int x] G 0 0 (fun v G' => v = some (.int (zb (ptOk x))) ∧ ((ptOk x = false ∧ G' = G) ∨ (ptOk x = true ∧ zTo O G G' ad S (ptS S k r x)))) zNo := by
  refine zm_of hk (by decide) (Nat.le_of_ble_eq_true rfl) ?_
  intro p e s m below meth c C hex hr hnm
  obtain ⟨hinj, hD, hK1, ⟨fb, hF, hfb⟩, hBk, ⟨hSh, hp1, hp2⟩, hbs⟩ := id hR
  obtain ⟨ok1, ok2, ok3, ok4⟩ := id hS
  refine zv_iload_n (pc := 0) C dDu_part_0 rfl ?_
  refine zv_callS (pc := 1) C dDu_part_1 (cDu_isKind hk _ _) gDu_55 ⟨rfl, rfl, ⟨Nat.le_of_ble_eq_true rfl, Nat.le_of_ble_eq_true rfl⟩, mDu_isKind⟩ rfl rfl (Nat.le_of_ble_eq_true rfl) ⟨Nat.le_of_ble_eq_true rfl, Nat.le_of_ble_eq_true rfl⟩ (fun _ _ h => h.elim) (fun v G' h => ?_)
  obtain ⟨rfl, rfl⟩ := h
  refine zv_if_eq (pc := 4) (tgt := 25) C dDu_part_4 (by decide) (fun c4 => by simp [zb_0, isKindB_nI hk6] at c4) (fun c4 => ?_)
  refine zv_iload_n (pc := 7) C dDu_part_7 rfl ?_
  refine zv_callS (pc := 8) C dDu_part_8 (cDu_isReceiver hk _ _) gDu_154 ⟨rfl, rfl, ⟨Nat.le_of_ble_eq_true rfl, Nat.le_of_ble_eq_true rfl⟩, mDu_isReceiver⟩ rfl rfl (Nat.le_of_ble_eq_true rfl) ⟨Nat.le_of_ble_eq_true rfl, Nat.le_of_ble_eq_true rfl⟩ (fun _ _ h => h.elim) (fun v G' h => ?_)
  obtain ⟨rfl, rfl⟩ := h
  refine zv_if_eq (pc := 11) (tgt := 25) C dDu_part_11 (by decide) (fun c11 => by simp [zb_0, isRecB_nI hr4] at c11) (fun c11 => ?_)
  refine zv_iload_n (pc := 14) C dDu_part_14 rfl ?_
  refine zv_if_lt (pc := 15) (tgt := 25) C dDu_part_15 (by decide) (fun c15 => ?_) (fun c15 => ?_)
  · refine zv_iconst (pc := 25) (v := 0) C dDu_part_25 (by decide) ?_
    exact zv_zret (pc := 26) C hr (by first | rfl | exact zb_nar _) dDu_part_26 (Nat.le_of_ble_eq_true rfl) (Nat.le_of_ble_eq_true rfl) (by (try simp only [zb_0, Bool.not_eq_false] at c15); have hz : ptOk x = false := (by simp [ptOk, c15]); exact ⟨by rw [hz]; rfl, Or.inl ⟨hz, rfl⟩⟩)
  · refine zv_iload_n (pc := 18) C dDu_part_18 rfl ?_
    refine zv_sipush (pc := 19) (v := 1000) C dDu_part_19 (by decide) ?_
    refine zv_icmp_le (pc := 22) (tgt := 27) C dDu_part_22 (by decide) (fun c22 => ?_) (fun c22 => ?_)
    · refine zv_aload_n (pc := 27) C dDu_part_27 rfl ?_
      refine zv_get (pc := 28) C dDu_part_28 fDu_36 (by first | assumption | exact zu_s | (refine (zu_n (by assumption)).trans ?_; first | assumption | exact zu_s)) rfl ?_
      refine zv_iload_n (pc := 31) C dDu_part_31 rfl ?_
      refine zv_iload_n (pc := 32) C dDu_part_32 rfl ?_
      refine zv_iload_n (pc := 33) C dDu_part_33 rfl ?_
      refine zv_callV (pc := 34) C dDu_part_34 (cSh_setPart hk _ _ _ _ _ (by first | assumption | exact zu_s | (refine (zu_n (by assumption)).trans ?_; first | assumption | exact zu_s)) (by first | assumption | exact zu_s | (refine (zu_n (by assumption)).trans ?_; first | assumption | exact zu_s)) (by omega) (by omega)) gDu_157 ⟨rfl, rfl, ⟨Nat.le_of_ble_eq_true rfl, Nat.le_of_ble_eq_true rfl⟩, mSh_setPart⟩ rfl rfl (Nat.le_of_ble_eq_true rfl) (by first | assumption | exact zu_s | (refine (zu_n (by assumption)).trans ?_; first | assumption | exact zu_s)) rfl rfl ⟨Nat.le_of_ble_eq_true rfl, Nat.le_of_ble_eq_true rfl⟩ (fun _ _ h => h.elim) (fun v G' h => ?_)
      obtain ⟨rfl, rfl⟩ := h
      refine zv_iconst (pc := 37) (v := 1) C dDu_part_37 (by decide) ?_
      exact zv_zret (pc := 38) C hr (by first | rfl | exact zb_nar _) dDu_part_38 (Nat.le_of_ble_eq_true rfl) (Nat.le_of_ble_eq_true rfl) (by (try simp only [zb_0, Bool.not_eq_false] at c15); (try simp only [zb_0, Bool.not_eq_false] at c22); have hz : ptOk x = true := (by simp [ptOk, c15, c22]); exact ⟨by rw [hz]; rfl, Or.inr ⟨hz, zTo.same (hR.shares (S' := ptS S k r x) rfl rfl rfl rfl zu_s ((zu_n (hR.ne (by omega) (by omega) (by omega))).trans hp2) (fun j h1 h2 h3 => zu_n (hR.ne h3 (by omega) h1))) rfl (fun q hq => zu_n (hq 10 (by omega)))⟩⟩)
    · refine zv_iconst (pc := 25) (v := 0) C dDu_part_25 (by decide) ?_
      exact zv_zret (pc := 26) C hr (by first | rfl | exact zb_nar _) dDu_part_26 (Nat.le_of_ble_eq_true rfl) (Nat.le_of_ble_eq_true rfl) (by (try simp only [zb_0, Bool.not_eq_false] at c15); (try simp only [zb_0, Bool.not_eq_false] at c22); have hz : ptOk x = false := (by simp [ptOk, c15, c22]); exact ⟨by rw [hz]; rfl, Or.inl ⟨hz, rfl⟩⟩)
set_option maxHeartbeats 4000000 in
set_option maxRecDepth 100000 in
theorem cDu_partF {O : zO} {l : Launch} (hk : zK O l) (G : zG) (y z x : Int32) (hkr : (isKindB y && isRecB z) = false) {ad : Nat → Nat} {S : aS} (hR : zRep O G ad S) (hS : aOk S) : zM O l yDu_part [Cond.code yDu_part bDu_part 4 (some .boolean)] rmDu_part [.ref (ad 0), .int y, .int z, .int x] G 0 0 (zPr (.int 0) G) zNo := by
  refine zm_of hk (by decide) (Nat.le_of_ble_eq_true rfl) ?_
  intro p e s m below meth c C hex hr hnm
  obtain ⟨hinj, hD, hK1, ⟨fb, hF, hfb⟩, hBk, ⟨hSh, hp1, hp2⟩, hbs⟩ := id hR
  obtain ⟨ok1, ok2, ok3, ok4⟩ := id hS
  refine zv_iload_n (pc := 0) C dDu_part_0 rfl ?_
  refine zv_callS (pc := 1) C dDu_part_1 (cDu_isKind hk _ _) gDu_55 ⟨rfl, rfl, ⟨Nat.le_of_ble_eq_true rfl, Nat.le_of_ble_eq_true rfl⟩, mDu_isKind⟩ rfl rfl (Nat.le_of_ble_eq_true rfl) ⟨Nat.le_of_ble_eq_true rfl, Nat.le_of_ble_eq_true rfl⟩ (fun _ _ h => h.elim) (fun v G' h => ?_)
  obtain ⟨rfl, rfl⟩ := h
  refine zv_if_eq (pc := 4) (tgt := 25) C dDu_part_4 (by decide) (fun c4 => ?_) (fun c4 => ?_)
  · refine zv_iconst (pc := 25) (v := 0) C dDu_part_25 (by decide) ?_
    exact zv_zret (pc := 26) C hr (by first | rfl | exact zb_nar _) dDu_part_26 (Nat.le_of_ble_eq_true rfl) (Nat.le_of_ble_eq_true rfl) (by exact ⟨rfl, rfl⟩)
  · refine zv_iload_n (pc := 7) C dDu_part_7 rfl ?_
    refine zv_callS (pc := 8) C dDu_part_8 (cDu_isReceiver hk _ _) gDu_154 ⟨rfl, rfl, ⟨Nat.le_of_ble_eq_true rfl, Nat.le_of_ble_eq_true rfl⟩, mDu_isReceiver⟩ rfl rfl (Nat.le_of_ble_eq_true rfl) ⟨Nat.le_of_ble_eq_true rfl, Nat.le_of_ble_eq_true rfl⟩ (fun _ _ h => h.elim) (fun v G' h => ?_)
    obtain ⟨rfl, rfl⟩ := h
    refine zv_if_eq (pc := 11) (tgt := 25) C dDu_part_11 (by decide) (fun c11 => ?_) (fun c11 => by simp only [zb_0, Bool.not_eq_false] at c4 c11; simp [c4, c11] at hkr)
    refine zv_iconst (pc := 25) (v := 0) C dDu_part_25 (by decide) ?_
    exact zv_zret (pc := 26) C hr (by first | rfl | exact zb_nar _) dDu_part_26 (Nat.le_of_ble_eq_true rfl) (Nat.le_of_ble_eq_true rfl) (by exact ⟨rfl, rfl⟩)
set_option maxHeartbeats 4000000 in
set_option maxRecDepth 100000 in
theorem cDu_costT {O : zO} {l : Launch} (hk : zK O l) (G : zG) (k : Nat) (x : Int32) (hk6 : k < 6) {ad : Nat → Nat} {S : aS} (hR : zRep O G ad S) (hS : aOk S) : zM O l yDu_cost [Cond.code yDu_cost bDu_cost 3 (some .boolean)] rmDu_cost [.ref (ad 0), .int (nI k), .int x] G 0 0 (fun v G' => v = some (.int (zb (ptOk x))) ∧ ((ptOk x = false ∧ G' = G) ∨ (ptOk x = true ∧ zTo O G G' ad S (csS S k x)))) zNo := by
  refine zm_of hk (by decide) (Nat.le_of_ble_eq_true rfl) ?_
  intro p e s m below meth c C hex hr hnm
  obtain ⟨hinj, hD, hK1, ⟨fb, hF, hfb⟩, hBk, ⟨hSh, hp1, hp2⟩, hbs⟩ := id hR
  obtain ⟨ok1, ok2, ok3, ok4⟩ := id hS
  refine zv_iload_n (pc := 0) C dDu_cost_0 rfl ?_
  refine zv_callS (pc := 1) C dDu_cost_1 (cDu_isKind hk _ _) gDu_55 ⟨rfl, rfl, ⟨Nat.le_of_ble_eq_true rfl, Nat.le_of_ble_eq_true rfl⟩, mDu_isKind⟩ rfl rfl (Nat.le_of_ble_eq_true rfl) ⟨Nat.le_of_ble_eq_true rfl, Nat.le_of_ble_eq_true rfl⟩ (fun _ _ h => h.elim) (fun v G' h => ?_)
  obtain ⟨rfl, rfl⟩ := h
  refine zv_if_eq (pc := 4) (tgt := 18) C dDu_cost_4 (by decide) (fun c4 => by simp [zb_0, isKindB_nI hk6] at c4) (fun c4 => ?_)
  refine zv_iload_n (pc := 7) C dDu_cost_7 rfl ?_
  refine zv_if_lt (pc := 8) (tgt := 18) C dDu_cost_8 (by decide) (fun c8 => ?_) (fun c8 => ?_)
  · refine zv_iconst (pc := 18) (v := 0) C dDu_cost_18 (by decide) ?_
    exact zv_zret (pc := 19) C hr (by first | rfl | exact zb_nar _) dDu_cost_19 (Nat.le_of_ble_eq_true rfl) (Nat.le_of_ble_eq_true rfl) (by (try simp only [zb_0, Bool.not_eq_false] at c8); have hz : ptOk x = false := (by simp [ptOk, c8]); exact ⟨by rw [hz]; rfl, Or.inl ⟨hz, rfl⟩⟩)
  · refine zv_iload_n (pc := 11) C dDu_cost_11 rfl ?_
    refine zv_sipush (pc := 12) (v := 1000) C dDu_cost_12 (by decide) ?_
    refine zv_icmp_le (pc := 15) (tgt := 20) C dDu_cost_15 (by decide) (fun c15 => ?_) (fun c15 => ?_)
    · refine zv_aload_n (pc := 20) C dDu_cost_20 rfl ?_
      refine zv_get (pc := 21) C dDu_cost_21 fDu_36 (by first | assumption | exact zu_s | (refine (zu_n (by assumption)).trans ?_; first | assumption | exact zu_s)) rfl ?_
      refine zv_iload_n (pc := 24) C dDu_cost_24 rfl ?_
      refine zv_iload_n (pc := 25) C dDu_cost_25 rfl ?_
      refine zv_callV (pc := 26) C dDu_cost_26 (cSh_setCost hk _ _ _ _ (by first | assumption | exact zu_s | (refine (zu_n (by assumption)).trans ?_; first | assumption | exact zu_s)) (by first | assumption | exact zu_s | (refine (zu_n (by assumption)).trans ?_; first | assumption | exact zu_s)) (by omega)) gDu_160 ⟨rfl, rfl, ⟨Nat.le_of_ble_eq_true rfl, Nat.le_of_ble_eq_true rfl⟩, mSh_setCost⟩ rfl rfl (Nat.le_of_ble_eq_true rfl) (by first | assumption | exact zu_s | (refine (zu_n (by assumption)).trans ?_; first | assumption | exact zu_s)) rfl rfl ⟨Nat.le_of_ble_eq_true rfl, Nat.le_of_ble_eq_true rfl⟩ (fun _ _ h => h.elim) (fun v G' h => ?_)
      obtain ⟨rfl, rfl⟩ := h
      refine zv_iconst (pc := 29) (v := 1) C dDu_cost_29 (by decide) ?_
      exact zv_zret (pc := 30) C hr (by first | rfl | exact zb_nar _) dDu_cost_30 (Nat.le_of_ble_eq_true rfl) (Nat.le_of_ble_eq_true rfl) (by (try simp only [zb_0, Bool.not_eq_false] at c8); (try simp only [zb_0, Bool.not_eq_false] at c15); have hz : ptOk x = true := (by simp [ptOk, c8, c15]); exact ⟨by rw [hz]; rfl, Or.inr ⟨hz, zTo.same (hR.shares (S' := csS S k x) rfl rfl rfl rfl ((zu_n (hR.ne (by omega) (by omega) (by omega))).trans hp1) zu_s (fun j h1 h2 h3 => zu_n (hR.ne h3 (by omega) h2))) rfl (fun q hq => zu_n (hq 11 (by omega)))⟩⟩)
    · refine zv_iconst (pc := 18) (v := 0) C dDu_cost_18 (by decide) ?_
      exact zv_zret (pc := 19) C hr (by first | rfl | exact zb_nar _) dDu_cost_19 (Nat.le_of_ble_eq_true rfl) (Nat.le_of_ble_eq_true rfl) (by (try simp only [zb_0, Bool.not_eq_false] at c8); (try simp only [zb_0, Bool.not_eq_false] at c15); have hz : ptOk x = false := (by simp [ptOk, c8, c15]); exact ⟨by rw [hz]; rfl, Or.inl ⟨hz, rfl⟩⟩)
set_option maxHeartbeats 4000000 in
set_option maxRecDepth 100000 in
theorem cDu_costF {O : zO} {l : Launch} (hk : zK O l) (G : zG) (y x : Int32) (hkr : isKindB y = false) {ad : Nat → Nat} {S : aS} (hR : zRep O G ad S) (hS : aOk S) : zM O l yDu_cost [Cond.code yDu_cost bDu_cost 3 (some .boolean)] rmDu_cost [.ref (ad 0), .int y, .int x] G 0 0 (zPr (.int 0) G) zNo := by
  refine zm_of hk (by decide) (Nat.le_of_ble_eq_true rfl) ?_
  intro p e s m below meth c C hex hr hnm
  obtain ⟨hinj, hD, hK1, ⟨fb, hF, hfb⟩, hBk, ⟨hSh, hp1, hp2⟩, hbs⟩ := id hR
  obtain ⟨ok1, ok2, ok3, ok4⟩ := id hS
  refine zv_iload_n (pc := 0) C dDu_cost_0 rfl ?_
  refine zv_callS (pc := 1) C dDu_cost_1 (cDu_isKind hk _ _) gDu_55 ⟨rfl, rfl, ⟨Nat.le_of_ble_eq_true rfl, Nat.le_of_ble_eq_true rfl⟩, mDu_isKind⟩ rfl rfl (Nat.le_of_ble_eq_true rfl) ⟨Nat.le_of_ble_eq_true rfl, Nat.le_of_ble_eq_true rfl⟩ (fun _ _ h => h.elim) (fun v G' h => ?_)
  obtain ⟨rfl, rfl⟩ := h
  refine zv_if_eq (pc := 4) (tgt := 18) C dDu_cost_4 (by decide) (fun c4 => ?_) (fun c4 => by simp [zb_n0, hkr] at c4)
  refine zv_iconst (pc := 18) (v := 0) C dDu_cost_18 (by decide) ?_
  exact zv_zret (pc := 19) C hr (by first | rfl | exact zb_nar _) dDu_cost_19 (Nat.le_of_ble_eq_true rfl) (Nat.le_of_ble_eq_true rfl) (by exact ⟨rfl, rfl⟩)
