set_option maxHeartbeats 4000000 in
set_option maxRecDepth 100000 in
theorem cDu_rowT {O : zO} {l : Launch} (hk : zK O l) (G : zG) (i : Nat) (x : Int32) (z : Int64) {ad : Nat → Nat} {S : aS} (hR : zRep O G ad S) (hS : aOk S) (hi : i < snb S) (hw : bst (sB S i) = 0) (hlt : bsz (sB S i) < 20) : zM O l yDu_row [Cond.code yDu_row bDu_row 6 (some .boolean)] rmDu_row [.ref (ad 0), .int (nI i), .int x, .long z] G 0 0 (fun v G' => (v = some (.int 0) ∧ (isAccB x (nI (sna S)) && centsB z) = false ∧ G' = G) ∨ (v = some (.int 1) ∧ (isAccB x (nI (sna S)) && centsB z) = true ∧ zTo O G G' ad S (upB S i (roB (sB S i) x z)))) zNo := by
  refine zm_of hk (by decide) (Nat.le_of_ble_eq_true rfl) ?_
  intro p e s m below meth c C hex hr hnm
  obtain ⟨hinj, hD, hK1, ⟨fb, hF, hfb⟩, hBk, ⟨hSh, hp1, hp2⟩, hbs⟩ := id hR
  obtain ⟨ok1, ok2, ok3, ok4⟩ := id hS
  obtain ⟨hb1, hb2, hb3⟩ := hbs i hi
  refine zv_aload_n (pc := 0) C dDu_row_0 rfl ?_
  refine zv_iconst (pc := 1) (v := 0) C dDu_row_1 (by decide) ?_
  refine zv_iload_n (pc := 2) C dDu_row_2 rfl ?_
  refine zv_callV (pc := 3) C dDu_row_3 (cDu_batchThatIsT hk _ _ _ hR hS hi hw) gDu_85 ⟨rfl, rfl, ⟨Nat.le_of_ble_eq_true rfl, Nat.le_of_ble_eq_true rfl⟩, mDu_batchThatIs⟩ rfl rfl (Nat.le_of_ble_eq_true rfl) (by first | assumption | exact zu_s | (refine (zu_n (by assumption)).trans ?_; first | assumption | exact zu_s)) rfl rfl ⟨Nat.le_of_ble_eq_true rfl, Nat.le_of_ble_eq_true rfl⟩ (fun _ _ h => h.elim) (fun v G' h => ?_)
  obtain ⟨rfl, rfl⟩ := h
  refine zv_astore (pc := 6) C dDu_row_6 (by decide) ?_
  refine zv_aload (pc := 8) C dDu_row_8 rfl ?_
  refine zv_ifnull (pc := 10) C dDu_row_10 ?_
  refine zv_aload_n (pc := 13) C dDu_row_13 rfl ?_
  refine zv_iload_n (pc := 14) C dDu_row_14 rfl ?_
  refine zv_callV (pc := 15) C dDu_row_15 (cDu_isAccount hk _ _ _ hD) gDu_89 ⟨rfl, rfl, ⟨Nat.le_of_ble_eq_true rfl, Nat.le_of_ble_eq_true rfl⟩, mDu_isAccount⟩ rfl rfl (Nat.le_of_ble_eq_true rfl) (by first | assumption | exact zu_s | (refine (zu_n (by assumption)).trans ?_; first | assumption | exact zu_s)) rfl rfl ⟨Nat.le_of_ble_eq_true rfl, Nat.le_of_ble_eq_true rfl⟩ (fun _ _ h => h.elim) (fun v G' h => ?_)
  obtain ⟨rfl, rfl⟩ := h
  refine zv_if_eq (pc := 18) (tgt := 28) C dDu_row_18 (by decide) (fun c18 => ?_) (fun c18 => ?_)
  · refine zv_iconst (pc := 28) (v := 0) C dDu_row_28 (by decide) ?_
    exact zv_zret (pc := 29) C hr (by first | rfl | exact zb_nar _) dDu_row_29 (Nat.le_of_ble_eq_true rfl) (Nat.le_of_ble_eq_true rfl) (by (try simp only [zb_0, Bool.not_eq_false] at c18); exact Or.inl ⟨rfl, by simp [c18], rfl⟩)
  · refine zv_lload_n (pc := 21) C dDu_row_21 rfl ?_
    refine zv_callS (pc := 22) C dDu_row_22 (cDu_canBeCents hk _ _) gDu_92 ⟨rfl, rfl, ⟨Nat.le_of_ble_eq_true rfl, Nat.le_of_ble_eq_true rfl⟩, mDu_canBeCents⟩ rfl rfl (Nat.le_of_ble_eq_true rfl) ⟨Nat.le_of_ble_eq_true rfl, Nat.le_of_ble_eq_true rfl⟩ (fun _ _ h => h.elim) (fun v G' h => ?_)
    obtain ⟨rfl, rfl⟩ := h
    refine zv_if_ne (pc := 25) (tgt := 30) C dDu_row_25 (by decide) (fun c25 => ?_) (fun c25 => ?_)
    · refine zv_aload (pc := 30) C dDu_row_30 rfl ?_
      refine zv_iload_n (pc := 32) C dDu_row_32 rfl ?_
      refine zv_lload_n (pc := 33) C dDu_row_33 rfl ?_
      refine zv_callV (pc := 34) C dDu_row_34 (cBa_take hk _ _ _ _ _ hb1 hb2 hb3 hlt) gDu_96 ⟨rfl, rfl, ⟨Nat.le_of_ble_eq_true rfl, Nat.le_of_ble_eq_true rfl⟩, mBa_take⟩ rfl rfl (Nat.le_of_ble_eq_true rfl) (by first | assumption | exact zu_s | (refine (zu_n (by assumption)).trans ?_; first | assumption | exact zu_s)) rfl rfl ⟨Nat.le_of_ble_eq_true rfl, Nat.le_of_ble_eq_true rfl⟩ (fun _ _ h => h.elim) (fun v G' h => ?_)
      obtain ⟨rfl, rfl⟩ := h
      exact zv_zret (pc := 37) C hr (by first | rfl | exact zb_nar _) dDu_row_37 (Nat.le_of_ble_eq_true rfl) (Nat.le_of_ble_eq_true rfl) (by (try simp only [zb_0, Bool.not_eq_false] at c18); (try simp only [zb_0, Bool.not_eq_false] at c25); exact Or.inr ⟨rfl, by simp [c18, c25], zTo.same (hR.batch (S' := upB S i (roB (sB S i) x z)) (i := i) (b := roB (sB S i) x z) rfl rfl rfl ((zu_n (hR.ne (by omega) (by omega) (by omega))).trans ((zu_n (hR.ne (by omega) (by omega) (by omega))).trans ((zu_n (hR.ne (by omega) (by omega) (by omega))).trans (hD)))) (hR.bkept (fun j hj => (zu_n (hR.ne (by omega) (by omega) (by omega))).trans ((zu_n (hR.ne (by omega) (by omega) (by omega))).trans (zu_n (hR.ne (by omega) (by omega) (by omega)))))) ⟨zu_s, (zu_n (hR.ne (by omega) (by omega) (by omega))).trans ((zu_n (hR.ne (by omega) (by omega) (by omega))).trans (zu_s)), (zu_n (hR.ne (by omega) (by omega) (by omega))).trans (zu_s)⟩ (fun j g1 g2 g3 g4 g5 => (zu_n (hR.ne (by omega) (by omega) (by omega))).trans ((zu_n (hR.ne (by omega) (by omega) (by omega))).trans (zu_n (hR.ne (by omega) (by omega) (by omega)))))) rfl (fun q hq => (zu_n (hq _ (by omega))).trans ((zu_n (hq _ (by omega))).trans (zu_n (hq _ (by omega)))))⟩)
    · refine zv_iconst (pc := 28) (v := 0) C dDu_row_28 (by decide) ?_
      exact zv_zret (pc := 29) C hr (by first | rfl | exact zb_nar _) dDu_row_29 (Nat.le_of_ble_eq_true rfl) (Nat.le_of_ble_eq_true rfl) (by (try simp only [zb_0, Bool.not_eq_false] at c18); (try simp only [zb_0, Bool.not_eq_false] at c25); exact Or.inl ⟨rfl, by simp [c18, c25], rfl⟩)
set_option maxHeartbeats 4000000 in
set_option maxRecDepth 100000 in
theorem cDu_rowU {O : zO} {l : Launch} (hk : zK O l) (G : zG) (i : Nat) (x : Int32) (z : Int64) {ad : Nat → Nat} {S : aS} (hR : zRep O G ad S) (hS : aOk S) (hi : i < snb S) (hw : bst (sB S i) = 0) (hlt : bsz (sB S i) = 20) : zM O l yDu_row [Cond.code yDu_row bDu_row 6 (some .boolean)] rmDu_row [.ref (ad 0), .int (nI i), .int x, .long z] G 0 0 (zPr (.int 0) G) zNo := by
  refine zm_of hk (by decide) (Nat.le_of_ble_eq_true rfl) ?_
  intro p e s m below meth c C hex hr hnm
  obtain ⟨hinj, hD, hK1, ⟨fb, hF, hfb⟩, hBk, ⟨hSh, hp1, hp2⟩, hbs⟩ := id hR
  obtain ⟨ok1, ok2, ok3, ok4⟩ := id hS
  obtain ⟨hb1, hb2, hb3⟩ := hbs i hi
  refine zv_aload_n (pc := 0) C dDu_row_0 rfl ?_
  refine zv_iconst (pc := 1) (v := 0) C dDu_row_1 (by decide) ?_
  refine zv_iload_n (pc := 2) C dDu_row_2 rfl ?_
  refine zv_callV (pc := 3) C dDu_row_3 (cDu_batchThatIsT hk _ _ _ hR hS hi hw) gDu_85 ⟨rfl, rfl, ⟨Nat.le_of_ble_eq_true rfl, Nat.le_of_ble_eq_true rfl⟩, mDu_batchThatIs⟩ rfl rfl (Nat.le_of_ble_eq_true rfl) (by first | assumption | exact zu_s | (refine (zu_n (by assumption)).trans ?_; first | assumption | exact zu_s)) rfl rfl ⟨Nat.le_of_ble_eq_true rfl, Nat.le_of_ble_eq_true rfl⟩ (fun _ _ h => h.elim) (fun v G' h => ?_)
  obtain ⟨rfl, rfl⟩ := h
  refine zv_astore (pc := 6) C dDu_row_6 (by decide) ?_
  refine zv_aload (pc := 8) C dDu_row_8 rfl ?_
  refine zv_ifnull (pc := 10) C dDu_row_10 ?_
  refine zv_aload_n (pc := 13) C dDu_row_13 rfl ?_
  refine zv_iload_n (pc := 14) C dDu_row_14 rfl ?_
  refine zv_callV (pc := 15) C dDu_row_15 (cDu_isAccount hk _ _ _ hD) gDu_89 ⟨rfl, rfl, ⟨Nat.le_of_ble_eq_true rfl, Nat.le_of_ble_eq_true rfl⟩, mDu_isAccount⟩ rfl rfl (Nat.le_of_ble_eq_true rfl) (by first | assumption | exact zu_s | (refine (zu_n (by assumption)).trans ?_; first | assumption | exact zu_s)) rfl rfl ⟨Nat.le_of_ble_eq_true rfl, Nat.le_of_ble_eq_true rfl⟩ (fun _ _ h => h.elim) (fun v G' h => ?_)
  obtain ⟨rfl, rfl⟩ := h
  refine zv_if_eq (pc := 18) (tgt := 28) C dDu_row_18 (by decide) (fun c18 => ?_) (fun c18 => ?_)
  · refine zv_iconst (pc := 28) (v := 0) C dDu_row_28 (by decide) ?_
    exact zv_zret (pc := 29) C hr (by first | rfl | exact zb_nar _) dDu_row_29 (Nat.le_of_ble_eq_true rfl) (Nat.le_of_ble_eq_true rfl) (by exact ⟨rfl, rfl⟩)
  · refine zv_lload_n (pc := 21) C dDu_row_21 rfl ?_
    refine zv_callS (pc := 22) C dDu_row_22 (cDu_canBeCents hk _ _) gDu_92 ⟨rfl, rfl, ⟨Nat.le_of_ble_eq_true rfl, Nat.le_of_ble_eq_true rfl⟩, mDu_canBeCents⟩ rfl rfl (Nat.le_of_ble_eq_true rfl) ⟨Nat.le_of_ble_eq_true rfl, Nat.le_of_ble_eq_true rfl⟩ (fun _ _ h => h.elim) (fun v G' h => ?_)
    obtain ⟨rfl, rfl⟩ := h
    refine zv_if_ne (pc := 25) (tgt := 30) C dDu_row_25 (by decide) (fun c25 => ?_) (fun c25 => ?_)
    · refine zv_aload (pc := 30) C dDu_row_30 rfl ?_
      refine zv_iload_n (pc := 32) C dDu_row_32 rfl ?_
      refine zv_lload_n (pc := 33) C dDu_row_33 rfl ?_
      refine zv_callV (pc := 34) C dDu_row_34 (cBa_takeF hk _ _ _ _ _ hb1 hb2 hb3 hlt) gDu_96 ⟨rfl, rfl, ⟨Nat.le_of_ble_eq_true rfl, Nat.le_of_ble_eq_true rfl⟩, mBa_take⟩ rfl rfl (Nat.le_of_ble_eq_true rfl) (by first | assumption | exact zu_s | (refine (zu_n (by assumption)).trans ?_; first | assumption | exact zu_s)) rfl rfl ⟨Nat.le_of_ble_eq_true rfl, Nat.le_of_ble_eq_true rfl⟩ (fun _ _ h => h.elim) (fun v G' h => ?_)
      obtain ⟨rfl, rfl⟩ := h
      exact zv_zret (pc := 37) C hr (by first | rfl | exact zb_nar _) dDu_row_37 (Nat.le_of_ble_eq_true rfl) (Nat.le_of_ble_eq_true rfl) (by exact ⟨rfl, rfl⟩)
    · refine zv_iconst (pc := 28) (v := 0) C dDu_row_28 (by decide) ?_
      exact zv_zret (pc := 29) C hr (by first | rfl | exact zb_nar _) dDu_row_29 (Nat.le_of_ble_eq_true rfl) (Nat.le_of_ble_eq_true rfl) (by exact ⟨rfl, rfl⟩)
set_option maxHeartbeats 4000000 in
set_option maxRecDepth 100000 in
theorem cDu_rowO {O : zO} {l : Launch} (hk : zK O l) (G : zG) (i : Nat) (x : Int32) (z : Int64) {ad : Nat → Nat} {S : aS} (hR : zRep O G ad S) (hS : aOk S) (hi : i < snb S) (hw : ¬ bst (sB S i) = 0) : zM O l yDu_row [Cond.code yDu_row bDu_row 6 (some .boolean)] rmDu_row [.ref (ad 0), .int (nI i), .int x, .long z] G 0 0 (zPr (.int 0) G) zNo := by
  refine zm_of hk (by decide) (Nat.le_of_ble_eq_true rfl) ?_
  intro p e s m below meth c C hex hr hnm
  obtain ⟨hinj, hD, hK1, ⟨fb, hF, hfb⟩, hBk, ⟨hSh, hp1, hp2⟩, hbs⟩ := id hR
  obtain ⟨ok1, ok2, ok3, ok4⟩ := id hS
  refine zv_aload_n (pc := 0) C dDu_row_0 rfl ?_
  refine zv_iconst (pc := 1) (v := 0) C dDu_row_1 (by decide) ?_
  refine zv_iload_n (pc := 2) C dDu_row_2 rfl ?_
  refine zv_callV (pc := 3) C dDu_row_3 (cDu_batchThatIsO hk _ _ _ hR hS hi hw) gDu_85 ⟨rfl, rfl, ⟨Nat.le_of_ble_eq_true rfl, Nat.le_of_ble_eq_true rfl⟩, mDu_batchThatIs⟩ rfl rfl (Nat.le_of_ble_eq_true rfl) (by first | assumption | exact zu_s | (refine (zu_n (by assumption)).trans ?_; first | assumption | exact zu_s)) rfl rfl ⟨Nat.le_of_ble_eq_true rfl, Nat.le_of_ble_eq_true rfl⟩ (fun _ _ h => h.elim) (fun v G' h => ?_)
  obtain ⟨rfl, rfl⟩ := h
  refine zv_astoreN (pc := 6) C dDu_row_6 (by decide) ?_
  refine zv_aloadN (pc := 8) C dDu_row_8 rfl ?_
  refine zv_ifnullN (pc := 10) (tgt := 28) C dDu_row_10 (by decide) ?_
  refine zv_iconst (pc := 28) (v := 0) C dDu_row_28 (by decide) ?_
  exact zv_zret (pc := 29) C hr (by first | rfl | exact zb_nar _) dDu_row_29 (Nat.le_of_ble_eq_true rfl) (Nat.le_of_ble_eq_true rfl) (by exact ⟨rfl, rfl⟩)
set_option maxHeartbeats 4000000 in
set_option maxRecDepth 100000 in
theorem cDu_rowF {O : zO} {l : Launch} (hk : zK O l) (G : zG) (y x : Int32) (z : Int64) {ad : Nat → Nat} {S : aS} (hR : zRep O G ad S) (hS : aOk S) (hx : isAccB y (nI (snb S)) = false) : zM O l yDu_row [Cond.code yDu_row bDu_row 6 (some .boolean)] rmDu_row [.ref (ad 0), .int y, .int x, .long z] G 0 0 (zPr (.int 0) G) zNo := by
  refine zm_of hk (by decide) (Nat.le_of_ble_eq_true rfl) ?_
  intro p e s m below meth c C hex hr hnm
  obtain ⟨hinj, hD, hK1, ⟨fb, hF, hfb⟩, hBk, ⟨hSh, hp1, hp2⟩, hbs⟩ := id hR
  obtain ⟨ok1, ok2, ok3, ok4⟩ := id hS
  refine zv_aload_n (pc := 0) C dDu_row_0 rfl ?_
  refine zv_iconst (pc := 1) (v := 0) C dDu_row_1 (by decide) ?_
  refine zv_iload_n (pc := 2) C dDu_row_2 rfl ?_
  refine zv_callV (pc := 3) C dDu_row_3 (cDu_batchThatIsF hk _ _ _ hR hS hx) gDu_85 ⟨rfl, rfl, ⟨Nat.le_of_ble_eq_true rfl, Nat.le_of_ble_eq_true rfl⟩, mDu_batchThatIs⟩ rfl rfl (Nat.le_of_ble_eq_true rfl) (by first | assumption | exact zu_s | (refine (zu_n (by assumption)).trans ?_; first | assumption | exact zu_s)) rfl rfl ⟨Nat.le_of_ble_eq_true rfl, Nat.le_of_ble_eq_true rfl⟩ (fun _ _ h => h.elim) (fun v G' h => ?_)
  obtain ⟨rfl, rfl⟩ := h
  refine zv_astoreN (pc := 6) C dDu_row_6 (by decide) ?_
  refine zv_aloadN (pc := 8) C dDu_row_8 rfl ?_
  refine zv_ifnullN (pc := 10) (tgt := 28) C dDu_row_10 (by decide) ?_
  refine zv_iconst (pc := 28) (v := 0) C dDu_row_28 (by decide) ?_
  exact zv_zret (pc := 29) C hr (by first | rfl | exact zb_nar _) dDu_row_29 (Nat.le_of_ble_eq_true rfl) (Nat.le_of_ble_eq_true rfl) (by exact ⟨rfl, rfl⟩)
/-- one more batch -/
def adB (S : aS) (b : aB) : aS := (S.1, (snb S + 1, fun j => if j = snb S then b else sB S j), S.2.2)
def adN (ad : Nat → Nat) (n x y z : Nat) : Nat → Nat := fun i => if i = 12 + 3 * n then x else if i = 13 + 3 * n then y else if i = 14 + 3 * n then z else ad i
theorem adN_old {ad : Nat → Nat} {n x y z i : Nat} (h : i < 12 + 3 * n) : adN ad n x y z i = ad i := by
  simp only [adN]; rw [if_neg (by omega), if_neg (by omega), if_neg (by omega)]
theorem adN_x {ad : Nat → Nat} {n x y z : Nat} : adN ad n x y z (12 + 3 * n) = x := by unfold adN; rw [if_pos rfl]
theorem adN_y {ad : Nat → Nat} {n x y z : Nat} : adN ad n x y z (13 + 3 * n) = y := by unfold adN; rw [if_neg (by omega), if_pos rfl]
theorem adN_z {ad : Nat → Nat} {n x y z : Nat} : adN ad n x y z (14 + 3 * n) = z := by unfold adN; rw [if_neg (by omega), if_neg (by omega), if_pos rfl]
/-- x, y, z are apart from each other and from the class's cells -/
def zApt (ad : Nat → Nat) (S : aS) (x y z : Nat) : Prop := (x ≠ y ∧ x ≠ z ∧ y ≠ z) ∧ ∀ i, i < 12 + 3 * snb S → x ≠ ad i ∧ y ≠ ad i ∧ z ≠ ad i
theorem zRep.add {O : zO} {G G' : zG} {ad : Nat → Nat} {S : aS} {x y z : Nat} {b : aB} (h : zRep O G ad S) (hA : zApt ad S x y z) {fb : Nat → Option Nat} (hfb : ∀ i, i < snb S → fb i = some (ad (12 + 3 * i)))
    (h0 : G' (ad 0) = some (oDu (ad 1) (ad 2) (ad 3) (ad 4) (nI (sna S)) (nI (snb S + 1)) (scd S) (slk S) (swr S) (snm S) (sfl S)))
    (h2 : G' (ad 2) = some (zQ O 3 100 (va_up fb (snb S) (some x)))) (hb : zBat O G' x y z b) (hk : ∀ j, j ≠ 0 → j ≠ 2 → j < 12 + 3 * snb S → G' (ad j) = G (ad j)) : zRep O G' (adN ad (snb S) x y z) (adB S b) := by
  have hO : ∀ j, j < 12 + 3 * snb S → adN ad (snb S) x y z j = ad j := fun j hj => adN_old hj
  obtain ⟨hinj, hD, hK1, -, hBk, ⟨hSh, hp1, hp2⟩, hbs⟩ := id h
  obtain ⟨⟨a1, a2, a3⟩, a4⟩ := hA
  have hnb : snb (adB S b) = snb S + 1 := rfl
  refine ⟨fun i j hi hj hij => ?_, ?_, ?_, ⟨va_up fb (snb S) (some x), ?_, fun i hi => ?_⟩, ?_, ⟨?_, ?_, ?_⟩, fun i hi => ?_⟩
  · rw [hnb] at hi hj
    by_cases g1 : i < 12 + 3 * snb S <;> by_cases g2 : j < 12 + 3 * snb S
    · rw [hO i g1, hO j g2] at hij; exact hinj i j g1 g2 hij
    · rw [hO i g1] at hij
      rcases (show j = 12 + 3 * snb S ∨ j = 13 + 3 * snb S ∨ j = 14 + 3 * snb S by omega) with rfl | rfl | rfl
      · rw [adN_x] at hij; exact absurd hij.symm (a4 i g1).1
      · rw [adN_y] at hij; exact absurd hij.symm (a4 i g1).2.1
      · rw [adN_z] at hij; exact absurd hij.symm (a4 i g1).2.2
    · rw [hO j g2] at hij
      rcases (show i = 12 + 3 * snb S ∨ i = 13 + 3 * snb S ∨ i = 14 + 3 * snb S by omega) with rfl | rfl | rfl
      · rw [adN_x] at hij; exact absurd hij (a4 j g2).1
      · rw [adN_y] at hij; exact absurd hij (a4 j g2).2.1
      · rw [adN_z] at hij; exact absurd hij (a4 j g2).2.2
    · rcases (show i = 12 + 3 * snb S ∨ i = 13 + 3 * snb S ∨ i = 14 + 3 * snb S by omega) with rfl | rfl | rfl <;> rcases (show j = 12 + 3 * snb S ∨ j = 13 + 3 * snb S ∨ j = 14 + 3 * snb S by omega) with rfl | rfl | rfl <;> simp only [adN_x, adN_y, adN_z] at hij <;> first | rfl | exact absurd hij a1 | exact absurd hij a2 | exact absurd hij a3 | exact absurd hij.symm a1 | exact absurd hij.symm a2 | exact absurd hij.symm a3
  · rw [hO 0 (by omega), hO 1 (by omega), hO 2 (by omega), hO 3 (by omega), hO 4 (by omega)]; exact h0
  · rw [hO 1 (by omega)]; exact (hk 1 (by omega) (by omega) (by omega)).trans hK1
  · rw [hO 2 (by omega)]; exact h2
  · rw [hnb] at hi
    by_cases g : i = snb S
    · subst g; rw [va_up_self, adN_x]
    · rw [va_up_ne _ _ g, hO _ (by omega)]; exact hfb i (by omega)
  · rw [hO 3 (by omega), hO 5 (by omega), hO 6 (by omega), hO 7 (by omega), hO 8 (by omega), hO 9 (by omega)]
    exact h.bkept (fun j hj => hk j (by omega) (by omega) (by omega))
  · rw [hO 4 (by omega), hO 10 (by omega), hO 11 (by omega)]; exact (hk 4 (by omega) (by omega) (by omega)).trans hSh
  · rw [hO 10 (by omega)]; exact (hk 10 (by omega) (by omega) (by omega)).trans hp1
  · rw [hO 11 (by omega)]; exact (hk 11 (by omega) (by omega) (by omega)).trans hp2
  · rw [hnb] at hi
    by_cases g : i = snb S
    · subst g
      rw [adN_x, adN_y, adN_z]
      show zBat O G' x y z (if snb S = snb S then b else sB S (snb S))
      rw [if_pos rfl]; exact hb
    · rw [hO _ (by omega), hO _ (by omega), hO _ (by omega)]
      show zBat O G' _ _ _ (if i = snb S then b else sB S i)
      rw [if_neg g]
      exact (hbs i (by omega)).kept (hk _ (by omega) (by omega) (by omega)) (hk _ (by omega) (by omega) (by omega)) (hk _ (by omega) (by omega) (by omega))
set_option maxHeartbeats 4000000 in
set_option maxRecDepth 100000 in
theorem cDu_keep {O : zO} {l : Launch} (hk : zK O l) (G : zG) (x : Nat) {y z : Nat} {b : aB} {ad : Nat → Nat} {S : aS} (hR : zRep O G ad S) (hS : aOk S) (hb : zBat O G x y z b) (hA : zApt ad S x y z) (hlt : snb S < 100) : zM O l yDu_keep [Cond.code yDu_keep bDu_keep 2 (some .int)] rmDu_keep [.ref (ad 0), .ref x] G 0 0 (fun v G' => v = some (.int (nI (snb S))) ∧ zRep O G' (adN ad (snb S) x y z) (adB S b) ∧ ∀ q, q ≠ ad 0 → q ≠ ad 2 → G' q = G q) zNo := by
  refine zm_of hk (by decide) (Nat.le_of_ble_eq_true rfl) ?_
  intro p e s m below meth c C hex hr hnm
  obtain ⟨hinj, hD, hK1, ⟨fb, hF, hfb⟩, hBk, ⟨hSh, hp1, hp2⟩, hbs⟩ := id hR
  obtain ⟨ok1, ok2, ok3, ok4⟩ := id hS
  obtain ⟨hb1, hb2, hb3⟩ := id hb
  have n02 : ad 0 ≠ ad 2 := hR.ne (by omega) (by omega) (by omega)
  have n20 := Ne.symm n02
  have x0 := (hA.2 0 (by omega)).1
  have x2 := (hA.2 2 (by omega)).1
  refine zv_aload_n (pc := 0) C dDu_keep_0 rfl ?_
  refine zv_get (pc := 1) C dDu_keep_1 fDu_19 (by first | assumption | exact zu_s | (refine (zu_n (by assumption)).trans ?_; first | assumption | exact zu_s | (refine (zu_n (by assumption)).trans ?_; first | assumption | exact zu_s | (refine (zu_n (by assumption)).trans ?_; first | assumption | exact zu_s)))) rfl ?_
  refine zv_aload_n (pc := 4) C dDu_keep_4 rfl ?_
  refine zv_get (pc := 5) C dDu_keep_5 fDu_23 (by first | assumption | exact zu_s | (refine (zu_n (by assumption)).trans ?_; first | assumption | exact zu_s | (refine (zu_n (by assumption)).trans ?_; first | assumption | exact zu_s | (refine (zu_n (by assumption)).trans ?_; first | assumption | exact zu_s)))) rfl ?_
  refine zv_aload_n (pc := 8) C dDu_keep_8 rfl ?_
  refine zn_aast (pc := 9) C dDu_keep_9 hF hb1 hlt (by omega) ?_
  refine zv_aload_n (pc := 10) C dDu_keep_10 rfl ?_
  refine zv_dup (pc := 11) C dDu_keep_11 rfl ?_
  refine zv_get (pc := 12) C dDu_keep_12 fDu_23 (by first | assumption | exact zu_s | (refine (zu_n (by assumption)).trans ?_; first | assumption | exact zu_s | (refine (zu_n (by assumption)).trans ?_; first | assumption | exact zu_s | (refine (zu_n (by assumption)).trans ?_; first | assumption | exact zu_s)))) rfl ?_
  refine zv_iconst (pc := 15) (v := 1) C dDu_keep_15 (by decide) ?_
  refine zv_iadd (pc := 16) C dDu_keep_16 ?_
  refine zv_topi (nI_1 (snb S)) ?_
  refine zv_put (pc := 17) C dDu_keep_17 fDu_23 ⟨tkDu, nmDu⟩ (by first | assumption | exact zu_s | (refine (zu_n (by assumption)).trans ?_; first | assumption | exact zu_s | (refine (zu_n (by assumption)).trans ?_; first | assumption | exact zu_s | (refine (zu_n (by assumption)).trans ?_; first | assumption | exact zu_s)))) rfl (tkDu 3 (by decide)) rfl rfl (Nat.le_of_ble_eq_true rfl) ?_
  refine zv_aload_n (pc := 20) C dDu_keep_20 rfl ?_
  refine zv_get (pc := 21) C dDu_keep_21 fDu_23 (by first | assumption | exact zu_s | (refine (zu_n (by assumption)).trans ?_; first | assumption | exact zu_s | (refine (zu_n (by assumption)).trans ?_; first | assumption | exact zu_s | (refine (zu_n (by assumption)).trans ?_; first | assumption | exact zu_s)))) rfl ?_
  refine zv_iconst (pc := 24) (v := 1) C dDu_keep_24 (by decide) ?_
  refine zv_isub (pc := 25) C dDu_keep_25 ?_
  refine zv_topi (nI_pred (snb S)) ?_
  exact zv_iret (pc := 26) C hr dDu_keep_26 (Nat.le_of_ble_eq_true rfl) (Nat.le_of_ble_eq_true rfl) (by exact ⟨rfl, hR.add hA hfb zu_s ((zu_n n20).trans zu_s) (hb.kept ((zu_n x0).trans (zu_n x2)) ((zu_n (hA.2 0 (by omega)).2.1).trans (zu_n (hA.2 2 (by omega)).2.1)) ((zu_n (hA.2 0 (by omega)).2.2).trans (zu_n (hA.2 2 (by omega)).2.2))) (fun j g1 g2 g3 => (zu_n (hR.ne g3 (by omega) g1)).trans (zu_n (hR.ne g3 (by omega) g2))), fun q g1 g2 => (zu_n g1).trans (zu_n g2)⟩)
