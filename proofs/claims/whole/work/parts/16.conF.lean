set_option maxHeartbeats 4000000 in
set_option maxRecDepth 100000 in
theorem cDu_batchAtT {O : zO} {l : Launch} (hk : zK O l) (G : zG) (i : Nat) {ad : Nat → Nat} {S : aS} (hR : zRep O G ad S) (hS : aOk S) (hi : i < snb S) : zM O l yDu_batchAt [Cond.code yDu_batchAt bDu_batchAt 2 (some (.object "DutyLedger$Batch"))] rmDu_batchAt [.ref (ad 0), .int (nI i)] G 0 0 (zPr (.ref (ad (12 + 3 * i))) G) zNo := by
  refine zm_of hk (by decide) (Nat.le_of_ble_eq_true rfl) ?_
  intro p e s m below meth c C hex hr hnm
  obtain ⟨hinj, hD, hK1, ⟨fb, hF, hfb⟩, hBk, ⟨hSh, hp1, hp2⟩, hbs⟩ := id hR
  obtain ⟨ok1, ok2, ok3, ok4⟩ := id hS
  refine zv_iload_n (pc := 0) C dDu_batchAt_0 rfl ?_
  refine zv_if_lt (pc := 1) (tgt := 21) C dDu_batchAt_1 (by decide) (fun c1 => absurd c1 (nI_pos (by omega))) (fun c1 => ?_)
  refine zv_iload_n (pc := 4) C dDu_batchAt_4 rfl ?_
  refine zv_aload_n (pc := 5) C dDu_batchAt_5 rfl ?_
  refine zv_get (pc := 6) C dDu_batchAt_6 fDu_23 (by first | assumption | exact zu_s | (refine (zu_n (by assumption)).trans ?_; first | assumption | exact zu_s)) rfl ?_
  refine zv_icmp_ge (pc := 9) (tgt := 21) C dDu_batchAt_9 (by decide) (fun c9 => absurd c9 (nI_ge hi (by omega))) (fun c9 => ?_)
  refine zv_aload_n (pc := 12) C dDu_batchAt_12 rfl ?_
  refine zv_get (pc := 13) C dDu_batchAt_13 fDu_19 (by first | assumption | exact zu_s | (refine (zu_n (by assumption)).trans ?_; first | assumption | exact zu_s)) rfl ?_
  refine zv_iload_n (pc := 16) C dDu_batchAt_16 rfl ?_
  refine zn_aald (pc := 17) C dDu_batchAt_17 hF (by omega) (by omega) ?_
  rw [hfb i hi]
  refine zv_goto (pc := 18) (tgt := 22) C dDu_batchAt_18 (by decide) ?_
  exact zv_aret (pc := 22) C hr (Or.inl ⟨_, rfl⟩) (by first | exact Or.inl rfl | exact Or.inr ⟨_, rfl⟩) dDu_batchAt_22 (Nat.le_of_ble_eq_true rfl) (Nat.le_of_ble_eq_true rfl) (by exact ⟨rfl, rfl⟩)
set_option maxHeartbeats 4000000 in
set_option maxRecDepth 100000 in
theorem cDu_batchAtF {O : zO} {l : Launch} (hk : zK O l) (G : zG) (x : Int32) {ad : Nat → Nat} {S : aS} (hR : zRep O G ad S) (hS : aOk S) (hx : isAccB x (nI (snb S)) = false) : zM O l yDu_batchAt [Cond.code yDu_batchAt bDu_batchAt 2 (some (.object "DutyLedger$Batch"))] rmDu_batchAt [.ref (ad 0), .int x] G 0 0 (zPr (.null) G) zNo := by
  refine zm_of hk (by decide) (Nat.le_of_ble_eq_true rfl) ?_
  intro p e s m below meth c C hex hr hnm
  obtain ⟨hinj, hD, hK1, ⟨fb, hF, hfb⟩, hBk, ⟨hSh, hp1, hp2⟩, hbs⟩ := id hR
  obtain ⟨ok1, ok2, ok3, ok4⟩ := id hS
  refine zv_iload_n (pc := 0) C dDu_batchAt_0 rfl ?_
  refine zv_if_lt (pc := 1) (tgt := 21) C dDu_batchAt_1 (by decide) (fun c1 => ?_) (fun c1 => ?_)
  · refine zv_null (pc := 21) C dDu_batchAt_21 ?_
    exact zv_aret (pc := 22) C hr (Or.inl ⟨_, rfl⟩) (by first | exact Or.inl rfl | exact Or.inr ⟨_, rfl⟩) dDu_batchAt_22 (Nat.le_of_ble_eq_true rfl) (Nat.le_of_ble_eq_true rfl) (by exact ⟨rfl, rfl⟩)
  · refine zv_iload_n (pc := 4) C dDu_batchAt_4 rfl ?_
    refine zv_aload_n (pc := 5) C dDu_batchAt_5 rfl ?_
    refine zv_get (pc := 6) C dDu_batchAt_6 fDu_23 (by first | assumption | exact zu_s | (refine (zu_n (by assumption)).trans ?_; first | assumption | exact zu_s)) rfl ?_
    refine zv_icmp_ge (pc := 9) (tgt := 21) C dDu_batchAt_9 (by decide) (fun c9 => ?_) (fun c9 => by simp [isAccB, c1, c9] at hx)
    refine zv_null (pc := 21) C dDu_batchAt_21 ?_
    exact zv_aret (pc := 22) C hr (Or.inl ⟨_, rfl⟩) (by first | exact Or.inl rfl | exact Or.inr ⟨_, rfl⟩) dDu_batchAt_22 (Nat.le_of_ble_eq_true rfl) (Nat.le_of_ble_eq_true rfl) (by exact ⟨rfl, rfl⟩)
set_option maxHeartbeats 4000000 in
set_option maxRecDepth 100000 in
theorem cDu_batchThatIsT {O : zO} {l : Launch} (hk : zK O l) (G : zG) (i : Nat) (w : Int32) {ad : Nat → Nat} {S : aS} (hR : zRep O G ad S) (hS : aOk S) (hi : i < snb S) (hw : bst (sB S i) = w) : zM O l yDu_batchThatIs [Cond.code yDu_batchThatIs bDu_batchThatIs 4 (some (.object "DutyLedger$Batch"))] rmDu_batchThatIs [.ref (ad 0), .int w, .int (nI i)] G 0 0 (zPr (.ref (ad (12 + 3 * i))) G) zNo := by
  refine zm_of hk (by decide) (Nat.le_of_ble_eq_true rfl) ?_
  intro p e s m below meth c C hex hr hnm
  obtain ⟨hinj, hD, hK1, ⟨fb, hF, hfb⟩, hBk, ⟨hSh, hp1, hp2⟩, hbs⟩ := id hR
  obtain ⟨ok1, ok2, ok3, ok4⟩ := id hS
  obtain ⟨hb1, hb2, hb3⟩ := hbs i hi
  refine zv_aload_n (pc := 0) C dDu_batchThatIs_0 rfl ?_
  refine zv_iload_n (pc := 1) C dDu_batchThatIs_1 rfl ?_
  refine zv_callV (pc := 2) C dDu_batchThatIs_2 (cDu_batchAtT hk _ _ hR hS hi) gDu_209 ⟨rfl, rfl, ⟨Nat.le_of_ble_eq_true rfl, Nat.le_of_ble_eq_true rfl⟩, mDu_batchAt⟩ rfl rfl (Nat.le_of_ble_eq_true rfl) (by first | assumption | exact zu_s | (refine (zu_n (by assumption)).trans ?_; first | assumption | exact zu_s)) rfl rfl ⟨Nat.le_of_ble_eq_true rfl, Nat.le_of_ble_eq_true rfl⟩ (fun _ _ h => h.elim) (fun v G' h => ?_)
  obtain ⟨rfl, rfl⟩ := h
  refine zv_astore_n (pc := 5) C dDu_batchThatIs_5 (by decide) ?_
  refine zv_aload_n (pc := 6) C dDu_batchThatIs_6 rfl ?_
  refine zv_ifnull (pc := 7) C dDu_batchThatIs_7 ?_
  refine zv_aload_n (pc := 10) C dDu_batchThatIs_10 rfl ?_
  refine zv_get (pc := 11) C dDu_batchThatIs_11 fDu_215 (by first | assumption | exact zu_s | (refine (zu_n (by assumption)).trans ?_; first | assumption | exact zu_s)) rfl ?_
  refine zv_iload_n (pc := 14) C dDu_batchThatIs_14 rfl ?_
  refine zv_icmp_ne (pc := 15) (tgt := 22) C dDu_batchThatIs_15 (by decide) (fun c15 => absurd hw c15) (fun c15 => ?_)
  refine zv_aload_n (pc := 18) C dDu_batchThatIs_18 rfl ?_
  refine zv_goto (pc := 19) (tgt := 23) C dDu_batchThatIs_19 (by decide) ?_
  exact zv_aret (pc := 23) C hr (Or.inl ⟨_, rfl⟩) (by first | exact Or.inl rfl | exact Or.inr ⟨_, rfl⟩) dDu_batchThatIs_23 (Nat.le_of_ble_eq_true rfl) (Nat.le_of_ble_eq_true rfl) (by exact ⟨rfl, rfl⟩)
set_option maxHeartbeats 4000000 in
set_option maxRecDepth 100000 in
theorem cDu_batchThatIsO {O : zO} {l : Launch} (hk : zK O l) (G : zG) (i : Nat) (w : Int32) {ad : Nat → Nat} {S : aS} (hR : zRep O G ad S) (hS : aOk S) (hi : i < snb S) (hw : ¬ bst (sB S i) = w) : zM O l yDu_batchThatIs [Cond.code yDu_batchThatIs bDu_batchThatIs 4 (some (.object "DutyLedger$Batch"))] rmDu_batchThatIs [.ref (ad 0), .int w, .int (nI i)] G 0 0 (zPr (.null) G) zNo := by
  refine zm_of hk (by decide) (Nat.le_of_ble_eq_true rfl) ?_
  intro p e s m below meth c C hex hr hnm
  obtain ⟨hinj, hD, hK1, ⟨fb, hF, hfb⟩, hBk, ⟨hSh, hp1, hp2⟩, hbs⟩ := id hR
  obtain ⟨ok1, ok2, ok3, ok4⟩ := id hS
  obtain ⟨hb1, hb2, hb3⟩ := hbs i hi
  refine zv_aload_n (pc := 0) C dDu_batchThatIs_0 rfl ?_
  refine zv_iload_n (pc := 1) C dDu_batchThatIs_1 rfl ?_
  refine zv_callV (pc := 2) C dDu_batchThatIs_2 (cDu_batchAtT hk _ _ hR hS hi) gDu_209 ⟨rfl, rfl, ⟨Nat.le_of_ble_eq_true rfl, Nat.le_of_ble_eq_true rfl⟩, mDu_batchAt⟩ rfl rfl (Nat.le_of_ble_eq_true rfl) (by first | assumption | exact zu_s | (refine (zu_n (by assumption)).trans ?_; first | assumption | exact zu_s)) rfl rfl ⟨Nat.le_of_ble_eq_true rfl, Nat.le_of_ble_eq_true rfl⟩ (fun _ _ h => h.elim) (fun v G' h => ?_)
  obtain ⟨rfl, rfl⟩ := h
  refine zv_astore_n (pc := 5) C dDu_batchThatIs_5 (by decide) ?_
  refine zv_aload_n (pc := 6) C dDu_batchThatIs_6 rfl ?_
  refine zv_ifnull (pc := 7) C dDu_batchThatIs_7 ?_
  refine zv_aload_n (pc := 10) C dDu_batchThatIs_10 rfl ?_
  refine zv_get (pc := 11) C dDu_batchThatIs_11 fDu_215 (by first | assumption | exact zu_s | (refine (zu_n (by assumption)).trans ?_; first | assumption | exact zu_s)) rfl ?_
  refine zv_iload_n (pc := 14) C dDu_batchThatIs_14 rfl ?_
  refine zv_icmp_ne (pc := 15) (tgt := 22) C dDu_batchThatIs_15 (by decide) (fun c15 => ?_) (fun c15 => absurd c15 hw)
  refine zv_null (pc := 22) C dDu_batchThatIs_22 ?_
  exact zv_aret (pc := 23) C hr (Or.inl ⟨_, rfl⟩) (by first | exact Or.inl rfl | exact Or.inr ⟨_, rfl⟩) dDu_batchThatIs_23 (Nat.le_of_ble_eq_true rfl) (Nat.le_of_ble_eq_true rfl) (by exact ⟨rfl, rfl⟩)
set_option maxHeartbeats 4000000 in
set_option maxRecDepth 100000 in
theorem cDu_batchThatIsF {O : zO} {l : Launch} (hk : zK O l) (G : zG) (x w : Int32) {ad : Nat → Nat} {S : aS} (hR : zRep O G ad S) (hS : aOk S) (hx : isAccB x (nI (snb S)) = false) : zM O l yDu_batchThatIs [Cond.code yDu_batchThatIs bDu_batchThatIs 4 (some (.object "DutyLedger$Batch"))] rmDu_batchThatIs [.ref (ad 0), .int w, .int x] G 0 0 (zPr (.null) G) zNo := by
  refine zm_of hk (by decide) (Nat.le_of_ble_eq_true rfl) ?_
  intro p e s m below meth c C hex hr hnm
  obtain ⟨hinj, hD, hK1, ⟨fb, hF, hfb⟩, hBk, ⟨hSh, hp1, hp2⟩, hbs⟩ := id hR
  obtain ⟨ok1, ok2, ok3, ok4⟩ := id hS
  refine zv_aload_n (pc := 0) C dDu_batchThatIs_0 rfl ?_
  refine zv_iload_n (pc := 1) C dDu_batchThatIs_1 rfl ?_
  refine zv_callV (pc := 2) C dDu_batchThatIs_2 (cDu_batchAtF hk _ _ hR hS hx) gDu_209 ⟨rfl, rfl, ⟨Nat.le_of_ble_eq_true rfl, Nat.le_of_ble_eq_true rfl⟩, mDu_batchAt⟩ rfl rfl (Nat.le_of_ble_eq_true rfl) (by first | assumption | exact zu_s | (refine (zu_n (by assumption)).trans ?_; first | assumption | exact zu_s)) rfl rfl ⟨Nat.le_of_ble_eq_true rfl, Nat.le_of_ble_eq_true rfl⟩ (fun _ _ h => h.elim) (fun v G' h => ?_)
  obtain ⟨rfl, rfl⟩ := h
  refine zv_astore_nN (pc := 5) C dDu_batchThatIs_5 (by decide) ?_
  refine zv_aload_nN (pc := 6) C dDu_batchThatIs_6 rfl ?_
  refine zv_ifnullN (pc := 7) (tgt := 22) C dDu_batchThatIs_7 (by decide) ?_
  refine zv_null (pc := 22) C dDu_batchThatIs_22 ?_
  exact zv_aret (pc := 23) C hr (Or.inl ⟨_, rfl⟩) (by first | exact Or.inl rfl | exact Or.inr ⟨_, rfl⟩) dDu_batchThatIs_23 (Nat.le_of_ble_eq_true rfl) (Nat.le_of_ble_eq_true rfl) (by exact ⟨rfl, rfl⟩)
