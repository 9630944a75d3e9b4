def pasOk (w d : Int32) : Bool := !(decide (w < 0)) && !(decide (6 < w)) && isDayB d
def pasC (S : aS) (k : Nat) (d : Int32) : Int64 := colS S (nI k) d * (sfq S k).toInt64 / 1000
def pasV (S : aS) (k : Nat) (w d : Int32) : Int64 := if w = 4 then pasC S k d else if w = 5 then colS S (nI k) d - shA (sfp S) k (colS S (nI k) d - pasC S k d) 4 else if w = 6 then colS S (nI k) d else shr (sfp S) k w.toNatClampNeg (colS S (nI k) d - pasC S k d)
theorem w4_of {w : Int32} (h0 : ¬ w < 0) (h6 : ¬ 6 < w) (e4 : ¬ w = 4) (e5 : ¬ w = 5) (e6 : ¬ w = 6) : ∃ r : Nat, r < 4 ∧ w = nI r := by
  obtain ⟨j, hj, rfl⟩ := nI_of2 (M := 6) (n := 6) (by decide) h0 (Int32.not_lt.mp h6)
  have a4 : j ≠ 4 := fun h => e4 (by rw [h]; rfl)
  have a5 : j ≠ 5 := fun h => e5 (by rw [h]; rfl)
  have a6 : j ≠ 6 := fun h => e6 (by rw [h]; rfl)
  exact ⟨j, by omega, rfl⟩
set_option maxHeartbeats 4000000 in
set_option maxRecDepth 100000 in
theorem cDu_passedT {O : zO} {l : Launch} (hk : zK O l) (G : zG) (k : Nat) (w d : Int32) (hk6 : k < 6) {ad : Nat → Nat} {S : aS} (hR : zRep O G ad S) (hS : aOk S) : zM O l yDu_passed [Cond.code yDu_passed bDu_passed 8 (some .long)] rmDu_passed [.ref (ad 0), .int (nI k), .int w, .int d] G 1 6 (fun v G' => pasOk w d = true ∧ v = some (.long (pasV S k w d)) ∧ G' = G) (fun E G' => pasOk w d = false ∧ E = "java/lang/IllegalArgumentException" ∧ G' = G) := by
  refine zm_of hk (by decide) (Nat.le_of_ble_eq_true rfl) ?_
  intro p e s m below meth c C hex hr hnm
  obtain ⟨hinj, hD, hK1, ⟨fb, hF, hfb⟩, hBk, ⟨hSh, hp1, hp2⟩, hbs⟩ := id hR
  obtain ⟨ok1, ok2, ok3, ok4⟩ := id hS
  obtain ⟨hk0, hk1, hk2, hk3, hk4, hk5⟩ := id hBk
  refine zv_iload_n (pc := 0) C dDu_passed_0 rfl ?_
  refine zv_callS (pc := 1) C dDu_passed_1 (cDu_isKind hk _ _) gDu_55 ⟨rfl, rfl, ⟨Nat.le_of_ble_eq_true rfl, Nat.le_of_ble_eq_true rfl⟩, mDu_isKind⟩ rfl rfl (Nat.le_of_ble_eq_true rfl) ⟨Nat.le_of_ble_eq_true rfl, Nat.le_of_ble_eq_true rfl⟩ (fun _ _ h => h.elim) (fun v G' h => ?_)
  obtain ⟨rfl, rfl⟩ := h
  refine zv_if_eq (pc := 4) (tgt := 24) C dDu_passed_4 (by decide) (fun c4 => by simp [zb_0, isKindB_nI hk6] at c4) (fun c4 => ?_)
  refine zv_iload_n (pc := 7) C dDu_passed_7 rfl ?_
  refine zv_if_lt (pc := 8) (tgt := 24) C dDu_passed_8 (by decide) (fun c8 => ?_) (fun c8 => ?_)
  · exact zv_throwS (pc := 24) C dDu_passed_24 dDu_passed_27 dDu_passed_28 dDu_passed_30 dDu_passed_33 tDu_164_63 hex (Nat.le_of_ble_eq_true rfl) (Nat.le_of_ble_eq_true rfl) (Nat.le_of_ble_eq_true rfl) (Nat.le_of_ble_eq_true rfl) (Nat.le_of_ble_eq_true rfl) (Nat.le_of_ble_eq_true rfl) (by (try simp only [zb_0, Bool.not_eq_false] at c8); exact ⟨by simp [pasOk, c8], rfl, rfl⟩)
  · refine zv_iload_n (pc := 11) C dDu_passed_11 rfl ?_
    refine zv_bipush (pc := 12) (v := 6) C dDu_passed_12 (by decide) ?_
    refine zv_icmp_gt (pc := 14) (tgt := 24) C dDu_passed_14 (by decide) (fun c14 => ?_) (fun c14 => ?_)
    · exact zv_throwS (pc := 24) C dDu_passed_24 dDu_passed_27 dDu_passed_28 dDu_passed_30 dDu_passed_33 tDu_164_63 hex (Nat.le_of_ble_eq_true rfl) (Nat.le_of_ble_eq_true rfl) (Nat.le_of_ble_eq_true rfl) (Nat.le_of_ble_eq_true rfl) (Nat.le_of_ble_eq_true rfl) (Nat.le_of_ble_eq_true rfl) (by (try simp only [zb_0, Bool.not_eq_false] at c8); (try simp only [zb_0, Bool.not_eq_false] at c14); exact ⟨by simp [pasOk, c8, c14], rfl, rfl⟩)
    · refine zv_iload_n (pc := 17) C dDu_passed_17 rfl ?_
      refine zv_callS (pc := 18) C dDu_passed_18 (cDu_isDay hk _ _) gDu_71 ⟨rfl, rfl, ⟨Nat.le_of_ble_eq_true rfl, Nat.le_of_ble_eq_true rfl⟩, mDu_isDay⟩ rfl rfl (Nat.le_of_ble_eq_true rfl) ⟨Nat.le_of_ble_eq_true rfl, Nat.le_of_ble_eq_true rfl⟩ (fun _ _ h => h.elim) (fun v G' h => ?_)
      obtain ⟨rfl, rfl⟩ := h
      refine zv_if_ne (pc := 21) (tgt := 34) C dDu_passed_21 (by decide) (fun c21 => ?_) (fun c21 => ?_)
      · refine zv_aload_n (pc := 34) C dDu_passed_34 rfl ?_
        refine zv_iload_n (pc := 35) C dDu_passed_35 rfl ?_
        refine zv_iload_n (pc := 36) C dDu_passed_36 rfl ?_
        refine zv_callV (pc := 37) C dDu_passed_37 (cDu_collectedOf hk _ _ _ hR hS) gDu_166 ⟨rfl, rfl, ⟨Nat.le_of_ble_eq_true rfl, Nat.le_of_ble_eq_true rfl⟩, mDu_collectedOf⟩ rfl rfl (Nat.le_of_ble_eq_true rfl) (by first | assumption | exact zu_s | (refine (zu_n (by assumption)).trans ?_; first | assumption | exact zu_s)) rfl rfl ⟨Nat.le_of_ble_eq_true rfl, Nat.le_of_ble_eq_true rfl⟩ (fun _ _ h => h.elim) (fun v G' h => ?_)
        obtain ⟨rfl, rfl⟩ := h
        refine zv_lstore (pc := 40) C dDu_passed_40 (by decide) ?_
        refine zv_aload_n (pc := 42) C dDu_passed_42 rfl ?_
        refine zv_get (pc := 43) C dDu_passed_43 fDu_36 (by first | assumption | exact zu_s | (refine (zu_n (by assumption)).trans ?_; first | assumption | exact zu_s)) rfl ?_
        refine zv_iload_n (pc := 46) C dDu_passed_46 rfl ?_
        refine zv_lload (pc := 47) C dDu_passed_47 rfl ?_
        refine zv_callV (pc := 49) C dDu_passed_49 (cSh_costOf hk _ _ _ _ (by first | assumption | exact zu_s | (refine (zu_n (by assumption)).trans ?_; first | assumption | exact zu_s)) (by first | assumption | exact zu_s | (refine (zu_n (by assumption)).trans ?_; first | assumption | exact zu_s)) (by omega)) gDu_170 ⟨rfl, rfl, ⟨Nat.le_of_ble_eq_true rfl, Nat.le_of_ble_eq_true rfl⟩, mSh_costOf⟩ rfl rfl (Nat.le_of_ble_eq_true rfl) (by first | assumption | exact zu_s | (refine (zu_n (by assumption)).trans ?_; first | assumption | exact zu_s)) rfl rfl ⟨Nat.le_of_ble_eq_true rfl, Nat.le_of_ble_eq_true rfl⟩ (fun _ _ h => h.elim) (fun v G' h => ?_)
        obtain ⟨rfl, rfl⟩ := h
        refine zv_lstore (pc := 52) C dDu_passed_52 (by decide) ?_
        refine zv_iload_n (pc := 54) C dDu_passed_54 rfl ?_
        by_cases e4 : w = 4
        · subst e4
          refine zv_tabIn (pc := 55) (tgt := 80) C dDu_passed_55 (by decide) (by decide) rfl (by decide) ?_
          refine zv_lload (pc := 80) C dDu_passed_80 rfl ?_
          exact zv_lret (pc := 82) C hr dDu_passed_82 (Nat.le_of_ble_eq_true rfl) (Nat.le_of_ble_eq_true rfl) (by (try simp only [zb_0, Bool.not_eq_false] at c8); (try simp only [zb_0, Bool.not_eq_false] at c14); (try simp only [zb_0, Bool.not_eq_false] at c21); refine ⟨by simp [pasOk, c8, c14, c21], ?_, rfl⟩; first | rfl | simp [pasV, pasC])
        · skip
          by_cases e5 : w = 5
          · subst e5
            refine zv_tabIn (pc := 55) (tgt := 83) C dDu_passed_55 (by decide) (by decide) rfl (by decide) ?_
            refine zv_lload (pc := 83) C dDu_passed_83 rfl ?_
            refine zv_aload_n (pc := 85) C dDu_passed_85 rfl ?_
            refine zv_get (pc := 86) C dDu_passed_86 fDu_36 (by first | assumption | exact zu_s | (refine (zu_n (by assumption)).trans ?_; first | assumption | exact zu_s)) rfl ?_
            refine zv_iload_n (pc := 89) C dDu_passed_89 rfl ?_
            refine zv_lload (pc := 90) C dDu_passed_90 rfl ?_
            refine zv_lload (pc := 92) C dDu_passed_92 rfl ?_
            refine zv_lsub (pc := 94) C dDu_passed_94 ?_
            refine zv_callV (pc := 95) C dDu_passed_95 (cSh_allShares hk _ _ _ _ (by first | assumption | exact zu_s | (refine (zu_n (by assumption)).trans ?_; first | assumption | exact zu_s)) (by first | assumption | exact zu_s | (refine (zu_n (by assumption)).trans ?_; first | assumption | exact zu_s)) (by omega)) gDu_174 ⟨rfl, rfl, ⟨Nat.le_of_ble_eq_true rfl, Nat.le_of_ble_eq_true rfl⟩, mSh_allShares⟩ rfl rfl (Nat.le_of_ble_eq_true rfl) (by first | assumption | exact zu_s | (refine (zu_n (by assumption)).trans ?_; first | assumption | exact zu_s)) rfl rfl ⟨Nat.le_of_ble_eq_true rfl, Nat.le_of_ble_eq_true rfl⟩ (fun _ _ h => h.elim) (fun v G' h => ?_)
            obtain ⟨rfl, rfl⟩ := h
            refine zv_lsub (pc := 98) C dDu_passed_98 ?_
            exact zv_lret (pc := 99) C hr dDu_passed_99 (Nat.le_of_ble_eq_true rfl) (Nat.le_of_ble_eq_true rfl) (by (try simp only [zb_0, Bool.not_eq_false] at c8); (try simp only [zb_0, Bool.not_eq_false] at c14); (try simp only [zb_0, Bool.not_eq_false] at c21); refine ⟨by simp [pasOk, c8, c14, c21], ?_, rfl⟩; first | rfl | simp [pasV, pasC])
          · skip
            by_cases e6 : w = 6
            · subst e6
              refine zv_tabIn (pc := 55) (tgt := 100) C dDu_passed_55 (by decide) (by decide) rfl (by decide) ?_
              refine zv_lload (pc := 100) C dDu_passed_100 rfl ?_
              exact zv_lret (pc := 102) C hr dDu_passed_102 (Nat.le_of_ble_eq_true rfl) (Nat.le_of_ble_eq_true rfl) (by (try simp only [zb_0, Bool.not_eq_false] at c8); (try simp only [zb_0, Bool.not_eq_false] at c14); (try simp only [zb_0, Bool.not_eq_false] at c21); refine ⟨by simp [pasOk, c8, c14, c21], ?_, rfl⟩; first | rfl | simp [pasV, pasC])
            · skip
              refine zv_tabOut (pc := 55) (tgt := 103) C dDu_passed_55 (by have x4 : w.toInt ≠ 4 := fun h => e4 (Int32.toInt_inj.mp (h.trans (by decide))); have x5 : w.toInt ≠ 5 := fun h => e5 (Int32.toInt_inj.mp (h.trans (by decide))); have x6 : w.toInt ≠ 6 := fun h => e6 (Int32.toInt_inj.mp (h.trans (by decide))); omega) (by decide) ?_
              obtain ⟨r, hr4, rfl⟩ : ∃ r : Nat, r < 4 ∧ w = nI r := w4_of c8 c14 e4 e5 e6
              refine zv_aload_n (pc := 103) C dDu_passed_103 rfl ?_
              refine zv_get (pc := 104) C dDu_passed_104 fDu_36 (by first | assumption | exact zu_s | (refine (zu_n (by assumption)).trans ?_; first | assumption | exact zu_s)) rfl ?_
              refine zv_iload_n (pc := 107) C dDu_passed_107 rfl ?_
              refine zv_iload_n (pc := 108) C dDu_passed_108 rfl ?_
              refine zv_lload (pc := 109) C dDu_passed_109 rfl ?_
              refine zv_lload (pc := 111) C dDu_passed_111 rfl ?_
              refine zv_lsub (pc := 113) C dDu_passed_113 ?_
              refine zv_callV (pc := 114) C dDu_passed_114 (cSh_shareOf hk _ _ _ _ _ (by first | assumption | exact zu_s | (refine (zu_n (by assumption)).trans ?_; first | assumption | exact zu_s)) (by first | assumption | exact zu_s | (refine (zu_n (by assumption)).trans ?_; first | assumption | exact zu_s)) (by omega) (by omega)) gDu_177 ⟨rfl, rfl, ⟨Nat.le_of_ble_eq_true rfl, Nat.le_of_ble_eq_true rfl⟩, mSh_shareOf⟩ rfl rfl (Nat.le_of_ble_eq_true rfl) (by first | assumption | exact zu_s | (refine (zu_n (by assumption)).trans ?_; first | assumption | exact zu_s)) rfl rfl ⟨Nat.le_of_ble_eq_true rfl, Nat.le_of_ble_eq_true rfl⟩ (fun _ _ h => h.elim) (fun v G' h => ?_)
              obtain ⟨rfl, rfl⟩ := h
              exact zv_lret (pc := 117) C hr dDu_passed_117 (Nat.le_of_ble_eq_true rfl) (Nat.le_of_ble_eq_true rfl) (by (try simp only [zb_0, Bool.not_eq_false] at c8); (try simp only [zb_0, Bool.not_eq_false] at c14); (try simp only [zb_0, Bool.not_eq_false] at c21); refine ⟨by simp [pasOk, c8, c14, c21], ?_, rfl⟩; rw [pasV, if_neg e4, if_neg e5, if_neg e6, nI_clamp (by omega)]; rfl)
      · exact zv_throwS (pc := 24) C dDu_passed_24 dDu_passed_27 dDu_passed_28 dDu_passed_30 dDu_passed_33 tDu_164_63 hex (Nat.le_of_ble_eq_true rfl) (Nat.le_of_ble_eq_true rfl) (Nat.le_of_ble_eq_true rfl) (Nat.le_of_ble_eq_true rfl) (Nat.le_of_ble_eq_true rfl) (Nat.le_of_ble_eq_true rfl) (by (try simp only [zb_0, Bool.not_eq_false] at c8); (try simp only [zb_0, Bool.not_eq_false] at c14); (try simp only [zb_0, Bool.not_eq_false] at c21); exact ⟨by simp [pasOk, c8, c14, c21], rfl, rfl⟩)
set_option maxHeartbeats 4000000 in
set_option maxRecDepth 100000 in
theorem cDu_passedF {O : zO} {l : Launch} (hk : zK O l) (G : zG) (y w d : Int32) (hkr : isKindB y = false) {ad : Nat → Nat} {S : aS} (hR : zRep O G ad S) (hS : aOk S) : zM O l yDu_passed [Cond.code yDu_passed bDu_passed 8 (some .long)] rmDu_passed [.ref (ad 0), .int y, .int w, .int d] G 1 6 (fun v G' => False) (fun E G' => E = "java/lang/IllegalArgumentException" ∧ G' = G) := by
  refine zm_of hk (by decide) (Nat.le_of_ble_eq_true rfl) ?_
  intro p e s m below meth c C hex hr hnm
  obtain ⟨hinj, hD, hK1, ⟨fb, hF, hfb⟩, hBk, ⟨hSh, hp1, hp2⟩, hbs⟩ := id hR
  obtain ⟨ok1, ok2, ok3, ok4⟩ := id hS
  obtain ⟨hk0, hk1, hk2, hk3, hk4, hk5⟩ := id hBk
  refine zv_iload_n (pc := 0) C dDu_passed_0 rfl ?_
  refine zv_callS (pc := 1) C dDu_passed_1 (cDu_isKind hk _ _) gDu_55 ⟨rfl, rfl, ⟨Nat.le_of_ble_eq_true rfl, Nat.le_of_ble_eq_true rfl⟩, mDu_isKind⟩ rfl rfl (Nat.le_of_ble_eq_true rfl) ⟨Nat.le_of_ble_eq_true rfl, Nat.le_of_ble_eq_true rfl⟩ (fun _ _ h => h.elim) (fun v G' h => ?_)
  obtain ⟨rfl, rfl⟩ := h
  refine zv_if_eq (pc := 4) (tgt := 24) C dDu_passed_4 (by decide) (fun c4 => ?_) (fun c4 => by simp [zb_0, hkr] at c4)
  exact zv_throwS (pc := 24) C dDu_passed_24 dDu_passed_27 dDu_passed_28 dDu_passed_30 dDu_passed_33 tDu_164_63 hex (Nat.le_of_ble_eq_true rfl) (Nat.le_of_ble_eq_true rfl) (Nat.le_of_ble_eq_true rfl) (Nat.le_of_ble_eq_true rfl) (Nat.le_of_ble_eq_true rfl) (Nat.le_of_ble_eq_true rfl) (by exact ⟨rfl, rfl⟩)
/-- the batch i is b now -/
def upB (S : aS) (i : Nat) (b : aB) : aS := (S.1, (snb S, fun j => if j = i then b else sB S j), S.2.2)
/-- a batch's cells are new (and root's ints, and the book's cells) -/
theorem zRep.batch {O : zO} {G G' : zG} {ad : Nat → Nat} {S S' : aS} (h : zRep O G ad S) {i : Nat} {b : aB} (e0 : S'.1 = S.1) (e1 : S'.2.1 = (snb S, fun j => if j = i then b else sB S j)) (e3 : S'.2.2.2.1 = S.2.2.2.1)
    (h0 : G' (ad 0) = some (oDu (ad 1) (ad 2) (ad 3) (ad 4) (nI (sna S')) (nI (snb S')) (scd S') (slk S') (swr S') (snm S') (sfl S')))
    (hB : zBk O G' (ad 3) (ad 5) (ad 6) (ad 7) (ad 8) (ad 9) (sn S') 0 (sL S').2.1 (sL S').2.2.1 (sL S').2.2.2.1 (sL S').2.2.2.2.1 (sL S').2.2.2.2.2)
    (hb : zBat O G' (ad (12 + 3 * i)) (ad (13 + 3 * i)) (ad (14 + 3 * i)) b)
    (hk : ∀ j, j ≠ 0 → j ≠ 3 → ¬ (5 ≤ j ∧ j ≤ 9) → ¬ (12 + 3 * i ≤ j ∧ j ≤ 14 + 3 * i) → j < 12 + 3 * snb S → G' (ad j) = G (ad j)) : zRep O G' ad S' := by
  obtain ⟨hinj, hD, hK1, ⟨fb, hF, hfb⟩, hBk, ⟨hSh, hp1, hp2⟩, hbs⟩ := h
  obtain ⟨⟨na, kd⟩, ⟨nb, B⟩, L, ⟨fp, fq⟩, rest⟩ := S
  obtain ⟨A', B', L', P', rest'⟩ := S'
  dsimp only at e0 e1 e3
  subst e0; subst e1; subst e3
  refine ⟨hinj, h0, (hk 1 (by omega) (by omega) (by omega) (by omega) (by omega)).trans hK1, ⟨fb, (hk 2 (by omega) (by omega) (by omega) (by omega) (by omega)).trans hF, hfb⟩, hB, ⟨(hk 4 (by omega) (by omega) (by omega) (by omega) (by omega)).trans hSh, (hk 10 (by omega) (by omega) (by omega) (by omega) (by omega)).trans hp1, (hk 11 (by omega) (by omega) (by omega) (by omega) (by omega)).trans hp2⟩, fun j hj => ?_⟩
  by_cases hij : j = i
  · subst hij
    simp only [sB, if_true]
    exact hb
  · simp only [sB, if_neg hij]
    have hj2 : j < nb := hj
    exact (hbs j hj).kept (hk _ (by omega) (by omega) (by omega) (by omega) (by simp only [snb]; omega)) (hk _ (by omega) (by omega) (by omega) (by omega) (by simp only [snb]; omega)) (hk _ (by omega) (by omega) (by omega) (by omega) (by simp only [snb]; omega))
theorem zRep.bkept {O : zO} {G G' : zG} {ad : Nat → Nat} {S : aS} (h : zRep O G ad S) (hk : ∀ j, (j = 3 ∨ (5 ≤ j ∧ j ≤ 9)) → G' (ad j) = G (ad j)) : zBk O G' (ad 3) (ad 5) (ad 6) (ad 7) (ad 8) (ad 9) (sn S) 0 (sL S).2.1 (sL S).2.2.1 (sL S).2.2.2.1 (sL S).2.2.2.2.1 (sL S).2.2.2.2.2 := h.2.2.2.2.1.kept (fun q hq => by
  simp only [List.mem_cons, List.not_mem_nil, or_false] at hq
  rcases hq with rfl | rfl | rfl | rfl | rfl | rfl
  · exact hk 3 (Or.inl rfl)
  · exact hk 5 (by omega)
  · exact hk 6 (by omega)
  · exact hk 7 (by omega)
  · exact hk 8 (by omega)
  · exact hk 9 (by omega))
def flB (b : aB) (x : Int32) : aB := (bvd b, bkd b, brv b, bsz b, bst b, brb b, x, bfa b, bfc b)
def roB (b : aB) (x : Int32) (z : Int64) : aB := (bvd b, bkd b, brv b, bsz b + 1, bst b, brb b, btf b, upd (bfa b) (bsz b) x, vp_updL (bfc b) (bsz b) z)
set_option maxHeartbeats 4000000 in
set_option maxRecDepth 100000 in
theorem cDu_failsT {O : zO} {l : Launch} (hk : zK O l) (G : zG) (i : Nat) (x : Int32) {ad : Nat → Nat} {S : aS} (hR : zRep O G ad S) (hS : aOk S) (hi : i < snb S) (hw : bst (sB S i) = 0) (hx : narrow .boolean (.int x) = .int x) (hx2 : fits .boolean (.int x) = true) : zM O l yDu_fails [Cond.code yDu_fails bDu_fails 4 (some .boolean)] rmDu_fails [.ref (ad 0), .int (nI i), .int x] G 0 0 (fun v G' => v = some (.int 1) ∧ zTo O G G' ad S (upB S i (flB (sB S i) x))) zNo := by
  refine zm_of hk (by decide) (Nat.le_of_ble_eq_true rfl) ?_
  intro p e s m below meth c C hex hr hnm
  obtain ⟨hinj, hD, hK1, ⟨fb, hF, hfb⟩, hBk, ⟨hSh, hp1, hp2⟩, hbs⟩ := id hR
  obtain ⟨ok1, ok2, ok3, ok4⟩ := id hS
  obtain ⟨hb1, hb2, hb3⟩ := hbs i hi
  refine zv_aload_n (pc := 0) C dDu_fails_0 rfl ?_
  refine zv_iconst (pc := 1) (v := 0) C dDu_fails_1 (by decide) ?_
  refine zv_iload_n (pc := 2) C dDu_fails_2 rfl ?_
  refine zv_callV (pc := 3) C dDu_fails_3 (cDu_batchThatIsT hk _ _ _ hR hS hi hw) gDu_85 ⟨rfl, rfl, ⟨Nat.le_of_ble_eq_true rfl, Nat.le_of_ble_eq_true rfl⟩, mDu_batchThatIs⟩ rfl rfl (Nat.le_of_ble_eq_true rfl) (by first | assumption | exact zu_s | (refine (zu_n (by assumption)).trans ?_; first | assumption | exact zu_s)) rfl rfl ⟨Nat.le_of_ble_eq_true rfl, Nat.le_of_ble_eq_true rfl⟩ (fun _ _ h => h.elim) (fun v G' h => ?_)
  obtain ⟨rfl, rfl⟩ := h
  refine zv_astore_n (pc := 6) C dDu_fails_6 (by decide) ?_
  refine zv_aload_n (pc := 7) C dDu_fails_7 rfl ?_
  refine zv_ifnonnull (pc := 8) (tgt := 13) C dDu_fails_8 (by decide) ?_
  refine zv_aload_n (pc := 13) C dDu_fails_13 rfl ?_
  refine zv_iload_n (pc := 14) C dDu_fails_14 rfl ?_
  refine zv_put (pc := 15) C dDu_fails_15 fDu_100 ⟨tkBa, nmBa⟩ (by first | assumption | exact zu_s | (refine (zu_n (by assumption)).trans ?_; first | assumption | exact zu_s)) rfl (tkBa 8 (by decide)) (by first | rfl | assumption | exact zb_nar _) (by first | rfl | assumption | decide +kernel) (Nat.le_of_ble_eq_true rfl) ?_
  refine zv_iconst (pc := 18) (v := 1) C dDu_fails_18 (by decide) ?_
  exact zv_zret (pc := 19) C hr (by first | rfl | exact zb_nar _) dDu_fails_19 (Nat.le_of_ble_eq_true rfl) (Nat.le_of_ble_eq_true rfl) (by exact ⟨rfl, zTo.same (hR.batch (S' := upB S i (flB (sB S i) x)) (i := i) (b := flB (sB S i) x) rfl rfl rfl ((zu_n (hR.ne (by omega) (by omega) (by omega))).trans hD) (hR.bkept (fun j hj => zu_n (hR.ne (by omega) (by omega) (by omega)))) ⟨zu_s, (zu_n (hR.ne (by omega) (by omega) (by omega))).trans hb2, (zu_n (hR.ne (by omega) (by omega) (by omega))).trans hb3⟩ (fun j g1 g2 g3 g4 g5 => zu_n (hR.ne g5 (by omega) (by omega)))) rfl (fun q hq => zu_n (hq _ (by omega)))⟩)
set_option maxHeartbeats 4000000 in
set_option maxRecDepth 100000 in
theorem cDu_failsO {O : zO} {l : Launch} (hk : zK O l) (G : zG) (i : Nat) (x : Int32) {ad : Nat → Nat} {S : aS} (hR : zRep O G ad S) (hS : aOk S) (hi : i < snb S) (hw : ¬ bst (sB S i) = 0) : zM O l yDu_fails [Cond.code yDu_fails bDu_fails 4 (some .boolean)] rmDu_fails [.ref (ad 0), .int (nI i), .int x] G 0 0 (zPr (.int 0) G) zNo := by
  refine zm_of hk (by decide) (Nat.le_of_ble_eq_true rfl) ?_
  intro p e s m below meth c C hex hr hnm
  obtain ⟨hinj, hD, hK1, ⟨fb, hF, hfb⟩, hBk, ⟨hSh, hp1, hp2⟩, hbs⟩ := id hR
  obtain ⟨ok1, ok2, ok3, ok4⟩ := id hS
  refine zv_aload_n (pc := 0) C dDu_fails_0 rfl ?_
  refine zv_iconst (pc := 1) (v := 0) C dDu_fails_1 (by decide) ?_
  refine zv_iload_n (pc := 2) C dDu_fails_2 rfl ?_
  refine zv_callV (pc := 3) C dDu_fails_3 (cDu_batchThatIsO hk _ _ _ hR hS hi hw) gDu_85 ⟨rfl, rfl, ⟨Nat.le_of_ble_eq_true rfl, Nat.le_of_ble_eq_true rfl⟩, mDu_batchThatIs⟩ rfl rfl (Nat.le_of_ble_eq_true rfl) (by first | assumption | exact zu_s | (refine (zu_n (by assumption)).trans ?_; first | assumption | exact zu_s)) rfl rfl ⟨Nat.le_of_ble_eq_true rfl, Nat.le_of_ble_eq_true rfl⟩ (fun _ _ h => h.elim) (fun v G' h => ?_)
  obtain ⟨rfl, rfl⟩ := h
  refine zv_astore_nN (pc := 6) C dDu_fails_6 (by decide) ?_
  refine zv_aload_nN (pc := 7) C dDu_fails_7 rfl ?_
  refine zv_ifnonnullN (pc := 8) C dDu_fails_8 ?_
  refine zv_iconst (pc := 11) (v := 0) C dDu_fails_11 (by decide) ?_
  exact zv_zret (pc := 12) C hr (by first | rfl | exact zb_nar _) dDu_fails_12 (Nat.le_of_ble_eq_true rfl) (Nat.le_of_ble_eq_true rfl) (by exact ⟨rfl, rfl⟩)
set_option maxHeartbeats 4000000 in
set_option maxRecDepth 100000 in
theorem cDu_failsF {O : zO} {l : Launch} (hk : zK O l) (G : zG) (y x : Int32) {ad : Nat → Nat} {S : aS} (hR : zRep O G ad S) (hS : aOk S) (hx : isAccB y (nI (snb S)) = false) : zM O l yDu_fails [Cond.code yDu_fails bDu_fails 4 (some .boolean)] rmDu_fails [.ref (ad 0), .int y, .int x] G 0 0 (zPr (.int 0) G) zNo := by
  refine zm_of hk (by decide) (Nat.le_of_ble_eq_true rfl) ?_
  intro p e s m below meth c C hex hr hnm
  obtain ⟨hinj, hD, hK1, ⟨fb, hF, hfb⟩, hBk, ⟨hSh, hp1, hp2⟩, hbs⟩ := id hR
  obtain ⟨ok1, ok2, ok3, ok4⟩ := id hS
  refine zv_aload_n (pc := 0) C dDu_fails_0 rfl ?_
  refine zv_iconst (pc := 1) (v := 0) C dDu_fails_1 (by decide) ?_
  refine zv_iload_n (pc := 2) C dDu_fails_2 rfl ?_
  refine zv_callV (pc := 3) C dDu_fails_3 (cDu_batchThatIsF hk _ _ _ hR hS hx) gDu_85 ⟨rfl, rfl, ⟨Nat.le_of_ble_eq_true rfl, Nat.le_of_ble_eq_true rfl⟩, mDu_batchThatIs⟩ rfl rfl (Nat.le_of_ble_eq_true rfl) (by first | assumption | exact zu_s | (refine (zu_n (by assumption)).trans ?_; first | assumption | exact zu_s)) rfl rfl ⟨Nat.le_of_ble_eq_true rfl, Nat.le_of_ble_eq_true rfl⟩ (fun _ _ h => h.elim) (fun v G' h => ?_)
  obtain ⟨rfl, rfl⟩ := h
  refine zv_astore_nN (pc := 6) C dDu_fails_6 (by decide) ?_
  refine zv_aload_nN (pc := 7) C dDu_fails_7 rfl ?_
  refine zv_ifnonnullN (pc := 8) C dDu_fails_8 ?_
  refine zv_iconst (pc := 11) (v := 0) C dDu_fails_11 (by decide) ?_
  exact zv_zret (pc := 12) C hr (by first | rfl | exact zb_nar _) dDu_fails_12 (Nat.le_of_ble_eq_true rfl) (Nat.le_of_ble_eq_true rfl) (by exact ⟨rfl, rfl⟩)
