set_option maxHeartbeats 4000000 in
set_option maxRecDepth 100000 in
theorem cMo_thrown {O : zO} {l : Launch} (hk : zK O l) (G : zG) {am : Nat → Nat} {M : aM} (hM : zMm O G am M) (hO : mOk M) : zM O l yMo_thrown [Cond.code yMo_thrown bMo_thrown 1 (some .int)] rmMo_thrown [.ref (am 0)] G 0 0 (zPr (.int (mth M)) G) zNo := by
  refine zm_of hk (by decide) (Nat.le_of_ble_eq_true rfl) ?_
  intro p e s m below meth c C hex hr hnm
  obtain ⟨hinj, h0, h1, h2, h3, h4, h5, h6, h7, h8, h9, h10, h11, h12, h13⟩ := id hM
  obtain ⟨o1, o2, o3, o4, o5⟩ := id hO
  refine zv_aload_n (pc := 0) C dMo_thrown_0 rfl ?_
  refine zv_get (pc := 1) C dMo_thrown_1 fMo_61 (by first | assumption | exact zu_s | (refine (zu_n (hM.ne (by omega) (by omega) (by omega))).trans ?_; first | assumption | exact zu_s)) rfl ?_
  exact zv_iret (pc := 4) C hr dMo_thrown_4 (Nat.le_of_ble_eq_true rfl) (Nat.le_of_ble_eq_true rfl) (by exact ⟨rfl, rfl⟩)
def cntM (M : aM) (w : Int32) : Int32 := if w = 0 then nI (mna M) else if w = 1 then nI (mnb M) else if w = 2 then nI (mn M) else if w = 3 then mcd M else if w = 4 then mlk M else if w = 5 then mwr M else if w = 6 then mnm M else if w = 7 then 0 else if w = 8 then mfl M else -1
def lokM (M : aM) (i : Nat) (w : Int32) : Int32 := if w = 0 then mso M i else if w = 1 then (if mso M i = 2 then 0 else nI (msz M i)) else if w = 2 then mrv M i else if w = 3 then mrb M i else if w = 4 then (if mtf M i = 0 then 0 else 1) else if w = 5 then mvo M i else mkn M i
def redM (M : aM) (i : Nat) (w : Int32) : Int64 := if w = 0 then (nI (mlg M i / 20)).toInt64 else if w = 1 then (mra M (mlg M i)).toInt64 else if w = 2 then mrc M (mlg M i) else if w = 3 then (mvo M (mlg M i / 20)).toInt64 else (mkn M (mlg M i / 20)).toInt64
set_option maxHeartbeats 4000000 in
set_option maxRecDepth 100000 in
theorem cMo_count {O : zO} {l : Launch} (hk : zK O l) (G : zG) (w : Int32) {am : Nat → Nat} {M : aM} (hM : zMm O G am M) (hO : mOk M) : zM O l yMo_count [Cond.code yMo_count bMo_count 2 (some .int)] rmMo_count [.ref (am 0), .int w] G 0 0 (fun v G' => v = some (.int (cntM M w)) ∧ zMt O G G' am (thM M 0)) zNo := by
  refine zm_of hk (by decide) (Nat.le_of_ble_eq_true rfl) ?_
  intro p e s m below meth c C hex hr hnm
  obtain ⟨hinj, h0, h1, h2, h3, h4, h5, h6, h7, h8, h9, h10, h11, h12, h13⟩ := id hM
  obtain ⟨o1, o2, o3, o4, o5⟩ := id hO
  refine zv_aload_n (pc := 0) C dMo_count_0 rfl ?_
  refine zv_iconst (pc := 1) (v := 0) C dMo_count_1 (by decide) ?_
  refine zv_put (pc := 2) C dMo_count_2 fMo_61 ⟨tkMo, nmMo⟩ (by first | assumption | exact zu_s | (refine (zu_n (hM.ne (by omega) (by omega) (by omega))).trans ?_; first | assumption | exact zu_s | (refine (zu_n (hM.ne (by omega) (by omega) (by omega))).trans ?_; first | assumption | exact zu_s))) rfl (tkMo 0 (by decide)) (by first | rfl | assumption | exact zb_nar _) (by first | rfl | assumption | decide +kernel) (Nat.le_of_ble_eq_true rfl) ?_
  have hM1 := hM.th (0)
  refine zv_iload_n (pc := 5) C dMo_count_5 rfl ?_
  by_cases e0 : w = 0
  · subst e0
    refine zv_tabIn (pc := 6) (tgt := 56) C dMo_count_6 (by decide) (by decide) rfl (by decide) ?_
    refine zv_aload_n (pc := 56) C dMo_count_56 rfl ?_
    refine zv_get (pc := 57) C dMo_count_57 fMo_72 (by first | assumption | exact zu_s | (refine (zu_n (hM.ne (by omega) (by omega) (by omega))).trans ?_; first | assumption | exact zu_s | (refine (zu_n (hM.ne (by omega) (by omega) (by omega))).trans ?_; first | assumption | exact zu_s))) rfl ?_
    exact zv_iret (pc := 60) C hr dMo_count_60 (Nat.le_of_ble_eq_true rfl) (Nat.le_of_ble_eq_true rfl) (by first | exact ⟨rfl, hM1, fun q hq => (zu_n (hq _ (by omega)))⟩ | exact ⟨by simp [cntM, *], hM1, fun q hq => (zu_n (hq _ (by omega)))⟩)
  · skip
    by_cases e1 : w = 1
    · subst e1
      refine zv_tabIn (pc := 6) (tgt := 61) C dMo_count_6 (by decide) (by decide) rfl (by decide) ?_
      refine zv_aload_n (pc := 61) C dMo_count_61 rfl ?_
      refine zv_get (pc := 62) C dMo_count_62 fMo_75 (by first | assumption | exact zu_s | (refine (zu_n (hM.ne (by omega) (by omega) (by omega))).trans ?_; first | assumption | exact zu_s | (refine (zu_n (hM.ne (by omega) (by omega) (by omega))).trans ?_; first | assumption | exact zu_s))) rfl ?_
      exact zv_iret (pc := 65) C hr dMo_count_65 (Nat.le_of_ble_eq_true rfl) (Nat.le_of_ble_eq_true rfl) (by first | exact ⟨rfl, hM1, fun q hq => (zu_n (hq _ (by omega)))⟩ | exact ⟨by simp [cntM, *], hM1, fun q hq => (zu_n (hq _ (by omega)))⟩)
    · skip
      by_cases e2 : w = 2
      · subst e2
        refine zv_tabIn (pc := 6) (tgt := 66) C dMo_count_6 (by decide) (by decide) rfl (by decide) ?_
        refine zv_aload_n (pc := 66) C dMo_count_66 rfl ?_
        refine zv_get (pc := 67) C dMo_count_67 fMo_103 (by first | assumption | exact zu_s | (refine (zu_n (hM.ne (by omega) (by omega) (by omega))).trans ?_; first | assumption | exact zu_s | (refine (zu_n (hM.ne (by omega) (by omega) (by omega))).trans ?_; first | assumption | exact zu_s))) rfl ?_
        exact zv_iret (pc := 70) C hr dMo_count_70 (Nat.le_of_ble_eq_true rfl) (Nat.le_of_ble_eq_true rfl) (by first | exact ⟨rfl, hM1, fun q hq => (zu_n (hq _ (by omega)))⟩ | exact ⟨by simp [cntM, *], hM1, fun q hq => (zu_n (hq _ (by omega)))⟩)
      · skip
        by_cases e3 : w = 3
        · subst e3
          refine zv_tabIn (pc := 6) (tgt := 71) C dMo_count_6 (by decide) (by decide) rfl (by decide) ?_
          refine zv_aload_n (pc := 71) C dMo_count_71 rfl ?_
          refine zv_get (pc := 72) C dMo_count_72 fMo_9 (by first | assumption | exact zu_s | (refine (zu_n (hM.ne (by omega) (by omega) (by omega))).trans ?_; first | assumption | exact zu_s | (refine (zu_n (hM.ne (by omega) (by omega) (by omega))).trans ?_; first | assumption | exact zu_s))) rfl ?_
          exact zv_iret (pc := 75) C hr dMo_count_75 (Nat.le_of_ble_eq_true rfl) (Nat.le_of_ble_eq_true rfl) (by first | exact ⟨rfl, hM1, fun q hq => (zu_n (hq _ (by omega)))⟩ | exact ⟨by simp [cntM, *], hM1, fun q hq => (zu_n (hq _ (by omega)))⟩)
        · skip
          by_cases e4 : w = 4
          · subst e4
            refine zv_tabIn (pc := 6) (tgt := 76) C dMo_count_6 (by decide) (by decide) rfl (by decide) ?_
            refine zv_aload_n (pc := 76) C dMo_count_76 rfl ?_
            refine zv_get (pc := 77) C dMo_count_77 fMo_13 (by first | assumption | exact zu_s | (refine (zu_n (hM.ne (by omega) (by omega) (by omega))).trans ?_; first | assumption | exact zu_s | (refine (zu_n (hM.ne (by omega) (by omega) (by omega))).trans ?_; first | assumption | exact zu_s))) rfl ?_
            exact zv_iret (pc := 80) C hr dMo_count_80 (Nat.le_of_ble_eq_true rfl) (Nat.le_of_ble_eq_true rfl) (by first | exact ⟨rfl, hM1, fun q hq => (zu_n (hq _ (by omega)))⟩ | exact ⟨by simp [cntM, *], hM1, fun q hq => (zu_n (hq _ (by omega)))⟩)
          · skip
            by_cases e5 : w = 5
            · subst e5
              refine zv_tabIn (pc := 6) (tgt := 81) C dMo_count_6 (by decide) (by decide) rfl (by decide) ?_
              refine zv_aload_n (pc := 81) C dMo_count_81 rfl ?_
              refine zv_get (pc := 82) C dMo_count_82 fMo_110 (by first | assumption | exact zu_s | (refine (zu_n (hM.ne (by omega) (by omega) (by omega))).trans ?_; first | assumption | exact zu_s | (refine (zu_n (hM.ne (by omega) (by omega) (by omega))).trans ?_; first | assumption | exact zu_s))) rfl ?_
              exact zv_iret (pc := 85) C hr dMo_count_85 (Nat.le_of_ble_eq_true rfl) (Nat.le_of_ble_eq_true rfl) (by first | exact ⟨rfl, hM1, fun q hq => (zu_n (hq _ (by omega)))⟩ | exact ⟨by simp [cntM, *], hM1, fun q hq => (zu_n (hq _ (by omega)))⟩)
            · skip
              by_cases e6 : w = 6
              · subst e6
                refine zv_tabIn (pc := 6) (tgt := 86) C dMo_count_6 (by decide) (by decide) rfl (by decide) ?_
                refine zv_aload_n (pc := 86) C dMo_count_86 rfl ?_
                refine zv_get (pc := 87) C dMo_count_87 fMo_16 (by first | assumption | exact zu_s | (refine (zu_n (hM.ne (by omega) (by omega) (by omega))).trans ?_; first | assumption | exact zu_s | (refine (zu_n (hM.ne (by omega) (by omega) (by omega))).trans ?_; first | assumption | exact zu_s))) rfl ?_
                exact zv_iret (pc := 90) C hr dMo_count_90 (Nat.le_of_ble_eq_true rfl) (Nat.le_of_ble_eq_true rfl) (by first | exact ⟨rfl, hM1, fun q hq => (zu_n (hq _ (by omega)))⟩ | exact ⟨by simp [cntM, *], hM1, fun q hq => (zu_n (hq _ (by omega)))⟩)
              · skip
                by_cases e7 : w = 7
                · subst e7
                  refine zv_tabIn (pc := 6) (tgt := 91) C dMo_count_6 (by decide) (by decide) rfl (by decide) ?_
                  refine zv_iconst (pc := 91) (v := 0) C dMo_count_91 (by decide) ?_
                  exact zv_iret (pc := 92) C hr dMo_count_92 (Nat.le_of_ble_eq_true rfl) (Nat.le_of_ble_eq_true rfl) (by first | exact ⟨rfl, hM1, fun q hq => (zu_n (hq _ (by omega)))⟩ | exact ⟨by simp [cntM, *], hM1, fun q hq => (zu_n (hq _ (by omega)))⟩)
                · skip
                  by_cases e8 : w = 8
                  · subst e8
                    refine zv_tabIn (pc := 6) (tgt := 93) C dMo_count_6 (by decide) (by decide) rfl (by decide) ?_
                    refine zv_aload_n (pc := 93) C dMo_count_93 rfl ?_
                    refine zv_get (pc := 94) C dMo_count_94 fMo_116 (by first | assumption | exact zu_s | (refine (zu_n (hM.ne (by omega) (by omega) (by omega))).trans ?_; first | assumption | exact zu_s | (refine (zu_n (hM.ne (by omega) (by omega) (by omega))).trans ?_; first | assumption | exact zu_s))) rfl ?_
                    exact zv_iret (pc := 97) C hr dMo_count_97 (Nat.le_of_ble_eq_true rfl) (Nat.le_of_ble_eq_true rfl) (by first | exact ⟨rfl, hM1, fun q hq => (zu_n (hq _ (by omega)))⟩ | exact ⟨by simp [cntM, *], hM1, fun q hq => (zu_n (hq _ (by omega)))⟩)
                  · skip
                    refine zv_tabOut (pc := 6) (tgt := 98) C dMo_count_6 (by have x0 : w.toInt ≠ 0 := fun h => e0 (Int32.toInt_inj.mp (h.trans (by decide))); have x1 : w.toInt ≠ 1 := fun h => e1 (Int32.toInt_inj.mp (h.trans (by decide))); have x2 : w.toInt ≠ 2 := fun h => e2 (Int32.toInt_inj.mp (h.trans (by decide))); have x3 : w.toInt ≠ 3 := fun h => e3 (Int32.toInt_inj.mp (h.trans (by decide))); have x4 : w.toInt ≠ 4 := fun h => e4 (Int32.toInt_inj.mp (h.trans (by decide))); have x5 : w.toInt ≠ 5 := fun h => e5 (Int32.toInt_inj.mp (h.trans (by decide))); have x6 : w.toInt ≠ 6 := fun h => e6 (Int32.toInt_inj.mp (h.trans (by decide))); have x7 : w.toInt ≠ 7 := fun h => e7 (Int32.toInt_inj.mp (h.trans (by decide))); have x8 : w.toInt ≠ 8 := fun h => e8 (Int32.toInt_inj.mp (h.trans (by decide))); omega) (by decide) ?_
                    refine zv_iconst (pc := 98) (v := -1) C dMo_count_98 (by decide) ?_
                    exact zv_iret (pc := 99) C hr dMo_count_99 (Nat.le_of_ble_eq_true rfl) (Nat.le_of_ble_eq_true rfl) (by first | exact ⟨rfl, hM1, fun q hq => (zu_n (hq _ (by omega)))⟩ | exact ⟨by simp [cntM, *], hM1, fun q hq => (zu_n (hq _ (by omega)))⟩)
set_option maxHeartbeats 4000000 in
set_option maxRecDepth 100000 in
theorem cMo_lookT {O : zO} {l : Launch} (hk : zK O l) (G : zG) (i : Nat) (w : Int32) {am : Nat → Nat} {M : aM} (hM : zMm O G am M) (hO : mOk M) (hi : i < mnb M) : zM O l yMo_look [Cond.code yMo_look bMo_look 3 (some .int)] rmMo_look [.ref (am 0), .int (nI i), .int w] G 0 0 (fun v G' => (whB w 7 = false ∧ v = some (.int 0) ∧ zMt O G G' am (thM M 1)) ∨ (whB w 7 = true ∧ v = some (.int (lokM M i w)) ∧ zMt O G G' am (thM M 0))) zNo := by
  refine zm_of hk (by decide) (Nat.le_of_ble_eq_true rfl) ?_
  intro p e s m below meth c C hex hr hnm
  obtain ⟨hinj, h0, h1, h2, h3, h4, h5, h6, h7, h8, h9, h10, h11, h12, h13⟩ := id hM
  obtain ⟨o1, o2, o3, o4, o5⟩ := id hO
  refine zv_aload_n (pc := 0) C dMo_look_0 rfl ?_
  refine zv_iload_n (pc := 1) C dMo_look_1 rfl ?_
  refine zv_if_lt (pc := 2) (tgt := 27) C dMo_look_2 (by decide) (fun c2 => absurd c2 (nI_pos (by omega))) (fun c2 => ?_)
  refine zv_iload_n (pc := 5) C dMo_look_5 rfl ?_
  refine zv_aload_n (pc := 6) C dMo_look_6 rfl ?_
  refine zv_get (pc := 7) C dMo_look_7 fMo_75 (by first | assumption | exact zu_s | (refine (zu_n (hM.ne (by omega) (by omega) (by omega))).trans ?_; first | assumption | exact zu_s | (refine (zu_n (hM.ne (by omega) (by omega) (by omega))).trans ?_; first | assumption | exact zu_s))) rfl ?_
  refine zv_icmp_ge (pc := 10) (tgt := 27) C dMo_look_10 (by decide) (fun c10 => absurd c10 (nI_ge hi (by omega))) (fun c10 => ?_)
  refine zv_iload_n (pc := 13) C dMo_look_13 rfl ?_
  refine zv_if_lt (pc := 14) (tgt := 27) C dMo_look_14 (by decide) (fun c14 => ?_) (fun c14 => ?_)
  · refine zv_iconst (pc := 27) (v := 1) C dMo_look_27 (by decide) ?_
    refine zv_put (pc := 28) C dMo_look_28 fMo_61 ⟨tkMo, nmMo⟩ (by first | assumption | exact zu_s | (refine (zu_n (hM.ne (by omega) (by omega) (by omega))).trans ?_; first | assumption | exact zu_s | (refine (zu_n (hM.ne (by omega) (by omega) (by omega))).trans ?_; first | assumption | exact zu_s))) rfl (tkMo 0 (by decide)) (by first | rfl | assumption | exact zb_nar _) (by first | rfl | assumption | decide +kernel) (Nat.le_of_ble_eq_true rfl) ?_
    have hM1 := hM.th (1)
    refine zv_aload_n (pc := 31) C dMo_look_31 rfl ?_
    refine zv_get (pc := 32) C dMo_look_32 fMo_61 (by first | assumption | exact zu_s | (refine (zu_n (hM.ne (by omega) (by omega) (by omega))).trans ?_; first | assumption | exact zu_s | (refine (zu_n (hM.ne (by omega) (by omega) (by omega))).trans ?_; first | assumption | exact zu_s))) rfl ?_
    refine zv_if_le (pc := 35) (tgt := 40) C dMo_look_35 (by decide) (fun c35 => absurd c35 (by decide)) (fun c35 => ?_)
    refine zv_iconst (pc := 38) (v := 0) C dMo_look_38 (by decide) ?_
    exact zv_iret (pc := 39) C hr dMo_look_39 (Nat.le_of_ble_eq_true rfl) (Nat.le_of_ble_eq_true rfl) (by (try simp only [zb_0, Bool.not_eq_false] at c14); exact Or.inl ⟨by simp [whB, lokM, c14], rfl, hM1, fun q hq => (zu_n (hq _ (by omega)))⟩)
  · refine zv_iload_n (pc := 17) C dMo_look_17 rfl ?_
    refine zv_bipush (pc := 18) (v := 7) C dMo_look_18 (by decide) ?_
    refine zv_icmp_ge (pc := 20) (tgt := 27) C dMo_look_20 (by decide) (fun c20 => ?_) (fun c20 => ?_)
    · refine zv_iconst (pc := 27) (v := 1) C dMo_look_27 (by decide) ?_
      refine zv_put (pc := 28) C dMo_look_28 fMo_61 ⟨tkMo, nmMo⟩ (by first | assumption | exact zu_s | (refine (zu_n (hM.ne (by omega) (by omega) (by omega))).trans ?_; first | assumption | exact zu_s | (refine (zu_n (hM.ne (by omega) (by omega) (by omega))).trans ?_; first | assumption | exact zu_s))) rfl (tkMo 0 (by decide)) (by first | rfl | assumption | exact zb_nar _) (by first | rfl | assumption | decide +kernel) (Nat.le_of_ble_eq_true rfl) ?_
      have hM1 := hM.th (1)
      refine zv_aload_n (pc := 31) C dMo_look_31 rfl ?_
      refine zv_get (pc := 32) C dMo_look_32 fMo_61 (by first | assumption | exact zu_s | (refine (zu_n (hM.ne (by omega) (by omega) (by omega))).trans ?_; first | assumption | exact zu_s | (refine (zu_n (hM.ne (by omega) (by omega) (by omega))).trans ?_; first | assumption | exact zu_s))) rfl ?_
      refine zv_if_le (pc := 35) (tgt := 40) C dMo_look_35 (by decide) (fun c35 => absurd c35 (by decide)) (fun c35 => ?_)
      refine zv_iconst (pc := 38) (v := 0) C dMo_look_38 (by decide) ?_
      exact zv_iret (pc := 39) C hr dMo_look_39 (Nat.le_of_ble_eq_true rfl) (Nat.le_of_ble_eq_true rfl) (by (try simp only [zb_0, Bool.not_eq_false] at c14); (try simp only [zb_0, Bool.not_eq_false] at c20); exact Or.inl ⟨by simp [whB, lokM, c14, c20], rfl, hM1, fun q hq => (zu_n (hq _ (by omega)))⟩)
    · refine zv_iconst (pc := 23) (v := 0) C dMo_look_23 (by decide) ?_
      refine zv_goto (pc := 24) (tgt := 28) C dMo_look_24 (by decide) ?_
      refine zv_put (pc := 28) C dMo_look_28 fMo_61 ⟨tkMo, nmMo⟩ (by first | assumption | exact zu_s | (refine (zu_n (hM.ne (by omega) (by omega) (by omega))).trans ?_; first | assumption | exact zu_s | (refine (zu_n (hM.ne (by omega) (by omega) (by omega))).trans ?_; first | assumption | exact zu_s))) rfl (tkMo 0 (by decide)) (by first | rfl | assumption | exact zb_nar _) (by first | rfl | assumption | decide +kernel) (Nat.le_of_ble_eq_true rfl) ?_
      have hM1 := hM.th (0)
      refine zv_aload_n (pc := 31) C dMo_look_31 rfl ?_
      refine zv_get (pc := 32) C dMo_look_32 fMo_61 (by first | assumption | exact zu_s | (refine (zu_n (hM.ne (by omega) (by omega) (by omega))).trans ?_; first | assumption | exact zu_s | (refine (zu_n (hM.ne (by omega) (by omega) (by omega))).trans ?_; first | assumption | exact zu_s))) rfl ?_
      refine zv_if_le (pc := 35) (tgt := 40) C dMo_look_35 (by decide) (fun c35 => ?_) (fun c35 => absurd c35 (by decide))
      refine zv_iload_n (pc := 40) C dMo_look_40 rfl ?_
      by_cases e0 : w = 0
      · subst e0
        refine zv_tabIn (pc := 41) (tgt := 80) C dMo_look_41 (by decide) (by decide) rfl (by decide) ?_
        refine zv_aload_n (pc := 80) C dMo_look_80 rfl ?_
        refine zv_get (pc := 81) C dMo_look_81 fMo_23 (by first | assumption | exact zu_s | (refine (zu_n (hM.ne (by omega) (by omega) (by omega))).trans ?_; first | assumption | exact zu_s | (refine (zu_n (hM.ne (by omega) (by omega) (by omega))).trans ?_; first | assumption | exact zu_s))) rfl ?_
        refine zv_iload_n (pc := 84) C dMo_look_84 rfl ?_
        refine zn_iald (pc := 85) C dMo_look_85 (by first | assumption | exact zu_s | (refine (zu_n (hM.ne (by omega) (by omega) (by omega))).trans ?_; first | assumption | exact zu_s | (refine (zu_n (hM.ne (by omega) (by omega) (by omega))).trans ?_; first | assumption | exact zu_s))) (by omega) (by omega) ?_
        exact zv_iret (pc := 86) C hr dMo_look_86 (Nat.le_of_ble_eq_true rfl) (Nat.le_of_ble_eq_true rfl) (by (try simp only [zb_0, Bool.not_eq_false] at c14); (try simp only [zb_0, Bool.not_eq_false] at c20); refine Or.inr ⟨by simp [whB, lokM, c14, c20], ?_, hM1, fun q hq => (zu_n (hq _ (by omega)))⟩; first | rfl | (simp [whB, lokM, c14, c20, *]; done) | (simp [whB, lokM, c14, c20]; done))
      · skip
        by_cases e1 : w = 1
        · subst e1
          refine zv_tabIn (pc := 41) (tgt := 87) C dMo_look_41 (by decide) (by decide) rfl (by decide) ?_
          refine zv_aload_n (pc := 87) C dMo_look_87 rfl ?_
          refine zv_get (pc := 88) C dMo_look_88 fMo_23 (by first | assumption | exact zu_s | (refine (zu_n (hM.ne (by omega) (by omega) (by omega))).trans ?_; first | assumption | exact zu_s | (refine (zu_n (hM.ne (by omega) (by omega) (by omega))).trans ?_; first | assumption | exact zu_s))) rfl ?_
          refine zv_iload_n (pc := 91) C dMo_look_91 rfl ?_
          refine zn_iald (pc := 92) C dMo_look_92 (by first | assumption | exact zu_s | (refine (zu_n (hM.ne (by omega) (by omega) (by omega))).trans ?_; first | assumption | exact zu_s | (refine (zu_n (hM.ne (by omega) (by omega) (by omega))).trans ?_; first | assumption | exact zu_s))) (by omega) (by omega) ?_
          refine zv_iconst (pc := 93) (v := 2) C dMo_look_93 (by decide) ?_
          refine zv_icmp_ne (pc := 94) (tgt := 101) C dMo_look_94 (by decide) (fun c94 => ?_) (fun c94 => ?_)
          · refine zv_aload_n (pc := 101) C dMo_look_101 rfl ?_
            refine zv_get (pc := 102) C dMo_look_102 fMo_42 (by first | assumption | exact zu_s | (refine (zu_n (hM.ne (by omega) (by omega) (by omega))).trans ?_; first | assumption | exact zu_s | (refine (zu_n (hM.ne (by omega) (by omega) (by omega))).trans ?_; first | assumption | exact zu_s))) rfl ?_
            refine zv_iload_n (pc := 105) C dMo_look_105 rfl ?_
            refine zn_iald (pc := 106) C dMo_look_106 (by first | assumption | exact zu_s | (refine (zu_n (hM.ne (by omega) (by omega) (by omega))).trans ?_; first | assumption | exact zu_s | (refine (zu_n (hM.ne (by omega) (by omega) (by omega))).trans ?_; first | assumption | exact zu_s))) (by omega) (by omega) ?_
            exact zv_iret (pc := 107) C hr dMo_look_107 (Nat.le_of_ble_eq_true rfl) (Nat.le_of_ble_eq_true rfl) (by (try simp only [zb_0, Bool.not_eq_false] at c14); (try simp only [zb_0, Bool.not_eq_false] at c20); (try simp only [zb_0, Bool.not_eq_false] at c94); refine Or.inr ⟨by simp [whB, lokM, c14, c20, c94], ?_, hM1, fun q hq => (zu_n (hq _ (by omega)))⟩; first | rfl | (simp [whB, lokM, c14, c20, c94, *]; done) | (simp [whB, lokM, c14, c20, c94]; done))
          · refine zv_iconst (pc := 97) (v := 0) C dMo_look_97 (by decide) ?_
            refine zv_goto (pc := 98) (tgt := 107) C dMo_look_98 (by decide) ?_
            exact zv_iret (pc := 107) C hr dMo_look_107 (Nat.le_of_ble_eq_true rfl) (Nat.le_of_ble_eq_true rfl) (by (try simp only [zb_0, Bool.not_eq_false] at c14); (try simp only [zb_0, Bool.not_eq_false] at c20); (try simp only [zb_0, Bool.not_eq_false] at c94); refine Or.inr ⟨by simp [whB, lokM, c14, c20, c94], ?_, hM1, fun q hq => (zu_n (hq _ (by omega)))⟩; first | rfl | (simp [whB, lokM, c14, c20, c94, *]; done) | (simp [whB, lokM, c14, c20, c94]; done))
        · skip
          by_cases e2 : w = 2
          · subst e2
            refine zv_tabIn (pc := 41) (tgt := 108) C dMo_look_41 (by decide) (by decide) rfl (by decide) ?_
            refine zv_aload_n (pc := 108) C dMo_look_108 rfl ?_
            refine zv_get (pc := 109) C dMo_look_109 fMo_32 (by first | assumption | exact zu_s | (refine (zu_n (hM.ne (by omega) (by omega) (by omega))).trans ?_; first | assumption | exact zu_s | (refine (zu_n (hM.ne (by omega) (by omega) (by omega))).trans ?_; first | assumption | exact zu_s))) rfl ?_
            refine zv_iload_n (pc := 112) C dMo_look_112 rfl ?_
            refine zn_iald (pc := 113) C dMo_look_113 (by first | assumption | exact zu_s | (refine (zu_n (hM.ne (by omega) (by omega) (by omega))).trans ?_; first | assumption | exact zu_s | (refine (zu_n (hM.ne (by omega) (by omega) (by omega))).trans ?_; first | assumption | exact zu_s))) (by omega) (by omega) ?_
            exact zv_iret (pc := 114) C hr dMo_look_114 (Nat.le_of_ble_eq_true rfl) (Nat.le_of_ble_eq_true rfl) (by (try simp only [zb_0, Bool.not_eq_false] at c14); (try simp only [zb_0, Bool.not_eq_false] at c20); refine Or.inr ⟨by simp [whB, lokM, c14, c20], ?_, hM1, fun q hq => (zu_n (hq _ (by omega)))⟩; first | rfl | (simp [whB, lokM, c14, c20, *]; done) | (simp [whB, lokM, c14, c20]; done))
          · skip
            by_cases e3 : w = 3
            · subst e3
              refine zv_tabIn (pc := 41) (tgt := 115) C dMo_look_41 (by decide) (by decide) rfl (by decide) ?_
              refine zv_aload_n (pc := 115) C dMo_look_115 rfl ?_
              refine zv_get (pc := 116) C dMo_look_116 fMo_35 (by first | assumption | exact zu_s | (refine (zu_n (hM.ne (by omega) (by omega) (by omega))).trans ?_; first | assumption | exact zu_s | (refine (zu_n (hM.ne (by omega) (by omega) (by omega))).trans ?_; first | assumption | exact zu_s))) rfl ?_
              refine zv_iload_n (pc := 119) C dMo_look_119 rfl ?_
              refine zn_iald (pc := 120) C dMo_look_120 (by first | assumption | exact zu_s | (refine (zu_n (hM.ne (by omega) (by omega) (by omega))).trans ?_; first | assumption | exact zu_s | (refine (zu_n (hM.ne (by omega) (by omega) (by omega))).trans ?_; first | assumption | exact zu_s))) (by omega) (by omega) ?_
              exact zv_iret (pc := 121) C hr dMo_look_121 (Nat.le_of_ble_eq_true rfl) (Nat.le_of_ble_eq_true rfl) (by (try simp only [zb_0, Bool.not_eq_false] at c14); (try simp only [zb_0, Bool.not_eq_false] at c20); refine Or.inr ⟨by simp [whB, lokM, c14, c20], ?_, hM1, fun q hq => (zu_n (hq _ (by omega)))⟩; first | rfl | (simp [whB, lokM, c14, c20, *]; done) | (simp [whB, lokM, c14, c20]; done))
            · skip
              by_cases e4 : w = 4
              · subst e4
                refine zv_tabIn (pc := 41) (tgt := 122) C dMo_look_41 (by decide) (by decide) rfl (by decide) ?_
                refine zv_aload_n (pc := 122) C dMo_look_122 rfl ?_
                refine zv_get (pc := 123) C dMo_look_123 fMo_38 (by first | assumption | exact zu_s | (refine (zu_n (hM.ne (by omega) (by omega) (by omega))).trans ?_; first | assumption | exact zu_s | (refine (zu_n (hM.ne (by omega) (by omega) (by omega))).trans ?_; first | assumption | exact zu_s))) rfl ?_
                refine zv_iload_n (pc := 126) C dMo_look_126 rfl ?_
                refine zn_zald (pc := 127) C dMo_look_127 (by first | assumption | exact zu_s | (refine (zu_n (hM.ne (by omega) (by omega) (by omega))).trans ?_; first | assumption | exact zu_s | (refine (zu_n (hM.ne (by omega) (by omega) (by omega))).trans ?_; first | assumption | exact zu_s))) (by omega) (by omega) ?_
                refine zv_if_eq (pc := 128) (tgt := 135) C dMo_look_128 (by decide) (fun c128 => ?_) (fun c128 => ?_)
                · refine zv_iconst (pc := 135) (v := 0) C dMo_look_135 (by decide) ?_
                  exact zv_iret (pc := 136) C hr dMo_look_136 (Nat.le_of_ble_eq_true rfl) (Nat.le_of_ble_eq_true rfl) (by (try simp only [zb_0, Bool.not_eq_false] at c14); (try simp only [zb_0, Bool.not_eq_false] at c20); (try simp only [zb_0, Bool.not_eq_false] at c128); refine Or.inr ⟨by simp [whB, lokM, c14, c20, c128], ?_, hM1, fun q hq => (zu_n (hq _ (by omega)))⟩; first | rfl | (simp [whB, lokM, c14, c20, c128, *]; done) | (simp [whB, lokM, c14, c20, c128]; done))
                · refine zv_iconst (pc := 131) (v := 1) C dMo_look_131 (by decide) ?_
                  refine zv_goto (pc := 132) (tgt := 136) C dMo_look_132 (by decide) ?_
                  exact zv_iret (pc := 136) C hr dMo_look_136 (Nat.le_of_ble_eq_true rfl) (Nat.le_of_ble_eq_true rfl) (by (try simp only [zb_0, Bool.not_eq_false] at c14); (try simp only [zb_0, Bool.not_eq_false] at c20); (try simp only [zb_0, Bool.not_eq_false] at c128); refine Or.inr ⟨by simp [whB, lokM, c14, c20, c128], ?_, hM1, fun q hq => (zu_n (hq _ (by omega)))⟩; first | rfl | (simp [whB, lokM, c14, c20, c128, *]; done) | (simp [whB, lokM, c14, c20, c128]; done))
              · skip
                by_cases e5 : w = 5
                · subst e5
                  refine zv_tabIn (pc := 41) (tgt := 137) C dMo_look_41 (by decide) (by decide) rfl (by decide) ?_
                  refine zv_aload_n (pc := 137) C dMo_look_137 rfl ?_
                  refine zv_get (pc := 138) C dMo_look_138 fMo_26 (by first | assumption | exact zu_s | (refine (zu_n (hM.ne (by omega) (by omega) (by omega))).trans ?_; first | assumption | exact zu_s | (refine (zu_n (hM.ne (by omega) (by omega) (by omega))).trans ?_; first | assumption | exact zu_s))) rfl ?_
                  refine zv_iload_n (pc := 141) C dMo_look_141 rfl ?_
                  refine zn_iald (pc := 142) C dMo_look_142 (by first | assumption | exact zu_s | (refine (zu_n (hM.ne (by omega) (by omega) (by omega))).trans ?_; first | assumption | exact zu_s | (refine (zu_n (hM.ne (by omega) (by omega) (by omega))).trans ?_; first | assumption | exact zu_s))) (by omega) (by omega) ?_
                  exact zv_iret (pc := 143) C hr dMo_look_143 (Nat.le_of_ble_eq_true rfl) (Nat.le_of_ble_eq_true rfl) (by (try simp only [zb_0, Bool.not_eq_false] at c14); (try simp only [zb_0, Bool.not_eq_false] at c20); refine Or.inr ⟨by simp [whB, lokM, c14, c20], ?_, hM1, fun q hq => (zu_n (hq _ (by omega)))⟩; first | rfl | (simp [whB, lokM, c14, c20, *]; done) | (simp [whB, lokM, c14, c20]; done))
                · skip
                  refine zv_tabOut (pc := 41) (tgt := 144) C dMo_look_41 (by have x0 : w.toInt ≠ 0 := fun h => e0 (Int32.toInt_inj.mp (h.trans (by decide))); have x1 : w.toInt ≠ 1 := fun h => e1 (Int32.toInt_inj.mp (h.trans (by decide))); have x2 : w.toInt ≠ 2 := fun h => e2 (Int32.toInt_inj.mp (h.trans (by decide))); have x3 : w.toInt ≠ 3 := fun h => e3 (Int32.toInt_inj.mp (h.trans (by decide))); have x4 : w.toInt ≠ 4 := fun h => e4 (Int32.toInt_inj.mp (h.trans (by decide))); have x5 : w.toInt ≠ 5 := fun h => e5 (Int32.toInt_inj.mp (h.trans (by decide))); omega) (by decide) ?_
                  refine zv_aload_n (pc := 144) C dMo_look_144 rfl ?_
                  refine zv_get (pc := 145) C dMo_look_145 fMo_29 (by first | assumption | exact zu_s | (refine (zu_n (hM.ne (by omega) (by omega) (by omega))).trans ?_; first | assumption | exact zu_s | (refine (zu_n (hM.ne (by omega) (by omega) (by omega))).trans ?_; first | assumption | exact zu_s))) rfl ?_
                  refine zv_iload_n (pc := 148) C dMo_look_148 rfl ?_
                  refine zn_iald (pc := 149) C dMo_look_149 (by first | assumption | exact zu_s | (refine (zu_n (hM.ne (by omega) (by omega) (by omega))).trans ?_; first | assumption | exact zu_s | (refine (zu_n (hM.ne (by omega) (by omega) (by omega))).trans ?_; first | assumption | exact zu_s))) (by omega) (by omega) ?_
                  exact zv_iret (pc := 150) C hr dMo_look_150 (Nat.le_of_ble_eq_true rfl) (Nat.le_of_ble_eq_true rfl) (by (try simp only [zb_0, Bool.not_eq_false] at c14); (try simp only [zb_0, Bool.not_eq_false] at c20); refine Or.inr ⟨by simp [whB, lokM, c14, c20], ?_, hM1, fun q hq => (zu_n (hq _ (by omega)))⟩; first | rfl | (simp [whB, lokM, c14, c20, *]; done) | (simp [whB, lokM, c14, c20]; done))
set_option maxHeartbeats 4000000 in
set_option maxRecDepth 100000 in
theorem cMo_lookF {O : zO} {l : Launch} (hk : zK O l) (G : zG) (x w : Int32) {am : Nat → Nat} {M : aM} (hM : zMm O G am M) (hO : mOk M) (hx : isAccB x (nI (mnb M)) = false) : zM O l yMo_look [Cond.code yMo_look bMo_look 3 (some .int)] rmMo_look [.ref (am 0), .int x, .int w] G 0 0 (fun v G' => v = some (.int 0) ∧ zMt O G G' am (thM M 1)) zNo := by
  refine zm_of hk (by decide) (Nat.le_of_ble_eq_true rfl) ?_
  intro p e s m below meth c C hex hr hnm
  obtain ⟨hinj, h0, h1, h2, h3, h4, h5, h6, h7, h8, h9, h10, h11, h12, h13⟩ := id hM
  obtain ⟨o1, o2, o3, o4, o5⟩ := id hO
  refine zv_aload_n (pc := 0) C dMo_look_0 rfl ?_
  refine zv_iload_n (pc := 1) C dMo_look_1 rfl ?_
  refine zv_if_lt (pc := 2) (tgt := 27) C dMo_look_2 (by decide) (fun c2 => ?_) (fun c2 => ?_)
  · refine zv_iconst (pc := 27) (v := 1) C dMo_look_27 (by decide) ?_
    refine zv_put (pc := 28) C dMo_look_28 fMo_61 ⟨tkMo, nmMo⟩ (by first | assumption | exact zu_s | (refine (zu_n (hM.ne (by omega) (by omega) (by omega))).trans ?_; first | assumption | exact zu_s | (refine (zu_n (hM.ne (by omega) (by omega) (by omega))).trans ?_; first | assumption | exact zu_s))) rfl (tkMo 0 (by decide)) (by first | rfl | assumption | exact zb_nar _) (by first | rfl | assumption | decide +kernel) (Nat.le_of_ble_eq_true rfl) ?_
    have hM1 := hM.th (1)
    refine zv_aload_n (pc := 31) C dMo_look_31 rfl ?_
    refine zv_get (pc := 32) C dMo_look_32 fMo_61 (by first | assumption | exact zu_s | (refine (zu_n (hM.ne (by omega) (by omega) (by omega))).trans ?_; first | assumption | exact zu_s | (refine (zu_n (hM.ne (by omega) (by omega) (by omega))).trans ?_; first | assumption | exact zu_s))) rfl ?_
    refine zv_if_le (pc := 35) (tgt := 40) C dMo_look_35 (by decide) (fun c35 => absurd c35 (by decide)) (fun c35 => ?_)
    refine zv_iconst (pc := 38) (v := 0) C dMo_look_38 (by decide) ?_
    exact zv_iret (pc := 39) C hr dMo_look_39 (Nat.le_of_ble_eq_true rfl) (Nat.le_of_ble_eq_true rfl) (by exact ⟨rfl, hM1, fun q hq => (zu_n (hq _ (by omega)))⟩)
  · refine zv_iload_n (pc := 5) C dMo_look_5 rfl ?_
    refine zv_aload_n (pc := 6) C dMo_look_6 rfl ?_
    refine zv_get (pc := 7) C dMo_look_7 fMo_75 (by first | assumption | exact zu_s | (refine (zu_n (hM.ne (by omega) (by omega) (by omega))).trans ?_; first | assumption | exact zu_s | (refine (zu_n (hM.ne (by omega) (by omega) (by omega))).trans ?_; first | assumption | exact zu_s))) rfl ?_
    refine zv_icmp_ge (pc := 10) (tgt := 27) C dMo_look_10 (by decide) (fun c10 => ?_) (fun c10 => by simp [isAccB, c2, c10] at hx)
    refine zv_iconst (pc := 27) (v := 1) C dMo_look_27 (by decide) ?_
    refine zv_put (pc := 28) C dMo_look_28 fMo_61 ⟨tkMo, nmMo⟩ (by first | assumption | exact zu_s | (refine (zu_n (hM.ne (by omega) (by omega) (by omega))).trans ?_; first | assumption | exact zu_s | (refine (zu_n (hM.ne (by omega) (by omega) (by omega))).trans ?_; first | assumption | exact zu_s))) rfl (tkMo 0 (by decide)) (by first | rfl | assumption | exact zb_nar _) (by first | rfl | assumption | decide +kernel) (Nat.le_of_ble_eq_true rfl) ?_
    have hM1 := hM.th (1)
    refine zv_aload_n (pc := 31) C dMo_look_31 rfl ?_
    refine zv_get (pc := 32) C dMo_look_32 fMo_61 (by first | assumption | exact zu_s | (refine (zu_n (hM.ne (by omega) (by omega) (by omega))).trans ?_; first | assumption | exact zu_s | (refine (zu_n (hM.ne (by omega) (by omega) (by omega))).trans ?_; first | assumption | exact zu_s))) rfl ?_
    refine zv_if_le (pc := 35) (tgt := 40) C dMo_look_35 (by decide) (fun c35 => absurd c35 (by decide)) (fun c35 => ?_)
    refine zv_iconst (pc := 38) (v := 0) C dMo_look_38 (by decide) ?_
    exact zv_iret (pc := 39) C hr dMo_look_39 (Nat.le_of_ble_eq_true rfl) (Nat.le_of_ble_eq_true rfl) (by exact ⟨rfl, hM1, fun q hq => (zu_n (hq _ (by omega)))⟩)
set_option maxHeartbeats 4000000 in
set_option maxRecDepth 100000 in
theorem cMo_readT {O : zO} {l : Launch} (hk : zK O l) (G : zG) (i : Nat) (w : Int32) {am : Nat → Nat} {M : aM} (hM : zMm O G am M) (hO : mOk M) (hi : i < mn M) : zM O l yMo_read [Cond.code yMo_read bMo_read 4 (some .long)] rmMo_read [.ref (am 0), .int (nI i), .int w] G 0 0 (fun v G' => (whB w 5 = false ∧ v = some (.long 0) ∧ zMt O G G' am (thM M 1)) ∨ (whB w 5 = true ∧ v = some (.long (redM M i w)) ∧ zMt O G G' am (thM M 0))) zNo := by
  refine zm_of hk (by decide) (Nat.le_of_ble_eq_true rfl) ?_
  intro p e s m below meth c C hex hr hnm
  obtain ⟨hinj, h0, h1, h2, h3, h4, h5, h6, h7, h8, h9, h10, h11, h12, h13⟩ := id hM
  obtain ⟨o1, o2, o3, o4, o5⟩ := id hO
  have ho5 := o5 i hi
  refine zv_aload_n (pc := 0) C dMo_read_0 rfl ?_
  refine zv_iload_n (pc := 1) C dMo_read_1 rfl ?_
  refine zv_if_lt (pc := 2) (tgt := 26) C dMo_read_2 (by decide) (fun c2 => absurd c2 (nI_pos (by omega))) (fun c2 => ?_)
  refine zv_iload_n (pc := 5) C dMo_read_5 rfl ?_
  refine zv_aload_n (pc := 6) C dMo_read_6 rfl ?_
  refine zv_get (pc := 7) C dMo_read_7 fMo_103 (by first | assumption | exact zu_s | (refine (zu_n (hM.ne (by omega) (by omega) (by omega))).trans ?_; first | assumption | exact zu_s | (refine (zu_n (hM.ne (by omega) (by omega) (by omega))).trans ?_; first | assumption | exact zu_s))) rfl ?_
  refine zv_icmp_ge (pc := 10) (tgt := 26) C dMo_read_10 (by decide) (fun c10 => absurd c10 (nI_ge hi (by omega))) (fun c10 => ?_)
  refine zv_iload_n (pc := 13) C dMo_read_13 rfl ?_
  refine zv_if_lt (pc := 14) (tgt := 26) C dMo_read_14 (by decide) (fun c14 => ?_) (fun c14 => ?_)
  · refine zv_iconst (pc := 26) (v := 1) C dMo_read_26 (by decide) ?_
    refine zv_put (pc := 27) C dMo_read_27 fMo_61 ⟨tkMo, nmMo⟩ (by first | assumption | exact zu_s | (refine (zu_n (hM.ne (by omega) (by omega) (by omega))).trans ?_; first | assumption | exact zu_s | (refine (zu_n (hM.ne (by omega) (by omega) (by omega))).trans ?_; first | assumption | exact zu_s))) rfl (tkMo 0 (by decide)) (by first | rfl | assumption | exact zb_nar _) (by first | rfl | assumption | decide +kernel) (Nat.le_of_ble_eq_true rfl) ?_
    have hM1 := hM.th (1)
    refine zv_aload_n (pc := 30) C dMo_read_30 rfl ?_
    refine zv_get (pc := 31) C dMo_read_31 fMo_61 (by first | assumption | exact zu_s | (refine (zu_n (hM.ne (by omega) (by omega) (by omega))).trans ?_; first | assumption | exact zu_s | (refine (zu_n (hM.ne (by omega) (by omega) (by omega))).trans ?_; first | assumption | exact zu_s))) rfl ?_
    refine zv_if_le (pc := 34) (tgt := 39) C dMo_read_34 (by decide) (fun c34 => absurd c34 (by decide)) (fun c34 => ?_)
    refine zv_lconst (pc := 37) (v := 0) C dMo_read_37 (by decide) ?_
    exact zv_lret (pc := 38) C hr dMo_read_38 (Nat.le_of_ble_eq_true rfl) (Nat.le_of_ble_eq_true rfl) (by (try simp only [zb_0, Bool.not_eq_false] at c14); exact Or.inl ⟨by simp [whB, redM, c14], rfl, hM1, fun q hq => (zu_n (hq _ (by omega)))⟩)
  · refine zv_iload_n (pc := 17) C dMo_read_17 rfl ?_
    refine zv_iconst (pc := 18) (v := 5) C dMo_read_18 (by decide) ?_
    refine zv_icmp_ge (pc := 19) (tgt := 26) C dMo_read_19 (by decide) (fun c19 => ?_) (fun c19 => ?_)
    · refine zv_iconst (pc := 26) (v := 1) C dMo_read_26 (by decide) ?_
      refine zv_put (pc := 27) C dMo_read_27 fMo_61 ⟨tkMo, nmMo⟩ (by first | assumption | exact zu_s | (refine (zu_n (hM.ne (by omega) (by omega) (by omega))).trans ?_; first | assumption | exact zu_s | (refine (zu_n (hM.ne (by omega) (by omega) (by omega))).trans ?_; first | assumption | exact zu_s))) rfl (tkMo 0 (by decide)) (by first | rfl | assumption | exact zb_nar _) (by first | rfl | assumption | decide +kernel) (Nat.le_of_ble_eq_true rfl) ?_
      have hM1 := hM.th (1)
      refine zv_aload_n (pc := 30) C dMo_read_30 rfl ?_
      refine zv_get (pc := 31) C dMo_read_31 fMo_61 (by first | assumption | exact zu_s | (refine (zu_n (hM.ne (by omega) (by omega) (by omega))).trans ?_; first | assumption | exact zu_s | (refine (zu_n (hM.ne (by omega) (by omega) (by omega))).trans ?_; first | assumption | exact zu_s))) rfl ?_
      refine zv_if_le (pc := 34) (tgt := 39) C dMo_read_34 (by decide) (fun c34 => absurd c34 (by decide)) (fun c34 => ?_)
      refine zv_lconst (pc := 37) (v := 0) C dMo_read_37 (by decide) ?_
      exact zv_lret (pc := 38) C hr dMo_read_38 (Nat.le_of_ble_eq_true rfl) (Nat.le_of_ble_eq_true rfl) (by (try simp only [zb_0, Bool.not_eq_false] at c14); (try simp only [zb_0, Bool.not_eq_false] at c19); exact Or.inl ⟨by simp [whB, redM, c14, c19], rfl, hM1, fun q hq => (zu_n (hq _ (by omega)))⟩)
    · refine zv_iconst (pc := 22) (v := 0) C dMo_read_22 (by decide) ?_
      refine zv_goto (pc := 23) (tgt := 27) C dMo_read_23 (by decide) ?_
      refine zv_put (pc := 27) C dMo_read_27 fMo_61 ⟨tkMo, nmMo⟩ (by first | assumption | exact zu_s | (refine (zu_n (hM.ne (by omega) (by omega) (by omega))).trans ?_; first | assumption | exact zu_s | (refine (zu_n (hM.ne (by omega) (by omega) (by omega))).trans ?_; first | assumption | exact zu_s))) rfl (tkMo 0 (by decide)) (by first | rfl | assumption | exact zb_nar _) (by first | rfl | assumption | decide +kernel) (Nat.le_of_ble_eq_true rfl) ?_
      have hM1 := hM.th (0)
      refine zv_aload_n (pc := 30) C dMo_read_30 rfl ?_
      refine zv_get (pc := 31) C dMo_read_31 fMo_61 (by first | assumption | exact zu_s | (refine (zu_n (hM.ne (by omega) (by omega) (by omega))).trans ?_; first | assumption | exact zu_s | (refine (zu_n (hM.ne (by omega) (by omega) (by omega))).trans ?_; first | assumption | exact zu_s))) rfl ?_
      refine zv_if_le (pc := 34) (tgt := 39) C dMo_read_34 (by decide) (fun c34 => ?_) (fun c34 => absurd c34 (by decide))
      refine zv_aload_n (pc := 39) C dMo_read_39 rfl ?_
      refine zv_get (pc := 40) C dMo_read_40 fMo_52 (by first | assumption | exact zu_s | (refine (zu_n (hM.ne (by omega) (by omega) (by omega))).trans ?_; first | assumption | exact zu_s | (refine (zu_n (hM.ne (by omega) (by omega) (by omega))).trans ?_; first | assumption | exact zu_s))) rfl ?_
      refine zv_iload_n (pc := 43) C dMo_read_43 rfl ?_
      refine zn_iald (pc := 44) C dMo_read_44 (by first | assumption | exact zu_s | (refine (zu_n (hM.ne (by omega) (by omega) (by omega))).trans ?_; first | assumption | exact zu_s | (refine (zu_n (hM.ne (by omega) (by omega) (by omega))).trans ?_; first | assumption | exact zu_s))) (by omega) (by omega) ?_
      refine zv_bipush (pc := 45) (v := 20) C dMo_read_45 (by decide) ?_
      refine zv_idiv (pc := 47) C dMo_read_47 (by decide) ?_
      refine zv_topi (y := nI (mlg M i / 20)) (by rw [show (20 : Int32) = nI 20 from rfl, pk_div (by omega) (by omega) (by omega)]) ?_
      refine zv_istore_n (pc := 48) C dMo_read_48 (by decide) ?_
      refine zv_iload_n (pc := 49) C dMo_read_49 rfl ?_
      by_cases e0 : w = 0
      · subst e0
        refine zv_tabIn (pc := 50) (tgt := 80) C dMo_read_50 (by decide) (by decide) rfl (by decide) ?_
        refine zv_iload_n (pc := 80) C dMo_read_80 rfl ?_
        refine zv_i2l (pc := 81) C dMo_read_81 ?_
        exact zv_lret (pc := 82) C hr dMo_read_82 (Nat.le_of_ble_eq_true rfl) (Nat.le_of_ble_eq_true rfl) (by (try simp only [zb_0, Bool.not_eq_false] at c14); (try simp only [zb_0, Bool.not_eq_false] at c19); refine Or.inr ⟨by simp [whB, redM, c14, c19], ?_, hM1, fun q hq => (zu_n (hq _ (by omega)))⟩; first | rfl | (simp [whB, redM, c14, c19, *]; done) | (simp [whB, redM, c14, c19]; done))
      · skip
        by_cases e1 : w = 1
        · subst e1
          refine zv_tabIn (pc := 50) (tgt := 83) C dMo_read_50 (by decide) (by decide) rfl (by decide) ?_
          refine zv_aload_n (pc := 83) C dMo_read_83 rfl ?_
          refine zv_get (pc := 84) C dMo_read_84 fMo_45 (by first | assumption | exact zu_s | (refine (zu_n (hM.ne (by omega) (by omega) (by omega))).trans ?_; first | assumption | exact zu_s | (refine (zu_n (hM.ne (by omega) (by omega) (by omega))).trans ?_; first | assumption | exact zu_s))) rfl ?_
          refine zv_aload_n (pc := 87) C dMo_read_87 rfl ?_
          refine zv_get (pc := 88) C dMo_read_88 fMo_52 (by first | assumption | exact zu_s | (refine (zu_n (hM.ne (by omega) (by omega) (by omega))).trans ?_; first | assumption | exact zu_s | (refine (zu_n (hM.ne (by omega) (by omega) (by omega))).trans ?_; first | assumption | exact zu_s))) rfl ?_
          refine zv_iload_n (pc := 91) C dMo_read_91 rfl ?_
          refine zn_iald (pc := 92) C dMo_read_92 (by first | assumption | exact zu_s | (refine (zu_n (hM.ne (by omega) (by omega) (by omega))).trans ?_; first | assumption | exact zu_s | (refine (zu_n (hM.ne (by omega) (by omega) (by omega))).trans ?_; first | assumption | exact zu_s))) (by omega) (by omega) ?_
          refine zn_iald (pc := 93) C dMo_read_93 (by first | assumption | exact zu_s | (refine (zu_n (hM.ne (by omega) (by omega) (by omega))).trans ?_; first | assumption | exact zu_s | (refine (zu_n (hM.ne (by omega) (by omega) (by omega))).trans ?_; first | assumption | exact zu_s))) (by omega) (by omega) ?_
          refine zv_i2l (pc := 94) C dMo_read_94 ?_
          exact zv_lret (pc := 95) C hr dMo_read_95 (Nat.le_of_ble_eq_true rfl) (Nat.le_of_ble_eq_true rfl) (by (try simp only [zb_0, Bool.not_eq_false] at c14); (try simp only [zb_0, Bool.not_eq_false] at c19); refine Or.inr ⟨by simp [whB, redM, c14, c19], ?_, hM1, fun q hq => (zu_n (hq _ (by omega)))⟩; first | rfl | (simp [whB, redM, c14, c19, *]; done) | (simp [whB, redM, c14, c19]; done))
        · skip
          by_cases e2 : w = 2
          · subst e2
            refine zv_tabIn (pc := 50) (tgt := 96) C dMo_read_50 (by decide) (by decide) rfl (by decide) ?_
            refine zv_aload_n (pc := 96) C dMo_read_96 rfl ?_
            refine zv_get (pc := 97) C dMo_read_97 fMo_48 (by first | assumption | exact zu_s | (refine (zu_n (hM.ne (by omega) (by omega) (by omega))).trans ?_; first | assumption | exact zu_s | (refine (zu_n (hM.ne (by omega) (by omega) (by omega))).trans ?_; first | assumption | exact zu_s))) rfl ?_
            refine zv_aload_n (pc := 100) C dMo_read_100 rfl ?_
            refine zv_get (pc := 101) C dMo_read_101 fMo_52 (by first | assumption | exact zu_s | (refine (zu_n (hM.ne (by omega) (by omega) (by omega))).trans ?_; first | assumption | exact zu_s | (refine (zu_n (hM.ne (by omega) (by omega) (by omega))).trans ?_; first | assumption | exact zu_s))) rfl ?_
            refine zv_iload_n (pc := 104) C dMo_read_104 rfl ?_
            refine zn_iald (pc := 105) C dMo_read_105 (by first | assumption | exact zu_s | (refine (zu_n (hM.ne (by omega) (by omega) (by omega))).trans ?_; first | assumption | exact zu_s | (refine (zu_n (hM.ne (by omega) (by omega) (by omega))).trans ?_; first | assumption | exact zu_s))) (by omega) (by omega) ?_
            refine zn_lald (pc := 106) C dMo_read_106 (by first | assumption | exact zu_s | (refine (zu_n (hM.ne (by omega) (by omega) (by omega))).trans ?_; first | assumption | exact zu_s | (refine (zu_n (hM.ne (by omega) (by omega) (by omega))).trans ?_; first | assumption | exact zu_s))) (by omega) (by omega) ?_
            exact zv_lret (pc := 107) C hr dMo_read_107 (Nat.le_of_ble_eq_true rfl) (Nat.le_of_ble_eq_true rfl) (by (try simp only [zb_0, Bool.not_eq_false] at c14); (try simp only [zb_0, Bool.not_eq_false] at c19); refine Or.inr ⟨by simp [whB, redM, c14, c19], ?_, hM1, fun q hq => (zu_n (hq _ (by omega)))⟩; first | rfl | (simp [whB, redM, c14, c19, *]; done) | (simp [whB, redM, c14, c19]; done))
          · skip
            by_cases e3 : w = 3
            · subst e3
              refine zv_tabIn (pc := 50) (tgt := 108) C dMo_read_50 (by decide) (by decide) rfl (by decide) ?_
              refine zv_aload_n (pc := 108) C dMo_read_108 rfl ?_
              refine zv_get (pc := 109) C dMo_read_109 fMo_26 (by first | assumption | exact zu_s | (refine (zu_n (hM.ne (by omega) (by omega) (by omega))).trans ?_; first | assumption | exact zu_s | (refine (zu_n (hM.ne (by omega) (by omega) (by omega))).trans ?_; first | assumption | exact zu_s))) rfl ?_
              refine zv_iload_n (pc := 112) C dMo_read_112 rfl ?_
              refine zn_iald (pc := 113) C dMo_read_113 (by first | assumption | exact zu_s | (refine (zu_n (hM.ne (by omega) (by omega) (by omega))).trans ?_; first | assumption | exact zu_s | (refine (zu_n (hM.ne (by omega) (by omega) (by omega))).trans ?_; first | assumption | exact zu_s))) (by omega) (by omega) ?_
              refine zv_i2l (pc := 114) C dMo_read_114 ?_
              exact zv_lret (pc := 115) C hr dMo_read_115 (Nat.le_of_ble_eq_true rfl) (Nat.le_of_ble_eq_true rfl) (by (try simp only [zb_0, Bool.not_eq_false] at c14); (try simp only [zb_0, Bool.not_eq_false] at c19); refine Or.inr ⟨by simp [whB, redM, c14, c19], ?_, hM1, fun q hq => (zu_n (hq _ (by omega)))⟩; first | rfl | (simp [whB, redM, c14, c19, *]; done) | (simp [whB, redM, c14, c19]; done))
            · skip
              refine zv_tabOut (pc := 50) (tgt := 116) C dMo_read_50 (by have x0 : w.toInt ≠ 0 := fun h => e0 (Int32.toInt_inj.mp (h.trans (by decide))); have x1 : w.toInt ≠ 1 := fun h => e1 (Int32.toInt_inj.mp (h.trans (by decide))); have x2 : w.toInt ≠ 2 := fun h => e2 (Int32.toInt_inj.mp (h.trans (by decide))); have x3 : w.toInt ≠ 3 := fun h => e3 (Int32.toInt_inj.mp (h.trans (by decide))); omega) (by decide) ?_
              refine zv_aload_n (pc := 116) C dMo_read_116 rfl ?_
              refine zv_get (pc := 117) C dMo_read_117 fMo_29 (by first | assumption | exact zu_s | (refine (zu_n (hM.ne (by omega) (by omega) (by omega))).trans ?_; first | assumption | exact zu_s | (refine (zu_n (hM.ne (by omega) (by omega) (by omega))).trans ?_; first | assumption | exact zu_s))) rfl ?_
              refine zv_iload_n (pc := 120) C dMo_read_120 rfl ?_
              refine zn_iald (pc := 121) C dMo_read_121 (by first | assumption | exact zu_s | (refine (zu_n (hM.ne (by omega) (by omega) (by omega))).trans ?_; first | assumption | exact zu_s | (refine (zu_n (hM.ne (by omega) (by omega) (by omega))).trans ?_; first | assumption | exact zu_s))) (by omega) (by omega) ?_
              refine zv_i2l (pc := 122) C dMo_read_122 ?_
              exact zv_lret (pc := 123) C hr dMo_read_123 (Nat.le_of_ble_eq_true rfl) (Nat.le_of_ble_eq_true rfl) (by (try simp only [zb_0, Bool.not_eq_false] at c14); (try simp only [zb_0, Bool.not_eq_false] at c19); refine Or.inr ⟨by simp [whB, redM, c14, c19], ?_, hM1, fun q hq => (zu_n (hq _ (by omega)))⟩; first | rfl | (simp [whB, redM, c14, c19, *]; done) | (simp [whB, redM, c14, c19]; done))
set_option maxHeartbeats 4000000 in
set_option maxRecDepth 100000 in
theorem cMo_readF {O : zO} {l : Launch} (hk : zK O l) (G : zG) (x w : Int32) {am : Nat → Nat} {M : aM} (hM : zMm O G am M) (hO : mOk M) (hx : isAccB x (nI (mn M)) = false) : zM O l yMo_read [Cond.code yMo_read bMo_read 4 (some .long)] rmMo_read [.ref (am 0), .int x, .int w] G 0 0 (fun v G' => v = some (.long 0) ∧ zMt O G G' am (thM M 1)) zNo := by
  refine zm_of hk (by decide) (Nat.le_of_ble_eq_true rfl) ?_
  intro p e s m below meth c C hex hr hnm
  obtain ⟨hinj, h0, h1, h2, h3, h4, h5, h6, h7, h8, h9, h10, h11, h12, h13⟩ := id hM
  obtain ⟨o1, o2, o3, o4, o5⟩ := id hO
  refine zv_aload_n (pc := 0) C dMo_read_0 rfl ?_
  refine zv_iload_n (pc := 1) C dMo_read_1 rfl ?_
  refine zv_if_lt (pc := 2) (tgt := 26) C dMo_read_2 (by decide) (fun c2 => ?_) (fun c2 => ?_)
  · refine zv_iconst (pc := 26) (v := 1) C dMo_read_26 (by decide) ?_
    refine zv_put (pc := 27) C dMo_read_27 fMo_61 ⟨tkMo, nmMo⟩ (by first | assumption | exact zu_s | (refine (zu_n (hM.ne (by omega) (by omega) (by omega))).trans ?_; first | assumption | exact zu_s | (refine (zu_n (hM.ne (by omega) (by omega) (by omega))).trans ?_; first | assumption | exact zu_s))) rfl (tkMo 0 (by decide)) (by first | rfl | assumption | exact zb_nar _) (by first | rfl | assumption | decide +kernel) (Nat.le_of_ble_eq_true rfl) ?_
    have hM1 := hM.th (1)
    refine zv_aload_n (pc := 30) C dMo_read_30 rfl ?_
    refine zv_get (pc := 31) C dMo_read_31 fMo_61 (by first | assumption | exact zu_s | (refine (zu_n (hM.ne (by omega) (by omega) (by omega))).trans ?_; first | assumption | exact zu_s | (refine (zu_n (hM.ne (by omega) (by omega) (by omega))).trans ?_; first | assumption | exact zu_s))) rfl ?_
    refine zv_if_le (pc := 34) (tgt := 39) C dMo_read_34 (by decide) (fun c34 => absurd c34 (by decide)) (fun c34 => ?_)
    refine zv_lconst (pc := 37) (v := 0) C dMo_read_37 (by decide) ?_
    exact zv_lret (pc := 38) C hr dMo_read_38 (Nat.le_of_ble_eq_true rfl) (Nat.le_of_ble_eq_true rfl) (by exact ⟨rfl, hM1, fun q hq => (zu_n (hq _ (by omega)))⟩)
  · refine zv_iload_n (pc := 5) C dMo_read_5 rfl ?_
    refine zv_aload_n (pc := 6) C dMo_read_6 rfl ?_
    refine zv_get (pc := 7) C dMo_read_7 fMo_103 (by first | assumption | exact zu_s | (refine (zu_n (hM.ne (by omega) (by omega) (by omega))).trans ?_; first | assumption | exact zu_s | (refine (zu_n (hM.ne (by omega) (by omega) (by omega))).trans ?_; first | assumption | exact zu_s))) rfl ?_
    refine zv_icmp_ge (pc := 10) (tgt := 26) C dMo_read_10 (by decide) (fun c10 => ?_) (fun c10 => by simp [isAccB, c2, c10] at hx)
    refine zv_iconst (pc := 26) (v := 1) C dMo_read_26 (by decide) ?_
    refine zv_put (pc := 27) C dMo_read_27 fMo_61 ⟨tkMo, nmMo⟩ (by first | assumption | exact zu_s | (refine (zu_n (hM.ne (by omega) (by omega) (by omega))).trans ?_; first | assumption | exact zu_s | (refine (zu_n (hM.ne (by omega) (by omega) (by omega))).trans ?_; first | assumption | exact zu_s))) rfl (tkMo 0 (by decide)) (by first | rfl | assumption | exact zb_nar _) (by first | rfl | assumption | decide +kernel) (Nat.le_of_ble_eq_true rfl) ?_
    have hM1 := hM.th (1)
    refine zv_aload_n (pc := 30) C dMo_read_30 rfl ?_
    refine zv_get (pc := 31) C dMo_read_31 fMo_61 (by first | assumption | exact zu_s | (refine (zu_n (hM.ne (by omega) (by omega) (by omega))).trans ?_; first | assumption | exact zu_s | (refine (zu_n (hM.ne (by omega) (by omega) (by omega))).trans ?_; first | assumption | exact zu_s))) rfl ?_
    refine zv_if_le (pc := 34) (tgt := 39) C dMo_read_34 (by decide) (fun c34 => absurd c34 (by decide)) (fun c34 => ?_)
    refine zv_lconst (pc := 37) (v := 0) C dMo_read_37 (by decide) ?_
    exact zv_lret (pc := 38) C hr dMo_read_38 (Nat.le_of_ble_eq_true rfl) (Nat.le_of_ble_eq_true rfl) (by exact ⟨rfl, hM1, fun q hq => (zu_n (hq _ (by omega)))⟩)
abbrev mfa (M : aM) (i : Nat) : Nat → Int32 := fun k => mra M (20 * i + k)
abbrev mfc (M : aM) (i : Nat) : Nat → Int64 := fun k => mrc M (20 * i + k)
set_option maxHeartbeats 4000000 in
set_option maxRecDepth 100000 in
theorem lMo_sumInN {O : zO} {p : Program} {l : Launch} {e : Env} {R : Room} {s : State} {m : MethodId} {args : Array Value} {below : List Frame} {meth : Method} {c : Code} {Q : State → Prop} {G : zG} {kc ks : Nat} (i : Nat) {am : Nat → Nat} {M : aM} (C : zC O p l s m meth c RMo bMo_sumIn 6) (h0 : G (am 0) = some (oMo am (mth M) (nI (mna M)) (nI (mnb M)) (nI (mn M)) (mcd M) (mlk M) (mwr M) (mnm M) (mfl M))) (h8 : G (am 8) = some (zI O 100 (fun i => nI (msz M i)))) (h9 : G (am 9) = some (zI O 2000 (mra M))) (h10 : G (am 10) = some (zJ O 2000 (mrc M))) (hi : i < 100) (hsz : msz M i ≤ 20) (kk : zV O p l e R s m args below meth c 6 Q 60 [(0, .ref (am 0)), (1, .int (nI i)), (2, .int (-1)), (3, .long (sumL (mfc M i) (msz M i))), (5, .int (nI (20 * i + (msz M i))))] [] G kc ks) : ∀ k j : Nat, j + k = (msz M i) → zV O p l e R s m args below meth c 6 Q 8 [(0, .ref (am 0)), (1, .int (nI i)), (2, .int (-1)), (3, .long (sumL (mfc M i) j)), (5, .int (nI (20 * i + j)))] [] G kc ks := by
  intro k
  induction k with
  | zero =>
    intro j hj
    have hjn : j = (msz M i) := by omega
    subst hjn
    refine zv_iload (pc := 8) C dMo_sumIn_8 rfl ?_
    refine zv_bipush (pc := 10) (v := 20) C dMo_sumIn_10 (by decide) ?_
    refine zv_iload_n (pc := 12) C dMo_sumIn_12 rfl ?_
    refine zv_imul (pc := 13) C dMo_sumIn_13 ?_
    refine zv_aload_n (pc := 14) C dMo_sumIn_14 rfl ?_
    refine zv_get (pc := 15) C dMo_sumIn_15 fMo_42 (by first | assumption | exact zu_s | (refine (zu_n (by assumption)).trans ?_; first | assumption | exact zu_s)) rfl ?_
    refine zv_iload_n (pc := 18) C dMo_sumIn_18 rfl ?_
    refine zn_iald (pc := 19) C dMo_sumIn_19 (by first | assumption | exact zu_s | (refine (zu_n (by assumption)).trans ?_; first | assumption | exact zu_s)) (by omega) (by omega) ?_
    refine zv_iadd (pc := 20) C dMo_sumIn_20 ?_
    refine zv_topi (zn_20k i (msz M i)) ?_
    refine zv_icmp_ge (pc := 21) (tgt := 60) C dMo_sumIn_21 (by decide) (fun cX => ?_) (fun cX => absurd (nI_le (a := 20 * i + (msz M i)) (b := 20 * i + (msz M i)) (Nat.le_refl _) (by omega)) cX)
    exact kk
  | succ k ih =>
    intro j hj
    refine zv_iload (pc := 8) C dMo_sumIn_8 rfl ?_
    refine zv_bipush (pc := 10) (v := 20) C dMo_sumIn_10 (by decide) ?_
    refine zv_iload_n (pc := 12) C dMo_sumIn_12 rfl ?_
    refine zv_imul (pc := 13) C dMo_sumIn_13 ?_
    refine zv_aload_n (pc := 14) C dMo_sumIn_14 rfl ?_
    refine zv_get (pc := 15) C dMo_sumIn_15 fMo_42 (by first | assumption | exact zu_s | (refine (zu_n (by assumption)).trans ?_; first | assumption | exact zu_s)) rfl ?_
    refine zv_iload_n (pc := 18) C dMo_sumIn_18 rfl ?_
    refine zn_iald (pc := 19) C dMo_sumIn_19 (by first | assumption | exact zu_s | (refine (zu_n (by assumption)).trans ?_; first | assumption | exact zu_s)) (by omega) (by omega) ?_
    refine zv_iadd (pc := 20) C dMo_sumIn_20 ?_
    refine zv_topi (zn_20k i (msz M i)) ?_
    refine zv_icmp_ge (pc := 21) (tgt := 60) C dMo_sumIn_21 (by decide) (fun cX => absurd cX (nI_ge (a := 20 * i + j) (b := 20 * i + msz M i) (by omega) (by omega))) (fun cX => ?_)
    refine zv_lload_n (pc := 24) C dMo_sumIn_24 rfl ?_
    refine zv_iload_n (pc := 25) C dMo_sumIn_25 rfl ?_
    refine zv_iconst (pc := 26) (v := -1) C dMo_sumIn_26 (by decide) ?_
    refine zv_icmp_eq (pc := 27) (tgt := 41) C dMo_sumIn_27 (by decide) (fun c27 => ?_) (fun c27 => absurd rfl c27)
    refine zv_aload_n (pc := 41) C dMo_sumIn_41 rfl ?_
    refine zv_get (pc := 42) C dMo_sumIn_42 fMo_48 (by first | assumption | exact zu_s | (refine (zu_n (by assumption)).trans ?_; first | assumption | exact zu_s)) rfl ?_
    refine zv_iload (pc := 45) C dMo_sumIn_45 rfl ?_
    refine zn_lald (pc := 47) C dMo_sumIn_47 (by first | assumption | exact zu_s | (refine (zu_n (by assumption)).trans ?_; first | assumption | exact zu_s)) (by omega) (by omega) ?_
    refine zv_goto (pc := 48) (tgt := 52) C dMo_sumIn_48 (by decide) ?_
    refine zv_ladd (pc := 52) C dMo_sumIn_52 ?_
    refine zv_lstore_n (pc := 53) C dMo_sumIn_53 (by decide) ?_
    refine zv_iinc (pc := 54) C dMo_sumIn_54 rfl (zn_inc (20 * i + j)) (by decide) ?_
    refine zv_goto (pc := 57) (tgt := 8) C dMo_sumIn_57 (by decide) ?_
    exact zv_pick [0, 1, 2, 3, 5] rfl (ih (j + 1) (by omega))
set_option maxHeartbeats 4000000 in
set_option maxRecDepth 100000 in
theorem lMo_sumInA {O : zO} {p : Program} {l : Launch} {e : Env} {R : Room} {s : State} {m : MethodId} {args : Array Value} {below : List Frame} {meth : Method} {c : Code} {Q : State → Prop} {G : zG} {kc ks : Nat} (i : Nat) {am : Nat → Nat} {M : aM} (x : Int32) (C : zC O p l s m meth c RMo bMo_sumIn 6) (h0 : G (am 0) = some (oMo am (mth M) (nI (mna M)) (nI (mnb M)) (nI (mn M)) (mcd M) (mlk M) (mwr M) (mnm M) (mfl M))) (h8 : G (am 8) = some (zI O 100 (fun i => nI (msz M i)))) (h9 : G (am 9) = some (zI O 2000 (mra M))) (h10 : G (am 10) = some (zJ O 2000 (mrc M))) (hi : i < 100) (hsz : msz M i ≤ 20) (hx : ¬ x = -1) (kk : zV O p l e R s m args below meth c 6 Q 60 [(0, .ref (am 0)), (1, .int (nI i)), (2, .int x), (3, .long (sumA (mfa M i) (mfc M i) x (msz M i))), (5, .int (nI (20 * i + (msz M i))))] [] G kc ks) : ∀ k j : Nat, j + k = (msz M i) → zV O p l e R s m args below meth c 6 Q 8 [(0, .ref (am 0)), (1, .int (nI i)), (2, .int x), (3, .long (sumA (mfa M i) (mfc M i) x j)), (5, .int (nI (20 * i + j)))] [] G kc ks := by
  intro k
  induction k with
  | zero =>
    intro j hj
    have hjn : j = (msz M i) := by omega
    subst hjn
    refine zv_iload (pc := 8) C dMo_sumIn_8 rfl ?_
    refine zv_bipush (pc := 10) (v := 20) C dMo_sumIn_10 (by decide) ?_
    refine zv_iload_n (pc := 12) C dMo_sumIn_12 rfl ?_
    refine zv_imul (pc := 13) C dMo_sumIn_13 ?_
    refine zv_aload_n (pc := 14) C dMo_sumIn_14 rfl ?_
    refine zv_get (pc := 15) C dMo_sumIn_15 fMo_42 (by first | assumption | exact zu_s | (refine (zu_n (by assumption)).trans ?_; first | assumption | exact zu_s)) rfl ?_
    refine zv_iload_n (pc := 18) C dMo_sumIn_18 rfl ?_
    refine zn_iald (pc := 19) C dMo_sumIn_19 (by first | assumption | exact zu_s | (refine (zu_n (by assumption)).trans ?_; first | assumption | exact zu_s)) (by omega) (by omega) ?_
    refine zv_iadd (pc := 20) C dMo_sumIn_20 ?_
    refine zv_topi (zn_20k i (msz M i)) ?_
    refine zv_icmp_ge (pc := 21) (tgt := 60) C dMo_sumIn_21 (by decide) (fun cX => ?_) (fun cX => absurd (nI_le (a := 20 * i + (msz M i)) (b := 20 * i + (msz M i)) (Nat.le_refl _) (by omega)) cX)
    exact kk
  | succ k ih =>
    intro j hj
    refine zv_iload (pc := 8) C dMo_sumIn_8 rfl ?_
    refine zv_bipush (pc := 10) (v := 20) C dMo_sumIn_10 (by decide) ?_
    refine zv_iload_n (pc := 12) C dMo_sumIn_12 rfl ?_
    refine zv_imul (pc := 13) C dMo_sumIn_13 ?_
    refine zv_aload_n (pc := 14) C dMo_sumIn_14 rfl ?_
    refine zv_get (pc := 15) C dMo_sumIn_15 fMo_42 (by first | assumption | exact zu_s | (refine (zu_n (by assumption)).trans ?_; first | assumption | exact zu_s)) rfl ?_
    refine zv_iload_n (pc := 18) C dMo_sumIn_18 rfl ?_
    refine zn_iald (pc := 19) C dMo_sumIn_19 (by first | assumption | exact zu_s | (refine (zu_n (by assumption)).trans ?_; first | assumption | exact zu_s)) (by omega) (by omega) ?_
    refine zv_iadd (pc := 20) C dMo_sumIn_20 ?_
    refine zv_topi (zn_20k i (msz M i)) ?_
    refine zv_icmp_ge (pc := 21) (tgt := 60) C dMo_sumIn_21 (by decide) (fun cX => absurd cX (nI_ge (a := 20 * i + j) (b := 20 * i + msz M i) (by omega) (by omega))) (fun cX => ?_)
    refine zv_lload_n (pc := 24) C dMo_sumIn_24 rfl ?_
    refine zv_iload_n (pc := 25) C dMo_sumIn_25 rfl ?_
    refine zv_iconst (pc := 26) (v := -1) C dMo_sumIn_26 (by decide) ?_
    refine zv_icmp_eq (pc := 27) (tgt := 41) C dMo_sumIn_27 (by decide) (fun c27 => absurd c27 hx) (fun c27 => ?_)
    refine zv_aload_n (pc := 30) C dMo_sumIn_30 rfl ?_
    refine zv_get (pc := 31) C dMo_sumIn_31 fMo_45 (by first | assumption | exact zu_s | (refine (zu_n (by assumption)).trans ?_; first | assumption | exact zu_s)) rfl ?_
    refine zv_iload (pc := 34) C dMo_sumIn_34 rfl ?_
    refine zn_iald (pc := 36) C dMo_sumIn_36 (by first | assumption | exact zu_s | (refine (zu_n (by assumption)).trans ?_; first | assumption | exact zu_s)) (by omega) (by omega) ?_
    refine zv_iload_n (pc := 37) C dMo_sumIn_37 rfl ?_
    refine zv_icmp_ne (pc := 38) (tgt := 51) C dMo_sumIn_38 (by decide) (fun c38 => ?_) (fun c38 => ?_)
    · refine zv_lconst (pc := 51) (v := 0) C dMo_sumIn_51 (by decide) ?_
      refine zv_ladd (pc := 52) C dMo_sumIn_52 ?_
      refine zv_lstore_n (pc := 53) C dMo_sumIn_53 (by decide) ?_
      refine zv_iinc (pc := 54) C dMo_sumIn_54 rfl (zn_inc (20 * i + j)) (by decide) ?_
      refine zv_goto (pc := 57) (tgt := 8) C dMo_sumIn_57 (by decide) ?_
      exact zv_pick [0, 1, 2, 3, 5] rfl (by
        have h := ih (j + 1) (by omega)
        first
        | (have hB : decide (mfa M i j = x) = true := by simp [mfa, c38]
           simp only [sumA, hB, if_true] at h
           exact h)
        | (have hB : decide (mfa M i j = x) = false := by simp [mfa, c38]
           simp only [sumA, hB, Bool.false_eq_true, if_false] at h
           simp only [Int64.add_zero]
           exact h))
    · refine zv_aload_n (pc := 41) C dMo_sumIn_41 rfl ?_
      refine zv_get (pc := 42) C dMo_sumIn_42 fMo_48 (by first | assumption | exact zu_s | (refine (zu_n (by assumption)).trans ?_; first | assumption | exact zu_s)) rfl ?_
      refine zv_iload (pc := 45) C dMo_sumIn_45 rfl ?_
      refine zn_lald (pc := 47) C dMo_sumIn_47 (by first | assumption | exact zu_s | (refine (zu_n (by assumption)).trans ?_; first | assumption | exact zu_s)) (by omega) (by omega) ?_
      refine zv_goto (pc := 48) (tgt := 52) C dMo_sumIn_48 (by decide) ?_
      refine zv_ladd (pc := 52) C dMo_sumIn_52 ?_
      refine zv_lstore_n (pc := 53) C dMo_sumIn_53 (by decide) ?_
      refine zv_iinc (pc := 54) C dMo_sumIn_54 rfl (zn_inc (20 * i + j)) (by decide) ?_
      refine zv_goto (pc := 57) (tgt := 8) C dMo_sumIn_57 (by decide) ?_
      exact zv_pick [0, 1, 2, 3, 5] rfl (by
        have h := ih (j + 1) (by omega)
        first
        | (have hB : decide (mfa M i j = x) = true := by simp [mfa, c38]
           simp only [sumA, hB, if_true] at h
           exact h)
        | (have hB : decide (mfa M i j = x) = false := by simp [mfa, c38]
           simp only [sumA, hB, Bool.false_eq_true, if_false] at h
           simp only [Int64.add_zero]
           exact h))
set_option maxHeartbeats 4000000 in
set_option maxRecDepth 100000 in
theorem cMo_sumInN {O : zO} {l : Launch} (hk : zK O l) (G : zG) (i : Nat) {am : Nat → Nat} {M : aM} (hM : zMm O G am M) (hO : mOk M) (hi : i < 100) : zM O l yMo_sumIn [Cond.code yMo_sumIn bMo_sumIn 6 (some .long)] rmMo_sumIn [.ref (am 0), .int (nI i), .int (-1)] G 0 0 (zPr (.long (sumL (mfc M i) (msz M i))) G) zNo := by
  refine zm_of hk (by decide) (Nat.le_of_ble_eq_true rfl) ?_
  intro p e s m below meth c C hex hr hnm
  obtain ⟨hinj, h0, h1, h2, h3, h4, h5, h6, h7, h8, h9, h10, h11, h12, h13⟩ := id hM
  obtain ⟨o1, o2, o3, o4, o5⟩ := id hO
  refine zv_lconst (pc := 0) (v := 0) C dMo_sumIn_0 (by decide) ?_
  refine zv_lstore_n (pc := 1) C dMo_sumIn_1 (by decide) ?_
  refine zv_bipush (pc := 2) (v := 20) C dMo_sumIn_2 (by decide) ?_
  refine zv_iload_n (pc := 4) C dMo_sumIn_4 rfl ?_
  refine zv_imul (pc := 5) C dMo_sumIn_5 ?_
  refine zv_topi (zn_20 i) ?_
  refine zv_istore (pc := 6) C dMo_sumIn_6 (by decide) ?_
  refine zv_pick [0, 1, 2, 3, 5] rfl (lMo_sumInN i C h0 h8 h9 h10 hi (o4 i hi) ?_ (msz M i) 0 (by omega))
  refine zv_lload_n (pc := 60) C dMo_sumIn_60 rfl ?_
  exact zv_lret (pc := 61) C hr dMo_sumIn_61 (Nat.le_of_ble_eq_true rfl) (Nat.le_of_ble_eq_true rfl) (by exact ⟨rfl, rfl⟩)
set_option maxHeartbeats 4000000 in
set_option maxRecDepth 100000 in
theorem cMo_sumInA {O : zO} {l : Launch} (hk : zK O l) (G : zG) (i : Nat) (x : Int32) {am : Nat → Nat} {M : aM} (hM : zMm O G am M) (hO : mOk M) (hi : i < 100) (hx : ¬ x = -1) : zM O l yMo_sumIn [Cond.code yMo_sumIn bMo_sumIn 6 (some .long)] rmMo_sumIn [.ref (am 0), .int (nI i), .int x] G 0 0 (zPr (.long (sumA (mfa M i) (mfc M i) x (msz M i))) G) zNo := by
  refine zm_of hk (by decide) (Nat.le_of_ble_eq_true rfl) ?_
  intro p e s m below meth c C hex hr hnm
  obtain ⟨hinj, h0, h1, h2, h3, h4, h5, h6, h7, h8, h9, h10, h11, h12, h13⟩ := id hM
  obtain ⟨o1, o2, o3, o4, o5⟩ := id hO
  refine zv_lconst (pc := 0) (v := 0) C dMo_sumIn_0 (by decide) ?_
  refine zv_lstore_n (pc := 1) C dMo_sumIn_1 (by decide) ?_
  refine zv_bipush (pc := 2) (v := 20) C dMo_sumIn_2 (by decide) ?_
  refine zv_iload_n (pc := 4) C dMo_sumIn_4 rfl ?_
  refine zv_imul (pc := 5) C dMo_sumIn_5 ?_
  refine zv_topi (zn_20 i) ?_
  refine zv_istore (pc := 6) C dMo_sumIn_6 (by decide) ?_
  refine zv_pick [0, 1, 2, 3, 5] rfl (lMo_sumInA i x C h0 h8 h9 h10 hi (o4 i hi) hx ?_ (msz M i) 0 (by omega))
  refine zv_lload_n (pc := 60) C dMo_sumIn_60 rfl ?_
  exact zv_lret (pc := 61) C hr dMo_sumIn_61 (Nat.le_of_ble_eq_true rfl) (Nat.le_of_ble_eq_true rfl) (by exact ⟨rfl, rfl⟩)
def wrongM (M : aM) (i : Nat) : Int32 := if nI (msz M i) = 0 then 1 else if ¬ sumL (mfc M i) (msz M i) = 0 then 2 else if ¬ (mcd M < mkn M i) then 3 else if ¬ (mlk M ≤ mkn M i) then 4 else if ¬ nI (mn M + msz M i) ≤ 400 then 5 else 0
set_option maxHeartbeats 4000000 in
set_option maxRecDepth 100000 in
theorem cMo_wrongWith {O : zO} {l : Launch} (hk : zK O l) (G : zG) (i : Nat) {am : Nat → Nat} {M : aM} (hM : zMm O G am M) (hO : mOk M) (hi : i < 100) : zM O l yMo_wrongWith [Cond.code yMo_wrongWith bMo_wrongWith 2 (some .int)] rmMo_wrongWith [.ref (am 0), .int (nI i)] G 0 0 (zPr (.int (wrongM M i)) G) zNo := by
  refine zm_of hk (by decide) (Nat.le_of_ble_eq_true rfl) ?_
  intro p e s m below meth c C hex hr hnm
  obtain ⟨hinj, h0, h1, h2, h3, h4, h5, h6, h7, h8, h9, h10, h11, h12, h13⟩ := id hM
  obtain ⟨o1, o2, o3, o4, o5⟩ := id hO
  refine zv_aload_n (pc := 0) C dMo_wrongWith_0 rfl ?_
  refine zv_get (pc := 1) C dMo_wrongWith_1 fMo_42 (by first | assumption | exact zu_s | (refine (zu_n (hM.ne (by omega) (by omega) (by omega))).trans ?_; first | assumption | exact zu_s)) rfl ?_
  refine zv_iload_n (pc := 4) C dMo_wrongWith_4 rfl ?_
  refine zn_iald (pc := 5) C dMo_wrongWith_5 (by first | assumption | exact zu_s | (refine (zu_n (hM.ne (by omega) (by omega) (by omega))).trans ?_; first | assumption | exact zu_s)) (by omega) (by omega) ?_
  refine zv_if_ne (pc := 6) (tgt := 11) C dMo_wrongWith_6 (by decide) (fun c6 => ?_) (fun c6 => ?_)
  · refine zv_aload_n (pc := 11) C dMo_wrongWith_11 rfl ?_
    refine zv_iload_n (pc := 12) C dMo_wrongWith_12 rfl ?_
    refine zv_iconst (pc := 13) (v := -1) C dMo_wrongWith_13 (by decide) ?_
    refine zv_callV (pc := 14) C dMo_wrongWith_14 (cMo_sumInN hk _ _ hM hO hi) gMo_99 ⟨rfl, rfl, ⟨Nat.le_of_ble_eq_true rfl, Nat.le_of_ble_eq_true rfl⟩, mMo_sumIn⟩ rfl rfl (Nat.le_of_ble_eq_true rfl) (by first | assumption | exact zu_s | (refine (zu_n (hM.ne (by omega) (by omega) (by omega))).trans ?_; first | assumption | exact zu_s)) rfl rfl ⟨Nat.le_of_ble_eq_true rfl, Nat.le_of_ble_eq_true rfl⟩ (fun _ _ h => h.elim) (fun v G' h => ?_)
    obtain ⟨rfl, rfl⟩ := h
    refine zv_lconst (pc := 17) (v := 0) C dMo_wrongWith_17 (by decide) ?_
    refine zv_lcmp (pc := 18) C dMo_wrongWith_18 ?_
    refine zv_if_eq (pc := 19) (tgt := 24) C dMo_wrongWith_19 (by decide) (fun c19 => ?_) (fun c19 => ?_)
    · refine zv_aload_n (pc := 24) C dMo_wrongWith_24 rfl ?_
      refine zv_get (pc := 25) C dMo_wrongWith_25 fMo_29 (by first | assumption | exact zu_s | (refine (zu_n (hM.ne (by omega) (by omega) (by omega))).trans ?_; first | assumption | exact zu_s)) rfl ?_
      refine zv_iload_n (pc := 28) C dMo_wrongWith_28 rfl ?_
      refine zn_iald (pc := 29) C dMo_wrongWith_29 (by first | assumption | exact zu_s | (refine (zu_n (hM.ne (by omega) (by omega) (by omega))).trans ?_; first | assumption | exact zu_s)) (by omega) (by omega) ?_
      refine zv_aload_n (pc := 30) C dMo_wrongWith_30 rfl ?_
      refine zv_get (pc := 31) C dMo_wrongWith_31 fMo_9 (by first | assumption | exact zu_s | (refine (zu_n (hM.ne (by omega) (by omega) (by omega))).trans ?_; first | assumption | exact zu_s)) rfl ?_
      refine zv_icmp_gt (pc := 34) (tgt := 39) C dMo_wrongWith_34 (by decide) (fun c34 => ?_) (fun c34 => ?_)
      · refine zv_aload_n (pc := 39) C dMo_wrongWith_39 rfl ?_
        refine zv_get (pc := 40) C dMo_wrongWith_40 fMo_29 (by first | assumption | exact zu_s | (refine (zu_n (hM.ne (by omega) (by omega) (by omega))).trans ?_; first | assumption | exact zu_s)) rfl ?_
        refine zv_iload_n (pc := 43) C dMo_wrongWith_43 rfl ?_
        refine zn_iald (pc := 44) C dMo_wrongWith_44 (by first | assumption | exact zu_s | (refine (zu_n (hM.ne (by omega) (by omega) (by omega))).trans ?_; first | assumption | exact zu_s)) (by omega) (by omega) ?_
        refine zv_aload_n (pc := 45) C dMo_wrongWith_45 rfl ?_
        refine zv_get (pc := 46) C dMo_wrongWith_46 fMo_13 (by first | assumption | exact zu_s | (refine (zu_n (hM.ne (by omega) (by omega) (by omega))).trans ?_; first | assumption | exact zu_s)) rfl ?_
        refine zv_icmp_ge (pc := 49) (tgt := 56) C dMo_wrongWith_49 (by decide) (fun c49 => ?_) (fun c49 => ?_)
        · refine zv_aload_n (pc := 56) C dMo_wrongWith_56 rfl ?_
          refine zv_get (pc := 57) C dMo_wrongWith_57 fMo_103 (by first | assumption | exact zu_s | (refine (zu_n (hM.ne (by omega) (by omega) (by omega))).trans ?_; first | assumption | exact zu_s)) rfl ?_
          refine zv_aload_n (pc := 60) C dMo_wrongWith_60 rfl ?_
          refine zv_get (pc := 61) C dMo_wrongWith_61 fMo_42 (by first | assumption | exact zu_s | (refine (zu_n (hM.ne (by omega) (by omega) (by omega))).trans ?_; first | assumption | exact zu_s)) rfl ?_
          refine zv_iload_n (pc := 64) C dMo_wrongWith_64 rfl ?_
          refine zn_iald (pc := 65) C dMo_wrongWith_65 (by first | assumption | exact zu_s | (refine (zu_n (hM.ne (by omega) (by omega) (by omega))).trans ?_; first | assumption | exact zu_s)) (by omega) (by omega) ?_
          refine zv_iadd (pc := 66) C dMo_wrongWith_66 ?_
          refine zv_topi (nI_add (mn M) (msz M i)) ?_
          refine zv_sipush (pc := 67) (v := 400) C dMo_wrongWith_67 (by decide) ?_
          refine zv_icmp_le (pc := 70) (tgt := 77) C dMo_wrongWith_70 (by decide) (fun c70 => ?_) (fun c70 => ?_)
          · refine zv_iconst (pc := 77) (v := 0) C dMo_wrongWith_77 (by decide) ?_
            exact zv_iret (pc := 78) C hr dMo_wrongWith_78 (Nat.le_of_ble_eq_true rfl) (Nat.le_of_ble_eq_true rfl) (by simp only [lg_cmp_eq] at c19; simp [zPr, wrongM, c6, c19, c34, c49, c70])
          · refine zv_iconst (pc := 73) (v := 5) C dMo_wrongWith_73 (by decide) ?_
            refine zv_goto (pc := 74) (tgt := 78) C dMo_wrongWith_74 (by decide) ?_
            exact zv_iret (pc := 78) C hr dMo_wrongWith_78 (Nat.le_of_ble_eq_true rfl) (Nat.le_of_ble_eq_true rfl) (by simp only [lg_cmp_eq] at c19; simp [zPr, wrongM, c6, c19, c34, c49, c70])
        · refine zv_iconst (pc := 52) (v := 4) C dMo_wrongWith_52 (by decide) ?_
          refine zv_goto (pc := 53) (tgt := 78) C dMo_wrongWith_53 (by decide) ?_
          exact zv_iret (pc := 78) C hr dMo_wrongWith_78 (Nat.le_of_ble_eq_true rfl) (Nat.le_of_ble_eq_true rfl) (by simp only [lg_cmp_eq] at c19; simp [zPr, wrongM, c6, c19, c34, c49])
      · refine zv_iconst (pc := 37) (v := 3) C dMo_wrongWith_37 (by decide) ?_
        exact zv_iret (pc := 38) C hr dMo_wrongWith_38 (Nat.le_of_ble_eq_true rfl) (Nat.le_of_ble_eq_true rfl) (by simp only [lg_cmp_eq] at c19; simp [zPr, wrongM, c6, c19, c34])
    · refine zv_iconst (pc := 22) (v := 2) C dMo_wrongWith_22 (by decide) ?_
      exact zv_iret (pc := 23) C hr dMo_wrongWith_23 (Nat.le_of_ble_eq_true rfl) (Nat.le_of_ble_eq_true rfl) (by simp only [lg_cmp_eq] at c19; simp [zPr, wrongM, c6, c19])
  · refine zv_iconst (pc := 9) (v := 1) C dMo_wrongWith_9 (by decide) ?_
    exact zv_iret (pc := 10) C hr dMo_wrongWith_10 (Nat.le_of_ble_eq_true rfl) (Nat.le_of_ble_eq_true rfl) (by simp [zPr, wrongM, c6])
theorem absN (x : Int64) : (if x < 0 then -x else x) = absL x := by
  unfold absL
  by_cases h : x < 0
  · rw [if_pos h, if_neg (by rw [Int64.lt_iff_toInt_lt] at *; omega)]
  · rw [if_neg h]
    by_cases h2 : 0 < x
    · rw [if_pos h2]
    · rw [if_neg h2]
      have : x = 0 := by
        have e : (0 : Int64).toInt = 0 := rfl
        rw [Int64.lt_iff_toInt_lt, e] at h h2
        exact Int64.toInt_inj.mp (by rw [e]; omega)
      rw [this]; rfl
theorem abs_lt {x : Int64} (h : x < 0) : -x = absL x := by rw [← absN, if_pos h]
theorem abs_ge {x : Int64} (h : ¬ x < 0) : x = absL x := by rw [← absN, if_neg h]
theorem nI_n1 {a : Nat} (h : a < 2 ^ 31) : ¬ nI a = -1 := fun e => by
  have := nI_toInt h
  rw [e] at this
  have : (-1 : Int32).toInt = -1 := rfl
  omega
set_option maxHeartbeats 4000000 in
set_option maxRecDepth 100000 in
theorem lMo_greatestIn {O : zO} {p : Program} {l : Launch} {e : Env} {s : State} {m : MethodId} {args : Array Value} {below : List Frame} {meth : Method} {c : Code} {Q : State → Prop} {G : zG} (hk : zK O l) (i : Nat) {am : Nat → Nat} {M : aM} (C : zC O p l s m meth c RMo bMo_greatestIn 8) (hM : zMm O G am M) (hO : mOk M) (hi : i < 100) (kk : zV O p l e rmMo_greatestIn s m args below meth c 8 Q 76 [(0, .ref (am 0)), (1, .int (nI i)), (2, .int (farP (mfa M i) (mfc M i) (msz M i) (mna M)).1), (3, .long (farP (mfa M i) (mfc M i) (msz M i) (mna M)).2), (5, .int (nI (mna M)))] [] G 0 0) : ∀ k j : Nat, j + k = (mna M) → zV O p l e rmMo_greatestIn s m args below meth c 8 Q 7 [(0, .ref (am 0)), (1, .int (nI i)), (2, .int (farP (mfa M i) (mfc M i) (msz M i) j).1), (3, .long (farP (mfa M i) (mfc M i) (msz M i) j).2), (5, .int (nI j))] [] G 0 0 := by
  intro k
  induction k with
  | zero =>
    intro j hj
    obtain ⟨hinj, h0, h1, h2, h3, h4, h5, h6, h7, h8, h9, h10, h11, h12, h13⟩ := id hM
    obtain ⟨o1, o2, o3, o4, o5⟩ := id hO
    have hjn : j = (mna M) := by omega
    subst hjn
    refine zv_iload (pc := 7) C dMo_greatestIn_7 rfl ?_
    refine zv_aload_n (pc := 9) C dMo_greatestIn_9 rfl ?_
    refine zv_get (pc := 10) C dMo_greatestIn_10 fMo_72 (by first | assumption | exact zu_s | (refine (zu_n (by assumption)).trans ?_; first | assumption | exact zu_s)) rfl ?_
    refine zv_icmp_ge (pc := 13) (tgt := 76) C dMo_greatestIn_13 (by decide) (fun cX => ?_) (fun cX => absurd (nI_le (a := (mna M)) (b := (mna M)) (Nat.le_refl _) (by omega)) cX)
    exact kk
  | succ k ih =>
    intro j hj
    obtain ⟨hinj, h0, h1, h2, h3, h4, h5, h6, h7, h8, h9, h10, h11, h12, h13⟩ := id hM
    obtain ⟨o1, o2, o3, o4, o5⟩ := id hO
    refine zv_iload (pc := 7) C dMo_greatestIn_7 rfl ?_
    refine zv_aload_n (pc := 9) C dMo_greatestIn_9 rfl ?_
    refine zv_get (pc := 10) C dMo_greatestIn_10 fMo_72 (by first | assumption | exact zu_s | (refine (zu_n (by assumption)).trans ?_; first | assumption | exact zu_s)) rfl ?_
    refine zv_icmp_ge (pc := 13) (tgt := 76) C dMo_greatestIn_13 (by decide) (fun cX => absurd cX (nI_ge (a := j) (b := (mna M)) (by omega) (by omega))) (fun cX => ?_)
    refine zv_aload_n (pc := 16) C dMo_greatestIn_16 rfl ?_
    refine zv_iload_n (pc := 17) C dMo_greatestIn_17 rfl ?_
    refine zv_iload (pc := 18) C dMo_greatestIn_18 rfl ?_
    refine zv_callV (pc := 20) C dMo_greatestIn_20 (cMo_sumInA hk _ _ _ hM hO hi (nI_n1 (by omega))) gMo_99 ⟨rfl, rfl, ⟨Nat.le_of_ble_eq_true rfl, Nat.le_of_ble_eq_true rfl⟩, mMo_sumIn⟩ rfl rfl (Nat.le_of_ble_eq_true rfl) (by first | assumption | exact zu_s | (refine (zu_n (by assumption)).trans ?_; first | assumption | exact zu_s)) rfl rfl ⟨Nat.le_of_ble_eq_true rfl, Nat.le_of_ble_eq_true rfl⟩ (fun _ _ h => h.elim) (fun v G' h => ?_)
    obtain ⟨rfl, rfl⟩ := h
    refine zv_lstore (pc := 23) C dMo_greatestIn_23 (by decide) ?_
    refine zv_lload (pc := 25) C dMo_greatestIn_25 rfl ?_
    refine zv_lconst (pc := 27) (v := 0) C dMo_greatestIn_27 (by decide) ?_
    refine zv_lcmp (pc := 28) C dMo_greatestIn_28 ?_
    refine zv_if_ge (pc := 29) (tgt := 38) C dMo_greatestIn_29 (by decide) (fun c29 => ?_) (fun c29 => ?_)
    · refine zv_lload (pc := 38) C dMo_greatestIn_38 rfl ?_
      refine zv_topl (y := absL (sumA (mfa M i) (mfc M i) (nI j) (msz M i))) (by simp only [lg_cmp_ge, Int64.not_le] at c29; first | exact abs_lt c29 | exact abs_ge (Int64.not_lt.mpr c29)) ?_
      refine zv_lstore (pc := 40) C dMo_greatestIn_40 (by decide) ?_
      refine zv_lload (pc := 42) C dMo_greatestIn_42 rfl ?_
      refine zv_lload_n (pc := 44) C dMo_greatestIn_44 rfl ?_
      refine zv_lcmp (pc := 45) C dMo_greatestIn_45 ?_
      refine zv_if_le (pc := 46) (tgt := 54) C dMo_greatestIn_46 (by decide) (fun c46 => ?_) (fun c46 => ?_)
      · refine zv_iload_n (pc := 54) C dMo_greatestIn_54 rfl ?_
        refine zv_istore_n (pc := 55) C dMo_greatestIn_55 (by decide) ?_
        refine zv_lload (pc := 56) C dMo_greatestIn_56 rfl ?_
        refine zv_lload_n (pc := 58) C dMo_greatestIn_58 rfl ?_
        refine zv_lcmp (pc := 59) C dMo_greatestIn_59 ?_
        refine zv_if_le (pc := 60) (tgt := 68) C dMo_greatestIn_60 (by decide) (fun c60 => ?_) (fun c60 => absurd c46 c60)
        refine zv_lload_n (pc := 68) C dMo_greatestIn_68 rfl ?_
        refine zv_lstore_n (pc := 69) C dMo_greatestIn_69 (by decide) ?_
        refine zv_iinc (pc := 70) C dMo_greatestIn_70 rfl (zn_inc j) (by decide) ?_
        refine zv_goto (pc := 73) (tgt := 7) C dMo_greatestIn_73 (by decide) ?_
        exact zv_pick [0, 1, 2, 3, 5] rfl (by
          have h := ih (j + 1) (by omega)
          simp only [lg_cmp_le, Int64.not_le] at c46
          first
            | (have hB : decide ((farP (mfa M i) (mfc M i) (msz M i) j).2 < absL (sumA (mfa M i) (mfc M i) (nI j) (msz M i))) = true := by simp [c46, Int64.not_lt]
               simp only [farP, hB, if_true] at h
               exact h)
            | (have hB : decide ((farP (mfa M i) (mfc M i) (msz M i) j).2 < absL (sumA (mfa M i) (mfc M i) (nI j) (msz M i))) = false := by simp [c46, Int64.not_lt]
               simp only [farP, hB, Bool.false_eq_true, if_false] at h
               exact h))
      · refine zv_iload (pc := 49) C dMo_greatestIn_49 rfl ?_
        refine zv_goto (pc := 51) (tgt := 55) C dMo_greatestIn_51 (by decide) ?_
        refine zv_istore_n (pc := 55) C dMo_greatestIn_55 (by decide) ?_
        refine zv_lload (pc := 56) C dMo_greatestIn_56 rfl ?_
        refine zv_lload_n (pc := 58) C dMo_greatestIn_58 rfl ?_
        refine zv_lcmp (pc := 59) C dMo_greatestIn_59 ?_
        refine zv_if_le (pc := 60) (tgt := 68) C dMo_greatestIn_60 (by decide) (fun c60 => absurd c60 c46) (fun c60 => ?_)
        refine zv_lload (pc := 63) C dMo_greatestIn_63 rfl ?_
        refine zv_goto (pc := 65) (tgt := 69) C dMo_greatestIn_65 (by decide) ?_
        refine zv_lstore_n (pc := 69) C dMo_greatestIn_69 (by decide) ?_
        refine zv_iinc (pc := 70) C dMo_greatestIn_70 rfl (zn_inc j) (by decide) ?_
        refine zv_goto (pc := 73) (tgt := 7) C dMo_greatestIn_73 (by decide) ?_
        exact zv_pick [0, 1, 2, 3, 5] rfl (by
          have h := ih (j + 1) (by omega)
          simp only [lg_cmp_le, Int64.not_le] at c46
          first
            | (have hB : decide ((farP (mfa M i) (mfc M i) (msz M i) j).2 < absL (sumA (mfa M i) (mfc M i) (nI j) (msz M i))) = true := by simp [c46, Int64.not_lt]
               simp only [farP, hB, if_true] at h
               exact h)
            | (have hB : decide ((farP (mfa M i) (mfc M i) (msz M i) j).2 < absL (sumA (mfa M i) (mfc M i) (nI j) (msz M i))) = false := by simp [c46, Int64.not_lt]
               simp only [farP, hB, Bool.false_eq_true, if_false] at h
               exact h))
    · refine zv_lload (pc := 32) C dMo_greatestIn_32 rfl ?_
      refine zv_lneg (pc := 34) C dMo_greatestIn_34 ?_
      refine zv_goto (pc := 35) (tgt := 40) C dMo_greatestIn_35 (by decide) ?_
      refine zv_topl (y := absL (sumA (mfa M i) (mfc M i) (nI j) (msz M i))) (by simp only [lg_cmp_ge, Int64.not_le] at c29; first | exact abs_lt c29 | exact abs_ge (Int64.not_lt.mpr c29)) ?_
      refine zv_lstore (pc := 40) C dMo_greatestIn_40 (by decide) ?_
      refine zv_lload (pc := 42) C dMo_greatestIn_42 rfl ?_
      refine zv_lload_n (pc := 44) C dMo_greatestIn_44 rfl ?_
      refine zv_lcmp (pc := 45) C dMo_greatestIn_45 ?_
      refine zv_if_le (pc := 46) (tgt := 54) C dMo_greatestIn_46 (by decide) (fun c46 => ?_) (fun c46 => ?_)
      · refine zv_iload_n (pc := 54) C dMo_greatestIn_54 rfl ?_
        refine zv_istore_n (pc := 55) C dMo_greatestIn_55 (by decide) ?_
        refine zv_lload (pc := 56) C dMo_greatestIn_56 rfl ?_
        refine zv_lload_n (pc := 58) C dMo_greatestIn_58 rfl ?_
        refine zv_lcmp (pc := 59) C dMo_greatestIn_59 ?_
        refine zv_if_le (pc := 60) (tgt := 68) C dMo_greatestIn_60 (by decide) (fun c60 => ?_) (fun c60 => absurd c46 c60)
        refine zv_lload_n (pc := 68) C dMo_greatestIn_68 rfl ?_
        refine zv_lstore_n (pc := 69) C dMo_greatestIn_69 (by decide) ?_
        refine zv_iinc (pc := 70) C dMo_greatestIn_70 rfl (zn_inc j) (by decide) ?_
        refine zv_goto (pc := 73) (tgt := 7) C dMo_greatestIn_73 (by decide) ?_
        exact zv_pick [0, 1, 2, 3, 5] rfl (by
          have h := ih (j + 1) (by omega)
          simp only [lg_cmp_le, Int64.not_le] at c46
          first
            | (have hB : decide ((farP (mfa M i) (mfc M i) (msz M i) j).2 < absL (sumA (mfa M i) (mfc M i) (nI j) (msz M i))) = true := by simp [c46, Int64.not_lt]
               simp only [farP, hB, if_true] at h
               exact h)
            | (have hB : decide ((farP (mfa M i) (mfc M i) (msz M i) j).2 < absL (sumA (mfa M i) (mfc M i) (nI j) (msz M i))) = false := by simp [c46, Int64.not_lt]
               simp only [farP, hB, Bool.false_eq_true, if_false] at h
               exact h))
      · refine zv_iload (pc := 49) C dMo_greatestIn_49 rfl ?_
        refine zv_goto (pc := 51) (tgt := 55) C dMo_greatestIn_51 (by decide) ?_
        refine zv_istore_n (pc := 55) C dMo_greatestIn_55 (by decide) ?_
        refine zv_lload (pc := 56) C dMo_greatestIn_56 rfl ?_
        refine zv_lload_n (pc := 58) C dMo_greatestIn_58 rfl ?_
        refine zv_lcmp (pc := 59) C dMo_greatestIn_59 ?_
        refine zv_if_le (pc := 60) (tgt := 68) C dMo_greatestIn_60 (by decide) (fun c60 => absurd c60 c46) (fun c60 => ?_)
        refine zv_lload (pc := 63) C dMo_greatestIn_63 rfl ?_
        refine zv_goto (pc := 65) (tgt := 69) C dMo_greatestIn_65 (by decide) ?_
        refine zv_lstore_n (pc := 69) C dMo_greatestIn_69 (by decide) ?_
        refine zv_iinc (pc := 70) C dMo_greatestIn_70 rfl (zn_inc j) (by decide) ?_
        refine zv_goto (pc := 73) (tgt := 7) C dMo_greatestIn_73 (by decide) ?_
        exact zv_pick [0, 1, 2, 3, 5] rfl (by
          have h := ih (j + 1) (by omega)
          simp only [lg_cmp_le, Int64.not_le] at c46
          first
            | (have hB : decide ((farP (mfa M i) (mfc M i) (msz M i) j).2 < absL (sumA (mfa M i) (mfc M i) (nI j) (msz M i))) = true := by simp [c46, Int64.not_lt]
               simp only [farP, hB, if_true] at h
               exact h)
            | (have hB : decide ((farP (mfa M i) (mfc M i) (msz M i) j).2 < absL (sumA (mfa M i) (mfc M i) (nI j) (msz M i))) = false := by simp [c46, Int64.not_lt]
               simp only [farP, hB, Bool.false_eq_true, if_false] at h
               exact h))
set_option maxHeartbeats 4000000 in
set_option maxRecDepth 100000 in
theorem cMo_greatestIn {O : zO} {l : Launch} (hk : zK O l) (G : zG) (i : Nat) {am : Nat → Nat} {M : aM} (hM : zMm O G am M) (hO : mOk M) (hi : i < 100) : zM O l yMo_greatestIn [Cond.code yMo_greatestIn bMo_greatestIn 8 (some .int)] rmMo_greatestIn [.ref (am 0), .int (nI i)] G 0 0 (zPr (.int (farP (mfa M i) (mfc M i) (msz M i) (mna M)).1) G) zNo := by
  refine zm_of hk (by decide) (Nat.le_of_ble_eq_true rfl) ?_
  intro p e s m below meth c C hex hr hnm
  obtain ⟨hinj, h0, h1, h2, h3, h4, h5, h6, h7, h8, h9, h10, h11, h12, h13⟩ := id hM
  obtain ⟨o1, o2, o3, o4, o5⟩ := id hO
  refine zv_iconst (pc := 0) (v := -1) C dMo_greatestIn_0 (by decide) ?_
  refine zv_istore_n (pc := 1) C dMo_greatestIn_1 (by decide) ?_
  refine zv_lconst (pc := 2) (v := 0) C dMo_greatestIn_2 (by decide) ?_
  refine zv_lstore_n (pc := 3) C dMo_greatestIn_3 (by decide) ?_
  refine zv_iconst (pc := 4) (v := 0) C dMo_greatestIn_4 (by decide) ?_
  refine zv_istore (pc := 5) C dMo_greatestIn_5 (by decide) ?_
  refine zv_pick [0, 1, 2, 3, 5] rfl (lMo_greatestIn hk i C hM hO hi ?_ (mna M) 0 (by omega))
  refine zv_iload_n (pc := 76) C dMo_greatestIn_76 rfl ?_
  exact zv_iret (pc := 77) C hr dMo_greatestIn_77 (Nat.le_of_ble_eq_true rfl) (Nat.le_of_ble_eq_true rfl) (by exact ⟨rfl, rfl⟩)
