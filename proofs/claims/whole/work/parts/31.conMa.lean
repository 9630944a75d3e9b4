set_option maxHeartbeats 4000000 in
set_option maxRecDepth 100000 in
theorem cMo_in {O : zO} {l : Launch} (hk : zK O l) (G : zG) (x a b : Int64) : zM O l yMo_in [Cond.code yMo_in bMo_in 6 (some .boolean)] rmMo_in [.long x, .long a, .long b] G 0 0 (zPr (.int (zb (inB x a b))) G) zNo := by
  refine zm_of hk (by decide) (Nat.le_of_ble_eq_true rfl) ?_
  intro p e s m below meth c C hex hr hnm
  refine zv_lload_n (pc := 0) C dMo_in_0 rfl ?_
  refine zv_lload_n (pc := 1) C dMo_in_1 rfl ?_
  refine zv_lcmp (pc := 2) C dMo_in_2 ?_
  refine zv_if_lt (pc := 3) (tgt := 17) C dMo_in_3 (by decide) (fun c3 => ?_) (fun c3 => ?_)
  · refine zv_iconst (pc := 17) (v := 0) C dMo_in_17 (by decide) ?_
    exact zv_zret (pc := 18) C hr (by first | rfl | exact zb_nar _) dMo_in_18 (Nat.le_of_ble_eq_true rfl) (Nat.le_of_ble_eq_true rfl) (by simp only [lg_cmp_lt, lg_cmp_gt] at c3; simp [zPr, zb, inB, c3])
  · refine zv_lload_n (pc := 6) C dMo_in_6 rfl ?_
    refine zv_lload (pc := 7) C dMo_in_7 rfl ?_
    refine zv_lcmp (pc := 9) C dMo_in_9 ?_
    refine zv_if_gt (pc := 10) (tgt := 17) C dMo_in_10 (by decide) (fun c10 => ?_) (fun c10 => ?_)
    · refine zv_iconst (pc := 17) (v := 0) C dMo_in_17 (by decide) ?_
      exact zv_zret (pc := 18) C hr (by first | rfl | exact zb_nar _) dMo_in_18 (Nat.le_of_ble_eq_true rfl) (Nat.le_of_ble_eq_true rfl) (by simp only [lg_cmp_lt, lg_cmp_gt] at c3 c10; simp [zPr, zb, inB, c3, c10])
    · refine zv_iconst (pc := 13) (v := 1) C dMo_in_13 (by decide) ?_
      refine zv_goto (pc := 14) (tgt := 18) C dMo_in_14 (by decide) ?_
      exact zv_zret (pc := 18) C hr (by first | rfl | exact zb_nar _) dMo_in_18 (Nat.le_of_ble_eq_true rfl) (Nat.le_of_ble_eq_true rfl) (by simp only [lg_cmp_lt, lg_cmp_gt] at c3 c10; simp [zPr, zb, inB, c3, c10])
set_option maxHeartbeats 4000000 in
set_option maxRecDepth 100000 in
theorem cMo_isDay {O : zO} {l : Launch} (hk : zK O l) (G : zG) (x : Int32) : zM O l yMo_isDay [Cond.code yMo_isDay bMo_isDay 1 (some .boolean)] rmMo_isDay [.int x] G 0 0 (zPr (.int (zb (isDayB x))) G) zNo := by
  refine zm_of hk (by decide) (Nat.le_of_ble_eq_true rfl) ?_
  intro p e s m below meth c C hex hr hnm
  refine zv_iload_n (pc := 0) C dMo_isDay_0 rfl ?_
  refine zv_i2l (pc := 1) C dMo_isDay_1 ?_
  refine zv_lconst (pc := 2) (v := 0) C dMo_isDay_2 (by decide) ?_
  refine zv_ldc2 (pc := 3) C dMo_isDay_3 zw_646 ?_
  refine zv_callS (pc := 6) C dMo_isDay_6 (cMo_in hk _ _ _ _) gMo_66 ⟨rfl, rfl, ⟨Nat.le_of_ble_eq_true rfl, Nat.le_of_ble_eq_true rfl⟩, mMo_in⟩ rfl rfl (Nat.le_of_ble_eq_true rfl) ⟨Nat.le_of_ble_eq_true rfl, Nat.le_of_ble_eq_true rfl⟩ (fun _ _ h => h.elim) (fun v G' h => ?_)
  obtain ⟨rfl, rfl⟩ := h
  exact zv_zret (pc := 9) C hr (by first | rfl | exact zb_nar _) dMo_isDay_9 (Nat.le_of_ble_eq_true rfl) (Nat.le_of_ble_eq_true rfl) (by exact ⟨by rw [← inB_day], rfl⟩)
set_option maxHeartbeats 4000000 in
set_option maxRecDepth 100000 in
theorem cMo_isKind {O : zO} {l : Launch} (hk : zK O l) (G : zG) (x : Int32) : zM O l yMo_isKind [Cond.code yMo_isKind bMo_isKind 1 (some .boolean)] rmMo_isKind [.int x] G 0 0 (zPr (.int (zb (isKindB x))) G) zNo := by
  refine zm_of hk (by decide) (Nat.le_of_ble_eq_true rfl) ?_
  intro p e s m below meth c C hex hr hnm
  refine zv_iload_n (pc := 0) C dMo_isKind_0 rfl ?_
  refine zv_i2l (pc := 1) C dMo_isKind_1 ?_
  refine zv_lconst (pc := 2) (v := 0) C dMo_isKind_2 (by decide) ?_
  refine zv_ldc2 (pc := 3) C dMo_isKind_3 zw_635 ?_
  refine zv_callS (pc := 6) C dMo_isKind_6 (cMo_in hk _ _ _ _) gMo_66 ⟨rfl, rfl, ⟨Nat.le_of_ble_eq_true rfl, Nat.le_of_ble_eq_true rfl⟩, mMo_in⟩ rfl rfl (Nat.le_of_ble_eq_true rfl) ⟨Nat.le_of_ble_eq_true rfl, Nat.le_of_ble_eq_true rfl⟩ (fun _ _ h => h.elim) (fun v G' h => ?_)
  obtain ⟨rfl, rfl⟩ := h
  exact zv_zret (pc := 9) C hr (by first | rfl | exact zb_nar _) dMo_isKind_9 (Nat.le_of_ble_eq_true rfl) (Nat.le_of_ble_eq_true rfl) (by exact ⟨by rw [← inB_kind], rfl⟩)
set_option maxHeartbeats 4000000 in
set_option maxRecDepth 100000 in
theorem cMo_isAccount {O : zO} {l : Launch} (hk : zK O l) (G : zG) (x : Int32) {am : Nat → Nat} {M : aM} (hM : zMm O G am M) (hO : mOk M) : zM O l yMo_isAccount [Cond.code yMo_isAccount bMo_isAccount 2 (some .boolean)] rmMo_isAccount [.ref (am 0), .int x] G 0 0 (zPr (.int (zb (isAccB x (nI (mna M))))) G) zNo := by
  refine zm_of hk (by decide) (Nat.le_of_ble_eq_true rfl) ?_
  intro p e s m below meth c C hex hr hnm
  obtain ⟨hinj, h0, h1, h2, h3, h4, h5, h6, h7, h8, h9, h10, h11, h12, h13⟩ := id hM
  obtain ⟨o1, o2, o3, o4, o5⟩ := id hO
  refine zv_iload_n (pc := 0) C dMo_isAccount_0 rfl ?_
  refine zv_if_lt (pc := 1) (tgt := 16) C dMo_isAccount_1 (by decide) (fun c1 => ?_) (fun c1 => ?_)
  · refine zv_iconst (pc := 16) (v := 0) C dMo_isAccount_16 (by decide) ?_
    exact zv_zret (pc := 17) C hr (by first | rfl | exact zb_nar _) dMo_isAccount_17 (Nat.le_of_ble_eq_true rfl) (Nat.le_of_ble_eq_true rfl) (by simp [zPr, zb, isAccB, c1])
  · refine zv_iload_n (pc := 4) C dMo_isAccount_4 rfl ?_
    refine zv_aload_n (pc := 5) C dMo_isAccount_5 rfl ?_
    refine zv_get (pc := 6) C dMo_isAccount_6 fMo_72 (by first | assumption | exact zu_s | (refine (zu_n (hM.ne (by omega) (by omega) (by omega))).trans ?_; first | assumption | exact zu_s)) rfl ?_
    refine zv_icmp_ge (pc := 9) (tgt := 16) C dMo_isAccount_9 (by decide) (fun c9 => ?_) (fun c9 => ?_)
    · refine zv_iconst (pc := 16) (v := 0) C dMo_isAccount_16 (by decide) ?_
      exact zv_zret (pc := 17) C hr (by first | rfl | exact zb_nar _) dMo_isAccount_17 (Nat.le_of_ble_eq_true rfl) (Nat.le_of_ble_eq_true rfl) (by simp [zPr, zb, isAccB, c1, c9])
    · refine zv_iconst (pc := 12) (v := 1) C dMo_isAccount_12 (by decide) ?_
      refine zv_goto (pc := 13) (tgt := 17) C dMo_isAccount_13 (by decide) ?_
      exact zv_zret (pc := 17) C hr (by first | rfl | exact zb_nar _) dMo_isAccount_17 (Nat.le_of_ble_eq_true rfl) (Nat.le_of_ble_eq_true rfl) (by simp [zPr, zb, isAccB, c1, c9])
set_option maxHeartbeats 4000000 in
set_option maxRecDepth 100000 in
theorem cMo_isOpenT {O : zO} {l : Launch} (hk : zK O l) (G : zG) (i : Nat) {am : Nat → Nat} {M : aM} (hM : zMm O G am M) (hO : mOk M) (hi : i < mnb M) : zM O l yMo_isOpen [Cond.code yMo_isOpen bMo_isOpen 2 (some .boolean)] rmMo_isOpen [.ref (am 0), .int (nI i)] G 0 0 (zPr (.int (zb (decide (mso M i = 0)))) G) zNo := by
  refine zm_of hk (by decide) (Nat.le_of_ble_eq_true rfl) ?_
  intro p e s m below meth c C hex hr hnm
  obtain ⟨hinj, h0, h1, h2, h3, h4, h5, h6, h7, h8, h9, h10, h11, h12, h13⟩ := id hM
  obtain ⟨o1, o2, o3, o4, o5⟩ := id hO
  refine zv_iload_n (pc := 0) C dMo_isOpen_0 rfl ?_
  refine zv_if_lt (pc := 1) (tgt := 25) C dMo_isOpen_1 (by decide) (fun c1 => absurd c1 (nI_pos (by omega))) (fun c1 => ?_)
  refine zv_iload_n (pc := 4) C dMo_isOpen_4 rfl ?_
  refine zv_aload_n (pc := 5) C dMo_isOpen_5 rfl ?_
  refine zv_get (pc := 6) C dMo_isOpen_6 fMo_75 (by first | assumption | exact zu_s | (refine (zu_n (hM.ne (by omega) (by omega) (by omega))).trans ?_; first | assumption | exact zu_s)) rfl ?_
  refine zv_icmp_ge (pc := 9) (tgt := 25) C dMo_isOpen_9 (by decide) (fun c9 => absurd c9 (nI_ge hi (by omega))) (fun c9 => ?_)
  refine zv_aload_n (pc := 12) C dMo_isOpen_12 rfl ?_
  refine zv_get (pc := 13) C dMo_isOpen_13 fMo_23 (by first | assumption | exact zu_s | (refine (zu_n (hM.ne (by omega) (by omega) (by omega))).trans ?_; first | assumption | exact zu_s)) rfl ?_
  refine zv_iload_n (pc := 16) C dMo_isOpen_16 rfl ?_
  refine zn_iald (pc := 17) C dMo_isOpen_17 (by first | assumption | exact zu_s | (refine (zu_n (hM.ne (by omega) (by omega) (by omega))).trans ?_; first | assumption | exact zu_s)) (by omega) (by omega) ?_
  refine zv_if_ne (pc := 18) (tgt := 25) C dMo_isOpen_18 (by decide) (fun c18 => ?_) (fun c18 => ?_)
  · refine zv_iconst (pc := 25) (v := 0) C dMo_isOpen_25 (by decide) ?_
    exact zv_zret (pc := 26) C hr (by first | rfl | exact zb_nar _) dMo_isOpen_26 (Nat.le_of_ble_eq_true rfl) (Nat.le_of_ble_eq_true rfl) (by simp [zPr, zb, c18])
  · refine zv_iconst (pc := 21) (v := 1) C dMo_isOpen_21 (by decide) ?_
    refine zv_goto (pc := 22) (tgt := 26) C dMo_isOpen_22 (by decide) ?_
    exact zv_zret (pc := 26) C hr (by first | rfl | exact zb_nar _) dMo_isOpen_26 (Nat.le_of_ble_eq_true rfl) (Nat.le_of_ble_eq_true rfl) (by simp [zPr, zb, c18])
set_option maxHeartbeats 4000000 in
set_option maxRecDepth 100000 in
theorem cMo_isOpenF {O : zO} {l : Launch} (hk : zK O l) (G : zG) (x : Int32) {am : Nat → Nat} {M : aM} (hM : zMm O G am M) (hO : mOk M) (hx : isAccB x (nI (mnb M)) = false) : zM O l yMo_isOpen [Cond.code yMo_isOpen bMo_isOpen 2 (some .boolean)] rmMo_isOpen [.ref (am 0), .int x] G 0 0 (zPr (.int 0) G) zNo := by
  refine zm_of hk (by decide) (Nat.le_of_ble_eq_true rfl) ?_
  intro p e s m below meth c C hex hr hnm
  obtain ⟨hinj, h0, h1, h2, h3, h4, h5, h6, h7, h8, h9, h10, h11, h12, h13⟩ := id hM
  obtain ⟨o1, o2, o3, o4, o5⟩ := id hO
  refine zv_iload_n (pc := 0) C dMo_isOpen_0 rfl ?_
  refine zv_if_lt (pc := 1) (tgt := 25) C dMo_isOpen_1 (by decide) (fun c1 => ?_) (fun c1 => ?_)
  · refine zv_iconst (pc := 25) (v := 0) C dMo_isOpen_25 (by decide) ?_
    exact zv_zret (pc := 26) C hr (by first | rfl | exact zb_nar _) dMo_isOpen_26 (Nat.le_of_ble_eq_true rfl) (Nat.le_of_ble_eq_true rfl) (by exact ⟨rfl, rfl⟩)
  · refine zv_iload_n (pc := 4) C dMo_isOpen_4 rfl ?_
    refine zv_aload_n (pc := 5) C dMo_isOpen_5 rfl ?_
    refine zv_get (pc := 6) C dMo_isOpen_6 fMo_75 (by first | assumption | exact zu_s | (refine (zu_n (hM.ne (by omega) (by omega) (by omega))).trans ?_; first | assumption | exact zu_s)) rfl ?_
    refine zv_icmp_ge (pc := 9) (tgt := 25) C dMo_isOpen_9 (by decide) (fun c9 => ?_) (fun c9 => by simp [isAccB, c1, c9] at hx)
    refine zv_iconst (pc := 25) (v := 0) C dMo_isOpen_25 (by decide) ?_
    exact zv_zret (pc := 26) C hr (by first | rfl | exact zb_nar _) dMo_isOpen_26 (Nat.le_of_ble_eq_true rfl) (Nat.le_of_ble_eq_true rfl) (by exact ⟨rfl, rfl⟩)
def acM (M : aM) (x : Int32) : aM := ((0, mna M + 1, M.1.2.2), M.2.1, (upd (mko M) (mna M) x, M.2.2.1.2), M.2.2.2)
def bgM (M : aM) (b : Nat) (vd kd : Int32) : aM := (M.1, M.2.1, (mko M, upd (mso M) b 0, upd (mvo M) b vd, upd (mkn M) b kd, upd (mrv M) b (-1), upd (mrb M) b (-1), upd (mtf M) b 0, setN (msz M) b 0), M.2.2.2)
def baM (M : aM) (vd kd : Int32) : aM := ((0, mna M, mnb M + 1, mn M), (bgM M (mnb M) vd kd).2)
theorem ne12 {n : Nat} (hn : n ≤ 12) (h : ¬ nI n = 12) : n < 12 := by
  rcases Nat.lt_or_ge n 12 with g | g
  · exact g
  · exact absurd (by rw [show n = 12 by omega]; rfl) h
theorem eq12 {n : Nat} (hn : n ≤ 12) (h : nI n = 12) : ¬ n < 12 := fun g => by
  have := (nI_eq (a := n) (b := 12) (by omega) (by omega)).mp h
  omega
theorem ne100 {n : Nat} (hn : n ≤ 100) (h : ¬ nI n = 100) : n < 100 := by
  rcases Nat.lt_or_ge n 100 with g | g
  · exact g
  · exact absurd (by rw [show n = 100 by omega]; rfl) h
theorem eq100 {n : Nat} (hn : n ≤ 100) (h : nI n = 100) : ¬ n < 100 := fun g => by
  have := (nI_eq (a := n) (b := 100) (by omega) (by omega)).mp h
  omega
set_option maxHeartbeats 4000000 in
set_option maxRecDepth 100000 in
theorem cMo_account {O : zO} {l : Launch} (hk : zK O l) (G : zG) (x : Int32) {am : Nat → Nat} {M : aM} (hM : zMm O G am M) (hO : mOk M) : zM O l yMo_account [Cond.code yMo_account bMo_account 2 (some .int)] rmMo_account [.ref (am 0), .int x] G 0 0 (fun v G' => (isKindB x = false ∧ v = some (.int 0) ∧ zMt O G G' am (thM M 1)) ∨ (isKindB x = true ∧ ¬ mna M < 12 ∧ v = some (.int 0) ∧ zMt O G G' am (thM M 2)) ∨ (isKindB x = true ∧ mna M < 12 ∧ v = some (.int (nI (mna M))) ∧ zMt O G G' am (acM M x))) zNo := by
  refine zm_of hk (by decide) (Nat.le_of_ble_eq_true rfl) ?_
  intro p e s m below meth c C hex hr hnm
  obtain ⟨hinj, h0, h1, h2, h3, h4, h5, h6, h7, h8, h9, h10, h11, h12, h13⟩ := id hM
  obtain ⟨o1, o2, o3, o4, o5⟩ := id hO
  refine zv_aload_n (pc := 0) C dMo_account_0 rfl ?_
  refine zv_iload_n (pc := 1) C dMo_account_1 rfl ?_
  refine zv_callS (pc := 2) C dMo_account_2 (cMo_isKind hk _ _) gMo_78 ⟨rfl, rfl, ⟨Nat.le_of_ble_eq_true rfl, Nat.le_of_ble_eq_true rfl⟩, mMo_isKind⟩ rfl rfl (Nat.le_of_ble_eq_true rfl) ⟨Nat.le_of_ble_eq_true rfl, Nat.le_of_ble_eq_true rfl⟩ (fun _ _ h => h.elim) (fun v G' h => ?_)
  obtain ⟨rfl, rfl⟩ := h
  refine zv_if_ne (pc := 5) (tgt := 12) C dMo_account_5 (by decide) (fun c5 => ?_) (fun c5 => ?_)
  · refine zv_aload_n (pc := 12) C dMo_account_12 rfl ?_
    refine zv_get (pc := 13) C dMo_account_13 fMo_72 (by first | assumption | exact zu_s | (refine (zu_n (hM.ne (by omega) (by omega) (by omega))).trans ?_; first | assumption | exact zu_s | (refine (zu_n (hM.ne (by omega) (by omega) (by omega))).trans ?_; first | assumption | exact zu_s | (refine (zu_n (hM.ne (by omega) (by omega) (by omega))).trans ?_; first | assumption | exact zu_s | (refine (zu_n (hM.ne (by omega) (by omega) (by omega))).trans ?_; first | assumption | exact zu_s))))) rfl ?_
    refine zv_bipush (pc := 16) (v := 12) C dMo_account_16 (by decide) ?_
    refine zv_icmp_ne (pc := 18) (tgt := 25) C dMo_account_18 (by decide) (fun c18 => ?_) (fun c18 => ?_)
    · refine zv_iconst (pc := 25) (v := 0) C dMo_account_25 (by decide) ?_
      refine zv_put (pc := 26) C dMo_account_26 fMo_61 ⟨tkMo, nmMo⟩ (by first | assumption | exact zu_s | (refine (zu_n (hM.ne (by omega) (by omega) (by omega))).trans ?_; first | assumption | exact zu_s | (refine (zu_n (hM.ne (by omega) (by omega) (by omega))).trans ?_; first | assumption | exact zu_s | (refine (zu_n (hM.ne (by omega) (by omega) (by omega))).trans ?_; first | assumption | exact zu_s | (refine (zu_n (hM.ne (by omega) (by omega) (by omega))).trans ?_; first | assumption | exact zu_s))))) rfl (tkMo 0 (by decide)) (by first | rfl | assumption | exact zb_nar _) (by first | rfl | assumption | decide +kernel) (Nat.le_of_ble_eq_true rfl) ?_
      have hM1 := hM.th (0)
      refine zv_aload_n (pc := 29) C dMo_account_29 rfl ?_
      refine zv_get (pc := 30) C dMo_account_30 fMo_61 (by first | assumption | exact zu_s | (refine (zu_n (hM.ne (by omega) (by omega) (by omega))).trans ?_; first | assumption | exact zu_s | (refine (zu_n (hM.ne (by omega) (by omega) (by omega))).trans ?_; first | assumption | exact zu_s | (refine (zu_n (hM.ne (by omega) (by omega) (by omega))).trans ?_; first | assumption | exact zu_s | (refine (zu_n (hM.ne (by omega) (by omega) (by omega))).trans ?_; first | assumption | exact zu_s))))) rfl ?_
      refine zv_if_le (pc := 33) (tgt := 38) C dMo_account_33 (by decide) (fun c33 => ?_) (fun c33 => absurd c33 (by decide))
      have hlt : mna M < 12 := ne12 o1 c18
      refine zv_aload_n (pc := 38) C dMo_account_38 rfl ?_
      refine zv_get (pc := 39) C dMo_account_39 fMo_19 (by first | assumption | exact zu_s | (refine (zu_n (hM.ne (by omega) (by omega) (by omega))).trans ?_; first | assumption | exact zu_s | (refine (zu_n (hM.ne (by omega) (by omega) (by omega))).trans ?_; first | assumption | exact zu_s | (refine (zu_n (hM.ne (by omega) (by omega) (by omega))).trans ?_; first | assumption | exact zu_s | (refine (zu_n (hM.ne (by omega) (by omega) (by omega))).trans ?_; first | assumption | exact zu_s))))) rfl ?_
      refine zv_aload_n (pc := 42) C dMo_account_42 rfl ?_
      refine zv_get (pc := 43) C dMo_account_43 fMo_72 (by first | assumption | exact zu_s | (refine (zu_n (hM.ne (by omega) (by omega) (by omega))).trans ?_; first | assumption | exact zu_s | (refine (zu_n (hM.ne (by omega) (by omega) (by omega))).trans ?_; first | assumption | exact zu_s | (refine (zu_n (hM.ne (by omega) (by omega) (by omega))).trans ?_; first | assumption | exact zu_s | (refine (zu_n (hM.ne (by omega) (by omega) (by omega))).trans ?_; first | assumption | exact zu_s))))) rfl ?_
      refine zv_iload_n (pc := 46) C dMo_account_46 rfl ?_
      refine zn_iast (pc := 47) C dMo_account_47 (by first | assumption | exact zu_s | (refine (zu_n (hM.ne (by omega) (by omega) (by omega))).trans ?_; first | assumption | exact zu_s | (refine (zu_n (hM.ne (by omega) (by omega) (by omega))).trans ?_; first | assumption | exact zu_s | (refine (zu_n (hM.ne (by omega) (by omega) (by omega))).trans ?_; first | assumption | exact zu_s | (refine (zu_n (hM.ne (by omega) (by omega) (by omega))).trans ?_; first | assumption | exact zu_s))))) (by omega) (by omega) ?_
      refine zv_aload_n (pc := 48) C dMo_account_48 rfl ?_
      refine zv_dup (pc := 49) C dMo_account_49 rfl ?_
      refine zv_get (pc := 50) C dMo_account_50 fMo_72 (by first | assumption | exact zu_s | (refine (zu_n (hM.ne (by omega) (by omega) (by omega))).trans ?_; first | assumption | exact zu_s | (refine (zu_n (hM.ne (by omega) (by omega) (by omega))).trans ?_; first | assumption | exact zu_s | (refine (zu_n (hM.ne (by omega) (by omega) (by omega))).trans ?_; first | assumption | exact zu_s | (refine (zu_n (hM.ne (by omega) (by omega) (by omega))).trans ?_; first | assumption | exact zu_s))))) rfl ?_
      refine zv_iconst (pc := 53) (v := 1) C dMo_account_53 (by decide) ?_
      refine zv_iadd (pc := 54) C dMo_account_54 ?_
      refine zv_topi (nI_1 (mna M)) ?_
      refine zv_put (pc := 55) C dMo_account_55 fMo_72 ⟨tkMo, nmMo⟩ (by first | assumption | exact zu_s | (refine (zu_n (hM.ne (by omega) (by omega) (by omega))).trans ?_; first | assumption | exact zu_s | (refine (zu_n (hM.ne (by omega) (by omega) (by omega))).trans ?_; first | assumption | exact zu_s | (refine (zu_n (hM.ne (by omega) (by omega) (by omega))).trans ?_; first | assumption | exact zu_s | (refine (zu_n (hM.ne (by omega) (by omega) (by omega))).trans ?_; first | assumption | exact zu_s))))) rfl (tkMo 1 (by decide)) rfl rfl (Nat.le_of_ble_eq_true rfl) ?_
      refine zv_aload_n (pc := 58) C dMo_account_58 rfl ?_
      refine zv_get (pc := 59) C dMo_account_59 fMo_72 (by first | assumption | exact zu_s | (refine (zu_n (hM.ne (by omega) (by omega) (by omega))).trans ?_; first | assumption | exact zu_s | (refine (zu_n (hM.ne (by omega) (by omega) (by omega))).trans ?_; first | assumption | exact zu_s | (refine (zu_n (hM.ne (by omega) (by omega) (by omega))).trans ?_; first | assumption | exact zu_s | (refine (zu_n (hM.ne (by omega) (by omega) (by omega))).trans ?_; first | assumption | exact zu_s))))) rfl ?_
      refine zv_iconst (pc := 62) (v := 1) C dMo_account_62 (by decide) ?_
      refine zv_isub (pc := 63) C dMo_account_63 ?_
      refine zv_topi (nI_pred (mna M)) ?_
      exact zv_iret (pc := 64) C hr dMo_account_64 (Nat.le_of_ble_eq_true rfl) (Nat.le_of_ble_eq_true rfl) (by (try simp only [zb_0, Bool.not_eq_false] at c5); (try simp only [zb_0, Bool.not_eq_false] at c18); exact Or.inr (Or.inr ⟨by simp [c5, c18], hlt, rfl, ⟨⟨hM.1, (by first | assumption | exact zu_s | (refine (zu_n (hM.ne (by omega) (by omega) (by omega))).trans ?_; first | assumption | exact zu_s | (refine (zu_n (hM.ne (by omega) (by omega) (by omega))).trans ?_; first | assumption | exact zu_s | (refine (zu_n (hM.ne (by omega) (by omega) (by omega))).trans ?_; first | assumption | exact zu_s | (refine (zu_n (hM.ne (by omega) (by omega) (by omega))).trans ?_; first | assumption | exact zu_s))))), (by first | assumption | exact zu_s | (refine (zu_n (hM.ne (by omega) (by omega) (by omega))).trans ?_; first | assumption | exact zu_s | (refine (zu_n (hM.ne (by omega) (by omega) (by omega))).trans ?_; first | assumption | exact zu_s | (refine (zu_n (hM.ne (by omega) (by omega) (by omega))).trans ?_; first | assumption | exact zu_s | (refine (zu_n (hM.ne (by omega) (by omega) (by omega))).trans ?_; first | assumption | exact zu_s))))), (by first | assumption | exact zu_s | (refine (zu_n (hM.ne (by omega) (by omega) (by omega))).trans ?_; first | assumption | exact zu_s | (refine (zu_n (hM.ne (by omega) (by omega) (by omega))).trans ?_; first | assumption | exact zu_s | (refine (zu_n (hM.ne (by omega) (by omega) (by omega))).trans ?_; first | assumption | exact zu_s | (refine (zu_n (hM.ne (by omega) (by omega) (by omega))).trans ?_; first | assumption | exact zu_s))))), (by first | assumption | exact zu_s | (refine (zu_n (hM.ne (by omega) (by omega) (by omega))).trans ?_; first | assumption | exact zu_s | (refine (zu_n (hM.ne (by omega) (by omega) (by omega))).trans ?_; first | assumption | exact zu_s | (refine (zu_n (hM.ne (by omega) (by omega) (by omega))).trans ?_; first | assumption | exact zu_s | (refine (zu_n (hM.ne (by omega) (by omega) (by omega))).trans ?_; first | assumption | exact zu_s))))), (by first | assumption | exact zu_s | (refine (zu_n (hM.ne (by omega) (by omega) (by omega))).trans ?_; first | assumption | exact zu_s | (refine (zu_n (hM.ne (by omega) (by omega) (by omega))).trans ?_; first | assumption | exact zu_s | (refine (zu_n (hM.ne (by omega) (by omega) (by omega))).trans ?_; first | assumption | exact zu_s | (refine (zu_n (hM.ne (by omega) (by omega) (by omega))).trans ?_; first | assumption | exact zu_s))))), (by first | assumption | exact zu_s | (refine (zu_n (hM.ne (by omega) (by omega) (by omega))).trans ?_; first | assumption | exact zu_s | (refine (zu_n (hM.ne (by omega) (by omega) (by omega))).trans ?_; first | assumption | exact zu_s | (refine (zu_n (hM.ne (by omega) (by omega) (by omega))).trans ?_; first | assumption | exact zu_s | (refine (zu_n (hM.ne (by omega) (by omega) (by omega))).trans ?_; first | assumption | exact zu_s))))), (by first | assumption | exact zu_s | (refine (zu_n (hM.ne (by omega) (by omega) (by omega))).trans ?_; first | assumption | exact zu_s | (refine (zu_n (hM.ne (by omega) (by omega) (by omega))).trans ?_; first | assumption | exact zu_s | (refine (zu_n (hM.ne (by omega) (by omega) (by omega))).trans ?_; first | assumption | exact zu_s | (refine (zu_n (hM.ne (by omega) (by omega) (by omega))).trans ?_; first | assumption | exact zu_s))))), (by first | assumption | exact zu_s | (refine (zu_n (hM.ne (by omega) (by omega) (by omega))).trans ?_; first | assumption | exact zu_s | (refine (zu_n (hM.ne (by omega) (by omega) (by omega))).trans ?_; first | assumption | exact zu_s | (refine (zu_n (hM.ne (by omega) (by omega) (by omega))).trans ?_; first | assumption | exact zu_s | (refine (zu_n (hM.ne (by omega) (by omega) (by omega))).trans ?_; first | assumption | exact zu_s))))), (by first | (first | assumption | exact zu_s | (refine (zu_n (hM.ne (by omega) (by omega) (by omega))).trans ?_; first | assumption | exact zu_s | (refine (zu_n (hM.ne (by omega) (by omega) (by omega))).trans ?_; first | assumption | exact zu_s | (refine (zu_n (hM.ne (by omega) (by omega) (by omega))).trans ?_; first | assumption | exact zu_s | (refine (zu_n (hM.ne (by omega) (by omega) (by omega))).trans ?_; first | assumption | exact zu_s))))) | exact zI_N (by first | assumption | exact zu_s | (refine (zu_n (hM.ne (by omega) (by omega) (by omega))).trans ?_; first | assumption | exact zu_s | (refine (zu_n (hM.ne (by omega) (by omega) (by omega))).trans ?_; first | assumption | exact zu_s | (refine (zu_n (hM.ne (by omega) (by omega) (by omega))).trans ?_; first | assumption | exact zu_s | (refine (zu_n (hM.ne (by omega) (by omega) (by omega))).trans ?_; first | assumption | exact zu_s)))))), (by first | assumption | exact zu_s | (refine (zu_n (hM.ne (by omega) (by omega) (by omega))).trans ?_; first | assumption | exact zu_s | (refine (zu_n (hM.ne (by omega) (by omega) (by omega))).trans ?_; first | assumption | exact zu_s | (refine (zu_n (hM.ne (by omega) (by omega) (by omega))).trans ?_; first | assumption | exact zu_s | (refine (zu_n (hM.ne (by omega) (by omega) (by omega))).trans ?_; first | assumption | exact zu_s))))), (by first | assumption | exact zu_s | (refine (zu_n (hM.ne (by omega) (by omega) (by omega))).trans ?_; first | assumption | exact zu_s | (refine (zu_n (hM.ne (by omega) (by omega) (by omega))).trans ?_; first | assumption | exact zu_s | (refine (zu_n (hM.ne (by omega) (by omega) (by omega))).trans ?_; first | assumption | exact zu_s | (refine (zu_n (hM.ne (by omega) (by omega) (by omega))).trans ?_; first | assumption | exact zu_s))))), (by first | (first | assumption | exact zu_s | (refine (zu_n (hM.ne (by omega) (by omega) (by omega))).trans ?_; first | assumption | exact zu_s | (refine (zu_n (hM.ne (by omega) (by omega) (by omega))).trans ?_; first | assumption | exact zu_s | (refine (zu_n (hM.ne (by omega) (by omega) (by omega))).trans ?_; first | assumption | exact zu_s | (refine (zu_n (hM.ne (by omega) (by omega) (by omega))).trans ?_; first | assumption | exact zu_s))))) | exact zI_N (by first | assumption | exact zu_s | (refine (zu_n (hM.ne (by omega) (by omega) (by omega))).trans ?_; first | assumption | exact zu_s | (refine (zu_n (hM.ne (by omega) (by omega) (by omega))).trans ?_; first | assumption | exact zu_s | (refine (zu_n (hM.ne (by omega) (by omega) (by omega))).trans ?_; first | assumption | exact zu_s | (refine (zu_n (hM.ne (by omega) (by omega) (by omega))).trans ?_; first | assumption | exact zu_s)))))), (by first | assumption | exact zu_s | (refine (zu_n (hM.ne (by omega) (by omega) (by omega))).trans ?_; first | assumption | exact zu_s | (refine (zu_n (hM.ne (by omega) (by omega) (by omega))).trans ?_; first | assumption | exact zu_s | (refine (zu_n (hM.ne (by omega) (by omega) (by omega))).trans ?_; first | assumption | exact zu_s | (refine (zu_n (hM.ne (by omega) (by omega) (by omega))).trans ?_; first | assumption | exact zu_s))))), (by first | assumption | exact zu_s | (refine (zu_n (hM.ne (by omega) (by omega) (by omega))).trans ?_; first | assumption | exact zu_s | (refine (zu_n (hM.ne (by omega) (by omega) (by omega))).trans ?_; first | assumption | exact zu_s | (refine (zu_n (hM.ne (by omega) (by omega) (by omega))).trans ?_; first | assumption | exact zu_s | (refine (zu_n (hM.ne (by omega) (by omega) (by omega))).trans ?_; first | assumption | exact zu_s)))))⟩, fun q hq => (zu_n (hq _ (by omega))).trans ((zu_n (hq _ (by omega))).trans ((zu_n (hq _ (by omega)))))⟩⟩))
    · refine zv_iconst (pc := 21) (v := 2) C dMo_account_21 (by decide) ?_
      refine zv_goto (pc := 22) (tgt := 26) C dMo_account_22 (by decide) ?_
      refine zv_put (pc := 26) C dMo_account_26 fMo_61 ⟨tkMo, nmMo⟩ (by first | assumption | exact zu_s | (refine (zu_n (hM.ne (by omega) (by omega) (by omega))).trans ?_; first | assumption | exact zu_s | (refine (zu_n (hM.ne (by omega) (by omega) (by omega))).trans ?_; first | assumption | exact zu_s | (refine (zu_n (hM.ne (by omega) (by omega) (by omega))).trans ?_; first | assumption | exact zu_s | (refine (zu_n (hM.ne (by omega) (by omega) (by omega))).trans ?_; first | assumption | exact zu_s))))) rfl (tkMo 0 (by decide)) (by first | rfl | assumption | exact zb_nar _) (by first | rfl | assumption | decide +kernel) (Nat.le_of_ble_eq_true rfl) ?_
      have hM1 := hM.th (2)
      refine zv_aload_n (pc := 29) C dMo_account_29 rfl ?_
      refine zv_get (pc := 30) C dMo_account_30 fMo_61 (by first | assumption | exact zu_s | (refine (zu_n (hM.ne (by omega) (by omega) (by omega))).trans ?_; first | assumption | exact zu_s | (refine (zu_n (hM.ne (by omega) (by omega) (by omega))).trans ?_; first | assumption | exact zu_s | (refine (zu_n (hM.ne (by omega) (by omega) (by omega))).trans ?_; first | assumption | exact zu_s | (refine (zu_n (hM.ne (by omega) (by omega) (by omega))).trans ?_; first | assumption | exact zu_s))))) rfl ?_
      refine zv_if_le (pc := 33) (tgt := 38) C dMo_account_33 (by decide) (fun c33 => absurd c33 (by decide)) (fun c33 => ?_)
      refine zv_iconst (pc := 36) (v := 0) C dMo_account_36 (by decide) ?_
      exact zv_iret (pc := 37) C hr dMo_account_37 (Nat.le_of_ble_eq_true rfl) (Nat.le_of_ble_eq_true rfl) (by (try simp only [zb_0, Bool.not_eq_false] at c5); (try simp only [zb_0, Bool.not_eq_false] at c18); exact Or.inr (Or.inl ⟨by simp [c5, c18], eq12 o1 c18, rfl, ⟨hM1, fun q hq => (zu_n (hq _ (by omega)))⟩⟩))
  · refine zv_iconst (pc := 8) (v := 1) C dMo_account_8 (by decide) ?_
    refine zv_goto (pc := 9) (tgt := 26) C dMo_account_9 (by decide) ?_
    refine zv_put (pc := 26) C dMo_account_26 fMo_61 ⟨tkMo, nmMo⟩ (by first | assumption | exact zu_s | (refine (zu_n (hM.ne (by omega) (by omega) (by omega))).trans ?_; first | assumption | exact zu_s | (refine (zu_n (hM.ne (by omega) (by omega) (by omega))).trans ?_; first | assumption | exact zu_s | (refine (zu_n (hM.ne (by omega) (by omega) (by omega))).trans ?_; first | assumption | exact zu_s | (refine (zu_n (hM.ne (by omega) (by omega) (by omega))).trans ?_; first | assumption | exact zu_s))))) rfl (tkMo 0 (by decide)) (by first | rfl | assumption | exact zb_nar _) (by first | rfl | assumption | decide +kernel) (Nat.le_of_ble_eq_true rfl) ?_
    have hM1 := hM.th (1)
    refine zv_aload_n (pc := 29) C dMo_account_29 rfl ?_
    refine zv_get (pc := 30) C dMo_account_30 fMo_61 (by first | assumption | exact zu_s | (refine (zu_n (hM.ne (by omega) (by omega) (by omega))).trans ?_; first | assumption | exact zu_s | (refine (zu_n (hM.ne (by omega) (by omega) (by omega))).trans ?_; first | assumption | exact zu_s | (refine (zu_n (hM.ne (by omega) (by omega) (by omega))).trans ?_; first | assumption | exact zu_s | (refine (zu_n (hM.ne (by omega) (by omega) (by omega))).trans ?_; first | assumption | exact zu_s))))) rfl ?_
    refine zv_if_le (pc := 33) (tgt := 38) C dMo_account_33 (by decide) (fun c33 => absurd c33 (by decide)) (fun c33 => ?_)
    refine zv_iconst (pc := 36) (v := 0) C dMo_account_36 (by decide) ?_
    exact zv_iret (pc := 37) C hr dMo_account_37 (Nat.le_of_ble_eq_true rfl) (Nat.le_of_ble_eq_true rfl) (by (try simp only [zb_0, Bool.not_eq_false] at c5); exact Or.inl ⟨by simp [c5], rfl, ⟨hM1, fun q hq => (zu_n (hq _ (by omega)))⟩⟩)
