set_option maxHeartbeats 4000000 in
set_option maxRecDepth 100000 in
theorem cDu_isDay {O : zO} {l : Launch} (hk : zK O l) (G : zG) (x : Int32) : zM O l yDu_isDay [Cond.code yDu_isDay bDu_isDay 1 (some .boolean)] rmDu_isDay [.int x] G 0 0 (zPr (.int (zb (isDayB x))) G) zNo := by
  refine zm_of hk (by decide) (Nat.le_of_ble_eq_true rfl) ?_
  intro p e s m below meth c C hex hr hnm
  refine zv_iload_n (pc := 0) C dDu_isDay_0 rfl ?_
  refine zv_if_lt (pc := 1) (tgt := 14) C dDu_isDay_1 (by decide) (fun c1 => ?_) (fun c1 => ?_)
  · refine zv_iconst (pc := 14) (v := 0) C dDu_isDay_14 (by decide) ?_
    exact zv_zret (pc := 15) C hr (by first | rfl | exact zb_nar _) dDu_isDay_15 (Nat.le_of_ble_eq_true rfl) (Nat.le_of_ble_eq_true rfl) (by simp_all [zPr, zb, isDayB])
  · refine zv_iload_n (pc := 4) C dDu_isDay_4 rfl ?_
    refine zv_ldc (pc := 5) C dDu_isDay_5 zw_171 ?_
    refine zv_icmp_gt (pc := 7) (tgt := 14) C dDu_isDay_7 (by decide) (fun c7 => ?_) (fun c7 => ?_)
    · refine zv_iconst (pc := 14) (v := 0) C dDu_isDay_14 (by decide) ?_
      exact zv_zret (pc := 15) C hr (by first | rfl | exact zb_nar _) dDu_isDay_15 (Nat.le_of_ble_eq_true rfl) (Nat.le_of_ble_eq_true rfl) (by simp_all [zPr, zb, isDayB])
    · refine zv_iconst (pc := 10) (v := 1) C dDu_isDay_10 (by decide) ?_
      refine zv_goto (pc := 11) (tgt := 15) C dDu_isDay_11 (by decide) ?_
      exact zv_zret (pc := 15) C hr (by first | rfl | exact zb_nar _) dDu_isDay_15 (Nat.le_of_ble_eq_true rfl) (Nat.le_of_ble_eq_true rfl) (by simp_all [zPr, zb, isDayB])
set_option maxHeartbeats 4000000 in
set_option maxRecDepth 100000 in
theorem cDu_isMonth {O : zO} {l : Launch} (hk : zK O l) (G : zG) (x : Int32) : zM O l yDu_isMonth [Cond.code yDu_isMonth bDu_isMonth 1 (some .boolean)] rmDu_isMonth [.int x] G 0 0 (zPr (.int (zb (isMonthB x))) G) zNo := by
  refine zm_of hk (by decide) (Nat.le_of_ble_eq_true rfl) ?_
  intro p e s m below meth c C hex hr hnm
  refine zv_iload_n (pc := 0) C dDu_isMonth_0 rfl ?_
  refine zv_if_lt (pc := 1) (tgt := 15) C dDu_isMonth_1 (by decide) (fun c1 => ?_) (fun c1 => ?_)
  · refine zv_iconst (pc := 15) (v := 0) C dDu_isMonth_15 (by decide) ?_
    exact zv_zret (pc := 16) C hr (by first | rfl | exact zb_nar _) dDu_isMonth_16 (Nat.le_of_ble_eq_true rfl) (Nat.le_of_ble_eq_true rfl) (by simp_all [zPr, zb, isMonthB])
  · refine zv_iload_n (pc := 4) C dDu_isMonth_4 rfl ?_
    refine zv_sipush (pc := 5) (v := 3333) C dDu_isMonth_5 (by decide) ?_
    refine zv_icmp_gt (pc := 8) (tgt := 15) C dDu_isMonth_8 (by decide) (fun c8 => ?_) (fun c8 => ?_)
    · refine zv_iconst (pc := 15) (v := 0) C dDu_isMonth_15 (by decide) ?_
      exact zv_zret (pc := 16) C hr (by first | rfl | exact zb_nar _) dDu_isMonth_16 (Nat.le_of_ble_eq_true rfl) (Nat.le_of_ble_eq_true rfl) (by simp_all [zPr, zb, isMonthB])
    · refine zv_iconst (pc := 11) (v := 1) C dDu_isMonth_11 (by decide) ?_
      refine zv_goto (pc := 12) (tgt := 16) C dDu_isMonth_12 (by decide) ?_
      exact zv_zret (pc := 16) C hr (by first | rfl | exact zb_nar _) dDu_isMonth_16 (Nat.le_of_ble_eq_true rfl) (Nat.le_of_ble_eq_true rfl) (by simp_all [zPr, zb, isMonthB])
set_option maxHeartbeats 4000000 in
set_option maxRecDepth 100000 in
theorem cDu_isKind {O : zO} {l : Launch} (hk : zK O l) (G : zG) (x : Int32) : zM O l yDu_isKind [Cond.code yDu_isKind bDu_isKind 1 (some .boolean)] rmDu_isKind [.int x] G 0 0 (zPr (.int (zb (isKindB x))) G) zNo := by
  refine zm_of hk (by decide) (Nat.le_of_ble_eq_true rfl) ?_
  intro p e s m below meth c C hex hr hnm
  refine zv_iload_n (pc := 0) C dDu_isKind_0 rfl ?_
  refine zv_if_lt (pc := 1) (tgt := 14) C dDu_isKind_1 (by decide) (fun c1 => ?_) (fun c1 => ?_)
  · refine zv_iconst (pc := 14) (v := 0) C dDu_isKind_14 (by decide) ?_
    exact zv_zret (pc := 15) C hr (by first | rfl | exact zb_nar _) dDu_isKind_15 (Nat.le_of_ble_eq_true rfl) (Nat.le_of_ble_eq_true rfl) (by simp_all [zPr, zb, isKindB])
  · refine zv_iload_n (pc := 4) C dDu_isKind_4 rfl ?_
    refine zv_bipush (pc := 5) (v := 6) C dDu_isKind_5 (by decide) ?_
    refine zv_icmp_ge (pc := 7) (tgt := 14) C dDu_isKind_7 (by decide) (fun c7 => ?_) (fun c7 => ?_)
    · refine zv_iconst (pc := 14) (v := 0) C dDu_isKind_14 (by decide) ?_
      exact zv_zret (pc := 15) C hr (by first | rfl | exact zb_nar _) dDu_isKind_15 (Nat.le_of_ble_eq_true rfl) (Nat.le_of_ble_eq_true rfl) (by simp_all [zPr, zb, isKindB])
    · refine zv_iconst (pc := 10) (v := 1) C dDu_isKind_10 (by decide) ?_
      refine zv_goto (pc := 11) (tgt := 15) C dDu_isKind_11 (by decide) ?_
      exact zv_zret (pc := 15) C hr (by first | rfl | exact zb_nar _) dDu_isKind_15 (Nat.le_of_ble_eq_true rfl) (Nat.le_of_ble_eq_true rfl) (by simp_all [zPr, zb, isKindB])
set_option maxHeartbeats 4000000 in
set_option maxRecDepth 100000 in
theorem cDu_isReceiver {O : zO} {l : Launch} (hk : zK O l) (G : zG) (x : Int32) : zM O l yDu_isReceiver [Cond.code yDu_isReceiver bDu_isReceiver 1 (some .boolean)] rmDu_isReceiver [.int x] G 0 0 (zPr (.int (zb (isRecB x))) G) zNo := by
  refine zm_of hk (by decide) (Nat.le_of_ble_eq_true rfl) ?_
  intro p e s m below meth c C hex hr hnm
  refine zv_iload_n (pc := 0) C dDu_isReceiver_0 rfl ?_
  refine zv_if_lt (pc := 1) (tgt := 13) C dDu_isReceiver_1 (by decide) (fun c1 => ?_) (fun c1 => ?_)
  · refine zv_iconst (pc := 13) (v := 0) C dDu_isReceiver_13 (by decide) ?_
    exact zv_zret (pc := 14) C hr (by first | rfl | exact zb_nar _) dDu_isReceiver_14 (Nat.le_of_ble_eq_true rfl) (Nat.le_of_ble_eq_true rfl) (by simp_all [zPr, zb, isRecB])
  · refine zv_iload_n (pc := 4) C dDu_isReceiver_4 rfl ?_
    refine zv_iconst (pc := 5) (v := 4) C dDu_isReceiver_5 (by decide) ?_
    refine zv_icmp_ge (pc := 6) (tgt := 13) C dDu_isReceiver_6 (by decide) (fun c6 => ?_) (fun c6 => ?_)
    · refine zv_iconst (pc := 13) (v := 0) C dDu_isReceiver_13 (by decide) ?_
      exact zv_zret (pc := 14) C hr (by first | rfl | exact zb_nar _) dDu_isReceiver_14 (Nat.le_of_ble_eq_true rfl) (Nat.le_of_ble_eq_true rfl) (by simp_all [zPr, zb, isRecB])
    · refine zv_iconst (pc := 9) (v := 1) C dDu_isReceiver_9 (by decide) ?_
      refine zv_goto (pc := 10) (tgt := 14) C dDu_isReceiver_10 (by decide) ?_
      exact zv_zret (pc := 14) C hr (by first | rfl | exact zb_nar _) dDu_isReceiver_14 (Nat.le_of_ble_eq_true rfl) (Nat.le_of_ble_eq_true rfl) (by simp_all [zPr, zb, isRecB])
set_option maxHeartbeats 4000000 in
set_option maxRecDepth 100000 in
theorem cDu_canBeCents {O : zO} {l : Launch} (hk : zK O l) (G : zG) (x : Int64) : zM O l yDu_canBeCents [Cond.code yDu_canBeCents bDu_canBeCents 2 (some .boolean)] rmDu_canBeCents [.long x] G 0 0 (zPr (.int (zb (centsB x))) G) zNo := by
  refine zm_of hk (by decide) (Nat.le_of_ble_eq_true rfl) ?_
  intro p e s m below meth c C hex hr hnm
  refine zv_lload_n (pc := 0) C dDu_canBeCents_0 rfl ?_
  refine zv_lconst (pc := 1) (v := 0) C dDu_canBeCents_1 (by decide) ?_
  refine zv_lcmp (pc := 2) C dDu_canBeCents_2 ?_
  refine zv_if_eq (pc := 3) (tgt := 26) C dDu_canBeCents_3 (by decide) (fun c3 => ?_) (fun c3 => ?_)
  · refine zv_iconst (pc := 26) (v := 0) C dDu_canBeCents_26 (by decide) ?_
    exact zv_zret (pc := 27) C hr (by first | rfl | exact zb_nar _) dDu_canBeCents_27 (Nat.le_of_ble_eq_true rfl) (Nat.le_of_ble_eq_true rfl) (by simp_all [zPr, zb, centsB, lg_cmp_eq, lg_cmp_lt, lg_cmp_gt])
  · refine zv_lload_n (pc := 6) C dDu_canBeCents_6 rfl ?_
    refine zv_ldc2 (pc := 7) C dDu_canBeCents_7 zw_154 ?_
    refine zv_lcmp (pc := 10) C dDu_canBeCents_10 ?_
    refine zv_if_lt (pc := 11) (tgt := 26) C dDu_canBeCents_11 (by decide) (fun c11 => ?_) (fun c11 => ?_)
    · refine zv_iconst (pc := 26) (v := 0) C dDu_canBeCents_26 (by decide) ?_
      exact zv_zret (pc := 27) C hr (by first | rfl | exact zb_nar _) dDu_canBeCents_27 (Nat.le_of_ble_eq_true rfl) (Nat.le_of_ble_eq_true rfl) (by simp_all [zPr, zb, centsB, lg_cmp_eq, lg_cmp_lt, lg_cmp_gt])
    · refine zv_lload_n (pc := 14) C dDu_canBeCents_14 rfl ?_
      refine zv_ldc2 (pc := 15) C dDu_canBeCents_15 zw_155 ?_
      refine zv_lcmp (pc := 18) C dDu_canBeCents_18 ?_
      refine zv_if_gt (pc := 19) (tgt := 26) C dDu_canBeCents_19 (by decide) (fun c19 => ?_) (fun c19 => ?_)
      · refine zv_iconst (pc := 26) (v := 0) C dDu_canBeCents_26 (by decide) ?_
        exact zv_zret (pc := 27) C hr (by first | rfl | exact zb_nar _) dDu_canBeCents_27 (Nat.le_of_ble_eq_true rfl) (Nat.le_of_ble_eq_true rfl) (by simp_all [zPr, zb, centsB, lg_cmp_eq, lg_cmp_lt, lg_cmp_gt])
      · refine zv_iconst (pc := 22) (v := 1) C dDu_canBeCents_22 (by decide) ?_
        refine zv_goto (pc := 23) (tgt := 27) C dDu_canBeCents_23 (by decide) ?_
        exact zv_zret (pc := 27) C hr (by first | rfl | exact zb_nar _) dDu_canBeCents_27 (Nat.le_of_ble_eq_true rfl) (Nat.le_of_ble_eq_true rfl) (by simp_all [zPr, zb, centsB, lg_cmp_eq, lg_cmp_lt, lg_cmp_gt])
