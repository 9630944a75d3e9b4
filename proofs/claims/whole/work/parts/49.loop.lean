/-! the law's loop over the script, five ints a call -/
theorem w_cmp {L i : Nat} (hL : L ≤ 2560) (hi : i ≤ 2560) : (nI L - 5 < nI i) ↔ L < i + 5 := by
  have h1 : (nI L - 5).toInt = (L : Int) - 5 := by
    rw [Int32.toInt_sub, nI_toInt (by omega), show (5 : Int32).toInt = 5 from by decide]
    exact Int.bmod_eq_of_le (by omega) (by omega)
  rw [Int32.lt_iff_toInt_lt, h1, nI_toInt (by omega)]; omega
set_option maxHeartbeats 4000000 in
set_option maxRecDepth 100000 in
theorem w_loop {O : zO} {p : Program} {l : Launch} {e : Env} {s : State} {m : MethodId} {args : Array Value} {below : List Frame} {meth : Method} {c : Code} {Q : State → Prop} (hk : zK O l) {b L : Nat} {xs : Nat → Int32} (C : zC O p l s m meth c RLa bLa_law 8) (hX : zSc O b L xs) (hL : L ≤ 2560) {ax ay ao : Nat} (kx : ∀ (G : zG) (kc ks : Nat), kc ≤ 601024 → ks ≤ 7293034 → zV O p l e room_1 s m args below meth c 8 Q 1103 [] [] G kc ks) : ∀ (n i kc ks : Nat) (G : zG), L < i + 5 * n + 5 → i ≤ 2560 → kc + 4 * n ≤ 601024 → ks + 55 * n ≤ 7293034 → zLI O G ax ay ao → zV O p l e room_1 s m args below meth c 8 Q 23 [(0, .ref b), (1, .ref ax), (2, .ref ay), (3, .ref ao), (4, .int (nI i))] [] G kc ks := by
  intro n
  induction n with
  | zero =>
    intro i kc ks G h1 h2 h3 h4 h
    refine zv_iload (pc := 23) C dLa_law_23 rfl ?_
    refine zv_aload_n (pc := 25) C dLa_law_25 rfl ?_
    refine zv_slen (pc := 26) C hX dLa_law_26 ?_
    refine zv_iconst (pc := 27) (v := 5) C dLa_law_27 (by decide) ?_
    refine zv_isub (pc := 28) C dLa_law_28 ?_
    refine zv_icmp_gt (pc := 29) (tgt := 1103) C dLa_law_29 (by decide) (fun cX => ?_) (fun cX => absurd ((w_cmp hL h2).mpr (by omega)) cX)
    exact zv_pick [] rfl (kx _ _ _ (by omega) (by omega))
  | succ n ih =>
    intro i kc ks G h1 h2 h3 h4 h
    refine zv_iload (pc := 23) C dLa_law_23 rfl ?_
    refine zv_aload_n (pc := 25) C dLa_law_25 rfl ?_
    refine zv_slen (pc := 26) C hX dLa_law_26 ?_
    refine zv_iconst (pc := 27) (v := 5) C dLa_law_27 (by decide) ?_
    refine zv_isub (pc := 28) C dLa_law_28 ?_
    refine zv_icmp_gt (pc := 29) (tgt := 1103) C dLa_law_29 (by decide) (fun cX => ?_) (fun cX => ?_)
    · exact zv_pick [] rfl (kx _ _ _ (by omega) (by omega))
    have hi : i + 5 ≤ L := Nat.not_lt.mp (fun q => cX ((w_cmp hL h2).mpr q))
    have tl : ∀ G' : zG, zLI O G' ax ay ao → zV O p l e room_1 s m args below meth c 8 Q 1097 [(0, .ref b), (1, .ref ax), (2, .ref ay), (3, .ref ao), (4, .int (nI i))] [] G' (kc + 4) (ks + 55) := fun G' h' => by
      refine zv_iinc (pc := 1097) (v := nI (i + 5)) C dLa_law_1097 rfl (by rw [show Int32.ofInt 5 = nI 5 from by decide]; exact nI_add i 5) (by decide) ?_
      refine zv_goto (pc := 1100) (tgt := 23) C dLa_law_1100 (by decide) ?_
      exact zv_pick [0, 1, 2, 3, 4] rfl (ih (i + 5) _ _ G' (by omega) (by omega) (by omega) (by omega) h')
    refine zv_aload_n (pc := 32) C dLa_law_32 rfl ?_
    refine zv_iload (pc := 33) C dLa_law_33 rfl ?_
    refine zv_sld (pc := 35) C hX dLa_law_35 (by omega) ?_
    refine zv_bipush (pc := 36) (v := 15) C dLa_law_36 (by decide) ?_
    refine zv_iand (pc := 38) C dLa_law_38 ?_
    generalize xs i &&& 15 = w
    by_cases e0 : w = 0
    · subst e0
      refine zv_tabIn (pc := 39) (tgt := 116) C dLa_law_39 (by decide) (by decide) rfl (by decide) ?_
      exact w_0 hk C hX hi (by omega) (by omega) h tl
    by_cases e1 : w = 1
    · subst e1
      refine zv_tabIn (pc := 39) (tgt := 172) C dLa_law_39 (by decide) (by decide) rfl (by decide) ?_
      exact w_1 hk C hX hi (by omega) (by omega) h tl
    by_cases e2 : w = 2
    · subst e2
      refine zv_tabIn (pc := 39) (tgt := 240) C dLa_law_39 (by decide) (by decide) rfl (by decide) ?_
      exact w_2 hk C hX hi (by omega) (by omega) h tl
    by_cases e3 : w = 3
    · subst e3
      refine zv_tabIn (pc := 39) (tgt := 321) C dLa_law_39 (by decide) (by decide) rfl (by decide) ?_
      exact w_3 hk C hX hi (by omega) (by omega) h tl
    by_cases e4 : w = 4
    · subst e4
      refine zv_tabIn (pc := 39) (tgt := 374) C dLa_law_39 (by decide) (by decide) rfl (by decide) ?_
      exact w_4 hk C hX hi (by omega) (by omega) h tl
    by_cases e5 : w = 5
    · subst e5
      refine zv_tabIn (pc := 39) (tgt := 430) C dLa_law_39 (by decide) (by decide) rfl (by decide) ?_
      exact w_5 hk C hX hi (by omega) (by omega) h tl
    by_cases e6 : w = 6
    · subst e6
      refine zv_tabIn (pc := 39) (tgt := 498) C dLa_law_39 (by decide) (by decide) rfl (by decide) ?_
      exact w_6 hk C hX hi (by omega) (by omega) h tl
    by_cases e7 : w = 7
    · subst e7
      refine zv_tabIn (pc := 39) (tgt := 523) C dLa_law_39 (by decide) (by decide) rfl (by decide) ?_
      exact w_7 hk C hX hi (by omega) (by omega) h tl
    by_cases e8 : w = 8
    · subst e8
      refine zv_tabIn (pc := 39) (tgt := 602) C dLa_law_39 (by decide) (by decide) rfl (by decide) ?_
      exact w_8 hk C hX hi (by omega) (by omega) h tl
    by_cases e9 : w = 9
    · subst e9
      refine zv_tabIn (pc := 39) (tgt := 681) C dLa_law_39 (by decide) (by decide) rfl (by decide) ?_
      exact w_9 hk C hX hi (by omega) (by omega) h tl
    by_cases e10 : w = 10
    · subst e10
      refine zv_tabIn (pc := 39) (tgt := 730) C dLa_law_39 (by decide) (by decide) rfl (by decide) ?_
      exact w_10 hk C hX hi (by omega) (by omega) h tl
    by_cases e11 : w = 11
    · subst e11
      refine zv_tabIn (pc := 39) (tgt := 767) C dLa_law_39 (by decide) (by decide) rfl (by decide) ?_
      exact w_11 hk C hX hi (by omega) (by omega) h tl
    by_cases e12 : w = 12
    · subst e12
      refine zv_tabIn (pc := 39) (tgt := 846) C dLa_law_39 (by decide) (by decide) rfl (by decide) ?_
      exact w_12 hk C hX hi (by omega) (by omega) h tl
    by_cases e13 : w = 13
    · subst e13
      refine zv_tabIn (pc := 39) (tgt := 937) C dLa_law_39 (by decide) (by decide) rfl (by decide) ?_
      exact w_13 hk C hX hi (by omega) (by omega) h tl
    by_cases e14 : w = 14
    · subst e14
      refine zv_tabIn (pc := 39) (tgt := 1004) C dLa_law_39 (by decide) (by decide) rfl (by decide) ?_
      exact w_14 hk C hX hi (by omega) (by omega) h tl
    by_cases e15 : w = 15
    · subst e15
      refine zv_tabIn (pc := 39) (tgt := 1072) C dLa_law_39 (by decide) (by decide) rfl (by decide) ?_
      exact w_15 hk C hX hi (by omega) (by omega) h tl
    refine zv_tabOut (pc := 39) (tgt := 1097) C dLa_law_39 (by have x0 : w.toInt ≠ 0 := fun h => e0 (Int32.toInt_inj.mp (h.trans (by decide))); have x1 : w.toInt ≠ 1 := fun h => e1 (Int32.toInt_inj.mp (h.trans (by decide))); have x2 : w.toInt ≠ 2 := fun h => e2 (Int32.toInt_inj.mp (h.trans (by decide))); have x3 : w.toInt ≠ 3 := fun h => e3 (Int32.toInt_inj.mp (h.trans (by decide))); have x4 : w.toInt ≠ 4 := fun h => e4 (Int32.toInt_inj.mp (h.trans (by decide))); have x5 : w.toInt ≠ 5 := fun h => e5 (Int32.toInt_inj.mp (h.trans (by decide))); have x6 : w.toInt ≠ 6 := fun h => e6 (Int32.toInt_inj.mp (h.trans (by decide))); have x7 : w.toInt ≠ 7 := fun h => e7 (Int32.toInt_inj.mp (h.trans (by decide))); have x8 : w.toInt ≠ 8 := fun h => e8 (Int32.toInt_inj.mp (h.trans (by decide))); have x9 : w.toInt ≠ 9 := fun h => e9 (Int32.toInt_inj.mp (h.trans (by decide))); have x10 : w.toInt ≠ 10 := fun h => e10 (Int32.toInt_inj.mp (h.trans (by decide))); have x11 : w.toInt ≠ 11 := fun h => e11 (Int32.toInt_inj.mp (h.trans (by decide))); have x12 : w.toInt ≠ 12 := fun h => e12 (Int32.toInt_inj.mp (h.trans (by decide))); have x13 : w.toInt ≠ 13 := fun h => e13 (Int32.toInt_inj.mp (h.trans (by decide))); have x14 : w.toInt ≠ 14 := fun h => e14 (Int32.toInt_inj.mp (h.trans (by decide))); have x15 : w.toInt ≠ 15 := fun h => e15 (Int32.toInt_inj.mp (h.trans (by decide))); omega) (by decide) ?_
    exact zv_widen (by omega) (by omega) (tl _ h)
/-- two new objects and a cell for one long: the law's world -/
theorem zLI_new {O : zO} {G1 G2 : zG} {ad am : Nat → Nat} {q17 : Nat} {e0 : va_E} (h8 : G1 (am 0) = none) (hR : zRep O G1 ad nwS) (hM : zMm O G2 am nwM) (hN2 : ∀ i, 0 < i → i < 14 → (zu G1 (am 0) e0) (am i) = none) (hF2 : ∀ q e, (zu G1 (am 0) e0) q = some e → q ≠ am 0 → G2 q = some e) (h17 : G2 q17 = none) : zLI O (zu G2 q17 (zJ O 1 (fun _ => 0))) (ad 0) (am 0) q17 := by
  have n0 : ∀ j, j < 12 + 3 * snb nwS → ad j ≠ am 0 := fun j hj he => by
    obtain ⟨e, h⟩ := hR.dom hj
    rw [he, h8] at h
    cases h
  have g2 : ∀ j, j < 12 + 3 * snb nwS → G2 (ad j) = G1 (ad j) := fun j hj => by
    obtain ⟨e, h⟩ := hR.dom hj
    rw [h]
    exact hF2 _ e ((zu_n (n0 j hj)).trans h) (n0 j hj)
  have d3 : ∀ j, j < 12 + 3 * snb nwS → q17 ≠ ad j := fun j hj he => by
    obtain ⟨e, h⟩ := hR.dom hj
    rw [← g2 j hj, ← he, h17] at h
    cases h
  have d2 : ∀ i, i < 14 → q17 ≠ am i := fun i hi he => by
    obtain ⟨e, h⟩ := hM.dom hi
    rw [← he, h17] at h
    cases h
  have d1 : ∀ i j, i < 14 → j < 12 + 3 * snb nwS → am i ≠ ad j := fun i j hi hj he => by
    by_cases hz : i = 0
    · subst hz
      exact n0 j hj he.symm
    · obtain ⟨e, h⟩ := hR.dom hj
      have := hN2 i (by omega) hi
      rw [he, zu_n (n0 j hj), h] at this
      cases this
  exact ⟨ad, am, nwS, nwM, rfl, rfl, ⟨hR.keptAll (fun j hj => (zu_n (Ne.symm (d3 j hj))).trans (g2 j hj)), hM.kept (fun i hi => zu_n (Ne.symm (d2 i hi))), ⟨_, zu_s⟩, d1, d2, d3⟩, Inv.new⟩
set_option maxHeartbeats 4000000 in
set_option maxRecDepth 100000 in
theorem w_start {O : zO} {p : Program} {l : Launch} {e : Env} {s : State} {m : MethodId} {args : Array Value} {below : List Frame} {meth : Method} {c : Code} {Q : State → Prop} (hk : zK O l) {b L : Nat} {xs : Nat → Int32} (C : zC O p l s m meth c RLa bLa_law 8) (hX : zSc O b L xs) (hL : L ≤ 2560) (kx : ∀ (G : zG) (kc ks : Nat), kc ≤ 601024 → ks ≤ 7293034 → zV O p l e room_1 s m args below meth c 8 Q 1103 [] [] G kc ks) : zV O p l e room_1 s m args below meth c 8 Q 0 [(0, .ref b)] [] (fun _ => none) 0 0 := by
  refine zv_new (pc := 0) C (fs := [.null, .int 0, .null, .int 0, .null, .null, .int 0, .int 0, .int 0, .int 0, .int 0]) dLa_law_0 nLa_8 tkDu (by decide +kernel) (Nat.le_of_ble_eq_true rfl) (Nat.le_of_ble_eq_true rfl) (fun q0 h0 => ?_)
  refine zv_dup (pc := 3) C dLa_law_3 rfl ?_
  refine zv_callI (pc := 4) C dLa_law_4 zNo_not (cDu_init hk _ q0 zu_s) gLa_52 ⟨rfl, rfl, ⟨Nat.le_of_ble_eq_true rfl, Nat.le_of_ble_eq_true rfl⟩, mDu_init⟩ rfl rfl rfl (Nat.le_of_ble_eq_true rfl) ⟨Nat.le_of_ble_eq_true rfl, Nat.le_of_ble_eq_true rfl⟩ (fun v G1 h1 => ?_)
  obtain ⟨rfl, ad, rfl, hR, hN1, hF1⟩ := h1
  refine zv_astore_n (pc := 7) C dLa_law_7 (by decide) ?_
  refine zv_new (pc := 8) C (fs := [.int 0, .int 0, .int 0, .int 0, .int 0, .int 0, .int 0, .int 0, .int 0, .null, .null, .null, .null, .null, .null, .null, .null, .null, .null, .null, .null, .null]) dLa_law_8 nLa_53 tkMo (by decide +kernel) (Nat.le_of_ble_eq_true rfl) (Nat.le_of_ble_eq_true rfl) (fun q8 h8 => ?_)
  refine zv_dup (pc := 11) C dLa_law_11 rfl ?_
  refine zv_callI (pc := 12) C dLa_law_12 zNo_not (cMo_init hk _ q8 zu_s) gLa_55 ⟨rfl, rfl, ⟨Nat.le_of_ble_eq_true rfl, Nat.le_of_ble_eq_true rfl⟩, mMo_init⟩ rfl rfl rfl (Nat.le_of_ble_eq_true rfl) ⟨Nat.le_of_ble_eq_true rfl, Nat.le_of_ble_eq_true rfl⟩ (fun v G2 h2 => ?_)
  obtain ⟨rfl, am, rfl, hM, hN2, hF2⟩ := h2
  refine zv_astore_n (pc := 15) C dLa_law_15 (by decide) ?_
  refine zv_iconst (pc := 16) (v := 1) C dLa_law_16 (by decide) ?_
  refine zv_newJ (pc := 17) C 1 dLa_law_17 zw_87 (by decide) (by decide) (by decide) (Nat.le_of_ble_eq_true rfl) (Nat.le_of_ble_eq_true rfl) (fun q17 h17 => ?_)
  refine zv_astore_n (pc := 19) C dLa_law_19 (by decide) ?_
  refine zv_iconst (pc := 20) (v := nI 0) C dLa_law_20 (by decide) ?_
  refine zv_istore (pc := 21) C dLa_law_21 (by decide) ?_
  exact zv_pick [0, 1, 2, 3, 4] rfl (w_loop hk C hX hL kx 512 0 _ _ _ (by omega) (by omega) (Nat.le_of_ble_eq_true rfl) (Nat.le_of_ble_eq_true rfl) (zLI_new h8 hR hM hN2 hF2 h17))
