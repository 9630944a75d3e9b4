theorem aOk_add {S : aS} {b : aB} (h : aOk S) (hn : snb S < 100) (hb : bsz b ≤ 20) : aOk (adB S b) := by
  obtain ⟨h1, h2, h3, h4⟩ := h
  refine ⟨h1, hn, h3, fun i hi => ?_⟩
  have hi : i < snb S + 1 := hi
  show bsz (if i = snb S then b else sB S i) ≤ 20
  by_cases g : i = snb S
  · rw [if_pos g]; exact hb
  · rw [if_neg g]; exact h4 i (by omega)
theorem zRep.setB {O : zO} {G : zG} {ad : Nat → Nat} {S : aS} (hR : zRep O G ad S) {i : Nat} (hi : i < snb S) {b' : aB} (h1 : bfa b' = bfa (sB S i)) (h2 : bfc b' = bfc (sB S i)) : zRep O (zu G (ad (12 + 3 * i)) (oBa (bvd b') (bkd b') (brv b') (ad (13 + 3 * i)) (ad (14 + 3 * i)) (nI (bsz b')) (bst b') (brb b') (btf b'))) ad (upB S i b') := by
  obtain ⟨hb1, hb2, hb3⟩ := hR.2.2.2.2.2.2 i hi
  refine hR.batch (i := i) (b := b') rfl rfl rfl ((zu_n (hR.ne (by omega) (by omega) (by omega))).trans hR.2.1) (hR.bkept (fun j hj => zu_n (hR.ne (by omega) (by omega) (by omega)))) ⟨zu_s, (zu_n (hR.ne (by omega) (by omega) (by omega))).trans ?_, (zu_n (hR.ne (by omega) (by omega) (by omega))).trans ?_⟩ (fun j g1 g2 g3 g4 g5 => zu_n (hR.ne g5 (by omega) (by omega)))
  · rw [h1]; exact hb2
  · rw [h2]; exact hb3
theorem adN_ne {ad : Nat → Nat} {n x y z q : Nat} (h : ∀ i, i < 12 + 3 * n → q ≠ ad i) (hx : q ≠ x) (hy : q ≠ y) (hz : q ≠ z) : ∀ j, j < 12 + 3 * (n + 1) → q ≠ adN ad n x y z j := by
  intro j hj
  rcases Nat.lt_or_ge j (12 + 3 * n) with g | g
  · rw [adN_old g]; exact h j g
  · rcases (show j = 12 + 3 * n ∨ j = 13 + 3 * n ∨ j = 14 + 3 * n by omega) with rfl | rfl | rfl
    · rw [adN_x]; exact hx
    · rw [adN_y]; exact hy
    · rw [adN_z]; exact hz
theorem zTo_rv {O : zO} {G G4 : zG} {ad : Nat → Nat} {S S3 : aS} {x y z : Nat} (hR5 : zRep O G4 (adN ad (snb S) x y z) S3) (hnb : snb S3 = snb S + 1) (hx : G x = none) (hy : G y = none) (hz : G z = none) (hfr : ∀ q e, G q = some e → (∀ i, i < 12 + 3 * snb S → q ≠ ad i) → G4 q = some e) : zTo O G G4 ad S S3 := by
  refine ⟨adN ad (snb S) x y z, hR5, by omega, fun i hi => adN_old hi, fun i h1 h2 => ?_, hfr⟩
  rw [hnb] at h2
  rcases (show i = 12 + 3 * snb S ∨ i = 13 + 3 * snb S ∨ i = 14 + 3 * snb S by omega) with rfl | rfl | rfl
  · rw [adN_x]; exact hx
  · rw [adN_y]; exact hy
  · rw [adN_z]; exact hz
def rbB (b : aB) (x : Int32) : aB := (bvd b, bkd b, brv b, bsz b, bst b, x, btf b, bfa b, bfc b)
/-- the reversal of the batch i -/
abbrev rvOf (S : aS) (i : Nat) (kd : Int32) : aB := rvB (sB S i) (nI i) kd (bsz (sB S i))
abbrev rvS1 (S : aS) (i : Nat) (kd : Int32) : aS := enS (adB S (rvOf S i kd)) (snb S)
/-- the batch i is reversed, known on kd -/
def rvS (S : aS) (i : Nat) (kd : Int32) : aS := upB (rvS1 S i kd) i (rbB (sB (rvS1 S i kd) i) (nI (snb S)))
set_option maxHeartbeats 4000000 in
set_option maxRecDepth 100000 in
theorem cDu_reverseT {O : zO} {l : Launch} (hk : zK O l) (G : zG) (i : Nat) (kd : Int32) {ad : Nat → Nat} {S : aS} (hR : zRep O G ad S) (hS : aOk S) (hi : i < snb S) (hw : bst (sB S i) = 1) : zM O l yDu_reverse [Cond.code yDu_reverse bDu_reverse 6 (some .int)] rmDu_reverse [.ref (ad 0), .int (nI i), .int kd] G 4 55 (fun v G' => isDayB kd = true ∧ brv (sB S i) = -1 ∧ brb (sB S i) = -1 ∧ snb S < 100 ∧ wrongB S (rvOf S i kd) = 0 ∧ v = some (.int (nI (snb S))) ∧ zTo O G G' ad S (rvS S i kd)) (fun E G' => (isDayB kd = false ∧ E = "java/lang/IllegalArgumentException" ∧ G' = G) ∨ (isDayB kd = true ∧ E = "java/lang/IllegalStateException" ∧ (¬ brv (sB S i) = -1 ∨ ¬ brb (sB S i) = -1 ∨ ¬ snb S < 100 ∨ ¬ wrongB S (rvOf S i kd) = 0) ∧ zTo O G G' ad S S)) := by
  refine zm_of hk (by decide) (Nat.le_of_ble_eq_true rfl) ?_
  intro p e s m below meth c C hex hr hnm
  obtain ⟨hinj, hD, hK1, ⟨fb, hF, hfb⟩, hBk, ⟨hSh, hp1, hp2⟩, hbs⟩ := id hR
  obtain ⟨ok1, ok2, ok3, ok4⟩ := id hS
  obtain ⟨hb1, hb2, hb3⟩ := hbs i hi
  refine zv_aload_n (pc := 0) C dDu_reverse_0 rfl ?_
  refine zv_iconst (pc := 1) (v := 1) C dDu_reverse_1 (by decide) ?_
  refine zv_iload_n (pc := 2) C dDu_reverse_2 rfl ?_
  refine zv_callV (pc := 3) C dDu_reverse_3 (cDu_batchThatIsT hk _ _ _ hR hS hi hw) gDu_85 ⟨rfl, rfl, ⟨Nat.le_of_ble_eq_true rfl, Nat.le_of_ble_eq_true rfl⟩, mDu_batchThatIs⟩ rfl rfl (Nat.le_of_ble_eq_true rfl) (by first | assumption | exact zu_s | (refine (zu_n (by assumption)).trans ?_; first | assumption | exact zu_s)) rfl rfl ⟨Nat.le_of_ble_eq_true rfl, Nat.le_of_ble_eq_true rfl⟩ (fun _ _ h => h.elim) (fun v G' h => ?_)
  obtain ⟨rfl, rfl⟩ := h
  refine zv_astore_n (pc := 6) C dDu_reverse_6 (by decide) ?_
  refine zv_aload_n (pc := 7) C dDu_reverse_7 rfl ?_
  refine zv_ifnull (pc := 8) C dDu_reverse_8 ?_
  refine zv_iload_n (pc := 11) C dDu_reverse_11 rfl ?_
  refine zv_callS (pc := 12) C dDu_reverse_12 (cDu_isDay hk _ _) gDu_71 ⟨rfl, rfl, ⟨Nat.le_of_ble_eq_true rfl, Nat.le_of_ble_eq_true rfl⟩, mDu_isDay⟩ rfl rfl (Nat.le_of_ble_eq_true rfl) ⟨Nat.le_of_ble_eq_true rfl, Nat.le_of_ble_eq_true rfl⟩ (fun _ _ h => h.elim) (fun v G' h => ?_)
  obtain ⟨rfl, rfl⟩ := h
  refine zv_if_ne (pc := 15) (tgt := 28) C dDu_reverse_15 (by decide) (fun c15 => ?_) (fun c15 => ?_)
  · refine zv_aload_n (pc := 28) C dDu_reverse_28 rfl ?_
    refine zv_get (pc := 29) C dDu_reverse_29 fDu_129 (by first | assumption | exact zu_s | (refine (zu_n (by assumption)).trans ?_; first | assumption | exact zu_s)) rfl ?_
    refine zv_iconst (pc := 32) (v := -1) C dDu_reverse_32 (by decide) ?_
    refine zv_icmp_ne (pc := 33) (tgt := 44) C dDu_reverse_33 (by decide) (fun c33 => ?_) (fun c33 => ?_)
    · exact zv_throwS (pc := 44) C dDu_reverse_44 dDu_reverse_47 dDu_reverse_48 dDu_reverse_50 dDu_reverse_53 tDu_135_70 hex (Nat.le_of_ble_eq_true rfl) (Nat.le_of_ble_eq_true rfl) (Nat.le_of_ble_eq_true rfl) (Nat.le_of_ble_eq_true rfl) (Nat.le_of_ble_eq_true rfl) (Nat.le_of_ble_eq_true rfl) (by (try simp only [zb_0, Bool.not_eq_false] at c15); (try simp only [zb_0, Bool.not_eq_false] at c33); exact Or.inr ⟨c15, rfl, by exact Or.inl c33, zTo.rf hR⟩)
    · refine zv_aload_n (pc := 36) C dDu_reverse_36 rfl ?_
      refine zv_get (pc := 37) C dDu_reverse_37 fDu_132 (by first | assumption | exact zu_s | (refine (zu_n (by assumption)).trans ?_; first | assumption | exact zu_s)) rfl ?_
      refine zv_iconst (pc := 40) (v := -1) C dDu_reverse_40 (by decide) ?_
      refine zv_icmp_eq (pc := 41) (tgt := 54) C dDu_reverse_41 (by decide) (fun c41 => ?_) (fun c41 => ?_)
      · refine zv_aload_n (pc := 54) C dDu_reverse_54 rfl ?_
        refine zv_get (pc := 55) C dDu_reverse_55 fDu_23 (by first | assumption | exact zu_s | (refine (zu_n (by assumption)).trans ?_; first | assumption | exact zu_s)) rfl ?_
        refine zv_bipush (pc := 58) (v := 100) C dDu_reverse_58 (by decide) ?_
        refine zv_icmp_lt (pc := 60) (tgt := 73) C dDu_reverse_60 (by decide) (fun c60 => ?_) (fun c60 => ?_)
        · have hlt : snb S < 100 := n100 (by omega) c60
          refine zv_iload_n (pc := 73) C dDu_reverse_73 rfl ?_
          refine zv_aload_n (pc := 74) C dDu_reverse_74 rfl ?_
          refine zv_iload_n (pc := 75) C dDu_reverse_75 rfl ?_
          refine zv_callS (pc := 76) C dDu_reverse_76 (cDu_reversalOf hk _ _ _ _ (hbs i hi) (ok4 i hi)) gDu_137 ⟨rfl, rfl, ⟨Nat.le_of_ble_eq_true rfl, Nat.le_of_ble_eq_true rfl⟩, mDu_reversalOf⟩ rfl rfl (Nat.le_of_ble_eq_true rfl) ⟨Nat.le_of_ble_eq_true rfl, Nat.le_of_ble_eq_true rfl⟩ (fun _ _ h => h.elim) (fun v G' h => ?_)
          obtain ⟨q9, y9, z9, rfl, hBo⟩ := h
          obtain ⟨⟨i1, i2, i3⟩, i4, i5, i6⟩ := hBo
          have hR1 : zRep O _ ad S := hR.keptAll (fun j hj => by obtain ⟨e9, he9⟩ := hR.dom hj; rw [he9]; exact i6 _ _ he9)
          have hA : zApt ad S q9 y9 z9 := hR.apt i1 i2 i3 i4.1 i4.2.1 i4.2.2
          have hD1 := hR1.2.1
          refine zv_astore (pc := 79) C dDu_reverse_79 (by decide) ?_
          refine zv_aload_n (pc := 81) C dDu_reverse_81 rfl ?_
          refine zv_aload (pc := 82) C dDu_reverse_82 rfl ?_
          refine zv_callV (pc := 84) C dDu_reverse_84 (cDu_whatIsWrongWith hk _ _ i5 (show bsz (rvOf S i kd) ≤ 20 from ok4 i hi) hR1 hS) gDu_106 ⟨rfl, rfl, ⟨Nat.le_of_ble_eq_true rfl, Nat.le_of_ble_eq_true rfl⟩, mDu_whatIsWrongWith⟩ rfl rfl (Nat.le_of_ble_eq_true rfl) (by first | assumption | exact zu_s | (refine (zu_n (by assumption)).trans ?_; first | assumption | exact zu_s)) rfl rfl ⟨Nat.le_of_ble_eq_true rfl, Nat.le_of_ble_eq_true rfl⟩ (fun _ _ h => h.elim) (fun v G' h => ?_)
          obtain ⟨rfl, rfl⟩ := h
          refine zv_if_eq (pc := 87) (tgt := 100) C dDu_reverse_87 (by decide) (fun c87 => ?_) (fun c87 => ?_)
          · refine zv_aload_n (pc := 100) C dDu_reverse_100 rfl ?_
            refine zv_aload (pc := 101) C dDu_reverse_101 rfl ?_
            refine zv_callV (pc := 103) C dDu_reverse_103 (cDu_keep hk _ _ hR1 hS i5 hA hlt) gDu_81 ⟨rfl, rfl, ⟨Nat.le_of_ble_eq_true rfl, Nat.le_of_ble_eq_true rfl⟩, mDu_keep⟩ rfl rfl (Nat.le_of_ble_eq_true rfl) (by first | assumption | exact zu_s | (refine (zu_n (by assumption)).trans ?_; first | assumption | exact zu_s)) rfl rfl ⟨Nat.le_of_ble_eq_true rfl, Nat.le_of_ble_eq_true rfl⟩ (fun _ _ h => h.elim) (fun v G' h => ?_)
            obtain ⟨rfl, hR2, hfr⟩ := h
            have hS2 : aOk (adB S (rvOf S i kd)) := aOk_add hS hlt (ok4 i hi)
            have hsb : sB (adB S (rvOf S i kd)) (snb S) = rvOf S i kd := if_pos rfl
            have hE := cDu_enter hk G' (snb S) hR2 hS2 (Nat.lt_succ_self _) (by rw [hsb]; exact wrongB_room (S := S) ok3 (ok4 i hi) c87)
            rw [adN_old (show (0 : Nat) < 12 + 3 * snb S by omega), adN_x] at hE
            have hD2 := hR2.2.1
            rw [adN_old (show (0 : Nat) < 12 + 3 * snb S by omega)] at hD2
            refine zv_istore (pc := 106) C dDu_reverse_106 (by decide) ?_
            refine zv_aload_n (pc := 108) C dDu_reverse_108 rfl ?_
            refine zv_iload (pc := 109) C dDu_reverse_109 rfl ?_
            refine zv_aload (pc := 111) C dDu_reverse_111 rfl ?_
            refine zv_callV (pc := 113) C dDu_reverse_113 (hE) gDu_124 ⟨rfl, rfl, ⟨Nat.le_of_ble_eq_true rfl, Nat.le_of_ble_eq_true rfl⟩, mDu_enter⟩ rfl rfl (Nat.le_of_ble_eq_true rfl) (by first | assumption | exact zu_s | (refine (zu_n (by assumption)).trans ?_; first | assumption | exact zu_s)) rfl rfl ⟨Nat.le_of_ble_eq_true rfl, Nat.le_of_ble_eq_true rfl⟩ (fun _ _ h => h.elim) (fun v G' h => ?_)
            obtain ⟨rfl, hT⟩ := h
            obtain ⟨ad3, hR3, -, hag, -, hfr3⟩ := hT
            have hR4 := hR3.cg hag
            have hi4 : i < snb (rvS1 S i kd) := Nat.lt_succ_of_lt hi
            obtain ⟨e1, e2, e3⟩ := hR4.2.2.2.2.2.2 i hi4
            have hR5 := hR4.setB hi4 (b' := rbB (sB (rvS1 S i kd) i) (nI (snb S))) rfl rfl
            rw [adN_old (show 12 + 3 * i < 12 + 3 * snb S by omega), adN_old (show 13 + 3 * i < 12 + 3 * snb S by omega), adN_old (show 14 + 3 * i < 12 + 3 * snb S by omega)] at e1 hR5
            refine zv_aload_n (pc := 116) C dDu_reverse_116 rfl ?_
            refine zv_iload (pc := 117) C dDu_reverse_117 rfl ?_
            refine zv_put (pc := 119) C dDu_reverse_119 fDu_132 ⟨tkBa, nmBa⟩ (by first | assumption | exact zu_s | (refine (zu_n (by assumption)).trans ?_; first | assumption | exact zu_s)) rfl (tkBa 7 (by decide)) (by first | rfl | assumption | exact zb_nar _) (by first | rfl | assumption | decide +kernel) (Nat.le_of_ble_eq_true rfl) ?_
            refine zv_iload (pc := 122) C dDu_reverse_122 rfl ?_
            exact zv_iret (pc := 124) C hr dDu_reverse_124 (Nat.le_of_ble_eq_true rfl) (Nat.le_of_ble_eq_true rfl) (by (try simp only [zb_0, Bool.not_eq_false] at c15); (try simp only [zb_0, Bool.not_eq_false] at c33); (try simp only [zb_0, Bool.not_eq_false] at c41); (try simp only [zb_0, Bool.not_eq_false] at c60); (try simp only [zb_0, Bool.not_eq_false] at c87); refine ⟨c15, c33, c41, hlt, c87, rfl, zTo_rv hR5 rfl i1 i2 i3 (fun q e9 g1 g2 => (zu_n (g2 _ (by omega))).trans (hfr3 q e9 ((hfr q (g2 0 (by omega)) (g2 2 (by omega))).trans (i6 q e9 g1)) (adN_ne g2 (Ne.symm (zu_fresh i1 g1)) (Ne.symm (zu_fresh i2 g1)) (Ne.symm (zu_fresh i3 g1)))))⟩)
          · exact zv_throwS (pc := 90) C dDu_reverse_90 dDu_reverse_93 dDu_reverse_94 dDu_reverse_96 dDu_reverse_99 tDu_141_70 hex (Nat.le_of_ble_eq_true rfl) (Nat.le_of_ble_eq_true rfl) (Nat.le_of_ble_eq_true rfl) (Nat.le_of_ble_eq_true rfl) (Nat.le_of_ble_eq_true rfl) (Nat.le_of_ble_eq_true rfl) (by (try simp only [zb_0, Bool.not_eq_false] at c15); (try simp only [zb_0, Bool.not_eq_false] at c33); (try simp only [zb_0, Bool.not_eq_false] at c41); (try simp only [zb_0, Bool.not_eq_false] at c60); (try simp only [zb_0, Bool.not_eq_false] at c87); exact Or.inr ⟨c15, rfl, Or.inr (Or.inr (Or.inr c87)), ad, hR1, Nat.le_refl _, fun _ _ => rfl, fun j g1 g2 => absurd g1 (by omega), fun q e9 g1 _ => i6 q e9 g1⟩)
        · exact zv_throwS (pc := 63) C dDu_reverse_63 dDu_reverse_66 dDu_reverse_67 dDu_reverse_69 dDu_reverse_72 tDu_76_70 hex (Nat.le_of_ble_eq_true rfl) (Nat.le_of_ble_eq_true rfl) (Nat.le_of_ble_eq_true rfl) (Nat.le_of_ble_eq_true rfl) (Nat.le_of_ble_eq_true rfl) (Nat.le_of_ble_eq_true rfl) (by (try simp only [zb_0, Bool.not_eq_false] at c15); (try simp only [zb_0, Bool.not_eq_false] at c33); (try simp only [zb_0, Bool.not_eq_false] at c41); (try simp only [zb_0, Bool.not_eq_false] at c60); exact Or.inr ⟨c15, rfl, Or.inr (Or.inr (Or.inl (fun h => c60 (nI_lt (b := 100) h (by omega))))), zTo.rf hR⟩)
      · exact zv_throwS (pc := 44) C dDu_reverse_44 dDu_reverse_47 dDu_reverse_48 dDu_reverse_50 dDu_reverse_53 tDu_135_70 hex (Nat.le_of_ble_eq_true rfl) (Nat.le_of_ble_eq_true rfl) (Nat.le_of_ble_eq_true rfl) (Nat.le_of_ble_eq_true rfl) (Nat.le_of_ble_eq_true rfl) (Nat.le_of_ble_eq_true rfl) (by (try simp only [zb_0, Bool.not_eq_false] at c15); (try simp only [zb_0, Bool.not_eq_false] at c33); (try simp only [zb_0, Bool.not_eq_false] at c41); exact Or.inr ⟨c15, rfl, by exact Or.inr (Or.inl c41), zTo.rf hR⟩)
  · exact zv_throwS (pc := 18) C dDu_reverse_18 dDu_reverse_21 dDu_reverse_22 dDu_reverse_24 dDu_reverse_27 tDu_127_63 hex (Nat.le_of_ble_eq_true rfl) (Nat.le_of_ble_eq_true rfl) (Nat.le_of_ble_eq_true rfl) (Nat.le_of_ble_eq_true rfl) (Nat.le_of_ble_eq_true rfl) (Nat.le_of_ble_eq_true rfl) (by (try simp only [zb_0, Bool.not_eq_false] at c15); exact Or.inl ⟨c15, rfl, rfl⟩)
set_option maxHeartbeats 4000000 in
set_option maxRecDepth 100000 in
theorem cDu_reverseO {O : zO} {l : Launch} (hk : zK O l) (G : zG) (i : Nat) (kd : Int32) {ad : Nat → Nat} {S : aS} (hR : zRep O G ad S) (hS : aOk S) (hi : i < snb S) (hw : ¬ bst (sB S i) = 1) : zM O l yDu_reverse [Cond.code yDu_reverse bDu_reverse 6 (some .int)] rmDu_reverse [.ref (ad 0), .int (nI i), .int kd] G 4 55 (fun _ _ => False) (fun E G' => E = "java/lang/IllegalArgumentException" ∧ G' = G) := by
  refine zm_of hk (by decide) (Nat.le_of_ble_eq_true rfl) ?_
  intro p e s m below meth c C hex hr hnm
  obtain ⟨hinj, hD, hK1, ⟨fb, hF, hfb⟩, hBk, ⟨hSh, hp1, hp2⟩, hbs⟩ := id hR
  obtain ⟨ok1, ok2, ok3, ok4⟩ := id hS
  refine zv_aload_n (pc := 0) C dDu_reverse_0 rfl ?_
  refine zv_iconst (pc := 1) (v := 1) C dDu_reverse_1 (by decide) ?_
  refine zv_iload_n (pc := 2) C dDu_reverse_2 rfl ?_
  refine zv_callV (pc := 3) C dDu_reverse_3 (cDu_batchThatIsO hk _ _ _ hR hS hi hw) gDu_85 ⟨rfl, rfl, ⟨Nat.le_of_ble_eq_true rfl, Nat.le_of_ble_eq_true rfl⟩, mDu_batchThatIs⟩ rfl rfl (Nat.le_of_ble_eq_true rfl) (by first | assumption | exact zu_s | (refine (zu_n (by assumption)).trans ?_; first | assumption | exact zu_s)) rfl rfl ⟨Nat.le_of_ble_eq_true rfl, Nat.le_of_ble_eq_true rfl⟩ (fun _ _ h => h.elim) (fun v G' h => ?_)
  obtain ⟨rfl, rfl⟩ := h
  refine zv_astore_nN (pc := 6) C dDu_reverse_6 (by decide) ?_
  refine zv_aload_nN (pc := 7) C dDu_reverse_7 rfl ?_
  refine zv_ifnullN (pc := 8) (tgt := 18) C dDu_reverse_8 (by decide) ?_
  exact zv_throwS (pc := 18) C dDu_reverse_18 dDu_reverse_21 dDu_reverse_22 dDu_reverse_24 dDu_reverse_27 tDu_127_63 hex (Nat.le_of_ble_eq_true rfl) (Nat.le_of_ble_eq_true rfl) (Nat.le_of_ble_eq_true rfl) (Nat.le_of_ble_eq_true rfl) (Nat.le_of_ble_eq_true rfl) (Nat.le_of_ble_eq_true rfl) (by exact ⟨rfl, rfl⟩)
set_option maxHeartbeats 4000000 in
set_option maxRecDepth 100000 in
theorem cDu_reverseF {O : zO} {l : Launch} (hk : zK O l) (G : zG) (y kd : Int32) {ad : Nat → Nat} {S : aS} (hR : zRep O G ad S) (hS : aOk S) (hx : isAccB y (nI (snb S)) = false) : zM O l yDu_reverse [Cond.code yDu_reverse bDu_reverse 6 (some .int)] rmDu_reverse [.ref (ad 0), .int y, .int kd] G 4 55 (fun _ _ => False) (fun E G' => E = "java/lang/IllegalArgumentException" ∧ G' = G) := by
  refine zm_of hk (by decide) (Nat.le_of_ble_eq_true rfl) ?_
  intro p e s m below meth c C hex hr hnm
  obtain ⟨hinj, hD, hK1, ⟨fb, hF, hfb⟩, hBk, ⟨hSh, hp1, hp2⟩, hbs⟩ := id hR
  obtain ⟨ok1, ok2, ok3, ok4⟩ := id hS
  refine zv_aload_n (pc := 0) C dDu_reverse_0 rfl ?_
  refine zv_iconst (pc := 1) (v := 1) C dDu_reverse_1 (by decide) ?_
  refine zv_iload_n (pc := 2) C dDu_reverse_2 rfl ?_
  refine zv_callV (pc := 3) C dDu_reverse_3 (cDu_batchThatIsF hk _ _ _ hR hS hx) gDu_85 ⟨rfl, rfl, ⟨Nat.le_of_ble_eq_true rfl, Nat.le_of_ble_eq_true rfl⟩, mDu_batchThatIs⟩ rfl rfl (Nat.le_of_ble_eq_true rfl) (by first | assumption | exact zu_s | (refine (zu_n (by assumption)).trans ?_; first | assumption | exact zu_s)) rfl rfl ⟨Nat.le_of_ble_eq_true rfl, Nat.le_of_ble_eq_true rfl⟩ (fun _ _ h => h.elim) (fun v G' h => ?_)
  obtain ⟨rfl, rfl⟩ := h
  refine zv_astore_nN (pc := 6) C dDu_reverse_6 (by decide) ?_
  refine zv_aload_nN (pc := 7) C dDu_reverse_7 rfl ?_
  refine zv_ifnullN (pc := 8) (tgt := 18) C dDu_reverse_8 (by decide) ?_
  exact zv_throwS (pc := 18) C dDu_reverse_18 dDu_reverse_21 dDu_reverse_22 dDu_reverse_24 dDu_reverse_27 tDu_127_63 hex (Nat.le_of_ble_eq_true rfl) (Nat.le_of_ble_eq_true rfl) (Nat.le_of_ble_eq_true rfl) (Nat.le_of_ble_eq_true rfl) (Nat.le_of_ble_eq_true rfl) (Nat.le_of_ble_eq_true rfl) (by exact ⟨rfl, rfl⟩)
