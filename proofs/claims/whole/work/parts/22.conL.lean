def nwB (vd kd rv : Int32) : aB := (vd, kd, rv, 0, 0, -1, 0, fun _ => 0, fun _ => 0)
theorem zRep.keptAll {O : zO} {G G' : zG} {ad : Nat → Nat} {S : aS} (h : zRep O G ad S) (hk : ∀ j, j < 12 + 3 * snb S → G' (ad j) = G (ad j)) : zRep O G' ad S := h.root rfl rfl rfl ((hk 0 (by omega)).trans h.2.1) ((hk 1 (by omega)).trans h.2.2.1) (fun j _ g => hk j g)
theorem zRep.dom {O : zO} {G : zG} {ad : Nat → Nat} {S : aS} (h : zRep O G ad S) {i : Nat} (hi : i < 12 + 3 * snb S) : ∃ e, G (ad i) = some e := by
  obtain ⟨hinj, hD, hK1, ⟨fb, hF, hfb⟩, ⟨k0, k1, k2, k3, k4, k5⟩, ⟨hSh, hp1, hp2⟩, hbs⟩ := h
  rcases Nat.lt_or_ge i 12 with g | g
  · rcases (show i = 0 ∨ i = 1 ∨ i = 2 ∨ i = 3 ∨ i = 4 ∨ i = 5 ∨ i = 6 ∨ i = 7 ∨ i = 8 ∨ i = 9 ∨ i = 10 ∨ i = 11 by omega) with rfl | rfl | rfl | rfl | rfl | rfl | rfl | rfl | rfl | rfl | rfl | rfl
    all_goals first | exact ⟨_, hD⟩ | exact ⟨_, hK1⟩ | exact ⟨_, hF⟩ | exact ⟨_, k0⟩ | exact ⟨_, k1⟩ | exact ⟨_, k2⟩ | exact ⟨_, k3⟩ | exact ⟨_, k4⟩ | exact ⟨_, k5⟩ | exact ⟨_, hSh⟩ | exact ⟨_, hp1⟩ | exact ⟨_, hp2⟩
  · obtain ⟨b1, b2, b3⟩ := hbs ((i - 12) / 3) (by omega)
    rcases (show i = 12 + 3 * ((i - 12) / 3) ∨ i = 13 + 3 * ((i - 12) / 3) ∨ i = 14 + 3 * ((i - 12) / 3) by omega) with q | q | q <;> rw [q]
    · exact ⟨_, b1⟩
    · exact ⟨_, b2⟩
    · exact ⟨_, b3⟩
/-- cells that weren't there are apart from the class's -/
theorem zRep.apt {O : zO} {G : zG} {ad : Nat → Nat} {S : aS} (h : zRep O G ad S) {x y z : Nat} (hx : G x = none) (hy : G y = none) (hz : G z = none) (h1 : x ≠ y) (h2 : x ≠ z) (h3 : y ≠ z) : zApt ad S x y z := ⟨⟨h1, h2, h3⟩, fun i hi => by
  obtain ⟨e, he⟩ := h.dom hi
  exact ⟨zu_fresh hx he, zu_fresh hy he, zu_fresh hz he⟩⟩
/-- a new batch stands beside the class's cells -/
theorem zRep.born {O : zO} {G G' : zG} {ad : Nat → Nat} {S : aS} (h : zRep O G ad S) {q : Nat} {e0 : va_E} {vd kd rv : Int32} (hq : G q = none) (hN : zBaN O (zu G q e0) G' q vd kd rv) : ∃ y z : Nat, G y = none ∧ G z = none ∧ zApt ad S q y z ∧ zBat O G' q y z (nwB vd kd rv) ∧ zRep O G' ad S ∧ ∀ a e, G a = some e → G' a = some e := by
  obtain ⟨y, z, hy, hz, hyz, g1, g2, g3, g4⟩ := hN
  have hy0 := zu_none hy
  have hz0 := zu_none hz
  have nqy : q ≠ y := fun w => by rw [← w, zu_s] at hy; cases hy
  have nqz : q ≠ z := fun w => by rw [← w, zu_s] at hz; cases hz
  have hk : ∀ a e, G a = some e → G' a = some e := fun a e ha => by
    have m1 : a ≠ q := Ne.symm (zu_fresh hq ha)
    rw [g4 a m1 (Ne.symm (zu_fresh hy0 ha)) (Ne.symm (zu_fresh hz0 ha)), zu_n m1]; exact ha
  exact ⟨y, z, hy0, hz0, h.apt hq hy0 hz0 nqy nqz hyz, ⟨g1, g2, g3⟩, h.keptAll (fun j hj => by obtain ⟨e, he⟩ := h.dom hj; rw [he]; exact hk _ _ he), hk⟩
def daysOk (x y : Int32) : Bool := isDayB x && isDayB y
theorem zTo_add {O : zO} {G G1 G2 : zG} {ad : Nat → Nat} {S : aS} {x y z : Nat} {b : aB} (hR2 : zRep O G2 (adN ad (snb S) x y z) (adB S b)) (hx : G x = none) (hy : G y = none) (hz : G z = none) (hfr : ∀ q, q ≠ ad 0 → q ≠ ad 2 → G2 q = G1 q) (hkp : ∀ a e, G a = some e → G1 a = some e) : zTo O G G2 ad S (adB S b) := by
  refine ⟨adN ad (snb S) x y z, hR2, Nat.le_succ _, fun i hi => adN_old hi, fun i h1 h2 => ?_, fun q e g1 g2 => by rw [hfr q (g2 0 (by omega)) (g2 2 (by omega))]; exact hkp q e g1⟩
  have h2 : i < 12 + 3 * (snb S + 1) := h2
  rcases (show i = 12 + 3 * snb S ∨ i = 13 + 3 * snb S ∨ i = 14 + 3 * snb S by omega) with rfl | rfl | rfl
  · rw [adN_x]; exact hx
  · rw [adN_y]; exact hy
  · rw [adN_z]; exact hz
set_option maxHeartbeats 4000000 in
set_option maxRecDepth 100000 in
theorem cDu_batch {O : zO} {l : Launch} (hk : zK O l) (G : zG) (x1 x2 : Int32) {ad : Nat → Nat} {S : aS} (hR : zRep O G ad S) (hS : aOk S) : zM O l yDu_batch [Cond.code yDu_batch bDu_batch 3 (some .int)] rmDu_batch [.ref (ad 0), .int x1, .int x2] G 3 49 (fun v G' => daysOk x1 x2 = true ∧ snb S < 100 ∧ v = some (.int (nI (snb S))) ∧ zTo O G G' ad S (adB S (nwB x1 x2 (-1)))) (fun E G' => G' = G ∧ ((daysOk x1 x2 = false ∧ E = "java/lang/IllegalArgumentException") ∨ (daysOk x1 x2 = true ∧ ¬ snb S < 100 ∧ E = "java/lang/IllegalStateException"))) := by
  refine zm_of hk (by decide) (Nat.le_of_ble_eq_true rfl) ?_
  intro p e s m below meth c C hex hr hnm
  obtain ⟨hinj, hD, hK1, ⟨fb, hF, hfb⟩, hBk, ⟨hSh, hp1, hp2⟩, hbs⟩ := id hR
  obtain ⟨ok1, ok2, ok3, ok4⟩ := id hS
  refine zv_iload_n (pc := 0) C dDu_batch_0 rfl ?_
  refine zv_callS (pc := 1) C dDu_batch_1 (cDu_isDay hk _ _) gDu_71 ⟨rfl, rfl, ⟨Nat.le_of_ble_eq_true rfl, Nat.le_of_ble_eq_true rfl⟩, mDu_isDay⟩ rfl rfl (Nat.le_of_ble_eq_true rfl) ⟨Nat.le_of_ble_eq_true rfl, Nat.le_of_ble_eq_true rfl⟩ (fun _ _ h => h.elim) (fun v G' h => ?_)
  obtain ⟨rfl, rfl⟩ := h
  refine zv_if_eq (pc := 4) (tgt := 14) C dDu_batch_4 (by decide) (fun c4 => ?_) (fun c4 => ?_)
  · exact zv_throwS (pc := 14) C dDu_batch_14 dDu_batch_17 dDu_batch_18 dDu_batch_20 dDu_batch_23 tDu_74_63 hex (Nat.le_of_ble_eq_true rfl) (Nat.le_of_ble_eq_true rfl) (Nat.le_of_ble_eq_true rfl) (Nat.le_of_ble_eq_true rfl) (Nat.le_of_ble_eq_true rfl) (Nat.le_of_ble_eq_true rfl) (by (try simp only [zb_0, Bool.not_eq_false] at c4); exact ⟨rfl, Or.inl ⟨by simp [daysOk, c4], rfl⟩⟩)
  · refine zv_iload_n (pc := 7) C dDu_batch_7 rfl ?_
    refine zv_callS (pc := 8) C dDu_batch_8 (cDu_isDay hk _ _) gDu_71 ⟨rfl, rfl, ⟨Nat.le_of_ble_eq_true rfl, Nat.le_of_ble_eq_true rfl⟩, mDu_isDay⟩ rfl rfl (Nat.le_of_ble_eq_true rfl) ⟨Nat.le_of_ble_eq_true rfl, Nat.le_of_ble_eq_true rfl⟩ (fun _ _ h => h.elim) (fun v G' h => ?_)
    obtain ⟨rfl, rfl⟩ := h
    refine zv_if_ne (pc := 11) (tgt := 24) C dDu_batch_11 (by decide) (fun c11 => ?_) (fun c11 => ?_)
    · refine zv_aload_n (pc := 24) C dDu_batch_24 rfl ?_
      refine zv_get (pc := 25) C dDu_batch_25 fDu_23 (by first | assumption | exact zu_s | (refine (zu_n (by assumption)).trans ?_; first | assumption | exact zu_s)) rfl ?_
      refine zv_bipush (pc := 28) (v := 100) C dDu_batch_28 (by decide) ?_
      refine zv_icmp_lt (pc := 30) (tgt := 43) C dDu_batch_30 (by decide) (fun c30 => ?_) (fun c30 => ?_)
      · have hlt : snb S < 100 := n100 (by omega) c30
        refine zv_aload_n (pc := 43) C dDu_batch_43 rfl ?_
        refine zv_new (pc := 44) C (fs := [.int 0, .int 0, .int 0, .null, .null, .int 0, .int 0, .int 0, .int 0]) dDu_batch_44 nDu_17 tkBa (by decide +kernel) (Nat.le_of_ble_eq_true rfl) (Nat.le_of_ble_eq_true rfl) (fun q44 h44 => ?_)
        refine zv_dup (pc := 47) C dDu_batch_47 rfl ?_
        refine zv_iload_n (pc := 48) C dDu_batch_48 rfl ?_
        refine zv_iload_n (pc := 49) C dDu_batch_49 rfl ?_
        refine zv_iconst (pc := 50) (v := -1) C dDu_batch_50 (by decide) ?_
        refine zv_callI (pc := 51) C dDu_batch_51 zNo_not (cBa_init hk _ _ _ _ _ zu_s) gDu_78 ⟨rfl, rfl, ⟨Nat.le_of_ble_eq_true rfl, Nat.le_of_ble_eq_true rfl⟩, mBa_init⟩ rfl rfl rfl (Nat.le_of_ble_eq_true rfl) ⟨Nat.le_of_ble_eq_true rfl, Nat.le_of_ble_eq_true rfl⟩ (fun v G' h => ?_)
        obtain ⟨rfl, hN⟩ := h
        obtain ⟨y, z, hy, hz, hA, hb, hR1, hkp⟩ := hR.born h44 hN
        have hD1 := hR1.2.1
        refine zv_callV (pc := 54) C dDu_batch_54 (cDu_keep hk _ _ hR1 hS hb hA hlt) gDu_81 ⟨rfl, rfl, ⟨Nat.le_of_ble_eq_true rfl, Nat.le_of_ble_eq_true rfl⟩, mDu_keep⟩ rfl rfl (Nat.le_of_ble_eq_true rfl) (by first | assumption | exact zu_s | (refine (zu_n (by assumption)).trans ?_; first | assumption | exact zu_s)) rfl rfl ⟨Nat.le_of_ble_eq_true rfl, Nat.le_of_ble_eq_true rfl⟩ (fun _ _ h => h.elim) (fun v G' h => ?_)
        obtain ⟨rfl, hR2, hfr⟩ := h
        exact zv_iret (pc := 57) C hr dDu_batch_57 (Nat.le_of_ble_eq_true rfl) (Nat.le_of_ble_eq_true rfl) (by (try simp only [zb_0, Bool.not_eq_false] at c4); (try simp only [zb_0, Bool.not_eq_false] at c11); (try simp only [zb_0, Bool.not_eq_false] at c30); exact ⟨by simp [daysOk, c4, c11, c30], hlt, rfl, zTo_add hR2 h44 hy hz hfr hkp⟩)
      · exact zv_throwS (pc := 33) C dDu_batch_33 dDu_batch_36 dDu_batch_37 dDu_batch_39 dDu_batch_42 tDu_76_70 hex (Nat.le_of_ble_eq_true rfl) (Nat.le_of_ble_eq_true rfl) (Nat.le_of_ble_eq_true rfl) (Nat.le_of_ble_eq_true rfl) (Nat.le_of_ble_eq_true rfl) (Nat.le_of_ble_eq_true rfl) (by (try simp only [zb_0, Bool.not_eq_false] at c4); (try simp only [zb_0, Bool.not_eq_false] at c11); (try simp only [zb_0, Bool.not_eq_false] at c30); exact ⟨rfl, Or.inr ⟨by simp [daysOk, c4, c11, c30], fun h => c30 (nI_lt (b := 100) h (by omega)), rfl⟩⟩)
    · exact zv_throwS (pc := 14) C dDu_batch_14 dDu_batch_17 dDu_batch_18 dDu_batch_20 dDu_batch_23 tDu_74_63 hex (Nat.le_of_ble_eq_true rfl) (Nat.le_of_ble_eq_true rfl) (Nat.le_of_ble_eq_true rfl) (Nat.le_of_ble_eq_true rfl) (Nat.le_of_ble_eq_true rfl) (Nat.le_of_ble_eq_true rfl) (by (try simp only [zb_0, Bool.not_eq_false] at c4); (try simp only [zb_0, Bool.not_eq_false] at c11); exact ⟨rfl, Or.inl ⟨by simp [daysOk, c4, c11], rfl⟩⟩)
