theorem wrongB_room {S : aS} {b : aB} (h1 : sn S ≤ 400) (h2 : bsz b ≤ 20) (h : wrongB S b = 0) : sn S + bsz b ≤ 400 := by
  unfold wrongB at h
  split at h; · exact absurd h (by decide)
  split at h; · exact absurd h (by decide)
  split at h; · exact absurd h (by decide)
  split at h; · exact absurd h (by decide)
  split at h
  · exact absurd h (by decide)
  · rename_i g
    rw [show (400 : Int32) = nI 400 from rfl, pk_sub (by omega), Int32.not_lt, nI_leI (by omega) (by omega)] at g
    omega
theorem zRep.cg {O : zO} {G : zG} {ad ad' : Nat → Nat} {S : aS} (h : zRep O G ad' S) (e : ∀ i, i < 12 + 3 * snb S → ad' i = ad i) : zRep O G ad S := by
  obtain ⟨hinj, hD, hK1, ⟨fb, hF, hfb⟩, hBk, ⟨hSh, hp1, hp2⟩, hbs⟩ := h
  rw [e 0 (by omega), e 1 (by omega), e 2 (by omega), e 3 (by omega), e 4 (by omega)] at hD
  rw [e 1 (by omega)] at hK1
  rw [e 2 (by omega)] at hF
  rw [e 3 (by omega), e 5 (by omega), e 6 (by omega), e 7 (by omega), e 8 (by omega), e 9 (by omega)] at hBk
  rw [e 4 (by omega), e 10 (by omega), e 11 (by omega)] at hSh
  rw [e 10 (by omega)] at hp1
  rw [e 11 (by omega)] at hp2
  refine ⟨fun i j hi hj hij => hinj i j hi hj (by rw [e i hi, e j hj]; exact hij), hD, hK1, ⟨fb, hF, fun i hi => by rw [← e _ (by omega)]; exact hfb i hi⟩, hBk, ⟨hSh, hp1, hp2⟩, fun i hi => ?_⟩
  have := hbs i hi
  rw [e _ (by omega), e _ (by omega), e _ (by omega)] at this
  exact this
set_option maxHeartbeats 4000000 in
set_option maxRecDepth 100000 in
theorem cDu_postT {O : zO} {l : Launch} (hk : zK O l) (G : zG) (i : Nat) {ad : Nat → Nat} {S : aS} (hR : zRep O G ad S) (hS : aOk S) (hi : i < snb S) (hw : bst (sB S i) = 0) : zM O l yDu_post [Cond.code yDu_post bDu_post 4 (some .int)] rmDu_post [.ref (ad 0), .int (nI i)] G 1 6 (fun v G' => wrongB S (sB S i) = 0 ∧ btf (sB S i) = 0 ∧ v = some (.int 1) ∧ zTo O G G' ad S (enS S i)) (fun E G' => (¬ wrongB S (sB S i) = 0 ∧ E = "java/lang/IllegalStateException" ∧ zTo O G G' ad S (vdS S i (wrongB S (sB S i)) (naV S i (wrongB S (sB S i))))) ∨ (wrongB S (sB S i) = 0 ∧ ¬ btf (sB S i) = 0 ∧ E = "java/lang/UnsupportedOperationException" ∧ zTo O G G' ad S (faS S i))) := by
  refine zm_of hk (by decide) (Nat.le_of_ble_eq_true rfl) ?_
  intro p e s m below meth c C hex hr hnm
  obtain ⟨hinj, hD, hK1, ⟨fb, hF, hfb⟩, hBk, ⟨hSh, hp1, hp2⟩, hbs⟩ := id hR
  obtain ⟨ok1, ok2, ok3, ok4⟩ := id hS
  obtain ⟨hb1, hb2, hb3⟩ := hbs i hi
  refine zv_aload_n (pc := 0) C dDu_post_0 rfl ?_
  refine zv_iconst (pc := 1) (v := 0) C dDu_post_1 (by decide) ?_
  refine zv_iload_n (pc := 2) C dDu_post_2 rfl ?_
  refine zv_callV (pc := 3) C dDu_post_3 (cDu_batchThatIsT hk _ _ _ hR hS hi hw) gDu_85 ⟨rfl, rfl, ⟨Nat.le_of_ble_eq_true rfl, Nat.le_of_ble_eq_true rfl⟩, mDu_batchThatIs⟩ rfl rfl (Nat.le_of_ble_eq_true rfl) (by first | assumption | exact zu_s | (refine (zu_n (by assumption)).trans ?_; first | assumption | exact zu_s)) rfl rfl ⟨Nat.le_of_ble_eq_true rfl, Nat.le_of_ble_eq_true rfl⟩ (fun _ _ h => h.elim) (fun v G' h => ?_)
  obtain ⟨rfl, rfl⟩ := h
  refine zv_astore_n (pc := 6) C dDu_post_6 (by decide) ?_
  refine zv_aload_n (pc := 7) C dDu_post_7 rfl ?_
  refine zv_ifnonnull (pc := 8) (tgt := 21) C dDu_post_8 (by decide) ?_
  refine zv_aload_n (pc := 21) C dDu_post_21 rfl ?_
  refine zv_aload_n (pc := 22) C dDu_post_22 rfl ?_
  refine zv_callV (pc := 23) C dDu_post_23 (cDu_whatIsWrongWith hk _ _ (hbs i hi) (ok4 i hi) hR hS) gDu_106 ⟨rfl, rfl, ⟨Nat.le_of_ble_eq_true rfl, Nat.le_of_ble_eq_true rfl⟩, mDu_whatIsWrongWith⟩ rfl rfl (Nat.le_of_ble_eq_true rfl) (by first | assumption | exact zu_s | (refine (zu_n (by assumption)).trans ?_; first | assumption | exact zu_s)) rfl rfl ⟨Nat.le_of_ble_eq_true rfl, Nat.le_of_ble_eq_true rfl⟩ (fun _ _ h => h.elim) (fun v G' h => ?_)
  obtain ⟨rfl, rfl⟩ := h
  refine zv_istore_n (pc := 26) C dDu_post_26 (by decide) ?_
  refine zv_iload_n (pc := 27) C dDu_post_27 rfl ?_
  refine zv_if_eq (pc := 28) (tgt := 47) C dDu_post_28 (by decide) (fun c28 => ?_) (fun c28 => ?_)
  · refine zv_aload_n (pc := 47) C dDu_post_47 rfl ?_
    refine zv_get (pc := 48) C dDu_post_48 fDu_100 (by first | assumption | exact zu_s | (refine (zu_n (by assumption)).trans ?_; first | assumption | exact zu_s)) rfl ?_
    refine zv_if_eq (pc := 51) (tgt := 70) C dDu_post_51 (by decide) (fun c51 => ?_) (fun c51 => ?_)
    · refine zv_aload_n (pc := 70) C dDu_post_70 rfl ?_
      refine zv_iload_n (pc := 71) C dDu_post_71 rfl ?_
      refine zv_aload_n (pc := 72) C dDu_post_72 rfl ?_
      refine zv_callV (pc := 73) C dDu_post_73 (cDu_enter hk _ _ hR hS hi (wrongB_room ok3 (ok4 i hi) c28)) gDu_124 ⟨rfl, rfl, ⟨Nat.le_of_ble_eq_true rfl, Nat.le_of_ble_eq_true rfl⟩, mDu_enter⟩ rfl rfl (Nat.le_of_ble_eq_true rfl) (by first | assumption | exact zu_s | (refine (zu_n (by assumption)).trans ?_; first | assumption | exact zu_s)) rfl rfl ⟨Nat.le_of_ble_eq_true rfl, Nat.le_of_ble_eq_true rfl⟩ (fun _ _ h => h.elim) (fun v G' h => ?_)
      obtain ⟨rfl, hT⟩ := h
      refine zv_iconst (pc := 76) (v := 1) C dDu_post_76 (by decide) ?_
      exact zv_iret (pc := 77) C hr dDu_post_77 (Nat.le_of_ble_eq_true rfl) (Nat.le_of_ble_eq_true rfl) (by exact ⟨c28, c51, rfl, hT⟩)
    · refine zv_aload_n (pc := 54) C dDu_post_54 rfl ?_
      refine zv_iload_n (pc := 55) C dDu_post_55 rfl ?_
      refine zv_aload_n (pc := 56) C dDu_post_56 rfl ?_
      refine zv_callV (pc := 57) C dDu_post_57 (cDu_failHalfway hk _ _ hR hS hi (wrongB_room ok3 (ok4 i hi) c28)) gDu_115 ⟨rfl, rfl, ⟨Nat.le_of_ble_eq_true rfl, Nat.le_of_ble_eq_true rfl⟩, mDu_failHalfway⟩ rfl rfl (Nat.le_of_ble_eq_true rfl) (by first | assumption | exact zu_s | (refine (zu_n (by assumption)).trans ?_; first | assumption | exact zu_s)) rfl rfl ⟨Nat.le_of_ble_eq_true rfl, Nat.le_of_ble_eq_true rfl⟩ (fun _ _ h => h.elim) (fun v G' h => ?_)
      obtain ⟨rfl, hT⟩ := h
      exact zv_throwS (pc := 60) C dDu_post_60 dDu_post_63 dDu_post_64 dDu_post_66 dDu_post_69 tDu_121_123 hex (Nat.le_of_ble_eq_true rfl) (Nat.le_of_ble_eq_true rfl) (Nat.le_of_ble_eq_true rfl) (Nat.le_of_ble_eq_true rfl) (Nat.le_of_ble_eq_true rfl) (Nat.le_of_ble_eq_true rfl) (by exact Or.inr ⟨c28, c51, rfl, hT⟩)
  · refine zv_aload_n (pc := 31) C dDu_post_31 rfl ?_
    refine zv_aload_n (pc := 32) C dDu_post_32 rfl ?_
    refine zv_iload_n (pc := 33) C dDu_post_33 rfl ?_
    refine zv_callV (pc := 34) C dDu_post_34 (cDu_makeVoid hk _ _ _ hR hS hi) gDu_109 ⟨rfl, rfl, ⟨Nat.le_of_ble_eq_true rfl, Nat.le_of_ble_eq_true rfl⟩, mDu_makeVoid⟩ rfl rfl (Nat.le_of_ble_eq_true rfl) (by first | assumption | exact zu_s | (refine (zu_n (by assumption)).trans ?_; first | assumption | exact zu_s)) rfl rfl ⟨Nat.le_of_ble_eq_true rfl, Nat.le_of_ble_eq_true rfl⟩ (fun _ _ h => h.elim) (fun v G' h => ?_)
    obtain ⟨rfl, hT⟩ := h
    exact zv_throwS (pc := 37) C dDu_post_37 dDu_post_40 dDu_post_41 dDu_post_43 dDu_post_46 tDu_113_70 hex (Nat.le_of_ble_eq_true rfl) (Nat.le_of_ble_eq_true rfl) (Nat.le_of_ble_eq_true rfl) (Nat.le_of_ble_eq_true rfl) (Nat.le_of_ble_eq_true rfl) (Nat.le_of_ble_eq_true rfl) (by exact Or.inl ⟨c28, rfl, hT⟩)
set_option maxHeartbeats 4000000 in
set_option maxRecDepth 100000 in
theorem cDu_postO {O : zO} {l : Launch} (hk : zK O l) (G : zG) (i : Nat) {ad : Nat → Nat} {S : aS} (hR : zRep O G ad S) (hS : aOk S) (hi : i < snb S) (hw : ¬ bst (sB S i) = 0) : zM O l yDu_post [Cond.code yDu_post bDu_post 4 (some .int)] rmDu_post [.ref (ad 0), .int (nI i)] G 1 6 (fun _ _ => False) (fun E G' => E = "java/lang/IllegalArgumentException" ∧ G' = G) := by
  refine zm_of hk (by decide) (Nat.le_of_ble_eq_true rfl) ?_
  intro p e s m below meth c C hex hr hnm
  obtain ⟨hinj, hD, hK1, ⟨fb, hF, hfb⟩, hBk, ⟨hSh, hp1, hp2⟩, hbs⟩ := id hR
  obtain ⟨ok1, ok2, ok3, ok4⟩ := id hS
  refine zv_aload_n (pc := 0) C dDu_post_0 rfl ?_
  refine zv_iconst (pc := 1) (v := 0) C dDu_post_1 (by decide) ?_
  refine zv_iload_n (pc := 2) C dDu_post_2 rfl ?_
  refine zv_callV (pc := 3) C dDu_post_3 (cDu_batchThatIsO hk _ _ _ hR hS hi hw) gDu_85 ⟨rfl, rfl, ⟨Nat.le_of_ble_eq_true rfl, Nat.le_of_ble_eq_true rfl⟩, mDu_batchThatIs⟩ rfl rfl (Nat.le_of_ble_eq_true rfl) (by first | assumption | exact zu_s | (refine (zu_n (by assumption)).trans ?_; first | assumption | exact zu_s)) rfl rfl ⟨Nat.le_of_ble_eq_true rfl, Nat.le_of_ble_eq_true rfl⟩ (fun _ _ h => h.elim) (fun v G' h => ?_)
  obtain ⟨rfl, rfl⟩ := h
  refine zv_astore_nN (pc := 6) C dDu_post_6 (by decide) ?_
  refine zv_aload_nN (pc := 7) C dDu_post_7 rfl ?_
  refine zv_ifnonnullN (pc := 8) C dDu_post_8 ?_
  exact zv_throwS (pc := 11) C dDu_post_11 dDu_post_14 dDu_post_15 dDu_post_17 dDu_post_20 tDu_104_63 hex (Nat.le_of_ble_eq_true rfl) (Nat.le_of_ble_eq_true rfl) (Nat.le_of_ble_eq_true rfl) (Nat.le_of_ble_eq_true rfl) (Nat.le_of_ble_eq_true rfl) (Nat.le_of_ble_eq_true rfl) (by exact ⟨rfl, rfl⟩)
set_option maxHeartbeats 4000000 in
set_option maxRecDepth 100000 in
theorem cDu_postF {O : zO} {l : Launch} (hk : zK O l) (G : zG) (y : Int32) {ad : Nat → Nat} {S : aS} (hR : zRep O G ad S) (hS : aOk S) (hx : isAccB y (nI (snb S)) = false) : zM O l yDu_post [Cond.code yDu_post bDu_post 4 (some .int)] rmDu_post [.ref (ad 0), .int y] G 1 6 (fun _ _ => False) (fun E G' => E = "java/lang/IllegalArgumentException" ∧ G' = G) := by
  refine zm_of hk (by decide) (Nat.le_of_ble_eq_true rfl) ?_
  intro p e s m below meth c C hex hr hnm
  obtain ⟨hinj, hD, hK1, ⟨fb, hF, hfb⟩, hBk, ⟨hSh, hp1, hp2⟩, hbs⟩ := id hR
  obtain ⟨ok1, ok2, ok3, ok4⟩ := id hS
  refine zv_aload_n (pc := 0) C dDu_post_0 rfl ?_
  refine zv_iconst (pc := 1) (v := 0) C dDu_post_1 (by decide) ?_
  refine zv_iload_n (pc := 2) C dDu_post_2 rfl ?_
  refine zv_callV (pc := 3) C dDu_post_3 (cDu_batchThatIsF hk _ _ _ hR hS hx) gDu_85 ⟨rfl, rfl, ⟨Nat.le_of_ble_eq_true rfl, Nat.le_of_ble_eq_true rfl⟩, mDu_batchThatIs⟩ rfl rfl (Nat.le_of_ble_eq_true rfl) (by first | assumption | exact zu_s | (refine (zu_n (by assumption)).trans ?_; first | assumption | exact zu_s)) rfl rfl ⟨Nat.le_of_ble_eq_true rfl, Nat.le_of_ble_eq_true rfl⟩ (fun _ _ h => h.elim) (fun v G' h => ?_)
  obtain ⟨rfl, rfl⟩ := h
  refine zv_astore_nN (pc := 6) C dDu_post_6 (by decide) ?_
  refine zv_aload_nN (pc := 7) C dDu_post_7 rfl ?_
  refine zv_ifnonnullN (pc := 8) C dDu_post_8 ?_
  exact zv_throwS (pc := 11) C dDu_post_11 dDu_post_14 dDu_post_15 dDu_post_17 dDu_post_20 tDu_104_63 hex (Nat.le_of_ble_eq_true rfl) (Nat.le_of_ble_eq_true rfl) (Nat.le_of_ble_eq_true rfl) (Nat.le_of_ble_eq_true rfl) (Nat.le_of_ble_eq_true rfl) (Nat.le_of_ble_eq_true rfl) (by exact ⟨rfl, rfl⟩)
/-- the first j rows of b, turned in sign, in a new batch -/
def rvB (b : aB) (x kd : Int32) (j : Nat) : aB := (bvd b, kd, x, j, 0, -1, 0, brI (fun _ => 0) 0 j (bfa b), brJ (fun _ => 0) 0 j (fun k => -(bfc b k)))
theorem rvB_0 (b : aB) (x kd : Int32) : rvB b x kd 0 = nwB (bvd b) kd x := by simp only [rvB, nwB, brI_0, brJ_0]
theorem brI0_s (f : Nat → Int32) (j : Nat) (g : Nat → Int32) : upd (brI f 0 j g) j (g j) = brI f 0 (j + 1) g := by have := brI_s f 0 j g; rwa [Nat.zero_add] at this
theorem brJ0_s (f : Nat → Int64) (j : Nat) (g : Nat → Int64) : vp_updL (brJ f 0 j g) j (g j) = brJ f 0 (j + 1) g := by have := brJ_s f 0 j g; rwa [Nat.zero_add] at this
set_option maxHeartbeats 4000000 in
set_option maxRecDepth 100000 in
theorem lDu_reversalOf {O : zO} {p : Program} {l : Launch} {e : Env} {s : State} {m : MethodId} {args : Array Value} {below : List Frame} {meth : Method} {c : Code} {Q : State → Prop} {G : zG} (hk : zK O l) (a1 q y2 z2 : Nat) {y z : Nat} {b : aB} (x kd : Int32) (C : zC O p l s m meth c RDu bDu_reversalOf 5) (hb : zBat O G a1 y z b) (hsz : bsz b ≤ 20) (hq : G q = none) (hy : G y2 = none) (hz : G z2 = none) (u1 : q ≠ y2 ∧ q ≠ z2 ∧ y2 ≠ z2) (kk : ∀ G1, (zBat O G1 q y2 z2 (rvB b x kd (bsz b)) ∧ ∀ a e, G a = some e → G1 a = some e) → zV O p l e rmDu_reversalOf s m args below meth c 5 Q 52 [(0, .int x), (1, .ref a1), (2, .int kd), (3, .ref q), (4, .int (nI (bsz b)))] [] G1 3 49) : ∀ k j : Nat, j + k = bsz b → ∀ G1, (zBat O G1 q y2 z2 (rvB b x kd j) ∧ ∀ a e, G a = some e → G1 a = some e) → zV O p l e rmDu_reversalOf s m args below meth c 5 Q 17 [(0, .int x), (1, .ref a1), (2, .int kd), (3, .ref q), (4, .int (nI j))] [] G1 3 49 := by
  intro k
  induction k with
  | zero =>
    intro j hj G1 hG1
    have hjn : j = bsz b := by omega
    subst hjn
    obtain ⟨g1, g2, g3⟩ := id hb
    have g1 := hG1.2 _ _ g1
    have g2 := hG1.2 _ _ g2
    have g3 := hG1.2 _ _ g3
    refine zv_iload (pc := 17) C dDu_reversalOf_17 rfl ?_
    refine zv_aload_n (pc := 19) C dDu_reversalOf_19 rfl ?_
    refine zv_get (pc := 20) C dDu_reversalOf_20 fDu_218 (by first | assumption | exact zu_s | (refine (zu_n (by assumption)).trans ?_; first | assumption | exact zu_s)) rfl ?_
    refine zv_icmp_ge (pc := 23) (tgt := 52) C dDu_reversalOf_23 (by decide) (fun cX => ?_) (fun cX => absurd (nI_le (a := bsz b) (b := bsz b) (Nat.le_refl _) (by omega)) cX)
    exact kk G1 hG1
  | succ k ih =>
    intro j hj G1 hG1
    obtain ⟨⟨h1, h2, h3⟩, hkp⟩ := hG1
    obtain ⟨g1, g2, g3⟩ := id hb
    have g1 := hkp _ _ g1
    have g2 := hkp _ _ g2
    have g3 := hkp _ _ g3
    obtain ⟨u1, u2, u3⟩ := u1
    refine zv_iload (pc := 17) C dDu_reversalOf_17 rfl ?_
    refine zv_aload_n (pc := 19) C dDu_reversalOf_19 rfl ?_
    refine zv_get (pc := 20) C dDu_reversalOf_20 fDu_218 (by first | assumption | exact zu_s | (refine (zu_n (by assumption)).trans ?_; first | assumption | exact zu_s)) rfl ?_
    refine zv_icmp_ge (pc := 23) (tgt := 52) C dDu_reversalOf_23 (by decide) (fun cX => absurd cX (nI_ge (a := j) (b := bsz b) (by omega) (by omega))) (fun cX => ?_)
    refine zv_aload_n (pc := 26) C dDu_reversalOf_26 rfl ?_
    refine zv_aload_n (pc := 27) C dDu_reversalOf_27 rfl ?_
    refine zv_get (pc := 28) C dDu_reversalOf_28 fDu_262 (by first | assumption | exact zu_s | (refine (zu_n (by assumption)).trans ?_; first | assumption | exact zu_s)) rfl ?_
    refine zv_iload (pc := 31) C dDu_reversalOf_31 rfl ?_
    refine zn_iald (pc := 33) C dDu_reversalOf_33 (by first | assumption | exact zu_s | (refine (zu_n (by assumption)).trans ?_; first | assumption | exact zu_s)) (by omega) (by omega) ?_
    refine zv_aload_n (pc := 34) C dDu_reversalOf_34 rfl ?_
    refine zv_get (pc := 35) C dDu_reversalOf_35 fDu_263 (by first | assumption | exact zu_s | (refine (zu_n (by assumption)).trans ?_; first | assumption | exact zu_s)) rfl ?_
    refine zv_iload (pc := 38) C dDu_reversalOf_38 rfl ?_
    refine zn_lald (pc := 40) C dDu_reversalOf_40 (by first | assumption | exact zu_s | (refine (zu_n (by assumption)).trans ?_; first | assumption | exact zu_s)) (by omega) (by omega) ?_
    refine zv_lneg (pc := 41) C dDu_reversalOf_41 ?_
    refine zv_callV (pc := 42) C dDu_reversalOf_42 (cBa_take hk _ _ j _ _ h1 h2 h3 (by omega)) gDu_96 ⟨rfl, rfl, ⟨Nat.le_of_ble_eq_true rfl, Nat.le_of_ble_eq_true rfl⟩, mBa_take⟩ rfl rfl (Nat.le_of_ble_eq_true rfl) (by first | assumption | exact zu_s | (refine (zu_n (by assumption)).trans ?_; first | assumption | exact zu_s)) rfl rfl ⟨Nat.le_of_ble_eq_true rfl, Nat.le_of_ble_eq_true rfl⟩ (fun _ _ h => h.elim) (fun v G' h => ?_)
    obtain ⟨rfl, rfl⟩ := h
    refine zv_pop (pc := 45) C dDu_reversalOf_45 rfl ?_
    refine zv_iinc (pc := 46) C dDu_reversalOf_46 rfl (zn_inc j) (by decide) ?_
    refine zv_goto (pc := 49) (tgt := 17) C dDu_reversalOf_49 (by decide) ?_
    refine zv_pick [0, 1, 2, 3, 4] rfl (ih (j + 1) (by omega) _ ⟨⟨zu_s, ?_, ?_⟩, fun a e ha => ?_⟩)
    · refine (zu_n (Ne.symm u1)).trans ((zu_n u3).trans (zu_s.trans ?_))
      show some (zI O 20 (upd (brI _ 0 j (bfa b)) j (bfa b j))) = _
      rw [brI0_s]; rfl
    · refine (zu_n (Ne.symm u2)).trans (zu_s.trans ?_)
      show some (zJ O 20 (vp_updL (brJ _ 0 j (fun k => -(bfc b k))) j ((fun k => -(bfc b k)) j))) = _
      rw [brJ0_s]; rfl
    · exact (zu_n (Ne.symm (zu_fresh hq ha))).trans ((zu_n (Ne.symm (zu_fresh hz ha))).trans ((zu_n (Ne.symm (zu_fresh hy ha))).trans (hkp a e ha)))
/-- a new batch, its cells not there before, all others as they were -/
def zBorn (O : zO) (G G' : zG) (x y z : Nat) (b : aB) : Prop := (G x = none ∧ G y = none ∧ G z = none) ∧ (x ≠ y ∧ x ≠ z ∧ y ≠ z) ∧ zBat O G' x y z b ∧ ∀ a e, G a = some e → G' a = some e
theorem zBorn_of {O : zO} {G G' : zG} {q : Nat} {e0 : va_E} {vd kd rv : Int32} (hq : G q = none) (hN : zBaN O (zu G q e0) G' q vd kd rv) : ∃ y z : Nat, zBorn O G G' q y z (nwB vd kd rv) := by
  obtain ⟨y, z, hy, hz, hyz, g1, g2, g3, g4⟩ := hN
  have hy0 := zu_none hy
  have hz0 := zu_none hz
  have nqy : q ≠ y := fun w => by rw [← w, zu_s] at hy; cases hy
  have nqz : q ≠ z := fun w => by rw [← w, zu_s] at hz; cases hz
  refine ⟨y, z, ⟨hq, hy0, hz0⟩, ⟨nqy, nqz, hyz⟩, ⟨g1, g2, g3⟩, fun a e ha => ?_⟩
  have m1 : a ≠ q := Ne.symm (zu_fresh hq ha)
  rw [g4 a m1 (Ne.symm (zu_fresh hy0 ha)) (Ne.symm (zu_fresh hz0 ha)), zu_n m1]; exact ha
set_option maxHeartbeats 4000000 in
set_option maxRecDepth 100000 in
theorem cDu_reversalOf {O : zO} {l : Launch} (hk : zK O l) (G : zG) (a1 : Nat) {y z : Nat} {b : aB} (x kd : Int32) (hb : zBat O G a1 y z b) (hsz : bsz b ≤ 20) : zM O l yDu_reversalOf [Cond.code yDu_reversalOf bDu_reversalOf 5 (some (.object "DutyLedger$Batch"))] rmDu_reversalOf [.int x, .ref a1, .int kd] G 3 49 (fun v G' => ∃ q y2 z2 : Nat, v = some (.ref q) ∧ zBorn O G G' q y2 z2 (rvB b x kd (bsz b))) zNo := by
  refine zm_of hk (by decide) (Nat.le_of_ble_eq_true rfl) ?_
  intro p e s m below meth c C hex hr hnm
  obtain ⟨hb1, hb2, hb3⟩ := id hb
  refine zv_new (pc := 0) C (fs := [.int 0, .int 0, .int 0, .null, .null, .int 0, .int 0, .int 0, .int 0]) dDu_reversalOf_0 nDu_17 tkBa (by decide +kernel) (Nat.le_of_ble_eq_true rfl) (Nat.le_of_ble_eq_true rfl) (fun q0 h0 => ?_)
  have n0_a1 : q0 ≠ a1 := zu_fresh h0 (by first | assumption | exact zu_s | (refine (zu_n (by assumption)).trans ?_; first | assumption | exact zu_s | (refine (zu_n (by assumption)).trans ?_; first | assumption | exact zu_s)))
  have n0_a1' := Ne.symm n0_a1
  refine zv_dup (pc := 3) C dDu_reversalOf_3 rfl ?_
  refine zv_aload_n (pc := 4) C dDu_reversalOf_4 rfl ?_
  refine zv_get (pc := 5) C dDu_reversalOf_5 fDu_219 (by first | assumption | exact zu_s | (refine (zu_n (by assumption)).trans ?_; first | assumption | exact zu_s | (refine (zu_n (by assumption)).trans ?_; first | assumption | exact zu_s))) rfl ?_
  refine zv_iload_n (pc := 8) C dDu_reversalOf_8 rfl ?_
  refine zv_iload_n (pc := 9) C dDu_reversalOf_9 rfl ?_
  refine zv_callI (pc := 10) C dDu_reversalOf_10 zNo_not (cBa_init hk _ _ _ _ _ zu_s) gDu_78 ⟨rfl, rfl, ⟨Nat.le_of_ble_eq_true rfl, Nat.le_of_ble_eq_true rfl⟩, mBa_init⟩ rfl rfl rfl (Nat.le_of_ble_eq_true rfl) ⟨Nat.le_of_ble_eq_true rfl, Nat.le_of_ble_eq_true rfl⟩ (fun v G' h => ?_)
  obtain ⟨rfl, hN⟩ := h
  obtain ⟨y2, z2, ⟨i1, i2, i3⟩, i4, i5, i6⟩ := zBorn_of h0 hN
  refine zv_astore_n (pc := 13) C dDu_reversalOf_13 (by decide) ?_
  refine zv_iconst (pc := 14) (v := 0) C dDu_reversalOf_14 (by decide) ?_
  refine zv_istore (pc := 15) C dDu_reversalOf_15 (by decide) ?_
  refine zv_pick [0, 1, 2, 3, 4] rfl (lDu_reversalOf hk a1 q0 y2 z2 x kd C hb hsz i1 i2 i3 i4 (fun G1 hG1 => ?_) (bsz b) 0 (by omega) _ ⟨by rw [rvB_0]; exact i5, i6⟩)
  refine zv_aload_n (pc := 52) C dDu_reversalOf_52 rfl ?_
  exact zv_aret (pc := 53) C hr (Or.inl ⟨_, rfl⟩) (by first | exact Or.inl rfl | exact Or.inr ⟨_, rfl⟩) dDu_reversalOf_53 (Nat.le_of_ble_eq_true rfl) (Nat.le_of_ble_eq_true rfl) (by exact ⟨q0, y2, z2, rfl, ⟨i1, i2, i3⟩, i4, hG1.1, hG1.2⟩)
