/-! a batch is reversed -/
def nbR (R : aM) (i : Nat) : aM := ((mth R, mna R, mnb R + 1, mn R), R.2.1, (mko R, mso R, mvo R, mkn R, upd (mrv R) (mnb R) (nI i), mrb R, mtf R, msz R), R.2.2.2)
def rbM (M : aM) (i : Nat) (x : Int32) : aM := (M.1, M.2.1, (mko M, mso M, mvo M, mkn M, mrv M, upd (mrb M) i x, mtf M, msz M), M.2.2.2)
theorem lk_eq (M : aM) (i : Nat) (kd : Int32) : lkM (enM (thM (rvM M i kd) 0) (mnb M)) i = rbM (enM (nbR (thM (rvM M i kd) 0) i) (mnb M)) i (nI (mnb M)) := rfl
theorem rv_sz (M : aM) (i : Nat) (kd : Int32) : msz (rvM M i kd) (mnb M) = msz M i := setN_eq
theorem rv_szle {M : aM} {i : Nat} {kd : Int32} (hO : mOk M) (hi : i < 100) {j : Nat} (hj : j < 100) : msz (rvM M i kd) j ≤ 20 := (mOk_rv hO hi).2.2.2.1 j hj
theorem rv_ag {M : aM} {i j : Nat} {kd : Int32} (hj : j < mnb M) : agI M (rvM M i kd) j := by
  have hne : j ≠ mnb M := by omega
  refine ⟨⟨upd_n hne, upd_n hne, upd_n hne, upd_n hne, upd_n hne, upd_n hne, ?_⟩, fun k hk => ⟨brI_lt (by omega), brJ_lt (g := fun k => -(mfc M i k)) (by omega)⟩⟩
  exact (setN_ne hne).trans (setN_ne hne)
theorem rv_fa (M : aM) (i : Nat) (kd : Int32) {k : Nat} (hk : k < msz M i) : mfa (rvM M i kd) (mnb M) k = mfa M i k := brI_in (g := mfa M i) hk
theorem rv_fc (M : aM) (i : Nat) (kd : Int32) {k : Nat} (hk : k < msz M i) : mfc (rvM M i kd) (mnb M) k = -(mfc M i k) := brJ_in (g := fun k => -(mfc M i k)) hk
theorem rb_fa {b : aB} {x kd : Int32} {j k : Nat} (hk : k < j) : bfa (rvB b x kd j) k = bfa b k := by
  have := brI_in (f := fun _ => 0) (n := 0) (g := bfa b) hk
  rw [Nat.zero_add] at this
  exact this
theorem rb_fc {b : aB} {x kd : Int32} {j k : Nat} (hk : k < j) : bfc (rvB b x kd j) k = -(bfc b k) := by
  have := brJ_in (f := fun _ => 0) (n := 0) (g := fun k => -(bfc b k)) hk
  rw [Nat.zero_add] at this
  exact this
theorem Inv.rvw {S : aS} {M : aM} (h : Inv S M) {i : Nat} (hi : i < mnb M) (h1 : mso M i = 1) (kd : Int32) (hlt : mnb M < 100) : wrongB S (rvOf S i kd) = wrongM (rvM M i kd) (mnb M) := by
  obtain ⟨-, -, -, -, -, -, -, h8, -, -⟩ := h.b hi
  obtain ⟨g1, g2⟩ := h8 (n12x h1)
  have hz : bsz (rvOf S i kd) = msz M i := g1
  refine wrong_eq (hz.trans (rv_sz M i kd).symm) (fun k hk => ?_) upd_e.symm h.2.2.2.2.2.2.1 h.2.2.2.2.2.2.2.1 h.2.2.2.2.1.1 h.2.1.2.2.1 (rv_szle h.2.1 (h.lt hi).1 hlt)
  rw [rv_sz] at hk
  rw [rv_fc M i kd hk, ← (g2 k hk).2]
  exact rb_fc (by omega)
theorem Inv.rj {S : aS} {M : aM} (h : Inv S M) {i : Nat} (hi : i < mnb M) (kd t : Int32) : Inv S (thM (rvM M i kd) t) := by
  have h2 : Inv S (rvM M i kd) := ⟨h.1, mOk_rv h.2.1 (h.lt hi).1, h.2.2.junk (M' := rvM M i kd) h.2.1 rfl rfl rfl rfl rfl (fun _ hj => rv_ag hj)⟩
  exact h2.th t
theorem Inv.rv1 {S : aS} {M : aM} (h : Inv S M) {i : Nat} (hi : i < mnb M) (h1 : mso M i = 1) (kd : Int32) (hlt : mnb M < 100) : Inv (adB S (rvOf S i kd)) (nbR (thM (rvM M i kd) 0) i) := by
  obtain ⟨-, h2, -, -, -, -, -, h8, -, -⟩ := h.b hi
  obtain ⟨g1, g2⟩ := h8 (n12x h1)
  refine h.add hlt rfl rfl rfl rfl rfl (fun j hj => ?_) ⟨upd_e.symm, h2.trans upd_e.symm, upd_e.symm, upd_e.symm, upd_e.symm, upd_e.symm, fun g => absurd (upd_e.symm.trans g) (by decide), fun _ => ⟨g1.trans (rv_sz M i kd).symm, fun k hk => ?_⟩, Or.inr ?_, Or.inl upd_e⟩ ?_ (fun j hj => rv_szle h.2.1 (h.lt hi).1 hj)
  · have ha := rv_ag (i := i) (kd := kd) hj
    have hne : j ≠ mnb M := by omega
    exact ⟨⟨ha.1.1, ha.1.2.1, ha.1.2.2.1, (upd_n hne).trans ha.1.2.2.2.1, ha.1.2.2.2.2.1, ha.1.2.2.2.2.2.1, ha.1.2.2.2.2.2.2⟩, ha.2⟩
  · have hk2 : k < msz M i := by
      have : k < msz (rvM M i kd) (mnb M) := hk
      rwa [rv_sz] at this
    exact ⟨(rb_fa (by omega)).trans ((g2 k hk2).1.trans (rv_fa M i kd hk2).symm), (rb_fc (by omega)).trans ((congrArg (fun z => -z) (g2 k hk2).2).trans (rv_fc M i kd hk2).symm)⟩
  · show 0 ≤ upd (mrv (rvM M i kd)) (mnb M) (nI i) (mnb M)
    rw [upd_e]
    exact nI_pos' (by omega)
  · show bsz (sB S i) ≤ 20
    rw [g1]; exact (h.lt hi).2
theorem Inv.rv {S : aS} {M : aM} (h : Inv S M) {i : Nat} (hi : i < mnb M) (h1 : mso M i = 1) (kd : Int32) (hlt : mnb M < 100) (hw : wrongM (rvM M i kd) (mnb M) = 0) : Inv (rvS S i kd) (lkM (enM (thM (rvM M i kd) 0) (mnb M)) i) := by
  have hne : i ≠ mnb M := by omega
  have hO2 := mOk_rv (kd := kd) h.2.1 (h.lt hi).1
  have e1 := (h.rv1 hi h1 kd hlt).en (i := mnb M) (Nat.lt_succ_self _) upd_e (wrongM_room hw hO2.2.2.1 (hO2.2.2.2.1 _ hlt))
  rw [lk_eq]
  unfold rvS
  have hs : snb S = mnb M := h.2.2.2.1.1
  rw [show rvS1 S i kd = enS (adB S (rvOf S i kd)) (mnb M) by rw [rvS1, hs], hs]
  have hi2 : i < mnb (enM (nbR (thM (rvM M i kd) 0) i) (mnb M)) := Nat.lt_succ_of_lt hi
  obtain ⟨a1, a2, a3, a4, a5, a6, a7, a8, a9, a10⟩ := e1.b hi2
  refine e1.up1 hi2 (Or.inr fun k hk => ⟨rfl, rfl, rfl, rfl, rfl⟩) rfl rfl rfl rfl rfl (fun j hj => ⟨⟨rfl, rfl, rfl, rfl, upd_n hj, rfl, rfl⟩, fun _ _ => ⟨rfl, rfl⟩⟩) ⟨a1, a2, a3, a4, upd_e.symm, a6, a7, a8, a9, Or.inr ?_⟩ ?_ (e1.lt hi2).2
  · show 0 ≤ upd _ i (nI (mnb M)) i
    rw [upd_e]
    exact nI_pos' (by omega)
  · exact e1.1.2.2.2 i (by have := e1.2.2.2.1.1; omega)
/-! a step of the class, a step of the reference, and both -/
def ans (k : Int32) (val w : Int64) (S' : aS) (M' : aM) : Prop := mth M' = k ∧ (k = 0 → val = w) ∧ Inv S' M'
def pAc (S : aS) (x k : Int32) (val : Int64) (S' : aS) : Prop := (isKindB x = false ∧ k = 1 ∧ S' = S) ∨ (isKindB x = true ∧ ¬ sna S < 12 ∧ k = 2 ∧ S' = S) ∨ (isKindB x = true ∧ sna S < 12 ∧ k = 0 ∧ val = (nI (sna S)).toInt64 ∧ S' = acS S x)
def mAc (M : aM) (x : Int32) (w : Int64) (M' : aM) : Prop := (isKindB x = false ∧ w = 0 ∧ M' = thM M 1) ∨ (isKindB x = true ∧ ¬ mna M < 12 ∧ w = 0 ∧ M' = thM M 2) ∨ (isKindB x = true ∧ mna M < 12 ∧ w = (nI (mna M)).toInt64 ∧ M' = acM M x)
theorem st_ac {S S' : aS} {M M' : aM} {x k : Int32} {val w : Int64} (h : Inv S M) (hs : pAc S x k val S') (hm : mAc M x w M') : ans k val w S' M' := by
  have hn : sna S = mna M := h.2.2.1.1
  rcases hs with ⟨s1, rfl, rfl⟩ | ⟨s1, s2, rfl, rfl⟩ | ⟨s1, s2, rfl, rfl, rfl⟩ <;> rcases hm with ⟨m1, rfl, rfl⟩ | ⟨m1, m2, rfl, rfl⟩ | ⟨m1, m2, rfl, rfl⟩
  all_goals first
    | (exact absurd (s1.symm.trans m1) (by decide))
    | (exact absurd (m1.symm.trans s1) (by decide))
    | (exfalso; omega)
    | (exact ⟨rfl, fun g => absurd g (by decide), h⟩)
    | (exact ⟨rfl, fun _ => by rw [hn], h.ac m2 x⟩)
def pBa (S : aS) (x y k : Int32) (val : Int64) (S' : aS) : Prop := (daysOk x y = false ∧ k = 1 ∧ S' = S) ∨ (daysOk x y = true ∧ ¬ snb S < 100 ∧ k = 2 ∧ S' = S) ∨ (daysOk x y = true ∧ snb S < 100 ∧ k = 0 ∧ val = (nI (snb S)).toInt64 ∧ S' = adB S (nwB x y (-1)))
def mBa (M : aM) (x y : Int32) (w : Int64) (M' : aM) : Prop := (daysOk x y = false ∧ w = 0 ∧ M' = thM M 1) ∨ (daysOk x y = true ∧ ¬ mnb M < 100 ∧ w = 0 ∧ M' = thM M 2) ∨ (daysOk x y = true ∧ mnb M < 100 ∧ w = (nI (mnb M)).toInt64 ∧ M' = baM M x y)
theorem st_ba {S S' : aS} {M M' : aM} {x y k : Int32} {val w : Int64} (h : Inv S M) (hs : pBa S x y k val S') (hm : mBa M x y w M') : ans k val w S' M' := by
  have hn : snb S = mnb M := h.2.2.2.1.1
  rcases hs with ⟨s1, rfl, rfl⟩ | ⟨s1, s2, rfl, rfl⟩ | ⟨s1, s2, rfl, rfl, rfl⟩ <;> rcases hm with ⟨m1, rfl, rfl⟩ | ⟨m1, m2, rfl, rfl⟩ | ⟨m1, m2, rfl, rfl⟩
  all_goals first
    | (exact absurd (s1.symm.trans m1) (by decide))
    | (exact absurd (m1.symm.trans s1) (by decide))
    | (exfalso; omega)
    | (exact ⟨rfl, fun g => absurd g (by decide), h⟩)
    | (exact ⟨rfl, fun _ => by rw [hn], h.ba m2 x y⟩)
theorem ac_no {i n : Nat} (hi : i < n) (hn : n ≤ 400) (h : isAccB (nI i) (nI n) = false) : False := by rw [isAccB_nI hi (by omega)] at h; cases h
theorem nI_in4 {i j : Nat} (hi : i < 400) (hj : j < 400) (h : nI i = nI j) : i = j := (nI_eq (by omega) (by omega)).mp h
def pPo (S : aS) (y k : Int32) (val : Int64) (S' : aS) : Prop := (isAccB y (nI (snb S)) = false ∧ k = 1 ∧ S' = S) ∨ ∃ i, i < snb S ∧ y = nI i ∧ ((¬ bst (sB S i) = 0 ∧ k = 1 ∧ S' = S) ∨ (bst (sB S i) = 0 ∧ ¬ wrongB S (sB S i) = 0 ∧ k = 2 ∧ S' = vdS S i (wrongB S (sB S i)) (naV S i (wrongB S (sB S i)))) ∨ (bst (sB S i) = 0 ∧ wrongB S (sB S i) = 0 ∧ ¬ btf (sB S i) = 0 ∧ k = 3 ∧ S' = faS S i) ∨ (bst (sB S i) = 0 ∧ wrongB S (sB S i) = 0 ∧ btf (sB S i) = 0 ∧ k = 0 ∧ val = 1 ∧ S' = enS S i))
def mPo (M : aM) (y : Int32) (w : Int64) (M' : aM) : Prop := (isAccB y (nI (mnb M)) = false ∧ w = 0 ∧ M' = thM M 1) ∨ ∃ i, i < mnb M ∧ y = nI i ∧ ((¬ mso M i = 0 ∧ w = 0 ∧ M' = thM M 1) ∨ (mso M i = 0 ∧ ¬ wrongM M i = 0 ∧ w = 0 ∧ M' = vdM M i (wrongM M i) (naM M i (wrongM M i))) ∨ (mso M i = 0 ∧ wrongM M i = 0 ∧ ¬ mtf M i = 0 ∧ w = 0 ∧ M' = faM M i) ∨ (mso M i = 0 ∧ wrongM M i = 0 ∧ mtf M i = 0 ∧ w = 1 ∧ M' = enM (thM M 0) i))
theorem st_po {S S' : aS} {M M' : aM} {y k : Int32} {val w : Int64} (h : Inv S M) (hs : pPo S y k val S') (hm : mPo M y w M') : ans k val w S' M' := by
  have hn : snb S = mnb M := h.2.2.2.1.1
  have h100 := h.2.1.2.1
  rcases hs with ⟨s1, rfl, rfl⟩ | ⟨i, hi, rfl, hs⟩
  · rcases hm with ⟨m1, rfl, rfl⟩ | ⟨i, hi, rfl, -⟩
    · exact ⟨rfl, fun g => absurd g (by decide), h⟩
    · rw [hn] at s1
      exact (ac_no hi (by omega) s1).elim
  · rw [hn] at hi
    rcases hm with ⟨m1, -, -⟩ | ⟨j, hj, hij, hm⟩
    · exact (ac_no hi (by omega) m1).elim
    obtain rfl := nI_in4 (by omega) (by omega) hij
    obtain ⟨b1, b2, b3, b4, b5, b6, b7, b8, b9, b10⟩ := h.b hi
    rcases hs with ⟨s1, rfl, rfl⟩ | ⟨s1, s2, rfl, rfl⟩ | ⟨s1, s2, s3, rfl, rfl⟩ | ⟨s1, s2, s3, rfl, rfl, rfl⟩
    · rcases hm with ⟨m1, rfl, rfl⟩ | ⟨m1, -⟩ | ⟨m1, -⟩ | ⟨m1, -⟩
      · exact ⟨rfl, fun g => absurd g (by decide), h⟩
      all_goals exact absurd (b1.trans m1) s1
    all_goals (have m0 : mso M i = 0 := b1.symm.trans s1; rw [h.wr hi (n02 m0)] at s2)
    · rcases hm with ⟨m1, -⟩ | ⟨-, m2, rfl, rfl⟩ | ⟨-, m2, -⟩ | ⟨-, m2, -⟩
      · exact absurd m0 m1
      · refine ⟨rfl, fun g => absurd g (by decide), ?_⟩
        rw [h.wr hi (n02 m0), h.na hi (n02 m0)]
        exact h.vd hi m0 _ _
      all_goals exact absurd m2 s2
    · rcases hm with ⟨m1, -⟩ | ⟨-, m2, -⟩ | ⟨-, -, -, rfl, rfl⟩ | ⟨-, -, m3, -⟩
      · exact absurd m0 m1
      · exact absurd s2 m2
      · exact ⟨rfl, fun g => absurd g (by decide), h.fa hi m0⟩
      · exact absurd (b6.trans m3) s3
    · rcases hm with ⟨m1, -⟩ | ⟨-, m2, -⟩ | ⟨-, -, m3, -⟩ | ⟨-, -, -, rfl, rfl⟩
      · exact absurd m0 m1
      · exact absurd s2 m2
      · exact absurd (b6.symm.trans s3) m3
      · exact ⟨rfl, fun _ => rfl, (h.th 0).en hi m0 (wrongM_room s2 h.2.1.2.2.1 (h.lt hi).2)⟩
def pRe (S : aS) (y kd k : Int32) (val : Int64) (S' : aS) : Prop := (isAccB y (nI (snb S)) = false ∧ k = 1 ∧ S' = S) ∨ ∃ i, i < snb S ∧ y = nI i ∧ ((¬ bst (sB S i) = 1 ∧ k = 1 ∧ S' = S) ∨ (bst (sB S i) = 1 ∧ isDayB kd = false ∧ k = 1 ∧ S' = S) ∨ (bst (sB S i) = 1 ∧ isDayB kd = true ∧ (¬ brv (sB S i) = -1 ∨ ¬ brb (sB S i) = -1 ∨ ¬ snb S < 100 ∨ ¬ wrongB S (rvOf S i kd) = 0) ∧ k = 2 ∧ S' = S) ∨ (bst (sB S i) = 1 ∧ isDayB kd = true ∧ (brv (sB S i) = -1 ∧ brb (sB S i) = -1 ∧ snb S < 100 ∧ wrongB S (rvOf S i kd) = 0) ∧ k = 0 ∧ val = (nI (snb S)).toInt64 ∧ S' = rvS S i kd))
def mRe (M : aM) (y kd : Int32) (w : Int64) (M' : aM) : Prop := (isAccB y (nI (mnb M)) = false ∧ w = 0 ∧ M' = thM M 1) ∨ ∃ i, i < mnb M ∧ y = nI i ∧ (((decide (mso M i = 1) && isDayB kd) = false ∧ w = 0 ∧ M' = thM M 1) ∨ ((decide (mso M i = 1) && isDayB kd) = true ∧ (0 ≤ mrb M i ∨ 0 ≤ mrv M i ∨ ¬ mnb M < 100) ∧ w = 0 ∧ M' = thM M 2) ∨ ((decide (mso M i = 1) && isDayB kd) = true ∧ (¬ 0 ≤ mrb M i ∧ ¬ 0 ≤ mrv M i ∧ mnb M < 100) ∧ ¬ wrongM (rvM M i kd) (mnb M) = 0 ∧ w = 0 ∧ M' = thM (rvM M i kd) 2) ∨ ((decide (mso M i = 1) && isDayB kd) = true ∧ (¬ 0 ≤ mrb M i ∧ ¬ 0 ≤ mrv M i ∧ mnb M < 100) ∧ wrongM (rvM M i kd) (mnb M) = 0 ∧ w = (nI (mnb M)).toInt64 ∧ M' = lkM (enM (thM (rvM M i kd) 0) (mnb M)) i))
theorem np_of {x : Int32} (h : x = -1 ∨ 0 ≤ x) : (x = -1) ↔ ¬ 0 ≤ x := by
  constructor
  · intro e; rw [e]; decide
  · intro g; rcases h with h | h
    · exact h
    · exact absurd h g
theorem st_re {S S' : aS} {M M' : aM} {y kd k : Int32} {val w : Int64} (h : Inv S M) (hs : pRe S y kd k val S') (hm : mRe M y kd w M') : ans k val w S' M' := by
  have hn : snb S = mnb M := h.2.2.2.1.1
  have h100 := h.2.1.2.1
  rcases hs with ⟨s1, rfl, rfl⟩ | ⟨i, hi, rfl, hs⟩
  · rcases hm with ⟨m1, rfl, rfl⟩ | ⟨i, hi, rfl, -⟩
    · exact ⟨rfl, fun g => absurd g (by decide), h⟩
    · rw [hn] at s1
      exact (ac_no hi (by omega) s1).elim
  · rw [hn] at hi
    rcases hm with ⟨m1, -, -⟩ | ⟨j, hj, hij, hm⟩
    · exact (ac_no hi (by omega) m1).elim
    obtain rfl := nI_in4 (by omega) (by omega) hij
    obtain ⟨b1, b2, b3, b4, b5, b6, b7, b8, b9, b10⟩ := h.b hi
    have n9 := np_of b9
    have n10 := np_of b10
    rw [b1, b4, b5, hn] at hs
    rcases hs with ⟨s1, rfl, rfl⟩ | ⟨s1, s2, rfl, rfl⟩ | ⟨s1, s2, s3, rfl, rfl⟩ | ⟨s1, s2, s3, rfl, rfl, rfl⟩
    · rcases hm with ⟨m1, rfl, rfl⟩ | ⟨m1, -⟩ | ⟨m1, -⟩ | ⟨m1, -⟩
      · exact ⟨rfl, fun g => absurd g (by decide), h⟩
      all_goals simp [s1] at m1
    · rcases hm with ⟨m1, rfl, rfl⟩ | ⟨m1, -⟩ | ⟨m1, -⟩ | ⟨m1, -⟩
      · exact ⟨rfl, fun g => absurd g (by decide), h⟩
      all_goals simp [s2] at m1
    · rcases hm with ⟨m1, -⟩ | ⟨-, m2, rfl, rfl⟩ | ⟨-, m2, m3, rfl, rfl⟩ | ⟨-, m2, m3, -⟩
      · simp [s1, s2] at m1
      · exact ⟨rfl, fun g => absurd g (by decide), h⟩
      · exact ⟨rfl, fun g => absurd g (by decide), h.rj hi kd 2⟩
      · rw [h.rvw hi s1 kd m2.2.2] at s3
        rcases s3 with s3 | s3 | s3 | s3
        · exact absurd (n9.mpr m2.2.1) s3
        · exact absurd (n10.mpr m2.1) s3
        · exact absurd m2.2.2 s3
        · exact absurd m3 s3
    · rcases hm with ⟨m1, -⟩ | ⟨-, m2, -⟩ | ⟨-, m2, m3, -⟩ | ⟨-, m2, m3, rfl, rfl⟩
      · simp [s1, s2] at m1
      · exfalso
        rcases m2 with m2 | m2 | m2
        · exact absurd m2 (n10.mp s3.2.1)
        · exact absurd m2 (n9.mp s3.1)
        · exact m2 s3.2.2.1
      · rw [h.rvw hi s1 kd m2.2.2] at s3
        exact absurd s3.2.2.2 m3
      · exact ⟨rfl, fun _ => rfl, h.rv hi s1 kd m2.2.2 m3⟩
