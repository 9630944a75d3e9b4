/-! questions -/
theorem is5_wh (w : Int32) : is5 w = whB w 5 := by
  by_cases h : whB w 5 = true
  · rw [h]
    simp only [whB, Bool.and_eq_true, Bool.not_eq_true', decide_eq_false_iff_not] at h
    obtain ⟨j, hj, rfl⟩ := nI_of2 (M := 4) (n := 4) (by decide) h.1 (by
      have := Int32.not_le.mp h.2
      rw [Int32.lt_iff_toInt_lt] at this
      rw [Int32.le_iff_toInt_le]
      have e5 : (5 : Int32).toInt = 5 := rfl
      have e4 : (4 : Int32).toInt = 4 := rfl
      omega)
    rcases (show j = 0 ∨ j = 1 ∨ j = 2 ∨ j = 3 ∨ j = 4 by omega) with rfl | rfl | rfl | rfl | rfl <;> decide
  · rw [Bool.not_eq_true] at h
    rw [h]
    by_cases g : is5 w = true
    · exfalso
      simp only [is5, Bool.or_eq_true, decide_eq_true_eq] at g
      rcases g with (((rfl | rfl) | rfl) | rfl) | rfl <;> exact absurd h (by decide)
    · rwa [Bool.not_eq_true] at g
theorem is7_wh (w : Int32) : is7 w = whB w 7 := by
  by_cases h : whB w 7 = true
  · rw [h]
    simp only [whB, Bool.and_eq_true, Bool.not_eq_true', decide_eq_false_iff_not] at h
    obtain ⟨j, hj, rfl⟩ := nI_of2 (M := 6) (n := 6) (by decide) h.1 (by
      have := Int32.not_le.mp h.2
      rw [Int32.lt_iff_toInt_lt] at this
      rw [Int32.le_iff_toInt_le]
      have e5 : (7 : Int32).toInt = 7 := rfl
      have e4 : (6 : Int32).toInt = 6 := rfl
      omega)
    rcases (show j = 0 ∨ j = 1 ∨ j = 2 ∨ j = 3 ∨ j = 4 ∨ j = 5 ∨ j = 6 by omega) with rfl | rfl | rfl | rfl | rfl | rfl | rfl <;> decide
  · rw [Bool.not_eq_true] at h
    rw [h]
    by_cases g : is7 w = true
    · exfalso
      simp only [is7, is5, Bool.or_eq_true, decide_eq_true_eq] at g
      rcases g with (((((rfl | rfl) | rfl) | rfl) | rfl) | rfl) | rfl <;> exact absurd h (by decide)
    · rwa [Bool.not_eq_true] at g
/-- a question that is answered, or not -/
def pQ (S : aS) (ok : Bool) (v : Int64) (k : Int32) (val : Int64) (S' : aS) : Prop := (ok = true ∧ k = 0 ∧ val = v ∧ S' = S) ∨ (ok = false ∧ k = 1 ∧ S' = S)
def mQ (M : aM) (ok : Bool) (v : Int64) (w : Int64) (M' : aM) : Prop := (ok = false ∧ w = 0 ∧ M' = thM M 1) ∨ (ok = true ∧ w = v ∧ M' = thM M 0)
theorem st_q {S S' : aS} {M M' : aM} {ok ok' : Bool} {v v' : Int64} {k : Int32} {val w : Int64} (h : Inv S M) (e1 : ok = ok') (e2 : ok = true → v = v') (hs : pQ S ok v k val S') (hm : mQ M ok' v' w M') : ans k val w S' M' := by
  subst e1
  rcases hs with ⟨s1, rfl, rfl, rfl⟩ | ⟨s1, rfl, rfl⟩ <;> rcases hm with ⟨m1, rfl, rfl⟩ | ⟨m1, rfl, rfl⟩
  · exact absurd (s1.symm.trans m1) (by decide)
  · exact ⟨rfl, fun _ => e2 s1, h⟩
  · exact ⟨rfl, fun g => absurd g (by decide), h⟩
  · exact absurd (m1.symm.trans s1) (by decide)
def pBl (S : aS) (x d kk : Int32) : Int32 → Int64 → aS → Prop := pQ S (balOk S x d kk) (balS S x 0 d kk)
def mBl (M : aM) (x d kk : Int32) : Int64 → aM → Prop := mQ M (balOkM M x d kk) (balM M x 0 d kk)
theorem st_bl {S S' : aS} {M M' : aM} {x d kk k : Int32} {val w : Int64} (h : Inv S M) (hs : pBl S x d kk k val S') (hm : mBl M x d kk w M') : ans k val w S' M' := st_q h (by unfold balOk balOkM; rw [h.2.2.1.1]) (fun _ => h.2.2.bal _ _ _ _) hs hm
def pSt (S : aS) (x d kk : Int32) : Int32 → Int64 → aS → Prop := pQ S (staOk S x d kk) (balS S x (30 * d) (30 * d + 30 - 1) kk)
def mSt (M : aM) (x d kk : Int32) : Int64 → aM → Prop := mQ M (staOkM M x d kk) (balM M x (30 * d) (30 * d + 29) kk)
theorem i29 (x : Int32) : x + 30 - 1 = x + 29 := by
  rw [Int32.sub_eq_add_neg, Int32.add_assoc]; rfl
theorem st_st {S S' : aS} {M M' : aM} {x d kk k : Int32} {val w : Int64} (h : Inv S M) (hs : pSt S x d kk k val S') (hm : mSt M x d kk w M') : ans k val w S' M' := st_q h (by unfold staOk staOkM; rw [h.2.2.1.1]) (fun _ => by rw [i29]; exact h.2.2.bal _ _ _ _) hs hm
def pRc (S : aS) (x y d kk : Int32) : Int32 → Int64 → aS → Prop := pQ S (recOk S x y d kk) (balS S x 0 d kk + balS S y 0 d kk)
def mRc (M : aM) (x y d kk : Int32) : Int64 → aM → Prop := mQ M (recOkM M x y d kk) (balM M x 0 d kk + balM M y 0 d kk)
theorem st_rc {S S' : aS} {M M' : aM} {x y d kk k : Int32} {val w : Int64} (h : Inv S M) (hs : pRc S x y d kk k val S') (hm : mRc M x y d kk w M') : ans k val w S' M' := st_q h (by unfold recOk recOkM; rw [h.2.2.1.1]) (fun _ => by rw [h.2.2.bal, h.2.2.bal]) hs hm
def pPa (S : aS) (y w d k : Int32) (val : Int64) (S' : aS) : Prop := (isKindB y = false ∧ k = 1 ∧ S' = S) ∨ ∃ j, j < 6 ∧ y = nI j ∧ pQ S (pasOk w d) (pasV S j w d) k val S'
def mPa (M : aM) (y w d : Int32) (r : Int64) (M' : aM) : Prop := (isKindB y = false ∧ r = 0 ∧ M' = thM M 1) ∨ ∃ j, j < 6 ∧ y = nI j ∧ mQ M (pasOk w d) (pasM M j w d) r M'
theorem st_pa {S S' : aS} {M M' : aM} {y w d k : Int32} {val r : Int64} (h : Inv S M) (hs : pPa S y w d k val S') (hm : mPa M y w d r M') : ans k val r S' M' := by
  rcases hs with ⟨s1, rfl, rfl⟩ | ⟨j, hj, rfl, hs⟩ <;> rcases hm with ⟨m1, rfl, rfl⟩ | ⟨i, hi, e, hm⟩
  · exact ⟨rfl, fun g => absurd g (by decide), h⟩
  · rw [e, isKindB_nI hi] at s1; cases s1
  · rw [isKindB_nI hj] at m1; cases m1
  · obtain rfl := nI_in4 (by omega) (by omega) e
    exact st_q h rfl (fun _ => h.2.2.pas _ _ _) hs hm
def pRd (S : aS) (y w k : Int32) (val : Int64) (S' : aS) : Prop := (isAccB y (nI (sn S)) = false ∧ k = 1 ∧ S' = S) ∨ ∃ i, i < sn S ∧ y = nI i ∧ pQ S (is5 w) (redV S i w) k val S'
def mRd (M : aM) (y w : Int32) (r : Int64) (M' : aM) : Prop := (isAccB y (nI (mn M)) = false ∧ r = 0 ∧ M' = thM M 1) ∨ ∃ i, i < mn M ∧ y = nI i ∧ mQ M (whB w 5) (redM M i w) r M'
theorem st_rd {S S' : aS} {M M' : aM} {y w k : Int32} {val r : Int64} (h : Inv S M) (hs : pRd S y w k val S') (hm : mRd M y w r M') : ans k val r S' M' := by
  have hn : sn S = mn M := h.2.2.2.2.1.1
  have h400 := h.2.1.2.2.1
  rcases hs with ⟨s1, rfl, rfl⟩ | ⟨j, hj, rfl, hs⟩ <;> rcases hm with ⟨m1, rfl, rfl⟩ | ⟨i, hi, e, hm⟩
  · exact ⟨rfl, fun g => absurd g (by decide), h⟩
  · rw [e, hn] at s1; exact (ac_no hi h400 s1).elim
  · rw [← hn] at m1; exact (ac_no hj (by omega) m1).elim
  · obtain rfl := nI_in4 (by omega) (by omega) e
    refine st_q h (is5_wh w) (fun _ => ?_) hs hm
    obtain ⟨-, -, l3, l4, l5, l6, l7⟩ := h.2.2.2.2.1.2 j hi
    unfold redV redM
    rw [l3, l4, l5, l6, l7]
def pLo (S : aS) (y w k : Int32) (val : Int64) (S' : aS) : Prop := (isAccB y (nI (snb S)) = false ∧ k = 1 ∧ S' = S) ∨ ∃ i, i < snb S ∧ y = nI i ∧ pQ S (is7 w) (lokV (sB S i) w).toInt64 k val S'
def mLo (M : aM) (y w : Int32) (r : Int64) (M' : aM) : Prop := (isAccB y (nI (mnb M)) = false ∧ r = 0 ∧ M' = thM M 1) ∨ ∃ i, i < mnb M ∧ y = nI i ∧ mQ M (whB w 7) (lokM M i w).toInt64 r M'
theorem st_lo {S S' : aS} {M M' : aM} {y w k : Int32} {val r : Int64} (h : Inv S M) (hs : pLo S y w k val S') (hm : mLo M y w r M') : ans k val r S' M' := by
  have hn : snb S = mnb M := h.2.2.2.1.1
  have h100 := h.2.1.2.1
  rcases hs with ⟨s1, rfl, rfl⟩ | ⟨j, hj, rfl, hs⟩ <;> rcases hm with ⟨m1, rfl, rfl⟩ | ⟨i, hi, e, hm⟩
  · exact ⟨rfl, fun g => absurd g (by decide), h⟩
  · rw [e, hn] at s1; exact (ac_no hi (by omega) s1).elim
  · rw [← hn] at m1; exact (ac_no hj (by omega) m1).elim
  · obtain rfl := nI_in4 (by omega) (by omega) e
    refine st_q h (is7_wh w) (fun _ => ?_) hs hm
    obtain ⟨b1, b2, b3, b4, b5, b6, b7, b8, b9, b10⟩ := h.b hi
    have hz : nI (bsz (sB S j)) = if mso M j = 2 then 0 else nI (msz M j) := by
      by_cases g : mso M j = 2
      · rw [if_pos g, b7 g]; rfl
      · rw [if_neg g, (b8 g).1]
    unfold lokV lokM
    rw [b1, b2, b3, b4, b5, b6, hz]
theorem st_cn {S : aS} {M : aM} (h : Inv S M) (w : Int32) : cntV S w = cntM M w := by
  obtain ⟨f1, f2, f3, f4, f5⟩ := h.2.2.2.2.2.2
  unfold cntV cntM
  rw [h.2.2.1.1, h.2.2.2.1.1, h.2.2.2.2.1.1, f1, f2, f3, f4, f5]
  rfl
/-! calls that say yes or no -/
def sRo (S : aS) (y x : Int32) (z : Int64) (v : Int32) (S' : aS) : Prop := (isAccB y (nI (snb S)) = false ∧ v = 0 ∧ S' = S) ∨ ∃ i, i < snb S ∧ y = nI i ∧ ((bst (sB S i) = 0 ∧ bsz (sB S i) < 20 ∧ (isAccB x (nI (sna S)) && centsB z) = true ∧ v = 1 ∧ S' = upB S i (roB (sB S i) x z)) ∨ ((¬ bst (sB S i) = 0 ∨ (bst (sB S i) = 0 ∧ bsz (sB S i) = 20) ∨ (isAccB x (nI (sna S)) && centsB z) = false) ∧ v = 0 ∧ S' = S))
def mRo (M : aM) (y x : Int32) (z : Int64) (v : Int32) (M' : aM) : Prop := (isAccB y (nI (mnb M)) = false ∧ v = 0 ∧ M' = thM M 0) ∨ ∃ i, i < mnb M ∧ y = nI i ∧ (((decide (mso M i = 0) && isAccB x (nI (mna M)) && centsB z && decide (msz M i < 20)) = false ∧ v = 0 ∧ M' = thM M 0) ∨ ((decide (mso M i = 0) && isAccB x (nI (mna M)) && centsB z && decide (msz M i < 20)) = true ∧ v = 1 ∧ M' = roM M i x z))
theorem st_ro {S S' : aS} {M M' : aM} {y x v w : Int32} {z : Int64} (h : Inv S M) (hs : sRo S y x z v S') (hm : mRo M y x z w M') : v = w ∧ Inv S' M' := by
  have hn : snb S = mnb M := h.2.2.2.1.1
  have h100 := h.2.1.2.1
  rcases hs with ⟨s1, rfl, rfl⟩ | ⟨j, hj, rfl, hs⟩ <;> rcases hm with ⟨m1, rfl, rfl⟩ | ⟨i, hi, e, hm⟩
  · exact ⟨rfl, h⟩
  · rw [e, hn] at s1; exact (ac_no hi (by omega) s1).elim
  · rw [← hn] at m1; exact (ac_no hj (by omega) m1).elim
  · obtain rfl := nI_in4 (by omega) (by omega) e
    obtain ⟨b1, b2, b3, b4, b5, b6, b7, b8, b9, b10⟩ := h.b hi
    rw [b1, h.2.2.1.1] at hs
    rcases hs with ⟨s1, s2, s3, rfl, rfl⟩ | ⟨s1, rfl, rfl⟩ <;> rcases hm with ⟨m1, rfl, rfl⟩ | ⟨m1, rfl, rfl⟩
    · exfalso
      rw [(b8 (n02 s1)).1] at s2
      rw [Bool.and_assoc (decide (mso M j = 0)), s3] at m1
      simp [s1, s2] at m1
    · rw [(b8 (n02 s1)).1] at s2
      exact ⟨rfl, h.ro hi s1 s2 x z⟩
    · exact ⟨rfl, h⟩
    · exfalso
      rw [Bool.and_assoc (decide (mso M j = 0))] at m1
      simp only [Bool.and_eq_true, decide_eq_true_eq] at m1
      rcases s1 with s1 | ⟨s1, s2⟩ | s1
      · exact s1 m1.1.1
      · rw [(b8 (n02 s1)).1] at s2
        omega
      · rw [m1.1.2.1, m1.1.2.2] at s1
        cases s1
def sFl (S : aS) (y x v : Int32) (S' : aS) : Prop := (isAccB y (nI (snb S)) = false ∧ v = 0 ∧ S' = S) ∨ ∃ i, i < snb S ∧ y = nI i ∧ ((¬ bst (sB S i) = 0 ∧ v = 0 ∧ S' = S) ∨ (bst (sB S i) = 0 ∧ v = 1 ∧ S' = upB S i (flB (sB S i) x)))
def mFl (M : aM) (y x v : Int32) (M' : aM) : Prop := (isAccB y (nI (mnb M)) = false ∧ v = 0 ∧ M' = thM M 0) ∨ ∃ i, i < mnb M ∧ y = nI i ∧ ((decide (mso M i = 0) = false ∧ v = 0 ∧ M' = thM M 0) ∨ (decide (mso M i = 0) = true ∧ v = 1 ∧ M' = flM M i x))
theorem st_fl {S S' : aS} {M M' : aM} {y x v w : Int32} (h : Inv S M) (hs : sFl S y x v S') (hm : mFl M y x w M') : v = w ∧ Inv S' M' := by
  have hn : snb S = mnb M := h.2.2.2.1.1
  have h100 := h.2.1.2.1
  rcases hs with ⟨s1, rfl, rfl⟩ | ⟨j, hj, rfl, hs⟩ <;> rcases hm with ⟨m1, rfl, rfl⟩ | ⟨i, hi, e, hm⟩
  · exact ⟨rfl, h⟩
  · rw [e, hn] at s1; exact (ac_no hi (by omega) s1).elim
  · rw [← hn] at m1; exact (ac_no hj (by omega) m1).elim
  · obtain rfl := nI_in4 (by omega) (by omega) e
    rw [(h.b hi).1] at hs
    rcases hs with ⟨s1, rfl, rfl⟩ | ⟨s1, rfl, rfl⟩ <;> rcases hm with ⟨m1, rfl, rfl⟩ | ⟨m1, rfl, rfl⟩
    · exact ⟨rfl, h⟩
    · exact absurd (of_decide_eq_true m1) s1
    · exact absurd s1 (of_decide_eq_false m1)
    · exact ⟨rfl, h.fl hi s1 x⟩
def sCl (S : aS) (x v : Int32) (S' : aS) : Prop := (clOk S x = false ∧ v = 0 ∧ S' = S) ∨ (clOk S x = true ∧ v = 1 ∧ S' = clS S x)
def mCl (M : aM) (x v : Int32) (M' : aM) : Prop := (clOkM M x = false ∧ v = 0 ∧ M' = thM M 0) ∨ (clOkM M x = true ∧ v = 1 ∧ M' = clM M x)
theorem st_cl {S S' : aS} {M M' : aM} {x v w : Int32} (h : Inv S M) (hs : sCl S x v S') (hm : mCl M x w M') : v = w ∧ Inv S' M' := by
  have he : clOk S x = clOkM M x := by unfold clOk clOkM; rw [h.2.2.2.2.2.2.1]
  rw [sCl, he] at hs
  rcases hs with ⟨s1, rfl, rfl⟩ | ⟨s1, rfl, rfl⟩ <;> rcases hm with ⟨m1, rfl, rfl⟩ | ⟨m1, rfl, rfl⟩
  · exact ⟨rfl, h⟩
  · exact absurd (s1.symm.trans m1) (by decide)
  · exact absurd (m1.symm.trans s1) (by decide)
  · exact ⟨rfl, h.cl x⟩
def sPt (S : aS) (y z x v : Int32) (S' : aS) : Prop := ((isKindB y && isRecB z) = false ∧ v = 0 ∧ S' = S) ∨ ∃ k r, k < 6 ∧ r < 4 ∧ y = nI k ∧ z = nI r ∧ ((ptOk x = false ∧ v = 0 ∧ S' = S) ∨ (ptOk x = true ∧ v = 1 ∧ S' = ptS S k r x))
def mPt (M : aM) (y z x v : Int32) (M' : aM) : Prop := ((isKindB y && isRecB z) = false ∧ v = 0 ∧ M' = thM M 0) ∨ ∃ k r, k < 6 ∧ r < 4 ∧ y = nI k ∧ z = nI r ∧ ((ptOk x = false ∧ v = 0 ∧ M' = thM M 0) ∨ (ptOk x = true ∧ v = 1 ∧ M' = ptM M k r x))
theorem st_pt {S S' : aS} {M M' : aM} {y z x v w : Int32} (h : Inv S M) (hs : sPt S y z x v S') (hm : mPt M y z x w M') : v = w ∧ Inv S' M' := by
  rcases hs with ⟨s1, rfl, rfl⟩ | ⟨k, r, hk, hr, rfl, rfl, hs⟩ <;> rcases hm with ⟨m1, rfl, rfl⟩ | ⟨k2, r2, hk2, hr2, e1, e2, hm⟩
  · exact ⟨rfl, h⟩
  · rw [e1, e2, isKindB_nI hk2, isRecB_nI hr2] at s1; cases s1
  · rw [isKindB_nI hk, isRecB_nI hr] at m1; cases m1
  · obtain rfl := nI_in4 (by omega) (by omega) e1
    obtain rfl := nI_in4 (by omega) (by omega) e2
    rcases hs with ⟨s1, rfl, rfl⟩ | ⟨s1, rfl, rfl⟩ <;> rcases hm with ⟨m1, rfl, rfl⟩ | ⟨m1, rfl, rfl⟩
    · exact ⟨rfl, h⟩
    · exact absurd (s1.symm.trans m1) (by decide)
    · exact absurd (m1.symm.trans s1) (by decide)
    · exact ⟨rfl, h.pt k r x⟩
def sCs (S : aS) (y x v : Int32) (S' : aS) : Prop := (isKindB y = false ∧ v = 0 ∧ S' = S) ∨ ∃ k, k < 6 ∧ y = nI k ∧ ((ptOk x = false ∧ v = 0 ∧ S' = S) ∨ (ptOk x = true ∧ v = 1 ∧ S' = csS S k x))
def mCs (M : aM) (y x v : Int32) (M' : aM) : Prop := (isKindB y = false ∧ v = 0 ∧ M' = thM M 0) ∨ ∃ k, k < 6 ∧ y = nI k ∧ ((ptOk x = false ∧ v = 0 ∧ M' = thM M 0) ∨ (ptOk x = true ∧ v = 1 ∧ M' = csM M k x))
theorem st_cs {S S' : aS} {M M' : aM} {y x v w : Int32} (h : Inv S M) (hs : sCs S y x v S') (hm : mCs M y x w M') : v = w ∧ Inv S' M' := by
  rcases hs with ⟨s1, rfl, rfl⟩ | ⟨k, hk, rfl, hs⟩ <;> rcases hm with ⟨m1, rfl, rfl⟩ | ⟨k2, hk2, e1, hm⟩
  · exact ⟨rfl, h⟩
  · rw [e1, isKindB_nI hk2] at s1; cases s1
  · rw [isKindB_nI hk] at m1; cases m1
  · obtain rfl := nI_in4 (by omega) (by omega) e1
    rcases hs with ⟨s1, rfl, rfl⟩ | ⟨s1, rfl, rfl⟩ <;> rcases hm with ⟨m1, rfl, rfl⟩ | ⟨m1, rfl, rfl⟩
    · exact ⟨rfl, h⟩
    · exact absurd (s1.symm.trans m1) (by decide)
    · exact absurd (m1.symm.trans s1) (by decide)
    · exact ⟨rfl, h.cs k x⟩
theorem Inv.new : Inv nwS nwM := by
  refine ⟨⟨by decide, by decide, by decide, fun i hi => absurd hi (Nat.not_lt_zero i)⟩, ⟨by decide, by decide, by decide, fun i _ => Nat.zero_le _, fun i hi => absurd hi (Nat.not_lt_zero i)⟩, ⟨rfl, fun i hi => absurd hi (Nat.not_lt_zero i)⟩, ⟨rfl, fun i hi => absurd hi (Nat.not_lt_zero i)⟩, ⟨rfl, fun i hi => absurd hi (Nat.not_lt_zero i)⟩, ⟨rfl, rfl⟩, rfl, rfl, rfl, rfl, rfl⟩
