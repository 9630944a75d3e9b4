/-! the two states: what the class holds, and what the reference holds -/
def bRel (b : aB) (M : aM) (i : Nat) : Prop := bst b = mso M i ∧ bvd b = mvo M i ∧ bkd b = mkn M i ∧ brv b = mrv M i ∧ brb b = mrb M i ∧ btf b = mtf M i ∧ (mso M i = 2 → bsz b = 0) ∧ (¬ mso M i = 2 → bsz b = msz M i ∧ ∀ k, k < msz M i → bfa b k = mfa M i k ∧ bfc b k = mfc M i k) ∧ (mrv M i = -1 ∨ 0 ≤ mrv M i) ∧ (mrb M i = -1 ∨ 0 ≤ mrb M i)
def lRel (L : aL) (M : aM) (q : Nat) : Prop := mlg M q / 20 < mnb M ∧ mso M (mlg M q / 20) = 1 ∧ L.2.1 q = nI (mlg M q / 20) ∧ L.2.2.1 q = mra M (mlg M q) ∧ L.2.2.2.1 q = mrc M (mlg M q) ∧ L.2.2.2.2.1 q = mvo M (mlg M q / 20) ∧ L.2.2.2.2.2 q = mkn M (mlg M q / 20)
def Rel (S : aS) (M : aM) : Prop := (sna S = mna M ∧ ∀ i, i < mna M → skd S i = mko M i) ∧ (snb S = mnb M ∧ ∀ i, i < mnb M → bRel (sB S i) M i) ∧ (sn S = mn M ∧ ∀ q, q < mn M → lRel (sL S) M q) ∧ (sfp S = mfp M ∧ sfq S = mfq M) ∧ (scd S = mcd M ∧ slk S = mlk M ∧ swr S = mwr M ∧ snm S = mnm M ∧ sfl S = mfl M)
def Inv (S : aS) (M : aM) : Prop := aOk S ∧ mOk M ∧ Rel S M
/-- the same batch i -/
def agI (M M' : aM) (i : Nat) : Prop := (mso M' i = mso M i ∧ mvo M' i = mvo M i ∧ mkn M' i = mkn M i ∧ mrv M' i = mrv M i ∧ mrb M' i = mrb M i ∧ mtf M' i = mtf M i ∧ msz M' i = msz M i) ∧ ∀ k, k < 20 → mra M' (20 * i + k) = mra M (20 * i + k) ∧ mrc M' (20 * i + k) = mrc M (20 * i + k)
theorem agI.rf (M : aM) (i : Nat) : agI M M i := ⟨⟨rfl, rfl, rfl, rfl, rfl, rfl, rfl⟩, fun _ _ => ⟨rfl, rfl⟩⟩
theorem bRel.keep {b : aB} {M M' : aM} {i : Nat} (h : bRel b M i) (ha : agI M M' i) (hs : msz M i ≤ 20) : bRel b M' i := by
  obtain ⟨⟨e1, e2, e3, e4, e5, e6, e7⟩, er⟩ := ha
  obtain ⟨h1, h2, h3, h4, h5, h6, h7, h8, h9, h10⟩ := h
  refine ⟨h1.trans e1.symm, h2.trans e2.symm, h3.trans e3.symm, h4.trans e4.symm, h5.trans e5.symm, h6.trans e6.symm, fun h => h7 (e1.symm.trans h), fun h => ?_, by rw [e4]; exact h9, by rw [e5]; exact h10⟩
  obtain ⟨a1, a2⟩ := h8 (fun g => h (e1.trans g))
  refine ⟨a1.trans e7.symm, fun k hk => ?_⟩
  rw [e7] at hk
  exact ⟨(a2 k hk).1.trans (er k (by omega)).1.symm, (a2 k hk).2.trans (er k (by omega)).2.symm⟩
theorem lRel.keep {L L' : aL} {M M' : aM} {q : Nat} (h : lRel L M q) (hb : mnb M ≤ mnb M') (hl : mlg M' q = mlg M q) (ha : agI M M' (mlg M q / 20)) (hL : L'.2.1 q = L.2.1 q ∧ L'.2.2.1 q = L.2.2.1 q ∧ L'.2.2.2.1 q = L.2.2.2.1 q ∧ L'.2.2.2.2.1 q = L.2.2.2.2.1 q ∧ L'.2.2.2.2.2 q = L.2.2.2.2.2 q) : lRel L' M' q := by
  obtain ⟨⟨e1, e2, e3, -, -, -, -⟩, er⟩ := ha
  obtain ⟨h1, h2, h3, h4, h5, h6, h7⟩ := h
  have hr := er (mlg M q % 20) (Nat.mod_lt _ (by omega))
  rw [Nat.div_add_mod] at hr
  unfold lRel
  rw [hl]
  exact ⟨by omega, e1.trans h2, hL.1.trans h3, hL.2.1.trans (h4.trans hr.1.symm), hL.2.2.1.trans (h5.trans hr.2.symm), hL.2.2.2.1.trans (h6.trans e2.symm), hL.2.2.2.2.trans (h7.trans e3.symm)⟩
theorem upd_n {f : Nat → Int32} {b i : Nat} {v : Int32} (h : i ≠ b) : upd f b v i = f i := by simp [upd, h]
theorem upd_e {f : Nat → Int32} {b : Nat} {v : Int32} : upd f b v b = v := by simp [upd]
theorem updL_n {f : Nat → Int64} {b i : Nat} {v : Int64} (h : i ≠ b) : vp_updL f b v i = f i := by simp [vp_updL, h]
theorem updL_e {f : Nat → Int64} {b : Nat} {v : Int64} : vp_updL f b v b = v := by simp [vp_updL]
/-- the reference's places that no batch of the class has may hold anything -/
theorem Rel.junk {S : aS} {M M' : aM} (h : Rel S M) (hO : mOk M) (e1 : M'.1.2 = M.1.2) (e2 : M'.2.1 = M.2.1) (e3 : mko M' = mko M) (e4 : mlg M' = mlg M) (e5 : M'.2.2.2.2 = M.2.2.2.2) (ha : ∀ i, i < mnb M → agI M M' i) : Rel S M' := by
  obtain ⟨⟨a1, a2⟩, ⟨b1, b2⟩, ⟨c1, c2⟩, ⟨d1, d2⟩, ⟨f1, f2, f3, f4, f5⟩⟩ := h
  have n1 : mna M' = mna M := congrArg (fun x => x.1) e1
  have n2 : mnb M' = mnb M := congrArg (fun x => x.2.1) e1
  have n3 : mn M' = mn M := congrArg (fun x => x.2.2) e1
  have p1 : mfp M' = mfp M := congrArg (fun x => x.1) e5
  have p2 : mfq M' = mfq M := congrArg (fun x => x.2) e5
  refine ⟨⟨a1.trans n1.symm, fun i hi => by rw [n1] at hi; rw [e3]; exact a2 i hi⟩, ⟨b1.trans n2.symm, fun i hi => by rw [n2] at hi; exact (b2 i hi).keep (ha i hi) (hO.2.2.2.1 i (by have := hO.2.1; omega))⟩, ⟨c1.trans n3.symm, fun q hq => ?_⟩, ⟨d1.trans p1.symm, d2.trans p2.symm⟩, f1.trans (congrArg (fun x => x.1) e2).symm, f2.trans (congrArg (fun x => x.2.1) e2).symm, f3.trans (congrArg (fun x => x.2.2.1) e2).symm, f4.trans (congrArg (fun x => x.2.2.2.1) e2).symm, f5.trans (congrArg (fun x => x.2.2.2.2) e2).symm⟩
  rw [n3] at hq
  have hl := c2 q hq
  exact hl.keep (by omega) (by rw [e4]) (ha _ hl.1) ⟨rfl, rfl, rfl, rfl, rfl⟩
/-! one more account, closed days, parts and costs -/
theorem Inv.th {S : aS} {M : aM} (h : Inv S M) (t : Int32) : Inv S (thM M t) := h
theorem Inv.ac {S : aS} {M : aM} (h : Inv S M) (hlt : mna M < 12) (x : Int32) : Inv (acS S x) (acM M x) := by
  obtain ⟨⟨o1, o2, o3, o4⟩, ⟨m1, m2, m3, m4, m5⟩, ⟨a1, a2⟩, B, C, D, E⟩ := h
  refine ⟨⟨?_, o2, o3, o4⟩, ⟨?_, m2, m3, m4, m5⟩, ⟨?_, fun i hi => ?_⟩, B, C, D, E⟩
  · show sna S + 1 ≤ 12; omega
  · show mna M + 1 ≤ 12; omega
  · show sna S + 1 = mna M + 1; omega
  · show upd (skd S) (sna S) x i = upd (mko M) (mna M) x i
    rw [a1]
    by_cases hi2 : i = mna M
    · rw [hi2, upd_e, upd_e]
    · rw [upd_n hi2, upd_n hi2]; exact a2 i (by have : i < mna M + 1 := hi; omega)
theorem Inv.cl {S : aS} {M : aM} (h : Inv S M) (x : Int32) : Inv (clS S x) (clM M x) := by
  obtain ⟨o, m, A, B, C, D, e1, e2⟩ := h
  exact ⟨o, m, A, B, C, D, rfl, e2⟩
theorem Inv.pt {S : aS} {M : aM} (h : Inv S M) (k r : Nat) (x : Int32) : Inv (ptS S k r x) (ptM M k r x) := by
  obtain ⟨o, m, A, B, C, ⟨d1, d2⟩, E⟩ := h
  exact ⟨o, m, A, B, C, ⟨by show upd (sfp S) _ _ = upd (mfp M) _ _; rw [d1], d2⟩, E⟩
theorem Inv.cs {S : aS} {M : aM} (h : Inv S M) (k : Nat) (x : Int32) : Inv (csS S k x) (csM M k x) := by
  obtain ⟨o, m, A, B, C, ⟨d1, d2⟩, E⟩ := h
  exact ⟨o, m, A, B, C, ⟨d1, by show upd (sfq S) _ _ = upd (mfq M) _ _; rw [d2]⟩, E⟩
/-! one batch changes -/
theorem Inv.up1 {S : aS} {M M' : aM} {b : aB} {i : Nat} (h : Inv S M) (hi : i < mnb M) (hn1 : ¬ mso M i = 1 ∨ ∀ k, k < 20 → mso M' i = mso M i ∧ mvo M' i = mvo M i ∧ mkn M' i = mkn M i ∧ mra M' (20 * i + k) = mra M (20 * i + k) ∧ mrc M' (20 * i + k) = mrc M (20 * i + k)) (e1 : M'.1.2 = M.1.2) (e2 : M'.2.1 = M.2.1) (e3 : mko M' = mko M) (e4 : mlg M' = mlg M) (e5 : M'.2.2.2.2 = M.2.2.2.2) (ha : ∀ j, j ≠ i → agI M M' j) (hb : bRel b M' i) (hz : bsz b ≤ 20) (hz2 : msz M' i ≤ 20) : Inv (upB S i b) M' := by
  obtain ⟨⟨o1, o2, o3, o4⟩, ⟨m1, m2, m3, m4, m5⟩, ⟨a1, a2⟩, ⟨b1, b2⟩, ⟨c1, c2⟩, ⟨d1, d2⟩, ⟨f1, f2, f3, f4, f5⟩⟩ := h
  have n1 : mna M' = mna M := congrArg (fun x => x.1) e1
  have n2 : mnb M' = mnb M := congrArg (fun x => x.2.1) e1
  have n3 : mn M' = mn M := congrArg (fun x => x.2.2) e1
  have p1 : mfp M' = mfp M := congrArg (fun x => x.1) e5
  have p2 : mfq M' = mfq M := congrArg (fun x => x.2) e5
  refine ⟨⟨o1, o2, o3, fun j hj => ?_⟩, ⟨by omega, by omega, by omega, fun j hj => ?_, fun q hq => by rw [e4]; exact m5 q (by omega)⟩, ⟨a1.trans n1.symm, fun j hj => by rw [n1] at hj; rw [e3]; exact a2 j hj⟩, ⟨b1.trans n2.symm, fun j hj => ?_⟩, ⟨c1.trans n3.symm, fun q hq => ?_⟩, ⟨d1.trans p1.symm, d2.trans p2.symm⟩, f1.trans (congrArg (fun x => x.1) e2).symm, f2.trans (congrArg (fun x => x.2.1) e2).symm, f3.trans (congrArg (fun x => x.2.2.1) e2).symm, f4.trans (congrArg (fun x => x.2.2.2.1) e2).symm, f5.trans (congrArg (fun x => x.2.2.2.2) e2).symm⟩
  · show bsz (if j = i then b else sB S j) ≤ 20
    split
    · exact hz
    · exact o4 j hj
  · by_cases hji : j = i
    · rw [hji]; exact hz2
    · rw [(ha j hji).1.2.2.2.2.2.2]; exact m4 j hj
  · rw [n2] at hj
    show bRel (if j = i then b else sB S j) M' j
    split
    · rename_i hji; rw [hji]; exact hb
    · rename_i hji; exact (b2 j hj).keep (ha j hji) (m4 j (by omega))
  · rw [n3] at hq
    have hl := c2 q hq
    by_cases hji : mlg M q / 20 = i
    · rcases hn1 with hn1 | hn1
      · exact absurd (hji ▸ hl.2.1) hn1
      · obtain ⟨h1, h2, h3, h4, h5, h6, h7⟩ := hl
        have hr := hn1 (mlg M q % 20) (Nat.mod_lt _ (by omega))
        rw [← hji, Nat.div_add_mod] at hr
        unfold lRel
        rw [e4]
        exact ⟨by omega, hr.1.trans h2, h3, h4.trans hr.2.2.2.1.symm, h5.trans hr.2.2.2.2.symm, h6.trans hr.2.1.symm, h7.trans hr.2.2.1.symm⟩
    · exact hl.keep (by omega) (by rw [e4]) (ha _ hji) ⟨rfl, rfl, rfl, rfl, rfl⟩
theorem Inv.b {S : aS} {M : aM} (h : Inv S M) {i : Nat} (hi : i < mnb M) : bRel (sB S i) M i := h.2.2.2.1.2 i hi
theorem Inv.lt {S : aS} {M : aM} (h : Inv S M) {i : Nat} (hi : i < mnb M) : i < 100 ∧ msz M i ≤ 20 := by
  have := h.2.1.2.1
  exact ⟨by omega, h.2.1.2.2.2.1 i (by omega)⟩
theorem n02 {x : Int32} (h : x = 0) : ¬ x = 2 := by rw [h]; decide
theorem n01 {x : Int32} (h : x = 0) : ¬ x = 1 := by rw [h]; decide
theorem n12x {x : Int32} (h : x = 1) : ¬ x = 2 := by rw [h]; decide
theorem Inv.fl {S : aS} {M : aM} (h : Inv S M) {i : Nat} (hi : i < mnb M) (h0 : mso M i = 0) (x : Int32) : Inv (upB S i (flB (sB S i) x)) (flM M i x) := by
  have hb := h.b hi
  obtain ⟨h1, h2, h3, h4, h5, h6, h7, h8, h9, h10⟩ := hb
  refine h.up1 hi (Or.inl (n01 h0)) rfl rfl rfl rfl rfl (fun j hj => ⟨⟨rfl, rfl, rfl, rfl, rfl, upd_n hj, rfl⟩, fun _ _ => ⟨rfl, rfl⟩⟩) ⟨h1, h2, h3, h4, h5, upd_e.symm, h7, h8, h9, h10⟩ ?_ (h.lt hi).2
  show bsz (sB S i) ≤ 20
  rw [(h8 (n02 h0)).1]; exact (h.lt hi).2
theorem Inv.ro {S : aS} {M : aM} (h : Inv S M) {i : Nat} (hi : i < mnb M) (h0 : mso M i = 0) (hsz : msz M i < 20) (x : Int32) (z : Int64) : Inv (upB S i (roB (sB S i) x z)) (roM M i x z) := by
  have hb := h.b hi
  obtain ⟨h1, h2, h3, h4, h5, h6, h7, h8, h9, h10⟩ := hb
  obtain ⟨g1, g2⟩ := h8 (n02 h0)
  refine h.up1 hi (Or.inl (n01 h0)) rfl rfl rfl rfl rfl (fun j hj => ⟨⟨rfl, rfl, rfl, rfl, rfl, rfl, setN_ne hj⟩, fun k hk => ⟨upd_n (by omega), updL_n (by omega)⟩⟩) ⟨h1, h2, h3, h4, h5, h6, fun g => absurd g (n02 h0), fun _ => ⟨?_, fun k hk => ?_⟩, h9, h10⟩ ?_ ?_
  · show bsz (sB S i) + 1 = setN (msz M) i (msz M i + 1) i
    rw [setN_eq, g1]
  · have hk2 : k < msz M i + 1 := by have : k < setN (msz M) i (msz M i + 1) i := hk; rwa [setN_eq] at this
    show upd (bfa (sB S i)) (bsz (sB S i)) x k = upd (mra M) (20 * i + msz M i) x (20 * i + k) ∧ vp_updL (bfc (sB S i)) (bsz (sB S i)) z k = vp_updL (mrc M) (20 * i + msz M i) z (20 * i + k)
    rw [g1]
    by_cases hk3 : k = msz M i
    · rw [hk3, upd_e, upd_e, updL_e, updL_e]; exact ⟨rfl, rfl⟩
    · rw [upd_n hk3, upd_n (by omega), updL_n hk3, updL_n (by omega)]
      exact g2 k (by omega)
  · show bsz (sB S i) + 1 ≤ 20
    rw [g1]; omega
  · show setN (msz M) i (msz M i + 1) i ≤ 20
    rw [setN_eq]; omega
