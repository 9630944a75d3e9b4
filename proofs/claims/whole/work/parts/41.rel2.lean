/-! sums -/
theorem sumF_congr {fa fv fk fa' fv' fk' : Nat → Int32} {fc fc' : Nat → Int64} {x v1 v2 k1 : Int32} : ∀ {n : Nat}, (∀ q, q < n → fa q = fa' q ∧ fv q = fv' q ∧ fk q = fk' q ∧ fc q = fc' q) → sumF fa fv fk fc x v1 v2 k1 n = sumF fa' fv' fk' fc' x v1 v2 k1 n
  | 0, _ => rfl
  | n + 1, h => by
    have ih := sumF_congr (n := n) (x := x) (v1 := v1) (v2 := v2) (k1 := k1) (fun q hq => h q (by omega))
    obtain ⟨h1, h2, h3, h4⟩ := h n (by omega)
    have hr : rowB fa fv fk x v1 v2 k1 n = rowB fa' fv' fk' x v1 v2 k1 n := by unfold rowB; rw [h1, h2, h3]
    show (if rowB fa fv fk x v1 v2 k1 n then _ else _) = (if rowB fa' fv' fk' x v1 v2 k1 n then _ else _)
    rw [hr, ih, h4]
theorem sumL_congr {f g : Nat → Int64} : ∀ {n : Nat}, (∀ q, q < n → f q = g q) → sumL f n = sumL g n
  | 0, _ => rfl
  | n + 1, h => by
    show sumL f n + f n = sumL g n + g n
    rw [sumL_congr (fun q hq => h q (by omega)), h n (by omega)]
theorem sumA_congr {fa fa' : Nat → Int32} {f g : Nat → Int64} {x : Int32} : ∀ {n : Nat}, (∀ q, q < n → fa q = fa' q ∧ f q = g q) → sumA fa f x n = sumA fa' g x n
  | 0, _ => rfl
  | n + 1, h => by
    show (if decide (fa n = x) then _ else _) = (if decide (fa' n = x) then _ else _)
    rw [sumA_congr (fun q hq => h q (by omega)), (h n (by omega)).1, (h n (by omega)).2]
theorem farP_congr {fa fa' : Nat → Int32} {f g : Nat → Int64} {n : Nat} (h : ∀ q, q < n → fa q = fa' q ∧ f q = g q) : ∀ a : Nat, farP fa f n a = farP fa' g n a
  | 0 => rfl
  | a + 1 => by
    show (if decide ((farP fa f n a).2 < absL (sumA fa f (nI a) n)) then _ else _) = (if decide ((farP fa' g n a).2 < absL (sumA fa' g (nI a) n)) then _ else _)
    rw [farP_congr h a, sumA_congr h]
theorem Rel.bal {S : aS} {M : aM} (h : Rel S M) (x v1 v2 k1 : Int32) : balS S x v1 v2 k1 = balM M x v1 v2 k1 := by
  obtain ⟨-, -, ⟨c1, c2⟩, -, -⟩ := h
  unfold balS
  rw [c1]
  exact sumF_congr (fun q hq => by
    obtain ⟨-, -, -, h4, h5, h6, h7⟩ := c2 q hq
    exact ⟨h4, h6, h7, h5⟩)
theorem Rel.col {S : aS} {M : aM} (h : Rel S M) (x k1 : Int32) : colS S x k1 = colM M x k1 := by
  have hp : ∀ n, n ≤ mna M → colP S x k1 n = colQ (mko M) (colG M k1) x n := by
    intro n
    induction n with
    | zero => intro _; rfl
    | succ n ih =>
      intro hn
      show (if decide (skd S n = x) then colP S x k1 n + balS S (nI n) 0 100000 k1 else colP S x k1 n) = (if decide (mko M n = x) then colQ (mko M) (colG M k1) x n + balM M (nI n) 0 100000 k1 else colQ (mko M) (colG M k1) x n)
      rw [ih (by omega), h.1.2 n (by omega), h.bal]
  unfold colS colM
  rw [h.1.1, hp _ (Nat.le_refl _)]
theorem Rel.pas {S : aS} {M : aM} (h : Rel S M) (k : Nat) (w d : Int32) : pasV S k w d = pasM M k w d := by
  unfold pasV pasM pasC pasMC
  rw [h.col, h.2.2.2.1.1, h.2.2.2.1.2]
/-! what is wrong with a batch -/
theorem rm_eq {n z : Nat} (hn : n ≤ 400) (hz : z ≤ 20) : (400 - nI n < nI z) ↔ ¬ nI (n + z) ≤ 400 := by
  rw [show (400 : Int32) = nI 400 from rfl, pk_sub hn, nI_ltI (by omega) (by omega), nI_leI (by omega) (by omega)]
  omega
theorem wrong_eq {S : aS} {M : aM} {b : aB} {i : Nat} (h1 : bsz b = msz M i) (h2 : ∀ k, k < msz M i → bfc b k = mfc M i k) (h3 : bkd b = mkn M i) (h4 : scd S = mcd M) (h5 : slk S = mlk M) (h6 : sn S = mn M) (h7 : mn M ≤ 400) (h8 : msz M i ≤ 20) : wrongB S b = wrongM M i := by
  unfold wrongB wrongM
  rw [h1, sumL_congr h2, h3, h4, h5, h6]
  have he := rm_eq h7 h8
  by_cases hc : (400 : Int32) - nI (mn M) < nI (msz M i)
  · rw [if_pos hc, if_pos (he.mp hc)]
  · rw [if_neg hc, if_neg (fun g => hc (he.mpr g))]
theorem Inv.wr {S : aS} {M : aM} (h : Inv S M) {i : Nat} (hi : i < mnb M) (h2 : ¬ mso M i = 2) : wrongB S (sB S i) = wrongM M i := by
  obtain ⟨h1, -, h3, -, -, -, -, h8, -, -⟩ := h.b hi
  obtain ⟨g1, g2⟩ := h8 h2
  exact wrong_eq g1 (fun k hk => (g2 k hk).2) h3 h.2.2.2.2.2.2.1 h.2.2.2.2.2.2.2.1 h.2.2.2.2.1.1 h.2.1.2.2.1 (h.lt hi).2
theorem Inv.na {S : aS} {M : aM} (h : Inv S M) {i : Nat} (hi : i < mnb M) (h2 : ¬ mso M i = 2) (w : Int32) : naV S i w = naM M i w := by
  obtain ⟨-, -, -, -, -, -, -, h8, -, -⟩ := h.b hi
  obtain ⟨g1, g2⟩ := h8 h2
  unfold naV naM
  rw [g1, h.2.2.1.1, farP_congr g2]
/-! one batch and the class's ints change -/
theorem Inv.up2 {S S' : aS} {M M' : aM} {b : aB} {i : Nat} (h : Inv S M) (hi : i < mnb M) (hn1 : ¬ mso M i = 1) (s1 : S'.1 = S.1) (s2 : S'.2.1 = (snb S, fun j => if j = i then b else sB S j)) (s3 : sn S' = sn S) (s6 : ∀ q, q < sn S → (sL S').2.1 q = (sL S).2.1 q ∧ (sL S').2.2.1 q = (sL S).2.2.1 q ∧ (sL S').2.2.2.1 q = (sL S).2.2.2.1 q ∧ (sL S').2.2.2.2.1 q = (sL S).2.2.2.2.1 q ∧ (sL S').2.2.2.2.2 q = (sL S).2.2.2.2.2 q) (s4 : S'.2.2.2.1 = S.2.2.2.1) (s5 : scd S' = mcd M' ∧ slk S' = mlk M' ∧ swr S' = mwr M' ∧ snm S' = mnm M' ∧ sfl S' = mfl M') (e1 : M'.1.2 = M.1.2) (e3 : mko M' = mko M) (e4 : mlg M' = mlg M) (e5 : M'.2.2.2.2 = M.2.2.2.2) (ha : ∀ j, j ≠ i → agI M M' j) (hb : bRel b M' i) (hz : bsz b ≤ 20) (hz2 : msz M' i ≤ 20) : Inv S' M' := by
  obtain ⟨⟨o1, o2, o3, o4⟩, ⟨m1, m2, m3, m4, m5⟩, ⟨a1, a2⟩, ⟨b1, b2⟩, ⟨c1, c2⟩, ⟨d1, d2⟩, -⟩ := h
  have n1 : mna M' = mna M := congrArg (fun x => x.1) e1
  have n2 : mnb M' = mnb M := congrArg (fun x => x.2.1) e1
  have n3 : mn M' = mn M := congrArg (fun x => x.2.2) e1
  have p1 : mfp M' = mfp M := congrArg (fun x => x.1) e5
  have p2 : mfq M' = mfq M := congrArg (fun x => x.2) e5
  have t1 : sna S' = sna S := congrArg (fun x => x.1) s1
  have t2 : skd S' = skd S := congrArg (fun x => x.2) s1
  have t3 : snb S' = snb S := congrArg (fun x => x.1) s2
  have t4 : sB S' = fun j => if j = i then b else sB S j := congrArg (fun x => x.2) s2
  have t5 : sfp S' = sfp S := congrArg (fun x => x.1) s4
  have t6 : sfq S' = sfq S := congrArg (fun x => x.2) s4
  refine ⟨⟨by omega, by omega, by omega, fun j hj => ?_⟩, ⟨by omega, by omega, by omega, fun j hj => ?_, fun q hq => by rw [e4]; exact m5 q (by omega)⟩, ⟨by omega, fun j hj => by rw [n1] at hj; rw [e3, t2]; exact a2 j hj⟩, ⟨by omega, fun j hj => ?_⟩, ⟨by omega, fun q hq => ?_⟩, ⟨by rw [t5, d1, p1], by rw [t6, d2, p2]⟩, s5⟩
  · rw [t4]
    show bsz (if j = i then b else sB S j) ≤ 20
    split
    · exact hz
    · exact o4 j (by omega)
  · by_cases hji : j = i
    · rw [hji]; exact hz2
    · rw [(ha j hji).1.2.2.2.2.2.2]; exact m4 j hj
  · rw [n2] at hj
    rw [t4]
    show bRel (if j = i then b else sB S j) M' j
    split
    · rename_i hji; rw [hji]; exact hb
    · rename_i hji; exact (b2 j hj).keep (ha j hji) (m4 j (by omega))
  · rw [n3] at hq
    have hl := c2 q hq
    have hji : mlg M q / 20 ≠ i := fun g => hn1 (g ▸ hl.2.1)
    exact hl.keep (by omega) (by rw [e4]) (ha _ hji) (s6 q (by omega))
theorem Inv.vd {S : aS} {M : aM} (h : Inv S M) {i : Nat} (hi : i < mnb M) (h0 : mso M i = 0) (w z : Int32) : Inv (vdS S i w z) (vdM M i w z) := by
  obtain ⟨h1, h2, h3, h4, h5, h6, h7, h8, h9, h10⟩ := h.b hi
  obtain ⟨f1, f2, f3, f4, f5⟩ := h.2.2.2.2.2.2
  refine h.up2 (b := voB (sB S i)) hi (n01 h0) rfl rfl rfl (fun q hq => ⟨rfl, rfl, rfl, rfl, rfl⟩) rfl ⟨f1, f2, rfl, rfl, f5⟩ rfl rfl rfl rfl (fun j hj => ⟨⟨upd_n hj, rfl, rfl, rfl, rfl, rfl, rfl⟩, fun _ _ => ⟨rfl, rfl⟩⟩) ⟨upd_e.symm, h2, h3, h4, h5, h6, fun _ => rfl, fun g => absurd upd_e g, h9, h10⟩ (Nat.zero_le _) (h.lt hi).2
theorem Inv.fa {S : aS} {M : aM} (h : Inv S M) {i : Nat} (hi : i < mnb M) (h0 : mso M i = 0) : Inv (faS S i) (faM M i) := by
  obtain ⟨h1, h2, h3, h4, h5, h6, h7, h8, h9, h10⟩ := h.b hi
  obtain ⟨f1, f2, f3, f4, f5⟩ := h.2.2.2.2.2.2
  refine h.up2 (b := flB (sB S i) 0) hi (n01 h0) rfl rfl rfl (fun q hq => ⟨brI_lt (g := fun _ => nI i) hq, brI_lt hq, brJ_lt hq, brI_lt (g := fun _ => bvd (sB S i)) hq, brI_lt (g := fun _ => bkd (sB S i)) hq⟩) rfl ⟨f1, f2, f3, f4, ?_⟩ rfl rfl rfl rfl (fun j hj => ⟨⟨rfl, rfl, rfl, rfl, rfl, upd_n hj, rfl⟩, fun _ _ => ⟨rfl, rfl⟩⟩) ⟨h1, h2, h3, h4, h5, upd_e.symm, h7, h8, h9, h10⟩ ?_ (h.lt hi).2
  · show sfl S + 1 = mfl M + 1
    rw [f5]
  · show bsz (sB S i) ≤ 20
    rw [(h8 (n02 h0)).1]; exact (h.lt hi).2
/-! a batch is posted -/
theorem brI_in {f g : Nat → Int32} {n j k : Nat} (h : k < j) : brI f n j g (n + k) = g k := by simp only [brI]; rw [if_pos (by omega)]; congr 1; omega
theorem brJ_in {f g : Nat → Int64} {n j k : Nat} (h : k < j) : brJ f n j g (n + k) = g k := by simp only [brJ]; rw [if_pos (by omega)]; congr 1; omega
theorem brN_in {f g : Nat → Nat} {n j k : Nat} (h : k < j) : brN f n j g (n + k) = g k := by simp only [brN]; rw [if_pos (by omega)]; congr 1; omega
theorem brN_lt {f g : Nat → Nat} {n j q : Nat} (h : q < n) : brN f n j g q = f q := by simp only [brN]; rw [if_neg (by omega)]
theorem Inv.en {S : aS} {M : aM} (h : Inv S M) {i : Nat} (hi : i < mnb M) (h0 : mso M i = 0) (hrm : mn M + msz M i ≤ 400) : Inv (enS S i) (enM M i) := by
  obtain ⟨h1, h2, h3, h4, h5, h6, h7, h8, h9, h10⟩ := h.b hi
  obtain ⟨g1, g2⟩ := h8 (n02 h0)
  obtain ⟨li1, li2⟩ := h.lt hi
  obtain ⟨⟨o1, o2, o3, o4⟩, ⟨m1, m2, m3, m4, m5⟩, ⟨a1, a2⟩, ⟨b1, b2⟩, ⟨c1, c2⟩, ⟨d1, d2⟩, ⟨f1, f2, f3, f4, f5⟩⟩ := h
  have hag : ∀ j, j ≠ i → agI M (enM M i) j := fun j hj => ⟨⟨upd_n hj, rfl, rfl, rfl, rfl, rfl, rfl⟩, fun _ _ => ⟨rfl, rfl⟩⟩
  refine ⟨⟨o1, o2, ?_, fun j hj => ?_⟩, ⟨m1, m2, hrm, m4, fun q hq => ?_⟩, ⟨a1, a2⟩, ⟨b1, fun j hj => ?_⟩, ⟨?_, fun q hq => ?_⟩, ⟨d1, d2⟩, f1, h3, f3, f4, f5⟩
  · show sn S + bsz (sB S i) ≤ 400
    omega
  · show bsz (if j = i then stB (sB S i) 1 else sB S j) ≤ 20
    split
    · show bsz (sB S i) ≤ 20
      omega
    · exact o4 j hj
  · have hq2 : q < mn M + msz M i := hq
    show brN (mlg M) (mn M) (msz M i) (fun k => 20 * i + k) q < 2000
    by_cases hlt : q < mn M
    · rw [brN_lt hlt]; exact m5 q hlt
    · rw [show q = mn M + (q - mn M) by omega, brN_in (by omega)]; omega
  · show bRel (if j = i then stB (sB S i) 1 else sB S j) (enM M i) j
    split
    · rename_i hji
      rw [hji]
      exact ⟨upd_e.symm, h2, h3, h4, h5, h6, fun g => absurd (upd_e.symm.trans g) (by decide), fun _ => ⟨g1, g2⟩, h9, h10⟩
    · rename_i hji
      exact (b2 j hj).keep (hag j hji) (m4 j (by have : j < mnb M := hj; omega))
  · show sn S + bsz (sB S i) = mn M + msz M i
    omega
  · have hq2 : q < mn M + msz M i := hq
    by_cases hlt : q < mn M
    · have hl := c2 q hlt
      have hji : mlg M q / 20 ≠ i := fun g => absurd (g ▸ hl.2.1) (n01 h0)
      have hq3 : q < sn S := by omega
      exact hl.keep (Nat.le_refl _) (brN_lt hlt) (hag _ hji) ⟨brI_lt (g := fun _ => nI i) hq3, brI_lt hq3, brJ_lt hq3, brI_lt (g := fun _ => bvd (sB S i)) hq3, brI_lt (g := fun _ => bkd (sB S i)) hq3⟩
    · obtain ⟨k, rfl⟩ : ∃ k, q = mn M + k := ⟨q - mn M, by omega⟩
      have hk : k < msz M i := by omega
      have hk2 : k < bsz (sB S i) := by omega
      have hm : mlg (enM M i) (mn M + k) = 20 * i + k := brN_in hk
      have hd : (20 * i + k) / 20 = i := by omega
      unfold lRel
      rw [hm, hd, ← c1]
      exact ⟨hi, upd_e, brI_in (g := fun _ => nI i) hk2, (brI_in hk2).trans (g2 k hk).1, (brJ_in hk2).trans (g2 k hk).2, (brI_in (g := fun _ => bvd (sB S i)) hk2).trans h2, (brI_in (g := fun _ => bkd (sB S i)) hk2).trans h3⟩
/-! a new batch -/
theorem Inv.add {S : aS} {M M' : aM} {b : aB} (h : Inv S M) (hlt : mnb M < 100) (e1 : M'.1.2 = (mna M, mnb M + 1, mn M)) (e2 : M'.2.1 = M.2.1) (e3 : mko M' = mko M) (e4 : mlg M' = mlg M) (e5 : M'.2.2.2.2 = M.2.2.2.2) (ha : ∀ j, j < mnb M → agI M M' j) (hb : bRel b M' (mnb M)) (hz : bsz b ≤ 20) (hz2 : ∀ j, j < 100 → msz M' j ≤ 20) : Inv (adB S b) M' := by
  obtain ⟨⟨o1, o2, o3, o4⟩, ⟨m1, m2, m3, m4, m5⟩, ⟨a1, a2⟩, ⟨b1, b2⟩, ⟨c1, c2⟩, ⟨d1, d2⟩, ⟨f1, f2, f3, f4, f5⟩⟩ := h
  have n1 : mna M' = mna M := congrArg (fun x => x.1) e1
  have n2 : mnb M' = mnb M + 1 := congrArg (fun x => x.2.1) e1
  have n3 : mn M' = mn M := congrArg (fun x => x.2.2) e1
  have p1 : mfp M' = mfp M := congrArg (fun x => x.1) e5
  have p2 : mfq M' = mfq M := congrArg (fun x => x.2) e5
  refine ⟨⟨o1, ?_, o3, fun j hj => ?_⟩, ⟨by omega, by omega, by omega, hz2, fun q hq => by rw [e4]; exact m5 q (by omega)⟩, ⟨a1.trans n1.symm, fun j hj => by rw [n1] at hj; rw [e3]; exact a2 j hj⟩, ⟨?_, fun j hj => ?_⟩, ⟨c1.trans n3.symm, fun q hq => ?_⟩, ⟨d1.trans p1.symm, d2.trans p2.symm⟩, f1.trans (congrArg (fun x => x.1) e2).symm, f2.trans (congrArg (fun x => x.2.1) e2).symm, f3.trans (congrArg (fun x => x.2.2.1) e2).symm, f4.trans (congrArg (fun x => x.2.2.2.1) e2).symm, f5.trans (congrArg (fun x => x.2.2.2.2) e2).symm⟩
  · show snb S + 1 ≤ 100
    omega
  · show bsz (if j = snb S then b else sB S j) ≤ 20
    split
    · exact hz
    · exact o4 j (by have : j < snb S + 1 := hj; omega)
  · show snb S + 1 = mnb M'
    omega
  · rw [n2] at hj
    show bRel (if j = snb S then b else sB S j) M' j
    split
    · rename_i hji; rw [hji, b1]; exact hb
    · rename_i hji
      exact (b2 j (by omega)).keep (ha j (by omega)) (m4 j (by omega))
  · rw [n3] at hq
    have hl := c2 q hq
    exact hl.keep (by omega) (by rw [e4]) (ha _ hl.1) ⟨rfl, rfl, rfl, rfl, rfl⟩
theorem Inv.ba {S : aS} {M : aM} (h : Inv S M) (hlt : mnb M < 100) (x1 x2 : Int32) : Inv (adB S (nwB x1 x2 (-1))) (baM M x1 x2) := by
  refine h.add hlt rfl rfl rfl rfl rfl (fun j hj => ?_) ⟨upd_e.symm, upd_e.symm, upd_e.symm, upd_e.symm, upd_e.symm, upd_e.symm, fun _ => rfl, fun _ => ⟨?_, fun k hk => ?_⟩, Or.inl upd_e, Or.inl upd_e⟩ (Nat.zero_le _) (fun j hj => ?_)
  · have hne : j ≠ mnb M := by omega
    exact ⟨⟨upd_n hne, upd_n hne, upd_n hne, upd_n hne, upd_n hne, upd_n hne, setN_ne hne⟩, fun _ _ => ⟨rfl, rfl⟩⟩
  · exact setN_eq.symm
  · have : k < setN (msz M) (mnb M) 0 (mnb M) := hk
    rw [setN_eq] at this
    omega
  · show setN (msz M) (mnb M) 0 j ≤ 20
    simp only [setN]
    split
    · omega
    · exact h.2.1.2.2.2.1 j hj
