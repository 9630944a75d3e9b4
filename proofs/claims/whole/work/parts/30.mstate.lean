/-! the reference's state -/
abbrev oMo (a : Nat → Nat) (t na nb n cd lk wr nm fl : Int32) : va_E := .inr (4, [.int t, .int na, .int nb, .int n, .int cd, .int lk, .int wr, .int nm, .int fl, .ref (a 1), .ref (a 2), .ref (a 3), .ref (a 4), .ref (a 5), .ref (a 6), .ref (a 7), .ref (a 8), .ref (a 9), .ref (a 10), .ref (a 11), .ref (a 12), .ref (a 13)])
/-- thrown, accounts, batches, rows; closed, latest, wrong, named, failures; kinds, states, valid, known, reverses, reversed by, to fail, sizes; rows' accounts and cents, ledger; parts and costs -/
abbrev aM : Type := (Int32 × Nat × Nat × Nat) × (Int32 × Int32 × Int32 × Int32 × Int32) × ((Nat → Int32) × (Nat → Int32) × (Nat → Int32) × (Nat → Int32) × (Nat → Int32) × (Nat → Int32) × (Nat → Int32) × (Nat → Nat)) × ((Nat → Int32) × (Nat → Int64) × (Nat → Nat)) × ((Nat → Int32) × (Nat → Int32))
abbrev mth (M : aM) : Int32 := M.1.1
abbrev mna (M : aM) : Nat := M.1.2.1
abbrev mnb (M : aM) : Nat := M.1.2.2.1
abbrev mn (M : aM) : Nat := M.1.2.2.2
abbrev mcd (M : aM) : Int32 := M.2.1.1
abbrev mlk (M : aM) : Int32 := M.2.1.2.1
abbrev mwr (M : aM) : Int32 := M.2.1.2.2.1
abbrev mnm (M : aM) : Int32 := M.2.1.2.2.2.1
abbrev mfl (M : aM) : Int32 := M.2.1.2.2.2.2
abbrev mko (M : aM) : Nat → Int32 := M.2.2.1.1
abbrev mso (M : aM) : Nat → Int32 := M.2.2.1.2.1
abbrev mvo (M : aM) : Nat → Int32 := M.2.2.1.2.2.1
abbrev mkn (M : aM) : Nat → Int32 := M.2.2.1.2.2.2.1
abbrev mrv (M : aM) : Nat → Int32 := M.2.2.1.2.2.2.2.1
abbrev mrb (M : aM) : Nat → Int32 := M.2.2.1.2.2.2.2.2.1
abbrev mtf (M : aM) : Nat → Int32 := M.2.2.1.2.2.2.2.2.2.1
abbrev msz (M : aM) : Nat → Nat := M.2.2.1.2.2.2.2.2.2.2
abbrev mra (M : aM) : Nat → Int32 := M.2.2.2.1.1
abbrev mrc (M : aM) : Nat → Int64 := M.2.2.2.1.2.1
abbrev mlg (M : aM) : Nat → Nat := M.2.2.2.1.2.2
abbrev mfp (M : aM) : Nat → Int32 := M.2.2.2.2.1
abbrev mfq (M : aM) : Nat → Int32 := M.2.2.2.2.2
/-- the reference's cells hold M -/
def zMm (O : zO) (G : zG) (am : Nat → Nat) (M : aM) : Prop :=
  (∀ i j, i < 14 → j < 14 → am i = am j → i = j) ∧ G (am 0) = some (oMo am (mth M) (nI (mna M)) (nI (mnb M)) (nI (mn M)) (mcd M) (mlk M) (mwr M) (mnm M) (mfl M)) ∧
  G (am 1) = some (zI O 12 (mko M)) ∧ G (am 2) = some (zI O 100 (mso M)) ∧ G (am 3) = some (zI O 100 (mvo M)) ∧ G (am 4) = some (zI O 100 (mkn M)) ∧ G (am 5) = some (zI O 100 (mrv M)) ∧ G (am 6) = some (zI O 100 (mrb M)) ∧ G (am 7) = some (zB O 100 (mtf M)) ∧ G (am 8) = some (zI O 100 (fun i => nI (msz M i))) ∧
  G (am 9) = some (zI O 2000 (mra M)) ∧ G (am 10) = some (zJ O 2000 (mrc M)) ∧ G (am 11) = some (zI O 400 (fun i => nI (mlg M i))) ∧ G (am 12) = some (zI O 24 (mfp M)) ∧ G (am 13) = some (zI O 6 (mfq M))
theorem zMm.ne {O : zO} {G : zG} {am : Nat → Nat} {M : aM} (h : zMm O G am M) {i j : Nat} (hi : i < 14) (hj : j < 14) (hij : i ≠ j) : am i ≠ am j := fun q => hij (h.1 i j hi hj q)
def mOk (M : aM) : Prop := mna M ≤ 12 ∧ mnb M ≤ 100 ∧ mn M ≤ 400 ∧ (∀ i, i < 100 → msz M i ≤ 20) ∧ ∀ i, i < mn M → mlg M i < 2000
def thM (M : aM) (t : Int32) : aM := ((t, M.1.2), M.2)
/-- the reference's cells hold M' now, and nothing else has changed -/
def zMt (O : zO) (G G' : zG) (am : Nat → Nat) (M' : aM) : Prop := zMm O G' am M' ∧ ∀ q, (∀ i, i < 14 → q ≠ am i) → G' q = G q
theorem zMm.ro {O : zO} {G : zG} {am : Nat → Nat} {M M' : aM} (h : zMm O G am M) (e : M'.2.2 = M.2.2) : zMm O (zu G (am 0) (oMo am (mth M') (nI (mna M')) (nI (mnb M')) (nI (mn M')) (mcd M') (mlk M') (mwr M') (mnm M') (mfl M'))) am M' := by
  obtain ⟨hi, h0, h1, h2, h3, h4, h5, h6, h7, h8, h9, h10, h11, h12, h13⟩ := id h
  obtain ⟨A, B, C⟩ := M
  obtain ⟨A', B', C'⟩ := M'
  dsimp only at e
  subst e
  exact ⟨hi, zu_s, (zu_n (h.ne (by omega) (by omega) (by omega))).trans h1, (zu_n (h.ne (by omega) (by omega) (by omega))).trans h2, (zu_n (h.ne (by omega) (by omega) (by omega))).trans h3, (zu_n (h.ne (by omega) (by omega) (by omega))).trans h4, (zu_n (h.ne (by omega) (by omega) (by omega))).trans h5, (zu_n (h.ne (by omega) (by omega) (by omega))).trans h6, (zu_n (h.ne (by omega) (by omega) (by omega))).trans h7, (zu_n (h.ne (by omega) (by omega) (by omega))).trans h8, (zu_n (h.ne (by omega) (by omega) (by omega))).trans h9, (zu_n (h.ne (by omega) (by omega) (by omega))).trans h10, (zu_n (h.ne (by omega) (by omega) (by omega))).trans h11, (zu_n (h.ne (by omega) (by omega) (by omega))).trans h12, (zu_n (h.ne (by omega) (by omega) (by omega))).trans h13⟩
theorem zMm.th {O : zO} {G : zG} {am : Nat → Nat} {M : aM} (h : zMm O G am M) (t : Int32) : zMm O (zu G (am 0) (oMo am t (nI (mna M)) (nI (mnb M)) (nI (mn M)) (mcd M) (mlk M) (mwr M) (mnm M) (mfl M))) am (thM M t) := h.ro (M' := thM M t) rfl
def setN (f : Nat → Nat) (b v : Nat) : Nat → Nat := fun i => if i = b then v else f i
theorem updN (f : Nat → Nat) (b v : Nat) : upd (fun i => nI (f i)) b (nI v) = fun i => nI (setN f b v i) := by
  funext i
  simp only [upd, setN]
  by_cases h : i = b <;> simp [h]
theorem zI_N {O : zO} {G : zG} {a n b v : Nat} {f : Nat → Nat} (h : G a = some (zI O n (upd (fun i => nI (f i)) b (nI v)))) : G a = some (zI O n (fun i => nI (setN f b v i))) := by rw [h, updN]
def inB (v a b : Int64) : Bool := !(decide (v < a)) && !(decide (b < v))
theorem l64_lt (x y : Int32) : x.toInt64 < y.toInt64 ↔ x < y := by rw [Int64.lt_iff_toInt_lt, Int32.lt_iff_toInt_lt, Int32.toInt_toInt64, Int32.toInt_toInt64]
theorem inB_32 (x a b : Int32) : inB x.toInt64 a.toInt64 b.toInt64 = (!(decide (x < a)) && !(decide (b < x))) := by
  simp only [inB, l64_lt]
theorem inB_day (x : Int32) : inB x.toInt64 0 100000 = isDayB x := inB_32 x 0 100000
theorem lt_le1 {x : Int32} {n : Nat} (hn : n + 1 < 2 ^ 31) : (nI n < x) ↔ (nI (n + 1) ≤ x) := by
  rw [Int32.lt_iff_toInt_lt, Int32.le_iff_toInt_le, nI_toInt (by omega), nI_toInt (by omega)]
  omega
theorem inB_kind (x : Int32) : inB x.toInt64 0 5 = isKindB x := by
  have h := inB_32 x 0 5
  rw [show (inB x.toInt64 0 5) = inB x.toInt64 (0 : Int32).toInt64 (5 : Int32).toInt64 from rfl, h, isKindB]
  have := lt_le1 (x := x) (n := 5) (by omega)
  rw [show (nI 5) = 5 from rfl, show (nI (5 + 1)) = 6 from rfl] at this
  simp only [this]
