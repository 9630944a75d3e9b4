/-! the state of the class: what its cells hold -/
/-- a batch: valid, known, reverses, size, state, reversed by, told to fail, accounts, cents -/
abbrev aB : Type := Int32 × Int32 × Int32 × Nat × Int32 × Int32 × Int32 × (Nat → Int32) × (Nat → Int64)
abbrev bvd (b : aB) : Int32 := b.1
abbrev bkd (b : aB) : Int32 := b.2.1
abbrev brv (b : aB) : Int32 := b.2.2.1
abbrev bsz (b : aB) : Nat := b.2.2.2.1
abbrev bst (b : aB) : Int32 := b.2.2.2.2.1
abbrev brb (b : aB) : Int32 := b.2.2.2.2.2.1
abbrev btf (b : aB) : Int32 := b.2.2.2.2.2.2.1
abbrev bfa (b : aB) : Nat → Int32 := b.2.2.2.2.2.2.2.1
abbrev bfc (b : aB) : Nat → Int64 := b.2.2.2.2.2.2.2.2
/-- the ledger's rows: how many; batch, account, cents, valid, known -/
abbrev aL : Type := Nat × (Nat → Int32) × (Nat → Int32) × (Nat → Int64) × (Nat → Int32) × (Nat → Int32)
/-- accounts and kinds; batches; the ledger; parts and costs; closed, latest, wrong, named, failures -/
abbrev aS : Type := (Nat × (Nat → Int32)) × (Nat × (Nat → aB)) × aL × ((Nat → Int32) × (Nat → Int32)) × (Int32 × Int32 × Int32 × Int32 × Int32)
abbrev sna (S : aS) : Nat := S.1.1
abbrev skd (S : aS) : Nat → Int32 := S.1.2
abbrev snb (S : aS) : Nat := S.2.1.1
abbrev sB (S : aS) : Nat → aB := S.2.1.2
abbrev sL (S : aS) : aL := S.2.2.1
abbrev sn (S : aS) : Nat := S.2.2.1.1
abbrev sfp (S : aS) : Nat → Int32 := S.2.2.2.1.1
abbrev sfq (S : aS) : Nat → Int32 := S.2.2.2.1.2
abbrev scd (S : aS) : Int32 := S.2.2.2.2.1
abbrev slk (S : aS) : Int32 := S.2.2.2.2.2.1
abbrev swr (S : aS) : Int32 := S.2.2.2.2.2.2.1
abbrev snm (S : aS) : Int32 := S.2.2.2.2.2.2.2.1
abbrev sfl (S : aS) : Int32 := S.2.2.2.2.2.2.2.2
/-- a batch's three cells -/
def zBat (O : zO) (G : zG) (x y z : Nat) (b : aB) : Prop := G x = some (oBa (bvd b) (bkd b) (brv b) y z (nI (bsz b)) (bst b) (brb b) (btf b)) ∧ G y = some (zI O 20 (bfa b)) ∧ G z = some (zJ O 20 (bfc b))
/-- bounds -/
def aOk (S : aS) : Prop := sna S ≤ 12 ∧ snb S ≤ 100 ∧ sn S ≤ 400 ∧ ∀ i, i < snb S → bsz (sB S i) ≤ 20
/-- the class's cells hold S: root, kinds, batches, book, shares at ad 0 .. ad 4, the book's arrays at ad 5 .. ad 9, parts and costs at ad 10, ad 11; the batch i at ad (12 + 3 i) and behind it; b: what the array of batches holds -/
def zRep (O : zO) (G : zG) (ad : Nat → Nat) (S : aS) : Prop :=
  (∀ i j, i < 12 + 3 * snb S → j < 12 + 3 * snb S → ad i = ad j → i = j) ∧
  G (ad 0) = some (oDu (ad 1) (ad 2) (ad 3) (ad 4) (nI (sna S)) (nI (snb S)) (scd S) (slk S) (swr S) (snm S) (sfl S)) ∧
  G (ad 1) = some (zI O 12 (skd S)) ∧
  (∃ fb : Nat → Option Nat, G (ad 2) = some (zQ O 3 100 fb) ∧ ∀ i, i < snb S → fb i = some (ad (12 + 3 * i))) ∧
  zBk O G (ad 3) (ad 5) (ad 6) (ad 7) (ad 8) (ad 9) (sn S) 0 (sL S).2.1 (sL S).2.2.1 (sL S).2.2.2.1 (sL S).2.2.2.2.1 (sL S).2.2.2.2.2 ∧
  (G (ad 4) = some (oSh (ad 10) (ad 11)) ∧ G (ad 10) = some (zI O 24 (sfp S)) ∧ G (ad 11) = some (zI O 6 (sfq S))) ∧
  ∀ i, i < snb S → zBat O G (ad (12 + 3 * i)) (ad (13 + 3 * i)) (ad (14 + 3 * i)) (sB S i)
theorem zRep.ne {O : zO} {G : zG} {ad : Nat → Nat} {S : aS} (h : zRep O G ad S) {i j : Nat} (hi : i < 12 + 3 * snb S) (hj : j < 12 + 3 * snb S) (hij : i ≠ j) : ad i ≠ ad j := fun q => hij (h.1 i j hi hj q)
theorem isAccB_nI {j n : Nat} (hj : j < n) (hn : n < 2 ^ 31) : isAccB (nI j) (nI n) = true := by
  simp [isAccB, nI_pos (show j < 2 ^ 31 by omega), nI_ge hj hn]
theorem isAccB_of {x : Int32} {n : Nat} (hn : n < 2 ^ 31) (h : isAccB x (nI n) = true) : ∃ j : Nat, j < n ∧ x = nI j := by
  rcases pk_ix x hn with h1 | h1 | h1
  · simp [isAccB, h1] at h
  · simp [isAccB, h1] at h
  · exact h1
