/-! the public calls, each as one step -/
def zQi (O : zO) (G : zG) (ad : Nat → Nat) (S : aS) (P : Int32 → Int64 → aS → Prop) : Option Value → zG → Prop := fun v G' => ∃ (x : Int32) (S' : aS), v = some (.int x) ∧ P 0 x.toInt64 S' ∧ zTo O G G' ad S S'
def zQl (O : zO) (G : zG) (ad : Nat → Nat) (S : aS) (P : Int32 → Int64 → aS → Prop) : Option Value → zG → Prop := fun v G' => ∃ (x : Int64) (S' : aS), v = some (.long x) ∧ P 0 x S' ∧ zTo O G G' ad S S'
def zQb (O : zO) (G : zG) (ad : Nat → Nat) (S : aS) (P : Int32 → aS → Prop) : Option Value → zG → Prop := fun v G' => ∃ (x : Int32) (S' : aS), v = some (.int x) ∧ P x S' ∧ zTo O G G' ad S S'
def zXk (O : zO) (G : zG) (ad : Nat → Nat) (S : aS) (P : Int32 → Int64 → aS → Prop) (E1 : String) : String → zG → Prop := fun E G' => ∃ (k : Int32) (S' : aS), ((E = E1 ∧ k = 1) ∨ (E = "java/lang/IllegalStateException" ∧ k = 2) ∨ (E = "java/lang/UnsupportedOperationException" ∧ k = 3)) ∧ P k 0 S' ∧ zTo O G G' ad S S'
def zMi (O : zO) (G : zG) (am : Nat → Nat) (P : Int64 → aM → Prop) : Option Value → zG → Prop := fun v G' => ∃ (x : Int32) (M' : aM), v = some (.int x) ∧ P x.toInt64 M' ∧ zMt O G G' am M'
def zMl (O : zO) (G : zG) (am : Nat → Nat) (P : Int64 → aM → Prop) : Option Value → zG → Prop := fun v G' => ∃ (x : Int64) (M' : aM), v = some (.long x) ∧ P x M' ∧ zMt O G G' am M'
def zMb (O : zO) (G : zG) (am : Nat → Nat) (P : Int32 → aM → Prop) : Option Value → zG → Prop := fun v G' => ∃ (x : Int32) (M' : aM), v = some (.int x) ∧ P x M' ∧ zMt O G G' am M'
theorem acc_split (y : Int32) {n : Nat} (hn : n ≤ 400) : isAccB y (nI n) = false ∨ ∃ i, i < n ∧ y = nI i := by
  by_cases h : isAccB y (nI n) = true
  · right
    simp only [isAccB, Bool.and_eq_true, Bool.not_eq_true', decide_eq_false_iff_not] at h
    obtain ⟨j, hj, rfl⟩ := nI_of2 (M := nI n) (n := n) (nI_toInt (by omega)) h.1 (Int32.le_of_lt (Int32.not_le.mp h.2))
    refine ⟨j, ?_, rfl⟩
    rcases Nat.lt_or_ge j n with g | g
    · exact g
    · exact absurd (nI_le g (by omega)) h.2
  · left; rwa [Bool.not_eq_true] at h
theorem kind_split (y : Int32) : isKindB y = false ∨ ∃ i, i < 6 ∧ y = nI i := acc_split y (n := 6) (by omega)
theorem rec_split (y : Int32) : isRecB y = false ∨ ∃ i, i < 4 ∧ y = nI i := acc_split y (n := 4) (by omega)
theorem eDu_account {O : zO} {l : Launch} (hk : zK O l) (G : zG) {ad : Nat → Nat} {S : aS} (hR : zRep O G ad S) (hS : aOk S) (x : Int32) : zM O l yDu_account [Cond.code yDu_account bDu_account 2 (some .int)] rmDu_account [.ref (ad 0), .int x] G 1 6 (zQi O G ad S (pAc S x)) (zXk O G ad S (pAc S x) "java/lang/IllegalArgumentException") := by
  refine (cDu_account hk G x hR hS).mono (fun v G' h => ?_) (fun E G' h => ?_)
  · obtain ⟨h1, h2, rfl, h4⟩ := h
    exact ⟨_, _, rfl, Or.inr (Or.inr ⟨h1, h2, rfl, rfl, rfl⟩), h4⟩
  · obtain ⟨rfl, ⟨h1, rfl⟩ | ⟨h1, h2, rfl⟩⟩ := h
    · exact ⟨1, S, Or.inl ⟨rfl, rfl⟩, Or.inl ⟨h1, rfl, rfl⟩, zTo.rf hR⟩
    · exact ⟨2, S, Or.inr (Or.inl ⟨rfl, rfl⟩), Or.inr (Or.inl ⟨h1, h2, rfl, rfl⟩), zTo.rf hR⟩
theorem eDu_batch {O : zO} {l : Launch} (hk : zK O l) (G : zG) {ad : Nat → Nat} {S : aS} (hR : zRep O G ad S) (hS : aOk S) (x y : Int32) : zM O l yDu_batch [Cond.code yDu_batch bDu_batch 3 (some .int)] rmDu_batch [.ref (ad 0), .int x, .int y] G 3 49 (zQi O G ad S (pBa S x y)) (zXk O G ad S (pBa S x y) "java/lang/IllegalArgumentException") := by
  refine (cDu_batch hk G x y hR hS).mono (fun v G' h => ?_) (fun E G' h => ?_)
  · obtain ⟨h1, h2, rfl, h4⟩ := h
    exact ⟨_, _, rfl, Or.inr (Or.inr ⟨h1, h2, rfl, rfl, rfl⟩), h4⟩
  · obtain ⟨rfl, ⟨h1, rfl⟩ | ⟨h1, h2, rfl⟩⟩ := h
    · exact ⟨1, S, Or.inl ⟨rfl, rfl⟩, Or.inl ⟨h1, rfl, rfl⟩, zTo.rf hR⟩
    · exact ⟨2, S, Or.inr (Or.inl ⟨rfl, rfl⟩), Or.inr (Or.inl ⟨h1, h2, rfl, rfl⟩), zTo.rf hR⟩
theorem eDu_post {O : zO} {l : Launch} (hk : zK O l) (G : zG) {ad : Nat → Nat} {S : aS} (hR : zRep O G ad S) (hS : aOk S) (y : Int32) : zM O l yDu_post [Cond.code yDu_post bDu_post 4 (some .int)] rmDu_post [.ref (ad 0), .int y] G 1 6 (zQi O G ad S (pPo S y)) (zXk O G ad S (pPo S y) "java/lang/IllegalArgumentException") := by
  rcases acc_split y (n := snb S) (by have := hS.2.1; omega) with h | ⟨i, hi, rfl⟩
  · refine (cDu_postF hk G y hR hS h).mono (fun v G' h => h.elim) (fun E G' g => ?_)
    obtain ⟨rfl, rfl⟩ := g
    exact ⟨1, S, Or.inl ⟨rfl, rfl⟩, Or.inl ⟨h, rfl, rfl⟩, zTo.rf hR⟩
  · by_cases h0 : bst (sB S i) = 0
    · refine (cDu_postT hk G i hR hS hi h0).mono (fun v G' h => ?_) (fun E G' h => ?_)
      · obtain ⟨h1, h2, rfl, h4⟩ := h
        exact ⟨_, _, rfl, Or.inr ⟨i, hi, rfl, Or.inr (Or.inr (Or.inr ⟨h0, h1, h2, rfl, rfl, rfl⟩))⟩, h4⟩
      · rcases h with ⟨h1, rfl, h3⟩ | ⟨h1, h2, rfl, h3⟩
        · exact ⟨2, _, Or.inr (Or.inl ⟨rfl, rfl⟩), Or.inr ⟨i, hi, rfl, Or.inr (Or.inl ⟨h0, h1, rfl, rfl⟩)⟩, h3⟩
        · exact ⟨3, _, Or.inr (Or.inr ⟨rfl, rfl⟩), Or.inr ⟨i, hi, rfl, Or.inr (Or.inr (Or.inl ⟨h0, h1, h2, rfl, rfl⟩))⟩, h3⟩
    · refine (cDu_postO hk G i hR hS hi h0).mono (fun v G' h => h.elim) (fun E G' g => ?_)
      obtain ⟨rfl, rfl⟩ := g
      exact ⟨1, S, Or.inl ⟨rfl, rfl⟩, Or.inr ⟨i, hi, rfl, Or.inl ⟨h0, rfl, rfl⟩⟩, zTo.rf hR⟩
theorem eDu_reverse {O : zO} {l : Launch} (hk : zK O l) (G : zG) {ad : Nat → Nat} {S : aS} (hR : zRep O G ad S) (hS : aOk S) (y kd : Int32) : zM O l yDu_reverse [Cond.code yDu_reverse bDu_reverse 6 (some .int)] rmDu_reverse [.ref (ad 0), .int y, .int kd] G 4 55 (zQi O G ad S (pRe S y kd)) (zXk O G ad S (pRe S y kd) "java/lang/IllegalArgumentException") := by
  rcases acc_split y (n := snb S) (by have := hS.2.1; omega) with h | ⟨i, hi, rfl⟩
  · refine (cDu_reverseF hk G y kd hR hS h).mono (fun v G' h => h.elim) (fun E G' g => ?_)
    obtain ⟨rfl, rfl⟩ := g
    exact ⟨1, S, Or.inl ⟨rfl, rfl⟩, Or.inl ⟨h, rfl, rfl⟩, zTo.rf hR⟩
  · by_cases h0 : bst (sB S i) = 1
    · refine (cDu_reverseT hk G i kd hR hS hi h0).mono (fun v G' h => ?_) (fun E G' h => ?_)
      · obtain ⟨h1, h2, h3, h4, h5, rfl, h6⟩ := h
        exact ⟨_, _, rfl, Or.inr ⟨i, hi, rfl, Or.inr (Or.inr (Or.inr ⟨h0, h1, ⟨h2, h3, h4, h5⟩, rfl, rfl, rfl⟩))⟩, h6⟩
      · rcases h with ⟨h1, rfl, rfl⟩ | ⟨h1, rfl, h2, h3⟩
        · exact ⟨1, _, Or.inl ⟨rfl, rfl⟩, Or.inr ⟨i, hi, rfl, Or.inr (Or.inl ⟨h0, h1, rfl, rfl⟩)⟩, zTo.rf hR⟩
        · exact ⟨2, _, Or.inr (Or.inl ⟨rfl, rfl⟩), Or.inr ⟨i, hi, rfl, Or.inr (Or.inr (Or.inl ⟨h0, h1, h2, rfl, rfl⟩))⟩, h3⟩
    · refine (cDu_reverseO hk G i kd hR hS hi h0).mono (fun v G' h => h.elim) (fun E G' g => ?_)
      obtain ⟨rfl, rfl⟩ := g
      exact ⟨1, S, Or.inl ⟨rfl, rfl⟩, Or.inr ⟨i, hi, rfl, Or.inl ⟨h0, rfl, rfl⟩⟩, zTo.rf hR⟩
theorem eDu_balance {O : zO} {l : Launch} (hk : zK O l) (G : zG) {ad : Nat → Nat} {S : aS} (hR : zRep O G ad S) (hS : aOk S) (x d k : Int32) : zM O l yDu_balance [Cond.code yDu_balance bDu_balance 4 (some .long)] rmDu_balance [.ref (ad 0), .int x, .int d, .int k] G 1 6 (zQl O G ad S (pBl S x d k)) (zXk O G ad S (pBl S x d k) "java/lang/IllegalArgumentException") := by
  refine (cDu_balance hk G x d k hR hS).mono (fun v G' h => ?_) (fun E G' h => ?_)
  · obtain ⟨h1, rfl, rfl⟩ := h
    exact ⟨_, _, rfl, Or.inl ⟨h1, rfl, rfl, rfl⟩, zTo.rf hR⟩
  · obtain ⟨h1, rfl, rfl⟩ := h
    exact ⟨1, S, Or.inl ⟨rfl, rfl⟩, Or.inr ⟨h1, rfl, rfl⟩, zTo.rf hR⟩
theorem eDu_statement {O : zO} {l : Launch} (hk : zK O l) (G : zG) {ad : Nat → Nat} {S : aS} (hR : zRep O G ad S) (hS : aOk S) (x d k : Int32) : zM O l yDu_statement [Cond.code yDu_statement bDu_statement 5 (some .long)] rmDu_statement [.ref (ad 0), .int x, .int d, .int k] G 1 6 (zQl O G ad S (pSt S x d k)) (zXk O G ad S (pSt S x d k) "java/lang/IllegalArgumentException") := by
  refine (cDu_statement hk G x d k hR hS).mono (fun v G' h => ?_) (fun E G' h => ?_)
  · obtain ⟨h1, rfl, rfl⟩ := h
    exact ⟨_, _, rfl, Or.inl ⟨h1, rfl, rfl, rfl⟩, zTo.rf hR⟩
  · obtain ⟨h1, rfl, rfl⟩ := h
    exact ⟨1, S, Or.inl ⟨rfl, rfl⟩, Or.inr ⟨h1, rfl, rfl⟩, zTo.rf hR⟩
theorem eDu_reconcile {O : zO} {l : Launch} (hk : zK O l) (G : zG) {ad : Nat → Nat} {S : aS} (hR : zRep O G ad S) (hS : aOk S) (x y d k : Int32) : zM O l yDu_reconcile [Cond.code yDu_reconcile bDu_reconcile 5 (some .long)] rmDu_reconcile [.ref (ad 0), .int x, .int y, .int d, .int k] G 1 6 (zQl O G ad S (pRc S x y d k)) (zXk O G ad S (pRc S x y d k) "java/lang/IllegalArgumentException") := by
  refine (cDu_reconcile hk G x y d k hR hS).mono (fun v G' h => ?_) (fun E G' h => ?_)
  · obtain ⟨h1, rfl, rfl⟩ := h
    exact ⟨_, _, rfl, Or.inl ⟨h1, rfl, rfl, rfl⟩, zTo.rf hR⟩
  · obtain ⟨h1, rfl, rfl⟩ := h
    exact ⟨1, S, Or.inl ⟨rfl, rfl⟩, Or.inr ⟨h1, rfl, rfl⟩, zTo.rf hR⟩
theorem eDu_passed {O : zO} {l : Launch} (hk : zK O l) (G : zG) {ad : Nat → Nat} {S : aS} (hR : zRep O G ad S) (hS : aOk S) (y w d : Int32) : zM O l yDu_passed [Cond.code yDu_passed bDu_passed 8 (some .long)] rmDu_passed [.ref (ad 0), .int y, .int w, .int d] G 1 6 (zQl O G ad S (pPa S y w d)) (zXk O G ad S (pPa S y w d) "java/lang/IllegalArgumentException") := by
  rcases kind_split y with h | ⟨i, hi, rfl⟩
  · refine (cDu_passedF hk G y w d h hR hS).mono (fun v G' h => h.elim) (fun E G' g => ?_)
    obtain ⟨rfl, rfl⟩ := g
    exact ⟨1, S, Or.inl ⟨rfl, rfl⟩, Or.inl ⟨h, rfl, rfl⟩, zTo.rf hR⟩
  · refine (cDu_passedT hk G i w d hi hR hS).mono (fun v G' h => ?_) (fun E G' h => ?_)
    · obtain ⟨h1, rfl, rfl⟩ := h
      exact ⟨_, _, rfl, Or.inr ⟨i, hi, rfl, Or.inl ⟨h1, rfl, rfl, rfl⟩⟩, zTo.rf hR⟩
    · obtain ⟨h1, rfl, rfl⟩ := h
      exact ⟨1, S, Or.inl ⟨rfl, rfl⟩, Or.inr ⟨i, hi, rfl, Or.inr ⟨h1, rfl, rfl⟩⟩, zTo.rf hR⟩
theorem eDu_read {O : zO} {l : Launch} (hk : zK O l) (G : zG) {ad : Nat → Nat} {S : aS} (hR : zRep O G ad S) (hS : aOk S) (y w : Int32) : zM O l yDu_read [Cond.code yDu_read bDu_read 3 (some .long)] rmDu_read [.ref (ad 0), .int y, .int w] G 1 6 (zQl O G ad S (pRd S y w)) (zXk O G ad S (pRd S y w) "java/lang/IndexOutOfBoundsException") := by
  rcases acc_split y (n := sn S) hS.2.2.1 with h | ⟨i, hi, rfl⟩
  · refine (cDu_readF hk G y w hR hS h).mono (fun v G' g => absurd g.1 (by decide)) (fun E G' g => ?_)
    obtain ⟨-, rfl, rfl⟩ := g
    exact ⟨1, S, Or.inl ⟨rfl, rfl⟩, Or.inl ⟨h, rfl, rfl⟩, zTo.rf hR⟩
  · refine (cDu_readT hk G i w hR hS hi).mono (fun v G' h => ?_) (fun E G' h => ?_)
    · obtain ⟨h1, rfl, rfl⟩ := h
      exact ⟨_, _, rfl, Or.inr ⟨i, hi, rfl, Or.inl ⟨h1, rfl, rfl, rfl⟩⟩, zTo.rf hR⟩
    · obtain ⟨h1, rfl, rfl⟩ := h
      exact ⟨1, S, Or.inl ⟨rfl, rfl⟩, Or.inr ⟨i, hi, rfl, Or.inr ⟨h1, rfl, rfl⟩⟩, zTo.rf hR⟩
theorem eDu_look {O : zO} {l : Launch} (hk : zK O l) (G : zG) {ad : Nat → Nat} {S : aS} (hR : zRep O G ad S) (hS : aOk S) (y w : Int32) : zM O l yDu_look [Cond.code yDu_look bDu_look 4 (some .int)] rmDu_look [.ref (ad 0), .int y, .int w] G 1 6 (zQi O G ad S (pLo S y w)) (zXk O G ad S (pLo S y w) "java/lang/IndexOutOfBoundsException") := by
  rcases acc_split y (n := snb S) (by have := hS.2.1; omega) with h | ⟨i, hi, rfl⟩
  · refine (cDu_lookF hk G y w hR hS h).mono (fun v G' g => absurd g.1 (by decide)) (fun E G' g => ?_)
    obtain ⟨-, rfl, rfl⟩ := g
    exact ⟨1, S, Or.inl ⟨rfl, rfl⟩, Or.inl ⟨h, rfl, rfl⟩, zTo.rf hR⟩
  · refine (cDu_lookT hk G i w hR hS hi).mono (fun v G' h => ?_) (fun E G' h => ?_)
    · obtain ⟨h1, rfl, rfl⟩ := h
      exact ⟨_, _, rfl, Or.inr ⟨i, hi, rfl, Or.inl ⟨h1, rfl, rfl, rfl⟩⟩, zTo.rf hR⟩
    · obtain ⟨h1, rfl, rfl⟩ := h
      exact ⟨1, S, Or.inl ⟨rfl, rfl⟩, Or.inr ⟨i, hi, rfl, Or.inr ⟨h1, rfl, rfl⟩⟩, zTo.rf hR⟩
theorem eDu_row {O : zO} {l : Launch} (hk : zK O l) (G : zG) {ad : Nat → Nat} {S : aS} (hR : zRep O G ad S) (hS : aOk S) (y x : Int32) (z : Int64) : zM O l yDu_row [Cond.code yDu_row bDu_row 6 (some .boolean)] rmDu_row [.ref (ad 0), .int y, .int x, .long z] G 0 0 (zQb O G ad S (sRo S y x z)) zNo := by
  rcases acc_split y (n := snb S) (by have := hS.2.1; omega) with h | ⟨i, hi, rfl⟩
  · refine (cDu_rowF hk G y x z hR hS h).mono (fun v G' g => ?_) (fun E G' g => g)
    obtain ⟨rfl, rfl⟩ := g
    exact ⟨0, S, rfl, Or.inl ⟨h, rfl, rfl⟩, zTo.rf hR⟩
  · by_cases h0 : bst (sB S i) = 0
    · have hz := hS.2.2.2 i hi
      by_cases h20 : bsz (sB S i) = 20
      · refine (cDu_rowU hk G i x z hR hS hi h0 h20).mono (fun v G' g => ?_) (fun E G' g => g)
        obtain ⟨rfl, rfl⟩ := g
        exact ⟨0, S, rfl, Or.inr ⟨i, hi, rfl, Or.inr ⟨Or.inr (Or.inl ⟨h0, h20⟩), rfl, rfl⟩⟩, zTo.rf hR⟩
      · have hlt : bsz (sB S i) < 20 := by omega
        refine (cDu_rowT hk G i x z hR hS hi h0 hlt).mono (fun v G' g => ?_) (fun E G' g => g)
        rcases g with ⟨rfl, g1, rfl⟩ | ⟨rfl, g1, g2⟩
        · exact ⟨0, S, rfl, Or.inr ⟨i, hi, rfl, Or.inr ⟨Or.inr (Or.inr g1), rfl, rfl⟩⟩, zTo.rf hR⟩
        · exact ⟨1, _, rfl, Or.inr ⟨i, hi, rfl, Or.inl ⟨h0, hlt, g1, rfl, rfl⟩⟩, g2⟩
    · refine (cDu_rowO hk G i x z hR hS hi h0).mono (fun v G' g => ?_) (fun E G' g => g)
      obtain ⟨rfl, rfl⟩ := g
      exact ⟨0, S, rfl, Or.inr ⟨i, hi, rfl, Or.inr ⟨Or.inl h0, rfl, rfl⟩⟩, zTo.rf hR⟩
theorem eDu_fails {O : zO} {l : Launch} (hk : zK O l) (G : zG) {ad : Nat → Nat} {S : aS} (hR : zRep O G ad S) (hS : aOk S) (y x : Int32) (hx : narrow .boolean (.int x) = .int x) (hx2 : fits .boolean (.int x) = true) : zM O l yDu_fails [Cond.code yDu_fails bDu_fails 4 (some .boolean)] rmDu_fails [.ref (ad 0), .int y, .int x] G 0 0 (zQb O G ad S (sFl S y x)) zNo := by
  rcases acc_split y (n := snb S) (by have := hS.2.1; omega) with h | ⟨i, hi, rfl⟩
  · refine (cDu_failsF hk G y x hR hS h).mono (fun v G' g => ?_) (fun E G' g => g)
    obtain ⟨rfl, rfl⟩ := g
    exact ⟨0, S, rfl, Or.inl ⟨h, rfl, rfl⟩, zTo.rf hR⟩
  · by_cases h0 : bst (sB S i) = 0
    · refine (cDu_failsT hk G i x hR hS hi h0 hx hx2).mono (fun v G' g => ?_) (fun E G' g => g)
      obtain ⟨rfl, g2⟩ := g
      exact ⟨1, _, rfl, Or.inr ⟨i, hi, rfl, Or.inr ⟨h0, rfl, rfl⟩⟩, g2⟩
    · refine (cDu_failsO hk G i x hR hS hi h0).mono (fun v G' g => ?_) (fun E G' g => g)
      obtain ⟨rfl, rfl⟩ := g
      exact ⟨0, S, rfl, Or.inr ⟨i, hi, rfl, Or.inl ⟨h0, rfl, rfl⟩⟩, zTo.rf hR⟩
theorem eDu_close {O : zO} {l : Launch} (hk : zK O l) (G : zG) {ad : Nat → Nat} {S : aS} (hR : zRep O G ad S) (hS : aOk S) (x : Int32) : zM O l yDu_close [Cond.code yDu_close bDu_close 2 (some .boolean)] rmDu_close [.ref (ad 0), .int x] G 0 0 (zQb O G ad S (sCl S x)) zNo := by
  refine (cDu_close hk G x hR hS).mono (fun v G' g => ?_) (fun E G' g => g)
  obtain ⟨rfl, ⟨g1, rfl⟩ | ⟨g1, g2⟩⟩ := g
  · rw [g1]; exact ⟨0, S, rfl, Or.inl ⟨g1, rfl, rfl⟩, zTo.rf hR⟩
  · rw [g1]; exact ⟨1, _, rfl, Or.inr ⟨g1, rfl, rfl⟩, g2⟩
theorem eDu_part {O : zO} {l : Launch} (hk : zK O l) (G : zG) {ad : Nat → Nat} {S : aS} (hR : zRep O G ad S) (hS : aOk S) (y z x : Int32) : zM O l yDu_part [Cond.code yDu_part bDu_part 4 (some .boolean)] rmDu_part [.ref (ad 0), .int y, .int z, .int x] G 0 0 (zQb O G ad S (sPt S y z x)) zNo := by
  by_cases h : (isKindB y && isRecB z) = false
  · refine (cDu_partF hk G y z x h hR hS).mono (fun v G' g => ?_) (fun E G' g => g)
    obtain ⟨rfl, rfl⟩ := g
    exact ⟨0, S, rfl, Or.inl ⟨h, rfl, rfl⟩, zTo.rf hR⟩
  · rcases kind_split y with g | ⟨k, hk6, rfl⟩
    · rw [g] at h; exact absurd rfl h
    · rcases rec_split z with g | ⟨r, hr4, rfl⟩
      · rw [g, Bool.and_false] at h; exact absurd rfl h
      · refine (cDu_partT hk G k r x hk6 hr4 hR hS).mono (fun v G' g => ?_) (fun E G' g => g)
        obtain ⟨rfl, ⟨g1, rfl⟩ | ⟨g1, g2⟩⟩ := g
        · rw [g1]; exact ⟨0, S, rfl, Or.inr ⟨k, r, hk6, hr4, rfl, rfl, Or.inl ⟨g1, rfl, rfl⟩⟩, zTo.rf hR⟩
        · rw [g1]; exact ⟨1, _, rfl, Or.inr ⟨k, r, hk6, hr4, rfl, rfl, Or.inr ⟨g1, rfl, rfl⟩⟩, g2⟩
theorem eDu_cost {O : zO} {l : Launch} (hk : zK O l) (G : zG) {ad : Nat → Nat} {S : aS} (hR : zRep O G ad S) (hS : aOk S) (y x : Int32) : zM O l yDu_cost [Cond.code yDu_cost bDu_cost 3 (some .boolean)] rmDu_cost [.ref (ad 0), .int y, .int x] G 0 0 (zQb O G ad S (sCs S y x)) zNo := by
  rcases kind_split y with h | ⟨k, hk6, rfl⟩
  · refine (cDu_costF hk G y x h hR hS).mono (fun v G' g => ?_) (fun E G' g => g)
    obtain ⟨rfl, rfl⟩ := g
    exact ⟨0, S, rfl, Or.inl ⟨h, rfl, rfl⟩, zTo.rf hR⟩
  · refine (cDu_costT hk G k x hk6 hR hS).mono (fun v G' g => ?_) (fun E G' g => g)
    obtain ⟨rfl, ⟨g1, rfl⟩ | ⟨g1, g2⟩⟩ := g
    · rw [g1]; exact ⟨0, S, rfl, Or.inr ⟨k, hk6, rfl, Or.inl ⟨g1, rfl, rfl⟩⟩, zTo.rf hR⟩
    · rw [g1]; exact ⟨1, _, rfl, Or.inr ⟨k, hk6, rfl, Or.inr ⟨g1, rfl, rfl⟩⟩, g2⟩
theorem eMo_account {O : zO} {l : Launch} (hk : zK O l) (G : zG) {am : Nat → Nat} {M : aM} (hM : zMm O G am M) (hO : mOk M) (x : Int32) : zM O l yMo_account [Cond.code yMo_account bMo_account 2 (some .int)] rmMo_account [.ref (am 0), .int x] G 0 0 (zMi O G am (mAc M x)) zNo := by
  refine (cMo_account hk G x hM hO).mono (fun v G' g => ?_) (fun E G' g => g)
  rcases g with ⟨g1, rfl, g2⟩ | ⟨g1, g3, rfl, g2⟩ | ⟨g1, g3, rfl, g2⟩
  · exact ⟨0, _, rfl, Or.inl ⟨g1, rfl, rfl⟩, g2⟩
  · exact ⟨0, _, rfl, Or.inr (Or.inl ⟨g1, g3, rfl, rfl⟩), g2⟩
  · exact ⟨_, _, rfl, Or.inr (Or.inr ⟨g1, g3, rfl, rfl⟩), g2⟩
theorem eMo_batch {O : zO} {l : Launch} (hk : zK O l) (G : zG) {am : Nat → Nat} {M : aM} (hM : zMm O G am M) (hO : mOk M) (x y : Int32) : zM O l yMo_batch [Cond.code yMo_batch bMo_batch 3 (some .int)] rmMo_batch [.ref (am 0), .int x, .int y] G 0 0 (zMi O G am (mBa M x y)) zNo := by
  refine (cMo_batch hk G x y hM hO).mono (fun v G' g => ?_) (fun E G' g => g)
  rcases g with ⟨g1, rfl, g2⟩ | ⟨g1, g3, rfl, g2⟩ | ⟨g1, g3, rfl, g2⟩
  · exact ⟨0, _, rfl, Or.inl ⟨g1, rfl, rfl⟩, g2⟩
  · exact ⟨0, _, rfl, Or.inr (Or.inl ⟨g1, g3, rfl, rfl⟩), g2⟩
  · exact ⟨_, _, rfl, Or.inr (Or.inr ⟨g1, g3, rfl, rfl⟩), g2⟩
theorem eMo_post {O : zO} {l : Launch} (hk : zK O l) (G : zG) {am : Nat → Nat} {M : aM} (hM : zMm O G am M) (hO : mOk M) (y : Int32) : zM O l yMo_post [Cond.code yMo_post bMo_post 3 (some .int)] rmMo_post [.ref (am 0), .int y] G 0 0 (zMi O G am (mPo M y)) zNo := by
  rcases acc_split y (n := mnb M) (by have := hO.2.1; omega) with h | ⟨i, hi, rfl⟩
  · refine (cMo_postF hk G y hM hO h).mono (fun v G' g => ?_) (fun E G' g => g)
    obtain ⟨rfl, g2⟩ := g
    exact ⟨0, _, rfl, Or.inl ⟨h, rfl, rfl⟩, g2⟩
  · refine (cMo_postT hk G i hM hO hi).mono (fun v G' g => ?_) (fun E G' g => g)
    rcases g with ⟨g1, rfl, g2⟩ | ⟨g1, g3, rfl, g2⟩ | ⟨g1, g3, g4, rfl, g2⟩ | ⟨g1, g3, g4, rfl, g2⟩
    · exact ⟨0, _, rfl, Or.inr ⟨i, hi, rfl, Or.inl ⟨g1, rfl, rfl⟩⟩, g2⟩
    · exact ⟨0, _, rfl, Or.inr ⟨i, hi, rfl, Or.inr (Or.inl ⟨g1, g3, rfl, rfl⟩)⟩, g2⟩
    · exact ⟨0, _, rfl, Or.inr ⟨i, hi, rfl, Or.inr (Or.inr (Or.inl ⟨g1, g3, g4, rfl, rfl⟩))⟩, g2⟩
    · exact ⟨1, _, rfl, Or.inr ⟨i, hi, rfl, Or.inr (Or.inr (Or.inr ⟨g1, g3, g4, rfl, rfl⟩))⟩, g2⟩
theorem eMo_reverse {O : zO} {l : Launch} (hk : zK O l) (G : zG) {am : Nat → Nat} {M : aM} (hM : zMm O G am M) (hO : mOk M) (y kd : Int32) : zM O l yMo_reverse [Cond.code yMo_reverse bMo_reverse 6 (some .int)] rmMo_reverse [.ref (am 0), .int y, .int kd] G 0 0 (zMi O G am (mRe M y kd)) zNo := by
  rcases acc_split y (n := mnb M) (by have := hO.2.1; omega) with h | ⟨i, hi, rfl⟩
  · refine (cMo_reverseF hk G y kd hM hO h).mono (fun v G' g => ?_) (fun E G' g => g)
    obtain ⟨rfl, g2⟩ := g
    exact ⟨0, _, rfl, Or.inl ⟨h, rfl, rfl⟩, g2⟩
  · refine (cMo_reverseT hk G i kd hM hO hi).mono (fun v G' g => ?_) (fun E G' g => g)
    rcases g with ⟨g1, rfl, g2⟩ | ⟨g1, g3, rfl, g2⟩ | ⟨g1, g3, g4, rfl, g2⟩ | ⟨g1, g3, g4, rfl, g2⟩
    · exact ⟨0, _, rfl, Or.inr ⟨i, hi, rfl, Or.inl ⟨g1, rfl, rfl⟩⟩, g2⟩
    · exact ⟨0, _, rfl, Or.inr ⟨i, hi, rfl, Or.inr (Or.inl ⟨g1, g3, rfl, rfl⟩)⟩, g2⟩
    · exact ⟨0, _, rfl, Or.inr ⟨i, hi, rfl, Or.inr (Or.inr (Or.inl ⟨g1, g3, g4, rfl, rfl⟩))⟩, g2⟩
    · exact ⟨_, _, rfl, Or.inr ⟨i, hi, rfl, Or.inr (Or.inr (Or.inr ⟨g1, g3, g4, rfl, rfl⟩))⟩, g2⟩
theorem eMo_balance {O : zO} {l : Launch} (hk : zK O l) (G : zG) {am : Nat → Nat} {M : aM} (hM : zMm O G am M) (hO : mOk M) (x d k : Int32) : zM O l yMo_balance [Cond.code yMo_balance bMo_balance 4 (some .long)] rmMo_balance [.ref (am 0), .int x, .int d, .int k] G 0 0 (zMl O G am (mBl M x d k)) zNo := by
  refine (cMo_balance hk G x d k hM hO).mono (fun v G' g => ?_) (fun E G' g => g)
  rcases g with ⟨g1, rfl, g2⟩ | ⟨g1, rfl, g2⟩
  · exact ⟨0, _, rfl, Or.inl ⟨g1, rfl, rfl⟩, g2⟩
  · exact ⟨_, _, rfl, Or.inr ⟨g1, rfl, rfl⟩, g2⟩
theorem eMo_statement {O : zO} {l : Launch} (hk : zK O l) (G : zG) {am : Nat → Nat} {M : aM} (hM : zMm O G am M) (hO : mOk M) (x d k : Int32) : zM O l yMo_statement [Cond.code yMo_statement bMo_statement 4 (some .long)] rmMo_statement [.ref (am 0), .int x, .int d, .int k] G 0 0 (zMl O G am (mSt M x d k)) zNo := by
  refine (cMo_statement hk G x d k hM hO).mono (fun v G' g => ?_) (fun E G' g => g)
  rcases g with ⟨g1, rfl, g2⟩ | ⟨g1, rfl, g2⟩
  · exact ⟨0, _, rfl, Or.inl ⟨g1, rfl, rfl⟩, g2⟩
  · exact ⟨_, _, rfl, Or.inr ⟨g1, rfl, rfl⟩, g2⟩
theorem eMo_reconcile {O : zO} {l : Launch} (hk : zK O l) (G : zG) {am : Nat → Nat} {M : aM} (hM : zMm O G am M) (hO : mOk M) (x y d k : Int32) : zM O l yMo_reconcile [Cond.code yMo_reconcile bMo_reconcile 5 (some .long)] rmMo_reconcile [.ref (am 0), .int x, .int y, .int d, .int k] G 0 0 (zMl O G am (mRc M x y d k)) zNo := by
  refine (cMo_reconcile hk G x y d k hM hO).mono (fun v G' g => ?_) (fun E G' g => g)
  rcases g with ⟨g1, rfl, g2⟩ | ⟨g1, rfl, g2⟩
  · exact ⟨0, _, rfl, Or.inl ⟨g1, rfl, rfl⟩, g2⟩
  · exact ⟨_, _, rfl, Or.inr ⟨g1, rfl, rfl⟩, g2⟩
theorem eMo_passed {O : zO} {l : Launch} (hk : zK O l) (G : zG) {am : Nat → Nat} {M : aM} (hM : zMm O G am M) (hO : mOk M) (y w d : Int32) : zM O l yMo_passed [Cond.code yMo_passed bMo_passed 11 (some .long)] rmMo_passed [.ref (am 0), .int y, .int w, .int d] G 0 0 (zMl O G am (mPa M y w d)) zNo := by
  rcases kind_split y with h | ⟨i, hi, rfl⟩
  · refine (cMo_passedF hk G y w d hM hO h).mono (fun v G' g => ?_) (fun E G' g => g)
    obtain ⟨rfl, g2⟩ := g
    exact ⟨0, _, rfl, Or.inl ⟨h, rfl, rfl⟩, g2⟩
  · refine (cMo_passedT hk G i w d hM hO hi).mono (fun v G' g => ?_) (fun E G' g => g)
    rcases g with ⟨g1, rfl, g2⟩ | ⟨g1, rfl, g2⟩
    · exact ⟨0, _, rfl, Or.inr ⟨i, hi, rfl, Or.inl ⟨g1, rfl, rfl⟩⟩, g2⟩
    · exact ⟨_, _, rfl, Or.inr ⟨i, hi, rfl, Or.inr ⟨g1, rfl, rfl⟩⟩, g2⟩
theorem eMo_read {O : zO} {l : Launch} (hk : zK O l) (G : zG) {am : Nat → Nat} {M : aM} (hM : zMm O G am M) (hO : mOk M) (y w : Int32) : zM O l yMo_read [Cond.code yMo_read bMo_read 4 (some .long)] rmMo_read [.ref (am 0), .int y, .int w] G 0 0 (zMl O G am (mRd M y w)) zNo := by
  rcases acc_split y (n := mn M) hO.2.2.1 with h | ⟨i, hi, rfl⟩
  · refine (cMo_readF hk G y w hM hO h).mono (fun v G' g => ?_) (fun E G' g => g)
    obtain ⟨rfl, g2⟩ := g
    exact ⟨0, _, rfl, Or.inl ⟨h, rfl, rfl⟩, g2⟩
  · refine (cMo_readT hk G i w hM hO hi).mono (fun v G' g => ?_) (fun E G' g => g)
    rcases g with ⟨g1, rfl, g2⟩ | ⟨g1, rfl, g2⟩
    · exact ⟨0, _, rfl, Or.inr ⟨i, hi, rfl, Or.inl ⟨g1, rfl, rfl⟩⟩, g2⟩
    · exact ⟨_, _, rfl, Or.inr ⟨i, hi, rfl, Or.inr ⟨g1, rfl, rfl⟩⟩, g2⟩
theorem eMo_look {O : zO} {l : Launch} (hk : zK O l) (G : zG) {am : Nat → Nat} {M : aM} (hM : zMm O G am M) (hO : mOk M) (y w : Int32) : zM O l yMo_look [Cond.code yMo_look bMo_look 3 (some .int)] rmMo_look [.ref (am 0), .int y, .int w] G 0 0 (zMi O G am (mLo M y w)) zNo := by
  rcases acc_split y (n := mnb M) (by have := hO.2.1; omega) with h | ⟨i, hi, rfl⟩
  · refine (cMo_lookF hk G y w hM hO h).mono (fun v G' g => ?_) (fun E G' g => g)
    obtain ⟨rfl, g2⟩ := g
    exact ⟨0, _, rfl, Or.inl ⟨h, rfl, rfl⟩, g2⟩
  · refine (cMo_lookT hk G i w hM hO hi).mono (fun v G' g => ?_) (fun E G' g => g)
    rcases g with ⟨g1, rfl, g2⟩ | ⟨g1, rfl, g2⟩
    · exact ⟨0, _, rfl, Or.inr ⟨i, hi, rfl, Or.inl ⟨g1, rfl, rfl⟩⟩, g2⟩
    · exact ⟨_, _, rfl, Or.inr ⟨i, hi, rfl, Or.inr ⟨g1, rfl, rfl⟩⟩, g2⟩
theorem eMo_row {O : zO} {l : Launch} (hk : zK O l) (G : zG) {am : Nat → Nat} {M : aM} (hM : zMm O G am M) (hO : mOk M) (y x : Int32) (z : Int64) : zM O l yMo_row [Cond.code yMo_row bMo_row 5 (some .boolean)] rmMo_row [.ref (am 0), .int y, .int x, .long z] G 0 0 (zMb O G am (mRo M y x z)) zNo := by
  rcases acc_split y (n := mnb M) (by have := hO.2.1; omega) with h | ⟨i, hi, rfl⟩
  · refine (cMo_rowF hk G y x z hM hO h).mono (fun v G' g => ?_) (fun E G' g => g)
    obtain ⟨rfl, g2⟩ := g
    exact ⟨0, _, rfl, Or.inl ⟨h, rfl, rfl⟩, g2⟩
  · refine (cMo_rowT hk G i x z hM hO hi).mono (fun v G' g => ?_) (fun E G' g => g)
    rcases g with ⟨g1, rfl, g2⟩ | ⟨g1, rfl, g2⟩
    · exact ⟨0, _, rfl, Or.inr ⟨i, hi, rfl, Or.inl ⟨g1, rfl, rfl⟩⟩, g2⟩
    · exact ⟨1, _, rfl, Or.inr ⟨i, hi, rfl, Or.inr ⟨g1, rfl, rfl⟩⟩, g2⟩
theorem eMo_fails {O : zO} {l : Launch} (hk : zK O l) (G : zG) {am : Nat → Nat} {M : aM} (hM : zMm O G am M) (hO : mOk M) (y x : Int32) (hx : narrow .boolean (.int x) = .int x) : zM O l yMo_fails [Cond.code yMo_fails bMo_fails 3 (some .boolean)] rmMo_fails [.ref (am 0), .int y, .int x] G 0 0 (zMb O G am (mFl M y x)) zNo := by
  rcases acc_split y (n := mnb M) (by have := hO.2.1; omega) with h | ⟨i, hi, rfl⟩
  · refine (cMo_failsF hk G y x hM hO h).mono (fun v G' g => ?_) (fun E G' g => g)
    obtain ⟨rfl, g2⟩ := g
    exact ⟨0, _, rfl, Or.inl ⟨h, rfl, rfl⟩, g2⟩
  · refine (cMo_failsT hk G i x hM hO hi hx).mono (fun v G' g => ?_) (fun E G' g => g)
    rcases g with ⟨g1, rfl, g2⟩ | ⟨g1, rfl, g2⟩
    · exact ⟨0, _, rfl, Or.inr ⟨i, hi, rfl, Or.inl ⟨g1, rfl, rfl⟩⟩, g2⟩
    · exact ⟨1, _, rfl, Or.inr ⟨i, hi, rfl, Or.inr ⟨g1, rfl, rfl⟩⟩, g2⟩
theorem eMo_close {O : zO} {l : Launch} (hk : zK O l) (G : zG) {am : Nat → Nat} {M : aM} (hM : zMm O G am M) (hO : mOk M) (x : Int32) : zM O l yMo_close [Cond.code yMo_close bMo_close 2 (some .boolean)] rmMo_close [.ref (am 0), .int x] G 0 0 (zMb O G am (mCl M x)) zNo := by
  refine (cMo_close hk G x hM hO).mono (fun v G' g => ?_) (fun E G' g => g)
  rcases g with ⟨g1, rfl, g2⟩ | ⟨g1, rfl, g2⟩
  · exact ⟨0, _, rfl, Or.inl ⟨g1, rfl, rfl⟩, g2⟩
  · exact ⟨1, _, rfl, Or.inr ⟨g1, rfl, rfl⟩, g2⟩
theorem eMo_part {O : zO} {l : Launch} (hk : zK O l) (G : zG) {am : Nat → Nat} {M : aM} (hM : zMm O G am M) (hO : mOk M) (y z x : Int32) : zM O l yMo_part [Cond.code yMo_part bMo_part 4 (some .boolean)] rmMo_part [.ref (am 0), .int y, .int z, .int x] G 0 0 (zMb O G am (mPt M y z x)) zNo := by
  by_cases h : (isKindB y && isRecB z) = false
  · refine (cMo_partF hk G y z x h hM hO).mono (fun v G' g => ?_) (fun E G' g => g)
    obtain ⟨rfl, g2⟩ := g
    exact ⟨0, _, rfl, Or.inl ⟨h, rfl, rfl⟩, g2⟩
  · rcases kind_split y with g | ⟨k, hk6, rfl⟩
    · rw [g] at h; exact absurd rfl h
    · rcases rec_split z with g | ⟨r, hr4, rfl⟩
      · rw [g, Bool.and_false] at h; exact absurd rfl h
      · refine (cMo_partT hk G k r x hk6 hr4 hM hO).mono (fun v G' g => ?_) (fun E G' g => g)
        rcases g with ⟨g1, rfl, g2⟩ | ⟨g1, rfl, g2⟩
        · exact ⟨0, _, rfl, Or.inr ⟨k, r, hk6, hr4, rfl, rfl, Or.inl ⟨g1, rfl, rfl⟩⟩, g2⟩
        · exact ⟨1, _, rfl, Or.inr ⟨k, r, hk6, hr4, rfl, rfl, Or.inr ⟨g1, rfl, rfl⟩⟩, g2⟩
theorem eMo_cost {O : zO} {l : Launch} (hk : zK O l) (G : zG) {am : Nat → Nat} {M : aM} (hM : zMm O G am M) (hO : mOk M) (y x : Int32) : zM O l yMo_cost [Cond.code yMo_cost bMo_cost 3 (some .boolean)] rmMo_cost [.ref (am 0), .int y, .int x] G 0 0 (zMb O G am (mCs M y x)) zNo := by
  rcases kind_split y with h | ⟨k, hk6, rfl⟩
  · refine (cMo_costF hk G y x h hM hO).mono (fun v G' g => ?_) (fun E G' g => g)
    obtain ⟨rfl, g2⟩ := g
    exact ⟨0, _, rfl, Or.inl ⟨h, rfl, rfl⟩, g2⟩
  · refine (cMo_costT hk G k x hk6 hM hO).mono (fun v G' g => ?_) (fun E G' g => g)
    rcases g with ⟨g1, rfl, g2⟩ | ⟨g1, rfl, g2⟩
    · exact ⟨0, _, rfl, Or.inr ⟨k, hk6, rfl, Or.inl ⟨g1, rfl, rfl⟩⟩, g2⟩
    · exact ⟨1, _, rfl, Or.inr ⟨k, hk6, rfl, Or.inr ⟨g1, rfl, rfl⟩⟩, g2⟩
