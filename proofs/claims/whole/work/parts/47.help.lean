/-! the law's helpers: a call, and what it threw as a number -/
/-- the class's cells and the cell ao of one long -/
def zTa (O : zO) (G G' : zG) (ad : Nat → Nat) (ao : Nat) (S S' : aS) (k : Int32) (val : Int64) : Prop := ∃ ad' : Nat → Nat, zRep O G' ad' S' ∧ snb S ≤ snb S' ∧ (∀ i, i < 12 + 3 * snb S → ad' i = ad i) ∧ (∀ i, 12 + 3 * snb S ≤ i → i < 12 + 3 * snb S' → G (ad' i) = none) ∧ (∀ q e, G q = some e → q ≠ ao → (∀ i, i < 12 + 3 * snb S → q ≠ ad i) → G' q = some e) ∧ ∃ g : Nat → Int64, G' ao = some (zJ O 1 g) ∧ (k = 0 → g 0 = val)
theorem zTo.at {O : zO} {G G' : zG} {ad : Nat → Nat} {S S' : aS} (h : zTo O G G' ad S S') {q : Nat} {e : va_E} (hq : G q = some e) (hn : ∀ i, i < 12 + 3 * snb S → q ≠ ad i) : G' q = some e := by
  obtain ⟨ad', h1, h2, h3, h4, h5⟩ := h
  exact h5 q e hq hn
theorem zTa_0 {O : zO} {G G1 : zG} {ad : Nat → Nat} {ao : Nat} {S S' : aS} {g : Nat → Int64} (h : zTo O G G1 ad S S') (hn : ∀ i, i < 12 + 3 * snb S → ao ≠ ad i) (ho : G ao = some (zJ O 1 g)) (val : Int64) : zTa O G (zu G1 ao (zJ O 1 (vp_updL g 0 val))) ad ao S S' 0 val := by
  obtain ⟨ad', h1, h2, h3, h4, h5⟩ := h
  refine ⟨ad', h1.keptAll (fun j hj => zu_n ?_), h2, h3, h4, fun q e hq hne hq2 => (zu_n hne).trans (h5 q e hq hq2), _, zu_s, fun _ => updL_e⟩
  by_cases hj2 : j < 12 + 3 * snb S
  · rw [h3 j hj2]; exact (hn j hj2).symm
  · exact zu_fresh (h4 j (by omega) hj) ho
theorem zTa_k {O : zO} {G G1 : zG} {ad : Nat → Nat} {ao : Nat} {S S' : aS} {g : Nat → Int64} {k : Int32} (h : zTo O G G1 ad S S') (hn : ∀ i, i < 12 + 3 * snb S → ao ≠ ad i) (ho : G ao = some (zJ O 1 g)) (val : Int64) (hk : ¬ k = 0) : zTa O G G1 ad ao S S' k val := by
  obtain ⟨ad', h1, h2, h3, h4, h5⟩ := h
  exact ⟨ad', h1, h2, h3, h4, fun q e hq _ hq2 => h5 q e hq hq2, g, h5 ao _ ho hn, fun g => absurd g hk⟩
def zQh (O : zO) (G : zG) (ad : Nat → Nat) (ao : Nat) (S : aS) (P : Int32 → Int64 → aS → Prop) : Option Value → zG → Prop := fun v G' => ∃ (k : Int32) (val : Int64) (S' : aS), v = some (.int k) ∧ P k val S' ∧ zTa O G G' ad ao S S' k val
theorem c209 : Cond.castable "java/lang/IllegalArgumentException" "java/lang/IllegalArgumentException" ∈ zT2 := List.mem_filter.mpr ⟨List.mem_of_getElem? (i := 209) (by decide +kernel), by decide +kernel⟩
theorem c278 : Cond.castable "java/lang/IllegalStateException" "java/lang/IllegalStateException" ∈ zT2 := List.mem_filter.mpr ⟨List.mem_of_getElem? (i := 278) (by decide +kernel), by decide +kernel⟩
theorem c402 : Cond.castable "java/lang/UnsupportedOperationException" "java/lang/UnsupportedOperationException" ∈ zT2 := List.mem_filter.mpr ⟨List.mem_of_getElem? (i := 402) (by decide +kernel), by decide +kernel⟩
theorem c527 : Cond.castable "java/lang/IndexOutOfBoundsException" "java/lang/IndexOutOfBoundsException" ∈ zT2 := List.mem_filter.mpr ⟨List.mem_of_getElem? (i := 527) (by decide +kernel), by decide +kernel⟩
theorem vp_in0 : vp_in (0 : Int32) 1 := (vp_in_nI (show 0 < 1 by omega) (by omega) : vp_in (nI 0) 1)
set_option maxHeartbeats 4000000 in
set_option maxRecDepth 100000 in
theorem cLa_account {O : zO} {l : Launch} (hk : zK O l) (G : zG) {ad : Nat → Nat} {S : aS} {ao : Nat} {g : Nat → Int64} (hR : zRep O G ad S) (hS : aOk S) (hn : ∀ i, i < 12 + 3 * snb S → ao ≠ ad i) (ho : G ao = some (zJ O 1 g)) (x : Int32) : zM O l yLa_account [Cond.codeWith yLa_account bLa_account 4 (some .int) hLa_account] rmLa_account [.ref (ad 0), .int x, .ref ao] G 1 6 (zQh O G ad ao S (pAc S x)) zNo := by
  refine zm_ofH hk (by decide) (Nat.le_of_ble_eq_true rfl) ?_
  intro p e s m below meth c C hex hr
  have hD := hR.2.1
  refine zv_aload_n (pc := 0) C dLa_account_0 rfl ?_
  refine zv_iconst (pc := 1) (v := 0) C dLa_account_1 (by decide) ?_
  refine zv_aload_n (pc := 2) C dLa_account_2 rfl ?_
  refine zv_iload_n (pc := 3) C dLa_account_3 rfl ?_
  refine zv_callV (pc := 4) C dLa_account_4 (eDu_account hk _ hR hS _) gLa_7 ⟨rfl, rfl, ⟨Nat.le_of_ble_eq_true rfl, Nat.le_of_ble_eq_true rfl⟩, mDu_account⟩ rfl rfl (Nat.le_of_ble_eq_true rfl) hD rfl rfl ⟨Nat.le_of_ble_eq_true rfl, Nat.le_of_ble_eq_true rfl⟩ (fun E G' h => ?_) (fun v G' h => ?_)
  obtain ⟨k9, S', hE, hP, hT⟩ := h
  rcases hE with ⟨rfl, rfl⟩ | ⟨rfl, rfl⟩ | ⟨rfl, rfl⟩
  · -- 1
    refine zx_catch (name := "java/lang/IllegalArgumentException") C hex [] ⟨0, 9, 12, 13⟩ [⟨0, 9, 15, 15⟩] rfl (fun z hz => absurd hz List.not_mem_nil) (by decide) (by decide) zw_201 c209 (tgt := 12) rfl (fun qx => ?_)
    refine zv_astore_n (pc := 12) C dLa_account_12 (by decide) ?_
    refine zv_iconst (pc := 13) (v := 1) C dLa_account_13 (by decide) ?_
    exact zv_iret (pc := 14) C hr dLa_account_14 (Nat.le_of_ble_eq_true rfl) (Nat.le_of_ble_eq_true rfl) (by exact ⟨1, 0, S', rfl, hP, zTa_k hT hn ho 0 (by decide)⟩)
  · -- 2
    refine zx_catch (name := "java/lang/IllegalStateException") C hex [⟨0, 9, 12, 13⟩] ⟨0, 9, 15, 15⟩ [] rfl (List.forall_mem_cons.mpr ⟨⟨by decide, "java/lang/IllegalArgumentException", zw_201, by decide +kernel⟩, fun z hz => absurd hz List.not_mem_nil⟩) (by decide) (by decide) zw_202 c278 (tgt := 15) rfl (fun qx => ?_)
    refine zv_astore_n (pc := 15) C dLa_account_15 (by decide) ?_
    refine zv_iconst (pc := 16) (v := 2) C dLa_account_16 (by decide) ?_
    exact zv_iret (pc := 17) C hr dLa_account_17 (Nat.le_of_ble_eq_true rfl) (Nat.le_of_ble_eq_true rfl) (by exact ⟨2, 0, S', rfl, hP, zTa_k hT hn ho 0 (by decide)⟩)
  · -- 3
    exact absurd hP (by simp [pQ, pAc])
  obtain ⟨x9, S', rfl, hP, hT⟩ := h
  have ho1 := hT.at ho hn
  refine zv_i2l (pc := 7) C dLa_account_7 ?_
  refine zv_last (pc := 8) C dLa_account_8 ho1 vp_in0 ?_
  refine zv_goto (pc := 9) (tgt := 18) C dLa_account_9 (by decide) ?_
  refine zv_iconst (pc := 18) (v := 0) C dLa_account_18 (by decide) ?_
  exact zv_iret (pc := 19) C hr dLa_account_19 (Nat.le_of_ble_eq_true rfl) (Nat.le_of_ble_eq_true rfl) (by exact ⟨0, _, S', rfl, hP, zTa_0 hT hn ho _⟩)
set_option maxHeartbeats 4000000 in
set_option maxRecDepth 100000 in
theorem cLa_batch {O : zO} {l : Launch} (hk : zK O l) (G : zG) {ad : Nat → Nat} {S : aS} {ao : Nat} {g : Nat → Int64} (hR : zRep O G ad S) (hS : aOk S) (hn : ∀ i, i < 12 + 3 * snb S → ao ≠ ad i) (ho : G ao = some (zJ O 1 g)) (x y : Int32) : zM O l yLa_batch [Cond.codeWith yLa_batch bLa_batch 5 (some .int) hLa_batch] rmLa_batch [.ref (ad 0), .int x, .int y, .ref ao] G 3 49 (zQh O G ad ao S (pBa S x y)) zNo := by
  refine zm_ofH hk (by decide) (Nat.le_of_ble_eq_true rfl) ?_
  intro p e s m below meth c C hex hr
  have hD := hR.2.1
  refine zv_aload_n (pc := 0) C dLa_batch_0 rfl ?_
  refine zv_iconst (pc := 1) (v := 0) C dLa_batch_1 (by decide) ?_
  refine zv_aload_n (pc := 2) C dLa_batch_2 rfl ?_
  refine zv_iload_n (pc := 3) C dLa_batch_3 rfl ?_
  refine zv_iload_n (pc := 4) C dLa_batch_4 rfl ?_
  refine zv_callV (pc := 5) C dLa_batch_5 (eDu_batch hk _ hR hS _ _) gLa_17 ⟨rfl, rfl, ⟨Nat.le_of_ble_eq_true rfl, Nat.le_of_ble_eq_true rfl⟩, mDu_batch⟩ rfl rfl (Nat.le_of_ble_eq_true rfl) hD rfl rfl ⟨Nat.le_of_ble_eq_true rfl, Nat.le_of_ble_eq_true rfl⟩ (fun E G' h => ?_) (fun v G' h => ?_)
  obtain ⟨k9, S', hE, hP, hT⟩ := h
  rcases hE with ⟨rfl, rfl⟩ | ⟨rfl, rfl⟩ | ⟨rfl, rfl⟩
  · -- 1
    refine zx_catch (name := "java/lang/IllegalArgumentException") C hex [] ⟨0, 10, 13, 13⟩ [⟨0, 10, 17, 15⟩] rfl (fun z hz => absurd hz List.not_mem_nil) (by decide) (by decide) zw_201 c209 (tgt := 13) rfl (fun qx => ?_)
    refine zv_astore (pc := 13) C dLa_batch_13 (by decide) ?_
    refine zv_iconst (pc := 15) (v := 1) C dLa_batch_15 (by decide) ?_
    exact zv_iret (pc := 16) C hr dLa_batch_16 (Nat.le_of_ble_eq_true rfl) (Nat.le_of_ble_eq_true rfl) (by exact ⟨1, 0, S', rfl, hP, zTa_k hT hn ho 0 (by decide)⟩)
  · -- 2
    refine zx_catch (name := "java/lang/IllegalStateException") C hex [⟨0, 10, 13, 13⟩] ⟨0, 10, 17, 15⟩ [] rfl (List.forall_mem_cons.mpr ⟨⟨by decide, "java/lang/IllegalArgumentException", zw_201, by decide +kernel⟩, fun z hz => absurd hz List.not_mem_nil⟩) (by decide) (by decide) zw_202 c278 (tgt := 17) rfl (fun qx => ?_)
    refine zv_astore (pc := 17) C dLa_batch_17 (by decide) ?_
    refine zv_iconst (pc := 19) (v := 2) C dLa_batch_19 (by decide) ?_
    exact zv_iret (pc := 20) C hr dLa_batch_20 (Nat.le_of_ble_eq_true rfl) (Nat.le_of_ble_eq_true rfl) (by exact ⟨2, 0, S', rfl, hP, zTa_k hT hn ho 0 (by decide)⟩)
  · -- 3
    exact absurd hP (by simp [pQ, pBa])
  obtain ⟨x9, S', rfl, hP, hT⟩ := h
  have ho1 := hT.at ho hn
  refine zv_i2l (pc := 8) C dLa_batch_8 ?_
  refine zv_last (pc := 9) C dLa_batch_9 ho1 vp_in0 ?_
  refine zv_goto (pc := 10) (tgt := 21) C dLa_batch_10 (by decide) ?_
  refine zv_iconst (pc := 21) (v := 0) C dLa_batch_21 (by decide) ?_
  exact zv_iret (pc := 22) C hr dLa_batch_22 (Nat.le_of_ble_eq_true rfl) (Nat.le_of_ble_eq_true rfl) (by exact ⟨0, _, S', rfl, hP, zTa_0 hT hn ho _⟩)
set_option maxHeartbeats 4000000 in
set_option maxRecDepth 100000 in
theorem cLa_post {O : zO} {l : Launch} (hk : zK O l) (G : zG) {ad : Nat → Nat} {S : aS} {ao : Nat} {g : Nat → Int64} (hR : zRep O G ad S) (hS : aOk S) (hn : ∀ i, i < 12 + 3 * snb S → ao ≠ ad i) (ho : G ao = some (zJ O 1 g)) (y : Int32) : zM O l yLa_post [Cond.codeWith yLa_post bLa_post 4 (some .int) hLa_post] rmLa_post [.ref (ad 0), .int y, .ref ao] G 1 6 (zQh O G ad ao S (pPo S y)) zNo := by
  refine zm_ofH hk (by decide) (Nat.le_of_ble_eq_true rfl) ?_
  intro p e s m below meth c C hex hr
  have hD := hR.2.1
  refine zv_aload_n (pc := 0) C dLa_post_0 rfl ?_
  refine zv_iconst (pc := 1) (v := 0) C dLa_post_1 (by decide) ?_
  refine zv_aload_n (pc := 2) C dLa_post_2 rfl ?_
  refine zv_iload_n (pc := 3) C dLa_post_3 rfl ?_
  refine zv_callV (pc := 4) C dLa_post_4 (eDu_post hk _ hR hS _) gLa_21 ⟨rfl, rfl, ⟨Nat.le_of_ble_eq_true rfl, Nat.le_of_ble_eq_true rfl⟩, mDu_post⟩ rfl rfl (Nat.le_of_ble_eq_true rfl) hD rfl rfl ⟨Nat.le_of_ble_eq_true rfl, Nat.le_of_ble_eq_true rfl⟩ (fun E G' h => ?_) (fun v G' h => ?_)
  obtain ⟨k9, S', hE, hP, hT⟩ := h
  rcases hE with ⟨rfl, rfl⟩ | ⟨rfl, rfl⟩ | ⟨rfl, rfl⟩
  · -- 1
    refine zx_catch (name := "java/lang/IllegalArgumentException") C hex [] ⟨0, 9, 12, 13⟩ [⟨0, 9, 15, 15⟩, ⟨0, 9, 18, 24⟩] rfl (fun z hz => absurd hz List.not_mem_nil) (by decide) (by decide) zw_201 c209 (tgt := 12) rfl (fun qx => ?_)
    refine zv_astore_n (pc := 12) C dLa_post_12 (by decide) ?_
    refine zv_iconst (pc := 13) (v := 1) C dLa_post_13 (by decide) ?_
    exact zv_iret (pc := 14) C hr dLa_post_14 (Nat.le_of_ble_eq_true rfl) (Nat.le_of_ble_eq_true rfl) (by exact ⟨1, 0, S', rfl, hP, zTa_k hT hn ho 0 (by decide)⟩)
  · -- 2
    refine zx_catch (name := "java/lang/IllegalStateException") C hex [⟨0, 9, 12, 13⟩] ⟨0, 9, 15, 15⟩ [⟨0, 9, 18, 24⟩] rfl (List.forall_mem_cons.mpr ⟨⟨by decide, "java/lang/IllegalArgumentException", zw_201, by decide +kernel⟩, fun z hz => absurd hz List.not_mem_nil⟩) (by decide) (by decide) zw_202 c278 (tgt := 15) rfl (fun qx => ?_)
    refine zv_astore_n (pc := 15) C dLa_post_15 (by decide) ?_
    refine zv_iconst (pc := 16) (v := 2) C dLa_post_16 (by decide) ?_
    exact zv_iret (pc := 17) C hr dLa_post_17 (Nat.le_of_ble_eq_true rfl) (Nat.le_of_ble_eq_true rfl) (by exact ⟨2, 0, S', rfl, hP, zTa_k hT hn ho 0 (by decide)⟩)
  · -- 3
    refine zx_catch (name := "java/lang/UnsupportedOperationException") C hex [⟨0, 9, 12, 13⟩, ⟨0, 9, 15, 15⟩] ⟨0, 9, 18, 24⟩ [] rfl (List.forall_mem_cons.mpr ⟨⟨by decide, "java/lang/IllegalArgumentException", zw_201, by decide +kernel⟩, List.forall_mem_cons.mpr ⟨⟨by decide, "java/lang/IllegalStateException", zw_202, by decide +kernel⟩, fun z hz => absurd hz List.not_mem_nil⟩⟩) (by decide) (by decide) zw_354 c402 (tgt := 18) rfl (fun qx => ?_)
    refine zv_astore_n (pc := 18) C dLa_post_18 (by decide) ?_
    refine zv_iconst (pc := 19) (v := 3) C dLa_post_19 (by decide) ?_
    exact zv_iret (pc := 20) C hr dLa_post_20 (Nat.le_of_ble_eq_true rfl) (Nat.le_of_ble_eq_true rfl) (by exact ⟨3, 0, S', rfl, hP, zTa_k hT hn ho 0 (by decide)⟩)
  obtain ⟨x9, S', rfl, hP, hT⟩ := h
  have ho1 := hT.at ho hn
  refine zv_i2l (pc := 7) C dLa_post_7 ?_
  refine zv_last (pc := 8) C dLa_post_8 ho1 vp_in0 ?_
  refine zv_goto (pc := 9) (tgt := 21) C dLa_post_9 (by decide) ?_
  refine zv_iconst (pc := 21) (v := 0) C dLa_post_21 (by decide) ?_
  exact zv_iret (pc := 22) C hr dLa_post_22 (Nat.le_of_ble_eq_true rfl) (Nat.le_of_ble_eq_true rfl) (by exact ⟨0, _, S', rfl, hP, zTa_0 hT hn ho _⟩)
set_option maxHeartbeats 4000000 in
set_option maxRecDepth 100000 in
theorem cLa_reverse {O : zO} {l : Launch} (hk : zK O l) (G : zG) {ad : Nat → Nat} {S : aS} {ao : Nat} {g : Nat → Int64} (hR : zRep O G ad S) (hS : aOk S) (hn : ∀ i, i < 12 + 3 * snb S → ao ≠ ad i) (ho : G ao = some (zJ O 1 g)) (y kd : Int32) : zM O l yLa_reverse [Cond.codeWith yLa_reverse bLa_reverse 5 (some .int) hLa_reverse] rmLa_reverse [.ref (ad 0), .int y, .int kd, .ref ao] G 4 55 (zQh O G ad ao S (pRe S y kd)) zNo := by
  refine zm_ofH hk (by decide) (Nat.le_of_ble_eq_true rfl) ?_
  intro p e s m below meth c C hex hr
  have hD := hR.2.1
  refine zv_aload_n (pc := 0) C dLa_reverse_0 rfl ?_
  refine zv_iconst (pc := 1) (v := 0) C dLa_reverse_1 (by decide) ?_
  refine zv_aload_n (pc := 2) C dLa_reverse_2 rfl ?_
  refine zv_iload_n (pc := 3) C dLa_reverse_3 rfl ?_
  refine zv_iload_n (pc := 4) C dLa_reverse_4 rfl ?_
  refine zv_callV (pc := 5) C dLa_reverse_5 (eDu_reverse hk _ hR hS _ _) gLa_26 ⟨rfl, rfl, ⟨Nat.le_of_ble_eq_true rfl, Nat.le_of_ble_eq_true rfl⟩, mDu_reverse⟩ rfl rfl (Nat.le_of_ble_eq_true rfl) hD rfl rfl ⟨Nat.le_of_ble_eq_true rfl, Nat.le_of_ble_eq_true rfl⟩ (fun E G' h => ?_) (fun v G' h => ?_)
  obtain ⟨k9, S', hE, hP, hT⟩ := h
  rcases hE with ⟨rfl, rfl⟩ | ⟨rfl, rfl⟩ | ⟨rfl, rfl⟩
  · -- 1
    refine zx_catch (name := "java/lang/IllegalArgumentException") C hex [] ⟨0, 10, 13, 13⟩ [⟨0, 10, 17, 15⟩] rfl (fun z hz => absurd hz List.not_mem_nil) (by decide) (by decide) zw_201 c209 (tgt := 13) rfl (fun qx => ?_)
    refine zv_astore (pc := 13) C dLa_reverse_13 (by decide) ?_
    refine zv_iconst (pc := 15) (v := 1) C dLa_reverse_15 (by decide) ?_
    exact zv_iret (pc := 16) C hr dLa_reverse_16 (Nat.le_of_ble_eq_true rfl) (Nat.le_of_ble_eq_true rfl) (by exact ⟨1, 0, S', rfl, hP, zTa_k hT hn ho 0 (by decide)⟩)
  · -- 2
    refine zx_catch (name := "java/lang/IllegalStateException") C hex [⟨0, 10, 13, 13⟩] ⟨0, 10, 17, 15⟩ [] rfl (List.forall_mem_cons.mpr ⟨⟨by decide, "java/lang/IllegalArgumentException", zw_201, by decide +kernel⟩, fun z hz => absurd hz List.not_mem_nil⟩) (by decide) (by decide) zw_202 c278 (tgt := 17) rfl (fun qx => ?_)
    refine zv_astore (pc := 17) C dLa_reverse_17 (by decide) ?_
    refine zv_iconst (pc := 19) (v := 2) C dLa_reverse_19 (by decide) ?_
    exact zv_iret (pc := 20) C hr dLa_reverse_20 (Nat.le_of_ble_eq_true rfl) (Nat.le_of_ble_eq_true rfl) (by exact ⟨2, 0, S', rfl, hP, zTa_k hT hn ho 0 (by decide)⟩)
  · -- 3
    exact absurd hP (by simp [pQ, pRe])
  obtain ⟨x9, S', rfl, hP, hT⟩ := h
  have ho1 := hT.at ho hn
  refine zv_i2l (pc := 8) C dLa_reverse_8 ?_
  refine zv_last (pc := 9) C dLa_reverse_9 ho1 vp_in0 ?_
  refine zv_goto (pc := 10) (tgt := 21) C dLa_reverse_10 (by decide) ?_
  refine zv_iconst (pc := 21) (v := 0) C dLa_reverse_21 (by decide) ?_
  exact zv_iret (pc := 22) C hr dLa_reverse_22 (Nat.le_of_ble_eq_true rfl) (Nat.le_of_ble_eq_true rfl) (by exact ⟨0, _, S', rfl, hP, zTa_0 hT hn ho _⟩)
set_option maxHeartbeats 4000000 in
set_option maxRecDepth 100000 in
theorem cLa_balance {O : zO} {l : Launch} (hk : zK O l) (G : zG) {ad : Nat → Nat} {S : aS} {ao : Nat} {g : Nat → Int64} (hR : zRep O G ad S) (hS : aOk S) (hn : ∀ i, i < 12 + 3 * snb S → ao ≠ ad i) (ho : G ao = some (zJ O 1 g)) (x d k : Int32) : zM O l yLa_balance [Cond.codeWith yLa_balance bLa_balance 6 (some .int) hLa_balance] rmLa_balance [.ref (ad 0), .int x, .int d, .int k, .ref ao] G 1 6 (zQh O G ad ao S (pBl S x d k)) zNo := by
  refine zm_ofH hk (by decide) (Nat.le_of_ble_eq_true rfl) ?_
  intro p e s m below meth c C hex hr
  have hD := hR.2.1
  refine zv_aload (pc := 0) C dLa_balance_0 rfl ?_
  refine zv_iconst (pc := 2) (v := 0) C dLa_balance_2 (by decide) ?_
  refine zv_aload_n (pc := 3) C dLa_balance_3 rfl ?_
  refine zv_iload_n (pc := 4) C dLa_balance_4 rfl ?_
  refine zv_iload_n (pc := 5) C dLa_balance_5 rfl ?_
  refine zv_iload_n (pc := 6) C dLa_balance_6 rfl ?_
  refine zv_callV (pc := 7) C dLa_balance_7 (eDu_balance hk _ hR hS _ _ _) gLa_29 ⟨rfl, rfl, ⟨Nat.le_of_ble_eq_true rfl, Nat.le_of_ble_eq_true rfl⟩, mDu_balance⟩ rfl rfl (Nat.le_of_ble_eq_true rfl) hD rfl rfl ⟨Nat.le_of_ble_eq_true rfl, Nat.le_of_ble_eq_true rfl⟩ (fun E G' h => ?_) (fun v G' h => ?_)
  obtain ⟨k9, S', hE, hP, hT⟩ := h
  rcases hE with ⟨rfl, rfl⟩ | ⟨rfl, rfl⟩ | ⟨rfl, rfl⟩
  · -- 1
    refine zx_catch (name := "java/lang/IllegalArgumentException") C hex [] ⟨0, 11, 14, 13⟩ [] rfl (fun z hz => absurd hz List.not_mem_nil) (by decide) (by decide) zw_201 c209 (tgt := 14) rfl (fun qx => ?_)
    refine zv_astore (pc := 14) C dLa_balance_14 (by decide) ?_
    refine zv_iconst (pc := 16) (v := 1) C dLa_balance_16 (by decide) ?_
    exact zv_iret (pc := 17) C hr dLa_balance_17 (Nat.le_of_ble_eq_true rfl) (Nat.le_of_ble_eq_true rfl) (by exact ⟨1, 0, S', rfl, hP, zTa_k hT hn ho 0 (by decide)⟩)
  · -- 2
    exact absurd hP (by simp [pQ, pBl])
  · -- 3
    exact absurd hP (by simp [pQ, pBl])
  obtain ⟨x9, S', rfl, hP, hT⟩ := h
  have ho1 := hT.at ho hn
  refine zv_last (pc := 10) C dLa_balance_10 ho1 vp_in0 ?_
  refine zv_goto (pc := 11) (tgt := 18) C dLa_balance_11 (by decide) ?_
  refine zv_iconst (pc := 18) (v := 0) C dLa_balance_18 (by decide) ?_
  exact zv_iret (pc := 19) C hr dLa_balance_19 (Nat.le_of_ble_eq_true rfl) (Nat.le_of_ble_eq_true rfl) (by exact ⟨0, _, S', rfl, hP, zTa_0 hT hn ho _⟩)
set_option maxHeartbeats 4000000 in
set_option maxRecDepth 100000 in
theorem cLa_statement {O : zO} {l : Launch} (hk : zK O l) (G : zG) {ad : Nat → Nat} {S : aS} {ao : Nat} {g : Nat → Int64} (hR : zRep O G ad S) (hS : aOk S) (hn : ∀ i, i < 12 + 3 * snb S → ao ≠ ad i) (ho : G ao = some (zJ O 1 g)) (x d k : Int32) : zM O l yLa_statement [Cond.codeWith yLa_statement bLa_statement 6 (some .int) hLa_statement] rmLa_statement [.ref (ad 0), .int x, .int d, .int k, .ref ao] G 1 6 (zQh O G ad ao S (pSt S x d k)) zNo := by
  refine zm_ofH hk (by decide) (Nat.le_of_ble_eq_true rfl) ?_
  intro p e s m below meth c C hex hr
  have hD := hR.2.1
  refine zv_aload (pc := 0) C dLa_statement_0 rfl ?_
  refine zv_iconst (pc := 2) (v := 0) C dLa_statement_2 (by decide) ?_
  refine zv_aload_n (pc := 3) C dLa_statement_3 rfl ?_
  refine zv_iload_n (pc := 4) C dLa_statement_4 rfl ?_
  refine zv_iload_n (pc := 5) C dLa_statement_5 rfl ?_
  refine zv_iload_n (pc := 6) C dLa_statement_6 rfl ?_
  refine zv_callV (pc := 7) C dLa_statement_7 (eDu_statement hk _ hR hS _ _ _) gLa_33 ⟨rfl, rfl, ⟨Nat.le_of_ble_eq_true rfl, Nat.le_of_ble_eq_true rfl⟩, mDu_statement⟩ rfl rfl (Nat.le_of_ble_eq_true rfl) hD rfl rfl ⟨Nat.le_of_ble_eq_true rfl, Nat.le_of_ble_eq_true rfl⟩ (fun E G' h => ?_) (fun v G' h => ?_)
  obtain ⟨k9, S', hE, hP, hT⟩ := h
  rcases hE with ⟨rfl, rfl⟩ | ⟨rfl, rfl⟩ | ⟨rfl, rfl⟩
  · -- 1
    refine zx_catch (name := "java/lang/IllegalArgumentException") C hex [] ⟨0, 11, 14, 13⟩ [] rfl (fun z hz => absurd hz List.not_mem_nil) (by decide) (by decide) zw_201 c209 (tgt := 14) rfl (fun qx => ?_)
    refine zv_astore (pc := 14) C dLa_statement_14 (by decide) ?_
    refine zv_iconst (pc := 16) (v := 1) C dLa_statement_16 (by decide) ?_
    exact zv_iret (pc := 17) C hr dLa_statement_17 (Nat.le_of_ble_eq_true rfl) (Nat.le_of_ble_eq_true rfl) (by exact ⟨1, 0, S', rfl, hP, zTa_k hT hn ho 0 (by decide)⟩)
  · -- 2
    exact absurd hP (by simp [pQ, pSt])
  · -- 3
    exact absurd hP (by simp [pQ, pSt])
  obtain ⟨x9, S', rfl, hP, hT⟩ := h
  have ho1 := hT.at ho hn
  refine zv_last (pc := 10) C dLa_statement_10 ho1 vp_in0 ?_
  refine zv_goto (pc := 11) (tgt := 18) C dLa_statement_11 (by decide) ?_
  refine zv_iconst (pc := 18) (v := 0) C dLa_statement_18 (by decide) ?_
  exact zv_iret (pc := 19) C hr dLa_statement_19 (Nat.le_of_ble_eq_true rfl) (Nat.le_of_ble_eq_true rfl) (by exact ⟨0, _, S', rfl, hP, zTa_0 hT hn ho _⟩)
set_option maxHeartbeats 4000000 in
set_option maxRecDepth 100000 in
theorem cLa_passed {O : zO} {l : Launch} (hk : zK O l) (G : zG) {ad : Nat → Nat} {S : aS} {ao : Nat} {g : Nat → Int64} (hR : zRep O G ad S) (hS : aOk S) (hn : ∀ i, i < 12 + 3 * snb S → ao ≠ ad i) (ho : G ao = some (zJ O 1 g)) (y w d : Int32) : zM O l yLa_passed [Cond.codeWith yLa_passed bLa_passed 6 (some .int) hLa_passed] rmLa_passed [.ref (ad 0), .int y, .int w, .int d, .ref ao] G 1 6 (zQh O G ad ao S (pPa S y w d)) zNo := by
  refine zm_ofH hk (by decide) (Nat.le_of_ble_eq_true rfl) ?_
  intro p e s m below meth c C hex hr
  have hD := hR.2.1
  refine zv_aload (pc := 0) C dLa_passed_0 rfl ?_
  refine zv_iconst (pc := 2) (v := 0) C dLa_passed_2 (by decide) ?_
  refine zv_aload_n (pc := 3) C dLa_passed_3 rfl ?_
  refine zv_iload_n (pc := 4) C dLa_passed_4 rfl ?_
  refine zv_iload_n (pc := 5) C dLa_passed_5 rfl ?_
  refine zv_iload_n (pc := 6) C dLa_passed_6 rfl ?_
  refine zv_callV (pc := 7) C dLa_passed_7 (eDu_passed hk _ hR hS _ _ _) gLa_36 ⟨rfl, rfl, ⟨Nat.le_of_ble_eq_true rfl, Nat.le_of_ble_eq_true rfl⟩, mDu_passed⟩ rfl rfl (Nat.le_of_ble_eq_true rfl) hD rfl rfl ⟨Nat.le_of_ble_eq_true rfl, Nat.le_of_ble_eq_true rfl⟩ (fun E G' h => ?_) (fun v G' h => ?_)
  obtain ⟨k9, S', hE, hP, hT⟩ := h
  rcases hE with ⟨rfl, rfl⟩ | ⟨rfl, rfl⟩ | ⟨rfl, rfl⟩
  · -- 1
    refine zx_catch (name := "java/lang/IllegalArgumentException") C hex [] ⟨0, 11, 14, 13⟩ [] rfl (fun z hz => absurd hz List.not_mem_nil) (by decide) (by decide) zw_201 c209 (tgt := 14) rfl (fun qx => ?_)
    refine zv_astore (pc := 14) C dLa_passed_14 (by decide) ?_
    refine zv_iconst (pc := 16) (v := 1) C dLa_passed_16 (by decide) ?_
    exact zv_iret (pc := 17) C hr dLa_passed_17 (Nat.le_of_ble_eq_true rfl) (Nat.le_of_ble_eq_true rfl) (by exact ⟨1, 0, S', rfl, hP, zTa_k hT hn ho 0 (by decide)⟩)
  · -- 2
    exact absurd hP (by simp [pQ, pPa])
  · -- 3
    exact absurd hP (by simp [pQ, pPa])
  obtain ⟨x9, S', rfl, hP, hT⟩ := h
  have ho1 := hT.at ho hn
  refine zv_last (pc := 10) C dLa_passed_10 ho1 vp_in0 ?_
  refine zv_goto (pc := 11) (tgt := 18) C dLa_passed_11 (by decide) ?_
  refine zv_iconst (pc := 18) (v := 0) C dLa_passed_18 (by decide) ?_
  exact zv_iret (pc := 19) C hr dLa_passed_19 (Nat.le_of_ble_eq_true rfl) (Nat.le_of_ble_eq_true rfl) (by exact ⟨0, _, S', rfl, hP, zTa_0 hT hn ho _⟩)
set_option maxHeartbeats 4000000 in
set_option maxRecDepth 100000 in
theorem cLa_reconcile {O : zO} {l : Launch} (hk : zK O l) (G : zG) {ad : Nat → Nat} {S : aS} {ao : Nat} {g : Nat → Int64} (hR : zRep O G ad S) (hS : aOk S) (hn : ∀ i, i < 12 + 3 * snb S → ao ≠ ad i) (ho : G ao = some (zJ O 1 g)) (x y d k : Int32) : zM O l yLa_reconcile [Cond.codeWith yLa_reconcile bLa_reconcile 7 (some .int) hLa_reconcile] rmLa_reconcile [.ref (ad 0), .int x, .int y, .int d, .int k, .ref ao] G 1 6 (zQh O G ad ao S (pRc S x y d k)) zNo := by
  refine zm_ofH hk (by decide) (Nat.le_of_ble_eq_true rfl) ?_
  intro p e s m below meth c C hex hr
  have hD := hR.2.1
  refine zv_aload (pc := 0) C dLa_reconcile_0 rfl ?_
  refine zv_iconst (pc := 2) (v := 0) C dLa_reconcile_2 (by decide) ?_
  refine zv_aload_n (pc := 3) C dLa_reconcile_3 rfl ?_
  refine zv_iload_n (pc := 4) C dLa_reconcile_4 rfl ?_
  refine zv_iload_n (pc := 5) C dLa_reconcile_5 rfl ?_
  refine zv_iload_n (pc := 6) C dLa_reconcile_6 rfl ?_
  refine zv_iload (pc := 7) C dLa_reconcile_7 rfl ?_
  refine zv_callV (pc := 9) C dLa_reconcile_9 (eDu_reconcile hk _ hR hS _ _ _ _) gLa_39 ⟨rfl, rfl, ⟨Nat.le_of_ble_eq_true rfl, Nat.le_of_ble_eq_true rfl⟩, mDu_reconcile⟩ rfl rfl (Nat.le_of_ble_eq_true rfl) hD rfl rfl ⟨Nat.le_of_ble_eq_true rfl, Nat.le_of_ble_eq_true rfl⟩ (fun E G' h => ?_) (fun v G' h => ?_)
  obtain ⟨k9, S', hE, hP, hT⟩ := h
  rcases hE with ⟨rfl, rfl⟩ | ⟨rfl, rfl⟩ | ⟨rfl, rfl⟩
  · -- 1
    refine zx_catch (name := "java/lang/IllegalArgumentException") C hex [] ⟨0, 13, 16, 13⟩ [] rfl (fun z hz => absurd hz List.not_mem_nil) (by decide) (by decide) zw_201 c209 (tgt := 16) rfl (fun qx => ?_)
    refine zv_astore (pc := 16) C dLa_reconcile_16 (by decide) ?_
    refine zv_iconst (pc := 18) (v := 1) C dLa_reconcile_18 (by decide) ?_
    exact zv_iret (pc := 19) C hr dLa_reconcile_19 (Nat.le_of_ble_eq_true rfl) (Nat.le_of_ble_eq_true rfl) (by exact ⟨1, 0, S', rfl, hP, zTa_k hT hn ho 0 (by decide)⟩)
  · -- 2
    exact absurd hP (by simp [pQ, pRc])
  · -- 3
    exact absurd hP (by simp [pQ, pRc])
  obtain ⟨x9, S', rfl, hP, hT⟩ := h
  have ho1 := hT.at ho hn
  refine zv_last (pc := 12) C dLa_reconcile_12 ho1 vp_in0 ?_
  refine zv_goto (pc := 13) (tgt := 20) C dLa_reconcile_13 (by decide) ?_
  refine zv_iconst (pc := 20) (v := 0) C dLa_reconcile_20 (by decide) ?_
  exact zv_iret (pc := 21) C hr dLa_reconcile_21 (Nat.le_of_ble_eq_true rfl) (Nat.le_of_ble_eq_true rfl) (by exact ⟨0, _, S', rfl, hP, zTa_0 hT hn ho _⟩)
set_option maxHeartbeats 4000000 in
set_option maxRecDepth 100000 in
theorem cLa_read {O : zO} {l : Launch} (hk : zK O l) (G : zG) {ad : Nat → Nat} {S : aS} {ao : Nat} {g : Nat → Int64} (hR : zRep O G ad S) (hS : aOk S) (hn : ∀ i, i < 12 + 3 * snb S → ao ≠ ad i) (ho : G ao = some (zJ O 1 g)) (y w : Int32) : zM O l yLa_read [Cond.codeWith yLa_read bLa_read 5 (some .int) hLa_read] rmLa_read [.ref (ad 0), .int y, .int w, .ref ao] G 1 6 (zQh O G ad ao S (pRd S y w)) zNo := by
  refine zm_ofH hk (by decide) (Nat.le_of_ble_eq_true rfl) ?_
  intro p e s m below meth c C hex hr
  have hD := hR.2.1
  refine zv_aload_n (pc := 0) C dLa_read_0 rfl ?_
  refine zv_iconst (pc := 1) (v := 0) C dLa_read_1 (by decide) ?_
  refine zv_aload_n (pc := 2) C dLa_read_2 rfl ?_
  refine zv_iload_n (pc := 3) C dLa_read_3 rfl ?_
  refine zv_iload_n (pc := 4) C dLa_read_4 rfl ?_
  refine zv_callV (pc := 5) C dLa_read_5 (eDu_read hk _ hR hS _ _) gLa_43 ⟨rfl, rfl, ⟨Nat.le_of_ble_eq_true rfl, Nat.le_of_ble_eq_true rfl⟩, mDu_read⟩ rfl rfl (Nat.le_of_ble_eq_true rfl) hD rfl rfl ⟨Nat.le_of_ble_eq_true rfl, Nat.le_of_ble_eq_true rfl⟩ (fun E G' h => ?_) (fun v G' h => ?_)
  obtain ⟨k9, S', hE, hP, hT⟩ := h
  rcases hE with ⟨rfl, rfl⟩ | ⟨rfl, rfl⟩ | ⟨rfl, rfl⟩
  · -- 1
    refine zx_catch (name := "java/lang/IndexOutOfBoundsException") C hex [] ⟨0, 9, 12, 47⟩ [] rfl (fun z hz => absurd hz List.not_mem_nil) (by decide) (by decide) zw_520 c527 (tgt := 12) rfl (fun qx => ?_)
    refine zv_astore (pc := 12) C dLa_read_12 (by decide) ?_
    refine zv_iconst (pc := 14) (v := 1) C dLa_read_14 (by decide) ?_
    exact zv_iret (pc := 15) C hr dLa_read_15 (Nat.le_of_ble_eq_true rfl) (Nat.le_of_ble_eq_true rfl) (by exact ⟨1, 0, S', rfl, hP, zTa_k hT hn ho 0 (by decide)⟩)
  · -- 2
    exact absurd hP (by simp [pQ, pRd])
  · -- 3
    exact absurd hP (by simp [pQ, pRd])
  obtain ⟨x9, S', rfl, hP, hT⟩ := h
  have ho1 := hT.at ho hn
  refine zv_last (pc := 8) C dLa_read_8 ho1 vp_in0 ?_
  refine zv_goto (pc := 9) (tgt := 16) C dLa_read_9 (by decide) ?_
  refine zv_iconst (pc := 16) (v := 0) C dLa_read_16 (by decide) ?_
  exact zv_iret (pc := 17) C hr dLa_read_17 (Nat.le_of_ble_eq_true rfl) (Nat.le_of_ble_eq_true rfl) (by exact ⟨0, _, S', rfl, hP, zTa_0 hT hn ho _⟩)
set_option maxHeartbeats 4000000 in
set_option maxRecDepth 100000 in
theorem cLa_look {O : zO} {l : Launch} (hk : zK O l) (G : zG) {ad : Nat → Nat} {S : aS} {ao : Nat} {g : Nat → Int64} (hR : zRep O G ad S) (hS : aOk S) (hn : ∀ i, i < 12 + 3 * snb S → ao ≠ ad i) (ho : G ao = some (zJ O 1 g)) (y w : Int32) : zM O l yLa_look [Cond.codeWith yLa_look bLa_look 5 (some .int) hLa_look] rmLa_look [.ref (ad 0), .int y, .int w, .ref ao] G 1 6 (zQh O G ad ao S (pLo S y w)) zNo := by
  refine zm_ofH hk (by decide) (Nat.le_of_ble_eq_true rfl) ?_
  intro p e s m below meth c C hex hr
  have hD := hR.2.1
  refine zv_aload_n (pc := 0) C dLa_look_0 rfl ?_
  refine zv_iconst (pc := 1) (v := 0) C dLa_look_1 (by decide) ?_
  refine zv_aload_n (pc := 2) C dLa_look_2 rfl ?_
  refine zv_iload_n (pc := 3) C dLa_look_3 rfl ?_
  refine zv_iload_n (pc := 4) C dLa_look_4 rfl ?_
  refine zv_callV (pc := 5) C dLa_look_5 (eDu_look hk _ hR hS _ _) gLa_49 ⟨rfl, rfl, ⟨Nat.le_of_ble_eq_true rfl, Nat.le_of_ble_eq_true rfl⟩, mDu_look⟩ rfl rfl (Nat.le_of_ble_eq_true rfl) hD rfl rfl ⟨Nat.le_of_ble_eq_true rfl, Nat.le_of_ble_eq_true rfl⟩ (fun E G' h => ?_) (fun v G' h => ?_)
  obtain ⟨k9, S', hE, hP, hT⟩ := h
  rcases hE with ⟨rfl, rfl⟩ | ⟨rfl, rfl⟩ | ⟨rfl, rfl⟩
  · -- 1
    refine zx_catch (name := "java/lang/IndexOutOfBoundsException") C hex [] ⟨0, 10, 13, 47⟩ [] rfl (fun z hz => absurd hz List.not_mem_nil) (by decide) (by decide) zw_520 c527 (tgt := 13) rfl (fun qx => ?_)
    refine zv_astore (pc := 13) C dLa_look_13 (by decide) ?_
    refine zv_iconst (pc := 15) (v := 1) C dLa_look_15 (by decide) ?_
    exact zv_iret (pc := 16) C hr dLa_look_16 (Nat.le_of_ble_eq_true rfl) (Nat.le_of_ble_eq_true rfl) (by exact ⟨1, 0, S', rfl, hP, zTa_k hT hn ho 0 (by decide)⟩)
  · -- 2
    exact absurd hP (by simp [pQ, pLo])
  · -- 3
    exact absurd hP (by simp [pQ, pLo])
  obtain ⟨x9, S', rfl, hP, hT⟩ := h
  have ho1 := hT.at ho hn
  refine zv_i2l (pc := 8) C dLa_look_8 ?_
  refine zv_last (pc := 9) C dLa_look_9 ho1 vp_in0 ?_
  refine zv_goto (pc := 10) (tgt := 17) C dLa_look_10 (by decide) ?_
  refine zv_iconst (pc := 17) (v := 0) C dLa_look_17 (by decide) ?_
  exact zv_iret (pc := 18) C hr dLa_look_18 (Nat.le_of_ble_eq_true rfl) (Nat.le_of_ble_eq_true rfl) (by exact ⟨0, _, S', rfl, hP, zTa_0 hT hn ho _⟩)
