theorem zRep.ro {O : zO} {G : zG} {ad : Nat → Nat} {S S' : aS} (h : zRep O G ad S) (e0 : S'.1 = S.1) (e1 : S'.2.1 = S.2.1) (e2 : S'.2.2.1 = S.2.2.1) (e3 : S'.2.2.2.1 = S.2.2.2.1) {e : va_E} (he : e = oDu (ad 1) (ad 2) (ad 3) (ad 4) (nI (sna S')) (nI (snb S')) (scd S') (slk S') (swr S') (snm S') (sfl S')) : zRep O (zu G (ad 0) e) ad S' := by
  subst he
  refine h.root e1 e2 e3 zu_s ((zu_n (h.ne (by omega) (by omega) (by omega))).trans ?_) (fun j h1 h2 => zu_n (h.ne h2 (by omega) (by omega)))
  rw [h.2.2.1, skd, skd, e0]
theorem zRep.nd {O : zO} {G : zG} {ad : Nat → Nat} {S : aS} (h : zRep O G ad S) : [ad 5, ad 6, ad 7, ad 8, ad 9].Nodup := by
  have q : ∀ i j, i < 12 → j < 12 → i ≠ j → ¬ ad i = ad j := fun i j hi hj hij => h.ne (by omega) (by omega) hij
  simp [q 5 6 (by omega) (by omega) (by omega), q 5 7 (by omega) (by omega) (by omega), q 5 8 (by omega) (by omega) (by omega), q 5 9 (by omega) (by omega) (by omega), q 6 7 (by omega) (by omega) (by omega), q 6 8 (by omega) (by omega) (by omega), q 6 9 (by omega) (by omega) (by omega), q 7 8 (by omega) (by omega) (by omega), q 7 9 (by omega) (by omega) (by omega), q 8 9 (by omega) (by omega) (by omega)]
theorem zRep.out {O : zO} {G : zG} {ad : Nat → Nat} {S : aS} (h : zRep O G ad S) {j : Nat} (hj : j < 12 + 3 * snb S) (hn : j < 5 ∨ 9 < j) : ad j ∉ [ad 5, ad 6, ad 7, ad 8, ad 9] := by
  simp only [List.mem_cons, List.not_mem_nil, or_false]
  rintro (q | q | q | q | q)
  · exact absurd (h.1 _ _ hj (by omega) q) (by omega)
  · exact absurd (h.1 _ _ hj (by omega) q) (by omega)
  · exact absurd (h.1 _ _ hj (by omega) q) (by omega)
  · exact absurd (h.1 _ _ hj (by omega) q) (by omega)
  · exact absurd (h.1 _ _ hj (by omega) q) (by omega)
def voB (b : aB) : aB := (bvd b, bkd b, brv b, 0, 2, brb b, btf b, bfa b, bfc b)
def stB (b : aB) (x : Int32) : aB := (bvd b, bkd b, brv b, bsz b, x, brb b, btf b, bfa b, bfc b)
/-- the batch i is void: w was wrong, z is named -/
def vdS (S : aS) (i : Nat) (w z : Int32) : aS := (S.1, (snb S, fun j => if j = i then voB (sB S i) else sB S j), S.2.2.1, S.2.2.2.1, (scd S, slk S, w, z, sfl S))
def naV (S : aS) (i : Nat) (w : Int32) : Int32 := if w = 2 then (farP (bfa (sB S i)) (bfc (sB S i)) (bsz (sB S i)) (sna S)).1 else -1
/-- r rows of the batch b, of the number x, behind the ledger's -/
def brL (L : aL) (m r : Nat) (x : Int32) (b : aB) : aL := (m, brI L.2.1 L.1 r (fun _ => x), brI L.2.2.1 L.1 r (bfa b), brJ L.2.2.2.1 L.1 r (bfc b), brI L.2.2.2.2.1 L.1 r (fun _ => bvd b), brI L.2.2.2.2.2 L.1 r (fun _ => bkd b))
/-- the batch i has failed -/
def faS (S : aS) (i : Nat) : aS := (S.1, (snb S, fun j => if j = i then flB (sB S i) 0 else sB S j), brL (sL S) (sn S) (bsz (sB S i) / 2) (nI i) (sB S i), S.2.2.2.1, (scd S, slk S, swr S, snm S, sfl S + 1))
/-- the batch i is posted -/
def enS (S : aS) (i : Nat) : aS := (S.1, (snb S, fun j => if j = i then stB (sB S i) 1 else sB S j), brL (sL S) (sn S + bsz (sB S i)) (bsz (sB S i)) (nI i) (sB S i), S.2.2.2.1, (scd S, bkd (sB S i), swr S, snm S, sfl S))
def wrS (S : aS) (w : Int32) : aS := (S.1, S.2.1, S.2.2.1, S.2.2.2.1, (scd S, slk S, w, snm S, sfl S))
set_option maxHeartbeats 4000000 in
set_option maxRecDepth 100000 in
theorem cDu_makeVoid {O : zO} {l : Launch} (hk : zK O l) (G : zG) (i : Nat) (w : Int32) {ad : Nat → Nat} {S : aS} (hR : zRep O G ad S) (hS : aOk S) (hi : i < snb S) : zM O l yDu_makeVoid [Cond.code yDu_makeVoid bDu_makeVoid 3 none] rmDu_makeVoid [.ref (ad 0), .ref (ad (12 + 3 * i)), .int w] G 0 0 (fun v G' => v = none ∧ zTo O G G' ad S (vdS S i w (naV S i w))) zNo := by
  refine zm_of hk (by decide) (Nat.le_of_ble_eq_true rfl) ?_
  intro p e s m below meth c C hex hr hnm
  obtain ⟨hinj, hD, hK1, ⟨fb, hF, hfb⟩, hBk, ⟨hSh, hp1, hp2⟩, hbs⟩ := id hR
  obtain ⟨ok1, ok2, ok3, ok4⟩ := id hS
  obtain ⟨hb1, hb2, hb3⟩ := hbs i hi
  have nb0 : ad (12 + 3 * i) ≠ ad 0 := hR.ne (by omega) (by omega) (by omega)
  have nb0' := Ne.symm nb0
  have nb3 : ad (12 + 3 * i) ≠ ad 3 := hR.ne (by omega) (by omega) (by omega)
  have nb3' := Ne.symm nb3
  have n03 : ad 0 ≠ ad 3 := hR.ne (by omega) (by omega) (by omega)
  have n03' := Ne.symm n03
  have ny0 : ad (13 + 3 * i) ≠ ad 0 := hR.ne (by omega) (by omega) (by omega)
  have nz0 : ad (14 + 3 * i) ≠ ad 0 := hR.ne (by omega) (by omega) (by omega)
  have nyb : ad (13 + 3 * i) ≠ ad (12 + 3 * i) := hR.ne (by omega) (by omega) (by omega)
  have nzb : ad (14 + 3 * i) ≠ ad (12 + 3 * i) := hR.ne (by omega) (by omega) (by omega)
  have ny3 : ad (13 + 3 * i) ≠ ad 3 := hR.ne (by omega) (by omega) (by omega)
  have nz3 : ad (14 + 3 * i) ≠ ad 3 := hR.ne (by omega) (by omega) (by omega)
  refine zv_aload_n (pc := 0) C dDu_makeVoid_0 rfl ?_
  refine zv_iload_n (pc := 1) C dDu_makeVoid_1 rfl ?_
  refine zv_put (pc := 2) C dDu_makeVoid_2 fDu_46 ⟨tkDu, nmDu⟩ (by first | assumption | exact zu_s | (refine (zu_n (by assumption)).trans ?_; first | assumption | exact zu_s | (refine (zu_n (by assumption)).trans ?_; first | assumption | exact zu_s | (refine (zu_n (by assumption)).trans ?_; first | assumption | exact zu_s | (refine (zu_n (by assumption)).trans ?_; first | assumption | exact zu_s))))) rfl (tkDu 8 (by decide)) (by first | rfl | assumption | exact zb_nar _) (by first | rfl | assumption | decide +kernel) (Nat.le_of_ble_eq_true rfl) ?_
  have hR1 := hR.ro (S' := wrS S w) rfl rfl rfl rfl rfl
  have hS1 : aOk (wrS S w) := hS
  have hbb1 : ∀ e9 : va_E, zBat O (zu G (ad 0) e9) (ad (12 + 3 * i)) (ad (13 + 3 * i)) (ad (14 + 3 * i)) (sB S i) := fun e9 => (hbs i hi).kept (zu_n nb0) (zu_n ny0) (zu_n nz0)
  refine zv_aload_n (pc := 5) C dDu_makeVoid_5 rfl ?_
  refine zv_iload_n (pc := 6) C dDu_makeVoid_6 rfl ?_
  refine zv_iconst (pc := 7) (v := 2) C dDu_makeVoid_7 (by decide) ?_
  refine zv_icmp_ne (pc := 8) (tgt := 19) C dDu_makeVoid_8 (by decide) (fun c8 => ?_) (fun c8 => ?_)
  · refine zv_iconst (pc := 19) (v := -1) C dDu_makeVoid_19 (by decide) ?_
    refine zv_put (pc := 20) C dDu_makeVoid_20 fDu_49 ⟨tkDu, nmDu⟩ (by first | assumption | exact zu_s | (refine (zu_n (by assumption)).trans ?_; first | assumption | exact zu_s | (refine (zu_n (by assumption)).trans ?_; first | assumption | exact zu_s | (refine (zu_n (by assumption)).trans ?_; first | assumption | exact zu_s | (refine (zu_n (by assumption)).trans ?_; first | assumption | exact zu_s))))) rfl (tkDu 9 (by decide)) (by first | rfl | assumption | exact zb_nar _) (by first | rfl | assumption | decide +kernel) (Nat.le_of_ble_eq_true rfl) ?_
    refine zv_aload_n (pc := 23) C dDu_makeVoid_23 rfl ?_
    refine zv_iconst (pc := 24) (v := 0) C dDu_makeVoid_24 (by decide) ?_
    refine zv_put (pc := 25) C dDu_makeVoid_25 fDu_218 ⟨tkBa, nmBa⟩ (by first | assumption | exact zu_s | (refine (zu_n (by assumption)).trans ?_; first | assumption | exact zu_s | (refine (zu_n (by assumption)).trans ?_; first | assumption | exact zu_s | (refine (zu_n (by assumption)).trans ?_; first | assumption | exact zu_s | (refine (zu_n (by assumption)).trans ?_; first | assumption | exact zu_s))))) rfl (tkBa 5 (by decide)) (by first | rfl | assumption | exact zb_nar _) (by first | rfl | assumption | decide +kernel) (Nat.le_of_ble_eq_true rfl) ?_
    refine zv_aload_n (pc := 28) C dDu_makeVoid_28 rfl ?_
    refine zv_iconst (pc := 29) (v := 2) C dDu_makeVoid_29 (by decide) ?_
    refine zv_put (pc := 30) C dDu_makeVoid_30 fDu_215 ⟨tkBa, nmBa⟩ (by first | assumption | exact zu_s | (refine (zu_n (by assumption)).trans ?_; first | assumption | exact zu_s | (refine (zu_n (by assumption)).trans ?_; first | assumption | exact zu_s | (refine (zu_n (by assumption)).trans ?_; first | assumption | exact zu_s | (refine (zu_n (by assumption)).trans ?_; first | assumption | exact zu_s))))) rfl (tkBa 6 (by decide)) (by first | rfl | assumption | exact zb_nar _) (by first | rfl | assumption | decide +kernel) (Nat.le_of_ble_eq_true rfl) ?_
    exact zv_vret (pc := 33) C hr dDu_makeVoid_33 (Nat.le_of_ble_eq_true rfl) (Nat.le_of_ble_eq_true rfl) (by refine ⟨rfl, zTo.same (hR.batch (S' := vdS S i w (naV S i w)) (i := i) (b := voB (sB S i)) rfl rfl rfl ?_ (hR.bkept (fun j hj => (zu_n (hR.ne (by omega) (by omega) (by omega))).trans ((zu_n (hR.ne (by omega) (by omega) (by omega))).trans ((zu_n (hR.ne (by omega) (by omega) (by omega))).trans (zu_n (hR.ne (by omega) (by omega) (by omega))))))) ⟨zu_s, (zu_n nyb).trans ((zu_n nyb).trans ((zu_n ny0).trans ((zu_n ny0).trans hb2))), (zu_n nzb).trans ((zu_n nzb).trans ((zu_n nz0).trans ((zu_n nz0).trans hb3)))⟩ (fun j g1 g2 g3 g4 g5 => (zu_n (hR.ne (by omega) (by omega) (by omega))).trans ((zu_n (hR.ne (by omega) (by omega) (by omega))).trans ((zu_n (hR.ne (by omega) (by omega) (by omega))).trans (zu_n (hR.ne (by omega) (by omega) (by omega))))))) rfl (fun q hq => (zu_n (hq _ (by omega))).trans ((zu_n (hq _ (by omega))).trans ((zu_n (hq _ (by omega))).trans (zu_n (hq _ (by omega))))))⟩; refine (zu_n nb0').trans ((zu_n nb0').trans (zu_s.trans ?_)); rw [show snm (vdS S i w (naV S i w)) = naV S i w from rfl]; unfold naV; first | (rw [if_neg c8]; done) | (rw [if_pos c8]; done) | (rw [if_neg c8]; rfl) | (rw [if_pos c8]; rfl))
  · refine zv_aload_n (pc := 11) C dDu_makeVoid_11 rfl ?_
    refine zv_aload_n (pc := 12) C dDu_makeVoid_12 rfl ?_
    refine zv_callV (pc := 13) C dDu_makeVoid_13 (cDu_accountFarthestFromZero hk _ _ (hbb1 _) (by have := ok4 i hi; omega) hR1 hS1) gDu_239 ⟨rfl, rfl, ⟨Nat.le_of_ble_eq_true rfl, Nat.le_of_ble_eq_true rfl⟩, mDu_accountFarthestFromZero⟩ rfl rfl (Nat.le_of_ble_eq_true rfl) (by first | assumption | exact zu_s | (refine (zu_n (by assumption)).trans ?_; first | assumption | exact zu_s | (refine (zu_n (by assumption)).trans ?_; first | assumption | exact zu_s | (refine (zu_n (by assumption)).trans ?_; first | assumption | exact zu_s | (refine (zu_n (by assumption)).trans ?_; first | assumption | exact zu_s))))) rfl rfl ⟨Nat.le_of_ble_eq_true rfl, Nat.le_of_ble_eq_true rfl⟩ (fun _ _ h => h.elim) (fun v G' h => ?_)
    obtain ⟨rfl, rfl⟩ := h
    refine zv_goto (pc := 16) (tgt := 20) C dDu_makeVoid_16 (by decide) ?_
    refine zv_put (pc := 20) C dDu_makeVoid_20 fDu_49 ⟨tkDu, nmDu⟩ (by first | assumption | exact zu_s | (refine (zu_n (by assumption)).trans ?_; first | assumption | exact zu_s | (refine (zu_n (by assumption)).trans ?_; first | assumption | exact zu_s | (refine (zu_n (by assumption)).trans ?_; first | assumption | exact zu_s | (refine (zu_n (by assumption)).trans ?_; first | assumption | exact zu_s))))) rfl (tkDu 9 (by decide)) (by first | rfl | assumption | exact zb_nar _) (by first | rfl | assumption | decide +kernel) (Nat.le_of_ble_eq_true rfl) ?_
    refine zv_aload_n (pc := 23) C dDu_makeVoid_23 rfl ?_
    refine zv_iconst (pc := 24) (v := 0) C dDu_makeVoid_24 (by decide) ?_
    refine zv_put (pc := 25) C dDu_makeVoid_25 fDu_218 ⟨tkBa, nmBa⟩ (by first | assumption | exact zu_s | (refine (zu_n (by assumption)).trans ?_; first | assumption | exact zu_s | (refine (zu_n (by assumption)).trans ?_; first | assumption | exact zu_s | (refine (zu_n (by assumption)).trans ?_; first | assumption | exact zu_s | (refine (zu_n (by assumption)).trans ?_; first | assumption | exact zu_s))))) rfl (tkBa 5 (by decide)) (by first | rfl | assumption | exact zb_nar _) (by first | rfl | assumption | decide +kernel) (Nat.le_of_ble_eq_true rfl) ?_
    refine zv_aload_n (pc := 28) C dDu_makeVoid_28 rfl ?_
    refine zv_iconst (pc := 29) (v := 2) C dDu_makeVoid_29 (by decide) ?_
    refine zv_put (pc := 30) C dDu_makeVoid_30 fDu_215 ⟨tkBa, nmBa⟩ (by first | assumption | exact zu_s | (refine (zu_n (by assumption)).trans ?_; first | assumption | exact zu_s | (refine (zu_n (by assumption)).trans ?_; first | assumption | exact zu_s | (refine (zu_n (by assumption)).trans ?_; first | assumption | exact zu_s | (refine (zu_n (by assumption)).trans ?_; first | assumption | exact zu_s))))) rfl (tkBa 6 (by decide)) (by first | rfl | assumption | exact zb_nar _) (by first | rfl | assumption | decide +kernel) (Nat.le_of_ble_eq_true rfl) ?_
    exact zv_vret (pc := 33) C hr dDu_makeVoid_33 (Nat.le_of_ble_eq_true rfl) (Nat.le_of_ble_eq_true rfl) (by refine ⟨rfl, zTo.same (hR.batch (S' := vdS S i w (naV S i w)) (i := i) (b := voB (sB S i)) rfl rfl rfl ?_ (hR.bkept (fun j hj => (zu_n (hR.ne (by omega) (by omega) (by omega))).trans ((zu_n (hR.ne (by omega) (by omega) (by omega))).trans ((zu_n (hR.ne (by omega) (by omega) (by omega))).trans (zu_n (hR.ne (by omega) (by omega) (by omega))))))) ⟨zu_s, (zu_n nyb).trans ((zu_n nyb).trans ((zu_n ny0).trans ((zu_n ny0).trans hb2))), (zu_n nzb).trans ((zu_n nzb).trans ((zu_n nz0).trans ((zu_n nz0).trans hb3)))⟩ (fun j g1 g2 g3 g4 g5 => (zu_n (hR.ne (by omega) (by omega) (by omega))).trans ((zu_n (hR.ne (by omega) (by omega) (by omega))).trans ((zu_n (hR.ne (by omega) (by omega) (by omega))).trans (zu_n (hR.ne (by omega) (by omega) (by omega))))))) rfl (fun q hq => (zu_n (hq _ (by omega))).trans ((zu_n (hq _ (by omega))).trans ((zu_n (hq _ (by omega))).trans (zu_n (hq _ (by omega))))))⟩; refine (zu_n nb0').trans ((zu_n nb0').trans (zu_s.trans ?_)); rw [show snm (vdS S i w (naV S i w)) = naV S i w from rfl]; unfold naV; first | (rw [if_neg c8]; done) | (rw [if_pos c8]; done) | (rw [if_neg c8]; rfl) | (rw [if_pos c8]; rfl))
set_option maxHeartbeats 4000000 in
set_option maxRecDepth 100000 in
theorem cDu_failHalfway {O : zO} {l : Launch} (hk : zK O l) (G : zG) (i : Nat) {ad : Nat → Nat} {S : aS} (hR : zRep O G ad S) (hS : aOk S) (hi : i < snb S) (hrm : sn S + bsz (sB S i) ≤ 400) : zM O l yDu_failHalfway [Cond.code yDu_failHalfway bDu_failHalfway 3 none] rmDu_failHalfway [.ref (ad 0), .int (nI i), .ref (ad (12 + 3 * i))] G 0 0 (fun v G' => v = none ∧ zTo O G G' ad S (faS S i)) zNo := by
  refine zm_of hk (by decide) (Nat.le_of_ble_eq_true rfl) ?_
  intro p e s m below meth c C hex hr hnm
  obtain ⟨hinj, hD, hK1, ⟨fb, hF, hfb⟩, hBk, ⟨hSh, hp1, hp2⟩, hbs⟩ := id hR
  obtain ⟨ok1, ok2, ok3, ok4⟩ := id hS
  obtain ⟨hb1, hb2, hb3⟩ := hbs i hi
  have nb0 : ad (12 + 3 * i) ≠ ad 0 := hR.ne (by omega) (by omega) (by omega)
  have nb0' := Ne.symm nb0
  have nb3 : ad (12 + 3 * i) ≠ ad 3 := hR.ne (by omega) (by omega) (by omega)
  have nb3' := Ne.symm nb3
  have n03 : ad 0 ≠ ad 3 := hR.ne (by omega) (by omega) (by omega)
  have n03' := Ne.symm n03
  have ny0 : ad (13 + 3 * i) ≠ ad 0 := hR.ne (by omega) (by omega) (by omega)
  have nz0 : ad (14 + 3 * i) ≠ ad 0 := hR.ne (by omega) (by omega) (by omega)
  have nyb : ad (13 + 3 * i) ≠ ad (12 + 3 * i) := hR.ne (by omega) (by omega) (by omega)
  have nzb : ad (14 + 3 * i) ≠ ad (12 + 3 * i) := hR.ne (by omega) (by omega) (by omega)
  have ny3 : ad (13 + 3 * i) ≠ ad 3 := hR.ne (by omega) (by omega) (by omega)
  have nz3 : ad (14 + 3 * i) ≠ ad 3 := hR.ne (by omega) (by omega) (by omega)
  obtain ⟨hq0, hq1, hq2, hq3, hq4, hq5⟩ := id hBk
  have hsz := ok4 i hi
  refine zv_aload_n (pc := 0) C dDu_failHalfway_0 rfl ?_
  refine zv_get (pc := 1) C dDu_failHalfway_1 fDu_29 (by first | assumption | exact zu_s | (refine (zu_n (by assumption)).trans ?_; first | assumption | exact zu_s | (refine (zu_n (by assumption)).trans ?_; first | assumption | exact zu_s | (refine (zu_n (by assumption)).trans ?_; first | assumption | exact zu_s | (refine (zu_n (by assumption)).trans ?_; first | assumption | exact zu_s))))) rfl ?_
  refine zv_iload_n (pc := 4) C dDu_failHalfway_4 rfl ?_
  refine zv_aload_n (pc := 5) C dDu_failHalfway_5 rfl ?_
  refine zv_aload_n (pc := 6) C dDu_failHalfway_6 rfl ?_
  refine zv_get (pc := 7) C dDu_failHalfway_7 fDu_218 (by first | assumption | exact zu_s | (refine (zu_n (by assumption)).trans ?_; first | assumption | exact zu_s | (refine (zu_n (by assumption)).trans ?_; first | assumption | exact zu_s | (refine (zu_n (by assumption)).trans ?_; first | assumption | exact zu_s | (refine (zu_n (by assumption)).trans ?_; first | assumption | exact zu_s))))) rfl ?_
  refine zv_iconst (pc := 10) (v := 2) C dDu_failHalfway_10 (by decide) ?_
  refine zv_idiv (pc := 11) C dDu_failHalfway_11 (by decide) ?_
  refine zv_topi (y := nI (bsz (sB S i) / 2)) (by rw [show (2 : Int32) = nI 2 from rfl, pk_div (by omega) (by omega) (by omega)]) ?_
  refine zv_callV (pc := 12) C dDu_failHalfway_12 (cBk_bringIn hk _ _ _ _ _ (bsz (sB S i) / 2) _ hBk hR.nd hb1 hb2 hb3 ⟨nb3, ny3, nz3⟩ (hR.out (by omega) (by omega)) (hR.out (by omega) (by omega)) (hR.out (by omega) (by omega)) (hR.out (by omega) (by omega)) (by have := ok4 i hi; omega) (by omega)) gDu_252 ⟨rfl, rfl, ⟨Nat.le_of_ble_eq_true rfl, Nat.le_of_ble_eq_true rfl⟩, mBk_bringIn⟩ rfl rfl (Nat.le_of_ble_eq_true rfl) (by first | assumption | exact zu_s | (refine (zu_n (by assumption)).trans ?_; first | assumption | exact zu_s | (refine (zu_n (by assumption)).trans ?_; first | assumption | exact zu_s | (refine (zu_n (by assumption)).trans ?_; first | assumption | exact zu_s | (refine (zu_n (by assumption)).trans ?_; first | assumption | exact zu_s))))) rfl rfl ⟨Nat.le_of_ble_eq_true rfl, Nat.le_of_ble_eq_true rfl⟩ (fun _ _ h => h.elim) (fun v G' h => ?_)
  obtain ⟨rfl, ⟨w0, w1, w2, w3, w4, w5⟩, wk⟩ := h
  have wD := (wk (ad 0) n03 (hR.out (by omega) (by omega))).trans hD
  have wb1 := (wk _ nb3 (hR.out (by omega) (by omega))).trans hb1
  refine zv_aload_n (pc := 15) C dDu_failHalfway_15 rfl ?_
  refine zv_get (pc := 16) C dDu_failHalfway_16 fDu_29 (by first | assumption | exact zu_s | (refine (zu_n (by assumption)).trans ?_; first | assumption | exact zu_s | (refine (zu_n (by assumption)).trans ?_; first | assumption | exact zu_s | (refine (zu_n (by assumption)).trans ?_; first | assumption | exact zu_s | (refine (zu_n (by assumption)).trans ?_; first | assumption | exact zu_s))))) rfl ?_
  refine zv_callV (pc := 19) C dDu_failHalfway_19 (cBk_takeHeldOut hk _ _ _ _ w0 (by omega)) gDu_256 ⟨rfl, rfl, ⟨Nat.le_of_ble_eq_true rfl, Nat.le_of_ble_eq_true rfl⟩, mBk_takeHeldOut⟩ rfl rfl (Nat.le_of_ble_eq_true rfl) (by first | assumption | exact zu_s | (refine (zu_n (by assumption)).trans ?_; first | assumption | exact zu_s | (refine (zu_n (by assumption)).trans ?_; first | assumption | exact zu_s | (refine (zu_n (by assumption)).trans ?_; first | assumption | exact zu_s | (refine (zu_n (by assumption)).trans ?_; first | assumption | exact zu_s))))) rfl rfl ⟨Nat.le_of_ble_eq_true rfl, Nat.le_of_ble_eq_true rfl⟩ (fun _ _ h => h.elim) (fun v G' h => ?_)
  obtain ⟨rfl, rfl⟩ := h
  refine zv_aload_n (pc := 22) C dDu_failHalfway_22 rfl ?_
  refine zv_iconst (pc := 23) (v := 0) C dDu_failHalfway_23 (by decide) ?_
  refine zv_put (pc := 24) C dDu_failHalfway_24 fDu_100 ⟨tkBa, nmBa⟩ (by first | assumption | exact zu_s | (refine (zu_n (by assumption)).trans ?_; first | assumption | exact zu_s | (refine (zu_n (by assumption)).trans ?_; first | assumption | exact zu_s | (refine (zu_n (by assumption)).trans ?_; first | assumption | exact zu_s | (refine (zu_n (by assumption)).trans ?_; first | assumption | exact zu_s))))) rfl (tkBa 8 (by decide)) (by first | rfl | assumption | exact zb_nar _) (by first | rfl | assumption | decide +kernel) (Nat.le_of_ble_eq_true rfl) ?_
  refine zv_aload_n (pc := 27) C dDu_failHalfway_27 rfl ?_
  refine zv_dup (pc := 28) C dDu_failHalfway_28 rfl ?_
  refine zv_get (pc := 29) C dDu_failHalfway_29 fDu_52 (by first | assumption | exact zu_s | (refine (zu_n (by assumption)).trans ?_; first | assumption | exact zu_s | (refine (zu_n (by assumption)).trans ?_; first | assumption | exact zu_s | (refine (zu_n (by assumption)).trans ?_; first | assumption | exact zu_s | (refine (zu_n (by assumption)).trans ?_; first | assumption | exact zu_s))))) rfl ?_
  refine zv_iconst (pc := 32) (v := 1) C dDu_failHalfway_32 (by decide) ?_
  refine zv_iadd (pc := 33) C dDu_failHalfway_33 ?_
  refine zv_put (pc := 34) C dDu_failHalfway_34 fDu_52 ⟨tkDu, nmDu⟩ (by first | assumption | exact zu_s | (refine (zu_n (by assumption)).trans ?_; first | assumption | exact zu_s | (refine (zu_n (by assumption)).trans ?_; first | assumption | exact zu_s | (refine (zu_n (by assumption)).trans ?_; first | assumption | exact zu_s | (refine (zu_n (by assumption)).trans ?_; first | assumption | exact zu_s))))) rfl (tkDu 10 (by decide)) (by first | rfl | assumption | exact zb_nar _) (by first | rfl | assumption | decide +kernel) (Nat.le_of_ble_eq_true rfl) ?_
  exact zv_vret (pc := 37) C hr dDu_failHalfway_37 (Nat.le_of_ble_eq_true rfl) (Nat.le_of_ble_eq_true rfl) (by refine ⟨rfl, zTo.same (hR.batch (S' := faS S i) (i := i) (b := flB (sB S i) 0) rfl rfl rfl zu_s ⟨(zu_n n03').trans ((zu_n nb3').trans (zu_s.trans ?_)), (zu_n (hR.ne (by omega) (by omega) (by omega))).trans ((zu_n (hR.ne (by omega) (by omega) (by omega))).trans ((zu_n (hR.ne (by omega) (by omega) (by omega))).trans ((zu_n (hR.ne (by omega) (by omega) (by omega))).trans w1))), (zu_n (hR.ne (by omega) (by omega) (by omega))).trans ((zu_n (hR.ne (by omega) (by omega) (by omega))).trans ((zu_n (hR.ne (by omega) (by omega) (by omega))).trans ((zu_n (hR.ne (by omega) (by omega) (by omega))).trans w2))), (zu_n (hR.ne (by omega) (by omega) (by omega))).trans ((zu_n (hR.ne (by omega) (by omega) (by omega))).trans ((zu_n (hR.ne (by omega) (by omega) (by omega))).trans ((zu_n (hR.ne (by omega) (by omega) (by omega))).trans w3))), (zu_n (hR.ne (by omega) (by omega) (by omega))).trans ((zu_n (hR.ne (by omega) (by omega) (by omega))).trans ((zu_n (hR.ne (by omega) (by omega) (by omega))).trans ((zu_n (hR.ne (by omega) (by omega) (by omega))).trans w4))), (zu_n (hR.ne (by omega) (by omega) (by omega))).trans ((zu_n (hR.ne (by omega) (by omega) (by omega))).trans ((zu_n (hR.ne (by omega) (by omega) (by omega))).trans ((zu_n (hR.ne (by omega) (by omega) (by omega))).trans w5)))⟩ ⟨(zu_n nb0).trans zu_s, (zu_n ny0).trans ((zu_n nyb).trans ((zu_n ny3).trans ((zu_n ny3).trans ((wk _ ny3 (hR.out (by omega) (by omega))).trans hb2)))), (zu_n nz0).trans ((zu_n nzb).trans ((zu_n nz3).trans ((zu_n nz3).trans ((wk _ nz3 (hR.out (by omega) (by omega))).trans hb3))))⟩ (fun j g1 g2 g3 g4 g5 => (zu_n (hR.ne g5 (by omega) g1)).trans ((zu_n (hR.ne g5 (by omega) (by omega))).trans ((zu_n (hR.ne g5 (by omega) g2)).trans ((zu_n (hR.ne g5 (by omega) g2)).trans (wk _ (hR.ne g5 (by omega) g2) (hR.out g5 (by omega)))))))) rfl (fun q hq => (zu_n (hq _ (by omega))).trans ((zu_n (hq _ (by omega))).trans ((zu_n (hq _ (by omega))).trans ((zu_n (hq _ (by omega))).trans (wk q (hq _ (by omega)) (by simp only [List.mem_cons, List.not_mem_nil, or_false, not_or]; exact ⟨hq _ (by omega), hq _ (by omega), hq _ (by omega), hq _ (by omega), hq _ (by omega)⟩))))))⟩; rw [show sn S + bsz (sB S i) / 2 - (0 + bsz (sB S i) / 2) = sn S by omega]; rfl)
set_option maxHeartbeats 4000000 in
set_option maxRecDepth 100000 in
theorem cDu_enter {O : zO} {l : Launch} (hk : zK O l) (G : zG) (i : Nat) {ad : Nat → Nat} {S : aS} (hR : zRep O G ad S) (hS : aOk S) (hi : i < snb S) (hrm : sn S + bsz (sB S i) ≤ 400) : zM O l yDu_enter [Cond.code yDu_enter bDu_enter 3 none] rmDu_enter [.ref (ad 0), .int (nI i), .ref (ad (12 + 3 * i))] G 0 0 (fun v G' => v = none ∧ zTo O G G' ad S (enS S i)) zNo := by
  refine zm_of hk (by decide) (Nat.le_of_ble_eq_true rfl) ?_
  intro p e s m below meth c C hex hr hnm
  obtain ⟨hinj, hD, hK1, ⟨fb, hF, hfb⟩, hBk, ⟨hSh, hp1, hp2⟩, hbs⟩ := id hR
  obtain ⟨ok1, ok2, ok3, ok4⟩ := id hS
  obtain ⟨hb1, hb2, hb3⟩ := hbs i hi
  have nb0 : ad (12 + 3 * i) ≠ ad 0 := hR.ne (by omega) (by omega) (by omega)
  have nb0' := Ne.symm nb0
  have nb3 : ad (12 + 3 * i) ≠ ad 3 := hR.ne (by omega) (by omega) (by omega)
  have nb3' := Ne.symm nb3
  have n03 : ad 0 ≠ ad 3 := hR.ne (by omega) (by omega) (by omega)
  have n03' := Ne.symm n03
  have ny0 : ad (13 + 3 * i) ≠ ad 0 := hR.ne (by omega) (by omega) (by omega)
  have nz0 : ad (14 + 3 * i) ≠ ad 0 := hR.ne (by omega) (by omega) (by omega)
  have nyb : ad (13 + 3 * i) ≠ ad (12 + 3 * i) := hR.ne (by omega) (by omega) (by omega)
  have nzb : ad (14 + 3 * i) ≠ ad (12 + 3 * i) := hR.ne (by omega) (by omega) (by omega)
  have ny3 : ad (13 + 3 * i) ≠ ad 3 := hR.ne (by omega) (by omega) (by omega)
  have nz3 : ad (14 + 3 * i) ≠ ad 3 := hR.ne (by omega) (by omega) (by omega)
  obtain ⟨hq0, hq1, hq2, hq3, hq4, hq5⟩ := id hBk
  have hsz := ok4 i hi
  refine zv_aload_n (pc := 0) C dDu_enter_0 rfl ?_
  refine zv_get (pc := 1) C dDu_enter_1 fDu_29 (by first | assumption | exact zu_s | (refine (zu_n (by assumption)).trans ?_; first | assumption | exact zu_s | (refine (zu_n (by assumption)).trans ?_; first | assumption | exact zu_s | (refine (zu_n (by assumption)).trans ?_; first | assumption | exact zu_s | (refine (zu_n (by assumption)).trans ?_; first | assumption | exact zu_s))))) rfl ?_
  refine zv_iload_n (pc := 4) C dDu_enter_4 rfl ?_
  refine zv_aload_n (pc := 5) C dDu_enter_5 rfl ?_
  refine zv_aload_n (pc := 6) C dDu_enter_6 rfl ?_
  refine zv_get (pc := 7) C dDu_enter_7 fDu_218 (by first | assumption | exact zu_s | (refine (zu_n (by assumption)).trans ?_; first | assumption | exact zu_s | (refine (zu_n (by assumption)).trans ?_; first | assumption | exact zu_s | (refine (zu_n (by assumption)).trans ?_; first | assumption | exact zu_s | (refine (zu_n (by assumption)).trans ?_; first | assumption | exact zu_s))))) rfl ?_
  refine zv_callV (pc := 10) C dDu_enter_10 (cBk_bringIn hk _ _ _ _ _ (bsz (sB S i)) _ hBk hR.nd hb1 hb2 hb3 ⟨nb3, ny3, nz3⟩ (hR.out (by omega) (by omega)) (hR.out (by omega) (by omega)) (hR.out (by omega) (by omega)) (hR.out (by omega) (by omega)) (by have := ok4 i hi; omega) (by omega)) gDu_252 ⟨rfl, rfl, ⟨Nat.le_of_ble_eq_true rfl, Nat.le_of_ble_eq_true rfl⟩, mBk_bringIn⟩ rfl rfl (Nat.le_of_ble_eq_true rfl) (by first | assumption | exact zu_s | (refine (zu_n (by assumption)).trans ?_; first | assumption | exact zu_s | (refine (zu_n (by assumption)).trans ?_; first | assumption | exact zu_s | (refine (zu_n (by assumption)).trans ?_; first | assumption | exact zu_s | (refine (zu_n (by assumption)).trans ?_; first | assumption | exact zu_s))))) rfl rfl ⟨Nat.le_of_ble_eq_true rfl, Nat.le_of_ble_eq_true rfl⟩ (fun _ _ h => h.elim) (fun v G' h => ?_)
  obtain ⟨rfl, ⟨w0, w1, w2, w3, w4, w5⟩, wk⟩ := h
  have wD := (wk (ad 0) n03 (hR.out (by omega) (by omega))).trans hD
  have wb1 := (wk _ nb3 (hR.out (by omega) (by omega))).trans hb1
  refine zv_aload_n (pc := 13) C dDu_enter_13 rfl ?_
  refine zv_get (pc := 14) C dDu_enter_14 fDu_29 (by first | assumption | exact zu_s | (refine (zu_n (by assumption)).trans ?_; first | assumption | exact zu_s | (refine (zu_n (by assumption)).trans ?_; first | assumption | exact zu_s | (refine (zu_n (by assumption)).trans ?_; first | assumption | exact zu_s | (refine (zu_n (by assumption)).trans ?_; first | assumption | exact zu_s))))) rfl ?_
  refine zv_callV (pc := 17) C dDu_enter_17 (cBk_settleHeld hk _ _ _ _ w0) gDu_259 ⟨rfl, rfl, ⟨Nat.le_of_ble_eq_true rfl, Nat.le_of_ble_eq_true rfl⟩, mBk_settleHeld⟩ rfl rfl (Nat.le_of_ble_eq_true rfl) (by first | assumption | exact zu_s | (refine (zu_n (by assumption)).trans ?_; first | assumption | exact zu_s | (refine (zu_n (by assumption)).trans ?_; first | assumption | exact zu_s | (refine (zu_n (by assumption)).trans ?_; first | assumption | exact zu_s | (refine (zu_n (by assumption)).trans ?_; first | assumption | exact zu_s))))) rfl rfl ⟨Nat.le_of_ble_eq_true rfl, Nat.le_of_ble_eq_true rfl⟩ (fun _ _ h => h.elim) (fun v G' h => ?_)
  obtain ⟨rfl, rfl⟩ := h
  refine zv_aload_n (pc := 20) C dDu_enter_20 rfl ?_
  refine zv_iconst (pc := 21) (v := 1) C dDu_enter_21 (by decide) ?_
  refine zv_put (pc := 22) C dDu_enter_22 fDu_215 ⟨tkBa, nmBa⟩ (by first | assumption | exact zu_s | (refine (zu_n (by assumption)).trans ?_; first | assumption | exact zu_s | (refine (zu_n (by assumption)).trans ?_; first | assumption | exact zu_s | (refine (zu_n (by assumption)).trans ?_; first | assumption | exact zu_s | (refine (zu_n (by assumption)).trans ?_; first | assumption | exact zu_s))))) rfl (tkBa 6 (by decide)) (by first | rfl | assumption | exact zb_nar _) (by first | rfl | assumption | decide +kernel) (Nat.le_of_ble_eq_true rfl) ?_
  refine zv_aload_n (pc := 25) C dDu_enter_25 rfl ?_
  refine zv_aload_n (pc := 26) C dDu_enter_26 rfl ?_
  refine zv_get (pc := 27) C dDu_enter_27 fDu_222 (by first | assumption | exact zu_s | (refine (zu_n (by assumption)).trans ?_; first | assumption | exact zu_s | (refine (zu_n (by assumption)).trans ?_; first | assumption | exact zu_s | (refine (zu_n (by assumption)).trans ?_; first | assumption | exact zu_s | (refine (zu_n (by assumption)).trans ?_; first | assumption | exact zu_s))))) rfl ?_
  refine zv_put (pc := 30) C dDu_enter_30 fDu_43 ⟨tkDu, nmDu⟩ (by first | assumption | exact zu_s | (refine (zu_n (by assumption)).trans ?_; first | assumption | exact zu_s | (refine (zu_n (by assumption)).trans ?_; first | assumption | exact zu_s | (refine (zu_n (by assumption)).trans ?_; first | assumption | exact zu_s | (refine (zu_n (by assumption)).trans ?_; first | assumption | exact zu_s))))) rfl (tkDu 7 (by decide)) (by first | rfl | assumption | exact zb_nar _) (by first | rfl | assumption | decide +kernel) (Nat.le_of_ble_eq_true rfl) ?_
  exact zv_vret (pc := 33) C hr dDu_enter_33 (Nat.le_of_ble_eq_true rfl) (Nat.le_of_ble_eq_true rfl) (by exact ⟨rfl, zTo.same (hR.batch (S' := enS S i) (i := i) (b := stB (sB S i) 1) rfl rfl rfl zu_s ⟨(zu_n n03').trans ((zu_n nb3').trans zu_s), (zu_n (hR.ne (by omega) (by omega) (by omega))).trans ((zu_n (hR.ne (by omega) (by omega) (by omega))).trans ((zu_n (hR.ne (by omega) (by omega) (by omega))).trans w1)), (zu_n (hR.ne (by omega) (by omega) (by omega))).trans ((zu_n (hR.ne (by omega) (by omega) (by omega))).trans ((zu_n (hR.ne (by omega) (by omega) (by omega))).trans w2)), (zu_n (hR.ne (by omega) (by omega) (by omega))).trans ((zu_n (hR.ne (by omega) (by omega) (by omega))).trans ((zu_n (hR.ne (by omega) (by omega) (by omega))).trans w3)), (zu_n (hR.ne (by omega) (by omega) (by omega))).trans ((zu_n (hR.ne (by omega) (by omega) (by omega))).trans ((zu_n (hR.ne (by omega) (by omega) (by omega))).trans w4)), (zu_n (hR.ne (by omega) (by omega) (by omega))).trans ((zu_n (hR.ne (by omega) (by omega) (by omega))).trans ((zu_n (hR.ne (by omega) (by omega) (by omega))).trans w5))⟩ ⟨(zu_n nb0).trans zu_s, (zu_n ny0).trans ((zu_n nyb).trans ((zu_n ny3).trans ((wk _ ny3 (hR.out (by omega) (by omega))).trans hb2))), (zu_n nz0).trans ((zu_n nzb).trans ((zu_n nz3).trans ((wk _ nz3 (hR.out (by omega) (by omega))).trans hb3)))⟩ (fun j g1 g2 g3 g4 g5 => (zu_n (hR.ne g5 (by omega) g1)).trans ((zu_n (hR.ne g5 (by omega) (by omega))).trans ((zu_n (hR.ne g5 (by omega) g2)).trans (wk _ (hR.ne g5 (by omega) g2) (hR.out g5 (by omega))))))) rfl (fun q hq => (zu_n (hq _ (by omega))).trans ((zu_n (hq _ (by omega))).trans ((zu_n (hq _ (by omega))).trans (wk q (hq _ (by omega)) (by simp only [List.mem_cons, List.not_mem_nil, or_false, not_or]; exact ⟨hq _ (by omega), hq _ (by omega), hq _ (by omega), hq _ (by omega), hq _ (by omega)⟩)))))⟩)
