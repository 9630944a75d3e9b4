def nwM : aM := ((0, 0, 0, 0), (-1, -1, 0, -1, 0), (fun _ => 0, fun _ => 0, fun _ => 0, fun _ => 0, fun _ => 0, fun _ => 0, fun _ => 0, fun _ => 0), (fun _ => 0, fun _ => 0, fun _ => 0), (fun _ => 0, fun _ => 0))
def zMn (O : zO) (G G' : zG) (a0 : Nat) : Prop := ∃ am : Nat → Nat, am 0 = a0 ∧ zMm O G' am nwM ∧ (∀ i, 0 < i → i < 14 → G (am i) = none) ∧ ∀ q e, G q = some e → q ≠ a0 → G' q = some e
theorem zv_gen {O : zO} {p : Program} {l : Launch} {e : Env} {R : Room} {s : State} {m : MethodId} {args : Array Value} {below : List Frame} {meth : Method} {c : Code} {nL : Nat} {Q : State → Prop} {pc : Nat} {ls : List (Nat × Value)} {st : List Value} {G : zG} {kc ks : Nat} (P : zG → Prop) (h : P G) (kk : ∀ G2, P G2 → zV O p l e R s m args below meth c nL Q pc ls st G2 kc ks) : zV O p l e R s m args below meth c nL Q pc ls st G kc ks := kk G h
theorem zfr {G G1 : zG} {a0 q : Nat} (fr : ∀ x e, G x = some e → x ≠ a0 → G1 x = some e) (h : G1 q = none) (hq : q ≠ a0) : G q = none := by
  cases hG : G q with
  | none => rfl
  | some e => rw [fr q e hG hq] at h; cases h
set_option maxHeartbeats 4000000 in
set_option maxRecDepth 100000 in
theorem cMo_init {O : zO} {l : Launch} (hk : zK O l) (G : zG) (a0 : Nat) (hB : G a0 = some (.inr (4, [.int 0, .int 0, .int 0, .int 0, .int 0, .int 0, .int 0, .int 0, .int 0, .null, .null, .null, .null, .null, .null, .null, .null, .null, .null, .null, .null, .null]))) : zM O l yMo_init [Cond.code yMo_init bMo_init 1 none] rmMo_init [.ref a0] G 13 5542 (fun v G' => v = none ∧ zMn O G G' a0) zNo := by
  refine zm_of hk (by decide) (Nat.le_of_ble_eq_true rfl) ?_
  intro p e s m below meth c C hex hr hnm
  refine zv_aload_n (pc := 0) C dMo_init_0 rfl ?_
  refine zv_objInit (pc := 1) C dMo_init_1 zw_555 zw_47 zw_48 (Nat.le_of_ble_eq_true rfl) (Nat.le_of_ble_eq_true rfl) ?_
  refine zv_aload_n (pc := 4) C dMo_init_4 rfl ?_
  refine zv_iconst (pc := 5) (v := -1) C dMo_init_5 (by decide) ?_
  refine zv_put (pc := 6) C dMo_init_6 fMo_9 ⟨tkMo, nmMo⟩ (by first | assumption | exact zu_s | (refine (zu_n (by assumption)).trans ?_; first | assumption | exact zu_s | (refine (zu_n (by assumption)).trans ?_; first | assumption | exact zu_s | (refine (zu_n (by assumption)).trans ?_; first | assumption | exact zu_s)))) rfl (tkMo 4 (by decide)) (by first | rfl | assumption | exact zb_nar _) (by first | rfl | assumption | decide +kernel) (Nat.le_of_ble_eq_true rfl) ?_
  refine zv_aload_n (pc := 9) C dMo_init_9 rfl ?_
  refine zv_iconst (pc := 10) (v := -1) C dMo_init_10 (by decide) ?_
  refine zv_put (pc := 11) C dMo_init_11 fMo_13 ⟨tkMo, nmMo⟩ (by first | assumption | exact zu_s | (refine (zu_n (by assumption)).trans ?_; first | assumption | exact zu_s | (refine (zu_n (by assumption)).trans ?_; first | assumption | exact zu_s | (refine (zu_n (by assumption)).trans ?_; first | assumption | exact zu_s)))) rfl (tkMo 5 (by decide)) (by first | rfl | assumption | exact zb_nar _) (by first | rfl | assumption | decide +kernel) (Nat.le_of_ble_eq_true rfl) ?_
  refine zv_aload_n (pc := 14) C dMo_init_14 rfl ?_
  refine zv_iconst (pc := 15) (v := -1) C dMo_init_15 (by decide) ?_
  refine zv_put (pc := 16) C dMo_init_16 fMo_16 ⟨tkMo, nmMo⟩ (by first | assumption | exact zu_s | (refine (zu_n (by assumption)).trans ?_; first | assumption | exact zu_s | (refine (zu_n (by assumption)).trans ?_; first | assumption | exact zu_s | (refine (zu_n (by assumption)).trans ?_; first | assumption | exact zu_s)))) rfl (tkMo 7 (by decide)) (by first | rfl | assumption | exact zb_nar _) (by first | rfl | assumption | decide +kernel) (Nat.le_of_ble_eq_true rfl) ?_
  refine zv_gen (fun G2 => G2 a0 = some (.inr (4, [.int 0, .int 0, .int 0, .int 0, .int (-1), .int (-1), .int 0, .int (-1), .int 0, .null, .null, .null, .null, .null, .null, .null, .null, .null, .null, .null, .null, .null])) ∧ (∀ x e, G x = some e → x ≠ a0 → G2 x = some e)) ⟨zu_s, fun x e w1 w2 => (zu_n w2).trans ((zu_n w2).trans ((zu_n w2).trans w1))⟩ (fun G0 hP => ?_)
  obtain ⟨f0, fr⟩ := hP
  refine zv_aload_n (pc := 19) C dMo_init_19 rfl ?_
  refine zv_bipush (pc := 20) (v := 12) C dMo_init_20 (by decide) ?_
  refine zv_newI (pc := 22) C 12 dMo_init_22 zw_86 (by decide) (by decide) (by decide) (Nat.le_of_ble_eq_true rfl) (Nat.le_of_ble_eq_true rfl) (fun q22 h22 => ?_)
  have n22_0 : q22 ≠ a0 := zu_fresh h22 f0
  have n22_0' := Ne.symm n22_0
  have z22 : G q22 = none := zfr fr h22 n22_0
  refine zv_putF (pc := 24) C dMo_init_24 fMo_19 ⟨tkMo, nmMo⟩ hnm ((zu_n n22_0').trans f0) rfl rfl (tkMo 9 (by decide)) rfl (by first | rfl | decide +kernel) (Nat.le_of_ble_eq_true rfl) ?_
  refine zv_gen (fun G2 => G2 a0 = some (.inr (4, [.int 0, .int 0, .int 0, .int 0, .int (-1), .int (-1), .int 0, .int (-1), .int 0, .ref q22, .null, .null, .null, .null, .null, .null, .null, .null, .null, .null, .null, .null])) ∧ G2 q22 = some (zI O 12 (fun _ => 0)) ∧ (∀ x e, G x = some e → x ≠ a0 → G2 x = some e)) ⟨zu_s, (zu_n n22_0).trans zu_s, fun x e w1 w2 => (zu_n w2).trans ((zu_n (Ne.symm (zu_fresh h22 (fr x e w1 w2)))).trans (fr x e w1 w2))⟩ (fun G22 hP => ?_)
  clear f0 fr
  obtain ⟨f0, f22, fr⟩ := hP
  refine zv_aload_n (pc := 27) C dMo_init_27 rfl ?_
  refine zv_bipush (pc := 28) (v := 100) C dMo_init_28 (by decide) ?_
  refine zv_newI (pc := 30) C 100 dMo_init_30 zw_86 (by decide) (by decide) (by decide) (Nat.le_of_ble_eq_true rfl) (Nat.le_of_ble_eq_true rfl) (fun q30 h30 => ?_)
  have n30_0 : q30 ≠ a0 := zu_fresh h30 f0
  have n30_0' := Ne.symm n30_0
  have z30 : G q30 = none := zfr fr h30 n30_0
  have n30_22 : q30 ≠ q22 := zu_fresh h30 f22
  have n30_22' := Ne.symm n30_22
  refine zv_putF (pc := 32) C dMo_init_32 fMo_23 ⟨tkMo, nmMo⟩ hnm ((zu_n n30_0').trans f0) rfl rfl (tkMo 10 (by decide)) rfl (by first | rfl | decide +kernel) (Nat.le_of_ble_eq_true rfl) ?_
  refine zv_gen (fun G2 => G2 a0 = some (.inr (4, [.int 0, .int 0, .int 0, .int 0, .int (-1), .int (-1), .int 0, .int (-1), .int 0, .ref q22, .ref q30, .null, .null, .null, .null, .null, .null, .null, .null, .null, .null, .null])) ∧ G2 q22 = some (zI O 12 (fun _ => 0)) ∧ G2 q30 = some (zI O 100 (fun _ => 0)) ∧ (∀ x e, G x = some e → x ≠ a0 → G2 x = some e)) ⟨zu_s, (zu_n n22_0).trans ((zu_n n30_22').trans f22), (zu_n n30_0).trans zu_s, fun x e w1 w2 => (zu_n w2).trans ((zu_n (Ne.symm (zu_fresh h30 (fr x e w1 w2)))).trans (fr x e w1 w2))⟩ (fun G30 hP => ?_)
  clear f0 fr f22
  obtain ⟨f0, f22, f30, fr⟩ := hP
  refine zv_aload_n (pc := 35) C dMo_init_35 rfl ?_
  refine zv_bipush (pc := 36) (v := 100) C dMo_init_36 (by decide) ?_
  refine zv_newI (pc := 38) C 100 dMo_init_38 zw_86 (by decide) (by decide) (by decide) (Nat.le_of_ble_eq_true rfl) (Nat.le_of_ble_eq_true rfl) (fun q38 h38 => ?_)
  have n38_0 : q38 ≠ a0 := zu_fresh h38 f0
  have n38_0' := Ne.symm n38_0
  have z38 : G q38 = none := zfr fr h38 n38_0
  have n38_22 : q38 ≠ q22 := zu_fresh h38 f22
  have n38_22' := Ne.symm n38_22
  have n38_30 : q38 ≠ q30 := zu_fresh h38 f30
  have n38_30' := Ne.symm n38_30
  refine zv_putF (pc := 40) C dMo_init_40 fMo_26 ⟨tkMo, nmMo⟩ hnm ((zu_n n38_0').trans f0) rfl rfl (tkMo 11 (by decide)) rfl (by first | rfl | decide +kernel) (Nat.le_of_ble_eq_true rfl) ?_
  refine zv_gen (fun G2 => G2 a0 = some (.inr (4, [.int 0, .int 0, .int 0, .int 0, .int (-1), .int (-1), .int 0, .int (-1), .int 0, .ref q22, .ref q30, .ref q38, .null, .null, .null, .null, .null, .null, .null, .null, .null, .null])) ∧ G2 q22 = some (zI O 12 (fun _ => 0)) ∧ G2 q30 = some (zI O 100 (fun _ => 0)) ∧ G2 q38 = some (zI O 100 (fun _ => 0)) ∧ (∀ x e, G x = some e → x ≠ a0 → G2 x = some e)) ⟨zu_s, (zu_n n22_0).trans ((zu_n n38_22').trans f22), (zu_n n30_0).trans ((zu_n n38_30').trans f30), (zu_n n38_0).trans zu_s, fun x e w1 w2 => (zu_n w2).trans ((zu_n (Ne.symm (zu_fresh h38 (fr x e w1 w2)))).trans (fr x e w1 w2))⟩ (fun G38 hP => ?_)
  clear f0 fr f22 f30
  obtain ⟨f0, f22, f30, f38, fr⟩ := hP
  refine zv_aload_n (pc := 43) C dMo_init_43 rfl ?_
  refine zv_bipush (pc := 44) (v := 100) C dMo_init_44 (by decide) ?_
  refine zv_newI (pc := 46) C 100 dMo_init_46 zw_86 (by decide) (by decide) (by decide) (Nat.le_of_ble_eq_true rfl) (Nat.le_of_ble_eq_true rfl) (fun q46 h46 => ?_)
  have n46_0 : q46 ≠ a0 := zu_fresh h46 f0
  have n46_0' := Ne.symm n46_0
  have z46 : G q46 = none := zfr fr h46 n46_0
  have n46_22 : q46 ≠ q22 := zu_fresh h46 f22
  have n46_22' := Ne.symm n46_22
  have n46_30 : q46 ≠ q30 := zu_fresh h46 f30
  have n46_30' := Ne.symm n46_30
  have n46_38 : q46 ≠ q38 := zu_fresh h46 f38
  have n46_38' := Ne.symm n46_38
  refine zv_putF (pc := 48) C dMo_init_48 fMo_29 ⟨tkMo, nmMo⟩ hnm ((zu_n n46_0').trans f0) rfl rfl (tkMo 12 (by decide)) rfl (by first | rfl | decide +kernel) (Nat.le_of_ble_eq_true rfl) ?_
  refine zv_gen (fun G2 => G2 a0 = some (.inr (4, [.int 0, .int 0, .int 0, .int 0, .int (-1), .int (-1), .int 0, .int (-1), .int 0, .ref q22, .ref q30, .ref q38, .ref q46, .null, .null, .null, .null, .null, .null, .null, .null, .null])) ∧ G2 q22 = some (zI O 12 (fun _ => 0)) ∧ G2 q30 = some (zI O 100 (fun _ => 0)) ∧ G2 q38 = some (zI O 100 (fun _ => 0)) ∧ G2 q46 = some (zI O 100 (fun _ => 0)) ∧ (∀ x e, G x = some e → x ≠ a0 → G2 x = some e)) ⟨zu_s, (zu_n n22_0).trans ((zu_n n46_22').trans f22), (zu_n n30_0).trans ((zu_n n46_30').trans f30), (zu_n n38_0).trans ((zu_n n46_38').trans f38), (zu_n n46_0).trans zu_s, fun x e w1 w2 => (zu_n w2).trans ((zu_n (Ne.symm (zu_fresh h46 (fr x e w1 w2)))).trans (fr x e w1 w2))⟩ (fun G46 hP => ?_)
  clear f0 fr f22 f30 f38
  obtain ⟨f0, f22, f30, f38, f46, fr⟩ := hP
  refine zv_aload_n (pc := 51) C dMo_init_51 rfl ?_
  refine zv_bipush (pc := 52) (v := 100) C dMo_init_52 (by decide) ?_
  refine zv_newI (pc := 54) C 100 dMo_init_54 zw_86 (by decide) (by decide) (by decide) (Nat.le_of_ble_eq_true rfl) (Nat.le_of_ble_eq_true rfl) (fun q54 h54 => ?_)
  have n54_0 : q54 ≠ a0 := zu_fresh h54 f0
  have n54_0' := Ne.symm n54_0
  have z54 : G q54 = none := zfr fr h54 n54_0
  have n54_22 : q54 ≠ q22 := zu_fresh h54 f22
  have n54_22' := Ne.symm n54_22
  have n54_30 : q54 ≠ q30 := zu_fresh h54 f30
  have n54_30' := Ne.symm n54_30
  have n54_38 : q54 ≠ q38 := zu_fresh h54 f38
  have n54_38' := Ne.symm n54_38
  have n54_46 : q54 ≠ q46 := zu_fresh h54 f46
  have n54_46' := Ne.symm n54_46
  refine zv_putF (pc := 56) C dMo_init_56 fMo_32 ⟨tkMo, nmMo⟩ hnm ((zu_n n54_0').trans f0) rfl rfl (tkMo 13 (by decide)) rfl (by first | rfl | decide +kernel) (Nat.le_of_ble_eq_true rfl) ?_
  refine zv_gen (fun G2 => G2 a0 = some (.inr (4, [.int 0, .int 0, .int 0, .int 0, .int (-1), .int (-1), .int 0, .int (-1), .int 0, .ref q22, .ref q30, .ref q38, .ref q46, .ref q54, .null, .null, .null, .null, .null, .null, .null, .null])) ∧ G2 q22 = some (zI O 12 (fun _ => 0)) ∧ G2 q30 = some (zI O 100 (fun _ => 0)) ∧ G2 q38 = some (zI O 100 (fun _ => 0)) ∧ G2 q46 = some (zI O 100 (fun _ => 0)) ∧ G2 q54 = some (zI O 100 (fun _ => 0)) ∧ (∀ x e, G x = some e → x ≠ a0 → G2 x = some e)) ⟨zu_s, (zu_n n22_0).trans ((zu_n n54_22').trans f22), (zu_n n30_0).trans ((zu_n n54_30').trans f30), (zu_n n38_0).trans ((zu_n n54_38').trans f38), (zu_n n46_0).trans ((zu_n n54_46').trans f46), (zu_n n54_0).trans zu_s, fun x e w1 w2 => (zu_n w2).trans ((zu_n (Ne.symm (zu_fresh h54 (fr x e w1 w2)))).trans (fr x e w1 w2))⟩ (fun G54 hP => ?_)
  clear f0 fr f22 f30 f38 f46
  obtain ⟨f0, f22, f30, f38, f46, f54, fr⟩ := hP
  refine zv_aload_n (pc := 59) C dMo_init_59 rfl ?_
  refine zv_bipush (pc := 60) (v := 100) C dMo_init_60 (by decide) ?_
  refine zv_newI (pc := 62) C 100 dMo_init_62 zw_86 (by decide) (by decide) (by decide) (Nat.le_of_ble_eq_true rfl) (Nat.le_of_ble_eq_true rfl) (fun q62 h62 => ?_)
  have n62_0 : q62 ≠ a0 := zu_fresh h62 f0
  have n62_0' := Ne.symm n62_0
  have z62 : G q62 = none := zfr fr h62 n62_0
  have n62_22 : q62 ≠ q22 := zu_fresh h62 f22
  have n62_22' := Ne.symm n62_22
  have n62_30 : q62 ≠ q30 := zu_fresh h62 f30
  have n62_30' := Ne.symm n62_30
  have n62_38 : q62 ≠ q38 := zu_fresh h62 f38
  have n62_38' := Ne.symm n62_38
  have n62_46 : q62 ≠ q46 := zu_fresh h62 f46
  have n62_46' := Ne.symm n62_46
  have n62_54 : q62 ≠ q54 := zu_fresh h62 f54
  have n62_54' := Ne.symm n62_54
  refine zv_putF (pc := 64) C dMo_init_64 fMo_35 ⟨tkMo, nmMo⟩ hnm ((zu_n n62_0').trans f0) rfl rfl (tkMo 14 (by decide)) rfl (by first | rfl | decide +kernel) (Nat.le_of_ble_eq_true rfl) ?_
  refine zv_gen (fun G2 => G2 a0 = some (.inr (4, [.int 0, .int 0, .int 0, .int 0, .int (-1), .int (-1), .int 0, .int (-1), .int 0, .ref q22, .ref q30, .ref q38, .ref q46, .ref q54, .ref q62, .null, .null, .null, .null, .null, .null, .null])) ∧ G2 q22 = some (zI O 12 (fun _ => 0)) ∧ G2 q30 = some (zI O 100 (fun _ => 0)) ∧ G2 q38 = some (zI O 100 (fun _ => 0)) ∧ G2 q46 = some (zI O 100 (fun _ => 0)) ∧ G2 q54 = some (zI O 100 (fun _ => 0)) ∧ G2 q62 = some (zI O 100 (fun _ => 0)) ∧ (∀ x e, G x = some e → x ≠ a0 → G2 x = some e)) ⟨zu_s, (zu_n n22_0).trans ((zu_n n62_22').trans f22), (zu_n n30_0).trans ((zu_n n62_30').trans f30), (zu_n n38_0).trans ((zu_n n62_38').trans f38), (zu_n n46_0).trans ((zu_n n62_46').trans f46), (zu_n n54_0).trans ((zu_n n62_54').trans f54), (zu_n n62_0).trans zu_s, fun x e w1 w2 => (zu_n w2).trans ((zu_n (Ne.symm (zu_fresh h62 (fr x e w1 w2)))).trans (fr x e w1 w2))⟩ (fun G62 hP => ?_)
  clear f0 fr f22 f30 f38 f46 f54
  obtain ⟨f0, f22, f30, f38, f46, f54, f62, fr⟩ := hP
  refine zv_aload_n (pc := 67) C dMo_init_67 rfl ?_
  refine zv_bipush (pc := 68) (v := 100) C dMo_init_68 (by decide) ?_
  refine zv_newB (pc := 70) C 100 dMo_init_70 zw_623 (by decide) (by decide) (by decide) (Nat.le_of_ble_eq_true rfl) (Nat.le_of_ble_eq_true rfl) (fun q70 h70 => ?_)
  have n70_0 : q70 ≠ a0 := zu_fresh h70 f0
  have n70_0' := Ne.symm n70_0
  have z70 : G q70 = none := zfr fr h70 n70_0
  have n70_22 : q70 ≠ q22 := zu_fresh h70 f22
  have n70_22' := Ne.symm n70_22
  have n70_30 : q70 ≠ q30 := zu_fresh h70 f30
  have n70_30' := Ne.symm n70_30
  have n70_38 : q70 ≠ q38 := zu_fresh h70 f38
  have n70_38' := Ne.symm n70_38
  have n70_46 : q70 ≠ q46 := zu_fresh h70 f46
  have n70_46' := Ne.symm n70_46
  have n70_54 : q70 ≠ q54 := zu_fresh h70 f54
  have n70_54' := Ne.symm n70_54
  have n70_62 : q70 ≠ q62 := zu_fresh h70 f62
  have n70_62' := Ne.symm n70_62
  refine zv_putF (pc := 72) C dMo_init_72 fMo_38 ⟨tkMo, nmMo⟩ hnm ((zu_n n70_0').trans f0) rfl rfl (tkMo 15 (by decide)) rfl (by first | rfl | decide +kernel) (Nat.le_of_ble_eq_true rfl) ?_
  refine zv_gen (fun G2 => G2 a0 = some (.inr (4, [.int 0, .int 0, .int 0, .int 0, .int (-1), .int (-1), .int 0, .int (-1), .int 0, .ref q22, .ref q30, .ref q38, .ref q46, .ref q54, .ref q62, .ref q70, .null, .null, .null, .null, .null, .null])) ∧ G2 q22 = some (zI O 12 (fun _ => 0)) ∧ G2 q30 = some (zI O 100 (fun _ => 0)) ∧ G2 q38 = some (zI O 100 (fun _ => 0)) ∧ G2 q46 = some (zI O 100 (fun _ => 0)) ∧ G2 q54 = some (zI O 100 (fun _ => 0)) ∧ G2 q62 = some (zI O 100 (fun _ => 0)) ∧ G2 q70 = some (zB O 100 (fun _ => 0)) ∧ (∀ x e, G x = some e → x ≠ a0 → G2 x = some e)) ⟨zu_s, (zu_n n22_0).trans ((zu_n n70_22').trans f22), (zu_n n30_0).trans ((zu_n n70_30').trans f30), (zu_n n38_0).trans ((zu_n n70_38').trans f38), (zu_n n46_0).trans ((zu_n n70_46').trans f46), (zu_n n54_0).trans ((zu_n n70_54').trans f54), (zu_n n62_0).trans ((zu_n n70_62').trans f62), (zu_n n70_0).trans zu_s, fun x e w1 w2 => (zu_n w2).trans ((zu_n (Ne.symm (zu_fresh h70 (fr x e w1 w2)))).trans (fr x e w1 w2))⟩ (fun G70 hP => ?_)
  clear f0 fr f22 f30 f38 f46 f54 f62
  obtain ⟨f0, f22, f30, f38, f46, f54, f62, f70, fr⟩ := hP
  refine zv_aload_n (pc := 75) C dMo_init_75 rfl ?_
  refine zv_bipush (pc := 76) (v := 100) C dMo_init_76 (by decide) ?_
  refine zv_newI (pc := 78) C 100 dMo_init_78 zw_86 (by decide) (by decide) (by decide) (Nat.le_of_ble_eq_true rfl) (Nat.le_of_ble_eq_true rfl) (fun q78 h78 => ?_)
  have n78_0 : q78 ≠ a0 := zu_fresh h78 f0
  have n78_0' := Ne.symm n78_0
  have z78 : G q78 = none := zfr fr h78 n78_0
  have n78_22 : q78 ≠ q22 := zu_fresh h78 f22
  have n78_22' := Ne.symm n78_22
  have n78_30 : q78 ≠ q30 := zu_fresh h78 f30
  have n78_30' := Ne.symm n78_30
  have n78_38 : q78 ≠ q38 := zu_fresh h78 f38
  have n78_38' := Ne.symm n78_38
  have n78_46 : q78 ≠ q46 := zu_fresh h78 f46
  have n78_46' := Ne.symm n78_46
  have n78_54 : q78 ≠ q54 := zu_fresh h78 f54
  have n78_54' := Ne.symm n78_54
  have n78_62 : q78 ≠ q62 := zu_fresh h78 f62
  have n78_62' := Ne.symm n78_62
  have n78_70 : q78 ≠ q70 := zu_fresh h78 f70
  have n78_70' := Ne.symm n78_70
  refine zv_putF (pc := 80) C dMo_init_80 fMo_42 ⟨tkMo, nmMo⟩ hnm ((zu_n n78_0').trans f0) rfl rfl (tkMo 16 (by decide)) rfl (by first | rfl | decide +kernel) (Nat.le_of_ble_eq_true rfl) ?_
  refine zv_gen (fun G2 => G2 a0 = some (.inr (4, [.int 0, .int 0, .int 0, .int 0, .int (-1), .int (-1), .int 0, .int (-1), .int 0, .ref q22, .ref q30, .ref q38, .ref q46, .ref q54, .ref q62, .ref q70, .ref q78, .null, .null, .null, .null, .null])) ∧ G2 q22 = some (zI O 12 (fun _ => 0)) ∧ G2 q30 = some (zI O 100 (fun _ => 0)) ∧ G2 q38 = some (zI O 100 (fun _ => 0)) ∧ G2 q46 = some (zI O 100 (fun _ => 0)) ∧ G2 q54 = some (zI O 100 (fun _ => 0)) ∧ G2 q62 = some (zI O 100 (fun _ => 0)) ∧ G2 q70 = some (zB O 100 (fun _ => 0)) ∧ G2 q78 = some (zI O 100 (fun _ => 0)) ∧ (∀ x e, G x = some e → x ≠ a0 → G2 x = some e)) ⟨zu_s, (zu_n n22_0).trans ((zu_n n78_22').trans f22), (zu_n n30_0).trans ((zu_n n78_30').trans f30), (zu_n n38_0).trans ((zu_n n78_38').trans f38), (zu_n n46_0).trans ((zu_n n78_46').trans f46), (zu_n n54_0).trans ((zu_n n78_54').trans f54), (zu_n n62_0).trans ((zu_n n78_62').trans f62), (zu_n n70_0).trans ((zu_n n78_70').trans f70), (zu_n n78_0).trans zu_s, fun x e w1 w2 => (zu_n w2).trans ((zu_n (Ne.symm (zu_fresh h78 (fr x e w1 w2)))).trans (fr x e w1 w2))⟩ (fun G78 hP => ?_)
  clear f0 fr f22 f30 f38 f46 f54 f62 f70
  obtain ⟨f0, f22, f30, f38, f46, f54, f62, f70, f78, fr⟩ := hP
  refine zv_aload_n (pc := 83) C dMo_init_83 rfl ?_
  refine zv_sipush (pc := 84) (v := 2000) C dMo_init_84 (by decide) ?_
  refine zv_newI (pc := 87) C 2000 dMo_init_87 zw_86 (by decide) (by decide) (by decide) (Nat.le_of_ble_eq_true rfl) (Nat.le_of_ble_eq_true rfl) (fun q87 h87 => ?_)
  have n87_0 : q87 ≠ a0 := zu_fresh h87 f0
  have n87_0' := Ne.symm n87_0
  have z87 : G q87 = none := zfr fr h87 n87_0
  have n87_22 : q87 ≠ q22 := zu_fresh h87 f22
  have n87_22' := Ne.symm n87_22
  have n87_30 : q87 ≠ q30 := zu_fresh h87 f30
  have n87_30' := Ne.symm n87_30
  have n87_38 : q87 ≠ q38 := zu_fresh h87 f38
  have n87_38' := Ne.symm n87_38
  have n87_46 : q87 ≠ q46 := zu_fresh h87 f46
  have n87_46' := Ne.symm n87_46
  have n87_54 : q87 ≠ q54 := zu_fresh h87 f54
  have n87_54' := Ne.symm n87_54
  have n87_62 : q87 ≠ q62 := zu_fresh h87 f62
  have n87_62' := Ne.symm n87_62
  have n87_70 : q87 ≠ q70 := zu_fresh h87 f70
  have n87_70' := Ne.symm n87_70
  have n87_78 : q87 ≠ q78 := zu_fresh h87 f78
  have n87_78' := Ne.symm n87_78
  refine zv_putF (pc := 89) C dMo_init_89 fMo_45 ⟨tkMo, nmMo⟩ hnm ((zu_n n87_0').trans f0) rfl rfl (tkMo 17 (by decide)) rfl (by first | rfl | decide +kernel) (Nat.le_of_ble_eq_true rfl) ?_
  refine zv_gen (fun G2 => G2 a0 = some (.inr (4, [.int 0, .int 0, .int 0, .int 0, .int (-1), .int (-1), .int 0, .int (-1), .int 0, .ref q22, .ref q30, .ref q38, .ref q46, .ref q54, .ref q62, .ref q70, .ref q78, .ref q87, .null, .null, .null, .null])) ∧ G2 q22 = some (zI O 12 (fun _ => 0)) ∧ G2 q30 = some (zI O 100 (fun _ => 0)) ∧ G2 q38 = some (zI O 100 (fun _ => 0)) ∧ G2 q46 = some (zI O 100 (fun _ => 0)) ∧ G2 q54 = some (zI O 100 (fun _ => 0)) ∧ G2 q62 = some (zI O 100 (fun _ => 0)) ∧ G2 q70 = some (zB O 100 (fun _ => 0)) ∧ G2 q78 = some (zI O 100 (fun _ => 0)) ∧ G2 q87 = some (zI O 2000 (fun _ => 0)) ∧ (∀ x e, G x = some e → x ≠ a0 → G2 x = some e)) ⟨zu_s, (zu_n n22_0).trans ((zu_n n87_22').trans f22), (zu_n n30_0).trans ((zu_n n87_30').trans f30), (zu_n n38_0).trans ((zu_n n87_38').trans f38), (zu_n n46_0).trans ((zu_n n87_46').trans f46), (zu_n n54_0).trans ((zu_n n87_54').trans f54), (zu_n n62_0).trans ((zu_n n87_62').trans f62), (zu_n n70_0).trans ((zu_n n87_70').trans f70), (zu_n n78_0).trans ((zu_n n87_78').trans f78), (zu_n n87_0).trans zu_s, fun x e w1 w2 => (zu_n w2).trans ((zu_n (Ne.symm (zu_fresh h87 (fr x e w1 w2)))).trans (fr x e w1 w2))⟩ (fun G87 hP => ?_)
  clear f0 fr f22 f30 f38 f46 f54 f62 f70 f78
  obtain ⟨f0, f22, f30, f38, f46, f54, f62, f70, f78, f87, fr⟩ := hP
  refine zv_aload_n (pc := 92) C dMo_init_92 rfl ?_
  refine zv_sipush (pc := 93) (v := 2000) C dMo_init_93 (by decide) ?_
  refine zv_newJ (pc := 96) C 2000 dMo_init_96 zw_87 (by decide) (by decide) (by decide) (Nat.le_of_ble_eq_true rfl) (Nat.le_of_ble_eq_true rfl) (fun q96 h96 => ?_)
  have n96_0 : q96 ≠ a0 := zu_fresh h96 f0
  have n96_0' := Ne.symm n96_0
  have z96 : G q96 = none := zfr fr h96 n96_0
  have n96_22 : q96 ≠ q22 := zu_fresh h96 f22
  have n96_22' := Ne.symm n96_22
  have n96_30 : q96 ≠ q30 := zu_fresh h96 f30
  have n96_30' := Ne.symm n96_30
  have n96_38 : q96 ≠ q38 := zu_fresh h96 f38
  have n96_38' := Ne.symm n96_38
  have n96_46 : q96 ≠ q46 := zu_fresh h96 f46
  have n96_46' := Ne.symm n96_46
  have n96_54 : q96 ≠ q54 := zu_fresh h96 f54
  have n96_54' := Ne.symm n96_54
  have n96_62 : q96 ≠ q62 := zu_fresh h96 f62
  have n96_62' := Ne.symm n96_62
  have n96_70 : q96 ≠ q70 := zu_fresh h96 f70
  have n96_70' := Ne.symm n96_70
  have n96_78 : q96 ≠ q78 := zu_fresh h96 f78
  have n96_78' := Ne.symm n96_78
  have n96_87 : q96 ≠ q87 := zu_fresh h96 f87
  have n96_87' := Ne.symm n96_87
  refine zv_putF (pc := 98) C dMo_init_98 fMo_48 ⟨tkMo, nmMo⟩ hnm ((zu_n n96_0').trans f0) rfl rfl (tkMo 18 (by decide)) rfl (by first | rfl | decide +kernel) (Nat.le_of_ble_eq_true rfl) ?_
  refine zv_gen (fun G2 => G2 a0 = some (.inr (4, [.int 0, .int 0, .int 0, .int 0, .int (-1), .int (-1), .int 0, .int (-1), .int 0, .ref q22, .ref q30, .ref q38, .ref q46, .ref q54, .ref q62, .ref q70, .ref q78, .ref q87, .ref q96, .null, .null, .null])) ∧ G2 q22 = some (zI O 12 (fun _ => 0)) ∧ G2 q30 = some (zI O 100 (fun _ => 0)) ∧ G2 q38 = some (zI O 100 (fun _ => 0)) ∧ G2 q46 = some (zI O 100 (fun _ => 0)) ∧ G2 q54 = some (zI O 100 (fun _ => 0)) ∧ G2 q62 = some (zI O 100 (fun _ => 0)) ∧ G2 q70 = some (zB O 100 (fun _ => 0)) ∧ G2 q78 = some (zI O 100 (fun _ => 0)) ∧ G2 q87 = some (zI O 2000 (fun _ => 0)) ∧ G2 q96 = some (zJ O 2000 (fun _ => 0)) ∧ (∀ x e, G x = some e → x ≠ a0 → G2 x = some e)) ⟨zu_s, (zu_n n22_0).trans ((zu_n n96_22').trans f22), (zu_n n30_0).trans ((zu_n n96_30').trans f30), (zu_n n38_0).trans ((zu_n n96_38').trans f38), (zu_n n46_0).trans ((zu_n n96_46').trans f46), (zu_n n54_0).trans ((zu_n n96_54').trans f54), (zu_n n62_0).trans ((zu_n n96_62').trans f62), (zu_n n70_0).trans ((zu_n n96_70').trans f70), (zu_n n78_0).trans ((zu_n n96_78').trans f78), (zu_n n87_0).trans ((zu_n n96_87').trans f87), (zu_n n96_0).trans zu_s, fun x e w1 w2 => (zu_n w2).trans ((zu_n (Ne.symm (zu_fresh h96 (fr x e w1 w2)))).trans (fr x e w1 w2))⟩ (fun G96 hP => ?_)
  clear f0 fr f22 f30 f38 f46 f54 f62 f70 f78 f87
  obtain ⟨f0, f22, f30, f38, f46, f54, f62, f70, f78, f87, f96, fr⟩ := hP
  refine zv_aload_n (pc := 101) C dMo_init_101 rfl ?_
  refine zv_sipush (pc := 102) (v := 400) C dMo_init_102 (by decide) ?_
  refine zv_newI (pc := 105) C 400 dMo_init_105 zw_86 (by decide) (by decide) (by decide) (Nat.le_of_ble_eq_true rfl) (Nat.le_of_ble_eq_true rfl) (fun q105 h105 => ?_)
  have n105_0 : q105 ≠ a0 := zu_fresh h105 f0
  have n105_0' := Ne.symm n105_0
  have z105 : G q105 = none := zfr fr h105 n105_0
  have n105_22 : q105 ≠ q22 := zu_fresh h105 f22
  have n105_22' := Ne.symm n105_22
  have n105_30 : q105 ≠ q30 := zu_fresh h105 f30
  have n105_30' := Ne.symm n105_30
  have n105_38 : q105 ≠ q38 := zu_fresh h105 f38
  have n105_38' := Ne.symm n105_38
  have n105_46 : q105 ≠ q46 := zu_fresh h105 f46
  have n105_46' := Ne.symm n105_46
  have n105_54 : q105 ≠ q54 := zu_fresh h105 f54
  have n105_54' := Ne.symm n105_54
  have n105_62 : q105 ≠ q62 := zu_fresh h105 f62
  have n105_62' := Ne.symm n105_62
  have n105_70 : q105 ≠ q70 := zu_fresh h105 f70
  have n105_70' := Ne.symm n105_70
  have n105_78 : q105 ≠ q78 := zu_fresh h105 f78
  have n105_78' := Ne.symm n105_78
  have n105_87 : q105 ≠ q87 := zu_fresh h105 f87
  have n105_87' := Ne.symm n105_87
  have n105_96 : q105 ≠ q96 := zu_fresh h105 f96
  have n105_96' := Ne.symm n105_96
  refine zv_putF (pc := 107) C dMo_init_107 fMo_52 ⟨tkMo, nmMo⟩ hnm ((zu_n n105_0').trans f0) rfl rfl (tkMo 19 (by decide)) rfl (by first | rfl | decide +kernel) (Nat.le_of_ble_eq_true rfl) ?_
  refine zv_gen (fun G2 => G2 a0 = some (.inr (4, [.int 0, .int 0, .int 0, .int 0, .int (-1), .int (-1), .int 0, .int (-1), .int 0, .ref q22, .ref q30, .ref q38, .ref q46, .ref q54, .ref q62, .ref q70, .ref q78, .ref q87, .ref q96, .ref q105, .null, .null])) ∧ G2 q22 = some (zI O 12 (fun _ => 0)) ∧ G2 q30 = some (zI O 100 (fun _ => 0)) ∧ G2 q38 = some (zI O 100 (fun _ => 0)) ∧ G2 q46 = some (zI O 100 (fun _ => 0)) ∧ G2 q54 = some (zI O 100 (fun _ => 0)) ∧ G2 q62 = some (zI O 100 (fun _ => 0)) ∧ G2 q70 = some (zB O 100 (fun _ => 0)) ∧ G2 q78 = some (zI O 100 (fun _ => 0)) ∧ G2 q87 = some (zI O 2000 (fun _ => 0)) ∧ G2 q96 = some (zJ O 2000 (fun _ => 0)) ∧ G2 q105 = some (zI O 400 (fun _ => 0)) ∧ (∀ x e, G x = some e → x ≠ a0 → G2 x = some e)) ⟨zu_s, (zu_n n22_0).trans ((zu_n n105_22').trans f22), (zu_n n30_0).trans ((zu_n n105_30').trans f30), (zu_n n38_0).trans ((zu_n n105_38').trans f38), (zu_n n46_0).trans ((zu_n n105_46').trans f46), (zu_n n54_0).trans ((zu_n n105_54').trans f54), (zu_n n62_0).trans ((zu_n n105_62').trans f62), (zu_n n70_0).trans ((zu_n n105_70').trans f70), (zu_n n78_0).trans ((zu_n n105_78').trans f78), (zu_n n87_0).trans ((zu_n n105_87').trans f87), (zu_n n96_0).trans ((zu_n n105_96').trans f96), (zu_n n105_0).trans zu_s, fun x e w1 w2 => (zu_n w2).trans ((zu_n (Ne.symm (zu_fresh h105 (fr x e w1 w2)))).trans (fr x e w1 w2))⟩ (fun G105 hP => ?_)
  clear f0 fr f22 f30 f38 f46 f54 f62 f70 f78 f87 f96
  obtain ⟨f0, f22, f30, f38, f46, f54, f62, f70, f78, f87, f96, f105, fr⟩ := hP
  refine zv_aload_n (pc := 110) C dMo_init_110 rfl ?_
  refine zv_bipush (pc := 111) (v := 24) C dMo_init_111 (by decide) ?_
  refine zv_newI (pc := 113) C 24 dMo_init_113 zw_86 (by decide) (by decide) (by decide) (Nat.le_of_ble_eq_true rfl) (Nat.le_of_ble_eq_true rfl) (fun q113 h113 => ?_)
  have n113_0 : q113 ≠ a0 := zu_fresh h113 f0
  have n113_0' := Ne.symm n113_0
  have z113 : G q113 = none := zfr fr h113 n113_0
  have n113_22 : q113 ≠ q22 := zu_fresh h113 f22
  have n113_22' := Ne.symm n113_22
  have n113_30 : q113 ≠ q30 := zu_fresh h113 f30
  have n113_30' := Ne.symm n113_30
  have n113_38 : q113 ≠ q38 := zu_fresh h113 f38
  have n113_38' := Ne.symm n113_38
  have n113_46 : q113 ≠ q46 := zu_fresh h113 f46
  have n113_46' := Ne.symm n113_46
  have n113_54 : q113 ≠ q54 := zu_fresh h113 f54
  have n113_54' := Ne.symm n113_54
  have n113_62 : q113 ≠ q62 := zu_fresh h113 f62
  have n113_62' := Ne.symm n113_62
  have n113_70 : q113 ≠ q70 := zu_fresh h113 f70
  have n113_70' := Ne.symm n113_70
  have n113_78 : q113 ≠ q78 := zu_fresh h113 f78
  have n113_78' := Ne.symm n113_78
  have n113_87 : q113 ≠ q87 := zu_fresh h113 f87
  have n113_87' := Ne.symm n113_87
  have n113_96 : q113 ≠ q96 := zu_fresh h113 f96
  have n113_96' := Ne.symm n113_96
  have n113_105 : q113 ≠ q105 := zu_fresh h113 f105
  have n113_105' := Ne.symm n113_105
  refine zv_putF (pc := 115) C dMo_init_115 fMo_55 ⟨tkMo, nmMo⟩ hnm ((zu_n n113_0').trans f0) rfl rfl (tkMo 20 (by decide)) rfl (by first | rfl | decide +kernel) (Nat.le_of_ble_eq_true rfl) ?_
  refine zv_gen (fun G2 => G2 a0 = some (.inr (4, [.int 0, .int 0, .int 0, .int 0, .int (-1), .int (-1), .int 0, .int (-1), .int 0, .ref q22, .ref q30, .ref q38, .ref q46, .ref q54, .ref q62, .ref q70, .ref q78, .ref q87, .ref q96, .ref q105, .ref q113, .null])) ∧ G2 q22 = some (zI O 12 (fun _ => 0)) ∧ G2 q30 = some (zI O 100 (fun _ => 0)) ∧ G2 q38 = some (zI O 100 (fun _ => 0)) ∧ G2 q46 = some (zI O 100 (fun _ => 0)) ∧ G2 q54 = some (zI O 100 (fun _ => 0)) ∧ G2 q62 = some (zI O 100 (fun _ => 0)) ∧ G2 q70 = some (zB O 100 (fun _ => 0)) ∧ G2 q78 = some (zI O 100 (fun _ => 0)) ∧ G2 q87 = some (zI O 2000 (fun _ => 0)) ∧ G2 q96 = some (zJ O 2000 (fun _ => 0)) ∧ G2 q105 = some (zI O 400 (fun _ => 0)) ∧ G2 q113 = some (zI O 24 (fun _ => 0)) ∧ (∀ x e, G x = some e → x ≠ a0 → G2 x = some e)) ⟨zu_s, (zu_n n22_0).trans ((zu_n n113_22').trans f22), (zu_n n30_0).trans ((zu_n n113_30').trans f30), (zu_n n38_0).trans ((zu_n n113_38').trans f38), (zu_n n46_0).trans ((zu_n n113_46').trans f46), (zu_n n54_0).trans ((zu_n n113_54').trans f54), (zu_n n62_0).trans ((zu_n n113_62').trans f62), (zu_n n70_0).trans ((zu_n n113_70').trans f70), (zu_n n78_0).trans ((zu_n n113_78').trans f78), (zu_n n87_0).trans ((zu_n n113_87').trans f87), (zu_n n96_0).trans ((zu_n n113_96').trans f96), (zu_n n105_0).trans ((zu_n n113_105').trans f105), (zu_n n113_0).trans zu_s, fun x e w1 w2 => (zu_n w2).trans ((zu_n (Ne.symm (zu_fresh h113 (fr x e w1 w2)))).trans (fr x e w1 w2))⟩ (fun G113 hP => ?_)
  clear f0 fr f22 f30 f38 f46 f54 f62 f70 f78 f87 f96 f105
  obtain ⟨f0, f22, f30, f38, f46, f54, f62, f70, f78, f87, f96, f105, f113, fr⟩ := hP
  refine zv_aload_n (pc := 118) C dMo_init_118 rfl ?_
  refine zv_bipush (pc := 119) (v := 6) C dMo_init_119 (by decide) ?_
  refine zv_newI (pc := 121) C 6 dMo_init_121 zw_86 (by decide) (by decide) (by decide) (Nat.le_of_ble_eq_true rfl) (Nat.le_of_ble_eq_true rfl) (fun q121 h121 => ?_)
  have n121_0 : q121 ≠ a0 := zu_fresh h121 f0
  have n121_0' := Ne.symm n121_0
  have z121 : G q121 = none := zfr fr h121 n121_0
  have n121_22 : q121 ≠ q22 := zu_fresh h121 f22
  have n121_22' := Ne.symm n121_22
  have n121_30 : q121 ≠ q30 := zu_fresh h121 f30
  have n121_30' := Ne.symm n121_30
  have n121_38 : q121 ≠ q38 := zu_fresh h121 f38
  have n121_38' := Ne.symm n121_38
  have n121_46 : q121 ≠ q46 := zu_fresh h121 f46
  have n121_46' := Ne.symm n121_46
  have n121_54 : q121 ≠ q54 := zu_fresh h121 f54
  have n121_54' := Ne.symm n121_54
  have n121_62 : q121 ≠ q62 := zu_fresh h121 f62
  have n121_62' := Ne.symm n121_62
  have n121_70 : q121 ≠ q70 := zu_fresh h121 f70
  have n121_70' := Ne.symm n121_70
  have n121_78 : q121 ≠ q78 := zu_fresh h121 f78
  have n121_78' := Ne.symm n121_78
  have n121_87 : q121 ≠ q87 := zu_fresh h121 f87
  have n121_87' := Ne.symm n121_87
  have n121_96 : q121 ≠ q96 := zu_fresh h121 f96
  have n121_96' := Ne.symm n121_96
  have n121_105 : q121 ≠ q105 := zu_fresh h121 f105
  have n121_105' := Ne.symm n121_105
  have n121_113 : q121 ≠ q113 := zu_fresh h121 f113
  have n121_113' := Ne.symm n121_113
  refine zv_putF (pc := 123) C dMo_init_123 fMo_58 ⟨tkMo, nmMo⟩ hnm ((zu_n n121_0').trans f0) rfl rfl (tkMo 21 (by decide)) rfl (by first | rfl | decide +kernel) (Nat.le_of_ble_eq_true rfl) ?_
  refine zv_gen (fun G2 => G2 a0 = some (.inr (4, [.int 0, .int 0, .int 0, .int 0, .int (-1), .int (-1), .int 0, .int (-1), .int 0, .ref q22, .ref q30, .ref q38, .ref q46, .ref q54, .ref q62, .ref q70, .ref q78, .ref q87, .ref q96, .ref q105, .ref q113, .ref q121])) ∧ G2 q22 = some (zI O 12 (fun _ => 0)) ∧ G2 q30 = some (zI O 100 (fun _ => 0)) ∧ G2 q38 = some (zI O 100 (fun _ => 0)) ∧ G2 q46 = some (zI O 100 (fun _ => 0)) ∧ G2 q54 = some (zI O 100 (fun _ => 0)) ∧ G2 q62 = some (zI O 100 (fun _ => 0)) ∧ G2 q70 = some (zB O 100 (fun _ => 0)) ∧ G2 q78 = some (zI O 100 (fun _ => 0)) ∧ G2 q87 = some (zI O 2000 (fun _ => 0)) ∧ G2 q96 = some (zJ O 2000 (fun _ => 0)) ∧ G2 q105 = some (zI O 400 (fun _ => 0)) ∧ G2 q113 = some (zI O 24 (fun _ => 0)) ∧ G2 q121 = some (zI O 6 (fun _ => 0)) ∧ (∀ x e, G x = some e → x ≠ a0 → G2 x = some e)) ⟨zu_s, (zu_n n22_0).trans ((zu_n n121_22').trans f22), (zu_n n30_0).trans ((zu_n n121_30').trans f30), (zu_n n38_0).trans ((zu_n n121_38').trans f38), (zu_n n46_0).trans ((zu_n n121_46').trans f46), (zu_n n54_0).trans ((zu_n n121_54').trans f54), (zu_n n62_0).trans ((zu_n n121_62').trans f62), (zu_n n70_0).trans ((zu_n n121_70').trans f70), (zu_n n78_0).trans ((zu_n n121_78').trans f78), (zu_n n87_0).trans ((zu_n n121_87').trans f87), (zu_n n96_0).trans ((zu_n n121_96').trans f96), (zu_n n105_0).trans ((zu_n n121_105').trans f105), (zu_n n113_0).trans ((zu_n n121_113').trans f113), (zu_n n121_0).trans zu_s, fun x e w1 w2 => (zu_n w2).trans ((zu_n (Ne.symm (zu_fresh h121 (fr x e w1 w2)))).trans (fr x e w1 w2))⟩ (fun G121 hP => ?_)
  clear f0 fr f22 f30 f38 f46 f54 f62 f70 f78 f87 f96 f105 f113
  obtain ⟨f0, f22, f30, f38, f46, f54, f62, f70, f78, f87, f96, f105, f113, f121, fr⟩ := hP
  have hND : [a0, q22, q30, q38, q46, q54, q62, q70, q78, q87, q96, q105, q113, q121].Nodup := by
    simp only [List.nodup_cons, List.mem_cons, List.not_mem_nil, or_false, not_or, List.nodup_nil, not_false_eq_true, and_true]
    exact ⟨⟨n22_0', n30_0', n38_0', n46_0', n54_0', n62_0', n70_0', n78_0', n87_0', n96_0', n105_0', n113_0', n121_0'⟩, ⟨n30_22', n38_22', n46_22', n54_22', n62_22', n70_22', n78_22', n87_22', n96_22', n105_22', n113_22', n121_22'⟩, ⟨n38_30', n46_30', n54_30', n62_30', n70_30', n78_30', n87_30', n96_30', n105_30', n113_30', n121_30'⟩, ⟨n46_38', n54_38', n62_38', n70_38', n78_38', n87_38', n96_38', n105_38', n113_38', n121_38'⟩, ⟨n54_46', n62_46', n70_46', n78_46', n87_46', n96_46', n105_46', n113_46', n121_46'⟩, ⟨n62_54', n70_54', n78_54', n87_54', n96_54', n105_54', n113_54', n121_54'⟩, ⟨n70_62', n78_62', n87_62', n96_62', n105_62', n113_62', n121_62'⟩, ⟨n78_70', n87_70', n96_70', n105_70', n113_70', n121_70'⟩, ⟨n87_78', n96_78', n105_78', n113_78', n121_78'⟩, ⟨n96_87', n105_87', n113_87', n121_87'⟩, ⟨n105_96', n113_96', n121_96'⟩, ⟨n113_105', n121_105'⟩, n121_113'⟩
  have hnone : ∀ i, 0 < i → i < 14 → G ([a0, q22, q30, q38, q46, q54, q62, q70, q78, q87, q96, q105, q113, q121].getD i 0) = none := fun i g1 g2 => by
    rcases (show i = 1 ∨ i = 2 ∨ i = 3 ∨ i = 4 ∨ i = 5 ∨ i = 6 ∨ i = 7 ∨ i = 8 ∨ i = 9 ∨ i = 10 ∨ i = 11 ∨ i = 12 ∨ i = 13 by omega) with rfl | rfl | rfl | rfl | rfl | rfl | rfl | rfl | rfl | rfl | rfl | rfl | rfl
    · exact z22
    · exact z30
    · exact z38
    · exact z46
    · exact z54
    · exact z62
    · exact z70
    · exact z78
    · exact z87
    · exact z96
    · exact z105
    · exact z113
    · exact z121
  exact zv_vret (pc := 126) C hr dMo_init_126 (Nat.le_of_ble_eq_true rfl) (Nat.le_of_ble_eq_true rfl) (by exact ⟨rfl, fun i => [a0, q22, q30, q38, q46, q54, q62, q70, q78, q87, q96, q105, q113, q121].getD i 0, rfl, ⟨fun i j hi hj hij => nd_inj (L := [a0, q22, q30, q38, q46, q54, q62, q70, q78, q87, q96, q105, q113, q121]) hND hi hj hij, f0, f22, f30, f38, f46, f54, f62, f70, f78, f87, f96, f105, f113, f121⟩, hnone, fr⟩)
