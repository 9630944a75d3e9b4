/-! the law's world: the class's cells, the reference's cells, the cell of one long -/
theorem zMm.kept {O : zO} {G G' : zG} {am : Nat → Nat} {M : aM} (h : zMm O G am M) (hq : ∀ i, i < 14 → G' (am i) = G (am i)) : zMm O G' am M := by
  obtain ⟨hi, h0, h1, h2, h3, h4, h5, h6, h7, h8, h9, h10, h11, h12, h13⟩ := h
  exact ⟨hi, (hq 0 (by omega)).trans h0, (hq 1 (by omega)).trans h1, (hq 2 (by omega)).trans h2, (hq 3 (by omega)).trans h3, (hq 4 (by omega)).trans h4, (hq 5 (by omega)).trans h5, (hq 6 (by omega)).trans h6, (hq 7 (by omega)).trans h7, (hq 8 (by omega)).trans h8, (hq 9 (by omega)).trans h9, (hq 10 (by omega)).trans h10, (hq 11 (by omega)).trans h11, (hq 12 (by omega)).trans h12, (hq 13 (by omega)).trans h13⟩
theorem zMm.dom {O : zO} {G : zG} {am : Nat → Nat} {M : aM} (h : zMm O G am M) {i : Nat} (hi : i < 14) : ∃ e, G (am i) = some e := by
  obtain ⟨-, h0, h1, h2, h3, h4, h5, h6, h7, h8, h9, h10, h11, h12, h13⟩ := h
  rcases (show i = 0 ∨ i = 1 ∨ i = 2 ∨ i = 3 ∨ i = 4 ∨ i = 5 ∨ i = 6 ∨ i = 7 ∨ i = 8 ∨ i = 9 ∨ i = 10 ∨ i = 11 ∨ i = 12 ∨ i = 13 by omega) with rfl | rfl | rfl | rfl | rfl | rfl | rfl | rfl | rfl | rfl | rfl | rfl | rfl | rfl
  · exact ⟨_, h0⟩
  · exact ⟨_, h1⟩
  · exact ⟨_, h2⟩
  · exact ⟨_, h3⟩
  · exact ⟨_, h4⟩
  · exact ⟨_, h5⟩
  · exact ⟨_, h6⟩
  · exact ⟨_, h7⟩
  · exact ⟨_, h8⟩
  · exact ⟨_, h9⟩
  · exact ⟨_, h10⟩
  · exact ⟨_, h11⟩
  · exact ⟨_, h12⟩
  · exact ⟨_, h13⟩
def zLaw (O : zO) (G : zG) (ad am : Nat → Nat) (ao : Nat) (S : aS) (M : aM) : Prop := zRep O G ad S ∧ zMm O G am M ∧ (∃ g : Nat → Int64, G ao = some (zJ O 1 g)) ∧ (∀ i j, i < 14 → j < 12 + 3 * snb S → am i ≠ ad j) ∧ (∀ i, i < 14 → ao ≠ am i) ∧ (∀ j, j < 12 + 3 * snb S → ao ≠ ad j)
theorem zLaw.A {O : zO} {G G' : zG} {ad am : Nat → Nat} {ao : Nat} {S S' : aS} {M : aM} {k : Int32} {val : Int64} (h : zLaw O G ad am ao S M) (hT : zTa O G G' ad ao S S' k val) : ∃ ad' : Nat → Nat, ad' 0 = ad 0 ∧ zLaw O G' ad' am ao S' M ∧ ∃ g : Nat → Int64, G' ao = some (zJ O 1 g) ∧ (k = 0 → g 0 = val) := by
  obtain ⟨hR, hM, ⟨g0, hg0⟩, d1, d2, d3⟩ := h
  obtain ⟨ad', h1, h2, h3, h4, h5, g, hg, hv⟩ := hT
  refine ⟨ad', h3 0 (by omega), ⟨h1, hM.kept (fun i hi => ?_), ⟨g, hg⟩, fun i j hi hj => ?_, d2, fun j hj => ?_⟩, g, hg, hv⟩
  · obtain ⟨e, he⟩ := hM.dom hi
    rw [he]
    exact h5 _ e he (Ne.symm (d2 i hi)) (fun j hj => d1 i j hi hj)
  · by_cases hj2 : j < 12 + 3 * snb S
    · rw [h3 j hj2]; exact d1 i j hi hj2
    · obtain ⟨e, he⟩ := hM.dom hi
      exact Ne.symm (zu_fresh (h4 j (by omega) hj) he)
  · by_cases hj2 : j < 12 + 3 * snb S
    · rw [h3 j hj2]; exact d3 j hj2
    · exact Ne.symm (zu_fresh (h4 j (by omega) hj) hg0)
theorem zLaw.S {O : zO} {G G' : zG} {ad am : Nat → Nat} {ao : Nat} {S S' : aS} {M : aM} (h : zLaw O G ad am ao S M) (hT : zTo O G G' ad S S') : ∃ ad' : Nat → Nat, ad' 0 = ad 0 ∧ zLaw O G' ad' am ao S' M := by
  obtain ⟨g0, hg0⟩ := h.2.2.1
  obtain ⟨ad', e, hL, -⟩ := h.A (zTa_k (k := 1) hT h.2.2.2.2.2 hg0 0 (by decide))
  exact ⟨ad', e, hL⟩
theorem zLaw.M {O : zO} {G G' : zG} {ad am : Nat → Nat} {ao : Nat} {S : aS} {M M' : aM} (h : zLaw O G ad am ao S M) (hT : zMt O G G' am M') : zLaw O G' ad am ao S M' := by
  obtain ⟨hR, hM, ⟨g0, hg0⟩, d1, d2, d3⟩ := h
  exact ⟨hR.keptAll (fun j hj => hT.2 _ (fun i hi => Ne.symm (d1 i j hi hj))), hT.1, ⟨g0, (hT.2 _ d2).trans hg0⟩, d1, d2, d3⟩
def zLI (O : zO) (G : zG) (ax ay ao : Nat) : Prop := ∃ (ad am : Nat → Nat) (S : aS) (M : aM), ad 0 = ax ∧ am 0 = ay ∧ zLaw O G ad am ao S M ∧ Inv S M
theorem le_c {n : Nat} (h : n ≤ 601024) : n ≤ room_1.cells := h
theorem le_s {n : Nat} (h : n ≤ 7293034) : n ≤ room_1.slots := h
set_option maxHeartbeats 4000000 in
set_option maxRecDepth 100000 in
theorem w_0 {O : zO} {p : Program} {l : Launch} {e : Env} {s : State} {m : MethodId} {args : Array Value} {below : List Frame} {meth : Method} {c : Code} {Q : State → Prop} {G : zG} {kc ks : Nat} (hk : zK O l) {b L : Nat} {xs : Nat → Int32} (C : zC O p l s m meth c RLa bLa_law 8) (hX : zSc O b L xs) {ax ay ao i : Nat} (hi : i + 5 ≤ L) (hc : kc + 4 ≤ 601024) (hs : ks + 55 ≤ 7293034) (h : zLI O G ax ay ao) (kk : ∀ G', zLI O G' ax ay ao → zV O p l e room_1 s m args below meth c 8 Q 1097 [(0, .ref b), (1, .ref ax), (2, .ref ay), (3, .ref ao), (4, .int (nI i))] [] G' (kc + 4) (ks + 55)) : zV O p l e room_1 s m args below meth c 8 Q 116 [(0, .ref b), (1, .ref ax), (2, .ref ay), (3, .ref ao), (4, .int (nI i))] [] G kc ks := by
  obtain ⟨ad, am, S, M, rfl, rfl, hLw, hI⟩ := h
  obtain ⟨g0, hg0⟩ := hLw.2.2.1
  refine zv_aload_n (pc := 116) C dLa_law_116 rfl ?_
  refine zv_aload_n (pc := 117) C dLa_law_117 rfl ?_
  refine zv_iload (pc := 118) C dLa_law_118 rfl ?_
  refine zv_iconst (pc := 120) (v := 1) C dLa_law_120 (by decide) ?_
  refine zv_iadd (pc := 121) C dLa_law_121 ?_
  refine zv_topi (nI_add i 1) ?_
  refine zv_sld (pc := 122) C hX dLa_law_122 (by omega) ?_
  refine zv_aload_n (pc := 123) C dLa_law_123 rfl ?_
  refine zv_callSW (pc := 124) C dLa_law_124 zNo_not (cLa_account hk _ hLw.1 hI.1 hLw.2.2.2.2.2 hg0 _) gLa_56 ⟨rfl, rfl, ⟨Nat.le_of_ble_eq_true rfl, Nat.le_of_ble_eq_true rfl⟩, mLa_account⟩ rfl rfl (Nat.le_of_ble_eq_true rfl) ⟨le_c (by omega), le_s (by omega)⟩ (fun v G1 h1 => ?_)
  obtain ⟨k9, val, S1, rfl, hP, hTa⟩ := h1
  obtain ⟨ad1, e1, hL1, g1, hg1, hv1⟩ := hLw.A hTa
  refine zv_istore (pc := 127) C dLa_law_127 (by decide) ?_
  refine zv_aload_n (pc := 129) C dLa_law_129 rfl ?_
  refine zv_aload_n (pc := 130) C dLa_law_130 rfl ?_
  refine zv_iload (pc := 131) C dLa_law_131 rfl ?_
  refine zv_iconst (pc := 133) (v := 1) C dLa_law_133 (by decide) ?_
  refine zv_iadd (pc := 134) C dLa_law_134 ?_
  refine zv_topi (nI_add i 1) ?_
  refine zv_sld (pc := 135) C hX dLa_law_135 (by omega) ?_
  refine zv_callV (pc := 136) C dLa_law_136 (eMo_account hk _ hL1.2.1 hI.2.1 _) gLa_61 ⟨rfl, rfl, ⟨Nat.le_of_ble_eq_true rfl, Nat.le_of_ble_eq_true rfl⟩, mMo_account⟩ rfl rfl (Nat.le_of_ble_eq_true rfl) hL1.2.1.2.1 rfl rfl ⟨le_c (by omega), le_s (by omega)⟩ (fun _ _ h => h.elim) (fun v G2 h2 => ?_)
  obtain ⟨w9, M1, rfl, hPm, hMt⟩ := h2
  have hL2 := hL1.M hMt
  obtain ⟨a1, a2, hI2⟩ := st_ac hI hP hPm
  have hg2 := (hMt.2 _ hL1.2.2.2.2.1).trans hg1
  refine zv_istore (pc := 139) C dLa_law_139 (by decide) ?_
  refine zv_aload_n (pc := 141) C dLa_law_141 rfl ?_
  refine zv_callV (pc := 142) C dLa_law_142 (cMo_thrown hk _ hL2.2.1 hI2.2.1) gLa_62 ⟨rfl, rfl, ⟨Nat.le_of_ble_eq_true rfl, Nat.le_of_ble_eq_true rfl⟩, mMo_thrown⟩ rfl rfl (Nat.le_of_ble_eq_true rfl) hL2.2.1.2.1 rfl rfl ⟨le_c (by omega), le_s (by omega)⟩ (fun _ _ h => h.elim) (fun v G3 h3 => ?_)
  obtain ⟨rfl, rfl⟩ := h3
  refine zv_iload (pc := 145) C dLa_law_145 rfl ?_
  refine zv_icmp_eq (pc := 147) (tgt := 152) C dLa_law_147 (by decide) (fun c147 => ?_) (fun c147 => absurd a1 c147)
  refine zv_iload (pc := 152) C dLa_law_152 rfl ?_
  refine zv_if_ne (pc := 154) (tgt := 169) C dLa_law_154 (by decide) (fun c154 => ?_) (fun c154 => ?_)
  · refine zv_goto (pc := 169) (tgt := 1097) C dLa_law_169 (by decide) ?_
    exact zv_pick [0, 1, 2, 3, 4] rfl (zv_widen (by omega) (by omega) (kk _ ⟨ad1, am, _, _, e1, rfl, hL2, hI2⟩))
  · refine zv_aload_n (pc := 157) C dLa_law_157 rfl ?_
    refine zv_iconst (pc := 158) (v := 0) C dLa_law_158 (by decide) ?_
    refine zv_lald (pc := 159) C dLa_law_159 hg2 vp_in0 ?_
    refine zv_iload (pc := 160) C dLa_law_160 rfl ?_
    refine zv_i2l (pc := 162) C dLa_law_162 ?_
    refine zv_lcmp (pc := 163) C dLa_law_163 ?_
    refine zv_if_eq (pc := 164) (tgt := 169) C dLa_law_164 (by decide) (fun c164 => ?_) (fun c164 => absurd ((lg_cmp_eq _ _).mpr ((hv1 c154).trans (a2 c154))) c164)
    refine zv_goto (pc := 169) (tgt := 1097) C dLa_law_169 (by decide) ?_
    exact zv_pick [0, 1, 2, 3, 4] rfl (zv_widen (by omega) (by omega) (kk _ ⟨ad1, am, _, _, e1, rfl, hL2, hI2⟩))
set_option maxHeartbeats 4000000 in
set_option maxRecDepth 100000 in
theorem w_1 {O : zO} {p : Program} {l : Launch} {e : Env} {s : State} {m : MethodId} {args : Array Value} {below : List Frame} {meth : Method} {c : Code} {Q : State → Prop} {G : zG} {kc ks : Nat} (hk : zK O l) {b L : Nat} {xs : Nat → Int32} (C : zC O p l s m meth c RLa bLa_law 8) (hX : zSc O b L xs) {ax ay ao i : Nat} (hi : i + 5 ≤ L) (hc : kc + 4 ≤ 601024) (hs : ks + 55 ≤ 7293034) (h : zLI O G ax ay ao) (kk : ∀ G', zLI O G' ax ay ao → zV O p l e room_1 s m args below meth c 8 Q 1097 [(0, .ref b), (1, .ref ax), (2, .ref ay), (3, .ref ao), (4, .int (nI i))] [] G' (kc + 4) (ks + 55)) : zV O p l e room_1 s m args below meth c 8 Q 172 [(0, .ref b), (1, .ref ax), (2, .ref ay), (3, .ref ao), (4, .int (nI i))] [] G kc ks := by
  obtain ⟨ad, am, S, M, rfl, rfl, hLw, hI⟩ := h
  obtain ⟨g0, hg0⟩ := hLw.2.2.1
  refine zv_aload_n (pc := 172) C dLa_law_172 rfl ?_
  refine zv_aload_n (pc := 173) C dLa_law_173 rfl ?_
  refine zv_iload (pc := 174) C dLa_law_174 rfl ?_
  refine zv_iconst (pc := 176) (v := 1) C dLa_law_176 (by decide) ?_
  refine zv_iadd (pc := 177) C dLa_law_177 ?_
  refine zv_topi (nI_add i 1) ?_
  refine zv_sld (pc := 178) C hX dLa_law_178 (by omega) ?_
  refine zv_aload_n (pc := 179) C dLa_law_179 rfl ?_
  refine zv_iload (pc := 180) C dLa_law_180 rfl ?_
  refine zv_iconst (pc := 182) (v := 2) C dLa_law_182 (by decide) ?_
  refine zv_iadd (pc := 183) C dLa_law_183 ?_
  refine zv_topi (nI_add i 2) ?_
  refine zv_sld (pc := 184) C hX dLa_law_184 (by omega) ?_
  refine zv_aload_n (pc := 185) C dLa_law_185 rfl ?_
  refine zv_callSW (pc := 186) C dLa_law_186 zNo_not (cLa_batch hk _ hLw.1 hI.1 hLw.2.2.2.2.2 hg0 _ _) gLa_66 ⟨rfl, rfl, ⟨Nat.le_of_ble_eq_true rfl, Nat.le_of_ble_eq_true rfl⟩, mLa_batch⟩ rfl rfl (Nat.le_of_ble_eq_true rfl) ⟨le_c (by omega), le_s (by omega)⟩ (fun v G1 h1 => ?_)
  obtain ⟨k9, val, S1, rfl, hP, hTa⟩ := h1
  obtain ⟨ad1, e1, hL1, g1, hg1, hv1⟩ := hLw.A hTa
  refine zv_istore (pc := 189) C dLa_law_189 (by decide) ?_
  refine zv_aload_n (pc := 191) C dLa_law_191 rfl ?_
  refine zv_aload_n (pc := 192) C dLa_law_192 rfl ?_
  refine zv_iload (pc := 193) C dLa_law_193 rfl ?_
  refine zv_iconst (pc := 195) (v := 1) C dLa_law_195 (by decide) ?_
  refine zv_iadd (pc := 196) C dLa_law_196 ?_
  refine zv_topi (nI_add i 1) ?_
  refine zv_sld (pc := 197) C hX dLa_law_197 (by omega) ?_
  refine zv_aload_n (pc := 198) C dLa_law_198 rfl ?_
  refine zv_iload (pc := 199) C dLa_law_199 rfl ?_
  refine zv_iconst (pc := 201) (v := 2) C dLa_law_201 (by decide) ?_
  refine zv_iadd (pc := 202) C dLa_law_202 ?_
  refine zv_topi (nI_add i 2) ?_
  refine zv_sld (pc := 203) C hX dLa_law_203 (by omega) ?_
  refine zv_callV (pc := 204) C dLa_law_204 (eMo_batch hk _ hL1.2.1 hI.2.1 _ _) gLa_69 ⟨rfl, rfl, ⟨Nat.le_of_ble_eq_true rfl, Nat.le_of_ble_eq_true rfl⟩, mMo_batch⟩ rfl rfl (Nat.le_of_ble_eq_true rfl) hL1.2.1.2.1 rfl rfl ⟨le_c (by omega), le_s (by omega)⟩ (fun _ _ h => h.elim) (fun v G2 h2 => ?_)
  obtain ⟨w9, M1, rfl, hPm, hMt⟩ := h2
  have hL2 := hL1.M hMt
  obtain ⟨a1, a2, hI2⟩ := st_ba hI hP hPm
  have hg2 := (hMt.2 _ hL1.2.2.2.2.1).trans hg1
  refine zv_istore (pc := 207) C dLa_law_207 (by decide) ?_
  refine zv_aload_n (pc := 209) C dLa_law_209 rfl ?_
  refine zv_callV (pc := 210) C dLa_law_210 (cMo_thrown hk _ hL2.2.1 hI2.2.1) gLa_62 ⟨rfl, rfl, ⟨Nat.le_of_ble_eq_true rfl, Nat.le_of_ble_eq_true rfl⟩, mMo_thrown⟩ rfl rfl (Nat.le_of_ble_eq_true rfl) hL2.2.1.2.1 rfl rfl ⟨le_c (by omega), le_s (by omega)⟩ (fun _ _ h => h.elim) (fun v G3 h3 => ?_)
  obtain ⟨rfl, rfl⟩ := h3
  refine zv_iload (pc := 213) C dLa_law_213 rfl ?_
  refine zv_icmp_eq (pc := 215) (tgt := 220) C dLa_law_215 (by decide) (fun c215 => ?_) (fun c215 => absurd a1 c215)
  refine zv_iload (pc := 220) C dLa_law_220 rfl ?_
  refine zv_if_ne (pc := 222) (tgt := 237) C dLa_law_222 (by decide) (fun c222 => ?_) (fun c222 => ?_)
  · refine zv_goto (pc := 237) (tgt := 1097) C dLa_law_237 (by decide) ?_
    exact zv_pick [0, 1, 2, 3, 4] rfl (zv_widen (by omega) (by omega) (kk _ ⟨ad1, am, _, _, e1, rfl, hL2, hI2⟩))
  · refine zv_aload_n (pc := 225) C dLa_law_225 rfl ?_
    refine zv_iconst (pc := 226) (v := 0) C dLa_law_226 (by decide) ?_
    refine zv_lald (pc := 227) C dLa_law_227 hg2 vp_in0 ?_
    refine zv_iload (pc := 228) C dLa_law_228 rfl ?_
    refine zv_i2l (pc := 230) C dLa_law_230 ?_
    refine zv_lcmp (pc := 231) C dLa_law_231 ?_
    refine zv_if_eq (pc := 232) (tgt := 237) C dLa_law_232 (by decide) (fun c232 => ?_) (fun c232 => absurd ((lg_cmp_eq _ _).mpr ((hv1 c222).trans (a2 c222))) c232)
    refine zv_goto (pc := 237) (tgt := 1097) C dLa_law_237 (by decide) ?_
    exact zv_pick [0, 1, 2, 3, 4] rfl (zv_widen (by omega) (by omega) (kk _ ⟨ad1, am, _, _, e1, rfl, hL2, hI2⟩))
set_option maxHeartbeats 4000000 in
set_option maxRecDepth 100000 in
theorem w_2 {O : zO} {p : Program} {l : Launch} {e : Env} {s : State} {m : MethodId} {args : Array Value} {below : List Frame} {meth : Method} {c : Code} {Q : State → Prop} {G : zG} {kc ks : Nat} (hk : zK O l) {b L : Nat} {xs : Nat → Int32} (C : zC O p l s m meth c RLa bLa_law 8) (hX : zSc O b L xs) {ax ay ao i : Nat} (hi : i + 5 ≤ L) (hc : kc + 4 ≤ 601024) (hs : ks + 55 ≤ 7293034) (h : zLI O G ax ay ao) (kk : ∀ G', zLI O G' ax ay ao → zV O p l e room_1 s m args below meth c 8 Q 1097 [(0, .ref b), (1, .ref ax), (2, .ref ay), (3, .ref ao), (4, .int (nI i))] [] G' (kc + 4) (ks + 55)) : zV O p l e room_1 s m args below meth c 8 Q 240 [(0, .ref b), (1, .ref ax), (2, .ref ay), (3, .ref ao), (4, .int (nI i))] [] G kc ks := by
  obtain ⟨ad, am, S, M, rfl, rfl, hLw, hI⟩ := h
  obtain ⟨g0, hg0⟩ := hLw.2.2.1
  refine zv_aload_n (pc := 240) C dLa_law_240 rfl ?_
  refine zv_aload_n (pc := 241) C dLa_law_241 rfl ?_
  refine zv_iload (pc := 242) C dLa_law_242 rfl ?_
  refine zv_iconst (pc := 244) (v := 1) C dLa_law_244 (by decide) ?_
  refine zv_iadd (pc := 245) C dLa_law_245 ?_
  refine zv_topi (nI_add i 1) ?_
  refine zv_sld (pc := 246) C hX dLa_law_246 (by omega) ?_
  refine zv_aload_n (pc := 247) C dLa_law_247 rfl ?_
  refine zv_iload (pc := 248) C dLa_law_248 rfl ?_
  refine zv_iconst (pc := 250) (v := 2) C dLa_law_250 (by decide) ?_
  refine zv_iadd (pc := 251) C dLa_law_251 ?_
  refine zv_topi (nI_add i 2) ?_
  refine zv_sld (pc := 252) C hX dLa_law_252 (by omega) ?_
  refine zv_aload_n (pc := 253) C dLa_law_253 rfl ?_
  refine zv_iload (pc := 254) C dLa_law_254 rfl ?_
  refine zv_iconst (pc := 256) (v := 3) C dLa_law_256 (by decide) ?_
  refine zv_iadd (pc := 257) C dLa_law_257 ?_
  refine zv_topi (nI_add i 3) ?_
  refine zv_sld (pc := 258) C hX dLa_law_258 (by omega) ?_
  refine zv_i2l (pc := 259) C dLa_law_259 ?_
  refine zv_bipush (pc := 260) (v := 32) C dLa_law_260 (by decide) ?_
  refine zv_lshl (pc := 262) C dLa_law_262 ?_
  refine zv_aload_n (pc := 263) C dLa_law_263 rfl ?_
  refine zv_iload (pc := 264) C dLa_law_264 rfl ?_
  refine zv_iconst (pc := 266) (v := 4) C dLa_law_266 (by decide) ?_
  refine zv_iadd (pc := 267) C dLa_law_267 ?_
  refine zv_topi (nI_add i 4) ?_
  refine zv_sld (pc := 268) C hX dLa_law_268 (by omega) ?_
  refine zv_i2l (pc := 269) C dLa_law_269 ?_
  refine zv_ldc2 (pc := 270) C dLa_law_270 zw_754 ?_
  refine zv_land (pc := 273) C dLa_law_273 ?_
  refine zv_lor (pc := 274) C dLa_law_274 ?_
  refine zv_callV (pc := 275) C dLa_law_275 (eDu_row hk _ hLw.1 hI.1 _ _ _) gLa_72 ⟨rfl, rfl, ⟨Nat.le_of_ble_eq_true rfl, Nat.le_of_ble_eq_true rfl⟩, mDu_row⟩ rfl rfl (Nat.le_of_ble_eq_true rfl) hLw.1.2.1 rfl rfl ⟨le_c (by omega), le_s (by omega)⟩ (fun _ _ h => h.elim) (fun v G1 h1 => ?_)
  obtain ⟨v9, S1, rfl, hP, hT⟩ := h1
  obtain ⟨ad1, e1, hL1⟩ := hLw.S hT
  refine zv_aload_n (pc := 278) C dLa_law_278 rfl ?_
  refine zv_aload_n (pc := 279) C dLa_law_279 rfl ?_
  refine zv_iload (pc := 280) C dLa_law_280 rfl ?_
  refine zv_iconst (pc := 282) (v := 1) C dLa_law_282 (by decide) ?_
  refine zv_iadd (pc := 283) C dLa_law_283 ?_
  refine zv_topi (nI_add i 1) ?_
  refine zv_sld (pc := 284) C hX dLa_law_284 (by omega) ?_
  refine zv_aload_n (pc := 285) C dLa_law_285 rfl ?_
  refine zv_iload (pc := 286) C dLa_law_286 rfl ?_
  refine zv_iconst (pc := 288) (v := 2) C dLa_law_288 (by decide) ?_
  refine zv_iadd (pc := 289) C dLa_law_289 ?_
  refine zv_topi (nI_add i 2) ?_
  refine zv_sld (pc := 290) C hX dLa_law_290 (by omega) ?_
  refine zv_aload_n (pc := 291) C dLa_law_291 rfl ?_
  refine zv_iload (pc := 292) C dLa_law_292 rfl ?_
  refine zv_iconst (pc := 294) (v := 3) C dLa_law_294 (by decide) ?_
  refine zv_iadd (pc := 295) C dLa_law_295 ?_
  refine zv_topi (nI_add i 3) ?_
  refine zv_sld (pc := 296) C hX dLa_law_296 (by omega) ?_
  refine zv_i2l (pc := 297) C dLa_law_297 ?_
  refine zv_bipush (pc := 298) (v := 32) C dLa_law_298 (by decide) ?_
  refine zv_lshl (pc := 300) C dLa_law_300 ?_
  refine zv_aload_n (pc := 301) C dLa_law_301 rfl ?_
  refine zv_iload (pc := 302) C dLa_law_302 rfl ?_
  refine zv_iconst (pc := 304) (v := 4) C dLa_law_304 (by decide) ?_
  refine zv_iadd (pc := 305) C dLa_law_305 ?_
  refine zv_topi (nI_add i 4) ?_
  refine zv_sld (pc := 306) C hX dLa_law_306 (by omega) ?_
  refine zv_i2l (pc := 307) C dLa_law_307 ?_
  refine zv_ldc2 (pc := 308) C dLa_law_308 zw_754 ?_
  refine zv_land (pc := 311) C dLa_law_311 ?_
  refine zv_lor (pc := 312) C dLa_law_312 ?_
  refine zv_callV (pc := 313) C dLa_law_313 (eMo_row hk _ hL1.2.1 hI.2.1 _ _ _) gLa_76 ⟨rfl, rfl, ⟨Nat.le_of_ble_eq_true rfl, Nat.le_of_ble_eq_true rfl⟩, mMo_row⟩ rfl rfl (Nat.le_of_ble_eq_true rfl) hL1.2.1.2.1 rfl rfl ⟨le_c (by omega), le_s (by omega)⟩ (fun _ _ h => h.elim) (fun v G2 h2 => ?_)
  obtain ⟨w9, M1, rfl, hPm, hMt⟩ := h2
  have hL2 := hL1.M hMt
  obtain ⟨a1, hI2⟩ := st_ro hI hP hPm
  refine zv_icmp_eq (pc := 316) (tgt := 1097) C dLa_law_316 (by decide) (fun c316 => ?_) (fun c316 => absurd a1 c316)
  exact zv_pick [0, 1, 2, 3, 4] rfl (zv_widen (by omega) (by omega) (kk _ ⟨ad1, am, _, _, e1, rfl, hL2, hI2⟩))
set_option maxHeartbeats 4000000 in
set_option maxRecDepth 100000 in
theorem w_3 {O : zO} {p : Program} {l : Launch} {e : Env} {s : State} {m : MethodId} {args : Array Value} {below : List Frame} {meth : Method} {c : Code} {Q : State → Prop} {G : zG} {kc ks : Nat} (hk : zK O l) {b L : Nat} {xs : Nat → Int32} (C : zC O p l s m meth c RLa bLa_law 8) (hX : zSc O b L xs) {ax ay ao i : Nat} (hi : i + 5 ≤ L) (hc : kc + 4 ≤ 601024) (hs : ks + 55 ≤ 7293034) (h : zLI O G ax ay ao) (kk : ∀ G', zLI O G' ax ay ao → zV O p l e room_1 s m args below meth c 8 Q 1097 [(0, .ref b), (1, .ref ax), (2, .ref ay), (3, .ref ao), (4, .int (nI i))] [] G' (kc + 4) (ks + 55)) : zV O p l e room_1 s m args below meth c 8 Q 321 [(0, .ref b), (1, .ref ax), (2, .ref ay), (3, .ref ao), (4, .int (nI i))] [] G kc ks := by
  obtain ⟨ad, am, S, M, rfl, rfl, hLw, hI⟩ := h
  obtain ⟨g0, hg0⟩ := hLw.2.2.1
  refine zv_aload_n (pc := 321) C dLa_law_321 rfl ?_
  refine zv_aload_n (pc := 322) C dLa_law_322 rfl ?_
  refine zv_iload (pc := 323) C dLa_law_323 rfl ?_
  refine zv_iconst (pc := 325) (v := 1) C dLa_law_325 (by decide) ?_
  refine zv_iadd (pc := 326) C dLa_law_326 ?_
  refine zv_topi (nI_add i 1) ?_
  refine zv_sld (pc := 327) C hX dLa_law_327 (by omega) ?_
  refine zv_aload_n (pc := 328) C dLa_law_328 rfl ?_
  refine zv_iload (pc := 329) C dLa_law_329 rfl ?_
  refine zv_iconst (pc := 331) (v := 2) C dLa_law_331 (by decide) ?_
  refine zv_iadd (pc := 332) C dLa_law_332 ?_
  refine zv_topi (nI_add i 2) ?_
  refine zv_sld (pc := 333) C hX dLa_law_333 (by omega) ?_
  refine zv_if_eq (pc := 334) (tgt := 341) C dLa_law_334 (by decide) (fun c334 => ?_) (fun c334 => ?_)
  · refine zv_iconst (pc := 341) (v := 0) C dLa_law_341 (by decide) ?_
    refine zv_callV (pc := 342) C dLa_law_342 (eDu_fails hk _ hLw.1 hI.1 _ _ rfl (by first | rfl | decide)) gLa_77 ⟨rfl, rfl, ⟨Nat.le_of_ble_eq_true rfl, Nat.le_of_ble_eq_true rfl⟩, mDu_fails⟩ rfl rfl (Nat.le_of_ble_eq_true rfl) hLw.1.2.1 rfl rfl ⟨le_c (by omega), le_s (by omega)⟩ (fun _ _ h => h.elim) (fun v G1 h1 => ?_)
    obtain ⟨v9, S1, rfl, hP, hT⟩ := h1
    obtain ⟨ad1, e1, hL1⟩ := hLw.S hT
    refine zv_aload_n (pc := 345) C dLa_law_345 rfl ?_
    refine zv_aload_n (pc := 346) C dLa_law_346 rfl ?_
    refine zv_iload (pc := 347) C dLa_law_347 rfl ?_
    refine zv_iconst (pc := 349) (v := 1) C dLa_law_349 (by decide) ?_
    refine zv_iadd (pc := 350) C dLa_law_350 ?_
    refine zv_topi (nI_add i 1) ?_
    refine zv_sld (pc := 351) C hX dLa_law_351 (by omega) ?_
    refine zv_aload_n (pc := 352) C dLa_law_352 rfl ?_
    refine zv_iload (pc := 353) C dLa_law_353 rfl ?_
    refine zv_iconst (pc := 355) (v := 2) C dLa_law_355 (by decide) ?_
    refine zv_iadd (pc := 356) C dLa_law_356 ?_
    refine zv_topi (nI_add i 2) ?_
    refine zv_sld (pc := 357) C hX dLa_law_357 (by omega) ?_
    refine zv_if_eq (pc := 358) (tgt := 365) C dLa_law_358 (by decide) (fun c358 => ?_) (fun c358 => absurd c334 c358)
    refine zv_iconst (pc := 365) (v := 0) C dLa_law_365 (by decide) ?_
    refine zv_callV (pc := 366) C dLa_law_366 (eMo_fails hk _ hL1.2.1 hI.2.1 _ _ rfl) gLa_81 ⟨rfl, rfl, ⟨Nat.le_of_ble_eq_true rfl, Nat.le_of_ble_eq_true rfl⟩, mMo_fails⟩ rfl rfl (Nat.le_of_ble_eq_true rfl) hL1.2.1.2.1 rfl rfl ⟨le_c (by omega), le_s (by omega)⟩ (fun _ _ h => h.elim) (fun v G2 h2 => ?_)
    obtain ⟨w9, M1, rfl, hPm, hMt⟩ := h2
    have hL2 := hL1.M hMt
    obtain ⟨a1, hI2⟩ := st_fl hI hP hPm
    refine zv_icmp_eq (pc := 369) (tgt := 1097) C dLa_law_369 (by decide) (fun c369 => ?_) (fun c369 => absurd a1 c369)
    exact zv_pick [0, 1, 2, 3, 4] rfl (zv_widen (by omega) (by omega) (kk _ ⟨ad1, am, _, _, e1, rfl, hL2, hI2⟩))
  · refine zv_iconst (pc := 337) (v := 1) C dLa_law_337 (by decide) ?_
    refine zv_goto (pc := 338) (tgt := 342) C dLa_law_338 (by decide) ?_
    refine zv_callV (pc := 342) C dLa_law_342 (eDu_fails hk _ hLw.1 hI.1 _ _ rfl (by first | rfl | decide)) gLa_77 ⟨rfl, rfl, ⟨Nat.le_of_ble_eq_true rfl, Nat.le_of_ble_eq_true rfl⟩, mDu_fails⟩ rfl rfl (Nat.le_of_ble_eq_true rfl) hLw.1.2.1 rfl rfl ⟨le_c (by omega), le_s (by omega)⟩ (fun _ _ h => h.elim) (fun v G1 h1 => ?_)
    obtain ⟨v9, S1, rfl, hP, hT⟩ := h1
    obtain ⟨ad1, e1, hL1⟩ := hLw.S hT
    refine zv_aload_n (pc := 345) C dLa_law_345 rfl ?_
    refine zv_aload_n (pc := 346) C dLa_law_346 rfl ?_
    refine zv_iload (pc := 347) C dLa_law_347 rfl ?_
    refine zv_iconst (pc := 349) (v := 1) C dLa_law_349 (by decide) ?_
    refine zv_iadd (pc := 350) C dLa_law_350 ?_
    refine zv_topi (nI_add i 1) ?_
    refine zv_sld (pc := 351) C hX dLa_law_351 (by omega) ?_
    refine zv_aload_n (pc := 352) C dLa_law_352 rfl ?_
    refine zv_iload (pc := 353) C dLa_law_353 rfl ?_
    refine zv_iconst (pc := 355) (v := 2) C dLa_law_355 (by decide) ?_
    refine zv_iadd (pc := 356) C dLa_law_356 ?_
    refine zv_topi (nI_add i 2) ?_
    refine zv_sld (pc := 357) C hX dLa_law_357 (by omega) ?_
    refine zv_if_eq (pc := 358) (tgt := 365) C dLa_law_358 (by decide) (fun c358 => absurd c358 c334) (fun c358 => ?_)
    refine zv_iconst (pc := 361) (v := 1) C dLa_law_361 (by decide) ?_
    refine zv_goto (pc := 362) (tgt := 366) C dLa_law_362 (by decide) ?_
    refine zv_callV (pc := 366) C dLa_law_366 (eMo_fails hk _ hL1.2.1 hI.2.1 _ _ rfl) gLa_81 ⟨rfl, rfl, ⟨Nat.le_of_ble_eq_true rfl, Nat.le_of_ble_eq_true rfl⟩, mMo_fails⟩ rfl rfl (Nat.le_of_ble_eq_true rfl) hL1.2.1.2.1 rfl rfl ⟨le_c (by omega), le_s (by omega)⟩ (fun _ _ h => h.elim) (fun v G2 h2 => ?_)
    obtain ⟨w9, M1, rfl, hPm, hMt⟩ := h2
    have hL2 := hL1.M hMt
    obtain ⟨a1, hI2⟩ := st_fl hI hP hPm
    refine zv_icmp_eq (pc := 369) (tgt := 1097) C dLa_law_369 (by decide) (fun c369 => ?_) (fun c369 => absurd a1 c369)
    exact zv_pick [0, 1, 2, 3, 4] rfl (zv_widen (by omega) (by omega) (kk _ ⟨ad1, am, _, _, e1, rfl, hL2, hI2⟩))
set_option maxHeartbeats 4000000 in
set_option maxRecDepth 100000 in
theorem w_4 {O : zO} {p : Program} {l : Launch} {e : Env} {s : State} {m : MethodId} {args : Array Value} {below : List Frame} {meth : Method} {c : Code} {Q : State → Prop} {G : zG} {kc ks : Nat} (hk : zK O l) {b L : Nat} {xs : Nat → Int32} (C : zC O p l s m meth c RLa bLa_law 8) (hX : zSc O b L xs) {ax ay ao i : Nat} (hi : i + 5 ≤ L) (hc : kc + 4 ≤ 601024) (hs : ks + 55 ≤ 7293034) (h : zLI O G ax ay ao) (kk : ∀ G', zLI O G' ax ay ao → zV O p l e room_1 s m args below meth c 8 Q 1097 [(0, .ref b), (1, .ref ax), (2, .ref ay), (3, .ref ao), (4, .int (nI i))] [] G' (kc + 4) (ks + 55)) : zV O p l e room_1 s m args below meth c 8 Q 374 [(0, .ref b), (1, .ref ax), (2, .ref ay), (3, .ref ao), (4, .int (nI i))] [] G kc ks := by
  obtain ⟨ad, am, S, M, rfl, rfl, hLw, hI⟩ := h
  obtain ⟨g0, hg0⟩ := hLw.2.2.1
  refine zv_aload_n (pc := 374) C dLa_law_374 rfl ?_
  refine zv_aload_n (pc := 375) C dLa_law_375 rfl ?_
  refine zv_iload (pc := 376) C dLa_law_376 rfl ?_
  refine zv_iconst (pc := 378) (v := 1) C dLa_law_378 (by decide) ?_
  refine zv_iadd (pc := 379) C dLa_law_379 ?_
  refine zv_topi (nI_add i 1) ?_
  refine zv_sld (pc := 380) C hX dLa_law_380 (by omega) ?_
  refine zv_aload_n (pc := 381) C dLa_law_381 rfl ?_
  refine zv_callSW (pc := 382) C dLa_law_382 zNo_not (cLa_post hk _ hLw.1 hI.1 hLw.2.2.2.2.2 hg0 _) gLa_82 ⟨rfl, rfl, ⟨Nat.le_of_ble_eq_true rfl, Nat.le_of_ble_eq_true rfl⟩, mLa_post⟩ rfl rfl (Nat.le_of_ble_eq_true rfl) ⟨le_c (by omega), le_s (by omega)⟩ (fun v G1 h1 => ?_)
  obtain ⟨k9, val, S1, rfl, hP, hTa⟩ := h1
  obtain ⟨ad1, e1, hL1, g1, hg1, hv1⟩ := hLw.A hTa
  refine zv_istore (pc := 385) C dLa_law_385 (by decide) ?_
  refine zv_aload_n (pc := 387) C dLa_law_387 rfl ?_
  refine zv_aload_n (pc := 388) C dLa_law_388 rfl ?_
  refine zv_iload (pc := 389) C dLa_law_389 rfl ?_
  refine zv_iconst (pc := 391) (v := 1) C dLa_law_391 (by decide) ?_
  refine zv_iadd (pc := 392) C dLa_law_392 ?_
  refine zv_topi (nI_add i 1) ?_
  refine zv_sld (pc := 393) C hX dLa_law_393 (by omega) ?_
  refine zv_callV (pc := 394) C dLa_law_394 (eMo_post hk _ hL1.2.1 hI.2.1 _) gLa_84 ⟨rfl, rfl, ⟨Nat.le_of_ble_eq_true rfl, Nat.le_of_ble_eq_true rfl⟩, mMo_post⟩ rfl rfl (Nat.le_of_ble_eq_true rfl) hL1.2.1.2.1 rfl rfl ⟨le_c (by omega), le_s (by omega)⟩ (fun _ _ h => h.elim) (fun v G2 h2 => ?_)
  obtain ⟨w9, M1, rfl, hPm, hMt⟩ := h2
  have hL2 := hL1.M hMt
  obtain ⟨a1, a2, hI2⟩ := st_po hI hP hPm
  have hg2 := (hMt.2 _ hL1.2.2.2.2.1).trans hg1
  refine zv_istore (pc := 397) C dLa_law_397 (by decide) ?_
  refine zv_aload_n (pc := 399) C dLa_law_399 rfl ?_
  refine zv_callV (pc := 400) C dLa_law_400 (cMo_thrown hk _ hL2.2.1 hI2.2.1) gLa_62 ⟨rfl, rfl, ⟨Nat.le_of_ble_eq_true rfl, Nat.le_of_ble_eq_true rfl⟩, mMo_thrown⟩ rfl rfl (Nat.le_of_ble_eq_true rfl) hL2.2.1.2.1 rfl rfl ⟨le_c (by omega), le_s (by omega)⟩ (fun _ _ h => h.elim) (fun v G3 h3 => ?_)
  obtain ⟨rfl, rfl⟩ := h3
  refine zv_iload (pc := 403) C dLa_law_403 rfl ?_
  refine zv_icmp_eq (pc := 405) (tgt := 410) C dLa_law_405 (by decide) (fun c405 => ?_) (fun c405 => absurd a1 c405)
  refine zv_iload (pc := 410) C dLa_law_410 rfl ?_
  refine zv_if_ne (pc := 412) (tgt := 427) C dLa_law_412 (by decide) (fun c412 => ?_) (fun c412 => ?_)
  · refine zv_goto (pc := 427) (tgt := 1097) C dLa_law_427 (by decide) ?_
    exact zv_pick [0, 1, 2, 3, 4] rfl (zv_widen (by omega) (by omega) (kk _ ⟨ad1, am, _, _, e1, rfl, hL2, hI2⟩))
  · refine zv_aload_n (pc := 415) C dLa_law_415 rfl ?_
    refine zv_iconst (pc := 416) (v := 0) C dLa_law_416 (by decide) ?_
    refine zv_lald (pc := 417) C dLa_law_417 hg2 vp_in0 ?_
    refine zv_iload (pc := 418) C dLa_law_418 rfl ?_
    refine zv_i2l (pc := 420) C dLa_law_420 ?_
    refine zv_lcmp (pc := 421) C dLa_law_421 ?_
    refine zv_if_eq (pc := 422) (tgt := 427) C dLa_law_422 (by decide) (fun c422 => ?_) (fun c422 => absurd ((lg_cmp_eq _ _).mpr ((hv1 c412).trans (a2 c412))) c422)
    refine zv_goto (pc := 427) (tgt := 1097) C dLa_law_427 (by decide) ?_
    exact zv_pick [0, 1, 2, 3, 4] rfl (zv_widen (by omega) (by omega) (kk _ ⟨ad1, am, _, _, e1, rfl, hL2, hI2⟩))
set_option maxHeartbeats 4000000 in
set_option maxRecDepth 100000 in
theorem w_5 {O : zO} {p : Program} {l : Launch} {e : Env} {s : State} {m : MethodId} {args : Array Value} {below : List Frame} {meth : Method} {c : Code} {Q : State → Prop} {G : zG} {kc ks : Nat} (hk : zK O l) {b L : Nat} {xs : Nat → Int32} (C : zC O p l s m meth c RLa bLa_law 8) (hX : zSc O b L xs) {ax ay ao i : Nat} (hi : i + 5 ≤ L) (hc : kc + 4 ≤ 601024) (hs : ks + 55 ≤ 7293034) (h : zLI O G ax ay ao) (kk : ∀ G', zLI O G' ax ay ao → zV O p l e room_1 s m args below meth c 8 Q 1097 [(0, .ref b), (1, .ref ax), (2, .ref ay), (3, .ref ao), (4, .int (nI i))] [] G' (kc + 4) (ks + 55)) : zV O p l e room_1 s m args below meth c 8 Q 430 [(0, .ref b), (1, .ref ax), (2, .ref ay), (3, .ref ao), (4, .int (nI i))] [] G kc ks := by
  obtain ⟨ad, am, S, M, rfl, rfl, hLw, hI⟩ := h
  obtain ⟨g0, hg0⟩ := hLw.2.2.1
  refine zv_aload_n (pc := 430) C dLa_law_430 rfl ?_
  refine zv_aload_n (pc := 431) C dLa_law_431 rfl ?_
  refine zv_iload (pc := 432) C dLa_law_432 rfl ?_
  refine zv_iconst (pc := 434) (v := 1) C dLa_law_434 (by decide) ?_
  refine zv_iadd (pc := 435) C dLa_law_435 ?_
  refine zv_topi (nI_add i 1) ?_
  refine zv_sld (pc := 436) C hX dLa_law_436 (by omega) ?_
  refine zv_aload_n (pc := 437) C dLa_law_437 rfl ?_
  refine zv_iload (pc := 438) C dLa_law_438 rfl ?_
  refine zv_iconst (pc := 440) (v := 2) C dLa_law_440 (by decide) ?_
  refine zv_iadd (pc := 441) C dLa_law_441 ?_
  refine zv_topi (nI_add i 2) ?_
  refine zv_sld (pc := 442) C hX dLa_law_442 (by omega) ?_
  refine zv_aload_n (pc := 443) C dLa_law_443 rfl ?_
  refine zv_callSW (pc := 444) C dLa_law_444 zNo_not (cLa_reverse hk _ hLw.1 hI.1 hLw.2.2.2.2.2 hg0 _ _) gLa_85 ⟨rfl, rfl, ⟨Nat.le_of_ble_eq_true rfl, Nat.le_of_ble_eq_true rfl⟩, mLa_reverse⟩ rfl rfl (Nat.le_of_ble_eq_true rfl) ⟨le_c (by omega), le_s (by omega)⟩ (fun v G1 h1 => ?_)
  obtain ⟨k9, val, S1, rfl, hP, hTa⟩ := h1
  obtain ⟨ad1, e1, hL1, g1, hg1, hv1⟩ := hLw.A hTa
  refine zv_istore (pc := 447) C dLa_law_447 (by decide) ?_
  refine zv_aload_n (pc := 449) C dLa_law_449 rfl ?_
  refine zv_aload_n (pc := 450) C dLa_law_450 rfl ?_
  refine zv_iload (pc := 451) C dLa_law_451 rfl ?_
  refine zv_iconst (pc := 453) (v := 1) C dLa_law_453 (by decide) ?_
  refine zv_iadd (pc := 454) C dLa_law_454 ?_
  refine zv_topi (nI_add i 1) ?_
  refine zv_sld (pc := 455) C hX dLa_law_455 (by omega) ?_
  refine zv_aload_n (pc := 456) C dLa_law_456 rfl ?_
  refine zv_iload (pc := 457) C dLa_law_457 rfl ?_
  refine zv_iconst (pc := 459) (v := 2) C dLa_law_459 (by decide) ?_
  refine zv_iadd (pc := 460) C dLa_law_460 ?_
  refine zv_topi (nI_add i 2) ?_
  refine zv_sld (pc := 461) C hX dLa_law_461 (by omega) ?_
  refine zv_callV (pc := 462) C dLa_law_462 (eMo_reverse hk _ hL1.2.1 hI.2.1 _ _) gLa_87 ⟨rfl, rfl, ⟨Nat.le_of_ble_eq_true rfl, Nat.le_of_ble_eq_true rfl⟩, mMo_reverse⟩ rfl rfl (Nat.le_of_ble_eq_true rfl) hL1.2.1.2.1 rfl rfl ⟨le_c (by omega), le_s (by omega)⟩ (fun _ _ h => h.elim) (fun v G2 h2 => ?_)
  obtain ⟨w9, M1, rfl, hPm, hMt⟩ := h2
  have hL2 := hL1.M hMt
  obtain ⟨a1, a2, hI2⟩ := st_re hI hP hPm
  have hg2 := (hMt.2 _ hL1.2.2.2.2.1).trans hg1
  refine zv_istore (pc := 465) C dLa_law_465 (by decide) ?_
  refine zv_aload_n (pc := 467) C dLa_law_467 rfl ?_
  refine zv_callV (pc := 468) C dLa_law_468 (cMo_thrown hk _ hL2.2.1 hI2.2.1) gLa_62 ⟨rfl, rfl, ⟨Nat.le_of_ble_eq_true rfl, Nat.le_of_ble_eq_true rfl⟩, mMo_thrown⟩ rfl rfl (Nat.le_of_ble_eq_true rfl) hL2.2.1.2.1 rfl rfl ⟨le_c (by omega), le_s (by omega)⟩ (fun _ _ h => h.elim) (fun v G3 h3 => ?_)
  obtain ⟨rfl, rfl⟩ := h3
  refine zv_iload (pc := 471) C dLa_law_471 rfl ?_
  refine zv_icmp_eq (pc := 473) (tgt := 478) C dLa_law_473 (by decide) (fun c473 => ?_) (fun c473 => absurd a1 c473)
  refine zv_iload (pc := 478) C dLa_law_478 rfl ?_
  refine zv_if_ne (pc := 480) (tgt := 495) C dLa_law_480 (by decide) (fun c480 => ?_) (fun c480 => ?_)
  · refine zv_goto (pc := 495) (tgt := 1097) C dLa_law_495 (by decide) ?_
    exact zv_pick [0, 1, 2, 3, 4] rfl (zv_widen (by omega) (by omega) (kk _ ⟨ad1, am, _, _, e1, rfl, hL2, hI2⟩))
  · refine zv_aload_n (pc := 483) C dLa_law_483 rfl ?_
    refine zv_iconst (pc := 484) (v := 0) C dLa_law_484 (by decide) ?_
    refine zv_lald (pc := 485) C dLa_law_485 hg2 vp_in0 ?_
    refine zv_iload (pc := 486) C dLa_law_486 rfl ?_
    refine zv_i2l (pc := 488) C dLa_law_488 ?_
    refine zv_lcmp (pc := 489) C dLa_law_489 ?_
    refine zv_if_eq (pc := 490) (tgt := 495) C dLa_law_490 (by decide) (fun c490 => ?_) (fun c490 => absurd ((lg_cmp_eq _ _).mpr ((hv1 c480).trans (a2 c480))) c490)
    refine zv_goto (pc := 495) (tgt := 1097) C dLa_law_495 (by decide) ?_
    exact zv_pick [0, 1, 2, 3, 4] rfl (zv_widen (by omega) (by omega) (kk _ ⟨ad1, am, _, _, e1, rfl, hL2, hI2⟩))
set_option maxHeartbeats 4000000 in
set_option maxRecDepth 100000 in
theorem w_6 {O : zO} {p : Program} {l : Launch} {e : Env} {s : State} {m : MethodId} {args : Array Value} {below : List Frame} {meth : Method} {c : Code} {Q : State → Prop} {G : zG} {kc ks : Nat} (hk : zK O l) {b L : Nat} {xs : Nat → Int32} (C : zC O p l s m meth c RLa bLa_law 8) (hX : zSc O b L xs) {ax ay ao i : Nat} (hi : i + 5 ≤ L) (hc : kc + 4 ≤ 601024) (hs : ks + 55 ≤ 7293034) (h : zLI O G ax ay ao) (kk : ∀ G', zLI O G' ax ay ao → zV O p l e room_1 s m args below meth c 8 Q 1097 [(0, .ref b), (1, .ref ax), (2, .ref ay), (3, .ref ao), (4, .int (nI i))] [] G' (kc + 4) (ks + 55)) : zV O p l e room_1 s m args below meth c 8 Q 498 [(0, .ref b), (1, .ref ax), (2, .ref ay), (3, .ref ao), (4, .int (nI i))] [] G kc ks := by
  obtain ⟨ad, am, S, M, rfl, rfl, hLw, hI⟩ := h
  obtain ⟨g0, hg0⟩ := hLw.2.2.1
  refine zv_aload_n (pc := 498) C dLa_law_498 rfl ?_
  refine zv_aload_n (pc := 499) C dLa_law_499 rfl ?_
  refine zv_iload (pc := 500) C dLa_law_500 rfl ?_
  refine zv_iconst (pc := 502) (v := 1) C dLa_law_502 (by decide) ?_
  refine zv_iadd (pc := 503) C dLa_law_503 ?_
  refine zv_topi (nI_add i 1) ?_
  refine zv_sld (pc := 504) C hX dLa_law_504 (by omega) ?_
  refine zv_callV (pc := 505) C dLa_law_505 (eDu_close hk _ hLw.1 hI.1 _) gLa_88 ⟨rfl, rfl, ⟨Nat.le_of_ble_eq_true rfl, Nat.le_of_ble_eq_true rfl⟩, mDu_close⟩ rfl rfl (Nat.le_of_ble_eq_true rfl) hLw.1.2.1 rfl rfl ⟨le_c (by omega), le_s (by omega)⟩ (fun _ _ h => h.elim) (fun v G1 h1 => ?_)
  obtain ⟨v9, S1, rfl, hP, hT⟩ := h1
  obtain ⟨ad1, e1, hL1⟩ := hLw.S hT
  refine zv_aload_n (pc := 508) C dLa_law_508 rfl ?_
  refine zv_aload_n (pc := 509) C dLa_law_509 rfl ?_
  refine zv_iload (pc := 510) C dLa_law_510 rfl ?_
  refine zv_iconst (pc := 512) (v := 1) C dLa_law_512 (by decide) ?_
  refine zv_iadd (pc := 513) C dLa_law_513 ?_
  refine zv_topi (nI_add i 1) ?_
  refine zv_sld (pc := 514) C hX dLa_law_514 (by omega) ?_
  refine zv_callV (pc := 515) C dLa_law_515 (eMo_close hk _ hL1.2.1 hI.2.1 _) gLa_92 ⟨rfl, rfl, ⟨Nat.le_of_ble_eq_true rfl, Nat.le_of_ble_eq_true rfl⟩, mMo_close⟩ rfl rfl (Nat.le_of_ble_eq_true rfl) hL1.2.1.2.1 rfl rfl ⟨le_c (by omega), le_s (by omega)⟩ (fun _ _ h => h.elim) (fun v G2 h2 => ?_)
  obtain ⟨w9, M1, rfl, hPm, hMt⟩ := h2
  have hL2 := hL1.M hMt
  obtain ⟨a1, hI2⟩ := st_cl hI hP hPm
  refine zv_icmp_eq (pc := 518) (tgt := 1097) C dLa_law_518 (by decide) (fun c518 => ?_) (fun c518 => absurd a1 c518)
  exact zv_pick [0, 1, 2, 3, 4] rfl (zv_widen (by omega) (by omega) (kk _ ⟨ad1, am, _, _, e1, rfl, hL2, hI2⟩))
set_option maxHeartbeats 4000000 in
set_option maxRecDepth 100000 in
theorem w_7 {O : zO} {p : Program} {l : Launch} {e : Env} {s : State} {m : MethodId} {args : Array Value} {below : List Frame} {meth : Method} {c : Code} {Q : State → Prop} {G : zG} {kc ks : Nat} (hk : zK O l) {b L : Nat} {xs : Nat → Int32} (C : zC O p l s m meth c RLa bLa_law 8) (hX : zSc O b L xs) {ax ay ao i : Nat} (hi : i + 5 ≤ L) (hc : kc + 4 ≤ 601024) (hs : ks + 55 ≤ 7293034) (h : zLI O G ax ay ao) (kk : ∀ G', zLI O G' ax ay ao → zV O p l e room_1 s m args below meth c 8 Q 1097 [(0, .ref b), (1, .ref ax), (2, .ref ay), (3, .ref ao), (4, .int (nI i))] [] G' (kc + 4) (ks + 55)) : zV O p l e room_1 s m args below meth c 8 Q 523 [(0, .ref b), (1, .ref ax), (2, .ref ay), (3, .ref ao), (4, .int (nI i))] [] G kc ks := by
  obtain ⟨ad, am, S, M, rfl, rfl, hLw, hI⟩ := h
  obtain ⟨g0, hg0⟩ := hLw.2.2.1
  refine zv_aload_n (pc := 523) C dLa_law_523 rfl ?_
  refine zv_aload_n (pc := 524) C dLa_law_524 rfl ?_
  refine zv_iload (pc := 525) C dLa_law_525 rfl ?_
  refine zv_iconst (pc := 527) (v := 1) C dLa_law_527 (by decide) ?_
  refine zv_iadd (pc := 528) C dLa_law_528 ?_
  refine zv_topi (nI_add i 1) ?_
  refine zv_sld (pc := 529) C hX dLa_law_529 (by omega) ?_
  refine zv_aload_n (pc := 530) C dLa_law_530 rfl ?_
  refine zv_iload (pc := 531) C dLa_law_531 rfl ?_
  refine zv_iconst (pc := 533) (v := 2) C dLa_law_533 (by decide) ?_
  refine zv_iadd (pc := 534) C dLa_law_534 ?_
  refine zv_topi (nI_add i 2) ?_
  refine zv_sld (pc := 535) C hX dLa_law_535 (by omega) ?_
  refine zv_aload_n (pc := 536) C dLa_law_536 rfl ?_
  refine zv_iload (pc := 537) C dLa_law_537 rfl ?_
  refine zv_iconst (pc := 539) (v := 3) C dLa_law_539 (by decide) ?_
  refine zv_iadd (pc := 540) C dLa_law_540 ?_
  refine zv_topi (nI_add i 3) ?_
  refine zv_sld (pc := 541) C hX dLa_law_541 (by omega) ?_
  refine zv_aload_n (pc := 542) C dLa_law_542 rfl ?_
  refine zv_callSW (pc := 543) C dLa_law_543 zNo_not (cLa_balance hk _ hLw.1 hI.1 hLw.2.2.2.2.2 hg0 _ _ _) gLa_93 ⟨rfl, rfl, ⟨Nat.le_of_ble_eq_true rfl, Nat.le_of_ble_eq_true rfl⟩, mLa_balance⟩ rfl rfl (Nat.le_of_ble_eq_true rfl) ⟨le_c (by omega), le_s (by omega)⟩ (fun v G1 h1 => ?_)
  obtain ⟨k9, val, S1, rfl, hP, hTa⟩ := h1
  obtain ⟨ad1, e1, hL1, g1, hg1, hv1⟩ := hLw.A hTa
  refine zv_istore (pc := 546) C dLa_law_546 (by decide) ?_
  refine zv_aload_n (pc := 548) C dLa_law_548 rfl ?_
  refine zv_aload_n (pc := 549) C dLa_law_549 rfl ?_
  refine zv_iload (pc := 550) C dLa_law_550 rfl ?_
  refine zv_iconst (pc := 552) (v := 1) C dLa_law_552 (by decide) ?_
  refine zv_iadd (pc := 553) C dLa_law_553 ?_
  refine zv_topi (nI_add i 1) ?_
  refine zv_sld (pc := 554) C hX dLa_law_554 (by omega) ?_
  refine zv_aload_n (pc := 555) C dLa_law_555 rfl ?_
  refine zv_iload (pc := 556) C dLa_law_556 rfl ?_
  refine zv_iconst (pc := 558) (v := 2) C dLa_law_558 (by decide) ?_
  refine zv_iadd (pc := 559) C dLa_law_559 ?_
  refine zv_topi (nI_add i 2) ?_
  refine zv_sld (pc := 560) C hX dLa_law_560 (by omega) ?_
  refine zv_aload_n (pc := 561) C dLa_law_561 rfl ?_
  refine zv_iload (pc := 562) C dLa_law_562 rfl ?_
  refine zv_iconst (pc := 564) (v := 3) C dLa_law_564 (by decide) ?_
  refine zv_iadd (pc := 565) C dLa_law_565 ?_
  refine zv_topi (nI_add i 3) ?_
  refine zv_sld (pc := 566) C hX dLa_law_566 (by omega) ?_
  refine zv_callV (pc := 567) C dLa_law_567 (eMo_balance hk _ hL1.2.1 hI.2.1 _ _ _) gLa_96 ⟨rfl, rfl, ⟨Nat.le_of_ble_eq_true rfl, Nat.le_of_ble_eq_true rfl⟩, mMo_balance⟩ rfl rfl (Nat.le_of_ble_eq_true rfl) hL1.2.1.2.1 rfl rfl ⟨le_c (by omega), le_s (by omega)⟩ (fun _ _ h => h.elim) (fun v G2 h2 => ?_)
  obtain ⟨w9, M1, rfl, hPm, hMt⟩ := h2
  have hL2 := hL1.M hMt
  obtain ⟨a1, a2, hI2⟩ := st_bl hI hP hPm
  have hg2 := (hMt.2 _ hL1.2.2.2.2.1).trans hg1
  refine zv_lstore (pc := 570) C dLa_law_570 (by decide) ?_
  refine zv_aload_n (pc := 572) C dLa_law_572 rfl ?_
  refine zv_callV (pc := 573) C dLa_law_573 (cMo_thrown hk _ hL2.2.1 hI2.2.1) gLa_62 ⟨rfl, rfl, ⟨Nat.le_of_ble_eq_true rfl, Nat.le_of_ble_eq_true rfl⟩, mMo_thrown⟩ rfl rfl (Nat.le_of_ble_eq_true rfl) hL2.2.1.2.1 rfl rfl ⟨le_c (by omega), le_s (by omega)⟩ (fun _ _ h => h.elim) (fun v G3 h3 => ?_)
  obtain ⟨rfl, rfl⟩ := h3
  refine zv_iload (pc := 576) C dLa_law_576 rfl ?_
  refine zv_icmp_eq (pc := 578) (tgt := 583) C dLa_law_578 (by decide) (fun c578 => ?_) (fun c578 => absurd a1 c578)
  refine zv_iload (pc := 583) C dLa_law_583 rfl ?_
  refine zv_if_ne (pc := 585) (tgt := 599) C dLa_law_585 (by decide) (fun c585 => ?_) (fun c585 => ?_)
  · refine zv_goto (pc := 599) (tgt := 1097) C dLa_law_599 (by decide) ?_
    exact zv_pick [0, 1, 2, 3, 4] rfl (zv_widen (by omega) (by omega) (kk _ ⟨ad1, am, _, _, e1, rfl, hL2, hI2⟩))
  · refine zv_aload_n (pc := 588) C dLa_law_588 rfl ?_
    refine zv_iconst (pc := 589) (v := 0) C dLa_law_589 (by decide) ?_
    refine zv_lald (pc := 590) C dLa_law_590 hg2 vp_in0 ?_
    refine zv_lload (pc := 591) C dLa_law_591 rfl ?_
    refine zv_lcmp (pc := 593) C dLa_law_593 ?_
    refine zv_if_eq (pc := 594) (tgt := 599) C dLa_law_594 (by decide) (fun c594 => ?_) (fun c594 => absurd ((lg_cmp_eq _ _).mpr ((hv1 c585).trans (a2 c585))) c594)
    refine zv_goto (pc := 599) (tgt := 1097) C dLa_law_599 (by decide) ?_
    exact zv_pick [0, 1, 2, 3, 4] rfl (zv_widen (by omega) (by omega) (kk _ ⟨ad1, am, _, _, e1, rfl, hL2, hI2⟩))
set_option maxHeartbeats 4000000 in
set_option maxRecDepth 100000 in
theorem w_8 {O : zO} {p : Program} {l : Launch} {e : Env} {s : State} {m : MethodId} {args : Array Value} {below : List Frame} {meth : Method} {c : Code} {Q : State → Prop} {G : zG} {kc ks : Nat} (hk : zK O l) {b L : Nat} {xs : Nat → Int32} (C : zC O p l s m meth c RLa bLa_law 8) (hX : zSc O b L xs) {ax ay ao i : Nat} (hi : i + 5 ≤ L) (hc : kc + 4 ≤ 601024) (hs : ks + 55 ≤ 7293034) (h : zLI O G ax ay ao) (kk : ∀ G', zLI O G' ax ay ao → zV O p l e room_1 s m args below meth c 8 Q 1097 [(0, .ref b), (1, .ref ax), (2, .ref ay), (3, .ref ao), (4, .int (nI i))] [] G' (kc + 4) (ks + 55)) : zV O p l e room_1 s m args below meth c 8 Q 602 [(0, .ref b), (1, .ref ax), (2, .ref ay), (3, .ref ao), (4, .int (nI i))] [] G kc ks := by
  obtain ⟨ad, am, S, M, rfl, rfl, hLw, hI⟩ := h
  obtain ⟨g0, hg0⟩ := hLw.2.2.1
  refine zv_aload_n (pc := 602) C dLa_law_602 rfl ?_
  refine zv_aload_n (pc := 603) C dLa_law_603 rfl ?_
  refine zv_iload (pc := 604) C dLa_law_604 rfl ?_
  refine zv_iconst (pc := 606) (v := 1) C dLa_law_606 (by decide) ?_
  refine zv_iadd (pc := 607) C dLa_law_607 ?_
  refine zv_topi (nI_add i 1) ?_
  refine zv_sld (pc := 608) C hX dLa_law_608 (by omega) ?_
  refine zv_aload_n (pc := 609) C dLa_law_609 rfl ?_
  refine zv_iload (pc := 610) C dLa_law_610 rfl ?_
  refine zv_iconst (pc := 612) (v := 2) C dLa_law_612 (by decide) ?_
  refine zv_iadd (pc := 613) C dLa_law_613 ?_
  refine zv_topi (nI_add i 2) ?_
  refine zv_sld (pc := 614) C hX dLa_law_614 (by omega) ?_
  refine zv_aload_n (pc := 615) C dLa_law_615 rfl ?_
  refine zv_iload (pc := 616) C dLa_law_616 rfl ?_
  refine zv_iconst (pc := 618) (v := 3) C dLa_law_618 (by decide) ?_
  refine zv_iadd (pc := 619) C dLa_law_619 ?_
  refine zv_topi (nI_add i 3) ?_
  refine zv_sld (pc := 620) C hX dLa_law_620 (by omega) ?_
  refine zv_aload_n (pc := 621) C dLa_law_621 rfl ?_
  refine zv_callSW (pc := 622) C dLa_law_622 zNo_not (cLa_statement hk _ hLw.1 hI.1 hLw.2.2.2.2.2 hg0 _ _ _) gLa_97 ⟨rfl, rfl, ⟨Nat.le_of_ble_eq_true rfl, Nat.le_of_ble_eq_true rfl⟩, mLa_statement⟩ rfl rfl (Nat.le_of_ble_eq_true rfl) ⟨le_c (by omega), le_s (by omega)⟩ (fun v G1 h1 => ?_)
  obtain ⟨k9, val, S1, rfl, hP, hTa⟩ := h1
  obtain ⟨ad1, e1, hL1, g1, hg1, hv1⟩ := hLw.A hTa
  refine zv_istore (pc := 625) C dLa_law_625 (by decide) ?_
  refine zv_aload_n (pc := 627) C dLa_law_627 rfl ?_
  refine zv_aload_n (pc := 628) C dLa_law_628 rfl ?_
  refine zv_iload (pc := 629) C dLa_law_629 rfl ?_
  refine zv_iconst (pc := 631) (v := 1) C dLa_law_631 (by decide) ?_
  refine zv_iadd (pc := 632) C dLa_law_632 ?_
  refine zv_topi (nI_add i 1) ?_
  refine zv_sld (pc := 633) C hX dLa_law_633 (by omega) ?_
  refine zv_aload_n (pc := 634) C dLa_law_634 rfl ?_
  refine zv_iload (pc := 635) C dLa_law_635 rfl ?_
  refine zv_iconst (pc := 637) (v := 2) C dLa_law_637 (by decide) ?_
  refine zv_iadd (pc := 638) C dLa_law_638 ?_
  refine zv_topi (nI_add i 2) ?_
  refine zv_sld (pc := 639) C hX dLa_law_639 (by omega) ?_
  refine zv_aload_n (pc := 640) C dLa_law_640 rfl ?_
  refine zv_iload (pc := 641) C dLa_law_641 rfl ?_
  refine zv_iconst (pc := 643) (v := 3) C dLa_law_643 (by decide) ?_
  refine zv_iadd (pc := 644) C dLa_law_644 ?_
  refine zv_topi (nI_add i 3) ?_
  refine zv_sld (pc := 645) C hX dLa_law_645 (by omega) ?_
  refine zv_callV (pc := 646) C dLa_law_646 (eMo_statement hk _ hL1.2.1 hI.2.1 _ _ _) gLa_99 ⟨rfl, rfl, ⟨Nat.le_of_ble_eq_true rfl, Nat.le_of_ble_eq_true rfl⟩, mMo_statement⟩ rfl rfl (Nat.le_of_ble_eq_true rfl) hL1.2.1.2.1 rfl rfl ⟨le_c (by omega), le_s (by omega)⟩ (fun _ _ h => h.elim) (fun v G2 h2 => ?_)
  obtain ⟨w9, M1, rfl, hPm, hMt⟩ := h2
  have hL2 := hL1.M hMt
  obtain ⟨a1, a2, hI2⟩ := st_st hI hP hPm
  have hg2 := (hMt.2 _ hL1.2.2.2.2.1).trans hg1
  refine zv_lstore (pc := 649) C dLa_law_649 (by decide) ?_
  refine zv_aload_n (pc := 651) C dLa_law_651 rfl ?_
  refine zv_callV (pc := 652) C dLa_law_652 (cMo_thrown hk _ hL2.2.1 hI2.2.1) gLa_62 ⟨rfl, rfl, ⟨Nat.le_of_ble_eq_true rfl, Nat.le_of_ble_eq_true rfl⟩, mMo_thrown⟩ rfl rfl (Nat.le_of_ble_eq_true rfl) hL2.2.1.2.1 rfl rfl ⟨le_c (by omega), le_s (by omega)⟩ (fun _ _ h => h.elim) (fun v G3 h3 => ?_)
  obtain ⟨rfl, rfl⟩ := h3
  refine zv_iload (pc := 655) C dLa_law_655 rfl ?_
  refine zv_icmp_eq (pc := 657) (tgt := 662) C dLa_law_657 (by decide) (fun c657 => ?_) (fun c657 => absurd a1 c657)
  refine zv_iload (pc := 662) C dLa_law_662 rfl ?_
  refine zv_if_ne (pc := 664) (tgt := 678) C dLa_law_664 (by decide) (fun c664 => ?_) (fun c664 => ?_)
  · refine zv_goto (pc := 678) (tgt := 1097) C dLa_law_678 (by decide) ?_
    exact zv_pick [0, 1, 2, 3, 4] rfl (zv_widen (by omega) (by omega) (kk _ ⟨ad1, am, _, _, e1, rfl, hL2, hI2⟩))
  · refine zv_aload_n (pc := 667) C dLa_law_667 rfl ?_
    refine zv_iconst (pc := 668) (v := 0) C dLa_law_668 (by decide) ?_
    refine zv_lald (pc := 669) C dLa_law_669 hg2 vp_in0 ?_
    refine zv_lload (pc := 670) C dLa_law_670 rfl ?_
    refine zv_lcmp (pc := 672) C dLa_law_672 ?_
    refine zv_if_eq (pc := 673) (tgt := 678) C dLa_law_673 (by decide) (fun c673 => ?_) (fun c673 => absurd ((lg_cmp_eq _ _).mpr ((hv1 c664).trans (a2 c664))) c673)
    refine zv_goto (pc := 678) (tgt := 1097) C dLa_law_678 (by decide) ?_
    exact zv_pick [0, 1, 2, 3, 4] rfl (zv_widen (by omega) (by omega) (kk _ ⟨ad1, am, _, _, e1, rfl, hL2, hI2⟩))
set_option maxHeartbeats 4000000 in
set_option maxRecDepth 100000 in
theorem w_9 {O : zO} {p : Program} {l : Launch} {e : Env} {s : State} {m : MethodId} {args : Array Value} {below : List Frame} {meth : Method} {c : Code} {Q : State → Prop} {G : zG} {kc ks : Nat} (hk : zK O l) {b L : Nat} {xs : Nat → Int32} (C : zC O p l s m meth c RLa bLa_law 8) (hX : zSc O b L xs) {ax ay ao i : Nat} (hi : i + 5 ≤ L) (hc : kc + 4 ≤ 601024) (hs : ks + 55 ≤ 7293034) (h : zLI O G ax ay ao) (kk : ∀ G', zLI O G' ax ay ao → zV O p l e room_1 s m args below meth c 8 Q 1097 [(0, .ref b), (1, .ref ax), (2, .ref ay), (3, .ref ao), (4, .int (nI i))] [] G' (kc + 4) (ks + 55)) : zV O p l e room_1 s m args below meth c 8 Q 681 [(0, .ref b), (1, .ref ax), (2, .ref ay), (3, .ref ao), (4, .int (nI i))] [] G kc ks := by
  obtain ⟨ad, am, S, M, rfl, rfl, hLw, hI⟩ := h
  obtain ⟨g0, hg0⟩ := hLw.2.2.1
  refine zv_aload_n (pc := 681) C dLa_law_681 rfl ?_
  refine zv_aload_n (pc := 682) C dLa_law_682 rfl ?_
  refine zv_iload (pc := 683) C dLa_law_683 rfl ?_
  refine zv_iconst (pc := 685) (v := 1) C dLa_law_685 (by decide) ?_
  refine zv_iadd (pc := 686) C dLa_law_686 ?_
  refine zv_topi (nI_add i 1) ?_
  refine zv_sld (pc := 687) C hX dLa_law_687 (by omega) ?_
  refine zv_aload_n (pc := 688) C dLa_law_688 rfl ?_
  refine zv_iload (pc := 689) C dLa_law_689 rfl ?_
  refine zv_iconst (pc := 691) (v := 2) C dLa_law_691 (by decide) ?_
  refine zv_iadd (pc := 692) C dLa_law_692 ?_
  refine zv_topi (nI_add i 2) ?_
  refine zv_sld (pc := 693) C hX dLa_law_693 (by omega) ?_
  refine zv_aload_n (pc := 694) C dLa_law_694 rfl ?_
  refine zv_iload (pc := 695) C dLa_law_695 rfl ?_
  refine zv_iconst (pc := 697) (v := 3) C dLa_law_697 (by decide) ?_
  refine zv_iadd (pc := 698) C dLa_law_698 ?_
  refine zv_topi (nI_add i 3) ?_
  refine zv_sld (pc := 699) C hX dLa_law_699 (by omega) ?_
  refine zv_callV (pc := 700) C dLa_law_700 (eDu_part hk _ hLw.1 hI.1 _ _ _) gLa_100 ⟨rfl, rfl, ⟨Nat.le_of_ble_eq_true rfl, Nat.le_of_ble_eq_true rfl⟩, mDu_part⟩ rfl rfl (Nat.le_of_ble_eq_true rfl) hLw.1.2.1 rfl rfl ⟨le_c (by omega), le_s (by omega)⟩ (fun _ _ h => h.elim) (fun v G1 h1 => ?_)
  obtain ⟨v9, S1, rfl, hP, hT⟩ := h1
  obtain ⟨ad1, e1, hL1⟩ := hLw.S hT
  refine zv_aload_n (pc := 703) C dLa_law_703 rfl ?_
  refine zv_aload_n (pc := 704) C dLa_law_704 rfl ?_
  refine zv_iload (pc := 705) C dLa_law_705 rfl ?_
  refine zv_iconst (pc := 707) (v := 1) C dLa_law_707 (by decide) ?_
  refine zv_iadd (pc := 708) C dLa_law_708 ?_
  refine zv_topi (nI_add i 1) ?_
  refine zv_sld (pc := 709) C hX dLa_law_709 (by omega) ?_
  refine zv_aload_n (pc := 710) C dLa_law_710 rfl ?_
  refine zv_iload (pc := 711) C dLa_law_711 rfl ?_
  refine zv_iconst (pc := 713) (v := 2) C dLa_law_713 (by decide) ?_
  refine zv_iadd (pc := 714) C dLa_law_714 ?_
  refine zv_topi (nI_add i 2) ?_
  refine zv_sld (pc := 715) C hX dLa_law_715 (by omega) ?_
  refine zv_aload_n (pc := 716) C dLa_law_716 rfl ?_
  refine zv_iload (pc := 717) C dLa_law_717 rfl ?_
  refine zv_iconst (pc := 719) (v := 3) C dLa_law_719 (by decide) ?_
  refine zv_iadd (pc := 720) C dLa_law_720 ?_
  refine zv_topi (nI_add i 3) ?_
  refine zv_sld (pc := 721) C hX dLa_law_721 (by omega) ?_
  refine zv_callV (pc := 722) C dLa_law_722 (eMo_part hk _ hL1.2.1 hI.2.1 _ _ _) gLa_104 ⟨rfl, rfl, ⟨Nat.le_of_ble_eq_true rfl, Nat.le_of_ble_eq_true rfl⟩, mMo_part⟩ rfl rfl (Nat.le_of_ble_eq_true rfl) hL1.2.1.2.1 rfl rfl ⟨le_c (by omega), le_s (by omega)⟩ (fun _ _ h => h.elim) (fun v G2 h2 => ?_)
  obtain ⟨w9, M1, rfl, hPm, hMt⟩ := h2
  have hL2 := hL1.M hMt
  obtain ⟨a1, hI2⟩ := st_pt hI hP hPm
  refine zv_icmp_eq (pc := 725) (tgt := 1097) C dLa_law_725 (by decide) (fun c725 => ?_) (fun c725 => absurd a1 c725)
  exact zv_pick [0, 1, 2, 3, 4] rfl (zv_widen (by omega) (by omega) (kk _ ⟨ad1, am, _, _, e1, rfl, hL2, hI2⟩))
set_option maxHeartbeats 4000000 in
set_option maxRecDepth 100000 in
theorem w_10 {O : zO} {p : Program} {l : Launch} {e : Env} {s : State} {m : MethodId} {args : Array Value} {below : List Frame} {meth : Method} {c : Code} {Q : State → Prop} {G : zG} {kc ks : Nat} (hk : zK O l) {b L : Nat} {xs : Nat → Int32} (C : zC O p l s m meth c RLa bLa_law 8) (hX : zSc O b L xs) {ax ay ao i : Nat} (hi : i + 5 ≤ L) (hc : kc + 4 ≤ 601024) (hs : ks + 55 ≤ 7293034) (h : zLI O G ax ay ao) (kk : ∀ G', zLI O G' ax ay ao → zV O p l e room_1 s m args below meth c 8 Q 1097 [(0, .ref b), (1, .ref ax), (2, .ref ay), (3, .ref ao), (4, .int (nI i))] [] G' (kc + 4) (ks + 55)) : zV O p l e room_1 s m args below meth c 8 Q 730 [(0, .ref b), (1, .ref ax), (2, .ref ay), (3, .ref ao), (4, .int (nI i))] [] G kc ks := by
  obtain ⟨ad, am, S, M, rfl, rfl, hLw, hI⟩ := h
  obtain ⟨g0, hg0⟩ := hLw.2.2.1
  refine zv_aload_n (pc := 730) C dLa_law_730 rfl ?_
  refine zv_aload_n (pc := 731) C dLa_law_731 rfl ?_
  refine zv_iload (pc := 732) C dLa_law_732 rfl ?_
  refine zv_iconst (pc := 734) (v := 1) C dLa_law_734 (by decide) ?_
  refine zv_iadd (pc := 735) C dLa_law_735 ?_
  refine zv_topi (nI_add i 1) ?_
  refine zv_sld (pc := 736) C hX dLa_law_736 (by omega) ?_
  refine zv_aload_n (pc := 737) C dLa_law_737 rfl ?_
  refine zv_iload (pc := 738) C dLa_law_738 rfl ?_
  refine zv_iconst (pc := 740) (v := 2) C dLa_law_740 (by decide) ?_
  refine zv_iadd (pc := 741) C dLa_law_741 ?_
  refine zv_topi (nI_add i 2) ?_
  refine zv_sld (pc := 742) C hX dLa_law_742 (by omega) ?_
  refine zv_callV (pc := 743) C dLa_law_743 (eDu_cost hk _ hLw.1 hI.1 _ _) gLa_105 ⟨rfl, rfl, ⟨Nat.le_of_ble_eq_true rfl, Nat.le_of_ble_eq_true rfl⟩, mDu_cost⟩ rfl rfl (Nat.le_of_ble_eq_true rfl) hLw.1.2.1 rfl rfl ⟨le_c (by omega), le_s (by omega)⟩ (fun _ _ h => h.elim) (fun v G1 h1 => ?_)
  obtain ⟨v9, S1, rfl, hP, hT⟩ := h1
  obtain ⟨ad1, e1, hL1⟩ := hLw.S hT
  refine zv_aload_n (pc := 746) C dLa_law_746 rfl ?_
  refine zv_aload_n (pc := 747) C dLa_law_747 rfl ?_
  refine zv_iload (pc := 748) C dLa_law_748 rfl ?_
  refine zv_iconst (pc := 750) (v := 1) C dLa_law_750 (by decide) ?_
  refine zv_iadd (pc := 751) C dLa_law_751 ?_
  refine zv_topi (nI_add i 1) ?_
  refine zv_sld (pc := 752) C hX dLa_law_752 (by omega) ?_
  refine zv_aload_n (pc := 753) C dLa_law_753 rfl ?_
  refine zv_iload (pc := 754) C dLa_law_754 rfl ?_
  refine zv_iconst (pc := 756) (v := 2) C dLa_law_756 (by decide) ?_
  refine zv_iadd (pc := 757) C dLa_law_757 ?_
  refine zv_topi (nI_add i 2) ?_
  refine zv_sld (pc := 758) C hX dLa_law_758 (by omega) ?_
  refine zv_callV (pc := 759) C dLa_law_759 (eMo_cost hk _ hL1.2.1 hI.2.1 _ _) gLa_109 ⟨rfl, rfl, ⟨Nat.le_of_ble_eq_true rfl, Nat.le_of_ble_eq_true rfl⟩, mMo_cost⟩ rfl rfl (Nat.le_of_ble_eq_true rfl) hL1.2.1.2.1 rfl rfl ⟨le_c (by omega), le_s (by omega)⟩ (fun _ _ h => h.elim) (fun v G2 h2 => ?_)
  obtain ⟨w9, M1, rfl, hPm, hMt⟩ := h2
  have hL2 := hL1.M hMt
  obtain ⟨a1, hI2⟩ := st_cs hI hP hPm
  refine zv_icmp_eq (pc := 762) (tgt := 1097) C dLa_law_762 (by decide) (fun c762 => ?_) (fun c762 => absurd a1 c762)
  exact zv_pick [0, 1, 2, 3, 4] rfl (zv_widen (by omega) (by omega) (kk _ ⟨ad1, am, _, _, e1, rfl, hL2, hI2⟩))
set_option maxHeartbeats 4000000 in
set_option maxRecDepth 100000 in
theorem w_11 {O : zO} {p : Program} {l : Launch} {e : Env} {s : State} {m : MethodId} {args : Array Value} {below : List Frame} {meth : Method} {c : Code} {Q : State → Prop} {G : zG} {kc ks : Nat} (hk : zK O l) {b L : Nat} {xs : Nat → Int32} (C : zC O p l s m meth c RLa bLa_law 8) (hX : zSc O b L xs) {ax ay ao i : Nat} (hi : i + 5 ≤ L) (hc : kc + 4 ≤ 601024) (hs : ks + 55 ≤ 7293034) (h : zLI O G ax ay ao) (kk : ∀ G', zLI O G' ax ay ao → zV O p l e room_1 s m args below meth c 8 Q 1097 [(0, .ref b), (1, .ref ax), (2, .ref ay), (3, .ref ao), (4, .int (nI i))] [] G' (kc + 4) (ks + 55)) : zV O p l e room_1 s m args below meth c 8 Q 767 [(0, .ref b), (1, .ref ax), (2, .ref ay), (3, .ref ao), (4, .int (nI i))] [] G kc ks := by
  obtain ⟨ad, am, S, M, rfl, rfl, hLw, hI⟩ := h
  obtain ⟨g0, hg0⟩ := hLw.2.2.1
  refine zv_aload_n (pc := 767) C dLa_law_767 rfl ?_
  refine zv_aload_n (pc := 768) C dLa_law_768 rfl ?_
  refine zv_iload (pc := 769) C dLa_law_769 rfl ?_
  refine zv_iconst (pc := 771) (v := 1) C dLa_law_771 (by decide) ?_
  refine zv_iadd (pc := 772) C dLa_law_772 ?_
  refine zv_topi (nI_add i 1) ?_
  refine zv_sld (pc := 773) C hX dLa_law_773 (by omega) ?_
  refine zv_aload_n (pc := 774) C dLa_law_774 rfl ?_
  refine zv_iload (pc := 775) C dLa_law_775 rfl ?_
  refine zv_iconst (pc := 777) (v := 2) C dLa_law_777 (by decide) ?_
  refine zv_iadd (pc := 778) C dLa_law_778 ?_
  refine zv_topi (nI_add i 2) ?_
  refine zv_sld (pc := 779) C hX dLa_law_779 (by omega) ?_
  refine zv_aload_n (pc := 780) C dLa_law_780 rfl ?_
  refine zv_iload (pc := 781) C dLa_law_781 rfl ?_
  refine zv_iconst (pc := 783) (v := 3) C dLa_law_783 (by decide) ?_
  refine zv_iadd (pc := 784) C dLa_law_784 ?_
  refine zv_topi (nI_add i 3) ?_
  refine zv_sld (pc := 785) C hX dLa_law_785 (by omega) ?_
  refine zv_aload_n (pc := 786) C dLa_law_786 rfl ?_
  refine zv_callSW (pc := 787) C dLa_law_787 zNo_not (cLa_passed hk _ hLw.1 hI.1 hLw.2.2.2.2.2 hg0 _ _ _) gLa_110 ⟨rfl, rfl, ⟨Nat.le_of_ble_eq_true rfl, Nat.le_of_ble_eq_true rfl⟩, mLa_passed⟩ rfl rfl (Nat.le_of_ble_eq_true rfl) ⟨le_c (by omega), le_s (by omega)⟩ (fun v G1 h1 => ?_)
  obtain ⟨k9, val, S1, rfl, hP, hTa⟩ := h1
  obtain ⟨ad1, e1, hL1, g1, hg1, hv1⟩ := hLw.A hTa
  refine zv_istore (pc := 790) C dLa_law_790 (by decide) ?_
  refine zv_aload_n (pc := 792) C dLa_law_792 rfl ?_
  refine zv_aload_n (pc := 793) C dLa_law_793 rfl ?_
  refine zv_iload (pc := 794) C dLa_law_794 rfl ?_
  refine zv_iconst (pc := 796) (v := 1) C dLa_law_796 (by decide) ?_
  refine zv_iadd (pc := 797) C dLa_law_797 ?_
  refine zv_topi (nI_add i 1) ?_
  refine zv_sld (pc := 798) C hX dLa_law_798 (by omega) ?_
  refine zv_aload_n (pc := 799) C dLa_law_799 rfl ?_
  refine zv_iload (pc := 800) C dLa_law_800 rfl ?_
  refine zv_iconst (pc := 802) (v := 2) C dLa_law_802 (by decide) ?_
  refine zv_iadd (pc := 803) C dLa_law_803 ?_
  refine zv_topi (nI_add i 2) ?_
  refine zv_sld (pc := 804) C hX dLa_law_804 (by omega) ?_
  refine zv_aload_n (pc := 805) C dLa_law_805 rfl ?_
  refine zv_iload (pc := 806) C dLa_law_806 rfl ?_
  refine zv_iconst (pc := 808) (v := 3) C dLa_law_808 (by decide) ?_
  refine zv_iadd (pc := 809) C dLa_law_809 ?_
  refine zv_topi (nI_add i 3) ?_
  refine zv_sld (pc := 810) C hX dLa_law_810 (by omega) ?_
  refine zv_callV (pc := 811) C dLa_law_811 (eMo_passed hk _ hL1.2.1 hI.2.1 _ _ _) gLa_112 ⟨rfl, rfl, ⟨Nat.le_of_ble_eq_true rfl, Nat.le_of_ble_eq_true rfl⟩, mMo_passed⟩ rfl rfl (Nat.le_of_ble_eq_true rfl) hL1.2.1.2.1 rfl rfl ⟨le_c (by omega), le_s (by omega)⟩ (fun _ _ h => h.elim) (fun v G2 h2 => ?_)
  obtain ⟨w9, M1, rfl, hPm, hMt⟩ := h2
  have hL2 := hL1.M hMt
  obtain ⟨a1, a2, hI2⟩ := st_pa hI hP hPm
  have hg2 := (hMt.2 _ hL1.2.2.2.2.1).trans hg1
  refine zv_lstore (pc := 814) C dLa_law_814 (by decide) ?_
  refine zv_aload_n (pc := 816) C dLa_law_816 rfl ?_
  refine zv_callV (pc := 817) C dLa_law_817 (cMo_thrown hk _ hL2.2.1 hI2.2.1) gLa_62 ⟨rfl, rfl, ⟨Nat.le_of_ble_eq_true rfl, Nat.le_of_ble_eq_true rfl⟩, mMo_thrown⟩ rfl rfl (Nat.le_of_ble_eq_true rfl) hL2.2.1.2.1 rfl rfl ⟨le_c (by omega), le_s (by omega)⟩ (fun _ _ h => h.elim) (fun v G3 h3 => ?_)
  obtain ⟨rfl, rfl⟩ := h3
  refine zv_iload (pc := 820) C dLa_law_820 rfl ?_
  refine zv_icmp_eq (pc := 822) (tgt := 827) C dLa_law_822 (by decide) (fun c822 => ?_) (fun c822 => absurd a1 c822)
  refine zv_iload (pc := 827) C dLa_law_827 rfl ?_
  refine zv_if_ne (pc := 829) (tgt := 843) C dLa_law_829 (by decide) (fun c829 => ?_) (fun c829 => ?_)
  · refine zv_goto (pc := 843) (tgt := 1097) C dLa_law_843 (by decide) ?_
    exact zv_pick [0, 1, 2, 3, 4] rfl (zv_widen (by omega) (by omega) (kk _ ⟨ad1, am, _, _, e1, rfl, hL2, hI2⟩))
  · refine zv_aload_n (pc := 832) C dLa_law_832 rfl ?_
    refine zv_iconst (pc := 833) (v := 0) C dLa_law_833 (by decide) ?_
    refine zv_lald (pc := 834) C dLa_law_834 hg2 vp_in0 ?_
    refine zv_lload (pc := 835) C dLa_law_835 rfl ?_
    refine zv_lcmp (pc := 837) C dLa_law_837 ?_
    refine zv_if_eq (pc := 838) (tgt := 843) C dLa_law_838 (by decide) (fun c838 => ?_) (fun c838 => absurd ((lg_cmp_eq _ _).mpr ((hv1 c829).trans (a2 c829))) c838)
    refine zv_goto (pc := 843) (tgt := 1097) C dLa_law_843 (by decide) ?_
    exact zv_pick [0, 1, 2, 3, 4] rfl (zv_widen (by omega) (by omega) (kk _ ⟨ad1, am, _, _, e1, rfl, hL2, hI2⟩))
set_option maxHeartbeats 4000000 in
set_option maxRecDepth 100000 in
theorem w_12 {O : zO} {p : Program} {l : Launch} {e : Env} {s : State} {m : MethodId} {args : Array Value} {below : List Frame} {meth : Method} {c : Code} {Q : State → Prop} {G : zG} {kc ks : Nat} (hk : zK O l) {b L : Nat} {xs : Nat → Int32} (C : zC O p l s m meth c RLa bLa_law 8) (hX : zSc O b L xs) {ax ay ao i : Nat} (hi : i + 5 ≤ L) (hc : kc + 4 ≤ 601024) (hs : ks + 55 ≤ 7293034) (h : zLI O G ax ay ao) (kk : ∀ G', zLI O G' ax ay ao → zV O p l e room_1 s m args below meth c 8 Q 1097 [(0, .ref b), (1, .ref ax), (2, .ref ay), (3, .ref ao), (4, .int (nI i))] [] G' (kc + 4) (ks + 55)) : zV O p l e room_1 s m args below meth c 8 Q 846 [(0, .ref b), (1, .ref ax), (2, .ref ay), (3, .ref ao), (4, .int (nI i))] [] G kc ks := by
  obtain ⟨ad, am, S, M, rfl, rfl, hLw, hI⟩ := h
  obtain ⟨g0, hg0⟩ := hLw.2.2.1
  refine zv_aload_n (pc := 846) C dLa_law_846 rfl ?_
  refine zv_aload_n (pc := 847) C dLa_law_847 rfl ?_
  refine zv_iload (pc := 848) C dLa_law_848 rfl ?_
  refine zv_iconst (pc := 850) (v := 1) C dLa_law_850 (by decide) ?_
  refine zv_iadd (pc := 851) C dLa_law_851 ?_
  refine zv_topi (nI_add i 1) ?_
  refine zv_sld (pc := 852) C hX dLa_law_852 (by omega) ?_
  refine zv_aload_n (pc := 853) C dLa_law_853 rfl ?_
  refine zv_iload (pc := 854) C dLa_law_854 rfl ?_
  refine zv_iconst (pc := 856) (v := 2) C dLa_law_856 (by decide) ?_
  refine zv_iadd (pc := 857) C dLa_law_857 ?_
  refine zv_topi (nI_add i 2) ?_
  refine zv_sld (pc := 858) C hX dLa_law_858 (by omega) ?_
  refine zv_aload_n (pc := 859) C dLa_law_859 rfl ?_
  refine zv_iload (pc := 860) C dLa_law_860 rfl ?_
  refine zv_iconst (pc := 862) (v := 3) C dLa_law_862 (by decide) ?_
  refine zv_iadd (pc := 863) C dLa_law_863 ?_
  refine zv_topi (nI_add i 3) ?_
  refine zv_sld (pc := 864) C hX dLa_law_864 (by omega) ?_
  refine zv_aload_n (pc := 865) C dLa_law_865 rfl ?_
  refine zv_iload (pc := 866) C dLa_law_866 rfl ?_
  refine zv_iconst (pc := 868) (v := 4) C dLa_law_868 (by decide) ?_
  refine zv_iadd (pc := 869) C dLa_law_869 ?_
  refine zv_topi (nI_add i 4) ?_
  refine zv_sld (pc := 870) C hX dLa_law_870 (by omega) ?_
  refine zv_aload_n (pc := 871) C dLa_law_871 rfl ?_
  refine zv_callSW (pc := 872) C dLa_law_872 zNo_not (cLa_reconcile hk _ hLw.1 hI.1 hLw.2.2.2.2.2 hg0 _ _ _ _) gLa_113 ⟨rfl, rfl, ⟨Nat.le_of_ble_eq_true rfl, Nat.le_of_ble_eq_true rfl⟩, mLa_reconcile⟩ rfl rfl (Nat.le_of_ble_eq_true rfl) ⟨le_c (by omega), le_s (by omega)⟩ (fun v G1 h1 => ?_)
  obtain ⟨k9, val, S1, rfl, hP, hTa⟩ := h1
  obtain ⟨ad1, e1, hL1, g1, hg1, hv1⟩ := hLw.A hTa
  refine zv_istore (pc := 875) C dLa_law_875 (by decide) ?_
  refine zv_aload_n (pc := 877) C dLa_law_877 rfl ?_
  refine zv_aload_n (pc := 878) C dLa_law_878 rfl ?_
  refine zv_iload (pc := 879) C dLa_law_879 rfl ?_
  refine zv_iconst (pc := 881) (v := 1) C dLa_law_881 (by decide) ?_
  refine zv_iadd (pc := 882) C dLa_law_882 ?_
  refine zv_topi (nI_add i 1) ?_
  refine zv_sld (pc := 883) C hX dLa_law_883 (by omega) ?_
  refine zv_aload_n (pc := 884) C dLa_law_884 rfl ?_
  refine zv_iload (pc := 885) C dLa_law_885 rfl ?_
  refine zv_iconst (pc := 887) (v := 2) C dLa_law_887 (by decide) ?_
  refine zv_iadd (pc := 888) C dLa_law_888 ?_
  refine zv_topi (nI_add i 2) ?_
  refine zv_sld (pc := 889) C hX dLa_law_889 (by omega) ?_
  refine zv_aload_n (pc := 890) C dLa_law_890 rfl ?_
  refine zv_iload (pc := 891) C dLa_law_891 rfl ?_
  refine zv_iconst (pc := 893) (v := 3) C dLa_law_893 (by decide) ?_
  refine zv_iadd (pc := 894) C dLa_law_894 ?_
  refine zv_topi (nI_add i 3) ?_
  refine zv_sld (pc := 895) C hX dLa_law_895 (by omega) ?_
  refine zv_aload_n (pc := 896) C dLa_law_896 rfl ?_
  refine zv_iload (pc := 897) C dLa_law_897 rfl ?_
  refine zv_iconst (pc := 899) (v := 4) C dLa_law_899 (by decide) ?_
  refine zv_iadd (pc := 900) C dLa_law_900 ?_
  refine zv_topi (nI_add i 4) ?_
  refine zv_sld (pc := 901) C hX dLa_law_901 (by omega) ?_
  refine zv_callV (pc := 902) C dLa_law_902 (eMo_reconcile hk _ hL1.2.1 hI.2.1 _ _ _ _) gLa_116 ⟨rfl, rfl, ⟨Nat.le_of_ble_eq_true rfl, Nat.le_of_ble_eq_true rfl⟩, mMo_reconcile⟩ rfl rfl (Nat.le_of_ble_eq_true rfl) hL1.2.1.2.1 rfl rfl ⟨le_c (by omega), le_s (by omega)⟩ (fun _ _ h => h.elim) (fun v G2 h2 => ?_)
  obtain ⟨w9, M1, rfl, hPm, hMt⟩ := h2
  have hL2 := hL1.M hMt
  obtain ⟨a1, a2, hI2⟩ := st_rc hI hP hPm
  have hg2 := (hMt.2 _ hL1.2.2.2.2.1).trans hg1
  refine zv_lstore (pc := 905) C dLa_law_905 (by decide) ?_
  refine zv_aload_n (pc := 907) C dLa_law_907 rfl ?_
  refine zv_callV (pc := 908) C dLa_law_908 (cMo_thrown hk _ hL2.2.1 hI2.2.1) gLa_62 ⟨rfl, rfl, ⟨Nat.le_of_ble_eq_true rfl, Nat.le_of_ble_eq_true rfl⟩, mMo_thrown⟩ rfl rfl (Nat.le_of_ble_eq_true rfl) hL2.2.1.2.1 rfl rfl ⟨le_c (by omega), le_s (by omega)⟩ (fun _ _ h => h.elim) (fun v G3 h3 => ?_)
  obtain ⟨rfl, rfl⟩ := h3
  refine zv_iload (pc := 911) C dLa_law_911 rfl ?_
  refine zv_icmp_eq (pc := 913) (tgt := 918) C dLa_law_913 (by decide) (fun c913 => ?_) (fun c913 => absurd a1 c913)
  refine zv_iload (pc := 918) C dLa_law_918 rfl ?_
  refine zv_if_ne (pc := 920) (tgt := 934) C dLa_law_920 (by decide) (fun c920 => ?_) (fun c920 => ?_)
  · refine zv_goto (pc := 934) (tgt := 1097) C dLa_law_934 (by decide) ?_
    exact zv_pick [0, 1, 2, 3, 4] rfl (zv_widen (by omega) (by omega) (kk _ ⟨ad1, am, _, _, e1, rfl, hL2, hI2⟩))
  · refine zv_aload_n (pc := 923) C dLa_law_923 rfl ?_
    refine zv_iconst (pc := 924) (v := 0) C dLa_law_924 (by decide) ?_
    refine zv_lald (pc := 925) C dLa_law_925 hg2 vp_in0 ?_
    refine zv_lload (pc := 926) C dLa_law_926 rfl ?_
    refine zv_lcmp (pc := 928) C dLa_law_928 ?_
    refine zv_if_eq (pc := 929) (tgt := 934) C dLa_law_929 (by decide) (fun c929 => ?_) (fun c929 => absurd ((lg_cmp_eq _ _).mpr ((hv1 c920).trans (a2 c920))) c929)
    refine zv_goto (pc := 934) (tgt := 1097) C dLa_law_934 (by decide) ?_
    exact zv_pick [0, 1, 2, 3, 4] rfl (zv_widen (by omega) (by omega) (kk _ ⟨ad1, am, _, _, e1, rfl, hL2, hI2⟩))
set_option maxHeartbeats 4000000 in
set_option maxRecDepth 100000 in
theorem w_13 {O : zO} {p : Program} {l : Launch} {e : Env} {s : State} {m : MethodId} {args : Array Value} {below : List Frame} {meth : Method} {c : Code} {Q : State → Prop} {G : zG} {kc ks : Nat} (hk : zK O l) {b L : Nat} {xs : Nat → Int32} (C : zC O p l s m meth c RLa bLa_law 8) (hX : zSc O b L xs) {ax ay ao i : Nat} (hi : i + 5 ≤ L) (hc : kc + 4 ≤ 601024) (hs : ks + 55 ≤ 7293034) (h : zLI O G ax ay ao) (kk : ∀ G', zLI O G' ax ay ao → zV O p l e room_1 s m args below meth c 8 Q 1097 [(0, .ref b), (1, .ref ax), (2, .ref ay), (3, .ref ao), (4, .int (nI i))] [] G' (kc + 4) (ks + 55)) : zV O p l e room_1 s m args below meth c 8 Q 937 [(0, .ref b), (1, .ref ax), (2, .ref ay), (3, .ref ao), (4, .int (nI i))] [] G kc ks := by
  obtain ⟨ad, am, S, M, rfl, rfl, hLw, hI⟩ := h
  obtain ⟨g0, hg0⟩ := hLw.2.2.1
  refine zv_aload_n (pc := 937) C dLa_law_937 rfl ?_
  refine zv_aload_n (pc := 938) C dLa_law_938 rfl ?_
  refine zv_iload (pc := 939) C dLa_law_939 rfl ?_
  refine zv_iconst (pc := 941) (v := 1) C dLa_law_941 (by decide) ?_
  refine zv_iadd (pc := 942) C dLa_law_942 ?_
  refine zv_topi (nI_add i 1) ?_
  refine zv_sld (pc := 943) C hX dLa_law_943 (by omega) ?_
  refine zv_aload_n (pc := 944) C dLa_law_944 rfl ?_
  refine zv_iload (pc := 945) C dLa_law_945 rfl ?_
  refine zv_iconst (pc := 947) (v := 2) C dLa_law_947 (by decide) ?_
  refine zv_iadd (pc := 948) C dLa_law_948 ?_
  refine zv_topi (nI_add i 2) ?_
  refine zv_sld (pc := 949) C hX dLa_law_949 (by omega) ?_
  refine zv_aload_n (pc := 950) C dLa_law_950 rfl ?_
  refine zv_callSW (pc := 951) C dLa_law_951 zNo_not (cLa_read hk _ hLw.1 hI.1 hLw.2.2.2.2.2 hg0 _ _) gLa_117 ⟨rfl, rfl, ⟨Nat.le_of_ble_eq_true rfl, Nat.le_of_ble_eq_true rfl⟩, mLa_read⟩ rfl rfl (Nat.le_of_ble_eq_true rfl) ⟨le_c (by omega), le_s (by omega)⟩ (fun v G1 h1 => ?_)
  obtain ⟨k9, val, S1, rfl, hP, hTa⟩ := h1
  obtain ⟨ad1, e1, hL1, g1, hg1, hv1⟩ := hLw.A hTa
  refine zv_istore (pc := 954) C dLa_law_954 (by decide) ?_
  refine zv_aload_n (pc := 956) C dLa_law_956 rfl ?_
  refine zv_aload_n (pc := 957) C dLa_law_957 rfl ?_
  refine zv_iload (pc := 958) C dLa_law_958 rfl ?_
  refine zv_iconst (pc := 960) (v := 1) C dLa_law_960 (by decide) ?_
  refine zv_iadd (pc := 961) C dLa_law_961 ?_
  refine zv_topi (nI_add i 1) ?_
  refine zv_sld (pc := 962) C hX dLa_law_962 (by omega) ?_
  refine zv_aload_n (pc := 963) C dLa_law_963 rfl ?_
  refine zv_iload (pc := 964) C dLa_law_964 rfl ?_
  refine zv_iconst (pc := 966) (v := 2) C dLa_law_966 (by decide) ?_
  refine zv_iadd (pc := 967) C dLa_law_967 ?_
  refine zv_topi (nI_add i 2) ?_
  refine zv_sld (pc := 968) C hX dLa_law_968 (by omega) ?_
  refine zv_callV (pc := 969) C dLa_law_969 (eMo_read hk _ hL1.2.1 hI.2.1 _ _) gLa_119 ⟨rfl, rfl, ⟨Nat.le_of_ble_eq_true rfl, Nat.le_of_ble_eq_true rfl⟩, mMo_read⟩ rfl rfl (Nat.le_of_ble_eq_true rfl) hL1.2.1.2.1 rfl rfl ⟨le_c (by omega), le_s (by omega)⟩ (fun _ _ h => h.elim) (fun v G2 h2 => ?_)
  obtain ⟨w9, M1, rfl, hPm, hMt⟩ := h2
  have hL2 := hL1.M hMt
  obtain ⟨a1, a2, hI2⟩ := st_rd hI hP hPm
  have hg2 := (hMt.2 _ hL1.2.2.2.2.1).trans hg1
  refine zv_lstore (pc := 972) C dLa_law_972 (by decide) ?_
  refine zv_aload_n (pc := 974) C dLa_law_974 rfl ?_
  refine zv_callV (pc := 975) C dLa_law_975 (cMo_thrown hk _ hL2.2.1 hI2.2.1) gLa_62 ⟨rfl, rfl, ⟨Nat.le_of_ble_eq_true rfl, Nat.le_of_ble_eq_true rfl⟩, mMo_thrown⟩ rfl rfl (Nat.le_of_ble_eq_true rfl) hL2.2.1.2.1 rfl rfl ⟨le_c (by omega), le_s (by omega)⟩ (fun _ _ h => h.elim) (fun v G3 h3 => ?_)
  obtain ⟨rfl, rfl⟩ := h3
  refine zv_iload (pc := 978) C dLa_law_978 rfl ?_
  refine zv_icmp_eq (pc := 980) (tgt := 985) C dLa_law_980 (by decide) (fun c980 => ?_) (fun c980 => absurd a1 c980)
  refine zv_iload (pc := 985) C dLa_law_985 rfl ?_
  refine zv_if_ne (pc := 987) (tgt := 1001) C dLa_law_987 (by decide) (fun c987 => ?_) (fun c987 => ?_)
  · refine zv_goto (pc := 1001) (tgt := 1097) C dLa_law_1001 (by decide) ?_
    exact zv_pick [0, 1, 2, 3, 4] rfl (zv_widen (by omega) (by omega) (kk _ ⟨ad1, am, _, _, e1, rfl, hL2, hI2⟩))
  · refine zv_aload_n (pc := 990) C dLa_law_990 rfl ?_
    refine zv_iconst (pc := 991) (v := 0) C dLa_law_991 (by decide) ?_
    refine zv_lald (pc := 992) C dLa_law_992 hg2 vp_in0 ?_
    refine zv_lload (pc := 993) C dLa_law_993 rfl ?_
    refine zv_lcmp (pc := 995) C dLa_law_995 ?_
    refine zv_if_eq (pc := 996) (tgt := 1001) C dLa_law_996 (by decide) (fun c996 => ?_) (fun c996 => absurd ((lg_cmp_eq _ _).mpr ((hv1 c987).trans (a2 c987))) c996)
    refine zv_goto (pc := 1001) (tgt := 1097) C dLa_law_1001 (by decide) ?_
    exact zv_pick [0, 1, 2, 3, 4] rfl (zv_widen (by omega) (by omega) (kk _ ⟨ad1, am, _, _, e1, rfl, hL2, hI2⟩))
set_option maxHeartbeats 4000000 in
set_option maxRecDepth 100000 in
theorem w_14 {O : zO} {p : Program} {l : Launch} {e : Env} {s : State} {m : MethodId} {args : Array Value} {below : List Frame} {meth : Method} {c : Code} {Q : State → Prop} {G : zG} {kc ks : Nat} (hk : zK O l) {b L : Nat} {xs : Nat → Int32} (C : zC O p l s m meth c RLa bLa_law 8) (hX : zSc O b L xs) {ax ay ao i : Nat} (hi : i + 5 ≤ L) (hc : kc + 4 ≤ 601024) (hs : ks + 55 ≤ 7293034) (h : zLI O G ax ay ao) (kk : ∀ G', zLI O G' ax ay ao → zV O p l e room_1 s m args below meth c 8 Q 1097 [(0, .ref b), (1, .ref ax), (2, .ref ay), (3, .ref ao), (4, .int (nI i))] [] G' (kc + 4) (ks + 55)) : zV O p l e room_1 s m args below meth c 8 Q 1004 [(0, .ref b), (1, .ref ax), (2, .ref ay), (3, .ref ao), (4, .int (nI i))] [] G kc ks := by
  obtain ⟨ad, am, S, M, rfl, rfl, hLw, hI⟩ := h
  obtain ⟨g0, hg0⟩ := hLw.2.2.1
  refine zv_aload_n (pc := 1004) C dLa_law_1004 rfl ?_
  refine zv_aload_n (pc := 1005) C dLa_law_1005 rfl ?_
  refine zv_iload (pc := 1006) C dLa_law_1006 rfl ?_
  refine zv_iconst (pc := 1008) (v := 1) C dLa_law_1008 (by decide) ?_
  refine zv_iadd (pc := 1009) C dLa_law_1009 ?_
  refine zv_topi (nI_add i 1) ?_
  refine zv_sld (pc := 1010) C hX dLa_law_1010 (by omega) ?_
  refine zv_aload_n (pc := 1011) C dLa_law_1011 rfl ?_
  refine zv_iload (pc := 1012) C dLa_law_1012 rfl ?_
  refine zv_iconst (pc := 1014) (v := 2) C dLa_law_1014 (by decide) ?_
  refine zv_iadd (pc := 1015) C dLa_law_1015 ?_
  refine zv_topi (nI_add i 2) ?_
  refine zv_sld (pc := 1016) C hX dLa_law_1016 (by omega) ?_
  refine zv_aload_n (pc := 1017) C dLa_law_1017 rfl ?_
  refine zv_callSW (pc := 1018) C dLa_law_1018 zNo_not (cLa_look hk _ hLw.1 hI.1 hLw.2.2.2.2.2 hg0 _ _) gLa_120 ⟨rfl, rfl, ⟨Nat.le_of_ble_eq_true rfl, Nat.le_of_ble_eq_true rfl⟩, mLa_look⟩ rfl rfl (Nat.le_of_ble_eq_true rfl) ⟨le_c (by omega), le_s (by omega)⟩ (fun v G1 h1 => ?_)
  obtain ⟨k9, val, S1, rfl, hP, hTa⟩ := h1
  obtain ⟨ad1, e1, hL1, g1, hg1, hv1⟩ := hLw.A hTa
  refine zv_istore (pc := 1021) C dLa_law_1021 (by decide) ?_
  refine zv_aload_n (pc := 1023) C dLa_law_1023 rfl ?_
  refine zv_aload_n (pc := 1024) C dLa_law_1024 rfl ?_
  refine zv_iload (pc := 1025) C dLa_law_1025 rfl ?_
  refine zv_iconst (pc := 1027) (v := 1) C dLa_law_1027 (by decide) ?_
  refine zv_iadd (pc := 1028) C dLa_law_1028 ?_
  refine zv_topi (nI_add i 1) ?_
  refine zv_sld (pc := 1029) C hX dLa_law_1029 (by omega) ?_
  refine zv_aload_n (pc := 1030) C dLa_law_1030 rfl ?_
  refine zv_iload (pc := 1031) C dLa_law_1031 rfl ?_
  refine zv_iconst (pc := 1033) (v := 2) C dLa_law_1033 (by decide) ?_
  refine zv_iadd (pc := 1034) C dLa_law_1034 ?_
  refine zv_topi (nI_add i 2) ?_
  refine zv_sld (pc := 1035) C hX dLa_law_1035 (by omega) ?_
  refine zv_callV (pc := 1036) C dLa_law_1036 (eMo_look hk _ hL1.2.1 hI.2.1 _ _) gLa_122 ⟨rfl, rfl, ⟨Nat.le_of_ble_eq_true rfl, Nat.le_of_ble_eq_true rfl⟩, mMo_look⟩ rfl rfl (Nat.le_of_ble_eq_true rfl) hL1.2.1.2.1 rfl rfl ⟨le_c (by omega), le_s (by omega)⟩ (fun _ _ h => h.elim) (fun v G2 h2 => ?_)
  obtain ⟨w9, M1, rfl, hPm, hMt⟩ := h2
  have hL2 := hL1.M hMt
  obtain ⟨a1, a2, hI2⟩ := st_lo hI hP hPm
  have hg2 := (hMt.2 _ hL1.2.2.2.2.1).trans hg1
  refine zv_istore (pc := 1039) C dLa_law_1039 (by decide) ?_
  refine zv_aload_n (pc := 1041) C dLa_law_1041 rfl ?_
  refine zv_callV (pc := 1042) C dLa_law_1042 (cMo_thrown hk _ hL2.2.1 hI2.2.1) gLa_62 ⟨rfl, rfl, ⟨Nat.le_of_ble_eq_true rfl, Nat.le_of_ble_eq_true rfl⟩, mMo_thrown⟩ rfl rfl (Nat.le_of_ble_eq_true rfl) hL2.2.1.2.1 rfl rfl ⟨le_c (by omega), le_s (by omega)⟩ (fun _ _ h => h.elim) (fun v G3 h3 => ?_)
  obtain ⟨rfl, rfl⟩ := h3
  refine zv_iload (pc := 1045) C dLa_law_1045 rfl ?_
  refine zv_icmp_eq (pc := 1047) (tgt := 1052) C dLa_law_1047 (by decide) (fun c1047 => ?_) (fun c1047 => absurd a1 c1047)
  refine zv_iload (pc := 1052) C dLa_law_1052 rfl ?_
  refine zv_if_ne (pc := 1054) (tgt := 1069) C dLa_law_1054 (by decide) (fun c1054 => ?_) (fun c1054 => ?_)
  · refine zv_goto (pc := 1069) (tgt := 1097) C dLa_law_1069 (by decide) ?_
    exact zv_pick [0, 1, 2, 3, 4] rfl (zv_widen (by omega) (by omega) (kk _ ⟨ad1, am, _, _, e1, rfl, hL2, hI2⟩))
  · refine zv_aload_n (pc := 1057) C dLa_law_1057 rfl ?_
    refine zv_iconst (pc := 1058) (v := 0) C dLa_law_1058 (by decide) ?_
    refine zv_lald (pc := 1059) C dLa_law_1059 hg2 vp_in0 ?_
    refine zv_iload (pc := 1060) C dLa_law_1060 rfl ?_
    refine zv_i2l (pc := 1062) C dLa_law_1062 ?_
    refine zv_lcmp (pc := 1063) C dLa_law_1063 ?_
    refine zv_if_eq (pc := 1064) (tgt := 1069) C dLa_law_1064 (by decide) (fun c1064 => ?_) (fun c1064 => absurd ((lg_cmp_eq _ _).mpr ((hv1 c1054).trans (a2 c1054))) c1064)
    refine zv_goto (pc := 1069) (tgt := 1097) C dLa_law_1069 (by decide) ?_
    exact zv_pick [0, 1, 2, 3, 4] rfl (zv_widen (by omega) (by omega) (kk _ ⟨ad1, am, _, _, e1, rfl, hL2, hI2⟩))
set_option maxHeartbeats 4000000 in
set_option maxRecDepth 100000 in
theorem w_15 {O : zO} {p : Program} {l : Launch} {e : Env} {s : State} {m : MethodId} {args : Array Value} {below : List Frame} {meth : Method} {c : Code} {Q : State → Prop} {G : zG} {kc ks : Nat} (hk : zK O l) {b L : Nat} {xs : Nat → Int32} (C : zC O p l s m meth c RLa bLa_law 8) (hX : zSc O b L xs) {ax ay ao i : Nat} (hi : i + 5 ≤ L) (hc : kc + 4 ≤ 601024) (hs : ks + 55 ≤ 7293034) (h : zLI O G ax ay ao) (kk : ∀ G', zLI O G' ax ay ao → zV O p l e room_1 s m args below meth c 8 Q 1097 [(0, .ref b), (1, .ref ax), (2, .ref ay), (3, .ref ao), (4, .int (nI i))] [] G' (kc + 4) (ks + 55)) : zV O p l e room_1 s m args below meth c 8 Q 1072 [(0, .ref b), (1, .ref ax), (2, .ref ay), (3, .ref ao), (4, .int (nI i))] [] G kc ks := by
  obtain ⟨ad, am, S, M, rfl, rfl, hLw, hI⟩ := h
  obtain ⟨g0, hg0⟩ := hLw.2.2.1
  refine zv_aload_n (pc := 1072) C dLa_law_1072 rfl ?_
  refine zv_aload_n (pc := 1073) C dLa_law_1073 rfl ?_
  refine zv_iload (pc := 1074) C dLa_law_1074 rfl ?_
  refine zv_iconst (pc := 1076) (v := 1) C dLa_law_1076 (by decide) ?_
  refine zv_iadd (pc := 1077) C dLa_law_1077 ?_
  refine zv_topi (nI_add i 1) ?_
  refine zv_sld (pc := 1078) C hX dLa_law_1078 (by omega) ?_
  refine zv_callV (pc := 1079) C dLa_law_1079 (cDu_count hk _ _ hLw.1 hI.1) gLa_123 ⟨rfl, rfl, ⟨Nat.le_of_ble_eq_true rfl, Nat.le_of_ble_eq_true rfl⟩, mDu_count⟩ rfl rfl (Nat.le_of_ble_eq_true rfl) hLw.1.2.1 rfl rfl ⟨le_c (by omega), le_s (by omega)⟩ (fun _ _ h => h.elim) (fun v G1 h1 => ?_)
  obtain ⟨rfl, rfl⟩ := h1
  refine zv_aload_n (pc := 1082) C dLa_law_1082 rfl ?_
  refine zv_aload_n (pc := 1083) C dLa_law_1083 rfl ?_
  refine zv_iload (pc := 1084) C dLa_law_1084 rfl ?_
  refine zv_iconst (pc := 1086) (v := 1) C dLa_law_1086 (by decide) ?_
  refine zv_iadd (pc := 1087) C dLa_law_1087 ?_
  refine zv_topi (nI_add i 1) ?_
  refine zv_sld (pc := 1088) C hX dLa_law_1088 (by omega) ?_
  refine zv_callV (pc := 1089) C dLa_law_1089 (cMo_count hk _ _ hLw.2.1 hI.2.1) gLa_126 ⟨rfl, rfl, ⟨Nat.le_of_ble_eq_true rfl, Nat.le_of_ble_eq_true rfl⟩, mMo_count⟩ rfl rfl (Nat.le_of_ble_eq_true rfl) hLw.2.1.2.1 rfl rfl ⟨le_c (by omega), le_s (by omega)⟩ (fun _ _ h => h.elim) (fun v G2 h2 => ?_)
  obtain ⟨rfl, hMt⟩ := h2
  have hL2 := hLw.M hMt
  have a1 := st_cn hI (xs (i + 1))
  have hI2 := hI.th 0
  refine zv_icmp_eq (pc := 1092) (tgt := 1097) C dLa_law_1092 (by decide) (fun c1092 => ?_) (fun c1092 => absurd a1 c1092)
  exact zv_pick [0, 1, 2, 3, 4] rfl (zv_widen (by omega) (by omega) (kk _ ⟨ad, am, _, _, rfl, rfl, hL2, hI2⟩))
