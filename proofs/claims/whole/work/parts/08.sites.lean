/-! what each linking instruction names; the room of each method -/
theorem fDu_9 : zF RDu 9 3 0 RDu TDu 11 := ⟨rfl, by decide, inDu, zw_101⟩
theorem fDu_13 : zF RDu 13 3 1 RDu TDu 11 := ⟨rfl, by decide, inDu, zw_102⟩
theorem fDu_19 : zF RDu 19 3 2 RDu TDu 11 := ⟨rfl, by decide, inDu, zw_103⟩
theorem fDu_23 : zF RDu 23 3 3 RDu TDu 11 := ⟨rfl, by decide, inDu, zw_104⟩
theorem nDu_26 : zN RDu 26 1 RBk TBk 7 := ⟨rfl, inBk, zw_51, zw_52, zw_29⟩
theorem gDu_28 : ∀ w ∈ [Cond.code yBk_init bBk_init 1 none, .initialized yBk_init.cls, .instanceMethod yBk_init], w ∈ zT := List.forall_mem_cons.mpr ⟨zw_55, List.forall_mem_cons.mpr ⟨zw_29, List.forall_mem_cons.mpr ⟨zw_54, fun _ h => absurd h List.not_mem_nil⟩⟩⟩
theorem fDu_29 : zF RDu 29 3 4 RDu TDu 11 := ⟨rfl, by decide, inDu, zw_105⟩
theorem nDu_33 : zN RDu 33 2 RSh TSh 2 := ⟨rfl, inSh, zw_88, zw_89, zw_30⟩
theorem gDu_35 : ∀ w ∈ [Cond.code ySh_init bSh_init 1 none, .initialized ySh_init.cls, .instanceMethod ySh_init], w ∈ zT := List.forall_mem_cons.mpr ⟨zw_92, List.forall_mem_cons.mpr ⟨zw_30, List.forall_mem_cons.mpr ⟨zw_91, fun _ h => absurd h List.not_mem_nil⟩⟩⟩
theorem fDu_36 : zF RDu 36 3 5 RDu TDu 11 := ⟨rfl, by decide, inDu, zw_106⟩
theorem fDu_40 : zF RDu 40 3 6 RDu TDu 11 := ⟨rfl, by decide, inDu, zw_107⟩
theorem fDu_43 : zF RDu 43 3 7 RDu TDu 11 := ⟨rfl, by decide, inDu, zw_108⟩
theorem fDu_46 : zF RDu 46 3 8 RDu TDu 11 := ⟨rfl, by decide, inDu, zw_109⟩
theorem fDu_49 : zF RDu 49 3 9 RDu TDu 11 := ⟨rfl, by decide, inDu, zw_110⟩
theorem fDu_52 : zF RDu 52 3 10 RDu TDu 11 := ⟨rfl, by decide, inDu, zw_111⟩
theorem fBk_9 : zF RBk 9 1 0 RBk TBk 7 := ⟨rfl, by decide, inBk, zw_57⟩
theorem fBk_15 : zF RBk 15 1 1 RBk TBk 7 := ⟨rfl, by decide, inBk, zw_59⟩
theorem fBk_18 : zF RBk 18 1 2 RBk TBk 7 := ⟨rfl, by decide, inBk, zw_61⟩
theorem fBk_22 : zF RBk 22 1 3 RBk TBk 7 := ⟨rfl, by decide, inBk, zw_63⟩
theorem fBk_25 : zF RBk 25 1 4 RBk TBk 7 := ⟨rfl, by decide, inBk, zw_65⟩
theorem fBk_28 : zF RBk 28 1 5 RBk TBk 7 := ⟨rfl, by decide, inBk, zw_67⟩
theorem fBk_32 : zF RBk 32 1 6 RBk TBk 7 := ⟨rfl, by decide, inBk, zw_69⟩
theorem fSh_9 : zF RSh 9 2 0 RSh TSh 2 := ⟨rfl, by decide, inSh, zw_94⟩
theorem fSh_15 : zF RSh 15 2 1 RSh TSh 2 := ⟨rfl, by decide, inSh, zw_95⟩
theorem gDu_85 : ∀ w ∈ wsV RDu 85 yDu_batchThatIs.cls yDu_batchThatIs [Cond.code yDu_batchThatIs bDu_batchThatIs 4 (some (.object "DutyLedger$Batch"))], w ∈ zT := List.forall_mem_cons.mpr ⟨zw_139, List.forall_mem_cons.mpr ⟨zw_141, List.forall_mem_cons.mpr ⟨zw_0, List.forall_mem_cons.mpr ⟨zw_28, List.forall_mem_cons.mpr ⟨zw_142, fun _ h => absurd h List.not_mem_nil⟩⟩⟩⟩⟩
theorem gDu_89 : ∀ w ∈ wsV RDu 89 yDu_isAccount.cls yDu_isAccount [Cond.code yDu_isAccount bDu_isAccount 2 (some .boolean)], w ∈ zT := List.forall_mem_cons.mpr ⟨zw_147, List.forall_mem_cons.mpr ⟨zw_149, List.forall_mem_cons.mpr ⟨zw_2, List.forall_mem_cons.mpr ⟨zw_28, List.forall_mem_cons.mpr ⟨zw_150, fun _ h => absurd h List.not_mem_nil⟩⟩⟩⟩⟩
theorem gDu_92 : ∀ w ∈ va_wsS RDu 92 yDu_canBeCents [Cond.code yDu_canBeCents bDu_canBeCents 2 (some .boolean)], w ∈ zT := List.forall_mem_cons.mpr ⟨zw_151, List.forall_mem_cons.mpr ⟨zw_152, List.forall_mem_cons.mpr ⟨zw_28, List.forall_mem_cons.mpr ⟨zw_153, fun _ h => absurd h List.not_mem_nil⟩⟩⟩⟩
theorem gDu_96 : ∀ w ∈ wsV RDu 96 yBa_take.cls yBa_take [Cond.code yBa_take bBa_take 4 (some .boolean)], w ∈ zT := List.forall_mem_cons.mpr ⟨zw_156, List.forall_mem_cons.mpr ⟨zw_157, List.forall_mem_cons.mpr ⟨zw_158, List.forall_mem_cons.mpr ⟨zw_37, List.forall_mem_cons.mpr ⟨zw_159, fun _ h => absurd h List.not_mem_nil⟩⟩⟩⟩⟩
theorem gDu_209 : ∀ w ∈ wsV RDu 209 yDu_batchAt.cls yDu_batchAt [Cond.code yDu_batchAt bDu_batchAt 2 (some (.object "DutyLedger$Batch"))], w ∈ zT := List.forall_mem_cons.mpr ⟨zw_143, List.forall_mem_cons.mpr ⟨zw_145, List.forall_mem_cons.mpr ⟨zw_1, List.forall_mem_cons.mpr ⟨zw_28, List.forall_mem_cons.mpr ⟨zw_146, fun _ h => absurd h List.not_mem_nil⟩⟩⟩⟩⟩
theorem fDu_215 : zF RDu 215 0 6 RBa TBa 9 := ⟨rfl, by decide, inBa, zw_323⟩
theorem fBa_19 : zF RBa 19 0 5 RBa TBa 9 := ⟨rfl, by decide, inBa, zw_320⟩
theorem fBa_9 : zF RBa 9 0 3 RBa TBa 9 := ⟨rfl, by decide, inBa, zw_314⟩
theorem fBa_15 : zF RBa 15 0 4 RBa TBa 9 := ⟨rfl, by decide, inBa, zw_317⟩
theorem fDu_100 : zF RDu 100 0 8 RBa TBa 9 := ⟨rfl, by decide, inBa, zw_327⟩
theorem gDu_71 : ∀ w ∈ va_wsS RDu 71 yDu_isDay [Cond.code yDu_isDay bDu_isDay 1 (some .boolean)], w ∈ zT := List.forall_mem_cons.mpr ⟨zw_168, List.forall_mem_cons.mpr ⟨zw_169, List.forall_mem_cons.mpr ⟨zw_28, List.forall_mem_cons.mpr ⟨zw_170, fun _ h => absurd h List.not_mem_nil⟩⟩⟩⟩
theorem gDu_55 : ∀ w ∈ va_wsS RDu 55 yDu_isKind [Cond.code yDu_isKind bDu_isKind 1 (some .boolean)], w ∈ zT := List.forall_mem_cons.mpr ⟨zw_176, List.forall_mem_cons.mpr ⟨zw_177, List.forall_mem_cons.mpr ⟨zw_28, List.forall_mem_cons.mpr ⟨zw_178, fun _ h => absurd h List.not_mem_nil⟩⟩⟩⟩
theorem gDu_154 : ∀ w ∈ va_wsS RDu 154 yDu_isReceiver [Cond.code yDu_isReceiver bDu_isReceiver 1 (some .boolean)], w ∈ zT := List.forall_mem_cons.mpr ⟨zw_179, List.forall_mem_cons.mpr ⟨zw_180, List.forall_mem_cons.mpr ⟨zw_28, List.forall_mem_cons.mpr ⟨zw_181, fun _ h => absurd h List.not_mem_nil⟩⟩⟩⟩
theorem gDu_157 : ∀ w ∈ wsV RDu 157 ySh_setPart.cls ySh_setPart [Cond.code ySh_setPart bSh_setPart 4 none], w ∈ zT := List.forall_mem_cons.mpr ⟨zw_182, List.forall_mem_cons.mpr ⟨zw_183, List.forall_mem_cons.mpr ⟨zw_184, List.forall_mem_cons.mpr ⟨zw_30, List.forall_mem_cons.mpr ⟨zw_185, fun _ h => absurd h List.not_mem_nil⟩⟩⟩⟩⟩
theorem gDu_160 : ∀ w ∈ wsV RDu 160 ySh_setCost.cls ySh_setCost [Cond.code ySh_setCost bSh_setCost 3 none], w ∈ zT := List.forall_mem_cons.mpr ⟨zw_190, List.forall_mem_cons.mpr ⟨zw_191, List.forall_mem_cons.mpr ⟨zw_192, List.forall_mem_cons.mpr ⟨zw_30, List.forall_mem_cons.mpr ⟨zw_193, fun _ h => absurd h List.not_mem_nil⟩⟩⟩⟩⟩
theorem fDu_183 : zF RDu 183 1 5 RBk TBk 7 := ⟨rfl, by decide, inBk, zw_68⟩
theorem fDu_225 : zF RDu 225 1 6 RBk TBk 7 := ⟨rfl, by decide, inBk, zw_70⟩
theorem gLa_7 : ∀ w ∈ wsV RLa 7 yDu_account.cls yDu_account [Cond.code yDu_account bDu_account 2 (some .int)], w ∈ zT := List.forall_mem_cons.mpr ⟨zw_203, List.forall_mem_cons.mpr ⟨zw_204, List.forall_mem_cons.mpr ⟨zw_205, List.forall_mem_cons.mpr ⟨zw_28, List.forall_mem_cons.mpr ⟨zw_206, fun _ h => absurd h List.not_mem_nil⟩⟩⟩⟩⟩
theorem taDu_63 : (∀ w ∈ vx_atS RDu 63 "java/lang/IllegalArgumentException" ["java/lang/RuntimeException", "java/lang/Exception"], w ∈ zT2) ∧ ∀ w ∈ Cond.classLink RDu 59 "java/lang/IllegalArgumentException" :: Cond.initialized "java/lang/IllegalArgumentException" :: vx_atS RDu 63 "java/lang/IllegalArgumentException" ["java/lang/RuntimeException", "java/lang/Exception"], vx_ot w = true := ⟨by decide +kernel, by decide +kernel⟩
theorem tDu_61_63 : zTh RDu 59 61 63 "java/lang/IllegalArgumentException" "no such kind" ["java/lang/RuntimeException", "java/lang/Exception"] := ⟨⟨by decide +kernel, by decide +kernel⟩, zw_207, zw_35, by decide +kernel, taDu_63.1, taDu_63.2⟩
theorem taDu_70 : (∀ w ∈ vx_atS RDu 70 "java/lang/IllegalStateException" ["java/lang/RuntimeException", "java/lang/Exception"], w ∈ zT2) ∧ ∀ w ∈ Cond.classLink RDu 66 "java/lang/IllegalStateException" :: Cond.initialized "java/lang/IllegalStateException" :: vx_atS RDu 70 "java/lang/IllegalStateException" ["java/lang/RuntimeException", "java/lang/Exception"], vx_ot w = true := ⟨by decide +kernel, by decide +kernel⟩
theorem tDu_68_70 : zTh RDu 66 68 70 "java/lang/IllegalStateException" "no more accounts" ["java/lang/RuntimeException", "java/lang/Exception"] := ⟨⟨by decide +kernel, by decide +kernel⟩, zw_276, zw_36, by decide +kernel, taDu_70.1, taDu_70.2⟩
theorem gLa_17 : ∀ w ∈ wsV RLa 17 yDu_batch.cls yDu_batch [Cond.code yDu_batch bDu_batch 3 (some .int)], w ∈ zT := List.forall_mem_cons.mpr ⟨zw_295, List.forall_mem_cons.mpr ⟨zw_296, List.forall_mem_cons.mpr ⟨zw_297, List.forall_mem_cons.mpr ⟨zw_28, List.forall_mem_cons.mpr ⟨zw_298, fun _ h => absurd h List.not_mem_nil⟩⟩⟩⟩⟩
theorem tDu_74_63 : zTh RDu 59 74 63 "java/lang/IllegalArgumentException" "no such day" ["java/lang/RuntimeException", "java/lang/Exception"] := ⟨⟨by decide +kernel, by decide +kernel⟩, zw_207, zw_35, by decide +kernel, taDu_63.1, taDu_63.2⟩
theorem tDu_76_70 : zTh RDu 66 76 70 "java/lang/IllegalStateException" "no more batches" ["java/lang/RuntimeException", "java/lang/Exception"] := ⟨⟨by decide +kernel, by decide +kernel⟩, zw_276, zw_36, by decide +kernel, taDu_70.1, taDu_70.2⟩
theorem nDu_17 : zN RDu 17 0 RBa TBa 9 := ⟨rfl, inBa, zw_49, zw_301, zw_37⟩
theorem gDu_78 : ∀ w ∈ [Cond.code yBa_init bBa_init 4 none, .initialized yBa_init.cls, .methodLink RDu 78 yBa_init, .instanceMethod yBa_init], w ∈ zT := List.forall_mem_cons.mpr ⟨zw_304, List.forall_mem_cons.mpr ⟨zw_37, List.forall_mem_cons.mpr ⟨zw_302, List.forall_mem_cons.mpr ⟨zw_303, fun _ h => absurd h List.not_mem_nil⟩⟩⟩⟩
theorem gDu_81 : ∀ w ∈ wsV RDu 81 yDu_keep.cls yDu_keep [Cond.code yDu_keep bDu_keep 2 (some .int)], w ∈ zT := List.forall_mem_cons.mpr ⟨zw_347, List.forall_mem_cons.mpr ⟨zw_349, List.forall_mem_cons.mpr ⟨zw_4, List.forall_mem_cons.mpr ⟨zw_28, List.forall_mem_cons.mpr ⟨zw_350, fun _ h => absurd h List.not_mem_nil⟩⟩⟩⟩⟩
theorem fBa_23 : zF RBa 23 0 6 RBa TBa 9 := ⟨rfl, by decide, inBa, zw_322⟩
theorem fBa_26 : zF RBa 26 0 7 RBa TBa 9 := ⟨rfl, by decide, inBa, zw_324⟩
theorem fBa_29 : zF RBa 29 0 8 RBa TBa 9 := ⟨rfl, by decide, inBa, zw_326⟩
theorem fBa_33 : zF RBa 33 0 0 RBa TBa 9 := ⟨rfl, by decide, inBa, zw_306⟩
theorem fBa_36 : zF RBa 36 0 1 RBa TBa 9 := ⟨rfl, by decide, inBa, zw_309⟩
theorem fBa_39 : zF RBa 39 0 2 RBa TBa 9 := ⟨rfl, by decide, inBa, zw_312⟩
theorem gLa_21 : ∀ w ∈ wsV RLa 21 yDu_post.cls yDu_post [Cond.code yDu_post bDu_post 4 (some .int)], w ∈ zT := List.forall_mem_cons.mpr ⟨zw_355, List.forall_mem_cons.mpr ⟨zw_356, List.forall_mem_cons.mpr ⟨zw_357, List.forall_mem_cons.mpr ⟨zw_28, List.forall_mem_cons.mpr ⟨zw_358, fun _ h => absurd h List.not_mem_nil⟩⟩⟩⟩⟩
theorem tDu_104_63 : zTh RDu 59 104 63 "java/lang/IllegalArgumentException" "no such open batch" ["java/lang/RuntimeException", "java/lang/Exception"] := ⟨⟨by decide +kernel, by decide +kernel⟩, zw_207, zw_35, by decide +kernel, taDu_63.1, taDu_63.2⟩
theorem gDu_106 : ∀ w ∈ wsV RDu 106 yDu_whatIsWrongWith.cls yDu_whatIsWrongWith [Cond.code yDu_whatIsWrongWith bDu_whatIsWrongWith 2 (some .int)], w ∈ zT := List.forall_mem_cons.mpr ⟨zw_360, List.forall_mem_cons.mpr ⟨zw_362, List.forall_mem_cons.mpr ⟨zw_5, List.forall_mem_cons.mpr ⟨zw_28, List.forall_mem_cons.mpr ⟨zw_363, fun _ h => absurd h List.not_mem_nil⟩⟩⟩⟩⟩
theorem gDu_109 : ∀ w ∈ wsV RDu 109 yDu_makeVoid.cls yDu_makeVoid [Cond.code yDu_makeVoid bDu_makeVoid 3 none], w ∈ zT := List.forall_mem_cons.mpr ⟨zw_372, List.forall_mem_cons.mpr ⟨zw_374, List.forall_mem_cons.mpr ⟨zw_6, List.forall_mem_cons.mpr ⟨zw_28, List.forall_mem_cons.mpr ⟨zw_375, fun _ h => absurd h List.not_mem_nil⟩⟩⟩⟩⟩
theorem tDu_113_70 : zTh RDu 66 113 70 "java/lang/IllegalStateException" "the batch is void" ["java/lang/RuntimeException", "java/lang/Exception"] := ⟨⟨by decide +kernel, by decide +kernel⟩, zw_276, zw_36, by decide +kernel, taDu_70.1, taDu_70.2⟩
theorem gDu_115 : ∀ w ∈ wsV RDu 115 yDu_failHalfway.cls yDu_failHalfway [Cond.code yDu_failHalfway bDu_failHalfway 3 none], w ∈ zT := List.forall_mem_cons.mpr ⟨zw_388, List.forall_mem_cons.mpr ⟨zw_390, List.forall_mem_cons.mpr ⟨zw_8, List.forall_mem_cons.mpr ⟨zw_28, List.forall_mem_cons.mpr ⟨zw_391, fun _ h => absurd h List.not_mem_nil⟩⟩⟩⟩⟩
theorem taDu_123 : (∀ w ∈ vx_atS RDu 123 "java/lang/UnsupportedOperationException" ["java/lang/RuntimeException", "java/lang/Exception"], w ∈ zT2) ∧ ∀ w ∈ Cond.classLink RDu 119 "java/lang/UnsupportedOperationException" :: Cond.initialized "java/lang/UnsupportedOperationException" :: vx_atS RDu 123 "java/lang/UnsupportedOperationException" ["java/lang/RuntimeException", "java/lang/Exception"], vx_ot w = true := ⟨by decide +kernel, by decide +kernel⟩
theorem tDu_121_123 : zTh RDu 119 121 123 "java/lang/UnsupportedOperationException" "the batch failed" ["java/lang/RuntimeException", "java/lang/Exception"] := ⟨⟨by decide +kernel, by decide +kernel⟩, zw_400, zw_39, by decide +kernel, taDu_123.1, taDu_123.2⟩
theorem gDu_124 : ∀ w ∈ wsV RDu 124 yDu_enter.cls yDu_enter [Cond.code yDu_enter bDu_enter 3 none], w ∈ zT := List.forall_mem_cons.mpr ⟨zw_416, List.forall_mem_cons.mpr ⟨zw_418, List.forall_mem_cons.mpr ⟨zw_9, List.forall_mem_cons.mpr ⟨zw_28, List.forall_mem_cons.mpr ⟨zw_419, fun _ h => absurd h List.not_mem_nil⟩⟩⟩⟩⟩
theorem fDu_218 : zF RDu 218 0 5 RBa TBa 9 := ⟨rfl, by decide, inBa, zw_321⟩
theorem gDu_233 : ∀ w ∈ wsV RDu 233 yBa_sum.cls yBa_sum [Cond.code yBa_sum bBa_sum 4 (some .long)], w ∈ zT := List.forall_mem_cons.mpr ⟨zw_364, List.forall_mem_cons.mpr ⟨zw_365, List.forall_mem_cons.mpr ⟨zw_366, List.forall_mem_cons.mpr ⟨zw_37, List.forall_mem_cons.mpr ⟨zw_367, fun _ h => absurd h List.not_mem_nil⟩⟩⟩⟩⟩
theorem fDu_222 : zF RDu 222 0 1 RBa TBa 9 := ⟨rfl, by decide, inBa, zw_311⟩
theorem gDu_236 : ∀ w ∈ wsV RDu 236 yBk_hasRoomFor.cls yBk_hasRoomFor [Cond.code yBk_hasRoomFor bBk_hasRoomFor 2 (some .boolean)], w ∈ zT := List.forall_mem_cons.mpr ⟨zw_368, List.forall_mem_cons.mpr ⟨zw_369, List.forall_mem_cons.mpr ⟨zw_370, List.forall_mem_cons.mpr ⟨zw_29, List.forall_mem_cons.mpr ⟨zw_371, fun _ h => absurd h List.not_mem_nil⟩⟩⟩⟩⟩
theorem gDu_239 : ∀ w ∈ wsV RDu 239 yDu_accountFarthestFromZero.cls yDu_accountFarthestFromZero [Cond.code yDu_accountFarthestFromZero bDu_accountFarthestFromZero 8 (some .int)], w ∈ zT := List.forall_mem_cons.mpr ⟨zw_376, List.forall_mem_cons.mpr ⟨zw_378, List.forall_mem_cons.mpr ⟨zw_7, List.forall_mem_cons.mpr ⟨zw_28, List.forall_mem_cons.mpr ⟨zw_379, fun _ h => absurd h List.not_mem_nil⟩⟩⟩⟩⟩
theorem gDu_242 : ∀ w ∈ wsV RDu 242 yBa_sumOf.cls yBa_sumOf [Cond.code yBa_sumOf bBa_sumOf 5 (some .long)], w ∈ zT := List.forall_mem_cons.mpr ⟨zw_380, List.forall_mem_cons.mpr ⟨zw_381, List.forall_mem_cons.mpr ⟨zw_382, List.forall_mem_cons.mpr ⟨zw_37, List.forall_mem_cons.mpr ⟨zw_383, fun _ h => absurd h List.not_mem_nil⟩⟩⟩⟩⟩
theorem gDu_252 : ∀ w ∈ wsV RDu 252 yBk_bringIn.cls yBk_bringIn [Cond.code yBk_bringIn bBk_bringIn 5 none], w ∈ zT := List.forall_mem_cons.mpr ⟨zw_392, List.forall_mem_cons.mpr ⟨zw_393, List.forall_mem_cons.mpr ⟨zw_394, List.forall_mem_cons.mpr ⟨zw_29, List.forall_mem_cons.mpr ⟨zw_395, fun _ h => absurd h List.not_mem_nil⟩⟩⟩⟩⟩
theorem gDu_256 : ∀ w ∈ wsV RDu 256 yBk_takeHeldOut.cls yBk_takeHeldOut [Cond.code yBk_takeHeldOut bBk_takeHeldOut 1 none], w ∈ zT := List.forall_mem_cons.mpr ⟨zw_396, List.forall_mem_cons.mpr ⟨zw_397, List.forall_mem_cons.mpr ⟨zw_398, List.forall_mem_cons.mpr ⟨zw_29, List.forall_mem_cons.mpr ⟨zw_399, fun _ h => absurd h List.not_mem_nil⟩⟩⟩⟩⟩
theorem fBk_35 : zF RBk 35 0 3 RBa TBa 9 := ⟨rfl, by decide, inBa, zw_315⟩
theorem fBk_38 : zF RBk 38 0 4 RBa TBa 9 := ⟨rfl, by decide, inBa, zw_318⟩
theorem fBk_39 : zF RBk 39 0 0 RBa TBa 9 := ⟨rfl, by decide, inBa, zw_307⟩
theorem fBk_42 : zF RBk 42 0 1 RBa TBa 9 := ⟨rfl, by decide, inBa, zw_310⟩
theorem gDu_259 : ∀ w ∈ wsV RDu 259 yBk_settleHeld.cls yBk_settleHeld [Cond.code yBk_settleHeld bBk_settleHeld 1 none], w ∈ zT := List.forall_mem_cons.mpr ⟨zw_420, List.forall_mem_cons.mpr ⟨zw_421, List.forall_mem_cons.mpr ⟨zw_422, List.forall_mem_cons.mpr ⟨zw_29, List.forall_mem_cons.mpr ⟨zw_423, fun _ h => absurd h List.not_mem_nil⟩⟩⟩⟩⟩
theorem gLa_26 : ∀ w ∈ wsV RLa 26 yDu_reverse.cls yDu_reverse [Cond.code yDu_reverse bDu_reverse 6 (some .int)], w ∈ zT := List.forall_mem_cons.mpr ⟨zw_427, List.forall_mem_cons.mpr ⟨zw_428, List.forall_mem_cons.mpr ⟨zw_429, List.forall_mem_cons.mpr ⟨zw_28, List.forall_mem_cons.mpr ⟨zw_430, fun _ h => absurd h List.not_mem_nil⟩⟩⟩⟩⟩
theorem tDu_127_63 : zTh RDu 59 127 63 "java/lang/IllegalArgumentException" "no such posted batch, or no such day" ["java/lang/RuntimeException", "java/lang/Exception"] := ⟨⟨by decide +kernel, by decide +kernel⟩, zw_207, zw_35, by decide +kernel, taDu_63.1, taDu_63.2⟩
theorem fDu_129 : zF RDu 129 0 2 RBa TBa 9 := ⟨rfl, by decide, inBa, zw_313⟩
theorem fDu_132 : zF RDu 132 0 7 RBa TBa 9 := ⟨rfl, by decide, inBa, zw_325⟩
theorem tDu_135_70 : zTh RDu 66 135 70 "java/lang/IllegalStateException" "reversed, or a reversal" ["java/lang/RuntimeException", "java/lang/Exception"] := ⟨⟨by decide +kernel, by decide +kernel⟩, zw_276, zw_36, by decide +kernel, taDu_70.1, taDu_70.2⟩
theorem gDu_137 : ∀ w ∈ va_wsS RDu 137 yDu_reversalOf [Cond.code yDu_reversalOf bDu_reversalOf 5 (some (.object "DutyLedger$Batch"))], w ∈ zT := List.forall_mem_cons.mpr ⟨zw_433, List.forall_mem_cons.mpr ⟨zw_434, List.forall_mem_cons.mpr ⟨zw_28, List.forall_mem_cons.mpr ⟨zw_435, fun _ h => absurd h List.not_mem_nil⟩⟩⟩⟩
theorem tDu_141_70 : zTh RDu 66 141 70 "java/lang/IllegalStateException" "the reversal can\'t be posted" ["java/lang/RuntimeException", "java/lang/Exception"] := ⟨⟨by decide +kernel, by decide +kernel⟩, zw_276, zw_36, by decide +kernel, taDu_70.1, taDu_70.2⟩
theorem fDu_219 : zF RDu 219 0 0 RBa TBa 9 := ⟨rfl, by decide, inBa, zw_308⟩
theorem fDu_262 : zF RDu 262 0 3 RBa TBa 9 := ⟨rfl, by decide, inBa, zw_316⟩
theorem fDu_263 : zF RDu 263 0 4 RBa TBa 9 := ⟨rfl, by decide, inBa, zw_319⟩
theorem gLa_29 : ∀ w ∈ wsV RLa 29 yDu_balance.cls yDu_balance [Cond.code yDu_balance bDu_balance 4 (some .long)], w ∈ zT := List.forall_mem_cons.mpr ⟨zw_440, List.forall_mem_cons.mpr ⟨zw_441, List.forall_mem_cons.mpr ⟨zw_442, List.forall_mem_cons.mpr ⟨zw_28, List.forall_mem_cons.mpr ⟨zw_443, fun _ h => absurd h List.not_mem_nil⟩⟩⟩⟩⟩
theorem tDu_143_63 : zTh RDu 59 143 63 "java/lang/IllegalArgumentException" "no such account or day" ["java/lang/RuntimeException", "java/lang/Exception"] := ⟨⟨by decide +kernel, by decide +kernel⟩, zw_207, zw_35, by decide +kernel, taDu_63.1, taDu_63.2⟩
theorem gDu_145 : ∀ w ∈ wsV RDu 145 yBk_sum.cls yBk_sum [Cond.code yBk_sum bBk_sum 8 (some .long)], w ∈ zT := List.forall_mem_cons.mpr ⟨zw_445, List.forall_mem_cons.mpr ⟨zw_446, List.forall_mem_cons.mpr ⟨zw_447, List.forall_mem_cons.mpr ⟨zw_29, List.forall_mem_cons.mpr ⟨zw_448, fun _ h => absurd h List.not_mem_nil⟩⟩⟩⟩⟩
theorem gLa_33 : ∀ w ∈ wsV RLa 33 yDu_statement.cls yDu_statement [Cond.code yDu_statement bDu_statement 5 (some .long)], w ∈ zT := List.forall_mem_cons.mpr ⟨zw_452, List.forall_mem_cons.mpr ⟨zw_453, List.forall_mem_cons.mpr ⟨zw_454, List.forall_mem_cons.mpr ⟨zw_28, List.forall_mem_cons.mpr ⟨zw_455, fun _ h => absurd h List.not_mem_nil⟩⟩⟩⟩⟩
theorem gDu_149 : ∀ w ∈ va_wsS RDu 149 yDu_isMonth [Cond.code yDu_isMonth bDu_isMonth 1 (some .boolean)], w ∈ zT := List.forall_mem_cons.mpr ⟨zw_456, List.forall_mem_cons.mpr ⟨zw_457, List.forall_mem_cons.mpr ⟨zw_28, List.forall_mem_cons.mpr ⟨zw_458, fun _ h => absurd h List.not_mem_nil⟩⟩⟩⟩
theorem tDu_152_63 : zTh RDu 59 152 63 "java/lang/IllegalArgumentException" "no such account, month or day" ["java/lang/RuntimeException", "java/lang/Exception"] := ⟨⟨by decide +kernel, by decide +kernel⟩, zw_207, zw_35, by decide +kernel, taDu_63.1, taDu_63.2⟩
theorem gLa_36 : ∀ w ∈ wsV RLa 36 yDu_passed.cls yDu_passed [Cond.code yDu_passed bDu_passed 8 (some .long)], w ∈ zT := List.forall_mem_cons.mpr ⟨zw_463, List.forall_mem_cons.mpr ⟨zw_464, List.forall_mem_cons.mpr ⟨zw_465, List.forall_mem_cons.mpr ⟨zw_28, List.forall_mem_cons.mpr ⟨zw_466, fun _ h => absurd h List.not_mem_nil⟩⟩⟩⟩⟩
theorem tDu_164_63 : zTh RDu 59 164 63 "java/lang/IllegalArgumentException" "no such kind, day or what" ["java/lang/RuntimeException", "java/lang/Exception"] := ⟨⟨by decide +kernel, by decide +kernel⟩, zw_207, zw_35, by decide +kernel, taDu_63.1, taDu_63.2⟩
theorem gDu_166 : ∀ w ∈ wsV RDu 166 yDu_collectedOf.cls yDu_collectedOf [Cond.code yDu_collectedOf bDu_collectedOf 6 (some .long)], w ∈ zT := List.forall_mem_cons.mpr ⟨zw_468, List.forall_mem_cons.mpr ⟨zw_470, List.forall_mem_cons.mpr ⟨zw_10, List.forall_mem_cons.mpr ⟨zw_28, List.forall_mem_cons.mpr ⟨zw_471, fun _ h => absurd h List.not_mem_nil⟩⟩⟩⟩⟩
theorem gDu_170 : ∀ w ∈ wsV RDu 170 ySh_costOf.cls ySh_costOf [Cond.code ySh_costOf bSh_costOf 4 (some .long)], w ∈ zT := List.forall_mem_cons.mpr ⟨zw_475, List.forall_mem_cons.mpr ⟨zw_476, List.forall_mem_cons.mpr ⟨zw_477, List.forall_mem_cons.mpr ⟨zw_30, List.forall_mem_cons.mpr ⟨zw_478, fun _ h => absurd h List.not_mem_nil⟩⟩⟩⟩⟩
theorem gDu_174 : ∀ w ∈ wsV RDu 174 ySh_allShares.cls ySh_allShares [Cond.code ySh_allShares bSh_allShares 7 (some .long)], w ∈ zT := List.forall_mem_cons.mpr ⟨zw_480, List.forall_mem_cons.mpr ⟨zw_481, List.forall_mem_cons.mpr ⟨zw_482, List.forall_mem_cons.mpr ⟨zw_30, List.forall_mem_cons.mpr ⟨zw_483, fun _ h => absurd h List.not_mem_nil⟩⟩⟩⟩⟩
theorem gDu_177 : ∀ w ∈ wsV RDu 177 ySh_shareOf.cls ySh_shareOf [Cond.code ySh_shareOf bSh_shareOf 7 (some .long)], w ∈ zT := List.forall_mem_cons.mpr ⟨zw_508, List.forall_mem_cons.mpr ⟨zw_485, List.forall_mem_cons.mpr ⟨zw_486, List.forall_mem_cons.mpr ⟨zw_30, List.forall_mem_cons.mpr ⟨zw_487, fun _ h => absurd h List.not_mem_nil⟩⟩⟩⟩⟩
theorem gSh_20 : ∀ w ∈ wsV RSh 20 ySh_shareOf.cls ySh_shareOf [Cond.code ySh_shareOf bSh_shareOf 7 (some .long)], w ∈ zT := List.forall_mem_cons.mpr ⟨zw_484, List.forall_mem_cons.mpr ⟨zw_485, List.forall_mem_cons.mpr ⟨zw_486, List.forall_mem_cons.mpr ⟨zw_30, List.forall_mem_cons.mpr ⟨zw_487, fun _ h => absurd h List.not_mem_nil⟩⟩⟩⟩⟩
theorem gSh_24 : ∀ w ∈ wsV RSh 24 ySh_allParts.cls ySh_allParts [Cond.code ySh_allParts bSh_allParts 4 (some .int)], w ∈ zT := List.forall_mem_cons.mpr ⟨zw_488, List.forall_mem_cons.mpr ⟨zw_490, List.forall_mem_cons.mpr ⟨zw_11, List.forall_mem_cons.mpr ⟨zw_30, List.forall_mem_cons.mpr ⟨zw_491, fun _ h => absurd h List.not_mem_nil⟩⟩⟩⟩⟩
theorem gSh_28 : ∀ w ∈ wsV RSh 28 ySh_wholeShare.cls ySh_wholeShare [Cond.code ySh_wholeShare bSh_wholeShare 6 (some .long)], w ∈ zT := List.forall_mem_cons.mpr ⟨zw_492, List.forall_mem_cons.mpr ⟨zw_494, List.forall_mem_cons.mpr ⟨zw_12, List.forall_mem_cons.mpr ⟨zw_30, List.forall_mem_cons.mpr ⟨zw_495, fun _ h => absurd h List.not_mem_nil⟩⟩⟩⟩⟩
theorem gSh_31 : ∀ w ∈ wsV RSh 31 ySh_placeByRemainder.cls ySh_placeByRemainder [Cond.code ySh_placeByRemainder bSh_placeByRemainder 11 (some .int)], w ∈ zT := List.forall_mem_cons.mpr ⟨zw_496, List.forall_mem_cons.mpr ⟨zw_498, List.forall_mem_cons.mpr ⟨zw_13, List.forall_mem_cons.mpr ⟨zw_30, List.forall_mem_cons.mpr ⟨zw_499, fun _ h => absurd h List.not_mem_nil⟩⟩⟩⟩⟩
theorem gSh_35 : ∀ w ∈ wsV RSh 35 ySh_centsLeft.cls ySh_centsLeft [Cond.code ySh_centsLeft bSh_centsLeft 7 (some .long)], w ∈ zT := List.forall_mem_cons.mpr ⟨zw_504, List.forall_mem_cons.mpr ⟨zw_506, List.forall_mem_cons.mpr ⟨zw_15, List.forall_mem_cons.mpr ⟨zw_30, List.forall_mem_cons.mpr ⟨zw_507, fun _ h => absurd h List.not_mem_nil⟩⟩⟩⟩⟩
theorem gSh_39 : ∀ w ∈ wsV RSh 39 ySh_remainder.cls ySh_remainder [Cond.code ySh_remainder bSh_remainder 6 (some .long)], w ∈ zT := List.forall_mem_cons.mpr ⟨zw_500, List.forall_mem_cons.mpr ⟨zw_502, List.forall_mem_cons.mpr ⟨zw_14, List.forall_mem_cons.mpr ⟨zw_30, List.forall_mem_cons.mpr ⟨zw_503, fun _ h => absurd h List.not_mem_nil⟩⟩⟩⟩⟩
theorem gLa_39 : ∀ w ∈ wsV RLa 39 yDu_reconcile.cls yDu_reconcile [Cond.code yDu_reconcile bDu_reconcile 5 (some .long)], w ∈ zT := List.forall_mem_cons.mpr ⟨zw_512, List.forall_mem_cons.mpr ⟨zw_513, List.forall_mem_cons.mpr ⟨zw_514, List.forall_mem_cons.mpr ⟨zw_28, List.forall_mem_cons.mpr ⟨zw_515, fun _ h => absurd h List.not_mem_nil⟩⟩⟩⟩⟩
theorem tDu_181_63 : zTh RDu 59 181 63 "java/lang/IllegalArgumentException" "no two such accounts" ["java/lang/RuntimeException", "java/lang/Exception"] := ⟨⟨by decide +kernel, by decide +kernel⟩, zw_207, zw_35, by decide +kernel, taDu_63.1, taDu_63.2⟩
theorem gLa_43 : ∀ w ∈ wsV RLa 43 yDu_read.cls yDu_read [Cond.code yDu_read bDu_read 3 (some .long)], w ∈ zT := List.forall_mem_cons.mpr ⟨zw_521, List.forall_mem_cons.mpr ⟨zw_522, List.forall_mem_cons.mpr ⟨zw_523, List.forall_mem_cons.mpr ⟨zw_28, List.forall_mem_cons.mpr ⟨zw_524, fun _ h => absurd h List.not_mem_nil⟩⟩⟩⟩⟩
theorem taDu_190 : (∀ w ∈ vx_atS RDu 190 "java/lang/IndexOutOfBoundsException" ["java/lang/RuntimeException", "java/lang/Exception"], w ∈ zT2) ∧ ∀ w ∈ Cond.classLink RDu 186 "java/lang/IndexOutOfBoundsException" :: Cond.initialized "java/lang/IndexOutOfBoundsException" :: vx_atS RDu 190 "java/lang/IndexOutOfBoundsException" ["java/lang/RuntimeException", "java/lang/Exception"], vx_ot w = true := ⟨by decide +kernel, by decide +kernel⟩
theorem tDu_188_190 : zTh RDu 186 188 190 "java/lang/IndexOutOfBoundsException" "no such row" ["java/lang/RuntimeException", "java/lang/Exception"] := ⟨⟨by decide +kernel, by decide +kernel⟩, zw_525, zw_40, by decide +kernel, taDu_190.1, taDu_190.2⟩
theorem fDu_191 : zF RDu 191 1 0 RBk TBk 7 := ⟨rfl, by decide, inBk, zw_58⟩
theorem fDu_194 : zF RDu 194 1 1 RBk TBk 7 := ⟨rfl, by decide, inBk, zw_60⟩
theorem fDu_197 : zF RDu 197 1 2 RBk TBk 7 := ⟨rfl, by decide, inBk, zw_62⟩
theorem fDu_201 : zF RDu 201 1 3 RBk TBk 7 := ⟨rfl, by decide, inBk, zw_64⟩
theorem fDu_204 : zF RDu 204 1 4 RBk TBk 7 := ⟨rfl, by decide, inBk, zw_66⟩
theorem tDu_207_190 : zTh RDu 186 207 190 "java/lang/IndexOutOfBoundsException" "no such what" ["java/lang/RuntimeException", "java/lang/Exception"] := ⟨⟨by decide +kernel, by decide +kernel⟩, zw_525, zw_40, by decide +kernel, taDu_190.1, taDu_190.2⟩
theorem gLa_49 : ∀ w ∈ wsV RLa 49 yDu_look.cls yDu_look [Cond.code yDu_look bDu_look 4 (some .int)], w ∈ zT := List.forall_mem_cons.mpr ⟨zw_545, List.forall_mem_cons.mpr ⟨zw_546, List.forall_mem_cons.mpr ⟨zw_547, List.forall_mem_cons.mpr ⟨zw_28, List.forall_mem_cons.mpr ⟨zw_548, fun _ h => absurd h List.not_mem_nil⟩⟩⟩⟩⟩
theorem tDu_213_190 : zTh RDu 186 213 190 "java/lang/IndexOutOfBoundsException" "no such batch" ["java/lang/RuntimeException", "java/lang/Exception"] := ⟨⟨by decide +kernel, by decide +kernel⟩, zw_525, zw_40, by decide +kernel, taDu_190.1, taDu_190.2⟩
theorem fMo_9 : zF RMo 9 4 4 RMo TMo 22 := ⟨rfl, by decide, inMo, zw_560⟩
theorem fMo_13 : zF RMo 13 4 5 RMo TMo 22 := ⟨rfl, by decide, inMo, zw_561⟩
theorem fMo_16 : zF RMo 16 4 7 RMo TMo 22 := ⟨rfl, by decide, inMo, zw_563⟩
theorem fMo_19 : zF RMo 19 4 9 RMo TMo 22 := ⟨rfl, by decide, inMo, zw_565⟩
theorem fMo_23 : zF RMo 23 4 10 RMo TMo 22 := ⟨rfl, by decide, inMo, zw_566⟩
theorem fMo_26 : zF RMo 26 4 11 RMo TMo 22 := ⟨rfl, by decide, inMo, zw_567⟩
theorem fMo_29 : zF RMo 29 4 12 RMo TMo 22 := ⟨rfl, by decide, inMo, zw_568⟩
theorem fMo_32 : zF RMo 32 4 13 RMo TMo 22 := ⟨rfl, by decide, inMo, zw_569⟩
theorem fMo_35 : zF RMo 35 4 14 RMo TMo 22 := ⟨rfl, by decide, inMo, zw_570⟩
theorem fMo_38 : zF RMo 38 4 15 RMo TMo 22 := ⟨rfl, by decide, inMo, zw_571⟩
theorem fMo_42 : zF RMo 42 4 16 RMo TMo 22 := ⟨rfl, by decide, inMo, zw_572⟩
theorem fMo_45 : zF RMo 45 4 17 RMo TMo 22 := ⟨rfl, by decide, inMo, zw_573⟩
theorem fMo_48 : zF RMo 48 4 18 RMo TMo 22 := ⟨rfl, by decide, inMo, zw_574⟩
theorem fMo_52 : zF RMo 52 4 19 RMo TMo 22 := ⟨rfl, by decide, inMo, zw_575⟩
theorem fMo_55 : zF RMo 55 4 20 RMo TMo 22 := ⟨rfl, by decide, inMo, zw_576⟩
theorem fMo_58 : zF RMo 58 4 21 RMo TMo 22 := ⟨rfl, by decide, inMo, zw_577⟩
theorem fMo_61 : zF RMo 61 4 0 RMo TMo 22 := ⟨rfl, by decide, inMo, zw_556⟩
theorem gMo_78 : ∀ w ∈ va_wsS RMo 78 yMo_isKind [Cond.code yMo_isKind bMo_isKind 1 (some .boolean)], w ∈ zT := List.forall_mem_cons.mpr ⟨zw_632, List.forall_mem_cons.mpr ⟨zw_633, List.forall_mem_cons.mpr ⟨zw_31, List.forall_mem_cons.mpr ⟨zw_634, fun _ h => absurd h List.not_mem_nil⟩⟩⟩⟩
theorem fMo_72 : zF RMo 72 4 1 RMo TMo 22 := ⟨rfl, by decide, inMo, zw_557⟩
theorem gMo_66 : ∀ w ∈ va_wsS RMo 66 yMo_in [Cond.code yMo_in bMo_in 6 (some .boolean)], w ∈ zT := List.forall_mem_cons.mpr ⟨zw_636, List.forall_mem_cons.mpr ⟨zw_637, List.forall_mem_cons.mpr ⟨zw_31, List.forall_mem_cons.mpr ⟨zw_638, fun _ h => absurd h List.not_mem_nil⟩⟩⟩⟩
theorem gMo_82 : ∀ w ∈ va_wsS RMo 82 yMo_isDay [Cond.code yMo_isDay bMo_isDay 1 (some .boolean)], w ∈ zT := List.forall_mem_cons.mpr ⟨zw_643, List.forall_mem_cons.mpr ⟨zw_644, List.forall_mem_cons.mpr ⟨zw_31, List.forall_mem_cons.mpr ⟨zw_645, fun _ h => absurd h List.not_mem_nil⟩⟩⟩⟩
theorem fMo_75 : zF RMo 75 4 2 RMo TMo 22 := ⟨rfl, by decide, inMo, zw_558⟩
theorem gMo_85 : ∀ w ∈ wsV RMo 85 yMo_begin.cls yMo_begin [Cond.code yMo_begin bMo_begin 4 none], w ∈ zT := List.forall_mem_cons.mpr ⟨zw_647, List.forall_mem_cons.mpr ⟨zw_649, List.forall_mem_cons.mpr ⟨zw_16, List.forall_mem_cons.mpr ⟨zw_31, List.forall_mem_cons.mpr ⟨zw_650, fun _ h => absurd h List.not_mem_nil⟩⟩⟩⟩⟩
theorem gMo_89 : ∀ w ∈ wsV RMo 89 yMo_isOpen.cls yMo_isOpen [Cond.code yMo_isOpen bMo_isOpen 2 (some .boolean)], w ∈ zT := List.forall_mem_cons.mpr ⟨zw_655, List.forall_mem_cons.mpr ⟨zw_657, List.forall_mem_cons.mpr ⟨zw_17, List.forall_mem_cons.mpr ⟨zw_31, List.forall_mem_cons.mpr ⟨zw_658, fun _ h => absurd h List.not_mem_nil⟩⟩⟩⟩⟩
theorem gMo_92 : ∀ w ∈ wsV RMo 92 yMo_isAccount.cls yMo_isAccount [Cond.code yMo_isAccount bMo_isAccount 2 (some .boolean)], w ∈ zT := List.forall_mem_cons.mpr ⟨zw_659, List.forall_mem_cons.mpr ⟨zw_661, List.forall_mem_cons.mpr ⟨zw_18, List.forall_mem_cons.mpr ⟨zw_31, List.forall_mem_cons.mpr ⟨zw_662, fun _ h => absurd h List.not_mem_nil⟩⟩⟩⟩⟩
theorem gMo_106 : ∀ w ∈ wsV RMo 106 yMo_wrongWith.cls yMo_wrongWith [Cond.code yMo_wrongWith bMo_wrongWith 2 (some .int)], w ∈ zT := List.forall_mem_cons.mpr ⟨zw_673, List.forall_mem_cons.mpr ⟨zw_675, List.forall_mem_cons.mpr ⟨zw_19, List.forall_mem_cons.mpr ⟨zw_31, List.forall_mem_cons.mpr ⟨zw_676, fun _ h => absurd h List.not_mem_nil⟩⟩⟩⟩⟩
theorem fMo_110 : zF RMo 110 4 6 RMo TMo 22 := ⟨rfl, by decide, inMo, zw_562⟩
theorem gMo_113 : ∀ w ∈ wsV RMo 113 yMo_greatestIn.cls yMo_greatestIn [Cond.code yMo_greatestIn bMo_greatestIn 8 (some .int)], w ∈ zT := List.forall_mem_cons.mpr ⟨zw_681, List.forall_mem_cons.mpr ⟨zw_683, List.forall_mem_cons.mpr ⟨zw_21, List.forall_mem_cons.mpr ⟨zw_31, List.forall_mem_cons.mpr ⟨zw_684, fun _ h => absurd h List.not_mem_nil⟩⟩⟩⟩⟩
theorem fMo_116 : zF RMo 116 4 8 RMo TMo 22 := ⟨rfl, by decide, inMo, zw_564⟩
theorem gMo_119 : ∀ w ∈ wsV RMo 119 yMo_enter.cls yMo_enter [Cond.code yMo_enter bMo_enter 3 none], w ∈ zT := List.forall_mem_cons.mpr ⟨zw_685, List.forall_mem_cons.mpr ⟨zw_687, List.forall_mem_cons.mpr ⟨zw_22, List.forall_mem_cons.mpr ⟨zw_31, List.forall_mem_cons.mpr ⟨zw_688, fun _ h => absurd h List.not_mem_nil⟩⟩⟩⟩⟩
theorem gMo_99 : ∀ w ∈ wsV RMo 99 yMo_sumIn.cls yMo_sumIn [Cond.code yMo_sumIn bMo_sumIn 6 (some .long)], w ∈ zT := List.forall_mem_cons.mpr ⟨zw_677, List.forall_mem_cons.mpr ⟨zw_679, List.forall_mem_cons.mpr ⟨zw_20, List.forall_mem_cons.mpr ⟨zw_31, List.forall_mem_cons.mpr ⟨zw_680, fun _ h => absurd h List.not_mem_nil⟩⟩⟩⟩⟩
theorem fMo_103 : zF RMo 103 4 3 RMo TMo 22 := ⟨rfl, by decide, inMo, zw_559⟩
theorem gMo_123 : ∀ w ∈ wsV RMo 123 yMo_sum.cls yMo_sum [Cond.code yMo_sum bMo_sum 10 (some .long)], w ∈ zT := List.forall_mem_cons.mpr ⟨zw_701, List.forall_mem_cons.mpr ⟨zw_703, List.forall_mem_cons.mpr ⟨zw_23, List.forall_mem_cons.mpr ⟨zw_31, List.forall_mem_cons.mpr ⟨zw_704, fun _ h => absurd h List.not_mem_nil⟩⟩⟩⟩⟩
theorem gMo_139 : ∀ w ∈ wsV RMo 139 yMo_sumOf.cls yMo_sumOf [Cond.code yMo_sumOf bMo_sumOf 6 (some .long)], w ∈ zT := List.forall_mem_cons.mpr ⟨zw_725, List.forall_mem_cons.mpr ⟨zw_727, List.forall_mem_cons.mpr ⟨zw_24, List.forall_mem_cons.mpr ⟨zw_31, List.forall_mem_cons.mpr ⟨zw_728, fun _ h => absurd h List.not_mem_nil⟩⟩⟩⟩⟩
theorem gMo_142 : ∀ w ∈ wsV RMo 142 yMo_share.cls yMo_share [Cond.code yMo_share bMo_share 14 (some .long)], w ∈ zT := List.forall_mem_cons.mpr ⟨zw_730, List.forall_mem_cons.mpr ⟨zw_732, List.forall_mem_cons.mpr ⟨zw_25, List.forall_mem_cons.mpr ⟨zw_31, List.forall_mem_cons.mpr ⟨zw_733, fun _ h => absurd h List.not_mem_nil⟩⟩⟩⟩⟩
theorem gMo_134 : ∀ w ∈ wsV RMo 134 yMo_partsOf.cls yMo_partsOf [Cond.code yMo_partsOf bMo_partsOf 2 (some .int)], w ∈ zT := List.forall_mem_cons.mpr ⟨zw_734, List.forall_mem_cons.mpr ⟨zw_736, List.forall_mem_cons.mpr ⟨zw_26, List.forall_mem_cons.mpr ⟨zw_31, List.forall_mem_cons.mpr ⟨zw_737, fun _ h => absurd h List.not_mem_nil⟩⟩⟩⟩⟩
theorem nLa_8 : zN RLa 8 3 RDu TDu 11 := ⟨rfl, inDu, zw_41, zw_42, zw_28⟩
theorem gLa_52 : ∀ w ∈ [Cond.code yDu_init bDu_init 1 none, .initialized yDu_init.cls, .methodLink RLa 52 yDu_init, .instanceMethod yDu_init], w ∈ zT := List.forall_mem_cons.mpr ⟨zw_45, List.forall_mem_cons.mpr ⟨zw_28, List.forall_mem_cons.mpr ⟨zw_43, List.forall_mem_cons.mpr ⟨zw_44, fun _ h => absurd h List.not_mem_nil⟩⟩⟩⟩
theorem nLa_53 : zN RLa 53 4 RMo TMo 22 := ⟨rfl, inMo, zw_550, zw_551, zw_31⟩
theorem gLa_55 : ∀ w ∈ [Cond.code yMo_init bMo_init 1 none, .initialized yMo_init.cls, .methodLink RLa 55 yMo_init, .instanceMethod yMo_init], w ∈ zT := List.forall_mem_cons.mpr ⟨zw_554, List.forall_mem_cons.mpr ⟨zw_31, List.forall_mem_cons.mpr ⟨zw_552, List.forall_mem_cons.mpr ⟨zw_553, fun _ h => absurd h List.not_mem_nil⟩⟩⟩⟩
theorem gLa_61 : ∀ w ∈ wsV RLa 61 yMo_account.cls yMo_account [Cond.code yMo_account bMo_account 2 (some .int)], w ∈ zT := List.forall_mem_cons.mpr ⟨zw_628, List.forall_mem_cons.mpr ⟨zw_629, List.forall_mem_cons.mpr ⟨zw_630, List.forall_mem_cons.mpr ⟨zw_31, List.forall_mem_cons.mpr ⟨zw_631, fun _ h => absurd h List.not_mem_nil⟩⟩⟩⟩⟩
theorem gLa_62 : ∀ w ∈ wsV RLa 62 yMo_thrown.cls yMo_thrown [Cond.code yMo_thrown bMo_thrown 1 (some .int)], w ∈ zT := List.forall_mem_cons.mpr ⟨zw_624, List.forall_mem_cons.mpr ⟨zw_625, List.forall_mem_cons.mpr ⟨zw_626, List.forall_mem_cons.mpr ⟨zw_31, List.forall_mem_cons.mpr ⟨zw_627, fun _ h => absurd h List.not_mem_nil⟩⟩⟩⟩⟩
theorem gLa_69 : ∀ w ∈ wsV RLa 69 yMo_batch.cls yMo_batch [Cond.code yMo_batch bMo_batch 3 (some .int)], w ∈ zT := List.forall_mem_cons.mpr ⟨zw_639, List.forall_mem_cons.mpr ⟨zw_640, List.forall_mem_cons.mpr ⟨zw_641, List.forall_mem_cons.mpr ⟨zw_31, List.forall_mem_cons.mpr ⟨zw_642, fun _ h => absurd h List.not_mem_nil⟩⟩⟩⟩⟩
theorem gLa_72 : ∀ w ∈ wsV RLa 72 yDu_row.cls yDu_row [Cond.code yDu_row bDu_row 6 (some .boolean)], w ∈ zT := List.forall_mem_cons.mpr ⟨zw_135, List.forall_mem_cons.mpr ⟨zw_136, List.forall_mem_cons.mpr ⟨zw_137, List.forall_mem_cons.mpr ⟨zw_28, List.forall_mem_cons.mpr ⟨zw_138, fun _ h => absurd h List.not_mem_nil⟩⟩⟩⟩⟩
theorem gLa_76 : ∀ w ∈ wsV RLa 76 yMo_row.cls yMo_row [Cond.code yMo_row bMo_row 5 (some .boolean)], w ∈ zT := List.forall_mem_cons.mpr ⟨zw_651, List.forall_mem_cons.mpr ⟨zw_652, List.forall_mem_cons.mpr ⟨zw_653, List.forall_mem_cons.mpr ⟨zw_31, List.forall_mem_cons.mpr ⟨zw_654, fun _ h => absurd h List.not_mem_nil⟩⟩⟩⟩⟩
theorem gLa_77 : ∀ w ∈ wsV RLa 77 yDu_fails.cls yDu_fails [Cond.code yDu_fails bDu_fails 4 (some .boolean)], w ∈ zT := List.forall_mem_cons.mpr ⟨zw_160, List.forall_mem_cons.mpr ⟨zw_161, List.forall_mem_cons.mpr ⟨zw_162, List.forall_mem_cons.mpr ⟨zw_28, List.forall_mem_cons.mpr ⟨zw_163, fun _ h => absurd h List.not_mem_nil⟩⟩⟩⟩⟩
theorem gLa_81 : ∀ w ∈ wsV RLa 81 yMo_fails.cls yMo_fails [Cond.code yMo_fails bMo_fails 3 (some .boolean)], w ∈ zT := List.forall_mem_cons.mpr ⟨zw_665, List.forall_mem_cons.mpr ⟨zw_666, List.forall_mem_cons.mpr ⟨zw_667, List.forall_mem_cons.mpr ⟨zw_31, List.forall_mem_cons.mpr ⟨zw_668, fun _ h => absurd h List.not_mem_nil⟩⟩⟩⟩⟩
theorem gLa_84 : ∀ w ∈ wsV RLa 84 yMo_post.cls yMo_post [Cond.code yMo_post bMo_post 3 (some .int)], w ∈ zT := List.forall_mem_cons.mpr ⟨zw_669, List.forall_mem_cons.mpr ⟨zw_670, List.forall_mem_cons.mpr ⟨zw_671, List.forall_mem_cons.mpr ⟨zw_31, List.forall_mem_cons.mpr ⟨zw_672, fun _ h => absurd h List.not_mem_nil⟩⟩⟩⟩⟩
theorem gLa_87 : ∀ w ∈ wsV RLa 87 yMo_reverse.cls yMo_reverse [Cond.code yMo_reverse bMo_reverse 6 (some .int)], w ∈ zT := List.forall_mem_cons.mpr ⟨zw_689, List.forall_mem_cons.mpr ⟨zw_690, List.forall_mem_cons.mpr ⟨zw_691, List.forall_mem_cons.mpr ⟨zw_31, List.forall_mem_cons.mpr ⟨zw_692, fun _ h => absurd h List.not_mem_nil⟩⟩⟩⟩⟩
theorem gLa_88 : ∀ w ∈ wsV RLa 88 yDu_close.cls yDu_close [Cond.code yDu_close bDu_close 2 (some .boolean)], w ∈ zT := List.forall_mem_cons.mpr ⟨zw_164, List.forall_mem_cons.mpr ⟨zw_165, List.forall_mem_cons.mpr ⟨zw_166, List.forall_mem_cons.mpr ⟨zw_28, List.forall_mem_cons.mpr ⟨zw_167, fun _ h => absurd h List.not_mem_nil⟩⟩⟩⟩⟩
theorem gLa_92 : ∀ w ∈ wsV RLa 92 yMo_close.cls yMo_close [Cond.code yMo_close bMo_close 2 (some .boolean)], w ∈ zT := List.forall_mem_cons.mpr ⟨zw_693, List.forall_mem_cons.mpr ⟨zw_694, List.forall_mem_cons.mpr ⟨zw_695, List.forall_mem_cons.mpr ⟨zw_31, List.forall_mem_cons.mpr ⟨zw_696, fun _ h => absurd h List.not_mem_nil⟩⟩⟩⟩⟩
theorem gLa_96 : ∀ w ∈ wsV RLa 96 yMo_balance.cls yMo_balance [Cond.code yMo_balance bMo_balance 4 (some .long)], w ∈ zT := List.forall_mem_cons.mpr ⟨zw_697, List.forall_mem_cons.mpr ⟨zw_698, List.forall_mem_cons.mpr ⟨zw_699, List.forall_mem_cons.mpr ⟨zw_31, List.forall_mem_cons.mpr ⟨zw_700, fun _ h => absurd h List.not_mem_nil⟩⟩⟩⟩⟩
theorem gLa_99 : ∀ w ∈ wsV RLa 99 yMo_statement.cls yMo_statement [Cond.code yMo_statement bMo_statement 4 (some .long)], w ∈ zT := List.forall_mem_cons.mpr ⟨zw_705, List.forall_mem_cons.mpr ⟨zw_706, List.forall_mem_cons.mpr ⟨zw_707, List.forall_mem_cons.mpr ⟨zw_31, List.forall_mem_cons.mpr ⟨zw_708, fun _ h => absurd h List.not_mem_nil⟩⟩⟩⟩⟩
theorem gLa_100 : ∀ w ∈ wsV RLa 100 yDu_part.cls yDu_part [Cond.code yDu_part bDu_part 4 (some .boolean)], w ∈ zT := List.forall_mem_cons.mpr ⟨zw_172, List.forall_mem_cons.mpr ⟨zw_173, List.forall_mem_cons.mpr ⟨zw_174, List.forall_mem_cons.mpr ⟨zw_28, List.forall_mem_cons.mpr ⟨zw_175, fun _ h => absurd h List.not_mem_nil⟩⟩⟩⟩⟩
theorem gLa_104 : ∀ w ∈ wsV RLa 104 yMo_part.cls yMo_part [Cond.code yMo_part bMo_part 4 (some .boolean)], w ∈ zT := List.forall_mem_cons.mpr ⟨zw_710, List.forall_mem_cons.mpr ⟨zw_711, List.forall_mem_cons.mpr ⟨zw_712, List.forall_mem_cons.mpr ⟨zw_31, List.forall_mem_cons.mpr ⟨zw_713, fun _ h => absurd h List.not_mem_nil⟩⟩⟩⟩⟩
theorem gLa_105 : ∀ w ∈ wsV RLa 105 yDu_cost.cls yDu_cost [Cond.code yDu_cost bDu_cost 3 (some .boolean)], w ∈ zT := List.forall_mem_cons.mpr ⟨zw_186, List.forall_mem_cons.mpr ⟨zw_187, List.forall_mem_cons.mpr ⟨zw_188, List.forall_mem_cons.mpr ⟨zw_28, List.forall_mem_cons.mpr ⟨zw_189, fun _ h => absurd h List.not_mem_nil⟩⟩⟩⟩⟩
theorem gLa_109 : ∀ w ∈ wsV RLa 109 yMo_cost.cls yMo_cost [Cond.code yMo_cost bMo_cost 3 (some .boolean)], w ∈ zT := List.forall_mem_cons.mpr ⟨zw_716, List.forall_mem_cons.mpr ⟨zw_717, List.forall_mem_cons.mpr ⟨zw_718, List.forall_mem_cons.mpr ⟨zw_31, List.forall_mem_cons.mpr ⟨zw_719, fun _ h => absurd h List.not_mem_nil⟩⟩⟩⟩⟩
theorem gLa_112 : ∀ w ∈ wsV RLa 112 yMo_passed.cls yMo_passed [Cond.code yMo_passed bMo_passed 11 (some .long)], w ∈ zT := List.forall_mem_cons.mpr ⟨zw_720, List.forall_mem_cons.mpr ⟨zw_721, List.forall_mem_cons.mpr ⟨zw_722, List.forall_mem_cons.mpr ⟨zw_31, List.forall_mem_cons.mpr ⟨zw_723, fun _ h => absurd h List.not_mem_nil⟩⟩⟩⟩⟩
theorem gLa_116 : ∀ w ∈ wsV RLa 116 yMo_reconcile.cls yMo_reconcile [Cond.code yMo_reconcile bMo_reconcile 5 (some .long)], w ∈ zT := List.forall_mem_cons.mpr ⟨zw_738, List.forall_mem_cons.mpr ⟨zw_739, List.forall_mem_cons.mpr ⟨zw_740, List.forall_mem_cons.mpr ⟨zw_31, List.forall_mem_cons.mpr ⟨zw_741, fun _ h => absurd h List.not_mem_nil⟩⟩⟩⟩⟩
theorem gLa_119 : ∀ w ∈ wsV RLa 119 yMo_read.cls yMo_read [Cond.code yMo_read bMo_read 4 (some .long)], w ∈ zT := List.forall_mem_cons.mpr ⟨zw_742, List.forall_mem_cons.mpr ⟨zw_743, List.forall_mem_cons.mpr ⟨zw_744, List.forall_mem_cons.mpr ⟨zw_31, List.forall_mem_cons.mpr ⟨zw_745, fun _ h => absurd h List.not_mem_nil⟩⟩⟩⟩⟩
theorem gLa_122 : ∀ w ∈ wsV RLa 122 yMo_look.cls yMo_look [Cond.code yMo_look bMo_look 3 (some .int)], w ∈ zT := List.forall_mem_cons.mpr ⟨zw_746, List.forall_mem_cons.mpr ⟨zw_747, List.forall_mem_cons.mpr ⟨zw_748, List.forall_mem_cons.mpr ⟨zw_31, List.forall_mem_cons.mpr ⟨zw_749, fun _ h => absurd h List.not_mem_nil⟩⟩⟩⟩⟩
theorem gLa_123 : ∀ w ∈ wsV RLa 123 yDu_count.cls yDu_count [Cond.code yDu_count bDu_count 2 (some .int)], w ∈ zT := List.forall_mem_cons.mpr ⟨zw_194, List.forall_mem_cons.mpr ⟨zw_195, List.forall_mem_cons.mpr ⟨zw_196, List.forall_mem_cons.mpr ⟨zw_28, List.forall_mem_cons.mpr ⟨zw_197, fun _ h => absurd h List.not_mem_nil⟩⟩⟩⟩⟩
theorem gLa_126 : ∀ w ∈ wsV RLa 126 yMo_count.cls yMo_count [Cond.code yMo_count bMo_count 2 (some .int)], w ∈ zT := List.forall_mem_cons.mpr ⟨zw_750, List.forall_mem_cons.mpr ⟨zw_751, List.forall_mem_cons.mpr ⟨zw_752, List.forall_mem_cons.mpr ⟨zw_31, List.forall_mem_cons.mpr ⟨zw_753, fun _ h => absurd h List.not_mem_nil⟩⟩⟩⟩⟩
theorem mDu_init : yDu_init.cls ≠ "java/lang/invoke/MethodHandle" ∧ yDu_init.cls ≠ "java/lang/invoke/VarHandle" ∧ (parseMethodDescriptor yDu_init.desc).map (fun d => d.parameters.length) = some 0 := by decide +kernel
abbrev rmDu_init : Room := { frames := 2, cells := 11, slots := 2151, locals := 34 }
theorem mBk_init : yBk_init.cls ≠ "java/lang/invoke/MethodHandle" ∧ yBk_init.cls ≠ "java/lang/invoke/VarHandle" ∧ (parseMethodDescriptor yBk_init.desc).map (fun d => d.parameters.length) = some 0 := by decide +kernel
abbrev rmBk_init : Room := { frames := 1, cells := 5, slots := 2000, locals := 14 }
theorem mSh_init : ySh_init.cls ≠ "java/lang/invoke/MethodHandle" ∧ ySh_init.cls ≠ "java/lang/invoke/VarHandle" ∧ (parseMethodDescriptor ySh_init.desc).map (fun d => d.parameters.length) = some 0 := by decide +kernel
abbrev rmSh_init : Room := { frames := 1, cells := 2, slots := 30, locals := 14 }
theorem mDu_row : yDu_row.cls ≠ "java/lang/invoke/MethodHandle" ∧ yDu_row.cls ≠ "java/lang/invoke/VarHandle" ∧ (parseMethodDescriptor yDu_row.desc).map (fun d => d.parameters.length) = some 3 := by decide +kernel
abbrev rmDu_row : Room := { frames := 2, cells := 0, slots := 0, locals := 44 }
theorem mDu_batchThatIs : yDu_batchThatIs.cls ≠ "java/lang/invoke/MethodHandle" ∧ yDu_batchThatIs.cls ≠ "java/lang/invoke/VarHandle" ∧ (parseMethodDescriptor yDu_batchThatIs.desc).map (fun d => d.parameters.length) = some 2 := by decide +kernel
abbrev rmDu_batchThatIs : Room := { frames := 1, cells := 0, slots := 0, locals := 21 }
theorem mDu_batchAt : yDu_batchAt.cls ≠ "java/lang/invoke/MethodHandle" ∧ yDu_batchAt.cls ≠ "java/lang/invoke/VarHandle" ∧ (parseMethodDescriptor yDu_batchAt.desc).map (fun d => d.parameters.length) = some 1 := by decide +kernel
abbrev rmDu_batchAt : Room := { frames := 0, cells := 0, slots := 0, locals := 0 }
theorem mDu_isAccount : yDu_isAccount.cls ≠ "java/lang/invoke/MethodHandle" ∧ yDu_isAccount.cls ≠ "java/lang/invoke/VarHandle" ∧ (parseMethodDescriptor yDu_isAccount.desc).map (fun d => d.parameters.length) = some 1 := by decide +kernel
abbrev rmDu_isAccount : Room := { frames := 0, cells := 0, slots := 0, locals := 0 }
theorem mDu_canBeCents : yDu_canBeCents.cls ≠ "java/lang/invoke/MethodHandle" ∧ yDu_canBeCents.cls ≠ "java/lang/invoke/VarHandle" ∧ (parseMethodDescriptor yDu_canBeCents.desc).map (fun d => d.parameters.length) = some 1 := by decide +kernel
abbrev rmDu_canBeCents : Room := { frames := 0, cells := 0, slots := 0, locals := 0 }
theorem mBa_take : yBa_take.cls ≠ "java/lang/invoke/MethodHandle" ∧ yBa_take.cls ≠ "java/lang/invoke/VarHandle" ∧ (parseMethodDescriptor yBa_take.desc).map (fun d => d.parameters.length) = some 2 := by decide +kernel
abbrev rmBa_take : Room := { frames := 0, cells := 0, slots := 0, locals := 0 }
theorem mDu_fails : yDu_fails.cls ≠ "java/lang/invoke/MethodHandle" ∧ yDu_fails.cls ≠ "java/lang/invoke/VarHandle" ∧ (parseMethodDescriptor yDu_fails.desc).map (fun d => d.parameters.length) = some 2 := by decide +kernel
abbrev rmDu_fails : Room := { frames := 2, cells := 0, slots := 0, locals := 44 }
theorem mDu_close : yDu_close.cls ≠ "java/lang/invoke/MethodHandle" ∧ yDu_close.cls ≠ "java/lang/invoke/VarHandle" ∧ (parseMethodDescriptor yDu_close.desc).map (fun d => d.parameters.length) = some 1 := by decide +kernel
abbrev rmDu_close : Room := { frames := 1, cells := 0, slots := 0, locals := 20 }
theorem mDu_isDay : yDu_isDay.cls ≠ "java/lang/invoke/MethodHandle" ∧ yDu_isDay.cls ≠ "java/lang/invoke/VarHandle" ∧ (parseMethodDescriptor yDu_isDay.desc).map (fun d => d.parameters.length) = some 1 := by decide +kernel
abbrev rmDu_isDay : Room := { frames := 0, cells := 0, slots := 0, locals := 0 }
theorem mDu_part : yDu_part.cls ≠ "java/lang/invoke/MethodHandle" ∧ yDu_part.cls ≠ "java/lang/invoke/VarHandle" ∧ (parseMethodDescriptor yDu_part.desc).map (fun d => d.parameters.length) = some 3 := by decide +kernel
abbrev rmDu_part : Room := { frames := 1, cells := 0, slots := 0, locals := 23 }
theorem mDu_isKind : yDu_isKind.cls ≠ "java/lang/invoke/MethodHandle" ∧ yDu_isKind.cls ≠ "java/lang/invoke/VarHandle" ∧ (parseMethodDescriptor yDu_isKind.desc).map (fun d => d.parameters.length) = some 1 := by decide +kernel
abbrev rmDu_isKind : Room := { frames := 0, cells := 0, slots := 0, locals := 0 }
theorem mDu_isReceiver : yDu_isReceiver.cls ≠ "java/lang/invoke/MethodHandle" ∧ yDu_isReceiver.cls ≠ "java/lang/invoke/VarHandle" ∧ (parseMethodDescriptor yDu_isReceiver.desc).map (fun d => d.parameters.length) = some 1 := by decide +kernel
abbrev rmDu_isReceiver : Room := { frames := 0, cells := 0, slots := 0, locals := 0 }
theorem mSh_setPart : ySh_setPart.cls ≠ "java/lang/invoke/MethodHandle" ∧ ySh_setPart.cls ≠ "java/lang/invoke/VarHandle" ∧ (parseMethodDescriptor ySh_setPart.desc).map (fun d => d.parameters.length) = some 3 := by decide +kernel
abbrev rmSh_setPart : Room := { frames := 0, cells := 0, slots := 0, locals := 0 }
theorem mDu_cost : yDu_cost.cls ≠ "java/lang/invoke/MethodHandle" ∧ yDu_cost.cls ≠ "java/lang/invoke/VarHandle" ∧ (parseMethodDescriptor yDu_cost.desc).map (fun d => d.parameters.length) = some 2 := by decide +kernel
abbrev rmDu_cost : Room := { frames := 1, cells := 0, slots := 0, locals := 22 }
theorem mSh_setCost : ySh_setCost.cls ≠ "java/lang/invoke/MethodHandle" ∧ ySh_setCost.cls ≠ "java/lang/invoke/VarHandle" ∧ (parseMethodDescriptor ySh_setCost.desc).map (fun d => d.parameters.length) = some 2 := by decide +kernel
abbrev rmSh_setCost : Room := { frames := 0, cells := 0, slots := 0, locals := 0 }
theorem mDu_count : yDu_count.cls ≠ "java/lang/invoke/MethodHandle" ∧ yDu_count.cls ≠ "java/lang/invoke/VarHandle" ∧ (parseMethodDescriptor yDu_count.desc).map (fun d => d.parameters.length) = some 1 := by decide +kernel
abbrev rmDu_count : Room := { frames := 0, cells := 0, slots := 0, locals := 0 }
theorem mLa_account : yLa_account.cls ≠ "java/lang/invoke/MethodHandle" ∧ yLa_account.cls ≠ "java/lang/invoke/VarHandle" ∧ (parseMethodDescriptor yLa_account.desc).map (fun d => d.parameters.length) = some 3 := by decide +kernel
abbrev rmLa_account : Room := { frames := 7, cells := 1, slots := 6, locals := 103 }
theorem mDu_account : yDu_account.cls ≠ "java/lang/invoke/MethodHandle" ∧ yDu_account.cls ≠ "java/lang/invoke/VarHandle" ∧ (parseMethodDescriptor yDu_account.desc).map (fun d => d.parameters.length) = some 1 := by decide +kernel
abbrev rmDu_account : Room := { frames := 6, cells := 1, slots := 6, locals := 82 }
theorem mLa_batch : yLa_batch.cls ≠ "java/lang/invoke/MethodHandle" ∧ yLa_batch.cls ≠ "java/lang/invoke/VarHandle" ∧ (parseMethodDescriptor yLa_batch.desc).map (fun d => d.parameters.length) = some 4 := by decide +kernel
abbrev rmLa_batch : Room := { frames := 7, cells := 3, slots := 49, locals := 104 }
theorem mDu_batch : yDu_batch.cls ≠ "java/lang/invoke/MethodHandle" ∧ yDu_batch.cls ≠ "java/lang/invoke/VarHandle" ∧ (parseMethodDescriptor yDu_batch.desc).map (fun d => d.parameters.length) = some 2 := by decide +kernel
abbrev rmDu_batch : Room := { frames := 6, cells := 3, slots := 49, locals := 82 }
theorem mBa_init : yBa_init.cls ≠ "java/lang/invoke/MethodHandle" ∧ yBa_init.cls ≠ "java/lang/invoke/VarHandle" ∧ (parseMethodDescriptor yBa_init.desc).map (fun d => d.parameters.length) = some 3 := by decide +kernel
abbrev rmBa_init : Room := { frames := 1, cells := 2, slots := 40, locals := 14 }
theorem mDu_keep : yDu_keep.cls ≠ "java/lang/invoke/MethodHandle" ∧ yDu_keep.cls ≠ "java/lang/invoke/VarHandle" ∧ (parseMethodDescriptor yDu_keep.desc).map (fun d => d.parameters.length) = some 1 := by decide +kernel
abbrev rmDu_keep : Room := { frames := 0, cells := 0, slots := 0, locals := 0 }
theorem mLa_post : yLa_post.cls ≠ "java/lang/invoke/MethodHandle" ∧ yLa_post.cls ≠ "java/lang/invoke/VarHandle" ∧ (parseMethodDescriptor yLa_post.desc).map (fun d => d.parameters.length) = some 3 := by decide +kernel
abbrev rmLa_post : Room := { frames := 7, cells := 1, slots := 6, locals := 105 }
theorem mDu_post : yDu_post.cls ≠ "java/lang/invoke/MethodHandle" ∧ yDu_post.cls ≠ "java/lang/invoke/VarHandle" ∧ (parseMethodDescriptor yDu_post.desc).map (fun d => d.parameters.length) = some 1 := by decide +kernel
abbrev rmDu_post : Room := { frames := 6, cells := 1, slots := 6, locals := 82 }
theorem mDu_whatIsWrongWith : yDu_whatIsWrongWith.cls ≠ "java/lang/invoke/MethodHandle" ∧ yDu_whatIsWrongWith.cls ≠ "java/lang/invoke/VarHandle" ∧ (parseMethodDescriptor yDu_whatIsWrongWith.desc).map (fun d => d.parameters.length) = some 1 := by decide +kernel
abbrev rmDu_whatIsWrongWith : Room := { frames := 1, cells := 0, slots := 0, locals := 23 }
theorem mBa_sum : yBa_sum.cls ≠ "java/lang/invoke/MethodHandle" ∧ yBa_sum.cls ≠ "java/lang/invoke/VarHandle" ∧ (parseMethodDescriptor yBa_sum.desc).map (fun d => d.parameters.length) = some 0 := by decide +kernel
abbrev rmBa_sum : Room := { frames := 0, cells := 0, slots := 0, locals := 0 }
theorem mBk_hasRoomFor : yBk_hasRoomFor.cls ≠ "java/lang/invoke/MethodHandle" ∧ yBk_hasRoomFor.cls ≠ "java/lang/invoke/VarHandle" ∧ (parseMethodDescriptor yBk_hasRoomFor.desc).map (fun d => d.parameters.length) = some 1 := by decide +kernel
abbrev rmBk_hasRoomFor : Room := { frames := 0, cells := 0, slots := 0, locals := 0 }
theorem mDu_makeVoid : yDu_makeVoid.cls ≠ "java/lang/invoke/MethodHandle" ∧ yDu_makeVoid.cls ≠ "java/lang/invoke/VarHandle" ∧ (parseMethodDescriptor yDu_makeVoid.desc).map (fun d => d.parameters.length) = some 2 := by decide +kernel
abbrev rmDu_makeVoid : Room := { frames := 2, cells := 0, slots := 0, locals := 51 }
theorem mDu_accountFarthestFromZero : yDu_accountFarthestFromZero.cls ≠ "java/lang/invoke/MethodHandle" ∧ yDu_accountFarthestFromZero.cls ≠ "java/lang/invoke/VarHandle" ∧ (parseMethodDescriptor yDu_accountFarthestFromZero.desc).map (fun d => d.parameters.length) = some 1 := by decide +kernel
abbrev rmDu_accountFarthestFromZero : Room := { frames := 1, cells := 0, slots := 0, locals := 24 }
theorem mBa_sumOf : yBa_sumOf.cls ≠ "java/lang/invoke/MethodHandle" ∧ yBa_sumOf.cls ≠ "java/lang/invoke/VarHandle" ∧ (parseMethodDescriptor yBa_sumOf.desc).map (fun d => d.parameters.length) = some 1 := by decide +kernel
abbrev rmBa_sumOf : Room := { frames := 0, cells := 0, slots := 0, locals := 0 }
theorem mDu_failHalfway : yDu_failHalfway.cls ≠ "java/lang/invoke/MethodHandle" ∧ yDu_failHalfway.cls ≠ "java/lang/invoke/VarHandle" ∧ (parseMethodDescriptor yDu_failHalfway.desc).map (fun d => d.parameters.length) = some 2 := by decide +kernel
abbrev rmDu_failHalfway : Room := { frames := 1, cells := 0, slots := 0, locals := 24 }
theorem mBk_bringIn : yBk_bringIn.cls ≠ "java/lang/invoke/MethodHandle" ∧ yBk_bringIn.cls ≠ "java/lang/invoke/VarHandle" ∧ (parseMethodDescriptor yBk_bringIn.desc).map (fun d => d.parameters.length) = some 3 := by decide +kernel
abbrev rmBk_bringIn : Room := { frames := 0, cells := 0, slots := 0, locals := 0 }
theorem mBk_takeHeldOut : yBk_takeHeldOut.cls ≠ "java/lang/invoke/MethodHandle" ∧ yBk_takeHeldOut.cls ≠ "java/lang/invoke/VarHandle" ∧ (parseMethodDescriptor yBk_takeHeldOut.desc).map (fun d => d.parameters.length) = some 0 := by decide +kernel
abbrev rmBk_takeHeldOut : Room := { frames := 0, cells := 0, slots := 0, locals := 0 }
theorem mDu_enter : yDu_enter.cls ≠ "java/lang/invoke/MethodHandle" ∧ yDu_enter.cls ≠ "java/lang/invoke/VarHandle" ∧ (parseMethodDescriptor yDu_enter.desc).map (fun d => d.parameters.length) = some 2 := by decide +kernel
abbrev rmDu_enter : Room := { frames := 1, cells := 0, slots := 0, locals := 24 }
theorem mBk_settleHeld : yBk_settleHeld.cls ≠ "java/lang/invoke/MethodHandle" ∧ yBk_settleHeld.cls ≠ "java/lang/invoke/VarHandle" ∧ (parseMethodDescriptor yBk_settleHeld.desc).map (fun d => d.parameters.length) = some 0 := by decide +kernel
abbrev rmBk_settleHeld : Room := { frames := 0, cells := 0, slots := 0, locals := 0 }
theorem mLa_reverse : yLa_reverse.cls ≠ "java/lang/invoke/MethodHandle" ∧ yLa_reverse.cls ≠ "java/lang/invoke/VarHandle" ∧ (parseMethodDescriptor yLa_reverse.desc).map (fun d => d.parameters.length) = some 4 := by decide +kernel
abbrev rmLa_reverse : Room := { frames := 7, cells := 4, slots := 55, locals := 107 }
theorem mDu_reverse : yDu_reverse.cls ≠ "java/lang/invoke/MethodHandle" ∧ yDu_reverse.cls ≠ "java/lang/invoke/VarHandle" ∧ (parseMethodDescriptor yDu_reverse.desc).map (fun d => d.parameters.length) = some 2 := by decide +kernel
abbrev rmDu_reverse : Room := { frames := 6, cells := 4, slots := 55, locals := 82 }
theorem mDu_reversalOf : yDu_reversalOf.cls ≠ "java/lang/invoke/MethodHandle" ∧ yDu_reversalOf.cls ≠ "java/lang/invoke/VarHandle" ∧ (parseMethodDescriptor yDu_reversalOf.desc).map (fun d => d.parameters.length) = some 3 := by decide +kernel
abbrev rmDu_reversalOf : Room := { frames := 2, cells := 3, slots := 49, locals := 37 }
theorem mLa_balance : yLa_balance.cls ≠ "java/lang/invoke/MethodHandle" ∧ yLa_balance.cls ≠ "java/lang/invoke/VarHandle" ∧ (parseMethodDescriptor yLa_balance.desc).map (fun d => d.parameters.length) = some 5 := by decide +kernel
abbrev rmLa_balance : Room := { frames := 7, cells := 1, slots := 6, locals := 105 }
theorem mDu_balance : yDu_balance.cls ≠ "java/lang/invoke/MethodHandle" ∧ yDu_balance.cls ≠ "java/lang/invoke/VarHandle" ∧ (parseMethodDescriptor yDu_balance.desc).map (fun d => d.parameters.length) = some 3 := by decide +kernel
abbrev rmDu_balance : Room := { frames := 6, cells := 1, slots := 6, locals := 82 }
theorem mBk_sum : yBk_sum.cls ≠ "java/lang/invoke/MethodHandle" ∧ yBk_sum.cls ≠ "java/lang/invoke/VarHandle" ∧ (parseMethodDescriptor yBk_sum.desc).map (fun d => d.parameters.length) = some 4 := by decide +kernel
abbrev rmBk_sum : Room := { frames := 0, cells := 0, slots := 0, locals := 0 }
theorem mLa_statement : yLa_statement.cls ≠ "java/lang/invoke/MethodHandle" ∧ yLa_statement.cls ≠ "java/lang/invoke/VarHandle" ∧ (parseMethodDescriptor yLa_statement.desc).map (fun d => d.parameters.length) = some 5 := by decide +kernel
abbrev rmLa_statement : Room := { frames := 7, cells := 1, slots := 6, locals := 106 }
theorem mDu_statement : yDu_statement.cls ≠ "java/lang/invoke/MethodHandle" ∧ yDu_statement.cls ≠ "java/lang/invoke/VarHandle" ∧ (parseMethodDescriptor yDu_statement.desc).map (fun d => d.parameters.length) = some 3 := by decide +kernel
abbrev rmDu_statement : Room := { frames := 6, cells := 1, slots := 6, locals := 82 }
theorem mDu_isMonth : yDu_isMonth.cls ≠ "java/lang/invoke/MethodHandle" ∧ yDu_isMonth.cls ≠ "java/lang/invoke/VarHandle" ∧ (parseMethodDescriptor yDu_isMonth.desc).map (fun d => d.parameters.length) = some 1 := by decide +kernel
abbrev rmDu_isMonth : Room := { frames := 0, cells := 0, slots := 0, locals := 0 }
theorem mLa_passed : yLa_passed.cls ≠ "java/lang/invoke/MethodHandle" ∧ yLa_passed.cls ≠ "java/lang/invoke/VarHandle" ∧ (parseMethodDescriptor yLa_passed.desc).map (fun d => d.parameters.length) = some 5 := by decide +kernel
abbrev rmLa_passed : Room := { frames := 7, cells := 1, slots := 6, locals := 157 }
theorem mDu_passed : yDu_passed.cls ≠ "java/lang/invoke/MethodHandle" ∧ yDu_passed.cls ≠ "java/lang/invoke/VarHandle" ∧ (parseMethodDescriptor yDu_passed.desc).map (fun d => d.parameters.length) = some 3 := by decide +kernel
abbrev rmDu_passed : Room := { frames := 6, cells := 1, slots := 6, locals := 130 }
theorem mDu_collectedOf : yDu_collectedOf.cls ≠ "java/lang/invoke/MethodHandle" ∧ yDu_collectedOf.cls ≠ "java/lang/invoke/VarHandle" ∧ (parseMethodDescriptor yDu_collectedOf.desc).map (fun d => d.parameters.length) = some 2 := by decide +kernel
abbrev rmDu_collectedOf : Room := { frames := 1, cells := 0, slots := 0, locals := 27 }
theorem mSh_costOf : ySh_costOf.cls ≠ "java/lang/invoke/MethodHandle" ∧ ySh_costOf.cls ≠ "java/lang/invoke/VarHandle" ∧ (parseMethodDescriptor ySh_costOf.desc).map (fun d => d.parameters.length) = some 2 := by decide +kernel
abbrev rmSh_costOf : Room := { frames := 0, cells := 0, slots := 0, locals := 0 }
theorem mSh_allShares : ySh_allShares.cls ≠ "java/lang/invoke/MethodHandle" ∧ ySh_allShares.cls ≠ "java/lang/invoke/VarHandle" ∧ (parseMethodDescriptor ySh_allShares.desc).map (fun d => d.parameters.length) = some 2 := by decide +kernel
abbrev rmSh_allShares : Room := { frames := 4, cells := 0, slots := 0, locals := 104 }
theorem mSh_shareOf : ySh_shareOf.cls ≠ "java/lang/invoke/MethodHandle" ∧ ySh_shareOf.cls ≠ "java/lang/invoke/VarHandle" ∧ (parseMethodDescriptor ySh_shareOf.desc).map (fun d => d.parameters.length) = some 3 := by decide +kernel
abbrev rmSh_shareOf : Room := { frames := 3, cells := 0, slots := 0, locals := 78 }
theorem mSh_allParts : ySh_allParts.cls ≠ "java/lang/invoke/MethodHandle" ∧ ySh_allParts.cls ≠ "java/lang/invoke/VarHandle" ∧ (parseMethodDescriptor ySh_allParts.desc).map (fun d => d.parameters.length) = some 1 := by decide +kernel
abbrev rmSh_allParts : Room := { frames := 0, cells := 0, slots := 0, locals := 0 }
theorem mSh_wholeShare : ySh_wholeShare.cls ≠ "java/lang/invoke/MethodHandle" ∧ ySh_wholeShare.cls ≠ "java/lang/invoke/VarHandle" ∧ (parseMethodDescriptor ySh_wholeShare.desc).map (fun d => d.parameters.length) = some 3 := by decide +kernel
abbrev rmSh_wholeShare : Room := { frames := 1, cells := 0, slots := 0, locals := 23 }
theorem mSh_placeByRemainder : ySh_placeByRemainder.cls ≠ "java/lang/invoke/MethodHandle" ∧ ySh_placeByRemainder.cls ≠ "java/lang/invoke/VarHandle" ∧ (parseMethodDescriptor ySh_placeByRemainder.desc).map (fun d => d.parameters.length) = some 3 := by decide +kernel
abbrev rmSh_placeByRemainder : Room := { frames := 2, cells := 0, slots := 0, locals := 48 }
theorem mSh_remainder : ySh_remainder.cls ≠ "java/lang/invoke/MethodHandle" ∧ ySh_remainder.cls ≠ "java/lang/invoke/VarHandle" ∧ (parseMethodDescriptor ySh_remainder.desc).map (fun d => d.parameters.length) = some 3 := by decide +kernel
abbrev rmSh_remainder : Room := { frames := 1, cells := 0, slots := 0, locals := 23 }
theorem mSh_centsLeft : ySh_centsLeft.cls ≠ "java/lang/invoke/MethodHandle" ∧ ySh_centsLeft.cls ≠ "java/lang/invoke/VarHandle" ∧ (parseMethodDescriptor ySh_centsLeft.desc).map (fun d => d.parameters.length) = some 2 := by decide +kernel
abbrev rmSh_centsLeft : Room := { frames := 2, cells := 0, slots := 0, locals := 48 }
theorem mLa_reconcile : yLa_reconcile.cls ≠ "java/lang/invoke/MethodHandle" ∧ yLa_reconcile.cls ≠ "java/lang/invoke/VarHandle" ∧ (parseMethodDescriptor yLa_reconcile.desc).map (fun d => d.parameters.length) = some 6 := by decide +kernel
abbrev rmLa_reconcile : Room := { frames := 7, cells := 1, slots := 6, locals := 106 }
theorem mDu_reconcile : yDu_reconcile.cls ≠ "java/lang/invoke/MethodHandle" ∧ yDu_reconcile.cls ≠ "java/lang/invoke/VarHandle" ∧ (parseMethodDescriptor yDu_reconcile.desc).map (fun d => d.parameters.length) = some 4 := by decide +kernel
abbrev rmDu_reconcile : Room := { frames := 6, cells := 1, slots := 6, locals := 82 }
theorem mLa_read : yLa_read.cls ≠ "java/lang/invoke/MethodHandle" ∧ yLa_read.cls ≠ "java/lang/invoke/VarHandle" ∧ (parseMethodDescriptor yLa_read.desc).map (fun d => d.parameters.length) = some 4 := by decide +kernel
abbrev rmLa_read : Room := { frames := 7, cells := 1, slots := 6, locals := 104 }
theorem mDu_read : yDu_read.cls ≠ "java/lang/invoke/MethodHandle" ∧ yDu_read.cls ≠ "java/lang/invoke/VarHandle" ∧ (parseMethodDescriptor yDu_read.desc).map (fun d => d.parameters.length) = some 2 := by decide +kernel
abbrev rmDu_read : Room := { frames := 6, cells := 1, slots := 6, locals := 82 }
theorem mLa_look : yLa_look.cls ≠ "java/lang/invoke/MethodHandle" ∧ yLa_look.cls ≠ "java/lang/invoke/VarHandle" ∧ (parseMethodDescriptor yLa_look.desc).map (fun d => d.parameters.length) = some 4 := by decide +kernel
abbrev rmLa_look : Room := { frames := 7, cells := 1, slots := 6, locals := 105 }
theorem mDu_look : yDu_look.cls ≠ "java/lang/invoke/MethodHandle" ∧ yDu_look.cls ≠ "java/lang/invoke/VarHandle" ∧ (parseMethodDescriptor yDu_look.desc).map (fun d => d.parameters.length) = some 2 := by decide +kernel
abbrev rmDu_look : Room := { frames := 6, cells := 1, slots := 6, locals := 82 }
theorem mMo_init : yMo_init.cls ≠ "java/lang/invoke/MethodHandle" ∧ yMo_init.cls ≠ "java/lang/invoke/VarHandle" ∧ (parseMethodDescriptor yMo_init.desc).map (fun d => d.parameters.length) = some 0 := by decide +kernel
abbrev rmMo_init : Room := { frames := 1, cells := 13, slots := 5542, locals := 14 }
theorem mMo_thrown : yMo_thrown.cls ≠ "java/lang/invoke/MethodHandle" ∧ yMo_thrown.cls ≠ "java/lang/invoke/VarHandle" ∧ (parseMethodDescriptor yMo_thrown.desc).map (fun d => d.parameters.length) = some 0 := by decide +kernel
abbrev rmMo_thrown : Room := { frames := 0, cells := 0, slots := 0, locals := 0 }
theorem mMo_account : yMo_account.cls ≠ "java/lang/invoke/MethodHandle" ∧ yMo_account.cls ≠ "java/lang/invoke/VarHandle" ∧ (parseMethodDescriptor yMo_account.desc).map (fun d => d.parameters.length) = some 1 := by decide +kernel
abbrev rmMo_account : Room := { frames := 2, cells := 0, slots := 0, locals := 45 }
theorem mMo_isKind : yMo_isKind.cls ≠ "java/lang/invoke/MethodHandle" ∧ yMo_isKind.cls ≠ "java/lang/invoke/VarHandle" ∧ (parseMethodDescriptor yMo_isKind.desc).map (fun d => d.parameters.length) = some 1 := by decide +kernel
abbrev rmMo_isKind : Room := { frames := 1, cells := 0, slots := 0, locals := 25 }
theorem mMo_in : yMo_in.cls ≠ "java/lang/invoke/MethodHandle" ∧ yMo_in.cls ≠ "java/lang/invoke/VarHandle" ∧ (parseMethodDescriptor yMo_in.desc).map (fun d => d.parameters.length) = some 3 := by decide +kernel
abbrev rmMo_in : Room := { frames := 0, cells := 0, slots := 0, locals := 0 }
theorem mMo_batch : yMo_batch.cls ≠ "java/lang/invoke/MethodHandle" ∧ yMo_batch.cls ≠ "java/lang/invoke/VarHandle" ∧ (parseMethodDescriptor yMo_batch.desc).map (fun d => d.parameters.length) = some 2 := by decide +kernel
abbrev rmMo_batch : Room := { frames := 2, cells := 0, slots := 0, locals := 45 }
theorem mMo_isDay : yMo_isDay.cls ≠ "java/lang/invoke/MethodHandle" ∧ yMo_isDay.cls ≠ "java/lang/invoke/VarHandle" ∧ (parseMethodDescriptor yMo_isDay.desc).map (fun d => d.parameters.length) = some 1 := by decide +kernel
abbrev rmMo_isDay : Room := { frames := 1, cells := 0, slots := 0, locals := 25 }
theorem mMo_begin : yMo_begin.cls ≠ "java/lang/invoke/MethodHandle" ∧ yMo_begin.cls ≠ "java/lang/invoke/VarHandle" ∧ (parseMethodDescriptor yMo_begin.desc).map (fun d => d.parameters.length) = some 3 := by decide +kernel
abbrev rmMo_begin : Room := { frames := 0, cells := 0, slots := 0, locals := 0 }
theorem mMo_row : yMo_row.cls ≠ "java/lang/invoke/MethodHandle" ∧ yMo_row.cls ≠ "java/lang/invoke/VarHandle" ∧ (parseMethodDescriptor yMo_row.desc).map (fun d => d.parameters.length) = some 3 := by decide +kernel
abbrev rmMo_row : Room := { frames := 1, cells := 0, slots := 0, locals := 25 }
theorem mMo_isOpen : yMo_isOpen.cls ≠ "java/lang/invoke/MethodHandle" ∧ yMo_isOpen.cls ≠ "java/lang/invoke/VarHandle" ∧ (parseMethodDescriptor yMo_isOpen.desc).map (fun d => d.parameters.length) = some 1 := by decide +kernel
abbrev rmMo_isOpen : Room := { frames := 0, cells := 0, slots := 0, locals := 0 }
theorem mMo_isAccount : yMo_isAccount.cls ≠ "java/lang/invoke/MethodHandle" ∧ yMo_isAccount.cls ≠ "java/lang/invoke/VarHandle" ∧ (parseMethodDescriptor yMo_isAccount.desc).map (fun d => d.parameters.length) = some 1 := by decide +kernel
abbrev rmMo_isAccount : Room := { frames := 0, cells := 0, slots := 0, locals := 0 }
theorem mMo_fails : yMo_fails.cls ≠ "java/lang/invoke/MethodHandle" ∧ yMo_fails.cls ≠ "java/lang/invoke/VarHandle" ∧ (parseMethodDescriptor yMo_fails.desc).map (fun d => d.parameters.length) = some 2 := by decide +kernel
abbrev rmMo_fails : Room := { frames := 1, cells := 0, slots := 0, locals := 21 }
theorem mMo_post : yMo_post.cls ≠ "java/lang/invoke/MethodHandle" ∧ yMo_post.cls ≠ "java/lang/invoke/VarHandle" ∧ (parseMethodDescriptor yMo_post.desc).map (fun d => d.parameters.length) = some 1 := by decide +kernel
abbrev rmMo_post : Room := { frames := 2, cells := 0, slots := 0, locals := 52 }
theorem mMo_wrongWith : yMo_wrongWith.cls ≠ "java/lang/invoke/MethodHandle" ∧ yMo_wrongWith.cls ≠ "java/lang/invoke/VarHandle" ∧ (parseMethodDescriptor yMo_wrongWith.desc).map (fun d => d.parameters.length) = some 1 := by decide +kernel
abbrev rmMo_wrongWith : Room := { frames := 1, cells := 0, slots := 0, locals := 25 }
theorem mMo_sumIn : yMo_sumIn.cls ≠ "java/lang/invoke/MethodHandle" ∧ yMo_sumIn.cls ≠ "java/lang/invoke/VarHandle" ∧ (parseMethodDescriptor yMo_sumIn.desc).map (fun d => d.parameters.length) = some 2 := by decide +kernel
abbrev rmMo_sumIn : Room := { frames := 0, cells := 0, slots := 0, locals := 0 }
theorem mMo_greatestIn : yMo_greatestIn.cls ≠ "java/lang/invoke/MethodHandle" ∧ yMo_greatestIn.cls ≠ "java/lang/invoke/VarHandle" ∧ (parseMethodDescriptor yMo_greatestIn.desc).map (fun d => d.parameters.length) = some 1 := by decide +kernel
abbrev rmMo_greatestIn : Room := { frames := 1, cells := 0, slots := 0, locals := 25 }
theorem mMo_enter : yMo_enter.cls ≠ "java/lang/invoke/MethodHandle" ∧ yMo_enter.cls ≠ "java/lang/invoke/VarHandle" ∧ (parseMethodDescriptor yMo_enter.desc).map (fun d => d.parameters.length) = some 1 := by decide +kernel
abbrev rmMo_enter : Room := { frames := 0, cells := 0, slots := 0, locals := 0 }
theorem mMo_reverse : yMo_reverse.cls ≠ "java/lang/invoke/MethodHandle" ∧ yMo_reverse.cls ≠ "java/lang/invoke/VarHandle" ∧ (parseMethodDescriptor yMo_reverse.desc).map (fun d => d.parameters.length) = some 2 := by decide +kernel
abbrev rmMo_reverse : Room := { frames := 2, cells := 0, slots := 0, locals := 46 }
theorem mMo_close : yMo_close.cls ≠ "java/lang/invoke/MethodHandle" ∧ yMo_close.cls ≠ "java/lang/invoke/VarHandle" ∧ (parseMethodDescriptor yMo_close.desc).map (fun d => d.parameters.length) = some 1 := by decide +kernel
abbrev rmMo_close : Room := { frames := 2, cells := 0, slots := 0, locals := 45 }
theorem mMo_balance : yMo_balance.cls ≠ "java/lang/invoke/MethodHandle" ∧ yMo_balance.cls ≠ "java/lang/invoke/VarHandle" ∧ (parseMethodDescriptor yMo_balance.desc).map (fun d => d.parameters.length) = some 3 := by decide +kernel
abbrev rmMo_balance : Room := { frames := 2, cells := 0, slots := 0, locals := 54 }
theorem mMo_sum : yMo_sum.cls ≠ "java/lang/invoke/MethodHandle" ∧ yMo_sum.cls ≠ "java/lang/invoke/VarHandle" ∧ (parseMethodDescriptor yMo_sum.desc).map (fun d => d.parameters.length) = some 4 := by decide +kernel
abbrev rmMo_sum : Room := { frames := 1, cells := 0, slots := 0, locals := 25 }
theorem mMo_statement : yMo_statement.cls ≠ "java/lang/invoke/MethodHandle" ∧ yMo_statement.cls ≠ "java/lang/invoke/VarHandle" ∧ (parseMethodDescriptor yMo_statement.desc).map (fun d => d.parameters.length) = some 3 := by decide +kernel
abbrev rmMo_statement : Room := { frames := 2, cells := 0, slots := 0, locals := 54 }
theorem mMo_part : yMo_part.cls ≠ "java/lang/invoke/MethodHandle" ∧ yMo_part.cls ≠ "java/lang/invoke/VarHandle" ∧ (parseMethodDescriptor yMo_part.desc).map (fun d => d.parameters.length) = some 3 := by decide +kernel
abbrev rmMo_part : Room := { frames := 2, cells := 0, slots := 0, locals := 45 }
theorem mMo_cost : yMo_cost.cls ≠ "java/lang/invoke/MethodHandle" ∧ yMo_cost.cls ≠ "java/lang/invoke/VarHandle" ∧ (parseMethodDescriptor yMo_cost.desc).map (fun d => d.parameters.length) = some 2 := by decide +kernel
abbrev rmMo_cost : Room := { frames := 2, cells := 0, slots := 0, locals := 45 }
theorem mMo_passed : yMo_passed.cls ≠ "java/lang/invoke/MethodHandle" ∧ yMo_passed.cls ≠ "java/lang/invoke/VarHandle" ∧ (parseMethodDescriptor yMo_passed.desc).map (fun d => d.parameters.length) = some 3 := by decide +kernel
abbrev rmMo_passed : Room := { frames := 3, cells := 0, slots := 0, locals := 79 }
theorem mMo_sumOf : yMo_sumOf.cls ≠ "java/lang/invoke/MethodHandle" ∧ yMo_sumOf.cls ≠ "java/lang/invoke/VarHandle" ∧ (parseMethodDescriptor yMo_sumOf.desc).map (fun d => d.parameters.length) = some 2 := by decide +kernel
abbrev rmMo_sumOf : Room := { frames := 2, cells := 0, slots := 0, locals := 54 }
theorem mMo_share : yMo_share.cls ≠ "java/lang/invoke/MethodHandle" ∧ yMo_share.cls ≠ "java/lang/invoke/VarHandle" ∧ (parseMethodDescriptor yMo_share.desc).map (fun d => d.parameters.length) = some 3 := by decide +kernel
abbrev rmMo_share : Room := { frames := 1, cells := 0, slots := 0, locals := 21 }
theorem mMo_partsOf : yMo_partsOf.cls ≠ "java/lang/invoke/MethodHandle" ∧ yMo_partsOf.cls ≠ "java/lang/invoke/VarHandle" ∧ (parseMethodDescriptor yMo_partsOf.desc).map (fun d => d.parameters.length) = some 1 := by decide +kernel
abbrev rmMo_partsOf : Room := { frames := 0, cells := 0, slots := 0, locals := 0 }
theorem mMo_reconcile : yMo_reconcile.cls ≠ "java/lang/invoke/MethodHandle" ∧ yMo_reconcile.cls ≠ "java/lang/invoke/VarHandle" ∧ (parseMethodDescriptor yMo_reconcile.desc).map (fun d => d.parameters.length) = some 4 := by decide +kernel
abbrev rmMo_reconcile : Room := { frames := 2, cells := 0, slots := 0, locals := 54 }
theorem mMo_read : yMo_read.cls ≠ "java/lang/invoke/MethodHandle" ∧ yMo_read.cls ≠ "java/lang/invoke/VarHandle" ∧ (parseMethodDescriptor yMo_read.desc).map (fun d => d.parameters.length) = some 2 := by decide +kernel
abbrev rmMo_read : Room := { frames := 0, cells := 0, slots := 0, locals := 0 }
theorem mMo_look : yMo_look.cls ≠ "java/lang/invoke/MethodHandle" ∧ yMo_look.cls ≠ "java/lang/invoke/VarHandle" ∧ (parseMethodDescriptor yMo_look.desc).map (fun d => d.parameters.length) = some 2 := by decide +kernel
abbrev rmMo_look : Room := { frames := 0, cells := 0, slots := 0, locals := 0 }
theorem mMo_count : yMo_count.cls ≠ "java/lang/invoke/MethodHandle" ∧ yMo_count.cls ≠ "java/lang/invoke/VarHandle" ∧ (parseMethodDescriptor yMo_count.desc).map (fun d => d.parameters.length) = some 1 := by decide +kernel
abbrev rmMo_count : Room := { frames := 0, cells := 0, slots := 0, locals := 0 }
