theorem L_yard {ad : Nat → Nat} {ta sa ca : Int → Nat} {md : Nat → Nat} {D : va_G} {cI cT cS cZ : ClassId} {G : Heap → List Loc → JFrame → Prop} {H0 : Heap} {m : MethodId} {b : Nat} {L : Int} {xs : Int → Int} (hE : KE (wpair (xw ad ta sa ca D cI cT cS) (mw md D cI cZ)) G H0 m cL_law RL 4 room_1) (hS : KS (wpair (xw ad ta sa ca D cI cT cS) (mw md D cI cZ)) G H0 m 4 cL_law b L xs) {i : Int} (h0 : 0 ≤ i) (h1 : i + 6 ≤ L) (hx : ∀ j : Int, 0 ≤ j → j < L → -2147483648 ≤ xs j ∧ xs j < 2147483648) {X M : Sg} (hR : RLx X M) (k : ∀ X2 M2 : Sg, RLx X2 M2 → KW (wpair (xw ad ta sa ca D cI cT cS) (mw md D cI cZ)) G H0 m 4 (X2, M2) 1212 [(0, .ref b), (1, .ref (ad 0)), (2, .ref (md 0)), (3, .int (iI i))] []) : KW (wpair (xw ad ta sa ca D cI cT cS) (mw md D cI cZ)) G H0 m 4 (X, M) 180 [(0, .ref b), (1, .ref (ad 0)), (2, .ref (md 0)), (3, .int (iI i))] [] := by
  refine k_aload_n hE dL_law_180 1 rfl rfl ?_
  refine k_aload_n hE dL_law_181 0 rfl rfl ?_
  refine k_iload_n hE dL_law_182 3 rfl rfl ?_
  refine k_iconst hE dL_law_183 ?_
  refine k_iadd hE dL_law_184 ?_
  refine hS.1 _ (i + 1) _ _ _ dL_law_185 (by omega) (by omega) ?_
  refine k_aload_n hE dL_law_186 0 rfl rfl ?_
  refine k_iload_n hE dL_law_187 3 rfl rfl ?_
  refine k_iconst hE dL_law_188 ?_
  refine k_iadd hE dL_law_189 ?_
  refine hS.1 _ (i + 2) _ _ _ dL_law_190 (by omega) (by omega) ?_
  refine k_aload_n hE dL_law_191 0 rfl rfl ?_
  refine k_iload_n hE dL_law_192 3 rfl rfl ?_
  refine k_iconst hE dL_law_193 ?_
  refine k_iadd hE dL_law_194 ?_
  refine hS.1 _ (i + 3) _ _ _ dL_law_195 (by omega) (by omega) ?_
  refine k_aload_n hE dL_law_196 0 rfl rfl ?_
  refine k_iload_n hE dL_law_197 3 rfl rfl ?_
  refine k_iconst hE dL_law_198 ?_
  refine k_iadd hE dL_law_199 ?_
  refine hS.1 _ (i + 4) _ _ _ dL_law_200 (by omega) (by omega) ?_
  refine k_callVL hE xw_ads mw_ads rfl (c_X6_yard X X (xs (i + 1)) (xs (i + 2)) (xs (i + 3)) (xs (i + 4)) (Ag.refl X) hR.1 hR.2.1 (hx (i + 1) (by omega) (by omega)) (hx (i + 2) (by omega) (by omega)) (hx (i + 3) (by omega) (by omega)) (hx (i + 4) (by omega) (by omega))) mf_X6_yard ml_L_13 0 rfl rfl rfl rfl ⟨rfl, rfl, Nat.le_of_ble_eq_true rfl, Nat.le_of_ble_eq_true rfl⟩ [] (Nat.le_of_ble_eq_true rfl) dL_law_201 rfl (fun rv0 u0 hp0 => ?_)
  obtain ⟨z0, S0, hv0, hu0, hz0⟩ := hp0
  refine k_sk (sk' := [.int (iI z0)]) (by rw [hv0]; rfl) ?_
  refine k_st (S0, M) (by rw [hu0]) ?_
  refine k_aload_n hE dL_law_204 2 rfl rfl ?_
  refine k_aload_n hE dL_law_205 0 rfl rfl ?_
  refine k_iload_n hE dL_law_206 3 rfl rfl ?_
  refine k_iconst hE dL_law_207 ?_
  refine k_iadd hE dL_law_208 ?_
  refine hS.1 _ (i + 1) _ _ _ dL_law_209 (by omega) (by omega) ?_
  refine k_aload_n hE dL_law_210 0 rfl rfl ?_
  refine k_iload_n hE dL_law_211 3 rfl rfl ?_
  refine k_iconst hE dL_law_212 ?_
  refine k_iadd hE dL_law_213 ?_
  refine hS.1 _ (i + 2) _ _ _ dL_law_214 (by omega) (by omega) ?_
  refine k_aload_n hE dL_law_215 0 rfl rfl ?_
  refine k_iload_n hE dL_law_216 3 rfl rfl ?_
  refine k_iconst hE dL_law_217 ?_
  refine k_iadd hE dL_law_218 ?_
  refine hS.1 _ (i + 3) _ _ _ dL_law_219 (by omega) (by omega) ?_
  refine k_aload_n hE dL_law_220 0 rfl rfl ?_
  refine k_iload_n hE dL_law_221 3 rfl rfl ?_
  refine k_iconst hE dL_law_222 ?_
  refine k_iadd hE dL_law_223 ?_
  refine hS.1 _ (i + 4) _ _ _ dL_law_224 (by omega) (by omega) ?_
  refine k_callVR hE xw_ads mw_ads rfl (c_X7_yard M (xs (i + 1)) (xs (i + 2)) (xs (i + 3)) (xs (i + 4)) hR.2.2.1 (hx (i + 1) (by omega) (by omega)) (hx (i + 2) (by omega) (by omega)) (hx (i + 3) (by omega) (by omega)) (hx (i + 4) (by omega) (by omega))) mf_X7_yard ml_L_17 0 rfl rfl rfl rfl ⟨rfl, rfl, Nat.le_of_ble_eq_true rfl, Nat.le_of_ble_eq_true rfl⟩ [.int (iI z0)] (Nat.le_of_ble_eq_true rfl) dL_law_225 rfl (fun rv1 u1 hp1 => ?_)
  obtain ⟨z1, S1, hv1, hu1, hz1⟩ := hp1
  have e1 := S_yard hR hz0 hz1
  refine k_sk (sk' := [.int (iI z0), .int (iI z0)]) (by rw [hv1, ← e1.1]; rfl) ?_
  refine k_st (S0, S1) (by rw [hu1]) ?_
  refine k_icmp_same hE 1212 dL_law_228 (by decide) ?_
  exact k _ _ e1.2
theorem L_ofTap {ad : Nat → Nat} {ta sa ca : Int → Nat} {md : Nat → Nat} {D : va_G} {cI cT cS cZ : ClassId} {G : Heap → List Loc → JFrame → Prop} {H0 : Heap} {m : MethodId} {b : Nat} {L : Int} {xs : Int → Int} (hE : KE (wpair (xw ad ta sa ca D cI cT cS) (mw md D cI cZ)) G H0 m cL_law RL 4 room_1) (hS : KS (wpair (xw ad ta sa ca D cI cT cS) (mw md D cI cZ)) G H0 m 4 cL_law b L xs) {i : Int} (h0 : 0 ≤ i) (h1 : i + 6 ≤ L) (hx : ∀ j : Int, 0 ≤ j → j < L → -2147483648 ≤ xs j ∧ xs j < 2147483648) {X M : Sg} (hR : RLx X M) (k : ∀ X2 M2 : Sg, RLx X2 M2 → KW (wpair (xw ad ta sa ca D cI cT cS) (mw md D cI cZ)) G H0 m 4 (X2, M2) 1212 [(0, .ref b), (1, .ref (ad 0)), (2, .ref (md 0)), (3, .int (iI i))] []) : KW (wpair (xw ad ta sa ca D cI cT cS) (mw md D cI cZ)) G H0 m 4 (X, M) 233 [(0, .ref b), (1, .ref (ad 0)), (2, .ref (md 0)), (3, .int (iI i))] [] := by
  refine k_aload_n hE dL_law_233 1 rfl rfl ?_
  refine k_aload_n hE dL_law_234 0 rfl rfl ?_
  refine k_iload_n hE dL_law_235 3 rfl rfl ?_
  refine k_iconst hE dL_law_236 ?_
  refine k_iadd hE dL_law_237 ?_
  refine hS.1 _ (i + 1) _ _ _ dL_law_238 (by omega) (by omega) ?_
  refine k_aload_n hE dL_law_239 0 rfl rfl ?_
  refine k_iload_n hE dL_law_240 3 rfl rfl ?_
  refine k_iconst hE dL_law_241 ?_
  refine k_iadd hE dL_law_242 ?_
  refine hS.1 _ (i + 2) _ _ _ dL_law_243 (by omega) (by omega) ?_
  refine k_callVL hE xw_ads mw_ads rfl (c_X6_ofTap X X (xs (i + 1)) (xs (i + 2)) (Ag.refl X) hR.1 (hx (i + 1) (by omega) (by omega)) (hx (i + 2) (by omega) (by omega))) mf_X6_ofTap ml_L_18 0 rfl rfl rfl rfl ⟨rfl, rfl, Nat.le_of_ble_eq_true rfl, Nat.le_of_ble_eq_true rfl⟩ [] (Nat.le_of_ble_eq_true rfl) dL_law_244 rfl (fun rv0 u0 hp0 => ?_)
  obtain ⟨hv0, hu0⟩ := hp0
  refine k_sk (sk' := [.int (iI (OT X (xs (i + 1)) (xs (i + 2))))]) (by rw [hv0]; rfl) ?_
  refine k_st (X, M) (by rw [hu0]) ?_
  refine k_aload_n hE dL_law_247 2 rfl rfl ?_
  refine k_aload_n hE dL_law_248 0 rfl rfl ?_
  refine k_iload_n hE dL_law_249 3 rfl rfl ?_
  refine k_iconst hE dL_law_250 ?_
  refine k_iadd hE dL_law_251 ?_
  refine hS.1 _ (i + 1) _ _ _ dL_law_252 (by omega) (by omega) ?_
  refine k_aload_n hE dL_law_253 0 rfl rfl ?_
  refine k_iload_n hE dL_law_254 3 rfl rfl ?_
  refine k_iconst hE dL_law_255 ?_
  refine k_iadd hE dL_law_256 ?_
  refine hS.1 _ (i + 2) _ _ _ dL_law_257 (by omega) (by omega) ?_
  refine k_callVR hE xw_ads mw_ads rfl (c_X7_ofTap M X (xs (i + 1)) (xs (i + 2)) hR.2.2.2.1 hR.1 (hx (i + 1) (by omega) (by omega)) (hx (i + 2) (by omega) (by omega))) mf_X7_ofTap ml_L_22 0 rfl rfl rfl rfl ⟨rfl, rfl, Nat.le_of_ble_eq_true rfl, Nat.le_of_ble_eq_true rfl⟩ [.int (iI (OT X (xs (i + 1)) (xs (i + 2))))] (Nat.le_of_ble_eq_true rfl) dL_law_258 rfl (fun rv1 u1 hp1 => ?_)
  obtain ⟨hv1, hu1⟩ := hp1
  refine k_sk (sk' := [.int (iI (OT X (xs (i + 1)) (xs (i + 2)))), .int (iI (OT X (xs (i + 1)) (xs (i + 2))))]) (by rw [hv1]; rfl) ?_
  refine k_st (X, M) (by rw [hu1]) ?_
  refine k_icmp_same hE 1212 dL_law_261 (by decide) ?_
  exact k _ _ hR
theorem L_bore {ad : Nat → Nat} {ta sa ca : Int → Nat} {md : Nat → Nat} {D : va_G} {cI cT cS cZ : ClassId} {G : Heap → List Loc → JFrame → Prop} {H0 : Heap} {m : MethodId} {b : Nat} {L : Int} {xs : Int → Int} (hE : KE (wpair (xw ad ta sa ca D cI cT cS) (mw md D cI cZ)) G H0 m cL_law RL 4 room_1) (hS : KS (wpair (xw ad ta sa ca D cI cT cS) (mw md D cI cZ)) G H0 m 4 cL_law b L xs) {i : Int} (h0 : 0 ≤ i) (h1 : i + 6 ≤ L) (hx : ∀ j : Int, 0 ≤ j → j < L → -2147483648 ≤ xs j ∧ xs j < 2147483648) {X M : Sg} (hR : RLx X M) (k : ∀ X2 M2 : Sg, RLx X2 M2 → KW (wpair (xw ad ta sa ca D cI cT cS) (mw md D cI cZ)) G H0 m 4 (X2, M2) 1212 [(0, .ref b), (1, .ref (ad 0)), (2, .ref (md 0)), (3, .int (iI i))] []) : KW (wpair (xw ad ta sa ca D cI cT cS) (mw md D cI cZ)) G H0 m 4 (X, M) 266 [(0, .ref b), (1, .ref (ad 0)), (2, .ref (md 0)), (3, .int (iI i))] [] := by
  refine k_aload_n hE dL_law_266 1 rfl rfl ?_
  refine k_aload_n hE dL_law_267 0 rfl rfl ?_
  refine k_iload_n hE dL_law_268 3 rfl rfl ?_
  refine k_iconst hE dL_law_269 ?_
  refine k_iadd hE dL_law_270 ?_
  refine hS.1 _ (i + 1) _ _ _ dL_law_271 (by omega) (by omega) ?_
  refine k_aload_n hE dL_law_272 0 rfl rfl ?_
  refine k_iload_n hE dL_law_273 3 rfl rfl ?_
  refine k_iconst hE dL_law_274 ?_
  refine k_iadd hE dL_law_275 ?_
  refine hS.1 _ (i + 2) _ _ _ dL_law_276 (by omega) (by omega) ?_
  refine k_callVL hE xw_ads mw_ads rfl (c_X6_bore X X (xs (i + 1)) (xs (i + 2)) (Ag.refl X) hR.1 (hx (i + 1) (by omega) (by omega)) (hx (i + 2) (by omega) (by omega))) mf_X6_bore ml_L_23 0 rfl rfl rfl rfl ⟨rfl, rfl, Nat.le_of_ble_eq_true rfl, Nat.le_of_ble_eq_true rfl⟩ [] (Nat.le_of_ble_eq_true rfl) dL_law_277 rfl (fun rv0 u0 hp0 => ?_)
  obtain ⟨z0, S0, hv0, hu0, hz0⟩ := hp0
  refine k_sk (sk' := [.int (iI z0)]) (by rw [hv0]; rfl) ?_
  refine k_st (S0, M) (by rw [hu0]) ?_
  refine k_aload_n hE dL_law_280 2 rfl rfl ?_
  refine k_aload_n hE dL_law_281 0 rfl rfl ?_
  refine k_iload_n hE dL_law_282 3 rfl rfl ?_
  refine k_iconst hE dL_law_283 ?_
  refine k_iadd hE dL_law_284 ?_
  refine hS.1 _ (i + 1) _ _ _ dL_law_285 (by omega) (by omega) ?_
  refine k_aload_n hE dL_law_286 0 rfl rfl ?_
  refine k_iload_n hE dL_law_287 3 rfl rfl ?_
  refine k_iconst hE dL_law_288 ?_
  refine k_iadd hE dL_law_289 ?_
  refine hS.1 _ (i + 2) _ _ _ dL_law_290 (by omega) (by omega) ?_
  refine k_callVR hE xw_ads mw_ads rfl (c_X7_bore M X (xs (i + 1)) (xs (i + 2)) hR.2.2.2.1 hR.1 (hx (i + 1) (by omega) (by omega)) (hx (i + 2) (by omega) (by omega))) mf_X7_bore ml_L_26 0 rfl rfl rfl rfl ⟨rfl, rfl, Nat.le_of_ble_eq_true rfl, Nat.le_of_ble_eq_true rfl⟩ [.int (iI z0)] (Nat.le_of_ble_eq_true rfl) dL_law_291 rfl (fun rv1 u1 hp1 => ?_)
  obtain ⟨z1, S1, hv1, hu1, hz1⟩ := hp1
  have e1 := S_bore hR hz0 hz1
  refine k_sk (sk' := [.int (iI z0), .int (iI z0)]) (by rw [hv1, ← e1.1]; rfl) ?_
  refine k_st (S0, S1) (by rw [hu1]) ?_
  refine k_icmp_same hE 1212 dL_law_294 (by decide) ?_
  exact k _ _ e1.2
theorem L_begin {ad : Nat → Nat} {ta sa ca : Int → Nat} {md : Nat → Nat} {D : va_G} {cI cT cS cZ : ClassId} {G : Heap → List Loc → JFrame → Prop} {H0 : Heap} {m : MethodId} {b : Nat} {L : Int} {xs : Int → Int} (hE : KE (wpair (xw ad ta sa ca D cI cT cS) (mw md D cI cZ)) G H0 m cL_law RL 4 room_1) (hS : KS (wpair (xw ad ta sa ca D cI cT cS) (mw md D cI cZ)) G H0 m 4 cL_law b L xs) {i : Int} (h0 : 0 ≤ i) (h1 : i + 6 ≤ L) (hx : ∀ j : Int, 0 ≤ j → j < L → -2147483648 ≤ xs j ∧ xs j < 2147483648) {X M : Sg} (hR : RLx X M) (k : ∀ X2 M2 : Sg, RLx X2 M2 → KW (wpair (xw ad ta sa ca D cI cT cS) (mw md D cI cZ)) G H0 m 4 (X2, M2) 1212 [(0, .ref b), (1, .ref (ad 0)), (2, .ref (md 0)), (3, .int (iI i))] []) : KW (wpair (xw ad ta sa ca D cI cT cS) (mw md D cI cZ)) G H0 m 4 (X, M) 299 [(0, .ref b), (1, .ref (ad 0)), (2, .ref (md 0)), (3, .int (iI i))] [] := by
  refine k_aload_n hE dL_law_299 1 rfl rfl ?_
  refine k_aload_n hE dL_law_300 0 rfl rfl ?_
  refine k_iload_n hE dL_law_301 3 rfl rfl ?_
  refine k_iconst hE dL_law_302 ?_
  refine k_iadd hE dL_law_303 ?_
  refine hS.1 _ (i + 1) _ _ _ dL_law_304 (by omega) (by omega) ?_
  refine k_callVL hE xw_ads mw_ads rfl (c_X6_begin X X (xs (i + 1)) (Ag.refl X) hR.1 (hx (i + 1) (by omega) (by omega))) mf_X6_begin ml_L_27 0 rfl rfl rfl rfl ⟨rfl, rfl, Nat.le_of_ble_eq_true rfl, Nat.le_of_ble_eq_true rfl⟩ [] (Nat.le_of_ble_eq_true rfl) dL_law_305 rfl (fun rv0 u0 hp0 => ?_)
  obtain ⟨z0, S0, hv0, hu0, hz0⟩ := hp0
  refine k_sk (sk' := [.int (iI z0)]) (by rw [hv0]; rfl) ?_
  refine k_st (S0, M) (by rw [hu0]) ?_
  refine k_aload_n hE dL_law_308 2 rfl rfl ?_
  refine k_aload_n hE dL_law_309 0 rfl rfl ?_
  refine k_iload_n hE dL_law_310 3 rfl rfl ?_
  refine k_iconst hE dL_law_311 ?_
  refine k_iadd hE dL_law_312 ?_
  refine hS.1 _ (i + 1) _ _ _ dL_law_313 (by omega) (by omega) ?_
  refine k_callVR hE xw_ads mw_ads rfl (c_X7_begin M X (xs (i + 1)) hR.2.2.2.1 hR.1 (hx (i + 1) (by omega) (by omega))) mf_X7_begin ml_L_31 0 rfl rfl rfl rfl ⟨rfl, rfl, Nat.le_of_ble_eq_true rfl, Nat.le_of_ble_eq_true rfl⟩ [.int (iI z0)] (Nat.le_of_ble_eq_true rfl) dL_law_314 rfl (fun rv1 u1 hp1 => ?_)
  obtain ⟨z1, S1, hv1, hu1, hz1⟩ := hp1
  have e1 := S_begin hR hz0 hz1
  refine k_sk (sk' := [.int (iI z0), .int (iI z0)]) (by rw [hv1, ← e1.1]; rfl) ?_
  refine k_st (S0, S1) (by rw [hu1]) ?_
  refine k_icmp_same hE 1212 dL_law_317 (by decide) ?_
  exact k _ _ e1.2
theorem L_rain {ad : Nat → Nat} {ta sa ca : Int → Nat} {md : Nat → Nat} {D : va_G} {cI cT cS cZ : ClassId} {G : Heap → List Loc → JFrame → Prop} {H0 : Heap} {m : MethodId} {b : Nat} {L : Int} {xs : Int → Int} (hE : KE (wpair (xw ad ta sa ca D cI cT cS) (mw md D cI cZ)) G H0 m cL_law RL 4 room_1) (hS : KS (wpair (xw ad ta sa ca D cI cT cS) (mw md D cI cZ)) G H0 m 4 cL_law b L xs) {i : Int} (h0 : 0 ≤ i) (h1 : i + 6 ≤ L) (hx : ∀ j : Int, 0 ≤ j → j < L → -2147483648 ≤ xs j ∧ xs j < 2147483648) {X M : Sg} (hR : RLx X M) (k : ∀ X2 M2 : Sg, RLx X2 M2 → KW (wpair (xw ad ta sa ca D cI cT cS) (mw md D cI cZ)) G H0 m 4 (X2, M2) 1212 [(0, .ref b), (1, .ref (ad 0)), (2, .ref (md 0)), (3, .int (iI i))] []) : KW (wpair (xw ad ta sa ca D cI cT cS) (mw md D cI cZ)) G H0 m 4 (X, M) 322 [(0, .ref b), (1, .ref (ad 0)), (2, .ref (md 0)), (3, .int (iI i))] [] := by
  refine k_aload_n hE dL_law_322 1 rfl rfl ?_
  refine k_aload_n hE dL_law_323 0 rfl rfl ?_
  refine k_iload_n hE dL_law_324 3 rfl rfl ?_
  refine k_iconst hE dL_law_325 ?_
  refine k_iadd hE dL_law_326 ?_
  refine hS.1 _ (i + 1) _ _ _ dL_law_327 (by omega) (by omega) ?_
  refine k_aload_n hE dL_law_328 0 rfl rfl ?_
  refine k_iload_n hE dL_law_329 3 rfl rfl ?_
  refine k_iconst hE dL_law_330 ?_
  refine k_iadd hE dL_law_331 ?_
  refine hS.1 _ (i + 2) _ _ _ dL_law_332 (by omega) (by omega) ?_
  refine k_callVL hE xw_ads mw_ads rfl (c_X6_rain X X (xs (i + 1)) (xs (i + 2)) (Ag.refl X) hR.1 (hx (i + 1) (by omega) (by omega)) (hx (i + 2) (by omega) (by omega))) mf_X6_rain ml_L_32 0 rfl rfl rfl rfl ⟨rfl, rfl, Nat.le_of_ble_eq_true rfl, Nat.le_of_ble_eq_true rfl⟩ [] (Nat.le_of_ble_eq_true rfl) dL_law_333 rfl (fun rv0 u0 hp0 => ?_)
  obtain ⟨z0, S0, hv0, hu0, hz0⟩ := hp0
  refine k_sk (sk' := [.int (iI z0)]) (by rw [hv0]; rfl) ?_
  refine k_st (S0, M) (by rw [hu0]) ?_
  refine k_aload_n hE dL_law_336 2 rfl rfl ?_
  refine k_aload_n hE dL_law_337 0 rfl rfl ?_
  refine k_iload_n hE dL_law_338 3 rfl rfl ?_
  refine k_iconst hE dL_law_339 ?_
  refine k_iadd hE dL_law_340 ?_
  refine hS.1 _ (i + 1) _ _ _ dL_law_341 (by omega) (by omega) ?_
  refine k_aload_n hE dL_law_342 0 rfl rfl ?_
  refine k_iload_n hE dL_law_343 3 rfl rfl ?_
  refine k_iconst hE dL_law_344 ?_
  refine k_iadd hE dL_law_345 ?_
  refine hS.1 _ (i + 2) _ _ _ dL_law_346 (by omega) (by omega) ?_
  refine k_callVR hE xw_ads mw_ads rfl (c_X7_rain M X (xs (i + 1)) (xs (i + 2)) hR.2.2.2.1 hR.1 (hx (i + 1) (by omega) (by omega)) (hx (i + 2) (by omega) (by omega))) mf_X7_rain ml_L_35 0 rfl rfl rfl rfl ⟨rfl, rfl, Nat.le_of_ble_eq_true rfl, Nat.le_of_ble_eq_true rfl⟩ [.int (iI z0)] (Nat.le_of_ble_eq_true rfl) dL_law_347 rfl (fun rv1 u1 hp1 => ?_)
  obtain ⟨z1, S1, hv1, hu1, hz1⟩ := hp1
  have e1 := S_rain hR hz0 hz1
  refine k_sk (sk' := [.int (iI z0), .int (iI z0)]) (by rw [hv1, ← e1.1]; rfl) ?_
  refine k_st (S0, S1) (by rw [hu1]) ?_
  refine k_icmp_same hE 1212 dL_law_350 (by decide) ?_
  exact k _ _ e1.2
theorem L_law {ad : Nat → Nat} {ta sa ca : Int → Nat} {md : Nat → Nat} {D : va_G} {cI cT cS cZ : ClassId} {G : Heap → List Loc → JFrame → Prop} {H0 : Heap} {m : MethodId} {b : Nat} {L : Int} {xs : Int → Int} (hE : KE (wpair (xw ad ta sa ca D cI cT cS) (mw md D cI cZ)) G H0 m cL_law RL 4 room_1) (hS : KS (wpair (xw ad ta sa ca D cI cT cS) (mw md D cI cZ)) G H0 m 4 cL_law b L xs) {i : Int} (h0 : 0 ≤ i) (h1 : i + 6 ≤ L) (hx : ∀ j : Int, 0 ≤ j → j < L → -2147483648 ≤ xs j ∧ xs j < 2147483648) {X M : Sg} (hR : RLx X M) (k : ∀ X2 M2 : Sg, RLx X2 M2 → KW (wpair (xw ad ta sa ca D cI cT cS) (mw md D cI cZ)) G H0 m 4 (X2, M2) 1212 [(0, .ref b), (1, .ref (ad 0)), (2, .ref (md 0)), (3, .int (iI i))] []) : KW (wpair (xw ad ta sa ca D cI cT cS) (mw md D cI cZ)) G H0 m 4 (X, M) 355 [(0, .ref b), (1, .ref (ad 0)), (2, .ref (md 0)), (3, .int (iI i))] [] := by
  refine k_aload_n hE dL_law_355 1 rfl rfl ?_
  refine k_aload_n hE dL_law_356 0 rfl rfl ?_
  refine k_iload_n hE dL_law_357 3 rfl rfl ?_
  refine k_iconst hE dL_law_358 ?_
  refine k_iadd hE dL_law_359 ?_
  refine hS.1 _ (i + 1) _ _ _ dL_law_360 (by omega) (by omega) ?_
  refine k_callVL hE xw_ads mw_ads rfl (c_X6_law X X (xs (i + 1)) (Ag.refl X) hR.1 (hx (i + 1) (by omega) (by omega))) mf_X6_law ml_L_36 0 rfl rfl rfl rfl ⟨rfl, rfl, Nat.le_of_ble_eq_true rfl, Nat.le_of_ble_eq_true rfl⟩ [] (Nat.le_of_ble_eq_true rfl) dL_law_361 rfl (fun rv0 u0 hp0 => ?_)
  obtain ⟨z0, S0, hv0, hu0, hz0⟩ := hp0
  refine k_sk (sk' := [.int (iI z0)]) (by rw [hv0]; rfl) ?_
  refine k_st (S0, M) (by rw [hu0]) ?_
  refine k_aload_n hE dL_law_364 2 rfl rfl ?_
  refine k_aload_n hE dL_law_365 0 rfl rfl ?_
  refine k_iload_n hE dL_law_366 3 rfl rfl ?_
  refine k_iconst hE dL_law_367 ?_
  refine k_iadd hE dL_law_368 ?_
  refine hS.1 _ (i + 1) _ _ _ dL_law_369 (by omega) (by omega) ?_
  refine k_callVR hE xw_ads mw_ads rfl (c_X7_law M X (xs (i + 1)) hR.2.2.2.1 hR.1 (hx (i + 1) (by omega) (by omega))) mf_X7_law ml_L_39 0 rfl rfl rfl rfl ⟨rfl, rfl, Nat.le_of_ble_eq_true rfl, Nat.le_of_ble_eq_true rfl⟩ [.int (iI z0)] (Nat.le_of_ble_eq_true rfl) dL_law_370 rfl (fun rv1 u1 hp1 => ?_)
  obtain ⟨z1, S1, hv1, hu1, hz1⟩ := hp1
  have e1 := S_law hR hz0 hz1
  refine k_sk (sk' := [.int (iI z0), .int (iI z0)]) (by rw [hv1, ← e1.1]; rfl) ?_
  refine k_st (S0, S1) (by rw [hu1]) ?_
  refine k_icmp_same hE 1212 dL_law_373 (by decide) ?_
  exact k _ _ e1.2
theorem L_leak {ad : Nat → Nat} {ta sa ca : Int → Nat} {md : Nat → Nat} {D : va_G} {cI cT cS cZ : ClassId} {G : Heap → List Loc → JFrame → Prop} {H0 : Heap} {m : MethodId} {b : Nat} {L : Int} {xs : Int → Int} (hE : KE (wpair (xw ad ta sa ca D cI cT cS) (mw md D cI cZ)) G H0 m cL_law RL 4 room_1) (hS : KS (wpair (xw ad ta sa ca D cI cT cS) (mw md D cI cZ)) G H0 m 4 cL_law b L xs) {i : Int} (h0 : 0 ≤ i) (h1 : i + 6 ≤ L) (hx : ∀ j : Int, 0 ≤ j → j < L → -2147483648 ≤ xs j ∧ xs j < 2147483648) {X M : Sg} (hR : RLx X M) (k : ∀ X2 M2 : Sg, RLx X2 M2 → KW (wpair (xw ad ta sa ca D cI cT cS) (mw md D cI cZ)) G H0 m 4 (X2, M2) 1212 [(0, .ref b), (1, .ref (ad 0)), (2, .ref (md 0)), (3, .int (iI i))] []) : KW (wpair (xw ad ta sa ca D cI cT cS) (mw md D cI cZ)) G H0 m 4 (X, M) 378 [(0, .ref b), (1, .ref (ad 0)), (2, .ref (md 0)), (3, .int (iI i))] [] := by
  refine k_aload_n hE dL_law_378 1 rfl rfl ?_
  refine k_aload_n hE dL_law_379 0 rfl rfl ?_
  refine k_iload_n hE dL_law_380 3 rfl rfl ?_
  refine k_iconst hE dL_law_381 ?_
  refine k_iadd hE dL_law_382 ?_
  refine hS.1 _ (i + 1) _ _ _ dL_law_383 (by omega) (by omega) ?_
  refine k_aload_n hE dL_law_384 0 rfl rfl ?_
  refine k_iload_n hE dL_law_385 3 rfl rfl ?_
  refine k_iconst hE dL_law_386 ?_
  refine k_iadd hE dL_law_387 ?_
  refine hS.1 _ (i + 2) _ _ _ dL_law_388 (by omega) (by omega) ?_
  refine k_callVL hE xw_ads mw_ads rfl (c_X6_leak X X (xs (i + 1)) (xs (i + 2)) (Ag.refl X) hR.1 (hx (i + 1) (by omega) (by omega)) (hx (i + 2) (by omega) (by omega))) mf_X6_leak ml_L_40 0 rfl rfl rfl rfl ⟨rfl, rfl, Nat.le_of_ble_eq_true rfl, Nat.le_of_ble_eq_true rfl⟩ [] (Nat.le_of_ble_eq_true rfl) dL_law_389 rfl (fun rv0 u0 hp0 => ?_)
  obtain ⟨z0, S0, hv0, hu0, hz0⟩ := hp0
  refine k_sk (sk' := [.int (iI z0)]) (by rw [hv0]; rfl) ?_
  refine k_st (S0, M) (by rw [hu0]) ?_
  refine k_aload_n hE dL_law_392 2 rfl rfl ?_
  refine k_aload_n hE dL_law_393 0 rfl rfl ?_
  refine k_iload_n hE dL_law_394 3 rfl rfl ?_
  refine k_iconst hE dL_law_395 ?_
  refine k_iadd hE dL_law_396 ?_
  refine hS.1 _ (i + 1) _ _ _ dL_law_397 (by omega) (by omega) ?_
  refine k_aload_n hE dL_law_398 0 rfl rfl ?_
  refine k_iload_n hE dL_law_399 3 rfl rfl ?_
  refine k_iconst hE dL_law_400 ?_
  refine k_iadd hE dL_law_401 ?_
  refine hS.1 _ (i + 2) _ _ _ dL_law_402 (by omega) (by omega) ?_
  refine k_callVR hE xw_ads mw_ads rfl (c_X7_leak M X (xs (i + 1)) (xs (i + 2)) hR.2.2.2.1 hR.1 (hx (i + 1) (by omega) (by omega)) (hx (i + 2) (by omega) (by omega))) mf_X7_leak ml_L_43 0 rfl rfl rfl rfl ⟨rfl, rfl, Nat.le_of_ble_eq_true rfl, Nat.le_of_ble_eq_true rfl⟩ [.int (iI z0)] (Nat.le_of_ble_eq_true rfl) dL_law_403 rfl (fun rv1 u1 hp1 => ?_)
  obtain ⟨z1, S1, hv1, hu1, hz1⟩ := hp1
  have e1 := S_leak hR hz0 hz1
  refine k_sk (sk' := [.int (iI z0), .int (iI z0)]) (by rw [hv1, ← e1.1]; rfl) ?_
  refine k_st (S0, S1) (by rw [hu1]) ?_
  refine k_icmp_same hE 1212 dL_law_406 (by decide) ?_
  exact k _ _ e1.2
theorem L_got {ad : Nat → Nat} {ta sa ca : Int → Nat} {md : Nat → Nat} {D : va_G} {cI cT cS cZ : ClassId} {G : Heap → List Loc → JFrame → Prop} {H0 : Heap} {m : MethodId} {b : Nat} {L : Int} {xs : Int → Int} (hE : KE (wpair (xw ad ta sa ca D cI cT cS) (mw md D cI cZ)) G H0 m cL_law RL 4 room_1) (hS : KS (wpair (xw ad ta sa ca D cI cT cS) (mw md D cI cZ)) G H0 m 4 cL_law b L xs) {i : Int} (h0 : 0 ≤ i) (h1 : i + 6 ≤ L) (hx : ∀ j : Int, 0 ≤ j → j < L → -2147483648 ≤ xs j ∧ xs j < 2147483648) {X M : Sg} (hR : RLx X M) (k : ∀ X2 M2 : Sg, RLx X2 M2 → KW (wpair (xw ad ta sa ca D cI cT cS) (mw md D cI cZ)) G H0 m 4 (X2, M2) 1212 [(0, .ref b), (1, .ref (ad 0)), (2, .ref (md 0)), (3, .int (iI i))] []) : KW (wpair (xw ad ta sa ca D cI cT cS) (mw md D cI cZ)) G H0 m 4 (X, M) 411 [(0, .ref b), (1, .ref (ad 0)), (2, .ref (md 0)), (3, .int (iI i))] [] := by
  refine k_aload_n hE dL_law_411 1 rfl rfl ?_
  refine k_aload_n hE dL_law_412 0 rfl rfl ?_
  refine k_iload_n hE dL_law_413 3 rfl rfl ?_
  refine k_iconst hE dL_law_414 ?_
  refine k_iadd hE dL_law_415 ?_
  refine hS.1 _ (i + 1) _ _ _ dL_law_416 (by omega) (by omega) ?_
  refine k_aload_n hE dL_law_417 0 rfl rfl ?_
  refine k_iload_n hE dL_law_418 3 rfl rfl ?_
  refine k_iconst hE dL_law_419 ?_
  refine k_iadd hE dL_law_420 ?_
  refine hS.1 _ (i + 2) _ _ _ dL_law_421 (by omega) (by omega) ?_
  refine k_callVL hE xw_ads mw_ads rfl (c_X6_got X X (xs (i + 1)) (xs (i + 2)) (Ag.refl X) hR.1 (hx (i + 1) (by omega) (by omega)) (hx (i + 2) (by omega) (by omega))) mf_X6_got ml_L_44 0 rfl rfl rfl rfl ⟨rfl, rfl, Nat.le_of_ble_eq_true rfl, Nat.le_of_ble_eq_true rfl⟩ [] (Nat.le_of_ble_eq_true rfl) dL_law_422 rfl (fun rv0 u0 hp0 => ?_)
  obtain ⟨S0, hv0, hu0, hs0⟩ := hp0
  refine k_sk (sk' := [.int (iI (GT X (xs (i + 1)) (xs (i + 2))))]) (by rw [hv0]; rfl) ?_
  refine k_st (S0, M) (by rw [hu0]) ?_
  refine k_aload_n hE dL_law_425 2 rfl rfl ?_
  refine k_aload_n hE dL_law_426 0 rfl rfl ?_
  refine k_iload_n hE dL_law_427 3 rfl rfl ?_
  refine k_iconst hE dL_law_428 ?_
  refine k_iadd hE dL_law_429 ?_
  refine hS.1 _ (i + 1) _ _ _ dL_law_430 (by omega) (by omega) ?_
  refine k_aload_n hE dL_law_431 0 rfl rfl ?_
  refine k_iload_n hE dL_law_432 3 rfl rfl ?_
  refine k_iconst hE dL_law_433 ?_
  refine k_iadd hE dL_law_434 ?_
  refine hS.1 _ (i + 2) _ _ _ dL_law_435 (by omega) (by omega) ?_
  refine k_callVR hE xw_ads mw_ads rfl (c_X7_got M X (xs (i + 1)) (xs (i + 2)) hR.2.2.2.1 hR.1 hR.2.2.2.2.2.2.2.2 (hx (i + 1) (by omega) (by omega)) (hx (i + 2) (by omega) (by omega))) mf_X7_got ml_L_47 0 rfl rfl rfl rfl ⟨rfl, rfl, Nat.le_of_ble_eq_true rfl, Nat.le_of_ble_eq_true rfl⟩ [.int (iI (GT X (xs (i + 1)) (xs (i + 2))))] (Nat.le_of_ble_eq_true rfl) dL_law_436 rfl (fun rv1 u1 hp1 => ?_)
  obtain ⟨S1, hv1, hu1, hs1⟩ := hp1
  have r1 := RL_q hR hs0 hs1.y
  refine k_sk (sk' := [.int (iI (GT X (xs (i + 1)) (xs (i + 2)))), .int (iI (GT X (xs (i + 1)) (xs (i + 2))))]) (by rw [hv1]; rfl) ?_
  refine k_st (S0, S1) (by rw [hu1]) ?_
  refine k_icmp_same hE 1212 dL_law_439 (by decide) ?_
  exact k _ _ r1
theorem L_level {ad : Nat → Nat} {ta sa ca : Int → Nat} {md : Nat → Nat} {D : va_G} {cI cT cS cZ : ClassId} {G : Heap → List Loc → JFrame → Prop} {H0 : Heap} {m : MethodId} {b : Nat} {L : Int} {xs : Int → Int} (hE : KE (wpair (xw ad ta sa ca D cI cT cS) (mw md D cI cZ)) G H0 m cL_law RL 4 room_1) (hS : KS (wpair (xw ad ta sa ca D cI cT cS) (mw md D cI cZ)) G H0 m 4 cL_law b L xs) {i : Int} (h0 : 0 ≤ i) (h1 : i + 6 ≤ L) (hx : ∀ j : Int, 0 ≤ j → j < L → -2147483648 ≤ xs j ∧ xs j < 2147483648) {X M : Sg} (hR : RLx X M) (k : ∀ X2 M2 : Sg, RLx X2 M2 → KW (wpair (xw ad ta sa ca D cI cT cS) (mw md D cI cZ)) G H0 m 4 (X2, M2) 1212 [(0, .ref b), (1, .ref (ad 0)), (2, .ref (md 0)), (3, .int (iI i))] []) : KW (wpair (xw ad ta sa ca D cI cT cS) (mw md D cI cZ)) G H0 m 4 (X, M) 444 [(0, .ref b), (1, .ref (ad 0)), (2, .ref (md 0)), (3, .int (iI i))] [] := by
  refine k_aload_n hE dL_law_444 1 rfl rfl ?_
  refine k_aload_n hE dL_law_445 0 rfl rfl ?_
  refine k_iload_n hE dL_law_446 3 rfl rfl ?_
  refine k_iconst hE dL_law_447 ?_
  refine k_iadd hE dL_law_448 ?_
  refine hS.1 _ (i + 1) _ _ _ dL_law_449 (by omega) (by omega) ?_
  refine k_callVL hE xw_ads mw_ads rfl (c_X6_level X X (xs (i + 1)) (Ag.refl X) hR.1 (hx (i + 1) (by omega) (by omega))) mf_X6_level ml_L_48 0 rfl rfl rfl rfl ⟨rfl, rfl, Nat.le_of_ble_eq_true rfl, Nat.le_of_ble_eq_true rfl⟩ [] (Nat.le_of_ble_eq_true rfl) dL_law_450 rfl (fun rv0 u0 hp0 => ?_)
  obtain ⟨S0, hv0, hu0, hs0⟩ := hp0
  refine k_sk (sk' := [.int (iI (LE X (xs (i + 1))))]) (by rw [hv0]; rfl) ?_
  refine k_st (S0, M) (by rw [hu0]) ?_
  refine k_aload_n hE dL_law_453 2 rfl rfl ?_
  refine k_aload_n hE dL_law_454 0 rfl rfl ?_
  refine k_iload_n hE dL_law_455 3 rfl rfl ?_
  refine k_iconst hE dL_law_456 ?_
  refine k_iadd hE dL_law_457 ?_
  refine hS.1 _ (i + 1) _ _ _ dL_law_458 (by omega) (by omega) ?_
  refine k_callVR hE xw_ads mw_ads rfl (c_X7_level M X (xs (i + 1)) hR.2.2.2.1 hR.1 hR.2.2.2.2.2.2.2.2 (hx (i + 1) (by omega) (by omega))) mf_X7_level ml_L_51 0 rfl rfl rfl rfl ⟨rfl, rfl, Nat.le_of_ble_eq_true rfl, Nat.le_of_ble_eq_true rfl⟩ [.int (iI (LE X (xs (i + 1))))] (Nat.le_of_ble_eq_true rfl) dL_law_459 rfl (fun rv1 u1 hp1 => ?_)
  obtain ⟨S1, hv1, hu1, hs1⟩ := hp1
  have r1 := RL_q hR hs0 hs1.y
  refine k_sk (sk' := [.int (iI (LE X (xs (i + 1)))), .int (iI (LE X (xs (i + 1))))]) (by rw [hv1]; rfl) ?_
  refine k_st (S0, S1) (by rw [hu1]) ?_
  refine k_icmp_same hE 1212 dL_law_462 (by decide) ?_
  exact k _ _ r1
theorem L_over {ad : Nat → Nat} {ta sa ca : Int → Nat} {md : Nat → Nat} {D : va_G} {cI cT cS cZ : ClassId} {G : Heap → List Loc → JFrame → Prop} {H0 : Heap} {m : MethodId} {b : Nat} {L : Int} {xs : Int → Int} (hE : KE (wpair (xw ad ta sa ca D cI cT cS) (mw md D cI cZ)) G H0 m cL_law RL 4 room_1) (hS : KS (wpair (xw ad ta sa ca D cI cT cS) (mw md D cI cZ)) G H0 m 4 cL_law b L xs) {i : Int} (h0 : 0 ≤ i) (h1 : i + 6 ≤ L) (hx : ∀ j : Int, 0 ≤ j → j < L → -2147483648 ≤ xs j ∧ xs j < 2147483648) {X M : Sg} (hR : RLx X M) (k : ∀ X2 M2 : Sg, RLx X2 M2 → KW (wpair (xw ad ta sa ca D cI cT cS) (mw md D cI cZ)) G H0 m 4 (X2, M2) 1212 [(0, .ref b), (1, .ref (ad 0)), (2, .ref (md 0)), (3, .int (iI i))] []) : KW (wpair (xw ad ta sa ca D cI cT cS) (mw md D cI cZ)) G H0 m 4 (X, M) 467 [(0, .ref b), (1, .ref (ad 0)), (2, .ref (md 0)), (3, .int (iI i))] [] := by
  refine k_aload_n hE dL_law_467 1 rfl rfl ?_
  refine k_aload_n hE dL_law_468 0 rfl rfl ?_
  refine k_iload_n hE dL_law_469 3 rfl rfl ?_
  refine k_iconst hE dL_law_470 ?_
  refine k_iadd hE dL_law_471 ?_
  refine hS.1 _ (i + 1) _ _ _ dL_law_472 (by omega) (by omega) ?_
  refine k_callVL hE xw_ads mw_ads rfl (c_X6_over X X (xs (i + 1)) (Ag.refl X) hR.1 (hx (i + 1) (by omega) (by omega))) mf_X6_over ml_L_52 0 rfl rfl rfl rfl ⟨rfl, rfl, Nat.le_of_ble_eq_true rfl, Nat.le_of_ble_eq_true rfl⟩ [] (Nat.le_of_ble_eq_true rfl) dL_law_473 rfl (fun rv0 u0 hp0 => ?_)
  obtain ⟨S0, hv0, hu0, hs0⟩ := hp0
  refine k_sk (sk' := [.int (iI (OV X (xs (i + 1))))]) (by rw [hv0]; rfl) ?_
  refine k_st (S0, M) (by rw [hu0]) ?_
  refine k_aload_n hE dL_law_476 2 rfl rfl ?_
  refine k_aload_n hE dL_law_477 0 rfl rfl ?_
  refine k_iload_n hE dL_law_478 3 rfl rfl ?_
  refine k_iconst hE dL_law_479 ?_
  refine k_iadd hE dL_law_480 ?_
  refine hS.1 _ (i + 1) _ _ _ dL_law_481 (by omega) (by omega) ?_
  refine k_callVR hE xw_ads mw_ads rfl (c_X7_over M X (xs (i + 1)) hR.2.2.2.1 hR.1 hR.2.2.2.2.2.2.2.2 (hx (i + 1) (by omega) (by omega))) mf_X7_over ml_L_55 0 rfl rfl rfl rfl ⟨rfl, rfl, Nat.le_of_ble_eq_true rfl, Nat.le_of_ble_eq_true rfl⟩ [.int (iI (OV X (xs (i + 1))))] (Nat.le_of_ble_eq_true rfl) dL_law_482 rfl (fun rv1 u1 hp1 => ?_)
  obtain ⟨S1, hv1, hu1, hs1⟩ := hp1
  have r1 := RL_q hR hs0 hs1.y
  refine k_sk (sk' := [.int (iI (OV X (xs (i + 1)))), .int (iI (OV X (xs (i + 1))))]) (by rw [hv1]; rfl) ?_
  refine k_st (S0, S1) (by rw [hu1]) ?_
  refine k_icmp_same hE 1212 dL_law_485 (by decide) ?_
  exact k _ _ r1
theorem L_nobody {ad : Nat → Nat} {ta sa ca : Int → Nat} {md : Nat → Nat} {D : va_G} {cI cT cS cZ : ClassId} {G : Heap → List Loc → JFrame → Prop} {H0 : Heap} {m : MethodId} {b : Nat} {L : Int} {xs : Int → Int} (hE : KE (wpair (xw ad ta sa ca D cI cT cS) (mw md D cI cZ)) G H0 m cL_law RL 4 room_1) (hS : KS (wpair (xw ad ta sa ca D cI cT cS) (mw md D cI cZ)) G H0 m 4 cL_law b L xs) {i : Int} (h0 : 0 ≤ i) (h1 : i + 6 ≤ L) (hx : ∀ j : Int, 0 ≤ j → j < L → -2147483648 ≤ xs j ∧ xs j < 2147483648) {X M : Sg} (hR : RLx X M) (k : ∀ X2 M2 : Sg, RLx X2 M2 → KW (wpair (xw ad ta sa ca D cI cT cS) (mw md D cI cZ)) G H0 m 4 (X2, M2) 1212 [(0, .ref b), (1, .ref (ad 0)), (2, .ref (md 0)), (3, .int (iI i))] []) : KW (wpair (xw ad ta sa ca D cI cT cS) (mw md D cI cZ)) G H0 m 4 (X, M) 490 [(0, .ref b), (1, .ref (ad 0)), (2, .ref (md 0)), (3, .int (iI i))] [] := by
  refine k_aload_n hE dL_law_490 1 rfl rfl ?_
  refine k_aload_n hE dL_law_491 0 rfl rfl ?_
  refine k_iload_n hE dL_law_492 3 rfl rfl ?_
  refine k_iconst hE dL_law_493 ?_
  refine k_iadd hE dL_law_494 ?_
  refine hS.1 _ (i + 1) _ _ _ dL_law_495 (by omega) (by omega) ?_
  refine k_callVL hE xw_ads mw_ads rfl (c_X6_nobody X X (xs (i + 1)) (Ag.refl X) hR.1 (hx (i + 1) (by omega) (by omega))) mf_X6_nobody ml_L_56 0 rfl rfl rfl rfl ⟨rfl, rfl, Nat.le_of_ble_eq_true rfl, Nat.le_of_ble_eq_true rfl⟩ [] (Nat.le_of_ble_eq_true rfl) dL_law_496 rfl (fun rv0 u0 hp0 => ?_)
  obtain ⟨z0, S0, hv0, hu0, hn0, hs0⟩ := hp0
  refine k_sk (sk' := [.int (iI z0)]) (by rw [hv0]; rfl) ?_
  refine k_st (S0, M) (by rw [hu0]) ?_
  refine k_aload_n hE dL_law_499 2 rfl rfl ?_
  refine k_aload_n hE dL_law_500 0 rfl rfl ?_
  refine k_iload_n hE dL_law_501 3 rfl rfl ?_
  refine k_iconst hE dL_law_502 ?_
  refine k_iadd hE dL_law_503 ?_
  refine hS.1 _ (i + 1) _ _ _ dL_law_504 (by omega) (by omega) ?_
  refine k_callVR hE xw_ads mw_ads rfl (c_X7_nobody M X (xs (i + 1)) hR.2.2.2.1 hR.1 hR.2.2.2.2.2.2.2.2 (hx (i + 1) (by omega) (by omega))) mf_X7_nobody ml_L_59 0 rfl rfl rfl rfl ⟨rfl, rfl, Nat.le_of_ble_eq_true rfl, Nat.le_of_ble_eq_true rfl⟩ [.int (iI z0)] (Nat.le_of_ble_eq_true rfl) dL_law_505 rfl (fun rv1 u1 hp1 => ?_)
  obtain ⟨z1, S1, hv1, hu1, hn1, hs1⟩ := hp1
  have e1 := NB_uni hn0 hn1
  have r1 := RL_q hR hs0 hs1.y
  refine k_sk (sk' := [.int (iI z0), .int (iI z0)]) (by rw [hv1, ← e1]; rfl) ?_
  refine k_st (S0, S1) (by rw [hu1]) ?_
  refine k_icmp_same hE 1212 dL_law_508 (by decide) ?_
  exact k _ _ r1
theorem L_dry {ad : Nat → Nat} {ta sa ca : Int → Nat} {md : Nat → Nat} {D : va_G} {cI cT cS cZ : ClassId} {G : Heap → List Loc → JFrame → Prop} {H0 : Heap} {m : MethodId} {b : Nat} {L : Int} {xs : Int → Int} (hE : KE (wpair (xw ad ta sa ca D cI cT cS) (mw md D cI cZ)) G H0 m cL_law RL 4 room_1) (hS : KS (wpair (xw ad ta sa ca D cI cT cS) (mw md D cI cZ)) G H0 m 4 cL_law b L xs) {i : Int} (h0 : 0 ≤ i) (h1 : i + 6 ≤ L) (hx : ∀ j : Int, 0 ≤ j → j < L → -2147483648 ≤ xs j ∧ xs j < 2147483648) {X M : Sg} (hR : RLx X M) (k : ∀ X2 M2 : Sg, RLx X2 M2 → KW (wpair (xw ad ta sa ca D cI cT cS) (mw md D cI cZ)) G H0 m 4 (X2, M2) 1212 [(0, .ref b), (1, .ref (ad 0)), (2, .ref (md 0)), (3, .int (iI i))] []) : KW (wpair (xw ad ta sa ca D cI cT cS) (mw md D cI cZ)) G H0 m 4 (X, M) 513 [(0, .ref b), (1, .ref (ad 0)), (2, .ref (md 0)), (3, .int (iI i))] [] := by
  refine k_aload_n hE dL_law_513 1 rfl rfl ?_
  refine k_aload_n hE dL_law_514 0 rfl rfl ?_
  refine k_iload_n hE dL_law_515 3 rfl rfl ?_
  refine k_iconst hE dL_law_516 ?_
  refine k_iadd hE dL_law_517 ?_
  refine hS.1 _ (i + 1) _ _ _ dL_law_518 (by omega) (by omega) ?_
  refine k_callVL hE xw_ads mw_ads rfl (c_X6_dry X X (xs (i + 1)) (Ag.refl X) hR.1 (hx (i + 1) (by omega) (by omega))) mf_X6_dry ml_L_60 0 rfl rfl rfl rfl ⟨rfl, rfl, Nat.le_of_ble_eq_true rfl, Nat.le_of_ble_eq_true rfl⟩ [] (Nat.le_of_ble_eq_true rfl) dL_law_519 rfl (fun rv0 u0 hp0 => ?_)
  obtain ⟨z0, S0, hv0, hu0, hn0, hs0⟩ := hp0
  refine k_sk (sk' := [.int (iI z0)]) (by rw [hv0]; rfl) ?_
  refine k_st (S0, M) (by rw [hu0]) ?_
  refine k_aload_n hE dL_law_522 2 rfl rfl ?_
  refine k_aload_n hE dL_law_523 0 rfl rfl ?_
  refine k_iload_n hE dL_law_524 3 rfl rfl ?_
  refine k_iconst hE dL_law_525 ?_
  refine k_iadd hE dL_law_526 ?_
  refine hS.1 _ (i + 1) _ _ _ dL_law_527 (by omega) (by omega) ?_
  refine k_callVR hE xw_ads mw_ads rfl (c_X7_dry M X (xs (i + 1)) hR.2.2.2.1 hR.1 hR.2.2.2.2.2.2.2.2 (hx (i + 1) (by omega) (by omega))) mf_X7_dry ml_L_63 0 rfl rfl rfl rfl ⟨rfl, rfl, Nat.le_of_ble_eq_true rfl, Nat.le_of_ble_eq_true rfl⟩ [.int (iI z0)] (Nat.le_of_ble_eq_true rfl) dL_law_528 rfl (fun rv1 u1 hp1 => ?_)
  obtain ⟨z1, S1, hv1, hu1, hn1, hs1⟩ := hp1
  have e1 := DY_uni hn0 hn1
  have r1 := RL_q hR hs0 hs1.y
  refine k_sk (sk' := [.int (iI z0), .int (iI z0)]) (by rw [hv1, ← e1]; rfl) ?_
  refine k_st (S0, S1) (by rw [hu1]) ?_
  refine k_icmp_same hE 1212 dL_law_531 (by decide) ?_
  exact k _ _ r1
theorem L_can {ad : Nat → Nat} {ta sa ca : Int → Nat} {md : Nat → Nat} {D : va_G} {cI cT cS cZ : ClassId} {G : Heap → List Loc → JFrame → Prop} {H0 : Heap} {m : MethodId} {b : Nat} {L : Int} {xs : Int → Int} (hE : KE (wpair (xw ad ta sa ca D cI cT cS) (mw md D cI cZ)) G H0 m cL_law RL 4 room_1) (hS : KS (wpair (xw ad ta sa ca D cI cT cS) (mw md D cI cZ)) G H0 m 4 cL_law b L xs) {i : Int} (h0 : 0 ≤ i) (h1 : i + 6 ≤ L) (hx : ∀ j : Int, 0 ≤ j → j < L → -2147483648 ≤ xs j ∧ xs j < 2147483648) {X M : Sg} (hR : RLx X M) (k : ∀ X2 M2 : Sg, RLx X2 M2 → KW (wpair (xw ad ta sa ca D cI cT cS) (mw md D cI cZ)) G H0 m 4 (X2, M2) 1212 [(0, .ref b), (1, .ref (ad 0)), (2, .ref (md 0)), (3, .int (iI i))] []) : KW (wpair (xw ad ta sa ca D cI cT cS) (mw md D cI cZ)) G H0 m 4 (X, M) 536 [(0, .ref b), (1, .ref (ad 0)), (2, .ref (md 0)), (3, .int (iI i))] [] := by
  refine k_aload_n hE dL_law_536 1 rfl rfl ?_
  refine k_aload_n hE dL_law_537 0 rfl rfl ?_
  refine k_iload_n hE dL_law_538 3 rfl rfl ?_
  refine k_iconst hE dL_law_539 ?_
  refine k_iadd hE dL_law_540 ?_
  refine hS.1 _ (i + 1) _ _ _ dL_law_541 (by omega) (by omega) ?_
  refine k_callVL hE xw_ads mw_ads rfl (c_X6_can X X (xs (i + 1)) (Ag.refl X) hR.1 (hx (i + 1) (by omega) (by omega))) mf_X6_can ml_L_64 0 rfl rfl rfl rfl ⟨rfl, rfl, Nat.le_of_ble_eq_true rfl, Nat.le_of_ble_eq_true rfl⟩ [] (Nat.le_of_ble_eq_true rfl) dL_law_542 rfl (fun rv0 u0 hp0 => ?_)
  obtain ⟨z0, S0, hv0, hu0, hn0, hs0⟩ := hp0
  refine k_sk (sk' := [.int (iI z0)]) (by rw [hv0]; rfl) ?_
  refine k_st (S0, M) (by rw [hu0]) ?_
  refine k_aload_n hE dL_law_545 2 rfl rfl ?_
  refine k_aload_n hE dL_law_546 0 rfl rfl ?_
  refine k_iload_n hE dL_law_547 3 rfl rfl ?_
  refine k_iconst hE dL_law_548 ?_
  refine k_iadd hE dL_law_549 ?_
  refine hS.1 _ (i + 1) _ _ _ dL_law_550 (by omega) (by omega) ?_
  refine k_callVR hE xw_ads mw_ads rfl (c_X7_can M X (xs (i + 1)) hR.2.2.2.1 hR.1 hR.2.2.2.2.2.2.2.2 (hx (i + 1) (by omega) (by omega))) mf_X7_can ml_L_67 0 rfl rfl rfl rfl ⟨rfl, rfl, Nat.le_of_ble_eq_true rfl, Nat.le_of_ble_eq_true rfl⟩ [.int (iI z0)] (Nat.le_of_ble_eq_true rfl) dL_law_551 rfl (fun rv1 u1 hp1 => ?_)
  obtain ⟨z1, S1, hv1, hu1, hn1, hs1⟩ := hp1
  have e1 := CN_uni hn0 hn1
  have r1 := RL_q hR hs0 hs1.y
  refine k_sk (sk' := [.int (iI z0), .int (iI z0)]) (by rw [hv1, ← e1]; rfl) ?_
  refine k_st (S0, S1) (by rw [hu1]) ?_
  refine k_icmp_same hE 1212 dL_law_554 (by decide) ?_
  exact k _ _ r1
theorem L_start {ad : Nat → Nat} {ta sa ca : Int → Nat} {md : Nat → Nat} {D : va_G} {cI cT cS cZ : ClassId} {G : Heap → List Loc → JFrame → Prop} {H0 : Heap} {m : MethodId} {b : Nat} {L : Int} {xs : Int → Int} (hE : KE (wpair (xw ad ta sa ca D cI cT cS) (mw md D cI cZ)) G H0 m cL_law RL 4 room_1) (hS : KS (wpair (xw ad ta sa ca D cI cT cS) (mw md D cI cZ)) G H0 m 4 cL_law b L xs) {i : Int} (h0 : 0 ≤ i) (h1 : i + 6 ≤ L) (hx : ∀ j : Int, 0 ≤ j → j < L → -2147483648 ≤ xs j ∧ xs j < 2147483648) {X M : Sg} (hR : RLx X M) (k : ∀ X2 M2 : Sg, RLx X2 M2 → KW (wpair (xw ad ta sa ca D cI cT cS) (mw md D cI cZ)) G H0 m 4 (X2, M2) 1212 [(0, .ref b), (1, .ref (ad 0)), (2, .ref (md 0)), (3, .int (iI i))] []) : KW (wpair (xw ad ta sa ca D cI cT cS) (mw md D cI cZ)) G H0 m 4 (X, M) 559 [(0, .ref b), (1, .ref (ad 0)), (2, .ref (md 0)), (3, .int (iI i))] [] := by
  refine k_aload_n hE dL_law_559 1 rfl rfl ?_
  refine k_aload_n hE dL_law_560 0 rfl rfl ?_
  refine k_iload_n hE dL_law_561 3 rfl rfl ?_
  refine k_iconst hE dL_law_562 ?_
  refine k_iadd hE dL_law_563 ?_
  refine hS.1 _ (i + 1) _ _ _ dL_law_564 (by omega) (by omega) ?_
  refine k_callVL hE xw_ads mw_ads rfl (c_X6_start X X (xs (i + 1)) (Ag.refl X) hR.1 (hx (i + 1) (by omega) (by omega))) mf_X6_start ml_L_68 0 rfl rfl rfl rfl ⟨rfl, rfl, Nat.le_of_ble_eq_true rfl, Nat.le_of_ble_eq_true rfl⟩ [] (Nat.le_of_ble_eq_true rfl) dL_law_565 rfl (fun rv0 u0 hp0 => ?_)
  obtain ⟨z0, S0, hv0, hu0, hn0, hs0⟩ := hp0
  refine k_sk (sk' := [.int (iI z0)]) (by rw [hv0]; rfl) ?_
  refine k_st (S0, M) (by rw [hu0]) ?_
  refine k_aload_n hE dL_law_568 2 rfl rfl ?_
  refine k_aload_n hE dL_law_569 0 rfl rfl ?_
  refine k_iload_n hE dL_law_570 3 rfl rfl ?_
  refine k_iconst hE dL_law_571 ?_
  refine k_iadd hE dL_law_572 ?_
  refine hS.1 _ (i + 1) _ _ _ dL_law_573 (by omega) (by omega) ?_
  refine k_callVR hE xw_ads mw_ads rfl (c_X7_start M X (xs (i + 1)) hR.2.2.2.1 hR.1 hR.2.2.2.2.2.2.2.2 (hx (i + 1) (by omega) (by omega))) mf_X7_start ml_L_71 0 rfl rfl rfl rfl ⟨rfl, rfl, Nat.le_of_ble_eq_true rfl, Nat.le_of_ble_eq_true rfl⟩ [.int (iI z0)] (Nat.le_of_ble_eq_true rfl) dL_law_574 rfl (fun rv1 u1 hp1 => ?_)
  obtain ⟨z1, S1, hv1, hu1, hn1, hs1⟩ := hp1
  have e1 := SA_uni hn0 hn1
  have r1 := RL_q hR hs0 hs1.y
  refine k_sk (sk' := [.int (iI z0), .int (iI z0)]) (by rw [hv1, ← e1]; rfl) ?_
  refine k_st (S0, S1) (by rw [hu1]) ?_
  refine k_icmp_same hE 1212 dL_law_577 (by decide) ?_
  exact k _ _ r1
theorem L_best {ad : Nat → Nat} {ta sa ca : Int → Nat} {md : Nat → Nat} {D : va_G} {cI cT cS cZ : ClassId} {G : Heap → List Loc → JFrame → Prop} {H0 : Heap} {m : MethodId} {b : Nat} {L : Int} {xs : Int → Int} (hE : KE (wpair (xw ad ta sa ca D cI cT cS) (mw md D cI cZ)) G H0 m cL_law RL 4 room_1) (hS : KS (wpair (xw ad ta sa ca D cI cT cS) (mw md D cI cZ)) G H0 m 4 cL_law b L xs) {i : Int} (h0 : 0 ≤ i) (h1 : i + 6 ≤ L) (hx : ∀ j : Int, 0 ≤ j → j < L → -2147483648 ≤ xs j ∧ xs j < 2147483648) {X M : Sg} (hR : RLx X M) (k : ∀ X2 M2 : Sg, RLx X2 M2 → KW (wpair (xw ad ta sa ca D cI cT cS) (mw md D cI cZ)) G H0 m 4 (X2, M2) 1212 [(0, .ref b), (1, .ref (ad 0)), (2, .ref (md 0)), (3, .int (iI i))] []) : KW (wpair (xw ad ta sa ca D cI cT cS) (mw md D cI cZ)) G H0 m 4 (X, M) 582 [(0, .ref b), (1, .ref (ad 0)), (2, .ref (md 0)), (3, .int (iI i))] [] := by
  refine k_aload_n hE dL_law_582 1 rfl rfl ?_
  refine k_aload_n hE dL_law_583 0 rfl rfl ?_
  refine k_iload_n hE dL_law_584 3 rfl rfl ?_
  refine k_iconst hE dL_law_585 ?_
  refine k_iadd hE dL_law_586 ?_
  refine hS.1 _ (i + 1) _ _ _ dL_law_587 (by omega) (by omega) ?_
  refine k_aload_n hE dL_law_588 0 rfl rfl ?_
  refine k_iload_n hE dL_law_589 3 rfl rfl ?_
  refine k_iconst hE dL_law_590 ?_
  refine k_iadd hE dL_law_591 ?_
  refine hS.1 _ (i + 2) _ _ _ dL_law_592 (by omega) (by omega) ?_
  refine k_callVL hE xw_ads mw_ads rfl (c_X6_best X X (xs (i + 1)) (xs (i + 2)) (Ag.refl X) hR.1 (hx (i + 1) (by omega) (by omega)) (hx (i + 2) (by omega) (by omega))) mf_X6_best ml_L_72 0 rfl rfl rfl rfl ⟨rfl, rfl, Nat.le_of_ble_eq_true rfl, Nat.le_of_ble_eq_true rfl⟩ [] (Nat.le_of_ble_eq_true rfl) dL_law_593 rfl (fun rv0 u0 hp0 => ?_)
  obtain ⟨z0, S0, hv0, hu0, hn0, hs0⟩ := hp0
  refine k_sk (sk' := [.int (iI z0)]) (by rw [hv0]; rfl) ?_
  refine k_st (S0, M) (by rw [hu0]) ?_
  refine k_aload_n hE dL_law_596 2 rfl rfl ?_
  refine k_aload_n hE dL_law_597 0 rfl rfl ?_
  refine k_iload_n hE dL_law_598 3 rfl rfl ?_
  refine k_iconst hE dL_law_599 ?_
  refine k_iadd hE dL_law_600 ?_
  refine hS.1 _ (i + 1) _ _ _ dL_law_601 (by omega) (by omega) ?_
  refine k_aload_n hE dL_law_602 0 rfl rfl ?_
  refine k_iload_n hE dL_law_603 3 rfl rfl ?_
  refine k_iconst hE dL_law_604 ?_
  refine k_iadd hE dL_law_605 ?_
  refine hS.1 _ (i + 2) _ _ _ dL_law_606 (by omega) (by omega) ?_
  refine k_callVR hE xw_ads mw_ads rfl (c_X7_best M X (xs (i + 1)) (xs (i + 2)) hR.2.2.2.1 hR.1 hR.2.2.2.2.2.2.2.2 (hx (i + 1) (by omega) (by omega)) (hx (i + 2) (by omega) (by omega))) mf_X7_best ml_L_75 0 rfl rfl rfl rfl ⟨rfl, rfl, Nat.le_of_ble_eq_true rfl, Nat.le_of_ble_eq_true rfl⟩ [.int (iI z0)] (Nat.le_of_ble_eq_true rfl) dL_law_607 rfl (fun rv1 u1 hp1 => ?_)
  obtain ⟨z1, S1, hv1, hu1, hn1, hs1⟩ := hp1
  have e1 := BE_uni hn0 hn1
  have r1 := RL_q hR hs0 hs1.y
  refine k_sk (sk' := [.int (iI z0), .int (iI z0)]) (by rw [hv1, ← e1]; rfl) ?_
  refine k_st (S0, S1) (by rw [hu1]) ?_
  refine k_icmp_same hE 1212 dL_law_610 (by decide) ?_
  exact k _ _ r1
theorem L_highest {ad : Nat → Nat} {ta sa ca : Int → Nat} {md : Nat → Nat} {D : va_G} {cI cT cS cZ : ClassId} {G : Heap → List Loc → JFrame → Prop} {H0 : Heap} {m : MethodId} {b : Nat} {L : Int} {xs : Int → Int} (hE : KE (wpair (xw ad ta sa ca D cI cT cS) (mw md D cI cZ)) G H0 m cL_law RL 4 room_1) (hS : KS (wpair (xw ad ta sa ca D cI cT cS) (mw md D cI cZ)) G H0 m 4 cL_law b L xs) {i : Int} (h0 : 0 ≤ i) (h1 : i + 6 ≤ L) (hx : ∀ j : Int, 0 ≤ j → j < L → -2147483648 ≤ xs j ∧ xs j < 2147483648) {X M : Sg} (hR : RLx X M) (k : ∀ X2 M2 : Sg, RLx X2 M2 → KW (wpair (xw ad ta sa ca D cI cT cS) (mw md D cI cZ)) G H0 m 4 (X2, M2) 1212 [(0, .ref b), (1, .ref (ad 0)), (2, .ref (md 0)), (3, .int (iI i))] []) : KW (wpair (xw ad ta sa ca D cI cT cS) (mw md D cI cZ)) G H0 m 4 (X, M) 615 [(0, .ref b), (1, .ref (ad 0)), (2, .ref (md 0)), (3, .int (iI i))] [] := by
  refine k_aload_n hE dL_law_615 1 rfl rfl ?_
  refine k_aload_n hE dL_law_616 0 rfl rfl ?_
  refine k_iload_n hE dL_law_617 3 rfl rfl ?_
  refine k_iconst hE dL_law_618 ?_
  refine k_iadd hE dL_law_619 ?_
  refine hS.1 _ (i + 1) _ _ _ dL_law_620 (by omega) (by omega) ?_
  refine k_aload_n hE dL_law_621 0 rfl rfl ?_
  refine k_iload_n hE dL_law_622 3 rfl rfl ?_
  refine k_iconst hE dL_law_623 ?_
  refine k_iadd hE dL_law_624 ?_
  refine hS.1 _ (i + 2) _ _ _ dL_law_625 (by omega) (by omega) ?_
  refine k_callVL hE xw_ads mw_ads rfl (c_X6_highest X X (xs (i + 1)) (xs (i + 2)) (Ag.refl X) hR.1 (hx (i + 1) (by omega) (by omega)) (hx (i + 2) (by omega) (by omega))) mf_X6_highest ml_L_76 0 rfl rfl rfl rfl ⟨rfl, rfl, Nat.le_of_ble_eq_true rfl, Nat.le_of_ble_eq_true rfl⟩ [] (Nat.le_of_ble_eq_true rfl) dL_law_626 rfl (fun rv0 u0 hp0 => ?_)
  obtain ⟨z0, S0, hv0, hu0, hn0, hs0⟩ := hp0
  refine k_sk (sk' := [.int (iI z0)]) (by rw [hv0]; rfl) ?_
  refine k_st (S0, M) (by rw [hu0]) ?_
  refine k_aload_n hE dL_law_629 2 rfl rfl ?_
  refine k_aload_n hE dL_law_630 0 rfl rfl ?_
  refine k_iload_n hE dL_law_631 3 rfl rfl ?_
  refine k_iconst hE dL_law_632 ?_
  refine k_iadd hE dL_law_633 ?_
  refine hS.1 _ (i + 1) _ _ _ dL_law_634 (by omega) (by omega) ?_
  refine k_aload_n hE dL_law_635 0 rfl rfl ?_
  refine k_iload_n hE dL_law_636 3 rfl rfl ?_
  refine k_iconst hE dL_law_637 ?_
  refine k_iadd hE dL_law_638 ?_
  refine hS.1 _ (i + 2) _ _ _ dL_law_639 (by omega) (by omega) ?_
  refine k_callVR hE xw_ads mw_ads rfl (c_X7_highest M X (xs (i + 1)) (xs (i + 2)) hR.2.2.2.1 hR.1 hR.2.2.2.2.2.2.2.2 (hx (i + 1) (by omega) (by omega)) (hx (i + 2) (by omega) (by omega))) mf_X7_highest ml_L_79 0 rfl rfl rfl rfl ⟨rfl, rfl, Nat.le_of_ble_eq_true rfl, Nat.le_of_ble_eq_true rfl⟩ [.int (iI z0)] (Nat.le_of_ble_eq_true rfl) dL_law_640 rfl (fun rv1 u1 hp1 => ?_)
  obtain ⟨z1, S1, hv1, hu1, hn1, hs1⟩ := hp1
  have e1 := HI_uni hn0 hn1
  have r1 := RL_q hR hs0 hs1.y
  refine k_sk (sk' := [.int (iI z0), .int (iI z0)]) (by rw [hv1, ← e1]; rfl) ?_
  refine k_st (S0, S1) (by rw [hu1]) ?_
  refine k_icmp_same hE 1212 dL_law_643 (by decide) ?_
  exact k _ _ r1
theorem L_worst {ad : Nat → Nat} {ta sa ca : Int → Nat} {md : Nat → Nat} {D : va_G} {cI cT cS cZ : ClassId} {G : Heap → List Loc → JFrame → Prop} {H0 : Heap} {m : MethodId} {b : Nat} {L : Int} {xs : Int → Int} (hE : KE (wpair (xw ad ta sa ca D cI cT cS) (mw md D cI cZ)) G H0 m cL_law RL 4 room_1) (hS : KS (wpair (xw ad ta sa ca D cI cT cS) (mw md D cI cZ)) G H0 m 4 cL_law b L xs) {i : Int} (h0 : 0 ≤ i) (h1 : i + 6 ≤ L) (hx : ∀ j : Int, 0 ≤ j → j < L → -2147483648 ≤ xs j ∧ xs j < 2147483648) {X M : Sg} (hR : RLx X M) (k : ∀ X2 M2 : Sg, RLx X2 M2 → KW (wpair (xw ad ta sa ca D cI cT cS) (mw md D cI cZ)) G H0 m 4 (X2, M2) 1212 [(0, .ref b), (1, .ref (ad 0)), (2, .ref (md 0)), (3, .int (iI i))] []) : KW (wpair (xw ad ta sa ca D cI cT cS) (mw md D cI cZ)) G H0 m 4 (X, M) 648 [(0, .ref b), (1, .ref (ad 0)), (2, .ref (md 0)), (3, .int (iI i))] [] := by
  refine k_aload_n hE dL_law_648 1 rfl rfl ?_
  refine k_aload_n hE dL_law_649 0 rfl rfl ?_
  refine k_iload_n hE dL_law_650 3 rfl rfl ?_
  refine k_iconst hE dL_law_651 ?_
  refine k_iadd hE dL_law_652 ?_
  refine hS.1 _ (i + 1) _ _ _ dL_law_653 (by omega) (by omega) ?_
  refine k_aload_n hE dL_law_654 0 rfl rfl ?_
  refine k_iload_n hE dL_law_655 3 rfl rfl ?_
  refine k_iconst hE dL_law_656 ?_
  refine k_iadd hE dL_law_657 ?_
  refine hS.1 _ (i + 2) _ _ _ dL_law_658 (by omega) (by omega) ?_
  refine k_callVL hE xw_ads mw_ads rfl (c_X6_worst X X (xs (i + 1)) (xs (i + 2)) (Ag.refl X) hR.1 (hx (i + 1) (by omega) (by omega)) (hx (i + 2) (by omega) (by omega))) mf_X6_worst ml_L_80 0 rfl rfl rfl rfl ⟨rfl, rfl, Nat.le_of_ble_eq_true rfl, Nat.le_of_ble_eq_true rfl⟩ [] (Nat.le_of_ble_eq_true rfl) dL_law_659 rfl (fun rv0 u0 hp0 => ?_)
  obtain ⟨z0, S0, hv0, hu0, hn0, hs0⟩ := hp0
  refine k_sk (sk' := [.long z0]) (by rw [hv0]; rfl) ?_
  refine k_st (S0, M) (by rw [hu0]) ?_
  refine k_aload_n hE dL_law_662 2 rfl rfl ?_
  refine k_aload_n hE dL_law_663 0 rfl rfl ?_
  refine k_iload_n hE dL_law_664 3 rfl rfl ?_
  refine k_iconst hE dL_law_665 ?_
  refine k_iadd hE dL_law_666 ?_
  refine hS.1 _ (i + 1) _ _ _ dL_law_667 (by omega) (by omega) ?_
  refine k_aload_n hE dL_law_668 0 rfl rfl ?_
  refine k_iload_n hE dL_law_669 3 rfl rfl ?_
  refine k_iconst hE dL_law_670 ?_
  refine k_iadd hE dL_law_671 ?_
  refine hS.1 _ (i + 2) _ _ _ dL_law_672 (by omega) (by omega) ?_
  refine k_callVR hE xw_ads mw_ads rfl (c_X7_worst M X (xs (i + 1)) (xs (i + 2)) hR.2.2.2.1 hR.1 hR.2.2.2.2.2.2.2.2 (hx (i + 1) (by omega) (by omega)) (hx (i + 2) (by omega) (by omega))) mf_X7_worst ml_L_84 0 rfl rfl rfl rfl ⟨rfl, rfl, Nat.le_of_ble_eq_true rfl, Nat.le_of_ble_eq_true rfl⟩ [.long z0] (Nat.le_of_ble_eq_true rfl) dL_law_673 rfl (fun rv1 u1 hp1 => ?_)
  obtain ⟨z1, S1, hv1, hu1, hn1, hs1⟩ := hp1
  have e1 := WO_uni hn0 hn1
  have r1 := RL_q hR hs0 hs1.y
  refine k_sk (sk' := [.long z0, .long z0]) (by rw [hv1, ← e1]; rfl) ?_
  refine k_st (S0, S1) (by rw [hu1]) ?_
  refine k_lcmp_same hE dL_law_676 ?_
  refine k_if_eq hE 1212 dL_law_677 (by decide) in32_0 (fun _ => ?_) (fun h => absurd rfl h)
  exact k _ _ r1
theorem L_risk {ad : Nat → Nat} {ta sa ca : Int → Nat} {md : Nat → Nat} {D : va_G} {cI cT cS cZ : ClassId} {G : Heap → List Loc → JFrame → Prop} {H0 : Heap} {m : MethodId} {b : Nat} {L : Int} {xs : Int → Int} (hE : KE (wpair (xw ad ta sa ca D cI cT cS) (mw md D cI cZ)) G H0 m cL_law RL 4 room_1) (hS : KS (wpair (xw ad ta sa ca D cI cT cS) (mw md D cI cZ)) G H0 m 4 cL_law b L xs) {i : Int} (h0 : 0 ≤ i) (h1 : i + 6 ≤ L) (hx : ∀ j : Int, 0 ≤ j → j < L → -2147483648 ≤ xs j ∧ xs j < 2147483648) {X M : Sg} (hR : RLx X M) (k : ∀ X2 M2 : Sg, RLx X2 M2 → KW (wpair (xw ad ta sa ca D cI cT cS) (mw md D cI cZ)) G H0 m 4 (X2, M2) 1212 [(0, .ref b), (1, .ref (ad 0)), (2, .ref (md 0)), (3, .int (iI i))] []) : KW (wpair (xw ad ta sa ca D cI cT cS) (mw md D cI cZ)) G H0 m 4 (X, M) 682 [(0, .ref b), (1, .ref (ad 0)), (2, .ref (md 0)), (3, .int (iI i))] [] := by
  refine k_aload_n hE dL_law_682 1 rfl rfl ?_
  refine k_aload_n hE dL_law_683 0 rfl rfl ?_
  refine k_iload_n hE dL_law_684 3 rfl rfl ?_
  refine k_iconst hE dL_law_685 ?_
  refine k_iadd hE dL_law_686 ?_
  refine hS.1 _ (i + 1) _ _ _ dL_law_687 (by omega) (by omega) ?_
  refine k_aload_n hE dL_law_688 0 rfl rfl ?_
  refine k_iload_n hE dL_law_689 3 rfl rfl ?_
  refine k_iconst hE dL_law_690 ?_
  refine k_iadd hE dL_law_691 ?_
  refine hS.1 _ (i + 2) _ _ _ dL_law_692 (by omega) (by omega) ?_
  refine k_aload_n hE dL_law_693 0 rfl rfl ?_
  refine k_iload_n hE dL_law_694 3 rfl rfl ?_
  refine k_iconst hE dL_law_695 ?_
  refine k_iadd hE dL_law_696 ?_
  refine hS.1 _ (i + 3) _ _ _ dL_law_697 (by omega) (by omega) ?_
  refine k_aload_n hE dL_law_698 0 rfl rfl ?_
  refine k_iload_n hE dL_law_699 3 rfl rfl ?_
  refine k_iconst hE dL_law_700 ?_
  refine k_iadd hE dL_law_701 ?_
  refine hS.1 _ (i + 4) _ _ _ dL_law_702 (by omega) (by omega) ?_
  refine k_aload_n hE dL_law_703 0 rfl rfl ?_
  refine k_iload_n hE dL_law_704 3 rfl rfl ?_
  refine k_iconst hE dL_law_705 ?_
  refine k_iadd hE dL_law_706 ?_
  refine hS.1 _ (i + 5) _ _ _ dL_law_707 (by omega) (by omega) ?_
  refine k_callVL hE xw_ads mw_ads rfl (c_X6_risk X X (xs (i + 1)) (xs (i + 2)) (xs (i + 3)) (xs (i + 4)) (xs (i + 5)) (Ag.refl X) hR.1 (hx (i + 1) (by omega) (by omega)) (hx (i + 2) (by omega) (by omega)) (hx (i + 3) (by omega) (by omega)) (hx (i + 4) (by omega) (by omega)) (hx (i + 5) (by omega) (by omega))) mf_X6_risk ml_L_85 0 rfl rfl rfl rfl ⟨rfl, rfl, Nat.le_of_ble_eq_true rfl, Nat.le_of_ble_eq_true rfl⟩ [] (Nat.le_of_ble_eq_true rfl) dL_law_708 rfl (fun rv0 u0 hp0 => ?_)
  obtain ⟨z0, S0, hv0, hu0, hn0, hs0⟩ := hp0
  refine k_sk (sk' := [.long z0]) (by rw [hv0]; rfl) ?_
  refine k_st (S0, M) (by rw [hu0]) ?_
  refine k_aload_n hE dL_law_711 2 rfl rfl ?_
  refine k_aload_n hE dL_law_712 0 rfl rfl ?_
  refine k_iload_n hE dL_law_713 3 rfl rfl ?_
  refine k_iconst hE dL_law_714 ?_
  refine k_iadd hE dL_law_715 ?_
  refine hS.1 _ (i + 1) _ _ _ dL_law_716 (by omega) (by omega) ?_
  refine k_aload_n hE dL_law_717 0 rfl rfl ?_
  refine k_iload_n hE dL_law_718 3 rfl rfl ?_
  refine k_iconst hE dL_law_719 ?_
  refine k_iadd hE dL_law_720 ?_
  refine hS.1 _ (i + 2) _ _ _ dL_law_721 (by omega) (by omega) ?_
  refine k_aload_n hE dL_law_722 0 rfl rfl ?_
  refine k_iload_n hE dL_law_723 3 rfl rfl ?_
  refine k_iconst hE dL_law_724 ?_
  refine k_iadd hE dL_law_725 ?_
  refine hS.1 _ (i + 3) _ _ _ dL_law_726 (by omega) (by omega) ?_
  refine k_aload_n hE dL_law_727 0 rfl rfl ?_
  refine k_iload_n hE dL_law_728 3 rfl rfl ?_
  refine k_iconst hE dL_law_729 ?_
  refine k_iadd hE dL_law_730 ?_
  refine hS.1 _ (i + 4) _ _ _ dL_law_731 (by omega) (by omega) ?_
  refine k_aload_n hE dL_law_732 0 rfl rfl ?_
  refine k_iload_n hE dL_law_733 3 rfl rfl ?_
  refine k_iconst hE dL_law_734 ?_
  refine k_iadd hE dL_law_735 ?_
  refine hS.1 _ (i + 5) _ _ _ dL_law_736 (by omega) (by omega) ?_
  refine k_callVR hE xw_ads mw_ads rfl (c_X7_risk M X (xs (i + 1)) (xs (i + 2)) (xs (i + 3)) (xs (i + 4)) (xs (i + 5)) hR.2.2.2.1 hR.1 hR.2.2.2.2.2.2.2.2 (hx (i + 1) (by omega) (by omega)) (hx (i + 2) (by omega) (by omega)) (hx (i + 3) (by omega) (by omega)) (hx (i + 4) (by omega) (by omega)) (hx (i + 5) (by omega) (by omega))) mf_X7_risk ml_L_89 0 rfl rfl rfl rfl ⟨rfl, rfl, Nat.le_of_ble_eq_true rfl, Nat.le_of_ble_eq_true rfl⟩ [.long z0] (Nat.le_of_ble_eq_true rfl) dL_law_737 rfl (fun rv1 u1 hp1 => ?_)
  obtain ⟨z1, S1, hv1, hu1, hn1, hs1⟩ := hp1
  have e1 := RK_uni hn0 hn1
  have r1 := RL_q hR hs0 hs1
  refine k_sk (sk' := [.long z0, .long z0]) (by rw [hv1, ← e1]; rfl) ?_
  refine k_st (S0, S1) (by rw [hu1]) ?_
  refine k_lcmp_same hE dL_law_740 ?_
  refine k_if_eq hE 1212 dL_law_741 (by decide) in32_0 (fun _ => ?_) (fun h => absurd rfl h)
  exact k _ _ r1
theorem L_mark {ad : Nat → Nat} {ta sa ca : Int → Nat} {md : Nat → Nat} {D : va_G} {cI cT cS cZ : ClassId} {G : Heap → List Loc → JFrame → Prop} {H0 : Heap} {m : MethodId} {b : Nat} {L : Int} {xs : Int → Int} (hE : KE (wpair (xw ad ta sa ca D cI cT cS) (mw md D cI cZ)) G H0 m cL_law RL 4 room_1) (hS : KS (wpair (xw ad ta sa ca D cI cT cS) (mw md D cI cZ)) G H0 m 4 cL_law b L xs) {i : Int} (h0 : 0 ≤ i) (h1 : i + 6 ≤ L) (hx : ∀ j : Int, 0 ≤ j → j < L → -2147483648 ≤ xs j ∧ xs j < 2147483648) {X M : Sg} (hR : RLx X M) (k : ∀ X2 M2 : Sg, RLx X2 M2 → KW (wpair (xw ad ta sa ca D cI cT cS) (mw md D cI cZ)) G H0 m 4 (X2, M2) 1212 [(0, .ref b), (1, .ref (ad 0)), (2, .ref (md 0)), (3, .int (iI i))] []) : KW (wpair (xw ad ta sa ca D cI cT cS) (mw md D cI cZ)) G H0 m 4 (X, M) 746 [(0, .ref b), (1, .ref (ad 0)), (2, .ref (md 0)), (3, .int (iI i))] [] := by
  refine k_aload_n hE dL_law_746 1 rfl rfl ?_
  refine k_aload_n hE dL_law_747 0 rfl rfl ?_
  refine k_iload_n hE dL_law_748 3 rfl rfl ?_
  refine k_iconst hE dL_law_749 ?_
  refine k_iadd hE dL_law_750 ?_
  refine hS.1 _ (i + 1) _ _ _ dL_law_751 (by omega) (by omega) ?_
  refine k_aload_n hE dL_law_752 0 rfl rfl ?_
  refine k_iload_n hE dL_law_753 3 rfl rfl ?_
  refine k_iconst hE dL_law_754 ?_
  refine k_iadd hE dL_law_755 ?_
  refine hS.1 _ (i + 2) _ _ _ dL_law_756 (by omega) (by omega) ?_
  refine k_callVL hE xw_ads mw_ads rfl (c_X6_mark X X (xs (i + 1)) (xs (i + 2)) (Ag.refl X) hR.1 (hx (i + 1) (by omega) (by omega)) (hx (i + 2) (by omega) (by omega))) mf_X6_mark ml_L_90 0 rfl rfl rfl rfl ⟨rfl, rfl, Nat.le_of_ble_eq_true rfl, Nat.le_of_ble_eq_true rfl⟩ [] (Nat.le_of_ble_eq_true rfl) dL_law_757 rfl (fun rv0 u0 hp0 => ?_)
  obtain ⟨z0, S0, hv0, hu0, hz0⟩ := hp0
  refine k_sk (sk' := [.int (iI z0)]) (by rw [hv0]; rfl) ?_
  refine k_st (S0, M) (by rw [hu0]) ?_
  refine k_aload_n hE dL_law_760 2 rfl rfl ?_
  refine k_aload_n hE dL_law_761 0 rfl rfl ?_
  refine k_iload_n hE dL_law_762 3 rfl rfl ?_
  refine k_iconst hE dL_law_763 ?_
  refine k_iadd hE dL_law_764 ?_
  refine hS.1 _ (i + 1) _ _ _ dL_law_765 (by omega) (by omega) ?_
  refine k_aload_n hE dL_law_766 0 rfl rfl ?_
  refine k_iload_n hE dL_law_767 3 rfl rfl ?_
  refine k_iconst hE dL_law_768 ?_
  refine k_iadd hE dL_law_769 ?_
  refine hS.1 _ (i + 2) _ _ _ dL_law_770 (by omega) (by omega) ?_
  refine k_callVR hE xw_ads mw_ads rfl (c_X7_mark M X (xs (i + 1)) (xs (i + 2)) hR.2.2.2.1 hR.1 hR.2.2.2.2.2.2.2.2 (hx (i + 1) (by omega) (by omega)) (hx (i + 2) (by omega) (by omega))) mf_X7_mark ml_L_93 0 rfl rfl rfl rfl ⟨rfl, rfl, Nat.le_of_ble_eq_true rfl, Nat.le_of_ble_eq_true rfl⟩ [.int (iI z0)] (Nat.le_of_ble_eq_true rfl) dL_law_771 rfl (fun rv1 u1 hp1 => ?_)
  obtain ⟨z1, S1, hv1, hu1, hz1⟩ := hp1
  have e1 := S_mark hR hz0 hz1
  refine k_sk (sk' := [.int (iI z0), .int (iI z0)]) (by rw [hv1, ← e1.1]; rfl) ?_
  refine k_st (S0, S1) (by rw [hu1]) ?_
  refine k_icmp_same hE 1212 dL_law_774 (by decide) ?_
  exact k _ _ e1.2
theorem L_back {ad : Nat → Nat} {ta sa ca : Int → Nat} {md : Nat → Nat} {D : va_G} {cI cT cS cZ : ClassId} {G : Heap → List Loc → JFrame → Prop} {H0 : Heap} {m : MethodId} {b : Nat} {L : Int} {xs : Int → Int} (hE : KE (wpair (xw ad ta sa ca D cI cT cS) (mw md D cI cZ)) G H0 m cL_law RL 4 room_1) (hS : KS (wpair (xw ad ta sa ca D cI cT cS) (mw md D cI cZ)) G H0 m 4 cL_law b L xs) {i : Int} (h0 : 0 ≤ i) (h1 : i + 6 ≤ L) (hx : ∀ j : Int, 0 ≤ j → j < L → -2147483648 ≤ xs j ∧ xs j < 2147483648) {X M : Sg} (hR : RLx X M) (k : ∀ X2 M2 : Sg, RLx X2 M2 → KW (wpair (xw ad ta sa ca D cI cT cS) (mw md D cI cZ)) G H0 m 4 (X2, M2) 1212 [(0, .ref b), (1, .ref (ad 0)), (2, .ref (md 0)), (3, .int (iI i))] []) : KW (wpair (xw ad ta sa ca D cI cT cS) (mw md D cI cZ)) G H0 m 4 (X, M) 779 [(0, .ref b), (1, .ref (ad 0)), (2, .ref (md 0)), (3, .int (iI i))] [] := by
  refine k_aload_n hE dL_law_779 1 rfl rfl ?_
  refine k_aload_n hE dL_law_780 0 rfl rfl ?_
  refine k_iload_n hE dL_law_781 3 rfl rfl ?_
  refine k_iconst hE dL_law_782 ?_
  refine k_iadd hE dL_law_783 ?_
  refine hS.1 _ (i + 1) _ _ _ dL_law_784 (by omega) (by omega) ?_
  refine k_callVL hE xw_ads mw_ads rfl (c_X6_back X X (xs (i + 1)) (Ag.refl X) hR.1 (hx (i + 1) (by omega) (by omega))) mf_X6_back ml_L_94 0 rfl rfl rfl rfl ⟨rfl, rfl, Nat.le_of_ble_eq_true rfl, Nat.le_of_ble_eq_true rfl⟩ [] (Nat.le_of_ble_eq_true rfl) dL_law_785 rfl (fun rv0 u0 hp0 => ?_)
  obtain ⟨z0, S0, hv0, hu0, hz0⟩ := hp0
  refine k_sk (sk' := [.int (iI z0)]) (by rw [hv0]; rfl) ?_
  refine k_st (S0, M) (by rw [hu0]) ?_
  refine k_aload_n hE dL_law_788 2 rfl rfl ?_
  refine k_aload_n hE dL_law_789 0 rfl rfl ?_
  refine k_iload_n hE dL_law_790 3 rfl rfl ?_
  refine k_iconst hE dL_law_791 ?_
  refine k_iadd hE dL_law_792 ?_
  refine hS.1 _ (i + 1) _ _ _ dL_law_793 (by omega) (by omega) ?_
  refine k_callVR hE xw_ads mw_ads rfl (c_X7_back M X (xs (i + 1)) hR.2.2.2.1 hR.1 hR.2.2.2.2.2.2.2.2 (hx (i + 1) (by omega) (by omega))) mf_X7_back ml_L_97 0 rfl rfl rfl rfl ⟨rfl, rfl, Nat.le_of_ble_eq_true rfl, Nat.le_of_ble_eq_true rfl⟩ [.int (iI z0)] (Nat.le_of_ble_eq_true rfl) dL_law_794 rfl (fun rv1 u1 hp1 => ?_)
  obtain ⟨z1, S1, hv1, hu1, hz1⟩ := hp1
  have e1 := S_back hR hz0 hz1
  refine k_sk (sk' := [.int (iI z0), .int (iI z0)]) (by rw [hv1, ← e1.1]; rfl) ?_
  refine k_st (S0, S1) (by rw [hu1]) ?_
  refine k_icmp_same hE 1212 dL_law_797 (by decide) ?_
  exact k _ _ e1.2
theorem L_rains {ad : Nat → Nat} {ta sa ca : Int → Nat} {md : Nat → Nat} {D : va_G} {cI cT cS cZ : ClassId} {G : Heap → List Loc → JFrame → Prop} {H0 : Heap} {m : MethodId} {b : Nat} {L : Int} {xs : Int → Int} (hE : KE (wpair (xw ad ta sa ca D cI cT cS) (mw md D cI cZ)) G H0 m cL_law RL 4 room_1) (hS : KS (wpair (xw ad ta sa ca D cI cT cS) (mw md D cI cZ)) G H0 m 4 cL_law b L xs) {i : Int} (h0 : 0 ≤ i) (h1 : i + 6 ≤ L) (hx : ∀ j : Int, 0 ≤ j → j < L → -2147483648 ≤ xs j ∧ xs j < 2147483648) {X M : Sg} (hR : RLx X M) (k : ∀ X2 M2 : Sg, RLx X2 M2 → KW (wpair (xw ad ta sa ca D cI cT cS) (mw md D cI cZ)) G H0 m 4 (X2, M2) 1212 [(0, .ref b), (1, .ref (ad 0)), (2, .ref (md 0)), (3, .int (iI i))] []) : KW (wpair (xw ad ta sa ca D cI cT cS) (mw md D cI cZ)) G H0 m 4 (X, M) 802 [(0, .ref b), (1, .ref (ad 0)), (2, .ref (md 0)), (3, .int (iI i))] [] := by
  refine k_aload_n hE dL_law_802 1 rfl rfl ?_
  refine k_aload_n hE dL_law_803 0 rfl rfl ?_
  refine k_iload_n hE dL_law_804 3 rfl rfl ?_
  refine k_iconst hE dL_law_805 ?_
  refine k_iadd hE dL_law_806 ?_
  refine hS.1 _ (i + 1) _ _ _ dL_law_807 (by omega) (by omega) ?_
  refine k_aload_n hE dL_law_808 0 rfl rfl ?_
  refine k_iload_n hE dL_law_809 3 rfl rfl ?_
  refine k_iconst hE dL_law_810 ?_
  refine k_iadd hE dL_law_811 ?_
  refine hS.1 _ (i + 2) _ _ _ dL_law_812 (by omega) (by omega) ?_
  refine k_callVL hE xw_ads mw_ads rfl (c_X6_rains X X (xs (i + 1)) (xs (i + 2)) (Ag.refl X) hR.1 (hx (i + 1) (by omega) (by omega)) (hx (i + 2) (by omega) (by omega))) mf_X6_rains ml_L_98 0 rfl rfl rfl rfl ⟨rfl, rfl, Nat.le_of_ble_eq_true rfl, Nat.le_of_ble_eq_true rfl⟩ [] (Nat.le_of_ble_eq_true rfl) dL_law_813 rfl (fun rv0 u0 hp0 => ?_)
  obtain ⟨z0, S0, hv0, hu0, hn0, hs0⟩ := hp0
  refine k_sk (sk' := [.int (iI z0)]) (by rw [hv0]; rfl) ?_
  refine k_st (S0, M) (by rw [hu0]) ?_
  refine k_aload_n hE dL_law_816 2 rfl rfl ?_
  refine k_aload_n hE dL_law_817 0 rfl rfl ?_
  refine k_iload_n hE dL_law_818 3 rfl rfl ?_
  refine k_iconst hE dL_law_819 ?_
  refine k_iadd hE dL_law_820 ?_
  refine hS.1 _ (i + 1) _ _ _ dL_law_821 (by omega) (by omega) ?_
  refine k_aload_n hE dL_law_822 0 rfl rfl ?_
  refine k_iload_n hE dL_law_823 3 rfl rfl ?_
  refine k_iconst hE dL_law_824 ?_
  refine k_iadd hE dL_law_825 ?_
  refine hS.1 _ (i + 2) _ _ _ dL_law_826 (by omega) (by omega) ?_
  refine k_callVR hE xw_ads mw_ads rfl (c_X7_rains M X (xs (i + 1)) (xs (i + 2)) hR.2.2.2.1 hR.1 hR.2.2.2.2.2.2.2.2 (hx (i + 1) (by omega) (by omega)) (hx (i + 2) (by omega) (by omega))) mf_X7_rains ml_L_101 0 rfl rfl rfl rfl ⟨rfl, rfl, Nat.le_of_ble_eq_true rfl, Nat.le_of_ble_eq_true rfl⟩ [.int (iI z0)] (Nat.le_of_ble_eq_true rfl) dL_law_827 rfl (fun rv1 u1 hp1 => ?_)
  obtain ⟨z1, S1, hv1, hu1, hn1, hs1⟩ := hp1
  have e1 := RN_uni hn0 hn1
  have r1 := RL_q hR hs0 hs1
  refine k_sk (sk' := [.int (iI z0), .int (iI z0)]) (by rw [hv1, ← e1]; rfl) ?_
  refine k_st (S0, S1) (by rw [hu1]) ?_
  refine k_icmp_same hE 1212 dL_law_830 (by decide) ?_
  exact k _ _ r1
theorem L_thief {ad : Nat → Nat} {ta sa ca : Int → Nat} {md : Nat → Nat} {D : va_G} {cI cT cS cZ : ClassId} {G : Heap → List Loc → JFrame → Prop} {H0 : Heap} {m : MethodId} {b : Nat} {L : Int} {xs : Int → Int} (hE : KE (wpair (xw ad ta sa ca D cI cT cS) (mw md D cI cZ)) G H0 m cL_law RL 4 room_1) (hS : KS (wpair (xw ad ta sa ca D cI cT cS) (mw md D cI cZ)) G H0 m 4 cL_law b L xs) {i : Int} (h0 : 0 ≤ i) (h1 : i + 6 ≤ L) (hx : ∀ j : Int, 0 ≤ j → j < L → -2147483648 ≤ xs j ∧ xs j < 2147483648) {X M : Sg} (hR : RLx X M) (k : ∀ X2 M2 : Sg, RLx X2 M2 → KW (wpair (xw ad ta sa ca D cI cT cS) (mw md D cI cZ)) G H0 m 4 (X2, M2) 1212 [(0, .ref b), (1, .ref (ad 0)), (2, .ref (md 0)), (3, .int (iI i))] []) : KW (wpair (xw ad ta sa ca D cI cT cS) (mw md D cI cZ)) G H0 m 4 (X, M) 835 [(0, .ref b), (1, .ref (ad 0)), (2, .ref (md 0)), (3, .int (iI i))] [] := by
  refine k_aload_n hE dL_law_835 1 rfl rfl ?_
  refine k_aload_n hE dL_law_836 0 rfl rfl ?_
  refine k_iload_n hE dL_law_837 3 rfl rfl ?_
  refine k_iconst hE dL_law_838 ?_
  refine k_iadd hE dL_law_839 ?_
  refine hS.1 _ (i + 1) _ _ _ dL_law_840 (by omega) (by omega) ?_
  refine k_aload_n hE dL_law_841 0 rfl rfl ?_
  refine k_iload_n hE dL_law_842 3 rfl rfl ?_
  refine k_iconst hE dL_law_843 ?_
  refine k_iadd hE dL_law_844 ?_
  refine hS.1 _ (i + 2) _ _ _ dL_law_845 (by omega) (by omega) ?_
  refine k_callVL hE xw_ads mw_ads rfl (c_X6_thief X X (xs (i + 1)) (xs (i + 2)) (Ag.refl X) hR.1 (hx (i + 1) (by omega) (by omega)) (hx (i + 2) (by omega) (by omega))) mf_X6_thief ml_L_102 0 rfl rfl rfl rfl ⟨rfl, rfl, Nat.le_of_ble_eq_true rfl, Nat.le_of_ble_eq_true rfl⟩ [] (Nat.le_of_ble_eq_true rfl) dL_law_846 rfl (fun rv0 u0 hp0 => ?_)
  obtain ⟨z0, S0, hv0, hu0, hn0, hs0⟩ := hp0
  refine k_sk (sk' := [.int (iI z0)]) (by rw [hv0]; rfl) ?_
  refine k_st (S0, M) (by rw [hu0]) ?_
  refine k_aload_n hE dL_law_849 2 rfl rfl ?_
  refine k_aload_n hE dL_law_850 0 rfl rfl ?_
  refine k_iload_n hE dL_law_851 3 rfl rfl ?_
  refine k_iconst hE dL_law_852 ?_
  refine k_iadd hE dL_law_853 ?_
  refine hS.1 _ (i + 1) _ _ _ dL_law_854 (by omega) (by omega) ?_
  refine k_aload_n hE dL_law_855 0 rfl rfl ?_
  refine k_iload_n hE dL_law_856 3 rfl rfl ?_
  refine k_iconst hE dL_law_857 ?_
  refine k_iadd hE dL_law_858 ?_
  refine hS.1 _ (i + 2) _ _ _ dL_law_859 (by omega) (by omega) ?_
  refine k_callVR hE xw_ads mw_ads rfl (c_X7_thief M X (xs (i + 1)) (xs (i + 2)) hR.2.2.2.1 hR.1 hR.2.2.2.2.2.2.2.2 (hx (i + 1) (by omega) (by omega)) (hx (i + 2) (by omega) (by omega))) mf_X7_thief ml_L_105 0 rfl rfl rfl rfl ⟨rfl, rfl, Nat.le_of_ble_eq_true rfl, Nat.le_of_ble_eq_true rfl⟩ [.int (iI z0)] (Nat.le_of_ble_eq_true rfl) dL_law_860 rfl (fun rv1 u1 hp1 => ?_)
  obtain ⟨z1, S1, hv1, hu1, hn1, hs1⟩ := hp1
  have e1 := TH_uni hn0 hn1
  have r1 := RL_q hR hs0 hs1
  refine k_sk (sk' := [.int (iI z0), .int (iI z0)]) (by rw [hv1, ← e1]; rfl) ?_
  refine k_st (S0, S1) (by rw [hu1]) ?_
  refine k_icmp_same hE 1212 dL_law_863 (by decide) ?_
  exact k _ _ r1
theorem L_sheet {ad : Nat → Nat} {ta sa ca : Int → Nat} {md : Nat → Nat} {D : va_G} {cI cT cS cZ : ClassId} {G : Heap → List Loc → JFrame → Prop} {H0 : Heap} {m : MethodId} {b : Nat} {L : Int} {xs : Int → Int} (hE : KE (wpair (xw ad ta sa ca D cI cT cS) (mw md D cI cZ)) G H0 m cL_law RL 4 room_1) (hS : KS (wpair (xw ad ta sa ca D cI cT cS) (mw md D cI cZ)) G H0 m 4 cL_law b L xs) {i : Int} (h0 : 0 ≤ i) (h1 : i + 6 ≤ L) (hx : ∀ j : Int, 0 ≤ j → j < L → -2147483648 ≤ xs j ∧ xs j < 2147483648) {X M : Sg} (hR : RLx X M) (k : ∀ X2 M2 : Sg, RLx X2 M2 → KW (wpair (xw ad ta sa ca D cI cT cS) (mw md D cI cZ)) G H0 m 4 (X2, M2) 1212 [(0, .ref b), (1, .ref (ad 0)), (2, .ref (md 0)), (3, .int (iI i))] []) : KW (wpair (xw ad ta sa ca D cI cT cS) (mw md D cI cZ)) G H0 m 4 (X, M) 868 [(0, .ref b), (1, .ref (ad 0)), (2, .ref (md 0)), (3, .int (iI i))] [] := by
  refine k_aload_n hE dL_law_868 1 rfl rfl ?_
  refine k_aload_n hE dL_law_869 0 rfl rfl ?_
  refine k_iload_n hE dL_law_870 3 rfl rfl ?_
  refine k_iconst hE dL_law_871 ?_
  refine k_iadd hE dL_law_872 ?_
  refine hS.1 _ (i + 1) _ _ _ dL_law_873 (by omega) (by omega) ?_
  refine k_aload_n hE dL_law_874 0 rfl rfl ?_
  refine k_iload_n hE dL_law_875 3 rfl rfl ?_
  refine k_iconst hE dL_law_876 ?_
  refine k_iadd hE dL_law_877 ?_
  refine hS.1 _ (i + 2) _ _ _ dL_law_878 (by omega) (by omega) ?_
  refine k_aload_n hE dL_law_879 0 rfl rfl ?_
  refine k_iload_n hE dL_law_880 3 rfl rfl ?_
  refine k_iconst hE dL_law_881 ?_
  refine k_iadd hE dL_law_882 ?_
  refine hS.1 _ (i + 3) _ _ _ dL_law_883 (by omega) (by omega) ?_
  refine k_callVL hE xw_ads mw_ads rfl (c_X6_sheet X X (xs (i + 1)) (xs (i + 2)) (xs (i + 3)) (Ag.refl X) hR.1 hR.2.1 (hx (i + 1) (by omega) (by omega)) (hx (i + 2) (by omega) (by omega)) (hx (i + 3) (by omega) (by omega))) mf_X6_sheet ml_L_106 0 rfl rfl rfl rfl ⟨rfl, rfl, Nat.le_of_ble_eq_true rfl, Nat.le_of_ble_eq_true rfl⟩ [] (Nat.le_of_ble_eq_true rfl) dL_law_884 rfl (fun rv0 u0 hp0 => ?_)
  obtain ⟨z0, S0, hv0, hu0, hz0⟩ := hp0
  refine k_sk (sk' := [.int (iI z0)]) (by rw [hv0]; rfl) ?_
  refine k_st (S0, M) (by rw [hu0]) ?_
  refine k_aload_n hE dL_law_887 2 rfl rfl ?_
  refine k_aload_n hE dL_law_888 0 rfl rfl ?_
  refine k_iload_n hE dL_law_889 3 rfl rfl ?_
  refine k_iconst hE dL_law_890 ?_
  refine k_iadd hE dL_law_891 ?_
  refine hS.1 _ (i + 1) _ _ _ dL_law_892 (by omega) (by omega) ?_
  refine k_aload_n hE dL_law_893 0 rfl rfl ?_
  refine k_iload_n hE dL_law_894 3 rfl rfl ?_
  refine k_iconst hE dL_law_895 ?_
  refine k_iadd hE dL_law_896 ?_
  refine hS.1 _ (i + 2) _ _ _ dL_law_897 (by omega) (by omega) ?_
  refine k_aload_n hE dL_law_898 0 rfl rfl ?_
  refine k_iload_n hE dL_law_899 3 rfl rfl ?_
  refine k_iconst hE dL_law_900 ?_
  refine k_iadd hE dL_law_901 ?_
  refine hS.1 _ (i + 3) _ _ _ dL_law_902 (by omega) (by omega) ?_
  refine k_callVR hE xw_ads mw_ads rfl (c_X7_sheet M (xs (i + 1)) (xs (i + 2)) (xs (i + 3)) hR.2.2.1 (hx (i + 1) (by omega) (by omega)) (hx (i + 2) (by omega) (by omega)) (hx (i + 3) (by omega) (by omega))) mf_X7_sheet ml_L_110 0 rfl rfl rfl rfl ⟨rfl, rfl, Nat.le_of_ble_eq_true rfl, Nat.le_of_ble_eq_true rfl⟩ [.int (iI z0)] (Nat.le_of_ble_eq_true rfl) dL_law_903 rfl (fun rv1 u1 hp1 => ?_)
  obtain ⟨z1, S1, hv1, hu1, hz1⟩ := hp1
  have e1 := S_sheet hR hz0 hz1
  refine k_sk (sk' := [.int (iI z0), .int (iI z0)]) (by rw [hv1, ← e1.1]; rfl) ?_
  refine k_st (S0, S1) (by rw [hu1]) ?_
  refine k_icmp_same hE 1212 dL_law_906 (by decide) ?_
  exact k _ _ e1.2
theorem L_lose {ad : Nat → Nat} {ta sa ca : Int → Nat} {md : Nat → Nat} {D : va_G} {cI cT cS cZ : ClassId} {G : Heap → List Loc → JFrame → Prop} {H0 : Heap} {m : MethodId} {b : Nat} {L : Int} {xs : Int → Int} (hE : KE (wpair (xw ad ta sa ca D cI cT cS) (mw md D cI cZ)) G H0 m cL_law RL 4 room_1) (hS : KS (wpair (xw ad ta sa ca D cI cT cS) (mw md D cI cZ)) G H0 m 4 cL_law b L xs) {i : Int} (h0 : 0 ≤ i) (h1 : i + 6 ≤ L) (hx : ∀ j : Int, 0 ≤ j → j < L → -2147483648 ≤ xs j ∧ xs j < 2147483648) {X M : Sg} (hR : RLx X M) (k : ∀ X2 M2 : Sg, RLx X2 M2 → KW (wpair (xw ad ta sa ca D cI cT cS) (mw md D cI cZ)) G H0 m 4 (X2, M2) 1212 [(0, .ref b), (1, .ref (ad 0)), (2, .ref (md 0)), (3, .int (iI i))] []) : KW (wpair (xw ad ta sa ca D cI cT cS) (mw md D cI cZ)) G H0 m 4 (X, M) 911 [(0, .ref b), (1, .ref (ad 0)), (2, .ref (md 0)), (3, .int (iI i))] [] := by
  refine k_aload_n hE dL_law_911 1 rfl rfl ?_
  refine k_aload_n hE dL_law_912 0 rfl rfl ?_
  refine k_iload_n hE dL_law_913 3 rfl rfl ?_
  refine k_iconst hE dL_law_914 ?_
  refine k_iadd hE dL_law_915 ?_
  refine hS.1 _ (i + 1) _ _ _ dL_law_916 (by omega) (by omega) ?_
  refine k_callVL hE xw_ads mw_ads rfl (c_X6_lose X X (xs (i + 1)) (Ag.refl X) hR.1 hR.2.1 (hx (i + 1) (by omega) (by omega))) mf_X6_lose ml_L_111 0 rfl rfl rfl rfl ⟨rfl, rfl, Nat.le_of_ble_eq_true rfl, Nat.le_of_ble_eq_true rfl⟩ [] (Nat.le_of_ble_eq_true rfl) dL_law_917 rfl (fun rv0 u0 hp0 => ?_)
  obtain ⟨z0, S0, hv0, hu0, hz0⟩ := hp0
  refine k_sk (sk' := [.int (iI z0)]) (by rw [hv0]; rfl) ?_
  refine k_st (S0, M) (by rw [hu0]) ?_
  refine k_aload_n hE dL_law_920 2 rfl rfl ?_
  refine k_aload_n hE dL_law_921 0 rfl rfl ?_
  refine k_iload_n hE dL_law_922 3 rfl rfl ?_
  refine k_iconst hE dL_law_923 ?_
  refine k_iadd hE dL_law_924 ?_
  refine hS.1 _ (i + 1) _ _ _ dL_law_925 (by omega) (by omega) ?_
  refine k_callVR hE xw_ads mw_ads rfl (c_X7_lose M (xs (i + 1)) hR.2.2.1 (hx (i + 1) (by omega) (by omega))) mf_X7_lose ml_L_114 0 rfl rfl rfl rfl ⟨rfl, rfl, Nat.le_of_ble_eq_true rfl, Nat.le_of_ble_eq_true rfl⟩ [.int (iI z0)] (Nat.le_of_ble_eq_true rfl) dL_law_926 rfl (fun rv1 u1 hp1 => ?_)
  obtain ⟨z1, S1, hv1, hu1, hz1⟩ := hp1
  have e1 := S_lose hR hz0 hz1
  refine k_sk (sk' := [.int (iI z0), .int (iI z0)]) (by rw [hv1, ← e1.1]; rfl) ?_
  refine k_st (S0, S1) (by rw [hu1]) ?_
  refine k_icmp_same hE 1212 dL_law_929 (by decide) ?_
  exact k _ _ e1.2
theorem L_put {ad : Nat → Nat} {ta sa ca : Int → Nat} {md : Nat → Nat} {D : va_G} {cI cT cS cZ : ClassId} {G : Heap → List Loc → JFrame → Prop} {H0 : Heap} {m : MethodId} {b : Nat} {L : Int} {xs : Int → Int} (hE : KE (wpair (xw ad ta sa ca D cI cT cS) (mw md D cI cZ)) G H0 m cL_law RL 4 room_1) (hS : KS (wpair (xw ad ta sa ca D cI cT cS) (mw md D cI cZ)) G H0 m 4 cL_law b L xs) {i : Int} (h0 : 0 ≤ i) (h1 : i + 6 ≤ L) (hx : ∀ j : Int, 0 ≤ j → j < L → -2147483648 ≤ xs j ∧ xs j < 2147483648) {X M : Sg} (hR : RLx X M) (k : ∀ X2 M2 : Sg, RLx X2 M2 → KW (wpair (xw ad ta sa ca D cI cT cS) (mw md D cI cZ)) G H0 m 4 (X2, M2) 1212 [(0, .ref b), (1, .ref (ad 0)), (2, .ref (md 0)), (3, .int (iI i))] []) : KW (wpair (xw ad ta sa ca D cI cT cS) (mw md D cI cZ)) G H0 m 4 (X, M) 934 [(0, .ref b), (1, .ref (ad 0)), (2, .ref (md 0)), (3, .int (iI i))] [] := by
  refine k_aload_n hE dL_law_934 1 rfl rfl ?_
  refine k_aload_n hE dL_law_935 0 rfl rfl ?_
  refine k_iload_n hE dL_law_936 3 rfl rfl ?_
  refine k_iconst hE dL_law_937 ?_
  refine k_iadd hE dL_law_938 ?_
  refine hS.1 _ (i + 1) _ _ _ dL_law_939 (by omega) (by omega) ?_
  refine k_aload_n hE dL_law_940 0 rfl rfl ?_
  refine k_iload_n hE dL_law_941 3 rfl rfl ?_
  refine k_iconst hE dL_law_942 ?_
  refine k_iadd hE dL_law_943 ?_
  refine hS.1 _ (i + 2) _ _ _ dL_law_944 (by omega) (by omega) ?_
  refine k_aload_n hE dL_law_945 0 rfl rfl ?_
  refine k_iload_n hE dL_law_946 3 rfl rfl ?_
  refine k_iconst hE dL_law_947 ?_
  refine k_iadd hE dL_law_948 ?_
  refine hS.1 _ (i + 3) _ _ _ dL_law_949 (by omega) (by omega) ?_
  refine k_callVL hE xw_ads mw_ads rfl (c_X6_put X X (xs (i + 1)) (xs (i + 2)) (xs (i + 3)) (Ag.refl X) hR.1 hR.2.1 (hx (i + 1) (by omega) (by omega)) (hx (i + 2) (by omega) (by omega)) (hx (i + 3) (by omega) (by omega))) mf_X6_put ml_L_115 0 rfl rfl rfl rfl ⟨rfl, rfl, Nat.le_of_ble_eq_true rfl, Nat.le_of_ble_eq_true rfl⟩ [] (Nat.le_of_ble_eq_true rfl) dL_law_950 rfl (fun rv0 u0 hp0 => ?_)
  obtain ⟨z0, S0, hv0, hu0, hz0⟩ := hp0
  refine k_sk (sk' := [.int (iI z0)]) (by rw [hv0]; rfl) ?_
  refine k_st (S0, M) (by rw [hu0]) ?_
  refine k_aload_n hE dL_law_953 2 rfl rfl ?_
  refine k_aload_n hE dL_law_954 0 rfl rfl ?_
  refine k_iload_n hE dL_law_955 3 rfl rfl ?_
  refine k_iconst hE dL_law_956 ?_
  refine k_iadd hE dL_law_957 ?_
  refine hS.1 _ (i + 1) _ _ _ dL_law_958 (by omega) (by omega) ?_
  refine k_aload_n hE dL_law_959 0 rfl rfl ?_
  refine k_iload_n hE dL_law_960 3 rfl rfl ?_
  refine k_iconst hE dL_law_961 ?_
  refine k_iadd hE dL_law_962 ?_
  refine hS.1 _ (i + 2) _ _ _ dL_law_963 (by omega) (by omega) ?_
  refine k_aload_n hE dL_law_964 0 rfl rfl ?_
  refine k_iload_n hE dL_law_965 3 rfl rfl ?_
  refine k_iconst hE dL_law_966 ?_
  refine k_iadd hE dL_law_967 ?_
  refine hS.1 _ (i + 3) _ _ _ dL_law_968 (by omega) (by omega) ?_
  refine k_callVR hE xw_ads mw_ads rfl (c_X7_put M (xs (i + 1)) (xs (i + 2)) (xs (i + 3)) hR.2.2.1 (hx (i + 1) (by omega) (by omega)) (hx (i + 2) (by omega) (by omega)) (hx (i + 3) (by omega) (by omega))) mf_X7_put ml_L_118 0 rfl rfl rfl rfl ⟨rfl, rfl, Nat.le_of_ble_eq_true rfl, Nat.le_of_ble_eq_true rfl⟩ [.int (iI z0)] (Nat.le_of_ble_eq_true rfl) dL_law_969 rfl (fun rv1 u1 hp1 => ?_)
  obtain ⟨z1, S1, hv1, hu1, hz1⟩ := hp1
  have e1 := S_put hR (hx (i + 3) (by omega) (by omega)) hz0 hz1
  refine k_sk (sk' := [.int (iI z0), .int (iI z0)]) (by rw [hv1, ← e1.1]; rfl) ?_
  refine k_st (S0, S1) (by rw [hu1]) ?_
  refine k_icmp_same hE 1212 dL_law_972 (by decide) ?_
  exact k _ _ e1.2
theorem L_cell {ad : Nat → Nat} {ta sa ca : Int → Nat} {md : Nat → Nat} {D : va_G} {cI cT cS cZ : ClassId} {G : Heap → List Loc → JFrame → Prop} {H0 : Heap} {m : MethodId} {b : Nat} {L : Int} {xs : Int → Int} (hE : KE (wpair (xw ad ta sa ca D cI cT cS) (mw md D cI cZ)) G H0 m cL_law RL 4 room_1) (hS : KS (wpair (xw ad ta sa ca D cI cT cS) (mw md D cI cZ)) G H0 m 4 cL_law b L xs) {i : Int} (h0 : 0 ≤ i) (h1 : i + 6 ≤ L) (hx : ∀ j : Int, 0 ≤ j → j < L → -2147483648 ≤ xs j ∧ xs j < 2147483648) {X M : Sg} (hR : RLx X M) (k : ∀ X2 M2 : Sg, RLx X2 M2 → KW (wpair (xw ad ta sa ca D cI cT cS) (mw md D cI cZ)) G H0 m 4 (X2, M2) 1212 [(0, .ref b), (1, .ref (ad 0)), (2, .ref (md 0)), (3, .int (iI i))] []) : KW (wpair (xw ad ta sa ca D cI cT cS) (mw md D cI cZ)) G H0 m 4 (X, M) 977 [(0, .ref b), (1, .ref (ad 0)), (2, .ref (md 0)), (3, .int (iI i))] [] := by
  refine k_aload_n hE dL_law_977 1 rfl rfl ?_
  refine k_aload_n hE dL_law_978 0 rfl rfl ?_
  refine k_iload_n hE dL_law_979 3 rfl rfl ?_
  refine k_iconst hE dL_law_980 ?_
  refine k_iadd hE dL_law_981 ?_
  refine hS.1 _ (i + 1) _ _ _ dL_law_982 (by omega) (by omega) ?_
  refine k_aload_n hE dL_law_983 0 rfl rfl ?_
  refine k_iload_n hE dL_law_984 3 rfl rfl ?_
  refine k_iconst hE dL_law_985 ?_
  refine k_iadd hE dL_law_986 ?_
  refine hS.1 _ (i + 2) _ _ _ dL_law_987 (by omega) (by omega) ?_
  refine k_aload_n hE dL_law_988 0 rfl rfl ?_
  refine k_iload_n hE dL_law_989 3 rfl rfl ?_
  refine k_iconst hE dL_law_990 ?_
  refine k_iadd hE dL_law_991 ?_
  refine hS.1 _ (i + 3) _ _ _ dL_law_992 (by omega) (by omega) ?_
  refine k_callVL hE xw_ads mw_ads rfl (c_X6_cell X X (xs (i + 1)) (xs (i + 2)) (xs (i + 3)) (Ag.refl X) hR.1 hR.2.1 (hx (i + 1) (by omega) (by omega)) (hx (i + 2) (by omega) (by omega)) (hx (i + 3) (by omega) (by omega))) mf_X6_cell ml_L_119 0 rfl rfl rfl rfl ⟨rfl, rfl, Nat.le_of_ble_eq_true rfl, Nat.le_of_ble_eq_true rfl⟩ [] (Nat.le_of_ble_eq_true rfl) dL_law_993 rfl (fun rv0 u0 hp0 => ?_)
  obtain ⟨z0, S0, hv0, hu0, hz0⟩ := hp0
  refine k_sk (sk' := [.long z0]) (by rw [hv0]; rfl) ?_
  refine k_st (S0, M) (by rw [hu0]) ?_
  refine k_aload_n hE dL_law_996 2 rfl rfl ?_
  refine k_aload_n hE dL_law_997 0 rfl rfl ?_
  refine k_iload_n hE dL_law_998 3 rfl rfl ?_
  refine k_iconst hE dL_law_999 ?_
  refine k_iadd hE dL_law_1000 ?_
  refine hS.1 _ (i + 1) _ _ _ dL_law_1001 (by omega) (by omega) ?_
  refine k_aload_n hE dL_law_1002 0 rfl rfl ?_
  refine k_iload_n hE dL_law_1003 3 rfl rfl ?_
  refine k_iconst hE dL_law_1004 ?_
  refine k_iadd hE dL_law_1005 ?_
  refine hS.1 _ (i + 2) _ _ _ dL_law_1006 (by omega) (by omega) ?_
  refine k_aload_n hE dL_law_1007 0 rfl rfl ?_
  refine k_iload_n hE dL_law_1008 3 rfl rfl ?_
  refine k_iconst hE dL_law_1009 ?_
  refine k_iadd hE dL_law_1010 ?_
  refine hS.1 _ (i + 3) _ _ _ dL_law_1011 (by omega) (by omega) ?_
  refine k_callVR hE xw_ads mw_ads rfl (c_X7_cell M (xs (i + 1)) (xs (i + 2)) (xs (i + 3)) hR.2.2.1 (hx (i + 1) (by omega) (by omega)) (hx (i + 2) (by omega) (by omega)) (hx (i + 3) (by omega) (by omega))) mf_X7_cell ml_L_123 0 rfl rfl rfl rfl ⟨rfl, rfl, Nat.le_of_ble_eq_true rfl, Nat.le_of_ble_eq_true rfl⟩ [.long z0] (Nat.le_of_ble_eq_true rfl) dL_law_1012 rfl (fun rv1 u1 hp1 => ?_)
  obtain ⟨z1, S1, hv1, hu1, hz1⟩ := hp1
  have e1 := S_cell hR hz0 hz1
  refine k_sk (sk' := [.long z0, .long z0]) (by rw [hv1, ← e1.1]; rfl) ?_
  refine k_st (S0, S1) (by rw [hu1]) ?_
  refine k_lcmp_same hE dL_law_1015 ?_
  refine k_if_eq hE 1212 dL_law_1016 (by decide) in32_0 (fun _ => ?_) (fun h => absurd rfl h)
  exact k _ _ e1.2
theorem L_copy {ad : Nat → Nat} {ta sa ca : Int → Nat} {md : Nat → Nat} {D : va_G} {cI cT cS cZ : ClassId} {G : Heap → List Loc → JFrame → Prop} {H0 : Heap} {m : MethodId} {b : Nat} {L : Int} {xs : Int → Int} (hE : KE (wpair (xw ad ta sa ca D cI cT cS) (mw md D cI cZ)) G H0 m cL_law RL 4 room_1) (hS : KS (wpair (xw ad ta sa ca D cI cT cS) (mw md D cI cZ)) G H0 m 4 cL_law b L xs) {i : Int} (h0 : 0 ≤ i) (h1 : i + 6 ≤ L) (hx : ∀ j : Int, 0 ≤ j → j < L → -2147483648 ≤ xs j ∧ xs j < 2147483648) {X M : Sg} (hR : RLx X M) (k : ∀ X2 M2 : Sg, RLx X2 M2 → KW (wpair (xw ad ta sa ca D cI cT cS) (mw md D cI cZ)) G H0 m 4 (X2, M2) 1212 [(0, .ref b), (1, .ref (ad 0)), (2, .ref (md 0)), (3, .int (iI i))] []) : KW (wpair (xw ad ta sa ca D cI cT cS) (mw md D cI cZ)) G H0 m 4 (X, M) 1021 [(0, .ref b), (1, .ref (ad 0)), (2, .ref (md 0)), (3, .int (iI i))] [] := by
  refine k_aload_n hE dL_law_1021 1 rfl rfl ?_
  refine k_aload_n hE dL_law_1022 0 rfl rfl ?_
  refine k_iload_n hE dL_law_1023 3 rfl rfl ?_
  refine k_iconst hE dL_law_1024 ?_
  refine k_iadd hE dL_law_1025 ?_
  refine hS.1 _ (i + 1) _ _ _ dL_law_1026 (by omega) (by omega) ?_
  refine k_aload_n hE dL_law_1027 0 rfl rfl ?_
  refine k_iload_n hE dL_law_1028 3 rfl rfl ?_
  refine k_iconst hE dL_law_1029 ?_
  refine k_iadd hE dL_law_1030 ?_
  refine hS.1 _ (i + 2) _ _ _ dL_law_1031 (by omega) (by omega) ?_
  refine k_aload_n hE dL_law_1032 0 rfl rfl ?_
  refine k_iload_n hE dL_law_1033 3 rfl rfl ?_
  refine k_iconst hE dL_law_1034 ?_
  refine k_iadd hE dL_law_1035 ?_
  refine hS.1 _ (i + 3) _ _ _ dL_law_1036 (by omega) (by omega) ?_
  refine k_aload_n hE dL_law_1037 0 rfl rfl ?_
  refine k_iload_n hE dL_law_1038 3 rfl rfl ?_
  refine k_iconst hE dL_law_1039 ?_
  refine k_iadd hE dL_law_1040 ?_
  refine hS.1 _ (i + 4) _ _ _ dL_law_1041 (by omega) (by omega) ?_
  refine k_aload_n hE dL_law_1042 0 rfl rfl ?_
  refine k_iload_n hE dL_law_1043 3 rfl rfl ?_
  refine k_iconst hE dL_law_1044 ?_
  refine k_iadd hE dL_law_1045 ?_
  refine hS.1 _ (i + 5) _ _ _ dL_law_1046 (by omega) (by omega) ?_
  refine k_callVL hE xw_ads mw_ads rfl (c_X6_copy X X (xs (i + 1)) (xs (i + 2)) (xs (i + 3)) (xs (i + 4)) (xs (i + 5)) (Ag.refl X) hR.1 hR.2.1 (hx (i + 1) (by omega) (by omega)) (hx (i + 2) (by omega) (by omega)) (hx (i + 3) (by omega) (by omega)) (hx (i + 4) (by omega) (by omega)) (hx (i + 5) (by omega) (by omega))) mf_X6_copy ml_L_124 0 rfl rfl rfl rfl ⟨rfl, rfl, Nat.le_of_ble_eq_true rfl, Nat.le_of_ble_eq_true rfl⟩ [] (Nat.le_of_ble_eq_true rfl) dL_law_1047 rfl (fun rv0 u0 hp0 => ?_)
  obtain ⟨z0, S0, hv0, hu0, hz0⟩ := hp0
  refine k_sk (sk' := [.int (iI z0)]) (by rw [hv0]; rfl) ?_
  refine k_st (S0, M) (by rw [hu0]) ?_
  refine k_aload_n hE dL_law_1050 2 rfl rfl ?_
  refine k_aload_n hE dL_law_1051 0 rfl rfl ?_
  refine k_iload_n hE dL_law_1052 3 rfl rfl ?_
  refine k_iconst hE dL_law_1053 ?_
  refine k_iadd hE dL_law_1054 ?_
  refine hS.1 _ (i + 1) _ _ _ dL_law_1055 (by omega) (by omega) ?_
  refine k_aload_n hE dL_law_1056 0 rfl rfl ?_
  refine k_iload_n hE dL_law_1057 3 rfl rfl ?_
  refine k_iconst hE dL_law_1058 ?_
  refine k_iadd hE dL_law_1059 ?_
  refine hS.1 _ (i + 2) _ _ _ dL_law_1060 (by omega) (by omega) ?_
  refine k_aload_n hE dL_law_1061 0 rfl rfl ?_
  refine k_iload_n hE dL_law_1062 3 rfl rfl ?_
  refine k_iconst hE dL_law_1063 ?_
  refine k_iadd hE dL_law_1064 ?_
  refine hS.1 _ (i + 3) _ _ _ dL_law_1065 (by omega) (by omega) ?_
  refine k_aload_n hE dL_law_1066 0 rfl rfl ?_
  refine k_iload_n hE dL_law_1067 3 rfl rfl ?_
  refine k_iconst hE dL_law_1068 ?_
  refine k_iadd hE dL_law_1069 ?_
  refine hS.1 _ (i + 4) _ _ _ dL_law_1070 (by omega) (by omega) ?_
  refine k_aload_n hE dL_law_1071 0 rfl rfl ?_
  refine k_iload_n hE dL_law_1072 3 rfl rfl ?_
  refine k_iconst hE dL_law_1073 ?_
  refine k_iadd hE dL_law_1074 ?_
  refine hS.1 _ (i + 5) _ _ _ dL_law_1075 (by omega) (by omega) ?_
  refine k_callVR hE xw_ads mw_ads rfl (c_X7_copy M (xs (i + 1)) (xs (i + 2)) (xs (i + 3)) (xs (i + 4)) (xs (i + 5)) hR.2.2.1 (hx (i + 1) (by omega) (by omega)) (hx (i + 2) (by omega) (by omega)) (hx (i + 3) (by omega) (by omega)) (hx (i + 4) (by omega) (by omega)) (hx (i + 5) (by omega) (by omega))) mf_X7_copy ml_L_128 0 rfl rfl rfl rfl ⟨rfl, rfl, Nat.le_of_ble_eq_true rfl, Nat.le_of_ble_eq_true rfl⟩ [.int (iI z0)] (Nat.le_of_ble_eq_true rfl) dL_law_1076 rfl (fun rv1 u1 hp1 => ?_)
  obtain ⟨z1, S1, hv1, hu1, hz1⟩ := hp1
  have e1 := S_copy hR hz0 hz1
  refine k_sk (sk' := [.int (iI z0), .int (iI z0)]) (by rw [hv1, ← e1.1]; rfl) ?_
  refine k_st (S0, S1) (by rw [hu1]) ?_
  refine k_icmp_same hE 1212 dL_law_1079 (by decide) ?_
  exact k _ _ e1.2
theorem L_tell {ad : Nat → Nat} {ta sa ca : Int → Nat} {md : Nat → Nat} {D : va_G} {cI cT cS cZ : ClassId} {G : Heap → List Loc → JFrame → Prop} {H0 : Heap} {m : MethodId} {b : Nat} {L : Int} {xs : Int → Int} (hE : KE (wpair (xw ad ta sa ca D cI cT cS) (mw md D cI cZ)) G H0 m cL_law RL 4 room_1) (hS : KS (wpair (xw ad ta sa ca D cI cT cS) (mw md D cI cZ)) G H0 m 4 cL_law b L xs) {i : Int} (h0 : 0 ≤ i) (h1 : i + 6 ≤ L) (hx : ∀ j : Int, 0 ≤ j → j < L → -2147483648 ≤ xs j ∧ xs j < 2147483648) {X M : Sg} (hR : RLx X M) (k : ∀ X2 M2 : Sg, RLx X2 M2 → KW (wpair (xw ad ta sa ca D cI cT cS) (mw md D cI cZ)) G H0 m 4 (X2, M2) 1212 [(0, .ref b), (1, .ref (ad 0)), (2, .ref (md 0)), (3, .int (iI i))] []) : KW (wpair (xw ad ta sa ca D cI cT cS) (mw md D cI cZ)) G H0 m 4 (X, M) 1084 [(0, .ref b), (1, .ref (ad 0)), (2, .ref (md 0)), (3, .int (iI i))] [] := by
  refine k_aload_n hE dL_law_1084 1 rfl rfl ?_
  refine k_aload_n hE dL_law_1085 0 rfl rfl ?_
  refine k_iload_n hE dL_law_1086 3 rfl rfl ?_
  refine k_iconst hE dL_law_1087 ?_
  refine k_iadd hE dL_law_1088 ?_
  refine hS.1 _ (i + 1) _ _ _ dL_law_1089 (by omega) (by omega) ?_
  refine k_callVL hE xw_ads mw_ads rfl (c_X6_tell X X (xs (i + 1)) (Ag.refl X) hR.1 (hx (i + 1) (by omega) (by omega))) mf_X6_tell ml_L_129 0 rfl rfl rfl rfl ⟨rfl, rfl, Nat.le_of_ble_eq_true rfl, Nat.le_of_ble_eq_true rfl⟩ [] (Nat.le_of_ble_eq_true rfl) dL_law_1090 rfl (fun rv0 u0 hp0 => ?_)
  obtain ⟨z0, S0, hv0, hu0, hz0⟩ := hp0
  refine k_sk (sk' := [.int (iI z0)]) (by rw [hv0]; rfl) ?_
  refine k_st (S0, M) (by rw [hu0]) ?_
  refine k_aload_n hE dL_law_1093 2 rfl rfl ?_
  refine k_aload_n hE dL_law_1094 0 rfl rfl ?_
  refine k_iload_n hE dL_law_1095 3 rfl rfl ?_
  refine k_iconst hE dL_law_1096 ?_
  refine k_iadd hE dL_law_1097 ?_
  refine hS.1 _ (i + 1) _ _ _ dL_law_1098 (by omega) (by omega) ?_
  refine k_callVR hE xw_ads mw_ads rfl (c_X7_tell M X (xs (i + 1)) hR.2.2.2.1 hR.1 (hx (i + 1) (by omega) (by omega))) mf_X7_tell ml_L_132 0 rfl rfl rfl rfl ⟨rfl, rfl, Nat.le_of_ble_eq_true rfl, Nat.le_of_ble_eq_true rfl⟩ [.int (iI z0)] (Nat.le_of_ble_eq_true rfl) dL_law_1099 rfl (fun rv1 u1 hp1 => ?_)
  obtain ⟨z1, S1, hv1, hu1, hz1⟩ := hp1
  have e1 := S_tell hR hz0 hz1
  refine k_sk (sk' := [.int (iI z0), .int (iI z0)]) (by rw [hv1, ← e1.1]; rfl) ?_
  refine k_st (S0, S1) (by rw [hu1]) ?_
  refine k_icmp_same hE 1212 dL_law_1102 (by decide) ?_
  exact k _ _ e1.2
theorem L_knock {ad : Nat → Nat} {ta sa ca : Int → Nat} {md : Nat → Nat} {D : va_G} {cI cT cS cZ : ClassId} {G : Heap → List Loc → JFrame → Prop} {H0 : Heap} {m : MethodId} {b : Nat} {L : Int} {xs : Int → Int} (hE : KE (wpair (xw ad ta sa ca D cI cT cS) (mw md D cI cZ)) G H0 m cL_law RL 4 room_1) (hS : KS (wpair (xw ad ta sa ca D cI cT cS) (mw md D cI cZ)) G H0 m 4 cL_law b L xs) {i : Int} (h0 : 0 ≤ i) (h1 : i + 6 ≤ L) (hx : ∀ j : Int, 0 ≤ j → j < L → -2147483648 ≤ xs j ∧ xs j < 2147483648) {X M : Sg} (hR : RLx X M) (k : ∀ X2 M2 : Sg, RLx X2 M2 → KW (wpair (xw ad ta sa ca D cI cT cS) (mw md D cI cZ)) G H0 m 4 (X2, M2) 1212 [(0, .ref b), (1, .ref (ad 0)), (2, .ref (md 0)), (3, .int (iI i))] []) : KW (wpair (xw ad ta sa ca D cI cT cS) (mw md D cI cZ)) G H0 m 4 (X, M) 1107 [(0, .ref b), (1, .ref (ad 0)), (2, .ref (md 0)), (3, .int (iI i))] [] := by
  refine k_aload_n hE dL_law_1107 1 rfl rfl ?_
  refine k_aload_n hE dL_law_1108 0 rfl rfl ?_
  refine k_iload_n hE dL_law_1109 3 rfl rfl ?_
  refine k_iconst hE dL_law_1110 ?_
  refine k_iadd hE dL_law_1111 ?_
  refine hS.1 _ (i + 1) _ _ _ dL_law_1112 (by omega) (by omega) ?_
  refine k_callVL hE xw_ads mw_ads rfl (c_X6_knock X X (xs (i + 1)) (Ag.refl X) hR.1 (hx (i + 1) (by omega) (by omega))) mf_X6_knock ml_L_133 0 rfl rfl rfl rfl ⟨rfl, rfl, Nat.le_of_ble_eq_true rfl, Nat.le_of_ble_eq_true rfl⟩ [] (Nat.le_of_ble_eq_true rfl) dL_law_1113 rfl (fun rv0 u0 hp0 => ?_)
  obtain ⟨z0, S0, hv0, hu0, hz0⟩ := hp0
  refine k_sk (sk' := [.int (iI z0)]) (by rw [hv0]; rfl) ?_
  refine k_st (S0, M) (by rw [hu0]) ?_
  refine k_aload_n hE dL_law_1116 2 rfl rfl ?_
  refine k_aload_n hE dL_law_1117 0 rfl rfl ?_
  refine k_iload_n hE dL_law_1118 3 rfl rfl ?_
  refine k_iconst hE dL_law_1119 ?_
  refine k_iadd hE dL_law_1120 ?_
  refine hS.1 _ (i + 1) _ _ _ dL_law_1121 (by omega) (by omega) ?_
  refine k_callVR hE xw_ads mw_ads rfl (c_X7_knock M X (xs (i + 1)) hR.2.2.2.1 hR.1 (hx (i + 1) (by omega) (by omega))) mf_X7_knock ml_L_136 0 rfl rfl rfl rfl ⟨rfl, rfl, Nat.le_of_ble_eq_true rfl, Nat.le_of_ble_eq_true rfl⟩ [.int (iI z0)] (Nat.le_of_ble_eq_true rfl) dL_law_1122 rfl (fun rv1 u1 hp1 => ?_)
  obtain ⟨z1, S1, hv1, hu1, hz1⟩ := hp1
  have e1 := S_knock hR hz0 hz1
  refine k_sk (sk' := [.int (iI z0), .int (iI z0)]) (by rw [hv1, ← e1.1]; rfl) ?_
  refine k_st (S0, S1) (by rw [hu1]) ?_
  refine k_icmp_same hE 1212 dL_law_1125 (by decide) ?_
  exact k _ _ e1.2
theorem L_as {ad : Nat → Nat} {ta sa ca : Int → Nat} {md : Nat → Nat} {D : va_G} {cI cT cS cZ : ClassId} {G : Heap → List Loc → JFrame → Prop} {H0 : Heap} {m : MethodId} {b : Nat} {L : Int} {xs : Int → Int} (hE : KE (wpair (xw ad ta sa ca D cI cT cS) (mw md D cI cZ)) G H0 m cL_law RL 4 room_1) (hS : KS (wpair (xw ad ta sa ca D cI cT cS) (mw md D cI cZ)) G H0 m 4 cL_law b L xs) {i : Int} (h0 : 0 ≤ i) (h1 : i + 6 ≤ L) (hx : ∀ j : Int, 0 ≤ j → j < L → -2147483648 ≤ xs j ∧ xs j < 2147483648) {X M : Sg} (hR : RLx X M) (k : ∀ X2 M2 : Sg, RLx X2 M2 → KW (wpair (xw ad ta sa ca D cI cT cS) (mw md D cI cZ)) G H0 m 4 (X2, M2) 1212 [(0, .ref b), (1, .ref (ad 0)), (2, .ref (md 0)), (3, .int (iI i))] []) : KW (wpair (xw ad ta sa ca D cI cT cS) (mw md D cI cZ)) G H0 m 4 (X, M) 1130 [(0, .ref b), (1, .ref (ad 0)), (2, .ref (md 0)), (3, .int (iI i))] [] := by
  refine k_aload_n hE dL_law_1130 1 rfl rfl ?_
  refine k_aload_n hE dL_law_1131 0 rfl rfl ?_
  refine k_iload_n hE dL_law_1132 3 rfl rfl ?_
  refine k_iconst hE dL_law_1133 ?_
  refine k_iadd hE dL_law_1134 ?_
  refine hS.1 _ (i + 1) _ _ _ dL_law_1135 (by omega) (by omega) ?_
  refine k_aload_n hE dL_law_1136 0 rfl rfl ?_
  refine k_iload_n hE dL_law_1137 3 rfl rfl ?_
  refine k_iconst hE dL_law_1138 ?_
  refine k_iadd hE dL_law_1139 ?_
  refine hS.1 _ (i + 2) _ _ _ dL_law_1140 (by omega) (by omega) ?_
  refine k_callVL hE xw_ads mw_ads rfl (c_X6_as X X (xs (i + 1)) (xs (i + 2)) (Ag.refl X) hR.1 (hx (i + 1) (by omega) (by omega)) (hx (i + 2) (by omega) (by omega))) mf_X6_as ml_L_137 0 rfl rfl rfl rfl ⟨rfl, rfl, Nat.le_of_ble_eq_true rfl, Nat.le_of_ble_eq_true rfl⟩ [] (Nat.le_of_ble_eq_true rfl) dL_law_1141 rfl (fun rv0 u0 hp0 => ?_)
  obtain ⟨z0, S0, hv0, hu0, hz0⟩ := hp0
  refine k_sk (sk' := [.int (iI z0)]) (by rw [hv0]; rfl) ?_
  refine k_st (S0, M) (by rw [hu0]) ?_
  refine k_aload_n hE dL_law_1144 2 rfl rfl ?_
  refine k_aload_n hE dL_law_1145 0 rfl rfl ?_
  refine k_iload_n hE dL_law_1146 3 rfl rfl ?_
  refine k_iconst hE dL_law_1147 ?_
  refine k_iadd hE dL_law_1148 ?_
  refine hS.1 _ (i + 1) _ _ _ dL_law_1149 (by omega) (by omega) ?_
  refine k_aload_n hE dL_law_1150 0 rfl rfl ?_
  refine k_iload_n hE dL_law_1151 3 rfl rfl ?_
  refine k_iconst hE dL_law_1152 ?_
  refine k_iadd hE dL_law_1153 ?_
  refine hS.1 _ (i + 2) _ _ _ dL_law_1154 (by omega) (by omega) ?_
  refine k_callVR hE xw_ads mw_ads rfl (c_X7_as M X (xs (i + 1)) (xs (i + 2)) hR.2.2.2.1 hR.1 (hx (i + 1) (by omega) (by omega)) (hx (i + 2) (by omega) (by omega))) mf_X7_as ml_L_140 0 rfl rfl rfl rfl ⟨rfl, rfl, Nat.le_of_ble_eq_true rfl, Nat.le_of_ble_eq_true rfl⟩ [.int (iI z0)] (Nat.le_of_ble_eq_true rfl) dL_law_1155 rfl (fun rv1 u1 hp1 => ?_)
  obtain ⟨z1, S1, hv1, hu1, hz1⟩ := hp1
  have e1 := S_as hR hz0 hz1
  refine k_sk (sk' := [.int (iI z0), .int (iI z0)]) (by rw [hv1, ← e1.1]; rfl) ?_
  refine k_st (S0, S1) (by rw [hu1]) ?_
  refine k_icmp_same hE 1212 dL_law_1158 (by decide) ?_
  exact k _ _ e1.2
theorem L_trace {ad : Nat → Nat} {ta sa ca : Int → Nat} {md : Nat → Nat} {D : va_G} {cI cT cS cZ : ClassId} {G : Heap → List Loc → JFrame → Prop} {H0 : Heap} {m : MethodId} {b : Nat} {L : Int} {xs : Int → Int} (hE : KE (wpair (xw ad ta sa ca D cI cT cS) (mw md D cI cZ)) G H0 m cL_law RL 4 room_1) (hS : KS (wpair (xw ad ta sa ca D cI cT cS) (mw md D cI cZ)) G H0 m 4 cL_law b L xs) {i : Int} (h0 : 0 ≤ i) (h1 : i + 6 ≤ L) (hx : ∀ j : Int, 0 ≤ j → j < L → -2147483648 ≤ xs j ∧ xs j < 2147483648) {X M : Sg} (hR : RLx X M) (k : ∀ X2 M2 : Sg, RLx X2 M2 → KW (wpair (xw ad ta sa ca D cI cT cS) (mw md D cI cZ)) G H0 m 4 (X2, M2) 1212 [(0, .ref b), (1, .ref (ad 0)), (2, .ref (md 0)), (3, .int (iI i))] []) : KW (wpair (xw ad ta sa ca D cI cT cS) (mw md D cI cZ)) G H0 m 4 (X, M) 1163 [(0, .ref b), (1, .ref (ad 0)), (2, .ref (md 0)), (3, .int (iI i))] [] := by
  refine k_aload_n hE dL_law_1163 1 rfl rfl ?_
  refine k_callVL hE xw_ads mw_ads rfl (c_X6_trace X) mf_X6_trace ml_L_141 0 rfl rfl rfl rfl ⟨rfl, rfl, Nat.le_of_ble_eq_true rfl, Nat.le_of_ble_eq_true rfl⟩ [] (Nat.le_of_ble_eq_true rfl) dL_law_1164 rfl (fun rv0 u0 hp0 => ?_)
  obtain ⟨hv0, hu0⟩ := hp0
  refine k_sk (sk' := [.int (iI (X.1 8))]) (by rw [hv0]; rfl) ?_
  refine k_st (X, M) (by rw [hu0]) ?_
  refine k_aload_n hE dL_law_1167 2 rfl rfl ?_
  refine k_callVR hE xw_ads mw_ads rfl (c_X7_trace M) mf_X7_trace ml_L_145 0 rfl rfl rfl rfl ⟨rfl, rfl, Nat.le_of_ble_eq_true rfl, Nat.le_of_ble_eq_true rfl⟩ [.int (iI (X.1 8))] (Nat.le_of_ble_eq_true rfl) dL_law_1168 rfl (fun rv1 u1 hp1 => ?_)
  obtain ⟨hv1, hu1⟩ := hp1
  have e1 := hR.2.2.2.2.1.1
  refine k_sk (sk' := [.int (iI (X.1 8)), .int (iI (X.1 8))]) (by rw [hv1, e1]; rfl) ?_
  refine k_st (X, M) (by rw [hu1]) ?_
  refine k_icmp_same hE 1212 dL_law_1171 (by decide) ?_
  exact k _ _ hR
theorem L_fault {ad : Nat → Nat} {ta sa ca : Int → Nat} {md : Nat → Nat} {D : va_G} {cI cT cS cZ : ClassId} {G : Heap → List Loc → JFrame → Prop} {H0 : Heap} {m : MethodId} {b : Nat} {L : Int} {xs : Int → Int} (hE : KE (wpair (xw ad ta sa ca D cI cT cS) (mw md D cI cZ)) G H0 m cL_law RL 4 room_1) (hS : KS (wpair (xw ad ta sa ca D cI cT cS) (mw md D cI cZ)) G H0 m 4 cL_law b L xs) {i : Int} (h0 : 0 ≤ i) (h1 : i + 6 ≤ L) (hx : ∀ j : Int, 0 ≤ j → j < L → -2147483648 ≤ xs j ∧ xs j < 2147483648) {X M : Sg} (hR : RLx X M) (k : ∀ X2 M2 : Sg, RLx X2 M2 → KW (wpair (xw ad ta sa ca D cI cT cS) (mw md D cI cZ)) G H0 m 4 (X2, M2) 1212 [(0, .ref b), (1, .ref (ad 0)), (2, .ref (md 0)), (3, .int (iI i))] []) : KW (wpair (xw ad ta sa ca D cI cT cS) (mw md D cI cZ)) G H0 m 4 (X, M) 1176 [(0, .ref b), (1, .ref (ad 0)), (2, .ref (md 0)), (3, .int (iI i))] [] := by
  refine k_aload_n hE dL_law_1176 1 rfl rfl ?_
  refine k_callVL hE xw_ads mw_ads rfl (c_X6_fault X) mf_X6_fault ml_L_146 0 rfl rfl rfl rfl ⟨rfl, rfl, Nat.le_of_ble_eq_true rfl, Nat.le_of_ble_eq_true rfl⟩ [] (Nat.le_of_ble_eq_true rfl) dL_law_1177 rfl (fun rv0 u0 hp0 => ?_)
  obtain ⟨hv0, hu0⟩ := hp0
  refine k_sk (sk' := [.int (iI (X.1 9))]) (by rw [hv0]; rfl) ?_
  refine k_st (X, M) (by rw [hu0]) ?_
  refine k_aload_n hE dL_law_1180 2 rfl rfl ?_
  refine k_callVR hE xw_ads mw_ads rfl (c_X7_fault M) mf_X7_fault ml_L_149 0 rfl rfl rfl rfl ⟨rfl, rfl, Nat.le_of_ble_eq_true rfl, Nat.le_of_ble_eq_true rfl⟩ [.int (iI (X.1 9))] (Nat.le_of_ble_eq_true rfl) dL_law_1181 rfl (fun rv1 u1 hp1 => ?_)
  obtain ⟨hv1, hu1⟩ := hp1
  have e1 := hR.2.2.2.2.1.2
  refine k_sk (sk' := [.int (iI (X.1 9)), .int (iI (X.1 9))]) (by rw [hv1, e1]; rfl) ?_
  refine k_st (X, M) (by rw [hu1]) ?_
  refine k_icmp_same hE 1212 dL_law_1184 (by decide) ?_
  exact k _ _ hR
theorem L_many {ad : Nat → Nat} {ta sa ca : Int → Nat} {md : Nat → Nat} {D : va_G} {cI cT cS cZ : ClassId} {G : Heap → List Loc → JFrame → Prop} {H0 : Heap} {m : MethodId} {b : Nat} {L : Int} {xs : Int → Int} (hE : KE (wpair (xw ad ta sa ca D cI cT cS) (mw md D cI cZ)) G H0 m cL_law RL 4 room_1) (hS : KS (wpair (xw ad ta sa ca D cI cT cS) (mw md D cI cZ)) G H0 m 4 cL_law b L xs) {i : Int} (h0 : 0 ≤ i) (h1 : i + 6 ≤ L) (hx : ∀ j : Int, 0 ≤ j → j < L → -2147483648 ≤ xs j ∧ xs j < 2147483648) {X M : Sg} (hR : RLx X M) (k : ∀ X2 M2 : Sg, RLx X2 M2 → KW (wpair (xw ad ta sa ca D cI cT cS) (mw md D cI cZ)) G H0 m 4 (X2, M2) 1212 [(0, .ref b), (1, .ref (ad 0)), (2, .ref (md 0)), (3, .int (iI i))] []) : KW (wpair (xw ad ta sa ca D cI cT cS) (mw md D cI cZ)) G H0 m 4 (X, M) 1189 [(0, .ref b), (1, .ref (ad 0)), (2, .ref (md 0)), (3, .int (iI i))] [] := by
  refine k_aload_n hE dL_law_1189 1 rfl rfl ?_
  refine k_aload_n hE dL_law_1190 0 rfl rfl ?_
  refine k_iload_n hE dL_law_1191 3 rfl rfl ?_
  refine k_iconst hE dL_law_1192 ?_
  refine k_iadd hE dL_law_1193 ?_
  refine hS.1 _ (i + 1) _ _ _ dL_law_1194 (by omega) (by omega) ?_
  refine k_callVL hE xw_ads mw_ads rfl (c_X6_many X X (xs (i + 1)) (Ag.refl X) hR.1 (hx (i + 1) (by omega) (by omega))) mf_X6_many ml_L_150 0 rfl rfl rfl rfl ⟨rfl, rfl, Nat.le_of_ble_eq_true rfl, Nat.le_of_ble_eq_true rfl⟩ [] (Nat.le_of_ble_eq_true rfl) dL_law_1195 rfl (fun rv0 u0 hp0 => ?_)
  obtain ⟨hv0, hu0⟩ := hp0
  refine k_sk (sk' := [.int (iI (MN X (xs (i + 1))))]) (by rw [hv0]; rfl) ?_
  refine k_st (X, M) (by rw [hu0]) ?_
  refine k_aload_n hE dL_law_1198 2 rfl rfl ?_
  refine k_aload_n hE dL_law_1199 0 rfl rfl ?_
  refine k_iload_n hE dL_law_1200 3 rfl rfl ?_
  refine k_iconst hE dL_law_1201 ?_
  refine k_iadd hE dL_law_1202 ?_
  refine hS.1 _ (i + 1) _ _ _ dL_law_1203 (by omega) (by omega) ?_
  refine k_callVR hE xw_ads mw_ads rfl (c_X7_many M X (xs (i + 1)) hR.2.2.2.1 hR.1 (hx (i + 1) (by omega) (by omega))) mf_X7_many ml_L_153 0 rfl rfl rfl rfl ⟨rfl, rfl, Nat.le_of_ble_eq_true rfl, Nat.le_of_ble_eq_true rfl⟩ [.int (iI (MN X (xs (i + 1))))] (Nat.le_of_ble_eq_true rfl) dL_law_1204 rfl (fun rv1 u1 hp1 => ?_)
  obtain ⟨hv1, hu1⟩ := hp1
  refine k_sk (sk' := [.int (iI (MN X (xs (i + 1)))), .int (iI (MN X (xs (i + 1))))]) (by rw [hv1]; rfl) ?_
  refine k_st (X, M) (by rw [hu1]) ?_
  refine k_icmp_same hE 1212 dL_law_1207 (by decide) ?_
  exact k _ _ hR
