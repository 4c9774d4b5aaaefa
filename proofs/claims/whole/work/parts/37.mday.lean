set_option maxHeartbeats 4000000 in
set_option maxRecDepth 100000 in
theorem c_X7_goDay {ad : Nat → Nat} {D : va_G} {cI cZ : ClassId} (st : Sg) (Y : Sg) (d : Int) (w : Int) (q : Int) (rn : Int) (hA : AgD st Y) (hI : Inv Y) (hd : 0 ≤ d ∧ d < 10) (hv_w : st.1 14 = w) (hw : 0 ≤ w ∧ w ≤ Y.1 1) (hrn : st.2 4 d = rn) (hr : 0 ≤ rn ∧ rn ≤ 99) (hj : (st.1 15 = 1 ∧ q = 3) ∨ (st.1 15 = 0 ∧ q = st.1 4 ∧ 0 ≤ q ∧ q ≤ 2)) (hlw : 0 ≤ st.1 4 ∧ st.1 4 ≤ 2) (ht : st.1 16 = d → 0 ≤ st.1 17 ∧ st.1 17 < 6 ∧ 1 ≤ st.1 18 ∧ st.1 18 ≤ 9) (htd : -9 ≤ st.1 16 ∧ st.1 16 ≤ 9) : MC (mw ad D cI cZ) yX7_goDay cX7_goDay 3 none { frames := 3, cells := 0, slots := 0, locals := 68 } [.ref (ad 0), .int (iI d)] st (fun rv u => ∃ S : Sg, rv = none ∧ u = S ∧ (MX st S) ∧ (S.2 12 = st.2 12) ∧ ((d ≠ st.1 16 ∧ S.1 14 = dW Y q w rn ∧ S.1 19 = st.1 19) ∨ (d = st.1 16 ∧ st.1 18 ≤ GV Y (st.1 17) (dW Y q w rn) ∧ S.1 14 = dW Y q w rn - st.1 18 ∧ S.1 19 = 1) ∨ (d = st.1 16 ∧ ¬ st.1 18 ≤ GV Y (st.1 17) (dW Y q w rn) ∧ S.1 14 = dW Y q w rn ∧ S.1 19 = 0)) ∧ (∀ j : Int, j ≠ d → S.2 15 j = st.2 15 j) ∧ (S.2 15 d = max 0 (w + rn - Y.1 1)) ∧ (∀ j : Int, ¬ (6 * d ≤ j ∧ j < 6 * d + 6) → S.2 14 j = st.2 14 j) ∧ (∀ f : Int, 0 ≤ f → f < Y.1 0 → S.2 14 (6 * d + f) = dGt Y q w rn f) ∧ (0 ≤ dW Y q w rn ∧ dW Y q w rn ≤ Y.1 1) ∧ (∀ f : Int, 0 ≤ f → f < Y.1 0 → 0 ≤ dGt Y q w rn f ∧ dGt Y q w rn f ≤ 14)) := by
  refine MC_intro RX7 (by decide) rfl (Nat.le_of_ble_eq_true rfl) ?_
  intro G H0 m hE hR
  refine k_lo [0, 1] (lo' := [(0, .ref (ad 0)), (1, .int (iI d))]) rfl ?_
  obtain ⟨hi0, hi1, hi2, hi3, hi4, hi5, hi6, hi7, hit, hir, him, hin⟩ := id hI
  refine k_aload_n hE dX7_goDay_0 0 rfl rfl ?_
  refine k_dup hE dX7_goDay_1 rfl ?_
  refine m_get_water hE (z := w) hv_w fl_X7_148 dX7_goDay_2 ?_
  refine k_aload_n hE dX7_goDay_5 0 rfl rfl ?_
  refine m_get_rainOf hE fl_X7_31 dX7_goDay_6 ?_
  refine k_iload_n hE dX7_goDay_9 1 rfl rfl ?_
  refine m_ld_rainOf hE (z := rn) (by omega) (by omega) hrn dX7_goDay_10 ?_
  refine k_iadd hE dX7_goDay_11 ?_
  refine m_put_water hE fl_X7_148 dX7_goDay_12 ?_
  refine k_st ((uv st.1 14 (w + rn), st.2)) rfl ?_
  refine k_aload_n hE dX7_goDay_15 0 rfl rfl ?_
  refine m_get_overOn hE fl_X7_46 dX7_goDay_16 ?_
  refine k_iload_n hE dX7_goDay_19 1 rfl rfl ?_
  refine k_aload_n hE dX7_goDay_20 0 rfl rfl ?_
  refine m_get_water hE (z := w + rn) rfl fl_X7_148 dX7_goDay_21 ?_
  refine k_aload_n hE dX7_goDay_24 0 rfl rfl ?_
  refine m_get_cap hE (z := Y.1 1) (hA.1 1 (by decide)) fl_X7_105 dX7_goDay_25 ?_
  have J44 : ∀ (y : Int), (y = max 0 (w + rn - Y.1 1)) → KW (mw ad D cI cZ) G H0 m 3 ((uv st.1 14 (w + rn), st.2)) 44 [(0, .ref (ad 0)), (1, .int (iI d))] [.int (iI y), .int (iI d), .ref (ad 13)] := by
    intro y hy
    refine m_st_overOn hE (by omega) (by omega) dX7_goDay_44 ?_
    refine k_st ((uv st.1 14 (w + rn), ur st.2 15 d y)) rfl ?_
    refine k_aload_n hE dX7_goDay_45 0 rfl rfl ?_
    refine k_dup hE dX7_goDay_46 rfl ?_
    refine m_get_water hE (z := w + rn) rfl fl_X7_148 dX7_goDay_47 ?_
    refine k_aload_n hE dX7_goDay_50 0 rfl rfl ?_
    refine m_get_overOn hE fl_X7_46 dX7_goDay_51 ?_
    refine k_iload_n hE dX7_goDay_54 1 rfl rfl ?_
    refine m_ld_overOn hE (z := y) (by omega) (by omega) (show ur st.2 15 d y 15 d = _ from ur_s _ _ _ _) dX7_goDay_55 ?_
    refine k_isub hE dX7_goDay_56 ?_
    refine k_sk (sk' := [.int (iI (min (w + rn) (Y.1 1))), .ref (ad 0)]) (congrArg (fun zz : Int => ([.int (iI zz), .ref (ad 0)] : List Value)) (show ((w + rn) - y) = (min (w + rn) (Y.1 1)) from (by omega))) ?_
    refine m_put_water hE fl_X7_148 dX7_goDay_57 ?_
    refine k_st ((uv (uv st.1 14 (w + rn)) 14 (min (w + rn) (Y.1 1)), ur st.2 15 d y)) rfl ?_
    refine k_iconst hE dX7_goDay_60 ?_
    refine k_istore_n hE dX7_goDay_61 [1, 2, 0] rfl (Nat.le_of_ble_eq_true rfl) (lo' := [(0, .ref (ad 0)), (1, .int (iI d)), (2, .int (iI 0))]) rfl ?_
    have L62 : ∀ (fu62 : Nat) (S : Sg) (f : Int), (0 ≤ f ∧ f ≤ Y.1 0) → (Y.1 0 - f < fu62) → (∀ i, i ≠ 14 → S.1 i = st.1 i) → (S.1 14 = min (w + rn) (Y.1 1)) → (∀ a, a ≠ 15 → a ≠ 16 → S.2 a = st.2 a) → (∀ j : Int, S.2 15 j = ur st.2 15 d y 15 j) → (∀ g : Int, 0 ≤ g → g < f → S.2 16 g = 0) → KW (mw ad D cI cZ) G H0 m 3 S 62 [(0, .ref (ad 0)), (1, .int (iI d)), (2, .int (iI f))] [] := by
      intro fu62
      induction fu62 with
      | zero =>
        intro S f q0 q1 f1 f14 f2 f3 fz
        omega
      | succ fu62 ih62 =>
        intro S f q0 q1 f1 f14 f2 f3 fz
        have hAS : AgD S Y := hA.of (fun i hi => f1 i (by omega)) (fun a ha => f2 a (by omega) (by omega))
        refine k_iload_n hE dX7_goDay_62 2 rfl rfl ?_
        refine k_aload_n hE dX7_goDay_63 0 rfl rfl ?_
        refine m_get_taps hE (z := Y.1 0) (hAS.1 0 (by decide)) fl_X7_78 dX7_goDay_64 ?_
        refine k_icmp_ge hE 83 dX7_goDay_67 (by decide) (by unfold in32; omega) (by unfold in32; omega) (fun c67 => ?_) (fun c67 => ?_)
        · have J128 : ∀ (S2 : Sg) (t : Int), (∀ i, i ≠ 14 → S2.1 i = st.1 i) → (S2.1 14 = min (w + rn) (Y.1 1) - t) → (∀ a, a ≠ 15 → a ≠ 16 → a ≠ 17 → S2.2 a = st.2 a) → (∀ j : Int, S2.2 15 j = ur st.2 15 d y 15 j) → (DG Y q (min (w + rn) (Y.1 1)) (S2.2 16) t) → KW (mw ad D cI cZ) G H0 m 3 S2 128 [(0, .ref (ad 0)), (1, .int (iI d))] [] := by
            intro S2 t k1 k14 k2 k3 k5
            have hAS2 : AgD S2 Y := hA.of (fun i hi => k1 i (by omega)) (fun a ha => k2 a (by omega) (by omega) (by omega))
            have hr2 := DG_rng hI (by omega) k5
            have hm := mul99 hi5 hi2
            refine k_iconst hE dX7_goDay_128 ?_
            refine k_istore_n hE dX7_goDay_129 [1, 2, 0] rfl (Nat.le_of_ble_eq_true rfl) (lo' := [(0, .ref (ad 0)), (1, .int (iI d)), (2, .int (iI 0))]) rfl ?_
            have L130 : ∀ (fu130 : Nat) (S3 : Sg) (f : Int), (0 ≤ f ∧ f ≤ Y.1 0) → (Y.1 0 - f < fu130) → (S3.1 = S2.1) → (∀ a, a ≠ 14 → S3.2 a = S2.2 a) → (∀ j : Int, ¬ (6 * d ≤ j ∧ j < 6 * d + 6) → S3.2 14 j = st.2 14 j) → (∀ g : Int, 0 ≤ g → g < f → S3.2 14 (6 * d + g) = S2.2 16 g) → KW (mw ad D cI cZ) G H0 m 3 S3 130 [(0, .ref (ad 0)), (1, .int (iI d)), (2, .int (iI f))] [] := by
              intro fu130
              induction fu130 with
              | zero =>
                intro S3 f p0 p1 m0 m2 m4 m5
                omega
              | succ fu130 ih130 =>
                intro S3 f p0 p1 m0 m2 m4 m5
                have hAS3 : AgD S3 Y := hAS2.of (fun i hi => by rw [m0]) (fun a ha => m2 a (by omega))
                have m1 : ∀ i, i ≠ 14 → S3.1 i = st.1 i := fun i hi => by rw [m0]; exact k1 i hi
                have m14 : S3.1 14 = min (w + rn) (Y.1 1) - t := by rw [m0]; exact k14
                refine k_iload_n hE dX7_goDay_130 2 rfl rfl ?_
                refine k_aload_n hE dX7_goDay_131 0 rfl rfl ?_
                refine m_get_taps hE (z := Y.1 0) (hAS3.1 0 (by decide)) fl_X7_78 dX7_goDay_132 ?_
                refine k_icmp_ge hE 161 dX7_goDay_135 (by decide) (by unfold in32; omega) (by unfold in32; omega) (fun c135 => ?_) (fun c135 => ?_)
                · have ef : f = Y.1 0 := by omega
                  rw [ef] at m5
                  have rg := dW_rng hI (q := q) (w := w) (rn := rn) (by omega) (by omega) k5
                  refine k_aload_n hE dX7_goDay_161 0 rfl rfl ?_
                  refine m_get_water hE (z := min (w + rn) (Y.1 1) - t) m14 fl_X7_148 dX7_goDay_162 ?_
                  refine k_aload_n hE dX7_goDay_165 0 rfl rfl ?_
                  refine m_get_leakAt hE (z := Y.1 5) (hAS3.1 5 (by decide)) fl_X7_123 dX7_goDay_166 ?_
                  refine k_aload_n hE dX7_goDay_169 0 rfl rfl ?_
                  refine m_get_per hE (z := Y.1 2) (hAS3.1 2 (by decide)) fl_X7_111 dX7_goDay_170 ?_
                  refine k_imul hE dX7_goDay_173 ?_
                  refine k_isub hE dX7_goDay_174 ?_
                  refine k_istore_n hE dX7_goDay_175 [1, 2, 0] rfl (Nat.le_of_ble_eq_true rfl) (lo' := [(0, .ref (ad 0)), (1, .int (iI d)), (2, .int (iI ((min (w + rn) (Y.1 1) - t) - ((Y.1 5) * (Y.1 2)))))]) rfl ?_
                  refine k_aload_n hE dX7_goDay_176 0 rfl rfl ?_
                  refine k_dup hE dX7_goDay_177 rfl ?_
                  refine m_get_water hE (z := min (w + rn) (Y.1 1) - t) m14 fl_X7_148 dX7_goDay_178 ?_
                  refine k_iload_n hE dX7_goDay_181 2 rfl rfl ?_
                  have J205 : ∀ (y2 : Int), (y2 = min (Y.1 6) (max 0 (min (w + rn) (Y.1 1) - t - Y.1 5 * Y.1 2))) → KW (mw ad D cI cZ) G H0 m 3 S3 205 [(0, .ref (ad 0)), (1, .int (iI d)), (2, .int (iI ((min (w + rn) (Y.1 1) - t) - ((Y.1 5) * (Y.1 2)))))] [.int (iI y2), .int (iI (min (w + rn) (Y.1 1) - t)), .ref (ad 0)] := by
                    intro y2 hy2
                    refine k_isub hE dX7_goDay_205 ?_
                    refine k_sk (sk' := [.int (iI (dW Y q w rn)), .ref (ad 0)]) (congrArg (fun zz : Int => ([.int (iI zz), .ref (ad 0)] : List Value)) (show ((min (w + rn) (Y.1 1) - t) - y2) = (dW Y q w rn) from (by unfold dW; rw [← (dgt_eq k5).1]; omega))) ?_
                    refine m_put_water hE fl_X7_148 dX7_goDay_206 ?_
                    refine k_st ((uv S3.1 14 (dW Y q w rn), S3.2)) rfl ?_
                    refine k_iload_n hE dX7_goDay_209 1 rfl rfl ?_
                    refine k_aload_n hE dX7_goDay_210 0 rfl rfl ?_
                    refine m_get_thiefDay hE (z := st.1 16) (m1 16 (by decide)) fl_X7_56 dX7_goDay_211 ?_
                    refine k_icmp_ne hE 265 dX7_goDay_214 (by decide) (by unfold in32; omega) (by unfold in32; omega) (fun c214 => ?_) (fun c214 => ?_)
                    · refine k_vret hR dX7_goDay_265 rfl ?_
                      refine ⟨_, rfl, rfl, ⟨fun i h1 h2 => ?_, fun a ha => ?_⟩, ?_, ?_, fun j hj => ?_, ?_, fun j hj => m4 j hj, fun f f0 f1 => ?_, rg, fun f f0 f1 => ?_⟩
                      · first
                          | exact (uv_n _ _ h1).trans (m1 i h1)
                          | exact (uv_n _ _ h1).trans ((uv_n _ _ h2).trans ((uv_n _ _ h1).trans (m1 i h1)))
                      · show S3.2 a = _
                        rw [m2 a (by omega)]; exact k2 a (by omega) (by omega) (by omega)
                      · show S3.2 12 = _
                        rw [m2 12 (by decide)]; exact k2 12 (by decide) (by decide) (by decide)
                      · first
                          | exact Or.inl ⟨by omega, rfl, m1 19 (by decide)⟩
                          | exact Or.inr (Or.inl ⟨by omega, by omega, rfl, rfl⟩)
                          | exact Or.inr (Or.inr ⟨by omega, by omega, (show dW Y q w rn - 0 = dW Y q w rn by omega), rfl⟩)
                          | (exfalso; omega)
                      · show S3.2 15 j = _
                        rw [m2 15 (by decide), k3 j, ur_o _ _ _ hj]
                      · show S3.2 15 d = _
                        rw [m2 15 (by decide), k3 d, ur_s, hy]
                      · show S3.2 14 _ = _
                        rw [m5 f f0 f1]; exact (dgt_eq k5).2 f f0 f1
                      · have e := (dgt_eq k5).2 f f0 f1
                        have r := hr2.2 f f0 f1
                        unfold dGt
                        omega
                    · refine k_aload_n hE dX7_goDay_217 0 rfl rfl ?_
                      refine k_aload_n hE dX7_goDay_218 0 rfl rfl ?_
                      refine k_aload_n hE dX7_goDay_219 0 rfl rfl ?_
                      refine m_get_thiefTap hE (z := st.1 17) (m1 17 (by decide)) fl_X7_176 dX7_goDay_220 ?_
                      have hgv := GV_rng hI (f := st.1 17) (by omega) (by omega) (dW Y q w rn)
                      refine k_callV hE (c_X7_gives ((uv S3.1 14 (dW Y q w rn), S3.2)) Y (st.1 17) (dW Y q w rn) (hAS3.of (fun i hi => by rcases i with _ | _ | _ | _ | _ | _ | _ | _ | i <;> first | rfl | omega) (fun a ha => by rcases a with _ | _ | _ | _ | _ | _ | _ | a <;> first | rfl | omega)) hI (by omega) (by omega) rfl (by omega)) mf_X7_gives ml_X7_151 0 rfl rfl rfl rfl ⟨rfl, rfl, Nat.le_of_ble_eq_true rfl, Nat.le_of_ble_eq_true rfl⟩ [.ref (ad 0)] (Nat.le_of_ble_eq_true rfl) dX7_goDay_223 rfl (fun rv u hp => ?_)
                      obtain ⟨hv223, hu223⟩ := hp
                      refine k_sk (sk' := [.int (iI (GV Y (st.1 17) (dW Y q w rn))), .ref (ad 0)]) (by rw [hv223]; rfl) ?_
                      refine k_st ((uv S3.1 14 (dW Y q w rn), S3.2)) hu223 ?_
                      refine k_aload_n hE dX7_goDay_226 0 rfl rfl ?_
                      refine m_get_thiefMuch hE (z := st.1 18) (m1 18 (by decide)) fl_X7_179 dX7_goDay_227 ?_
                      refine k_icmp_lt hE 237 dX7_goDay_230 (by decide) (by unfold in32; omega) (by unfold in32; omega) (fun c230 => ?_) (fun c230 => ?_)
                      · refine k_iconst hE dX7_goDay_237 ?_
                        refine m_put_didGive hE (by omega) fl_X7_182 dX7_goDay_238 ?_
                        refine k_st ((uv (uv S3.1 14 (dW Y q w rn)) 19 0, S3.2)) rfl ?_
                        refine k_aload_n hE dX7_goDay_241 0 rfl rfl ?_
                        refine k_dup hE dX7_goDay_242 rfl ?_
                        refine m_get_water hE (z := dW Y q w rn) rfl fl_X7_148 dX7_goDay_243 ?_
                        refine k_aload_n hE dX7_goDay_246 0 rfl rfl ?_
                        refine m_get_didGive hE (z := 0) rfl fl_X7_182 dX7_goDay_247 ?_
                        refine k_if_eq hE 260 dX7_goDay_250 (by decide) (by unfold in32; omega) (fun c250 => ?_) (fun c250 => ?_)
                        · refine k_iconst hE dX7_goDay_260 ?_
                          refine k_isub hE dX7_goDay_261 ?_
                          refine m_put_water hE fl_X7_148 dX7_goDay_262 ?_
                          refine k_st ((uv (uv (uv S3.1 14 (dW Y q w rn)) 19 0) 14 ((dW Y q w rn) - 0), S3.2)) rfl ?_
                          refine k_vret hR dX7_goDay_265 rfl ?_
                          refine ⟨_, rfl, rfl, ⟨fun i h1 h2 => ?_, fun a ha => ?_⟩, ?_, ?_, fun j hj => ?_, ?_, fun j hj => m4 j hj, fun f f0 f1 => ?_, rg, fun f f0 f1 => ?_⟩
                          · first
                              | exact (uv_n _ _ h1).trans (m1 i h1)
                              | exact (uv_n _ _ h1).trans ((uv_n _ _ h2).trans ((uv_n _ _ h1).trans (m1 i h1)))
                          · show S3.2 a = _
                            rw [m2 a (by omega)]; exact k2 a (by omega) (by omega) (by omega)
                          · show S3.2 12 = _
                            rw [m2 12 (by decide)]; exact k2 12 (by decide) (by decide) (by decide)
                          · first
                              | exact Or.inl ⟨by omega, rfl, m1 19 (by decide)⟩
                              | exact Or.inr (Or.inl ⟨by omega, by omega, rfl, rfl⟩)
                              | exact Or.inr (Or.inr ⟨by omega, by omega, (show dW Y q w rn - 0 = dW Y q w rn by omega), rfl⟩)
                              | (exfalso; omega)
                          · show S3.2 15 j = _
                            rw [m2 15 (by decide), k3 j, ur_o _ _ _ hj]
                          · show S3.2 15 d = _
                            rw [m2 15 (by decide), k3 d, ur_s, hy]
                          · show S3.2 14 _ = _
                            rw [m5 f f0 f1]; exact (dgt_eq k5).2 f f0 f1
                          · have e := (dgt_eq k5).2 f f0 f1
                            have r := hr2.2 f f0 f1
                            unfold dGt
                            omega
                        · refine k_aload_n hE dX7_goDay_253 0 rfl rfl ?_
                          refine m_get_thiefMuch hE (z := st.1 18) (m1 18 (by decide)) fl_X7_179 dX7_goDay_254 ?_
                          refine k_goto hE 261 dX7_goDay_257 (by decide) ?_
                          refine k_isub hE dX7_goDay_261 ?_
                          refine m_put_water hE fl_X7_148 dX7_goDay_262 ?_
                          refine k_st ((uv (uv (uv S3.1 14 (dW Y q w rn)) 19 0) 14 ((dW Y q w rn) - (st.1 18)), S3.2)) rfl ?_
                          refine k_vret hR dX7_goDay_265 rfl ?_
                          refine ⟨_, rfl, rfl, ⟨fun i h1 h2 => ?_, fun a ha => ?_⟩, ?_, ?_, fun j hj => ?_, ?_, fun j hj => m4 j hj, fun f f0 f1 => ?_, rg, fun f f0 f1 => ?_⟩
                          · first
                              | exact (uv_n _ _ h1).trans (m1 i h1)
                              | exact (uv_n _ _ h1).trans ((uv_n _ _ h2).trans ((uv_n _ _ h1).trans (m1 i h1)))
                          · show S3.2 a = _
                            rw [m2 a (by omega)]; exact k2 a (by omega) (by omega) (by omega)
                          · show S3.2 12 = _
                            rw [m2 12 (by decide)]; exact k2 12 (by decide) (by decide) (by decide)
                          · first
                              | exact Or.inl ⟨by omega, rfl, m1 19 (by decide)⟩
                              | exact Or.inr (Or.inl ⟨by omega, by omega, rfl, rfl⟩)
                              | exact Or.inr (Or.inr ⟨by omega, by omega, (show dW Y q w rn - 0 = dW Y q w rn by omega), rfl⟩)
                              | (exfalso; omega)
                          · show S3.2 15 j = _
                            rw [m2 15 (by decide), k3 j, ur_o _ _ _ hj]
                          · show S3.2 15 d = _
                            rw [m2 15 (by decide), k3 d, ur_s, hy]
                          · show S3.2 14 _ = _
                            rw [m5 f f0 f1]; exact (dgt_eq k5).2 f f0 f1
                          · have e := (dgt_eq k5).2 f f0 f1
                            have r := hr2.2 f f0 f1
                            unfold dGt
                            omega
                      · refine k_iconst hE dX7_goDay_233 ?_
                        refine k_goto hE 238 dX7_goDay_234 (by decide) ?_
                        refine m_put_didGive hE (by omega) fl_X7_182 dX7_goDay_238 ?_
                        refine k_st ((uv (uv S3.1 14 (dW Y q w rn)) 19 1, S3.2)) rfl ?_
                        refine k_aload_n hE dX7_goDay_241 0 rfl rfl ?_
                        refine k_dup hE dX7_goDay_242 rfl ?_
                        refine m_get_water hE (z := dW Y q w rn) rfl fl_X7_148 dX7_goDay_243 ?_
                        refine k_aload_n hE dX7_goDay_246 0 rfl rfl ?_
                        refine m_get_didGive hE (z := 1) rfl fl_X7_182 dX7_goDay_247 ?_
                        refine k_if_eq hE 260 dX7_goDay_250 (by decide) (by unfold in32; omega) (fun c250 => ?_) (fun c250 => ?_)
                        · refine k_iconst hE dX7_goDay_260 ?_
                          refine k_isub hE dX7_goDay_261 ?_
                          refine m_put_water hE fl_X7_148 dX7_goDay_262 ?_
                          refine k_st ((uv (uv (uv S3.1 14 (dW Y q w rn)) 19 1) 14 ((dW Y q w rn) - 0), S3.2)) rfl ?_
                          refine k_vret hR dX7_goDay_265 rfl ?_
                          refine ⟨_, rfl, rfl, ⟨fun i h1 h2 => ?_, fun a ha => ?_⟩, ?_, ?_, fun j hj => ?_, ?_, fun j hj => m4 j hj, fun f f0 f1 => ?_, rg, fun f f0 f1 => ?_⟩
                          · first
                              | exact (uv_n _ _ h1).trans (m1 i h1)
                              | exact (uv_n _ _ h1).trans ((uv_n _ _ h2).trans ((uv_n _ _ h1).trans (m1 i h1)))
                          · show S3.2 a = _
                            rw [m2 a (by omega)]; exact k2 a (by omega) (by omega) (by omega)
                          · show S3.2 12 = _
                            rw [m2 12 (by decide)]; exact k2 12 (by decide) (by decide) (by decide)
                          · first
                              | exact Or.inl ⟨by omega, rfl, m1 19 (by decide)⟩
                              | exact Or.inr (Or.inl ⟨by omega, by omega, rfl, rfl⟩)
                              | exact Or.inr (Or.inr ⟨by omega, by omega, (show dW Y q w rn - 0 = dW Y q w rn by omega), rfl⟩)
                              | (exfalso; omega)
                          · show S3.2 15 j = _
                            rw [m2 15 (by decide), k3 j, ur_o _ _ _ hj]
                          · show S3.2 15 d = _
                            rw [m2 15 (by decide), k3 d, ur_s, hy]
                          · show S3.2 14 _ = _
                            rw [m5 f f0 f1]; exact (dgt_eq k5).2 f f0 f1
                          · have e := (dgt_eq k5).2 f f0 f1
                            have r := hr2.2 f f0 f1
                            unfold dGt
                            omega
                        · refine k_aload_n hE dX7_goDay_253 0 rfl rfl ?_
                          refine m_get_thiefMuch hE (z := st.1 18) (m1 18 (by decide)) fl_X7_179 dX7_goDay_254 ?_
                          refine k_goto hE 261 dX7_goDay_257 (by decide) ?_
                          refine k_isub hE dX7_goDay_261 ?_
                          refine m_put_water hE fl_X7_148 dX7_goDay_262 ?_
                          refine k_st ((uv (uv (uv S3.1 14 (dW Y q w rn)) 19 1) 14 ((dW Y q w rn) - (st.1 18)), S3.2)) rfl ?_
                          refine k_vret hR dX7_goDay_265 rfl ?_
                          refine ⟨_, rfl, rfl, ⟨fun i h1 h2 => ?_, fun a ha => ?_⟩, ?_, ?_, fun j hj => ?_, ?_, fun j hj => m4 j hj, fun f f0 f1 => ?_, rg, fun f f0 f1 => ?_⟩
                          · first
                              | exact (uv_n _ _ h1).trans (m1 i h1)
                              | exact (uv_n _ _ h1).trans ((uv_n _ _ h2).trans ((uv_n _ _ h1).trans (m1 i h1)))
                          · show S3.2 a = _
                            rw [m2 a (by omega)]; exact k2 a (by omega) (by omega) (by omega)
                          · show S3.2 12 = _
                            rw [m2 12 (by decide)]; exact k2 12 (by decide) (by decide) (by decide)
                          · first
                              | exact Or.inl ⟨by omega, rfl, m1 19 (by decide)⟩
                              | exact Or.inr (Or.inl ⟨by omega, by omega, rfl, rfl⟩)
                              | exact Or.inr (Or.inr ⟨by omega, by omega, (show dW Y q w rn - 0 = dW Y q w rn by omega), rfl⟩)
                              | (exfalso; omega)
                          · show S3.2 15 j = _
                            rw [m2 15 (by decide), k3 j, ur_o _ _ _ hj]
                          · show S3.2 15 d = _
                            rw [m2 15 (by decide), k3 d, ur_s, hy]
                          · show S3.2 14 _ = _
                            rw [m5 f f0 f1]; exact (dgt_eq k5).2 f f0 f1
                          · have e := (dgt_eq k5).2 f f0 f1
                            have r := hr2.2 f f0 f1
                            unfold dGt
                            omega
                  refine k_if_gt hE 189 dX7_goDay_182 (by decide) (by unfold in32; omega) (fun c182 => ?_) (fun c182 => ?_)
                  · refine k_iload_n hE dX7_goDay_189 2 rfl rfl ?_
                    refine k_aload_n hE dX7_goDay_190 0 rfl rfl ?_
                    refine m_get_leaks hE (z := Y.1 6) (hAS3.1 6 (by decide)) fl_X7_126 dX7_goDay_191 ?_
                    refine k_icmp_ge hE 201 dX7_goDay_194 (by decide) (by unfold in32; omega) (by unfold in32; omega) (fun c194 => ?_) (fun c194 => ?_)
                    · refine k_aload_n hE dX7_goDay_201 0 rfl rfl ?_
                      refine m_get_leaks hE (z := Y.1 6) (hAS3.1 6 (by decide)) fl_X7_126 dX7_goDay_202 ?_
                      exact J205 _ (by omega)
                    · refine k_iload_n hE dX7_goDay_197 2 rfl rfl ?_
                      refine k_goto hE 205 dX7_goDay_198 (by decide) ?_
                      exact J205 _ (by omega)
                  · refine k_iconst hE dX7_goDay_185 ?_
                    refine k_goto hE 205 dX7_goDay_186 (by decide) ?_
                    exact J205 _ (by omega)
                · refine k_aload_n hE dX7_goDay_138 0 rfl rfl ?_
                  refine m_get_gotOn hE fl_X7_43 dX7_goDay_139 ?_
                  refine k_bipush hE dX7_goDay_142 rfl ?_
                  refine k_iload_n hE dX7_goDay_144 1 rfl rfl ?_
                  refine k_imul hE dX7_goDay_145 ?_
                  refine k_iload_n hE dX7_goDay_146 2 rfl rfl ?_
                  refine k_iadd hE dX7_goDay_147 ?_
                  refine k_aload_n hE dX7_goDay_148 0 rfl rfl ?_
                  refine m_get_drawn hE fl_X7_49 dX7_goDay_149 ?_
                  refine k_iload_n hE dX7_goDay_152 2 rfl rfl ?_
                  refine m_ld_drawn hE (z := S3.2 16 f) (by omega) (by omega) rfl dX7_goDay_153 ?_
                  refine m_st_gotOn hE (by omega) (by omega) dX7_goDay_154 ?_
                  refine k_st ((S3.1, ur S3.2 14 ((6 * d) + f) (S3.2 16 f))) rfl ?_
                  refine k_iinc hE dX7_goDay_155 2 [1, 2, 0] rfl (Nat.le_of_ble_eq_true rfl) (lo' := [(0, .ref (ad 0)), (1, .int (iI d)), (2, .int (iI (f + 1)))]) rfl ?_
                  refine k_goto hE 130 dX7_goDay_158 (by decide) ?_
                  exact ih130 ((S3.1, ur S3.2 14 ((6 * d) + f) (S3.2 16 f))) _ (by omega) (by omega) m0 (fun a ha => by show ur S3.2 14 _ _ a = _; rw [ur_n _ _ _ ha]; exact m2 a ha) (fun j hj => by show ur S3.2 14 _ _ 14 j = _; rw [ur_o _ _ _ (by omega)]; exact m4 j hj) (fun g g0 g1 => by
                    show ur S3.2 14 _ _ 14 _ = _
                    rw [ur_c]
                    by_cases e : g = f
                    · rw [e, if_pos rfl, m2 16 (by decide)]
                    · rw [if_neg (by omega)]; exact m5 g g0 (by omega))
            exact L130 7 S2 0 (by omega) (by omega) rfl (fun a _ => rfl) (fun j _ => by rw [k2 14 (by decide) (by decide) (by decide)]) (fun g g0 g1 => by omega)
          refine k_aload_n hE dX7_goDay_83 0 rfl rfl ?_
          refine m_get_lawNow hE (z := st.1 4) (f1 4 (by decide)) fl_X7_120 dX7_goDay_84 ?_
          refine k_iconst hE dX7_goDay_87 ?_
          refine k_icmp_ne hE 105 dX7_goDay_88 (by decide) (by unfold in32; omega) (by unfold in32; omega) (fun c88 => ?_) (fun c88 => ?_)
          · refine k_aload_n hE dX7_goDay_105 0 rfl rfl ?_
            refine k_aload_n hE dX7_goDay_106 0 rfl rfl ?_
            refine m_get_isJust hE (z := st.1 15) (f1 15 (by decide)) fl_X7_154 dX7_goDay_107 ?_
            refine k_if_ne hE 120 dX7_goDay_110 (by decide) (by unfold in32; omega) (fun c110 => ?_) (fun c110 => ?_)
            · refine k_iconst hE dX7_goDay_120 ?_
              refine k_goto hE 125 dX7_goDay_121 (by decide) ?_
              refine k_callV hE (c_X7_drawInOrder S Y 1 q (min (w + rn) (Y.1 1)) hAS hI (by omega) (by rw [f1 15 (by decide)]; omega) f14 (by omega) (fun g g0 g1 => fz g g0 (by omega))) mf_X7_drawInOrder ml_X7_172 0 rfl rfl rfl rfl ⟨rfl, rfl, Nat.le_of_ble_eq_true rfl, Nat.le_of_ble_eq_true rfl⟩ [] (Nat.le_of_ble_eq_true rfl) dX7_goDay_125 rfl (fun rv u hp => ?_)
              obtain ⟨Sa, n7, hv125, hu125, n1, n2, n4, n5⟩ := hp
              refine k_sk (sk' := []) (by rw [hv125]; rfl) ?_
              refine k_st Sa hu125 ?_
              have n6 : DG Y q (min (w + rn) (Y.1 1)) (Sa.2 16) n7 := Or.inr ⟨by omega, n5⟩
              refine k_lo [0, 1] (lo' := [(0, .ref (ad 0)), (1, .int (iI d))]) rfl ?_
              exact J128 Sa n7 (fun i hi => (n1 i hi).trans (f1 i hi)) n4 (fun a h1 h2 h3 => (n2 a h2 h3).trans (f2 a h1 h2)) (fun j => by rw [n2 15 (by decide) (by decide)]; exact f3 j) n6
            · refine k_aload_n hE dX7_goDay_113 0 rfl rfl ?_
              refine m_get_lawNow hE (z := st.1 4) (f1 4 (by decide)) fl_X7_120 dX7_goDay_114 ?_
              refine k_if_ne hE 124 dX7_goDay_117 (by decide) (by unfold in32; omega) (fun c117 => ?_) (fun c117 => ?_)
              · refine k_iconst hE dX7_goDay_124 ?_
                refine k_callV hE (c_X7_drawInOrder S Y 0 q (min (w + rn) (Y.1 1)) hAS hI (by omega) (by rw [f1 15 (by decide)]; omega) f14 (by omega) (fun g g0 g1 => fz g g0 (by omega))) mf_X7_drawInOrder ml_X7_172 0 rfl rfl rfl rfl ⟨rfl, rfl, Nat.le_of_ble_eq_true rfl, Nat.le_of_ble_eq_true rfl⟩ [] (Nat.le_of_ble_eq_true rfl) dX7_goDay_125 rfl (fun rv u hp => ?_)
                obtain ⟨Sa, n7, hv125, hu125, n1, n2, n4, n5⟩ := hp
                refine k_sk (sk' := []) (by rw [hv125]; rfl) ?_
                refine k_st Sa hu125 ?_
                have n6 : DG Y q (min (w + rn) (Y.1 1)) (Sa.2 16) n7 := Or.inr ⟨by omega, n5⟩
                refine k_lo [0, 1] (lo' := [(0, .ref (ad 0)), (1, .int (iI d))]) rfl ?_
                exact J128 Sa n7 (fun i hi => (n1 i hi).trans (f1 i hi)) n4 (fun a h1 h2 h3 => (n2 a h2 h3).trans (f2 a h1 h2)) (fun j => by rw [n2 15 (by decide) (by decide)]; exact f3 j) n6
              · refine k_iconst hE dX7_goDay_120 ?_
                refine k_goto hE 125 dX7_goDay_121 (by decide) ?_
                refine k_callV hE (c_X7_drawInOrder S Y 1 q (min (w + rn) (Y.1 1)) hAS hI (by omega) (by rw [f1 15 (by decide)]; omega) f14 (by omega) (fun g g0 g1 => fz g g0 (by omega))) mf_X7_drawInOrder ml_X7_172 0 rfl rfl rfl rfl ⟨rfl, rfl, Nat.le_of_ble_eq_true rfl, Nat.le_of_ble_eq_true rfl⟩ [] (Nat.le_of_ble_eq_true rfl) dX7_goDay_125 rfl (fun rv u hp => ?_)
                obtain ⟨Sa, n7, hv125, hu125, n1, n2, n4, n5⟩ := hp
                refine k_sk (sk' := []) (by rw [hv125]; rfl) ?_
                refine k_st Sa hu125 ?_
                have n6 : DG Y q (min (w + rn) (Y.1 1)) (Sa.2 16) n7 := Or.inr ⟨by omega, n5⟩
                refine k_lo [0, 1] (lo' := [(0, .ref (ad 0)), (1, .int (iI d))]) rfl ?_
                exact J128 Sa n7 (fun i hi => (n1 i hi).trans (f1 i hi)) n4 (fun a h1 h2 h3 => (n2 a h2 h3).trans (f2 a h1 h2)) (fun j => by rw [n2 15 (by decide) (by decide)]; exact f3 j) n6
          · refine k_aload_n hE dX7_goDay_91 0 rfl rfl ?_
            refine m_get_isJust hE (z := st.1 15) (f1 15 (by decide)) fl_X7_154 dX7_goDay_92 ?_
            refine k_if_ne hE 105 dX7_goDay_95 (by decide) (by unfold in32; omega) (fun c95 => ?_) (fun c95 => ?_)
            · refine k_aload_n hE dX7_goDay_105 0 rfl rfl ?_
              refine k_aload_n hE dX7_goDay_106 0 rfl rfl ?_
              refine m_get_isJust hE (z := st.1 15) (f1 15 (by decide)) fl_X7_154 dX7_goDay_107 ?_
              refine k_if_ne hE 120 dX7_goDay_110 (by decide) (by unfold in32; omega) (fun c110 => ?_) (fun c110 => ?_)
              · refine k_iconst hE dX7_goDay_120 ?_
                refine k_goto hE 125 dX7_goDay_121 (by decide) ?_
                refine k_callV hE (c_X7_drawInOrder S Y 1 q (min (w + rn) (Y.1 1)) hAS hI (by omega) (by rw [f1 15 (by decide)]; omega) f14 (by omega) (fun g g0 g1 => fz g g0 (by omega))) mf_X7_drawInOrder ml_X7_172 0 rfl rfl rfl rfl ⟨rfl, rfl, Nat.le_of_ble_eq_true rfl, Nat.le_of_ble_eq_true rfl⟩ [] (Nat.le_of_ble_eq_true rfl) dX7_goDay_125 rfl (fun rv u hp => ?_)
                obtain ⟨Sa, n7, hv125, hu125, n1, n2, n4, n5⟩ := hp
                refine k_sk (sk' := []) (by rw [hv125]; rfl) ?_
                refine k_st Sa hu125 ?_
                have n6 : DG Y q (min (w + rn) (Y.1 1)) (Sa.2 16) n7 := Or.inr ⟨by omega, n5⟩
                refine k_lo [0, 1] (lo' := [(0, .ref (ad 0)), (1, .int (iI d))]) rfl ?_
                exact J128 Sa n7 (fun i hi => (n1 i hi).trans (f1 i hi)) n4 (fun a h1 h2 h3 => (n2 a h2 h3).trans (f2 a h1 h2)) (fun j => by rw [n2 15 (by decide) (by decide)]; exact f3 j) n6
              · refine k_aload_n hE dX7_goDay_113 0 rfl rfl ?_
                refine m_get_lawNow hE (z := st.1 4) (f1 4 (by decide)) fl_X7_120 dX7_goDay_114 ?_
                refine k_if_ne hE 124 dX7_goDay_117 (by decide) (by unfold in32; omega) (fun c117 => ?_) (fun c117 => ?_)
                · refine k_iconst hE dX7_goDay_124 ?_
                  refine k_callV hE (c_X7_drawInOrder S Y 0 q (min (w + rn) (Y.1 1)) hAS hI (by omega) (by rw [f1 15 (by decide)]; omega) f14 (by omega) (fun g g0 g1 => fz g g0 (by omega))) mf_X7_drawInOrder ml_X7_172 0 rfl rfl rfl rfl ⟨rfl, rfl, Nat.le_of_ble_eq_true rfl, Nat.le_of_ble_eq_true rfl⟩ [] (Nat.le_of_ble_eq_true rfl) dX7_goDay_125 rfl (fun rv u hp => ?_)
                  obtain ⟨Sa, n7, hv125, hu125, n1, n2, n4, n5⟩ := hp
                  refine k_sk (sk' := []) (by rw [hv125]; rfl) ?_
                  refine k_st Sa hu125 ?_
                  have n6 : DG Y q (min (w + rn) (Y.1 1)) (Sa.2 16) n7 := Or.inr ⟨by omega, n5⟩
                  refine k_lo [0, 1] (lo' := [(0, .ref (ad 0)), (1, .int (iI d))]) rfl ?_
                  exact J128 Sa n7 (fun i hi => (n1 i hi).trans (f1 i hi)) n4 (fun a h1 h2 h3 => (n2 a h2 h3).trans (f2 a h1 h2)) (fun j => by rw [n2 15 (by decide) (by decide)]; exact f3 j) n6
                · refine k_iconst hE dX7_goDay_120 ?_
                  refine k_goto hE 125 dX7_goDay_121 (by decide) ?_
                  refine k_callV hE (c_X7_drawInOrder S Y 1 q (min (w + rn) (Y.1 1)) hAS hI (by omega) (by rw [f1 15 (by decide)]; omega) f14 (by omega) (fun g g0 g1 => fz g g0 (by omega))) mf_X7_drawInOrder ml_X7_172 0 rfl rfl rfl rfl ⟨rfl, rfl, Nat.le_of_ble_eq_true rfl, Nat.le_of_ble_eq_true rfl⟩ [] (Nat.le_of_ble_eq_true rfl) dX7_goDay_125 rfl (fun rv u hp => ?_)
                  obtain ⟨Sa, n7, hv125, hu125, n1, n2, n4, n5⟩ := hp
                  refine k_sk (sk' := []) (by rw [hv125]; rfl) ?_
                  refine k_st Sa hu125 ?_
                  have n6 : DG Y q (min (w + rn) (Y.1 1)) (Sa.2 16) n7 := Or.inr ⟨by omega, n5⟩
                  refine k_lo [0, 1] (lo' := [(0, .ref (ad 0)), (1, .int (iI d))]) rfl ?_
                  exact J128 Sa n7 (fun i hi => (n1 i hi).trans (f1 i hi)) n4 (fun a h1 h2 h3 => (n2 a h2 h3).trans (f2 a h1 h2)) (fun j => by rw [n2 15 (by decide) (by decide)]; exact f3 j) n6
            · refine k_aload_n hE dX7_goDay_98 0 rfl rfl ?_
              refine k_callV hE (c_X7_drawByTurns S Y (min (w + rn) (Y.1 1)) q hAS hI f14 (by rw [f1 15 (by decide)]; omega) (by omega) (by omega) (fun g g0 g1 => fz g g0 (by omega))) mf_X7_drawByTurns ml_X7_169 0 rfl rfl rfl rfl ⟨rfl, rfl, Nat.le_of_ble_eq_true rfl, Nat.le_of_ble_eq_true rfl⟩ [] (Nat.le_of_ble_eq_true rfl) dX7_goDay_99 rfl (fun rv u hp => ?_)
              obtain ⟨Sa, hv99, hu99, n1, n2_, n4, n5⟩ := hp
              refine k_sk (sk' := []) (by rw [hv99]; rfl) ?_
              refine k_st Sa hu99 ?_
              have n2 : ∀ a, a ≠ 16 → a ≠ 17 → Sa.2 a = S.2 a := fun a h1 _ => n2_ a h1
              obtain ⟨n7, e7⟩ : ∃ n7, n7 = (TR Y (min (w + rn) (Y.1 1)) 100).1 := ⟨_, rfl⟩
              rw [← e7] at n4
              have n6 : DG Y q (min (w + rn) (Y.1 1)) (Sa.2 16) n7 := Or.inl ⟨by omega, e7, n5⟩
              refine k_goto hE 128 dX7_goDay_102 (by decide) ?_
              refine k_lo [0, 1] (lo' := [(0, .ref (ad 0)), (1, .int (iI d))]) rfl ?_
              exact J128 Sa n7 (fun i hi => (n1 i hi).trans (f1 i hi)) n4 (fun a h1 h2 h3 => (n2 a h2 h3).trans (f2 a h1 h2)) (fun j => by rw [n2 15 (by decide) (by decide)]; exact f3 j) n6
        · refine k_aload_n hE dX7_goDay_70 0 rfl rfl ?_
          refine m_get_drawn hE fl_X7_49 dX7_goDay_71 ?_
          refine k_iload_n hE dX7_goDay_74 2 rfl rfl ?_
          refine k_iconst hE dX7_goDay_75 ?_
          refine m_st_drawn hE (by omega) (by omega) dX7_goDay_76 ?_
          refine k_st ((S.1, ur S.2 16 f 0)) rfl ?_
          refine k_iinc hE dX7_goDay_77 2 [1, 2, 0] rfl (Nat.le_of_ble_eq_true rfl) (lo' := [(0, .ref (ad 0)), (1, .int (iI d)), (2, .int (iI (f + 1)))]) rfl ?_
          refine k_goto hE 62 dX7_goDay_80 (by decide) ?_
          exact ih62 ((S.1, ur S.2 16 f 0)) _ (by omega) (by omega) f1 f14 (fun a h1 h2 => by show ur S.2 16 _ _ a = _; rw [ur_n _ _ _ h2]; exact f2 a h1 h2) (fun j => f3 j) (fun g g0 g1 => by show ur S.2 16 _ _ 16 g = 0; rw [ur_c]; split <;> first | rfl | exact fz g g0 (by omega))
    exact L62 7 ((uv (uv st.1 14 (w + rn)) 14 (min (w + rn) (Y.1 1)), ur st.2 15 d y)) 0 (by omega) (by omega) (fun i hi => by show uv (uv st.1 14 _) 14 _ i = _; rw [uv_n _ _ hi, uv_n _ _ hi]) rfl (fun a h1 h2 => ur_n _ _ _ h1) (fun j => rfl) (fun g g0 g1 => by omega)
  refine k_icmp_le hE 43 dX7_goDay_28 (by decide) (by unfold in32; omega) (by unfold in32; omega) (fun c28 => ?_) (fun c28 => ?_)
  · refine k_iconst hE dX7_goDay_43 ?_
    exact J44 _ (by omega)
  · refine k_aload_n hE dX7_goDay_31 0 rfl rfl ?_
    refine m_get_water hE (z := w + rn) rfl fl_X7_148 dX7_goDay_32 ?_
    refine k_aload_n hE dX7_goDay_35 0 rfl rfl ?_
    refine m_get_cap hE (z := Y.1 1) (hA.1 1 (by decide)) fl_X7_105 dX7_goDay_36 ?_
    refine k_isub hE dX7_goDay_39 ?_
    refine k_goto hE 44 dX7_goDay_40 (by decide) ?_
    exact J44 _ (by omega)
