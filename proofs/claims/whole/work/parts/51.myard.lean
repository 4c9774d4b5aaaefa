set_option maxHeartbeats 4000000 in
set_option maxRecDepth 100000 in
theorem c_X7_yard {ad : Nat → Nat} {D : va_G} {cI cZ : ClassId} (st : Sg) (k : Int) (l : Int) (i : Int) (n : Int) (hS : SHm st) (i_k : -2147483648 ≤ k ∧ k < 2147483648) (i_l : -2147483648 ≤ l ∧ l < 2147483648) (i_i : -2147483648 ≤ i ∧ i < 2147483648) (i_n : -2147483648 ≤ n ∧ n < 2147483648) : MC (mw ad D cI cZ) yX7_yard cX7_yard 8 (some .int) { frames := 4, cells := 0, slots := 0, locals := 92 } [.ref (ad 0), .int (iI k), .int (iI l), .int (iI i), .int (iI n)] st (fun rv u => ∃ z : Int, ∃ S : Sg, rv = some (.int (iI (z))) ∧ u = S ∧ (((k < 0 ∨ 3 < k) ∧ z = -1 ∧ S = (uv st.1 9 0, st.2)) ∨ (¬ (k < 0 ∨ 3 < k) ∧ (l < 0 ∨ 2 < l) ∧ z = -2 ∧ S = (uv st.1 9 0, st.2)) ∨ (¬ (k < 0 ∨ 3 < k) ∧ ¬ (l < 0 ∨ 2 < l) ∧ AGf st k l i n ≠ 0 ∧ z = -10 - AGf st k l i n ∧ S = (uv (uv st.1 9 0) 9 (AGf st k l i n), st.2)) ∨ (¬ (k < 0 ∨ 3 < k) ∧ ¬ (l < 0 ∨ 2 < l) ∧ AGf st k l i n = 0 ∧ (∃ p : Int, 0 ≤ p ∧ FF (fun p => st.2 13 (60 * k + i + p)) n p ∧ z = -100 - p) ∧ ((∀ u : Nat, u ≠ 10 → u ≠ 11 → u ≠ 12 → u ≠ 13 → S.1 u = uv st.1 9 0 u) ∧ (∀ b : Nat, b ≠ 10 → b ≠ 11 → S.2 b = st.2 b))) ∨ (¬ (k < 0 ∨ 3 < k) ∧ ¬ (l < 0 ∨ 2 < l) ∧ AGf st k l i n = 0 ∧ FF (fun p => st.2 13 (60 * k + i + p)) n (-1) ∧ z = (n - 4) / 5 ∧ (S.1 0 = (n - 4) / 5 ∧ S.1 1 = 10 * (st.2 13 (60 * k + i + 1) - 48) + (st.2 13 (60 * k + i + 2) - 48) ∧ S.1 2 = st.2 13 (60 * k + i + 3) - 48 ∧ (∀ u : Nat, 2 < u → u < 8 → S.1 u = 0) ∧ (∀ u : Nat, 7 < u → u ≠ 10 → u ≠ 11 → u ≠ 12 → u ≠ 13 → S.1 u = uv st.1 9 0 u) ∧ (∀ b : Nat, 4 < b → b ≠ 10 → b ≠ 11 → S.2 b = st.2 b) ∧ S.2 0 = fillr (st.2 0) ((n - 4) / 5) (fun f => KDc (st.2 13 (60 * k + i + 4 + f * 5 + 1))) ∧ S.2 1 = fillr (st.2 1) ((n - 4) / 5) (fun f => st.2 13 (60 * k + i + 4 + f * 5 + 2) - 48) ∧ S.2 2 = fillr (st.2 2) ((n - 4) / 5) (fun f => st.2 13 (60 * k + i + 4 + f * 5 + 3) - 48) ∧ S.2 3 = fillr (st.2 3) ((n - 4) / 5) (fun f => st.2 13 (60 * k + i + 4 + f * 5 + 4) - 48) ∧ S.2 4 = fillr (st.2 4) 10 (fun _ => 0))))) := by
  refine MC_intro RX7 (by decide) rfl (Nat.le_of_ble_eq_true rfl) ?_
  intro G H0 m hE hR
  refine k_lo [0, 1, 2, 3, 4] (lo' := [(0, .ref (ad 0)), (1, .int (iI k)), (2, .int (iI l)), (3, .int (iI i)), (4, .int (iI n))]) rfl ?_
  refine k_aload_n hE dX7_yard_0 0 rfl rfl ?_
  refine k_iconst hE dX7_yard_1 ?_
  refine m_put_fault hE fl_X7_69 dX7_yard_2 ?_
  refine k_st ((uv st.1 9 0, st.2)) rfl ?_
  refine k_iload_n hE dX7_yard_5 1 rfl rfl ?_
  refine k_callS hE (c_X7_isSheet ((uv st.1 9 0, st.2)) k (by omega)) ms_X7_isSheet ml_X7_81 rfl ⟨rfl, rfl, Nat.le_of_ble_eq_true rfl, Nat.le_of_ble_eq_true rfl⟩ [] (Nat.le_of_ble_eq_true rfl) dX7_yard_6 rfl (fun rv u hp => ?_)
  obtain ⟨z1, hv6, hu6, hz_6⟩ := hp
  try dsimp only at hz_6
  refine k_sk (sk' := [.int (iI z1)]) (by rw [hv6]; rfl) ?_
  refine k_st ((uv st.1 9 0, st.2)) hu6 ?_
  refine k_if_ne hE 14 dX7_yard_9 (by decide) (by unfold in32; omega) (fun c9 => ?_) (fun c9 => ?_)
  · refine k_iload_n hE dX7_yard_14 2 rfl rfl ?_
    refine k_callS hE (c_X7_isSort ((uv st.1 9 0, st.2)) l (by omega)) ms_X7_isSort ml_X7_85 rfl ⟨rfl, rfl, Nat.le_of_ble_eq_true rfl, Nat.le_of_ble_eq_true rfl⟩ [] (Nat.le_of_ble_eq_true rfl) dX7_yard_15 rfl (fun rv u hp => ?_)
    obtain ⟨z2, hv15, hu15, hz_15⟩ := hp
    try dsimp only at hz_15
    refine k_sk (sk' := [.int (iI z2)]) (by rw [hv15]; rfl) ?_
    refine k_st ((uv st.1 9 0, st.2)) hu15 ?_
    refine k_if_ne hE 24 dX7_yard_18 (by decide) (by unfold in32; omega) (fun c18 => ?_) (fun c18 => ?_)
    · have hk := hS.1 k (by omega) (by omega)
      refine k_aload_n hE dX7_yard_24 0 rfl rfl ?_
      refine k_iload_n hE dX7_yard_25 1 rfl rfl ?_
      refine k_iload_n hE dX7_yard_26 2 rfl rfl ?_
      refine k_iload_n hE dX7_yard_27 3 rfl rfl ?_
      refine k_iload hE dX7_yard_28 4 rfl ?_
      refine k_callV hE (c_X7_against ((uv st.1 9 0, st.2)) k l i n hS (by omega) (by omega) (by omega) (by omega) (by omega)) mf_X7_against ml_X7_88 0 rfl rfl rfl rfl ⟨rfl, rfl, Nat.le_of_ble_eq_true rfl, Nat.le_of_ble_eq_true rfl⟩ [] (Nat.le_of_ble_eq_true rfl) dX7_yard_30 rfl (fun rv u hp => ?_)
      obtain ⟨hv30, hu30⟩ := hp
      refine k_sk (sk' := [.int (iI (AGf ((uv st.1 9 0, st.2)) k l i n))]) (by rw [hv30]; rfl) ?_
      refine k_st ((uv st.1 9 0, st.2)) hu30 ?_
      obtain ⟨ag, hag⟩ : ∃ ag : Int, ag = AGf (uv st.1 9 0, st.2) k l i n := ⟨_, rfl⟩
      have hag1 : ag = AGf st k l i n := hag
      have rag : 0 ≤ ag ∧ ag ≤ 4 := by rw [hag1]; unfold AGf; (repeat (first | omega | split))
      refine k_sk (sk' := [.int (iI ag)]) (congrArg (fun zz : Int => ([.int (iI zz)] : List Value)) (show (AGf ((uv st.1 9 0, st.2)) k l i n) = (ag) from hag.symm)) ?_
      refine k_istore hE dX7_yard_33 [1, 2, 3, 4, 5, 0] (Nat.le_of_ble_eq_true rfl) (lo' := [(0, .ref (ad 0)), (1, .int (iI k)), (2, .int (iI l)), (3, .int (iI i)), (4, .int (iI n)), (5, .int (iI ag))]) rfl ?_
      refine k_iload hE dX7_yard_35 5 rfl ?_
      refine k_if_eq hE 47 dX7_yard_37 (by decide) (by unfold in32; omega) (fun c37 => ?_) (fun c37 => ?_)
      · have hag0 : AGf st k l i n = 0 := by omega
        have hin : 0 ≤ i ∧ i ≤ st.2 8 k ∧ 0 ≤ n ∧ n ≤ st.2 8 k - i := by unfold AGf at hag0; (repeat (first | omega | split at hag0))
        refine k_bipush hE dX7_yard_47 rfl ?_
        refine k_iload_n hE dX7_yard_49 1 rfl rfl ?_
        refine k_imul hE dX7_yard_50 ?_
        refine k_iload_n hE dX7_yard_51 3 rfl rfl ?_
        refine k_iadd hE dX7_yard_52 ?_
        refine k_istore hE dX7_yard_53 [1, 2, 3, 4, 5, 6, 0] (Nat.le_of_ble_eq_true rfl) (lo' := [(0, .ref (ad 0)), (1, .int (iI k)), (2, .int (iI l)), (3, .int (iI i)), (4, .int (iI n)), (5, .int (iI ag)), (6, .int (iI ((60 * k) + i)))]) rfl ?_
        refine k_aload_n hE dX7_yard_55 0 rfl rfl ?_
        refine k_iload hE dX7_yard_56 6 rfl ?_
        refine m_put_at hE fl_X7_96 dX7_yard_58 ?_
        refine k_st ((uv (uv st.1 9 0) 10 ((60 * k) + i), st.2)) rfl ?_
        refine k_aload_n hE dX7_yard_61 0 rfl rfl ?_
        refine k_iload hE dX7_yard_62 6 rfl ?_
        refine k_iload hE dX7_yard_64 4 rfl ?_
        refine k_iadd hE dX7_yard_66 ?_
        refine k_callV hE (c_X7_readYard ((uv (uv st.1 9 0) 10 ((60 * k) + i), st.2)) (((60 * k) + i) + n) ((60 * k) + i) rfl (by omega) (fun w w0 w1 => by have h5 := hS.2 k (w - 60 * k) (by omega) (by omega) (by omega) (by omega); rw [show 60 * k + (w - 60 * k) = w by omega] at h5; exact h5)) mf_X7_readYard ml_X7_99 0 rfl rfl rfl rfl ⟨rfl, rfl, Nat.le_of_ble_eq_true rfl, Nat.le_of_ble_eq_true rfl⟩ [] (Nat.le_of_ble_eq_true rfl) dX7_yard_67 rfl (fun rv u hp => ?_)
        obtain ⟨zy, S1, hv67, hu67, hz_67, f1_67, f2_67⟩ := hp
        try dsimp only at hz_67 f1_67 f2_67
        refine k_sk (sk' := [.int (iI zy)]) (by rw [hv67]; rfl) ?_
        refine k_st S1 hu67 ?_
        refine k_if_ne hE 84 dX7_yard_70 (by decide) (by unfold in32; omega) (fun c70 => ?_) (fun c70 => ?_)
        · have hok := (hz_67.resolve_right (fun h => c70 h.1)).2
          have hnn : 60 * k + i + n - (60 * k + i) = n := by omega
          have h13 : S1.1 13 = (n - 4) / 5 := by have h5 := hok.2.2.2.1; rw [hnn] at h5; exact h5
          have hff : FF (fun p => st.2 13 (60 * k + i + p)) n (-1) := by have h5 := hok.1; rw [hnn] at h5; exact h5
          have hse := hok.2.2.2.2
          rw [hnn] at hse
          have hT : (∀ j : Int, 0 ≤ j → j < n → GW j (st.2 13 (60 * k + i + j))) ∧ 4 < n ∧ (n - 4) % 5 = 0 := by
            rcases hff with ⟨p, p0, p1, p2, p3, p4, p5⟩ | ⟨a1, a2, a3, a4, a5⟩ | ⟨a1, a2, a3, a4⟩ | ⟨a1, a2, a3, a4, a5⟩
            · omega
            · omega
            · omega
            · exact ⟨a1, a3, a4⟩
          have h34 := FF_34 (c := fun p => st.2 13 (60 * k + i + p)) hT.1
          refine k_aload_n hE dX7_yard_84 0 rfl rfl ?_
          refine k_aload_n hE dX7_yard_85 0 rfl rfl ?_
          refine m_get_readCap hE (z := 10 * (st.2 13 (60 * k + i + 1) - 48) + (st.2 13 (60 * k + i + 2) - 48)) hok.2.1 fl_X7_102 dX7_yard_86 ?_
          refine m_put_cap hE fl_X7_105 dX7_yard_89 ?_
          refine k_st ((uv S1.1 1 (10 * (st.2 13 (60 * k + i + 1) - 48) + (st.2 13 (60 * k + i + 2) - 48)), S1.2)) rfl ?_
          refine k_aload_n hE dX7_yard_92 0 rfl rfl ?_
          refine k_aload_n hE dX7_yard_93 0 rfl rfl ?_
          refine m_get_readPer hE (z := st.2 13 (60 * k + i + 3) - 48) hok.2.2.1 fl_X7_108 dX7_yard_94 ?_
          refine m_put_per hE fl_X7_111 dX7_yard_97 ?_
          refine k_st ((uv (uv S1.1 1 (10 * (st.2 13 (60 * k + i + 1) - 48) + (st.2 13 (60 * k + i + 2) - 48))) 2 (st.2 13 (60 * k + i + 3) - 48), S1.2)) rfl ?_
          refine k_aload_n hE dX7_yard_100 0 rfl rfl ?_
          refine k_aload_n hE dX7_yard_101 0 rfl rfl ?_
          refine m_get_readTaps hE (z := (n - 4) / 5) h13 fl_X7_114 dX7_yard_102 ?_
          refine m_put_taps hE fl_X7_78 dX7_yard_105 ?_
          refine k_st ((uv (uv (uv S1.1 1 (10 * (st.2 13 (60 * k + i + 1) - 48) + (st.2 13 (60 * k + i + 2) - 48))) 2 (st.2 13 (60 * k + i + 3) - 48)) 0 ((n - 4) / 5), S1.2)) rfl ?_
          refine k_iconst hE dX7_yard_108 ?_
          refine k_istore hE dX7_yard_109 [1, 2, 3, 4, 5, 6, 7, 0] (Nat.le_of_ble_eq_true rfl) (lo' := [(0, .ref (ad 0)), (1, .int (iI k)), (2, .int (iI l)), (3, .int (iI i)), (4, .int (iI n)), (5, .int (iI ag)), (6, .int (iI ((60 * k) + i))), (7, .int (iI 0))]) rfl ?_
          have L111 : ∀ (fu111 : Nat) (S : Sg) (f : Int), (0 ≤ f ∧ f ≤ (n - 4) / 5) → ((n - 4) / 5 - f < fu111) → (S.1 0 = (n - 4) / 5) → (S.1 1 = 10 * (st.2 13 (60 * k + i + 1) - 48) + (st.2 13 (60 * k + i + 2) - 48)) → (S.1 2 = st.2 13 (60 * k + i + 3) - 48) → (∀ u : Nat, u ≠ 0 → u ≠ 1 → u ≠ 2 → u ≠ 10 → u ≠ 11 → u ≠ 12 → u ≠ 13 → S.1 u = uv st.1 9 0 u) → (∀ b : Nat, 3 < b → b ≠ 10 → b ≠ 11 → S.2 b = st.2 b) → (S.2 10 = S1.2 10) → (S.2 11 = S1.2 11) → (S.2 0 = fillr (st.2 0) f (fun f => KDc (st.2 13 (60 * k + i + 4 + f * 5 + 1)))) → (S.2 1 = fillr (st.2 1) f (fun f => st.2 13 (60 * k + i + 4 + f * 5 + 2) - 48)) → (S.2 2 = fillr (st.2 2) f (fun f => st.2 13 (60 * k + i + 4 + f * 5 + 3) - 48)) → (S.2 3 = fillr (st.2 3) f (fun f => st.2 13 (60 * k + i + 4 + f * 5 + 4) - 48)) → KW (mw ad D cI cZ) G H0 m 8 S 111 [(0, .ref (ad 0)), (1, .int (iI k)), (2, .int (iI l)), (3, .int (iI i)), (4, .int (iI n)), (5, .int (iI ag)), (6, .int (iI (60 * k + i))), (7, .int (iI f))] [] := by
            intro fu111
            induction fu111 with
            | zero =>
              intro S f q0 q1 v0 v1 v2 vo e2 r10 r11 g0 g1 g2 g3
              omega
            | succ fu111 ih111 =>
              intro S f q0 q1 v0 v1 v2 vo e2 r10 r11 g0 g1 g2 g3
              refine k_iload hE dX7_yard_111 7 rfl ?_
              refine k_aload_n hE dX7_yard_113 0 rfl rfl ?_
              refine m_get_taps hE (z := (n - 4) / 5) v0 fl_X7_78 dX7_yard_114 ?_
              refine k_icmp_ge hE 192 dX7_yard_117 (by decide) (by unfold in32; omega) (by unfold in32; omega) (fun c117 => ?_) (fun c117 => ?_)
              · have ef : f = (n - 4) / 5 := by omega
                rw [ef] at g0 g1 g2 g3
                refine k_iconst hE dX7_yard_192 ?_
                refine k_istore hE dX7_yard_193 [1, 2, 3, 4, 5, 6, 7, 0] (Nat.le_of_ble_eq_true rfl) (lo' := [(0, .ref (ad 0)), (1, .int (iI k)), (2, .int (iI l)), (3, .int (iI i)), (4, .int (iI n)), (5, .int (iI ag)), (6, .int (iI (60 * k + i))), (7, .int (iI 0))]) rfl ?_
                have L195 : ∀ (fu195 : Nat) (S2 : Sg) (j : Int), (0 ≤ j ∧ j ≤ 10) → (10 - j < fu195) → (S2.1 = S.1) → (∀ b : Nat, b ≠ 4 → S2.2 b = S.2 b) → (S2.2 4 = fillr (st.2 4) j (fun _ => 0)) → KW (mw ad D cI cZ) G H0 m 8 S2 195 [(0, .ref (ad 0)), (1, .int (iI k)), (2, .int (iI l)), (3, .int (iI i)), (4, .int (iI n)), (5, .int (iI ag)), (6, .int (iI (60 * k + i))), (7, .int (iI j))] [] := by
                  intro fu195
                  induction fu195 with
                  | zero =>
                    intro S2 j p0 p1 w1 w2 w4
                    omega
                  | succ fu195 ih195 =>
                    intro S2 j p0 p1 w1 w2 w4
                    have w0 : S2.1 0 = (n - 4) / 5 := by rw [w1]; exact v0
                    refine k_iload hE dX7_yard_195 7 rfl ?_
                    refine k_bipush hE dX7_yard_197 rfl ?_
                    refine k_icmp_ge hE 216 dX7_yard_199 (by decide) (by unfold in32; omega) (by unfold in32; omega) (fun c199 => ?_) (fun c199 => ?_)
                    · refine k_aload_n hE dX7_yard_216 0 rfl rfl ?_
                      refine k_iconst hE dX7_yard_217 ?_
                      refine m_put_first hE fl_X7_117 dX7_yard_218 ?_
                      refine k_st ((uv S2.1 3 0, S2.2)) rfl ?_
                      refine k_aload_n hE dX7_yard_221 0 rfl rfl ?_
                      refine k_iconst hE dX7_yard_222 ?_
                      refine m_put_lawNow hE fl_X7_120 dX7_yard_223 ?_
                      refine k_st ((uv (uv S2.1 3 0) 4 0, S2.2)) rfl ?_
                      refine k_aload_n hE dX7_yard_226 0 rfl rfl ?_
                      refine k_iconst hE dX7_yard_227 ?_
                      refine m_put_leakAt hE fl_X7_123 dX7_yard_228 ?_
                      refine k_st ((uv (uv (uv S2.1 3 0) 4 0) 5 0, S2.2)) rfl ?_
                      refine k_aload_n hE dX7_yard_231 0 rfl rfl ?_
                      refine k_iconst hE dX7_yard_232 ?_
                      refine m_put_leaks hE fl_X7_126 dX7_yard_233 ?_
                      refine k_st ((uv (uv (uv (uv S2.1 3 0) 4 0) 5 0) 6 0, S2.2)) rfl ?_
                      refine k_aload_n hE dX7_yard_236 0 rfl rfl ?_
                      refine k_iconst hE dX7_yard_237 ?_
                      refine m_put_marks hE fl_X7_129 dX7_yard_238 ?_
                      refine k_st ((uv (uv (uv (uv (uv S2.1 3 0) 4 0) 5 0) 6 0) 7 0, S2.2)) rfl ?_
                      refine k_aload_n hE dX7_yard_241 0 rfl rfl ?_
                      refine m_get_taps hE (z := (n - 4) / 5) w0 fl_X7_78 dX7_yard_242 ?_
                      refine k_iret hR dX7_yard_245 rfl ?_
                      have ej : j = 10 := by omega
                      rw [ej] at w4
                      refine ⟨_, _, rfl, rfl, Or.inr (Or.inr (Or.inr (Or.inr ⟨by omega, by omega, hag0, hff, rfl, w0, ?_, ?_, fun u h1 h2 => ?_, fun u h1 h2 h3 h4 h5 => ?_, fun b h1 h2 h3 => ?_, (w2 0 (by decide)).trans g0, (w2 1 (by decide)).trans g1, (w2 2 (by decide)).trans g2, (w2 3 (by decide)).trans g3, w4⟩)))⟩
                      · show S2.1 1 = _
                        rw [w1]; exact v1
                      · show S2.1 2 = _
                        rw [w1]; exact v2
                      · rcases (show u = 3 ∨ u = 4 ∨ u = 5 ∨ u = 6 ∨ u = 7 by omega) with h | h | h | h | h <;> rw [h] <;> rfl
                      · show uv (uv (uv (uv (uv S2.1 3 0) 4 0) 5 0) 6 0) 7 0 u = _
                        rw [uv_n _ _ (by omega), uv_n _ _ (by omega), uv_n _ _ (by omega), uv_n _ _ (by omega), uv_n _ _ (by omega), w1]
                        exact vo u (by omega) (by omega) (by omega) h2 h3 h4 h5
                      · show S2.2 b = _
                        rw [w2 b (by omega)]; exact e2 b (by omega) h2 h3
                    · refine k_aload_n hE dX7_yard_202 0 rfl rfl ?_
                      refine m_get_rainOf hE fl_X7_31 dX7_yard_203 ?_
                      refine k_iload hE dX7_yard_206 7 rfl ?_
                      refine k_iconst hE dX7_yard_208 ?_
                      refine m_st_rainOf hE (by omega) (by omega) dX7_yard_209 ?_
                      refine k_st ((S2.1, ur S2.2 4 j 0)) rfl ?_
                      refine k_iinc hE dX7_yard_210 7 [1, 2, 3, 4, 5, 6, 7, 0] rfl (Nat.le_of_ble_eq_true rfl) (lo' := [(0, .ref (ad 0)), (1, .int (iI k)), (2, .int (iI l)), (3, .int (iI i)), (4, .int (iI n)), (5, .int (iI ag)), (6, .int (iI (60 * k + i))), (7, .int (iI (j + 1)))]) rfl ?_
                      refine k_goto hE 195 dX7_yard_213 (by decide) ?_
                      exact ih195 ((S2.1, ur S2.2 4 j 0)) _ (by omega) (by omega) w1 (fun b hb => by show ur S2.2 4 _ _ b = _; rw [ur_n _ _ _ hb]; exact w2 b hb) (ur_fill (r := S2.2) (a := 4) w4 p0.1 rfl)
                exact L195 11 S 0 (by omega) (by omega) rfl (fun b _ => rfl) (by rw [fillr_0]; exact e2 4 (by decide) (by decide) (by decide))
              · have hsf := hse f (by omega) (by omega)
                refine k_aload_n hE dX7_yard_120 0 rfl rfl ?_
                refine m_get_kind hE fl_X7_19 dX7_yard_121 ?_
                refine k_iload hE dX7_yard_124 7 rfl ?_
                refine k_aload_n hE dX7_yard_126 0 rfl rfl ?_
                refine m_get_readKind hE fl_X7_34 dX7_yard_127 ?_
                refine k_iload hE dX7_yard_130 7 rfl ?_
                refine m_ld_readKind hE (z := KDc (st.2 13 (60 * k + i + 4 + f * 5 + 1))) (by omega) (by omega) (by rw [r10]; exact hsf.1) dX7_yard_132 ?_
                refine m_st_kind hE (by omega) (by omega) dX7_yard_133 ?_
                refine k_st ((S.1, ur S.2 0 f (KDc (st.2 13 (60 * k + i + 4 + f * 5 + 1))))) rfl ?_
                refine k_aload_n hE dX7_yard_134 0 rfl rfl ?_
                refine m_get_height hE fl_X7_22 dX7_yard_135 ?_
                refine k_iload hE dX7_yard_138 7 rfl ?_
                refine k_aload_n hE dX7_yard_140 0 rfl rfl ?_
                refine m_get_readDigits hE fl_X7_37 dX7_yard_141 ?_
                refine k_iconst hE dX7_yard_144 ?_
                refine k_iload hE dX7_yard_145 7 rfl ?_
                refine k_imul hE dX7_yard_147 ?_
                refine m_ld_readDigits hE (z := st.2 13 (60 * k + i + 4 + f * 5 + 2) - 48) (by omega) (by omega) (show S.2 11 _ = _ by rw [r11]; exact hsf.2.1) dX7_yard_148 ?_
                refine m_st_height hE (by omega) (by omega) dX7_yard_149 ?_
                refine k_st ((S.1, ur (ur S.2 0 f (KDc (st.2 13 (60 * k + i + 4 + f * 5 + 1)))) 1 f (st.2 13 (60 * k + i + 4 + f * 5 + 2) - 48))) rfl ?_
                refine k_aload_n hE dX7_yard_150 0 rfl rfl ?_
                refine m_get_need hE fl_X7_25 dX7_yard_151 ?_
                refine k_iload hE dX7_yard_154 7 rfl ?_
                refine k_aload_n hE dX7_yard_156 0 rfl rfl ?_
                refine m_get_readDigits hE fl_X7_37 dX7_yard_157 ?_
                refine k_iconst hE dX7_yard_160 ?_
                refine k_iload hE dX7_yard_161 7 rfl ?_
                refine k_imul hE dX7_yard_163 ?_
                refine k_iconst hE dX7_yard_164 ?_
                refine k_iadd hE dX7_yard_165 ?_
                refine m_ld_readDigits hE (z := st.2 13 (60 * k + i + 4 + f * 5 + 3) - 48) (by omega) (by omega) (show S.2 11 _ = _ by rw [r11]; exact hsf.2.2.1) dX7_yard_166 ?_
                refine m_st_need hE (by omega) (by omega) dX7_yard_167 ?_
                refine k_st ((S.1, ur (ur (ur S.2 0 f (KDc (st.2 13 (60 * k + i + 4 + f * 5 + 1)))) 1 f (st.2 13 (60 * k + i + 4 + f * 5 + 2) - 48)) 2 f (st.2 13 (60 * k + i + 4 + f * 5 + 3) - 48))) rfl ?_
                refine k_aload_n hE dX7_yard_168 0 rfl rfl ?_
                refine m_get_speed hE fl_X7_28 dX7_yard_169 ?_
                refine k_iload hE dX7_yard_172 7 rfl ?_
                refine k_aload_n hE dX7_yard_174 0 rfl rfl ?_
                refine m_get_readDigits hE fl_X7_37 dX7_yard_175 ?_
                refine k_iconst hE dX7_yard_178 ?_
                refine k_iload hE dX7_yard_179 7 rfl ?_
                refine k_imul hE dX7_yard_181 ?_
                refine k_iconst hE dX7_yard_182 ?_
                refine k_iadd hE dX7_yard_183 ?_
                refine m_ld_readDigits hE (z := st.2 13 (60 * k + i + 4 + f * 5 + 4) - 48) (by omega) (by omega) (show S.2 11 _ = _ by rw [r11]; exact hsf.2.2.2) dX7_yard_184 ?_
                refine m_st_speed hE (by omega) (by omega) dX7_yard_185 ?_
                refine k_st ((S.1, ur (ur (ur (ur S.2 0 f (KDc (st.2 13 (60 * k + i + 4 + f * 5 + 1)))) 1 f (st.2 13 (60 * k + i + 4 + f * 5 + 2) - 48)) 2 f (st.2 13 (60 * k + i + 4 + f * 5 + 3) - 48)) 3 f (st.2 13 (60 * k + i + 4 + f * 5 + 4) - 48))) rfl ?_
                refine k_iinc hE dX7_yard_186 7 [1, 2, 3, 4, 5, 6, 7, 0] rfl (Nat.le_of_ble_eq_true rfl) (lo' := [(0, .ref (ad 0)), (1, .int (iI k)), (2, .int (iI l)), (3, .int (iI i)), (4, .int (iI n)), (5, .int (iI ag)), (6, .int (iI (60 * k + i))), (7, .int (iI (f + 1)))]) rfl ?_
                refine k_goto hE 111 dX7_yard_189 (by decide) ?_
                exact ih111 ((S.1, ur (ur (ur (ur S.2 0 f (KDc (st.2 13 (60 * k + i + 4 + f * 5 + 1)))) 1 f (st.2 13 (60 * k + i + 4 + f * 5 + 2) - 48)) 2 f (st.2 13 (60 * k + i + 4 + f * 5 + 3) - 48)) 3 f (st.2 13 (60 * k + i + 4 + f * 5 + 4) - 48))) _ (by omega) (by omega) v0 v1 v2 vo (fun b h1 h2 h3 => by show ur (ur (ur (ur S.2 0 _ _) 1 _ _) 2 _ _) 3 _ _ b = _; rw [ur_n _ _ _ (by omega), ur_n _ _ _ (by omega), ur_n _ _ _ (by omega), ur_n _ _ _ (by omega)]; exact e2 b h1 h2 h3) r10 r11 (ur_fill (r := S.2) (a := 0) g0 q0.1 rfl) (ur_fill (r := S.2) (a := 1) g1 q0.1 rfl) (ur_fill (r := S.2) (a := 2) g2 q0.1 rfl) (ur_fill (r := S.2) (a := 3) g3 q0.1 rfl)
          exact L111 8 ((uv (uv (uv S1.1 1 (10 * (st.2 13 (60 * k + i + 1) - 48) + (st.2 13 (60 * k + i + 2) - 48))) 2 (st.2 13 (60 * k + i + 3) - 48)) 0 ((n - 4) / 5), S1.2)) 0 (by omega) (by omega) rfl rfl rfl (fun u h0 h1 h2 h3 h4 h5 h6 => by show uv (uv (uv S1.1 1 _) 2 _) 0 _ u = _; rw [uv_n _ _ h0, uv_n _ _ h2, uv_n _ _ h1, f1_67 u h3 h4 h5 h6]; show uv (uv st.1 9 0) 10 _ u = _; rw [uv_n _ _ h3]) (fun b _ h1 h2 => f2_67 b h1 h2) rfl rfl (by rw [fillr_0]; exact f2_67 0 (by decide) (by decide)) (by rw [fillr_0]; exact f2_67 1 (by decide) (by decide)) (by rw [fillr_0]; exact f2_67 2 (by decide) (by decide)) (by rw [fillr_0]; exact f2_67 3 (by decide) (by decide))
        · refine k_bipush hE dX7_yard_73 rfl ?_
          refine k_aload_n hE dX7_yard_75 0 rfl rfl ?_
          refine m_get_at hE (z := S1.1 10) rfl fl_X7_96 dX7_yard_76 ?_
          refine k_iload hE dX7_yard_79 6 rfl ?_
          refine k_isub hE dX7_yard_81 ?_
          refine k_isub hE dX7_yard_82 ?_
          refine k_iret hR dX7_yard_83 rfl ?_
          rcases hz_67 with h | h
          · omega
          · obtain ⟨h1, p, p0, p1, p2⟩ := h
            rw [show 60 * k + i + n - (60 * k + i) = n by omega] at p1
            refine ⟨_, S1, ret_i (show -100 - (S1.1 10 - (60 * k + i)) = -100 - p by omega), rfl, Or.inr (Or.inr (Or.inr (Or.inl ⟨by omega, by omega, hag0, ⟨p, p0, p1, rfl⟩, fun u h3 h4 h5 h6 => ?_, fun b h3 h4 => f2_67 b h3 h4⟩)))⟩
            rw [f1_67 u h3 h4 h5 h6]; show uv (uv st.1 9 0) 10 _ u = _; rw [uv_n _ _ h3]
      · refine k_aload_n hE dX7_yard_40 0 rfl rfl ?_
        refine k_iload hE dX7_yard_41 5 rfl ?_
        refine k_callV hE (c_X7_fails ((uv st.1 9 0, st.2)) ag) mf_X7_fails ml_X7_92 0 rfl rfl rfl rfl ⟨rfl, rfl, Nat.le_of_ble_eq_true rfl, Nat.le_of_ble_eq_true rfl⟩ [] (Nat.le_of_ble_eq_true rfl) dX7_yard_43 rfl (fun rv u hp => ?_)
        obtain ⟨hv43, hu43⟩ := hp
        refine k_sk (sk' := [.int (iI (-10 - ag))]) (by rw [hv43]; rfl) ?_
        refine k_st ((uv (uv st.1 9 0) 9 ag, st.2)) hu43 ?_
        refine k_iret hR dX7_yard_46 rfl ?_
        refine ⟨_, _, rfl, rfl, Or.inr (Or.inr (Or.inl ⟨by omega, by omega, by omega, by omega, ?_⟩))⟩
        rw [← hag1]
    · refine k_bipush hE dX7_yard_21 rfl ?_
      exact k_iret hR dX7_yard_23 rfl ⟨_, _, rfl, rfl, Or.inr (Or.inl ⟨by omega, by omega, rfl, rfl⟩)⟩
  · refine k_iconst hE dX7_yard_12 ?_
    exact k_iret hR dX7_yard_13 rfl ⟨_, _, rfl, rfl, Or.inl ⟨by omega, rfl, rfl⟩⟩
