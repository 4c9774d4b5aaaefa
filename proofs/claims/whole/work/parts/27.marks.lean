set_option maxHeartbeats 4000000 in
set_option maxRecDepth 100000 in
theorem c_X6_marksHoldBehind {ad : Nat → Nat} {ta sa ca : Int → Nat} {D : va_G} {cI cT cS : ClassId} (st : Sg) (Y : Sg) (d : Int) (q : Int) (hA : Ag st Y) (hI : Inv Y) (hd : 0 ≤ d ∧ d < 10) (hq : st.1 10 = q) (hq3 : 0 ≤ q ∧ q ≤ 3) (hO : OR Y q (st.2 12) (Y.1 0).toNat) (hL : ∀ j : Int, 0 ≤ j → j ≤ d + 1 → 0 ≤ st.2 9 j ∧ st.2 9 j ≤ Y.1 1) : MC (xw ad ta sa ca D cI cT cS) yX6_marksHoldBehind cX6_marksHoldBehind 4 (some .boolean) { frames := 4, cells := 0, slots := 0, locals := 101 } [.ref (ad 0), .int (iI d)] st (fun rv u => ∃ z : Int, ∃ S : Sg, rv = some (.int (iI (z))) ∧ u = S ∧ ((z = 1 ∧ MH Y (LVf Y q (Y.2 4) d (st.2 9))) ∨ (z = 0 ∧ ¬ MH Y (LVf Y q (Y.2 4) d (st.2 9)))) ∧ (S.1 = st.1) ∧ (∀ a, (a < 9 ∨ 11 < a) → S.2 a = st.2 a) ∧ (∀ j : Int, j ≤ d + 1 → S.2 9 j = st.2 9 j)) := by
  refine MC_intro RX6 (by decide) rfl (Nat.le_of_ble_eq_true rfl) ?_
  intro G H0 m hE hR
  refine k_lo [0, 1] (lo' := [(0, .ref (ad 0)), (1, .int (iI d))]) rfl ?_
  obtain ⟨hi0, hi1, hi2, hi3, hi4, hi5, hi6, hi7, hit, hir, him, hin⟩ := id hI
  refine k_aload_n hE dX6_marksHoldBehind_0 0 rfl rfl ?_
  refine x_get_X6_marks hE fl_X6_30 dX6_marksHoldBehind_1 ?_
  refine k_callV hE (c_X1_lastDay st Y hA hI) mf_X1_lastDay ml_X6_225 9 rfl rfl rfl rfl ⟨rfl, rfl, Nat.le_of_ble_eq_true rfl, Nat.le_of_ble_eq_true rfl⟩ [] (Nat.le_of_ble_eq_true rfl) dX6_marksHoldBehind_4 rfl (fun rv u hp => ?_)
  obtain ⟨la, hv4, hu4, p0_4, p1_4⟩ := hp
  refine k_sk (sk' := [.int (iI la)]) (by rw [hv4]; rfl) ?_
  refine k_st st hu4 ?_
  refine k_istore_n hE dX6_marksHoldBehind_7 [1, 2, 0] rfl (Nat.le_of_ble_eq_true rfl) (lo' := [(0, .ref (ad 0)), (1, .int (iI d)), (2, .int (iI la))]) rfl ?_
  refine k_iconst hE dX6_marksHoldBehind_8 ?_
  refine k_istore_n hE dX6_marksHoldBehind_9 [1, 2, 3, 0] rfl (Nat.le_of_ble_eq_true rfl) (lo' := [(0, .ref (ad 0)), (1, .int (iI d)), (2, .int (iI la)), (3, .int (iI 0))]) rfl ?_
  have L10 : ∀ (fu10 : Nat) (S : Sg) (h : Int), (0 ≤ h ∧ h ≤ la + 1) → (la + 1 - h < fu10) → (S.1 = st.1) → (∀ a, (a < 9 ∨ 11 < a) → S.2 a = st.2 a) → (∀ j : Int, j ≤ d + 1 → S.2 9 j = st.2 9 j) → (∀ j : Int, 0 ≤ j → j ≤ max (d + 1) (h - 1) → S.2 9 j = LVf Y q (Y.2 4) d (st.2 9) j.toNat ∧ 0 ≤ S.2 9 j ∧ S.2 9 j ≤ Y.1 1) → (∀ k : Int, 0 ≤ k → k < Y.1 7 → Y.2 5 k < h → LVf Y q (Y.2 4) d (st.2 9) (Y.2 5 k).toNat = Y.2 6 k) → KW (xw ad ta sa ca D cI cT cS) G H0 m 4 S 10 [(0, .ref (ad 0)), (1, .int (iI d)), (2, .int (iI la)), (3, .int (iI h))] [] := by
    intro fu10
    induction fu10 with
    | zero =>
      intro S h q0 q1 k1 k2 k3 hv hk
      omega
    | succ fu10 ih10 =>
      intro S h q0 q1 k1 k2 k3 hv hk
      have hAS : Ag S Y := ⟨fun i hi => by rw [k1]; exact hA.1 i hi, fun a ha => by rw [k2 a (by omega)]; exact hA.2 a ha⟩
      refine k_iload_n hE dX6_marksHoldBehind_10 3 rfl rfl ?_
      refine k_iload_n hE dX6_marksHoldBehind_11 2 rfl rfl ?_
      refine k_icmp_gt hE 71 dX6_marksHoldBehind_12 (by decide) (by unfold in32; omega) (by unfold in32; omega) (fun c12 => ?_) (fun c12 => ?_)
      · refine k_iconst hE dX6_marksHoldBehind_71 ?_
        exact k_zret hR dX6_marksHoldBehind_72 rfl (nar_b (by omega)) ⟨_, S, rfl, rfl, Or.inl ⟨rfl, fun k k0 k1' => hk k k0 k1' (by have h5 := p1_4 k k0 k1'; omega)⟩, k1, k2, k3⟩
      · have J43 : ∀ (S2 : Sg), (S2.1 = st.1) → (∀ a, (a < 9 ∨ 11 < a) → S2.2 a = st.2 a) → (∀ j : Int, j ≤ d + 1 → S2.2 9 j = st.2 9 j) → (∀ j : Int, 0 ≤ j → j ≤ max (d + 1) h → S2.2 9 j = LVf Y q (Y.2 4) d (st.2 9) j.toNat ∧ 0 ≤ S2.2 9 j ∧ S2.2 9 j ≤ Y.1 1) → KW (xw ad ta sa ca D cI cT cS) G H0 m 4 S2 43 [(0, .ref (ad 0)), (1, .int (iI d)), (2, .int (iI la)), (3, .int (iI h))] [] := by
          intro S2 n1 n2 n3 hv2
          have hAS2 : Ag S2 Y := ⟨fun i hi => by rw [n1]; exact hA.1 i hi, fun a ha => by rw [n2 a (by omega)]; exact hA.2 a ha⟩
          have hv3 := hv2 h (by omega) (by omega)
          refine k_aload_n hE dX6_marksHoldBehind_43 0 rfl rfl ?_
          refine x_get_X6_marks hE fl_X6_30 dX6_marksHoldBehind_44 ?_
          refine k_iload_n hE dX6_marksHoldBehind_47 3 rfl rfl ?_
          refine k_aload_n hE dX6_marksHoldBehind_48 0 rfl rfl ?_
          refine x_get_X6_days hE fl_X6_23 dX6_marksHoldBehind_49 ?_
          refine x_get_X0_levels hE fl_X6_142 dX6_marksHoldBehind_52 ?_
          refine k_iload_n hE dX6_marksHoldBehind_55 3 rfl rfl ?_
          refine x_ld_levels hE (z := S2.2 9 h) (by omega) (by omega) rfl dX6_marksHoldBehind_56 ?_
          refine k_callV hE (c_X1_holdAhead S2 Y h (S2.2 9 h) hAS2 hI (by omega) (by omega)) mf_X1_holdAhead ml_X6_228 9 rfl rfl rfl rfl ⟨rfl, rfl, Nat.le_of_ble_eq_true rfl, Nat.le_of_ble_eq_true rfl⟩ [] (Nat.le_of_ble_eq_true rfl) dX6_marksHoldBehind_57 rfl (fun rv u hp => ?_)
          obtain ⟨zz, hv57, hu57, hz_57⟩ := hp
          refine k_sk (sk' := [.int (iI zz)]) (by rw [hv57]; rfl) ?_
          refine k_st S2 hu57 ?_
          refine k_if_ne hE 65 dX6_marksHoldBehind_60 (by decide) (by unfold in32; omega) (fun c60 => ?_) (fun c60 => ?_)
          · refine k_iinc hE dX6_marksHoldBehind_65 3 [1, 2, 3, 0] rfl (Nat.le_of_ble_eq_true rfl) (lo' := [(0, .ref (ad 0)), (1, .int (iI d)), (2, .int (iI la)), (3, .int (iI (h + 1)))]) rfl ?_
            refine k_goto hE 10 dX6_marksHoldBehind_68 (by decide) ?_
            refine ih10 S2 _ (by omega) (by omega) n1 n2 n3 (fun j j0 j1 => hv2 j j0 (by omega)) (fun k k0 k1 k2 => ?_)
            by_cases e : Y.2 5 k = h
            · rcases hz_57 with h5 | h5
              · rw [e, ← hv3.1]; exact (h5.2 k k0 k1 e).symm
              · omega
            · exact hk k k0 k1 (by omega)
          · refine k_iconst hE dX6_marksHoldBehind_63 ?_
            refine k_zret hR dX6_marksHoldBehind_64 rfl (nar_b (by omega)) ?_
            refine ⟨_, S2, rfl, rfl, Or.inr ⟨rfl, fun hm => ?_⟩, n1, n2, n3⟩
            rcases hz_57 with h5 | h5
            · omega
            · exact h5.2 (fun k k0 k1 e => by rw [hv3.1, ← e]; exact (hm k k0 k1).symm)
        refine k_iload_n hE dX6_marksHoldBehind_15 3 rfl rfl ?_
        refine k_iload_n hE dX6_marksHoldBehind_16 1 rfl rfl ?_
        refine k_iconst hE dX6_marksHoldBehind_17 ?_
        refine k_iadd hE dX6_marksHoldBehind_18 ?_
        refine k_icmp_le hE 43 dX6_marksHoldBehind_19 (by decide) (by unfold in32; omega) (by unfold in32; omega) (fun c19 => ?_) (fun c19 => ?_)
        · first
            | exact J43 S k1 k2 k3 (fun j j0 j1 => hv j j0 (by omega))
            | (refine J43 S3 (e1_40.trans k1) (fun a ha => (e2_40 a ha).trans (k2 a ha)) (fun j hj => (l1_40 j (by omega)).trans (k3 j hj)) (fun j j0 j1 => ?_)
               by_cases e : j = h
               · have e2 := l2_40
                 rw [show h - 1 + 1 = h by omega] at e2
                 rw [e, e2]
                 refine ⟨?_, rg_40⟩
                 rw [LVf_hi hd.1 (show d + 1 < h by omega), ← (hv (h - 1) (by omega) (by omega)).1]
               · rw [l1_40 j (by omega)]; exact hv j j0 (by omega))
        · refine k_aload_n hE dX6_marksHoldBehind_22 0 rfl rfl ?_
          refine x_get_X6_days hE fl_X6_23 dX6_marksHoldBehind_23 ?_
          refine k_iload_n hE dX6_marksHoldBehind_26 3 rfl rfl ?_
          refine k_iconst hE dX6_marksHoldBehind_27 ?_
          refine k_isub hE dX6_marksHoldBehind_28 ?_
          refine k_aload_n hE dX6_marksHoldBehind_29 0 rfl rfl ?_
          refine x_get_X6_yard hE fl_X6_12 dX6_marksHoldBehind_30 ?_
          refine x_get_X5_rainOn hE fl_X6_121 dX6_marksHoldBehind_33 ?_
          refine k_iload_n hE dX6_marksHoldBehind_36 3 rfl rfl ?_
          refine k_iconst hE dX6_marksHoldBehind_37 ?_
          refine k_isub hE dX6_marksHoldBehind_38 ?_
          refine x_ld_rainOn hE (z := Y.2 4 (h - 1)) (by omega) (by omega) (congrFun (hAS.2 4 (by decide)) (h - 1)) dX6_marksHoldBehind_39 ?_
          refine k_callV hE (c_X0_passDay S Y (h - 1) (Y.2 4 (h - 1)) (S.2 9 (h - 1)) q hAS hI (by omega) (hir (h - 1) (by omega) (by omega)) rfl (hv (h - 1) (by omega) (by omega)).2 (by rw [k1]; exact hq) (by omega) (by rw [k2 12 (by decide)]; exact hO)) mf_X0_passDay ml_X6_176 4 rfl rfl rfl rfl ⟨rfl, rfl, Nat.le_of_ble_eq_true rfl, Nat.le_of_ble_eq_true rfl⟩ [] (Nat.le_of_ble_eq_true rfl) dX6_marksHoldBehind_40 rfl (fun rv u hp => ?_)
          obtain ⟨S3, hv40, hu40, e1_40, e2_40, l1_40, l2_40, o1_40, o2_40, g1_40, g2_40, rg_40, gr_40⟩ := hp
          refine k_sk (sk' := []) (by rw [hv40]; rfl) ?_
          refine k_st S3 hu40 ?_
          first
            | exact J43 S k1 k2 k3 (fun j j0 j1 => hv j j0 (by omega))
            | (refine J43 S3 (e1_40.trans k1) (fun a ha => (e2_40 a ha).trans (k2 a ha)) (fun j hj => (l1_40 j (by omega)).trans (k3 j hj)) (fun j j0 j1 => ?_)
               by_cases e : j = h
               · have e2 := l2_40
                 rw [show h - 1 + 1 = h by omega] at e2
                 rw [e, e2]
                 refine ⟨?_, rg_40⟩
                 rw [LVf_hi hd.1 (show d + 1 < h by omega), ← (hv (h - 1) (by omega) (by omega)).1]
               · rw [l1_40 j (by omega)]; exact hv j j0 (by omega))
  exact L10 12 st 0 (by omega) (by omega) rfl (fun a _ => rfl) (fun j _ => rfl) (fun j j0 j1 => ⟨(LVf_lo j0 (by omega)).symm, hL j j0 (by omega)⟩) (fun k k0 k1 k2 => by have h5 := him k k0 (by omega); omega)

set_option maxHeartbeats 4000000 in
set_option maxRecDepth 100000 in
theorem c_X6_rains {ad : Nat → Nat} {ta sa ca : Int → Nat} {D : va_G} {cI cT cS : ClassId} (st : Sg) (Y : Sg) (d : Int) (k : Int) (hA : Ag st Y) (hI : Inv Y) (i_d : -2147483648 ≤ d ∧ d < 2147483648) (i_k : -2147483648 ≤ k ∧ k < 2147483648) : MC (xw ad ta sa ca D cI cT cS) yX6_rains cX6_rains 5 (some .int) { frames := 6, cells := 0, slots := 0, locals := 145 } [.ref (ad 0), .int (iI d), .int (iI k)] st (fun rv u => ∃ z : Int, ∃ S : Sg, rv = some (.int (iI (z))) ∧ u = S ∧ (RN Y d k z) ∧ (XS st S)) := by
  refine MC_intro RX6 (by decide) rfl (Nat.le_of_ble_eq_true rfl) ?_
  intro G H0 m hE hR
  refine k_lo [0, 1, 2] (lo' := [(0, .ref (ad 0)), (1, .int (iI d)), (2, .int (iI k))]) rfl ?_
  obtain ⟨hi0, hi1, hi2, hi3, hi4, hi5, hi6, hi7, hit, hir, him, hin⟩ := id hI
  refine k_iload_n hE dX6_rains_0 1 rfl rfl ?_
  refine k_callS hE (c_X6_noDay st d (by omega)) ms_X6_noDay ml_X6_118 rfl ⟨rfl, rfl, Nat.le_of_ble_eq_true rfl, Nat.le_of_ble_eq_true rfl⟩ [] (Nat.le_of_ble_eq_true rfl) dX6_rains_1 rfl (fun rv u hp => ?_)
  obtain ⟨z1, hv1, hu1, hz_1⟩ := hp
  refine k_sk (sk' := [.int (iI z1)]) (by rw [hv1]; rfl) ?_
  refine k_st st hu1 ?_
  refine k_if_ne hE 12 dX6_rains_4 (by decide) (by unfold in32; omega) (fun c4 => ?_) (fun c4 => ?_)
  · refine k_iconst hE dX6_rains_12 ?_
    exact k_iret hR dX6_rains_13 rfl ⟨_, st, rfl, rfl, Or.inl ⟨by omega, rfl⟩, XS.refl st⟩
  · refine k_iload_n hE dX6_rains_7 2 rfl rfl ?_
    refine k_iconst hE dX6_rains_8 ?_
    refine k_icmp_ge hE 14 dX6_rains_9 (by decide) (by unfold in32; omega) (by unfold in32; omega) (fun c9 => ?_) (fun c9 => ?_)
    · refine k_aload_n hE dX6_rains_14 0 rfl rfl ?_
      refine k_callV hE (c_X6_noYard st Y hA hI) mf_X6_noYard ml_X6_108 0 rfl rfl rfl rfl ⟨rfl, rfl, Nat.le_of_ble_eq_true rfl, Nat.le_of_ble_eq_true rfl⟩ [] (Nat.le_of_ble_eq_true rfl) dX6_rains_15 rfl (fun rv u hp => ?_)
      obtain ⟨z2, hv15, hu15, hz_15⟩ := hp
      refine k_sk (sk' := [.int (iI z2)]) (by rw [hv15]; rfl) ?_
      refine k_st st hu15 ?_
      refine k_if_eq hE 24 dX6_rains_18 (by decide) (by unfold in32; omega) (fun c18 => ?_) (fun c18 => ?_)
      · have w1 : ¬ ((d < 0 ∨ 9 < d) ∨ k < -1) := by omega
        have w2 : Y.1 0 ≠ 0 := by omega
        refine k_aload_n hE dX6_rains_24 0 rfl rfl ?_
        refine k_iload_n hE dX6_rains_25 1 rfl rfl ?_
        refine k_callV hE (c_X6_passAsTold st Y d hA hI (by omega)) mf_X6_passAsTold ml_X6_134 0 rfl rfl rfl rfl ⟨rfl, rfl, Nat.le_of_ble_eq_true rfl, Nat.le_of_ble_eq_true rfl⟩ [] (Nat.le_of_ble_eq_true rfl) dX6_rains_26 rfl (fun rv u hp => ?_)
        obtain ⟨S1, hv26, hu26, hx_26, hr_26, hO_26, er_26⟩ := hp
        refine k_sk (sk' := []) (by rw [hv26]; rfl) ?_
        refine k_st S1 hu26 ?_
        have hB : Ag S1 Y := hx_26.ag hA
        refine k_iconst hE dX6_rains_29 ?_
        refine k_istore_n hE dX6_rains_30 [1, 2, 3, 0] rfl (Nat.le_of_ble_eq_true rfl) (lo' := [(0, .ref (ad 0)), (1, .int (iI d)), (2, .int (iI k)), (3, .int (iI 0))]) rfl ?_
        refine k_iconst hE dX6_rains_31 ?_
        refine k_istore hE dX6_rains_32 [1, 2, 3, 4, 0] (Nat.le_of_ble_eq_true rfl) (lo' := [(0, .ref (ad 0)), (1, .int (iI d)), (2, .int (iI k)), (3, .int (iI 0)), (4, .int (iI 0))]) rfl ?_
        have L34 : ∀ (fu34 : Nat) (S : Sg) (c : Int) (v : Nat), ((v : Int) ≤ 100) → (100 - (v : Int) < fu34) → (XS st S) → (S.1 10 = Y.1 4) → (OR Y (Y.1 4) (S.2 12) (Y.1 0).toNat) → (∀ j : Int, 0 ≤ j → j ≤ d → S.2 9 j = lev Y (Y.1 4) (Y.1 3) (Y.2 4) j.toNat ∧ 0 ≤ lev Y (Y.1 4) (Y.1 3) (Y.2 4) j.toNat ∧ lev Y (Y.1 4) (Y.1 3) (Y.2 4) j.toNat ≤ Y.1 1) → (c = CT (RNp Y d) v) → (0 ≤ k → c ≤ k) → KW (xw ad ta sa ca D cI cT cS) G H0 m 5 S 34 [(0, .ref (ad 0)), (1, .int (iI d)), (2, .int (iI k)), (3, .int (iI c)), (4, .int (iI ((v : Int))))] [] := by
          intro fu34
          induction fu34 with
          | zero =>
            intro S c v q0 q1 hxS hr10 hO hv ec hk
            omega
          | succ fu34 ih34 =>
            intro S c v q0 q1 hxS hr10 hO hv ec hk
            have hAS := hxS.ag hA
            have rc := CT_rng (RNp Y d) v
            refine k_iload hE dX6_rains_34 4 rfl ?_
            refine k_bipush hE dX6_rains_36 rfl ?_
            refine k_icmp_gt hE 76 dX6_rains_38 (by decide) (by unfold in32; omega) (by unfold in32; omega) (fun c38 => ?_) (fun c38 => ?_)
            · refine k_iload_n hE dX6_rains_76 2 rfl rfl ?_
              refine k_iconst hE dX6_rains_77 ?_
              refine k_icmp_ne hE 85 dX6_rains_78 (by decide) (by unfold in32; omega) (by unfold in32; omega) (fun c78 => ?_) (fun c78 => ?_)
              · refine k_bipush hE dX6_rains_85 rfl ?_
                refine k_iret hR dX6_rains_87 rfl ?_
                have e100 : v = 100 := by omega
                rw [e100] at ec
                first
                  | exact ⟨_, S, rfl, rfl, Or.inr (Or.inr ⟨w1, w2, Or.inl ⟨by omega, ec⟩⟩), hxS⟩
                  | exact ⟨_, S, rfl, rfl, Or.inr (Or.inr ⟨w1, w2, Or.inr ⟨by omega, Or.inr ⟨by omega, rfl⟩⟩⟩), hxS⟩
              · refine k_iload_n hE dX6_rains_81 3 rfl rfl ?_
                refine k_goto hE 87 dX6_rains_82 (by decide) ?_
                refine k_iret hR dX6_rains_87 rfl ?_
                have e100 : v = 100 := by omega
                rw [e100] at ec
                first
                  | exact ⟨_, S, rfl, rfl, Or.inr (Or.inr ⟨w1, w2, Or.inl ⟨by omega, ec⟩⟩), hxS⟩
                  | exact ⟨_, S, rfl, rfl, Or.inr (Or.inr ⟨w1, w2, Or.inr ⟨by omega, Or.inr ⟨by omega, rfl⟩⟩⟩), hxS⟩
            · refine k_aload_n hE dX6_rains_41 0 rfl rfl ?_
              refine x_get_X6_days hE fl_X6_23 dX6_rains_42 ?_
              refine k_iload_n hE dX6_rains_45 1 rfl rfl ?_
              refine k_iload hE dX6_rains_46 4 rfl ?_
              refine k_callV hE (c_X0_passDay S Y d ((v : Int)) (lev Y (Y.1 4) (Y.1 3) (Y.2 4) d.toNat) (Y.1 4) hAS hI (by omega) (by omega) (hv d (by omega) (by omega)).1 (hv d (by omega) (by omega)).2 hr10 (by omega) hO) mf_X0_passDay ml_X6_176 4 rfl rfl rfl rfl ⟨rfl, rfl, Nat.le_of_ble_eq_true rfl, Nat.le_of_ble_eq_true rfl⟩ [] (Nat.le_of_ble_eq_true rfl) dX6_rains_48 rfl (fun rv u hp => ?_)
              obtain ⟨S2, hv48, hu48, e1_48, e2_48, l1_48, l2_48, o1_48, o2_48, g1_48, g2_48, rg_48, gr_48⟩ := hp
              refine k_sk (sk' := []) (by rw [hv48]; rfl) ?_
              refine k_st S2 hu48 ?_
              have hx2 : XS st S2 := hxS.trans ⟨fun i hi => by rw [e1_48], fun a ha => e2_48 a (by omega)⟩
              have hB2 := hx2.ag hA
              refine k_aload_n hE dX6_rains_51 0 rfl rfl ?_
              refine k_iload_n hE dX6_rains_52 1 rfl rfl ?_
              refine k_callV hE (c_X6_marksHoldBehind S2 Y d (Y.1 4) hB2 hI (by omega) ((congrFun e1_48 10).trans hr10) (by omega) (by rw [e2_48 12 (by decide)]; exact hO) (fun j j0 j1 => by by_cases e : j = d + 1; (rw [e, l2_48]; exact rg_48); rw [l1_48 j e, (hv j j0 (by omega)).1]; exact (hv j j0 (by omega)).2)) mf_X6_marksHoldBehind ml_X6_182 0 rfl rfl rfl rfl ⟨rfl, rfl, Nat.le_of_ble_eq_true rfl, Nat.le_of_ble_eq_true rfl⟩ [] (Nat.le_of_ble_eq_true rfl) dX6_rains_53 rfl (fun rv u hp => ?_)
              obtain ⟨zz, S3, hv53, hu53, hz_53, k1_53, k2_53, k3_53⟩ := hp
              refine k_sk (sk' := [.int (iI zz)]) (by rw [hv53]; rfl) ?_
              refine k_st S3 hu53 ?_
              have hx3 : XS st S3 := hx2.trans ⟨fun i hi => by rw [k1_53], fun a ha => k2_53 a (by omega)⟩
              have hP : zz = 1 ↔ RNp Y d v := by
                have hc : MH Y (LVf Y (Y.1 4) (Y.2 4) d (S2.2 9)) ↔ RNp Y d v := MH_cong (LVf_rain (by omega) (fun j j0 j1 => by rw [l1_48 j (by omega)]; exact (hv j j0 j1).1) l2_48)
                rcases hz_53 with h5 | h5
                · exact ⟨fun _ => hc.mp h5.2, fun _ => h5.1⟩
                · exact ⟨fun h6 => by omega, fun h6 => absurd (hc.mpr h6) h5.2⟩
              refine k_if_eq hE 70 dX6_rains_56 (by decide) (by unfold in32; omega) (fun c56 => ?_) (fun c56 => ?_)
              · refine k_iinc hE dX6_rains_70 4 [1, 2, 3, 4, 0] rfl (Nat.le_of_ble_eq_true rfl) (lo' := [(0, .ref (ad 0)), (1, .int (iI d)), (2, .int (iI k)), (3, .int (iI c)), (4, .int (iI (((v : Int)) + 1)))]) rfl ?_
                refine k_goto hE 34 dX6_rains_73 (by decide) ?_
                refine ih34 S3 _ (v + 1) (by omega) (by omega) hx3 ((congrFun k1_53 10).trans ((congrFun e1_48 10).trans hr10)) (by rw [k2_53 12 (by decide), e2_48 12 (by decide)]; exact hO) (fun j j0 j1 => by rw [k3_53 j (by omega), l1_48 j (by omega)]; exact hv j j0 j1) ?_ (by omega)
                first
                  | (rw [CT_y (P := RNp Y d) (k := v) (hP.mp (by omega)), ← ec])
                  | (rw [CT_n (P := RNp Y d) (k := v) (fun h5 => absurd (hP.mpr h5) (by omega)), ← ec])
              · refine k_iload_n hE dX6_rains_59 3 rfl rfl ?_
                refine k_iload_n hE dX6_rains_60 2 rfl rfl ?_
                refine k_icmp_ne hE 67 dX6_rains_61 (by decide) (by unfold in32; omega) (by unfold in32; omega) (fun c61 => ?_) (fun c61 => ?_)
                · refine k_iinc hE dX6_rains_67 3 [1, 2, 3, 0, 4] rfl (Nat.le_of_ble_eq_true rfl) (lo' := [(0, .ref (ad 0)), (1, .int (iI d)), (2, .int (iI k)), (3, .int (iI (c + 1))), (4, .int (iI ((v : Int))))]) rfl ?_
                  refine k_iinc hE dX6_rains_70 4 [1, 2, 3, 4, 0] rfl (Nat.le_of_ble_eq_true rfl) (lo' := [(0, .ref (ad 0)), (1, .int (iI d)), (2, .int (iI k)), (3, .int (iI (c + 1))), (4, .int (iI (((v : Int)) + 1)))]) rfl ?_
                  refine k_goto hE 34 dX6_rains_73 (by decide) ?_
                  refine ih34 S3 _ (v + 1) (by omega) (by omega) hx3 ((congrFun k1_53 10).trans ((congrFun e1_48 10).trans hr10)) (by rw [k2_53 12 (by decide), e2_48 12 (by decide)]; exact hO) (fun j j0 j1 => by rw [k3_53 j (by omega), l1_48 j (by omega)]; exact hv j j0 j1) ?_ (by omega)
                  first
                    | (rw [CT_y (P := RNp Y d) (k := v) (hP.mp (by omega)), ← ec])
                    | (rw [CT_n (P := RNp Y d) (k := v) (fun h5 => absurd (hP.mpr h5) (by omega)), ← ec])
                · refine k_iload hE dX6_rains_64 4 rfl ?_
                  exact k_iret hR dX6_rains_66 rfl ⟨_, S3, rfl, rfl, Or.inr (Or.inr ⟨w1, w2, Or.inr ⟨by omega, Or.inl ⟨v, by omega, hP.mp (by omega), by omega, rfl⟩⟩⟩), hx3⟩
        exact L34 101 S1 0 0 (by omega) (by omega) hx_26 hr_26 hO_26 (fun j j0 j1 => Ran_lev er_26 j0 (by omega)) rfl (fun h => h)
      · refine k_bipush hE dX6_rains_21 rfl ?_
        exact k_iret hR dX6_rains_23 rfl ⟨_, st, rfl, rfl, Or.inr (Or.inl ⟨by omega, by omega, rfl⟩), XS.refl st⟩
    · refine k_iconst hE dX6_rains_12 ?_
      exact k_iret hR dX6_rains_13 rfl ⟨_, st, rfl, rfl, Or.inl ⟨by omega, rfl⟩, XS.refl st⟩
