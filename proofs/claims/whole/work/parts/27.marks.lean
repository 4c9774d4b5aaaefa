set_option maxHeartbeats 4000000 in
set_option maxRecDepth 100000 in
theorem c_X6_marksHoldBehind {ad : Nat → Nat} {ta sa ca : Int → Nat} {D : va_G} {cI cT cS : ClassId} (st : Sg) (Y : Sg) (d : Int) (q : Int) (hA : Ag st Y) (hI : Inv Y) (hd : 0 ≤ d ∧ d < 10) (hq : st.1 10 = q) (hq3 : 0 ≤ q ∧ q ≤ 3) (hO : OR Y q (st.2 12) (Y.1 0).toNat) (hL : ∀ j : Int, 0 ≤ j → j ≤ d + 1 → 0 ≤ st.2 9 j ∧ st.2 9 j ≤ Y.1 1) : MC (xw ad ta sa ca D cI cT cS) yX6_marksHoldBehind cX6_marksHoldBehind 4 (some .boolean) { frames := 4, cells := 0, slots := 0, locals := 101 } [.ref (ad 0), .int (iI d)] st (fun rv u => ∃ z : Int, ∃ S : Sg, rv = some (.int (iI (z))) ∧ u = S ∧ ((z = 1 ∧ MH Y (LVf Y q (Y.2 4) d (st.2 9))) ∨ (z = 0 ∧ ¬ MH Y (LVf Y q (Y.2 4) d (st.2 9)))) ∧ (S.1 = st.1) ∧ (∀ a, (a < 9 ∨ 11 < a) → S.2 a = st.2 a) ∧ (∀ j : Int, j ≤ d + 1 → S.2 9 j = st.2 9 j)) := by
  refine MC_intro RX6 (by decide) rfl (Nat.le_of_ble_eq_true rfl) ?_
  intro G H0 m hE hR
  refine k_lo [0, 1] (lo' := [(0, .ref (ad 0)), (1, .int (iI d))]) rfl ?_
  obtain ⟨hi0, hi1, hi2, hi3, hi4, hi5, hi6, hi7, hit, hir, him, hin⟩ := id hI
  refine k_aload_n hE dX6_marksHoldBehind_0 0 rfl rfl ?_
  refine x_get_X6_marks hE fl_X6_30 dX6_marksHoldBehind_1 ?_
  refine k_callV hE (c_X1_lastDay st Y hA hI) mf_X1_lastDay ml_X6_229 9 rfl rfl rfl rfl ⟨rfl, rfl, Nat.le_of_ble_eq_true rfl, Nat.le_of_ble_eq_true rfl⟩ [] (Nat.le_of_ble_eq_true rfl) dX6_marksHoldBehind_4 rfl (fun rv u hp => ?_)
  obtain ⟨la, hv4, hu4, p0_4, p1_4⟩ := hp
  refine k_sk (sk' := [.int (iI la)]) (by rw [hv4]; rfl) ?_
  refine k_st st hu4 ?_
  refine k_istore_n hE dX6_marksHoldBehind_7 [1, 2, 0] rfl (Nat.le_of_ble_eq_true rfl) (lo' := [(0, .ref (ad 0)), (1, .int (iI d)), (2, .int (iI la))]) rfl ?_
  refine k_iconst hE dX6_marksHoldBehind_8 ?_
  refine k_istore_n hE dX6_marksHoldBehind_9 [1, 2, 3, 0] rfl (Nat.le_of_ble_eq_true rfl) (lo' := [(0, .ref (ad 0)), (1, .int (iI d)), (2, .int (iI la)), (3, .int (iI 0))]) rfl ?_
  have L10 : ∀ (fu10 : Nat) (S : Sg) (h : Int), (0 ≤ h ∧ h ≤ la + 1) → (la + 1 - h < fu10) → (S.1 = st.1) → (∀ a, (a < 9 ∨ 11 < a) → S.2 a = st.2 a) → (∀ j : Int, j ≤ d + 1 → S.2 9 j = st.2 9 j) → (∀ j : Int, 0 ≤ j → j ≤ max (d + 1) (h - 1) → S.2 9 j = LVf Y q (Y.2 4) d (st.2 9) j.toNat ∧ 0 ≤ S.2 9 j ∧ S.2 9 j ≤ Y.1 1) → (∀ k : Int, 0 ≤ k → k < Y.1 7 → Y.2 5 k < h → LVf Y q (Y.2 4) d (st.2 9) (Y.2 5 k).toNat = Y.2 6 k) → KW (xw ad ta sa ca D cI cT cS) G H0 m 4 S 10 [(0, .ref (ad 0)), (1, .int (iI d)), (2, .int (iI la)), (3, .int (iI h))] [] := by
    intro fu10
    induction fu10 with
    | zero =>
      intro S h q0 q1 k1 k2 k3 hv hk
      omega
    | succ fu10 ih10 =>
      intro S h q0 q1 k1 k2 k3 hv hk
      have hAS : Ag S Y := ⟨fun i hi => by rw [k1]; exact hA.1 i hi, fun a ha => by rw [k2 a (by omega)]; exact hA.2 a ha⟩
      refine k_iload_n hE dX6_marksHoldBehind_10 3 rfl rfl ?_
      refine k_iload_n hE dX6_marksHoldBehind_11 2 rfl rfl ?_
      refine k_icmp_gt hE 71 dX6_marksHoldBehind_12 (by decide) (by unfold in32; omega) (by unfold in32; omega) (fun c12 => ?_) (fun c12 => ?_)
      · refine k_iconst hE dX6_marksHoldBehind_71 ?_
        exact k_zret hR dX6_marksHoldBehind_72 rfl (nar_b (by omega)) ⟨_, S, rfl, rfl, Or.inl ⟨rfl, fun k k0 k1' => hk k k0 k1' (by have h5 := p1_4 k k0 k1'; omega)⟩, k1, k2, k3⟩
      · have J43 : ∀ (S2 : Sg), (S2.1 = st.1) → (∀ a, (a < 9 ∨ 11 < a) → S2.2 a = st.2 a) → (∀ j : Int, j ≤ d + 1 → S2.2 9 j = st.2 9 j) → (∀ j : Int, 0 ≤ j → j ≤ max (d + 1) h → S2.2 9 j = LVf Y q (Y.2 4) d (st.2 9) j.toNat ∧ 0 ≤ S2.2 9 j ∧ S2.2 9 j ≤ Y.1 1) → KW (xw ad ta sa ca D cI cT cS) G H0 m 4 S2 43 [(0, .ref (ad 0)), (1, .int (iI d)), (2, .int (iI la)), (3, .int (iI h))] [] := by
          intro S2 n1 n2 n3 hv2
          have hAS2 : Ag S2 Y := ⟨fun i hi => by rw [n1]; exact hA.1 i hi, fun a ha => by rw [n2 a (by omega)]; exact hA.2 a ha⟩
          have hv3 := hv2 h (by omega) (by omega)
          refine k_aload_n hE dX6_marksHoldBehind_43 0 rfl rfl ?_
          refine x_get_X6_marks hE fl_X6_30 dX6_marksHoldBehind_44 ?_
          refine k_iload_n hE dX6_marksHoldBehind_47 3 rfl rfl ?_
          refine k_aload_n hE dX6_marksHoldBehind_48 0 rfl rfl ?_
          refine x_get_X6_days hE fl_X6_23 dX6_marksHoldBehind_49 ?_
          refine x_get_X0_levels hE fl_X6_142 dX6_marksHoldBehind_52 ?_
          refine k_iload_n hE dX6_marksHoldBehind_55 3 rfl rfl ?_
          refine x_ld_levels hE (z := S2.2 9 h) (by omega) (by omega) rfl dX6_marksHoldBehind_56 ?_
          refine k_callV hE (c_X1_holdAhead S2 Y h (S2.2 9 h) hAS2 hI (by omega) (by omega)) mf_X1_holdAhead ml_X6_232 9 rfl rfl rfl rfl ⟨rfl, rfl, Nat.le_of_ble_eq_true rfl, Nat.le_of_ble_eq_true rfl⟩ [] (Nat.le_of_ble_eq_true rfl) dX6_marksHoldBehind_57 rfl (fun rv u hp => ?_)
          obtain ⟨zz, hv57, hu57, hz_57⟩ := hp
          refine k_sk (sk' := [.int (iI zz)]) (by rw [hv57]; rfl) ?_
          refine k_st S2 hu57 ?_
          refine k_if_ne hE 65 dX6_marksHoldBehind_60 (by decide) (by unfold in32; omega) (fun c60 => ?_) (fun c60 => ?_)
          · refine k_iinc hE dX6_marksHoldBehind_65 3 [1, 2, 3, 0] rfl (Nat.le_of_ble_eq_true rfl) (lo' := [(0, .ref (ad 0)), (1, .int (iI d)), (2, .int (iI la)), (3, .int (iI (h + 1)))]) rfl ?_
            refine k_goto hE 10 dX6_marksHoldBehind_68 (by decide) ?_
            refine ih10 S2 _ (by omega) (by omega) n1 n2 n3 (fun j j0 j1 => hv2 j j0 (by omega)) (fun k k0 k1 k2 => ?_)
            by_cases e : Y.2 5 k = h
            · rcases hz_57 with h5 | h5
              · rw [e, ← hv3.1]; exact (h5.2 k k0 k1 e).symm
              · omega
            · exact hk k k0 k1 (by omega)
          · refine k_iconst hE dX6_marksHoldBehind_63 ?_
            refine k_zret hR dX6_marksHoldBehind_64 rfl (nar_b (by omega)) ?_
            refine ⟨_, S2, rfl, rfl, Or.inr ⟨rfl, fun hm => ?_⟩, n1, n2, n3⟩
            rcases hz_57 with h5 | h5
            · omega
            · exact h5.2 (fun k k0 k1 e => by rw [hv3.1, ← e]; exact (hm k k0 k1).symm)
        refine k_iload_n hE dX6_marksHoldBehind_15 3 rfl rfl ?_
        refine k_iload_n hE dX6_marksHoldBehind_16 1 rfl rfl ?_
        refine k_iconst hE dX6_marksHoldBehind_17 ?_
        refine k_iadd hE dX6_marksHoldBehind_18 ?_
        refine k_icmp_le hE 43 dX6_marksHoldBehind_19 (by decide) (by unfold in32; omega) (by unfold in32; omega) (fun c19 => ?_) (fun c19 => ?_)
        · first
            | exact J43 S k1 k2 k3 (fun j j0 j1 => hv j j0 (by omega))
            | (refine J43 S3 (e1_40.trans k1) (fun a ha => (e2_40 a ha).trans (k2 a ha)) (fun j hj => (l1_40 j (by omega)).trans (k3 j hj)) (fun j j0 j1 => ?_)
               by_cases e : j = h
               · have e2 := l2_40
                 rw [show h - 1 + 1 = h by omega] at e2
                 rw [e, e2]
                 refine ⟨?_, rg_40⟩
                 rw [LVf_hi hd.1 (show d + 1 < h by omega), ← (hv (h - 1) (by omega) (by omega)).1]
               · rw [l1_40 j (by omega)]; exact hv j j0 (by omega))
        · refine k_aload_n hE dX6_marksHoldBehind_22 0 rfl rfl ?_
          refine x_get_X6_days hE fl_X6_23 dX6_marksHoldBehind_23 ?_
          refine k_iload_n hE dX6_marksHoldBehind_26 3 rfl rfl ?_
          refine k_iconst hE dX6_marksHoldBehind_27 ?_
          refine k_isub hE dX6_marksHoldBehind_28 ?_
          refine k_aload_n hE dX6_marksHoldBehind_29 0 rfl rfl ?_
          refine x_get_X6_yard hE fl_X6_12 dX6_marksHoldBehind_30 ?_
          refine x_get_X5_rainOn hE fl_X6_121 dX6_marksHoldBehind_33 ?_
          refine k_iload_n hE dX6_marksHoldBehind_36 3 rfl rfl ?_
          refine k_iconst hE dX6_marksHoldBehind_37 ?_
          refine k_isub hE dX6_marksHoldBehind_38 ?_
          refine x_ld_rainOn hE (z := Y.2 4 (h - 1)) (by omega) (by omega) (congrFun (hAS.2 4 (by decide)) (h - 1)) dX6_marksHoldBehind_39 ?_
          refine k_callV hE (c_X0_passDay S Y (h - 1) (Y.2 4 (h - 1)) (S.2 9 (h - 1)) q hAS hI (by omega) (hir (h - 1) (by omega) (by omega)) rfl (hv (h - 1) (by omega) (by omega)).2 (by rw [k1]; exact hq) (by omega) (by rw [k2 12 (by decide)]; exact hO)) mf_X0_passDay ml_X6_183 4 rfl rfl rfl rfl ⟨rfl, rfl, Nat.le_of_ble_eq_true rfl, Nat.le_of_ble_eq_true rfl⟩ [] (Nat.le_of_ble_eq_true rfl) dX6_marksHoldBehind_40 rfl (fun rv u hp => ?_)
          obtain ⟨S3, hv40, hu40, e1_40, e2_40, l1_40, l2_40, o1_40, o2_40, g1_40, g2_40, rg_40, gr_40⟩ := hp
          refine k_sk (sk' := []) (by rw [hv40]; rfl) ?_
          refine k_st S3 hu40 ?_
          first
            | exact J43 S k1 k2 k3 (fun j j0 j1 => hv j j0 (by omega))
            | (refine J43 S3 (e1_40.trans k1) (fun a ha => (e2_40 a ha).trans (k2 a ha)) (fun j hj => (l1_40 j (by omega)).trans (k3 j hj)) (fun j j0 j1 => ?_)
               by_cases e : j = h
               · have e2 := l2_40
                 rw [show h - 1 + 1 = h by omega] at e2
                 rw [e, e2]
                 refine ⟨?_, rg_40⟩
                 rw [LVf_hi hd.1 (show d + 1 < h by omega), ← (hv (h - 1) (by omega) (by omega)).1]
               · rw [l1_40 j (by omega)]; exact hv j j0 (by omega))
  exact L10 12 st 0 (by omega) (by omega) rfl (fun a _ => rfl) (fun j _ => rfl) (fun j j0 j1 => ⟨(LVf_lo j0 (by omega)).symm, hL j j0 (by omega)⟩) (fun k k0 k1 k2 => by have h5 := him k k0 (by omega); omega)

set_option maxHeartbeats 4000000 in
set_option maxRecDepth 100000 in
theorem c_X6_rains {ad : Nat → Nat} {ta sa ca : Int → Nat} {D : va_G} {cI cT cS : ClassId} (st : Sg) (Y : Sg) (d : Int) (k : Int) (hA : Ag st Y) (hI : Inv Y) (i_d : -2147483648 ≤ d ∧ d < 2147483648) (i_k : -2147483648 ≤ k ∧ k < 2147483648) : MC (xw ad ta sa ca D cI cT cS) yX6_rains cX6_rains 7 (some .int) { frames := 6, cells := 0, slots := 0, locals := 145 } [.ref (ad 0), .int (iI d), .int (iI k)] st (fun rv u => ∃ z : Int, ∃ S : Sg, rv = some (.int (iI (z))) ∧ u = S ∧ (RN Y d k z) ∧ (XS st S)) := by
  refine MC_intro RX6 (by decide) rfl (Nat.le_of_ble_eq_true rfl) ?_
  intro G H0 m hE hR
  refine k_lo [0, 1, 2] (lo' := [(0, .ref (ad 0)), (1, .int (iI d)), (2, .int (iI k))]) rfl ?_
  obtain ⟨hi0, hi1, hi2, hi3, hi4, hi5, hi6, hi7, hit, hir, him, hin⟩ := id hI
  refine k_iload_n hE dX6_rains_0 1 rfl rfl ?_
  refine k_callS hE (c_X6_noDay st d (by omega)) ms_X6_noDay ml_X6_118 rfl ⟨rfl, rfl, Nat.le_of_ble_eq_true rfl, Nat.le_of_ble_eq_true rfl⟩ [] (Nat.le_of_ble_eq_true rfl) dX6_rains_1 rfl (fun rv u hp => ?_)
  obtain ⟨z1, hv1, hu1, hz_1⟩ := hp
  refine k_sk (sk' := [.int (iI z1)]) (by rw [hv1]; rfl) ?_
  refine k_st st hu1 ?_
  refine k_if_ne hE 12 dX6_rains_4 (by decide) (by unfold in32; omega) (fun c4 => ?_) (fun c4 => ?_)
  · refine k_iconst hE dX6_rains_12 ?_
    exact k_iret hR dX6_rains_13 rfl ⟨_, st, rfl, rfl, Or.inl ⟨by omega, rfl⟩, XS.refl st⟩
  · refine k_iload_n hE dX6_rains_7 2 rfl rfl ?_
    refine k_iconst hE dX6_rains_8 ?_
    refine k_icmp_ge hE 14 dX6_rains_9 (by decide) (by unfold in32; omega) (by unfold in32; omega) (fun c9 => ?_) (fun c9 => ?_)
    · refine k_aload_n hE dX6_rains_14 0 rfl rfl ?_
      refine k_callV hE (c_X6_noYard st Y hA hI) mf_X6_noYard ml_X6_108 0 rfl rfl rfl rfl ⟨rfl, rfl, Nat.le_of_ble_eq_true rfl, Nat.le_of_ble_eq_true rfl⟩ [] (Nat.le_of_ble_eq_true rfl) dX6_rains_15 rfl (fun rv u hp => ?_)
      obtain ⟨z2, hv15, hu15, hz_15⟩ := hp
      refine k_sk (sk' := [.int (iI z2)]) (by rw [hv15]; rfl) ?_
      refine k_st st hu15 ?_
      refine k_if_eq hE 24 dX6_rains_18 (by decide) (by unfold in32; omega) (fun c18 => ?_) (fun c18 => ?_)
      · have w1 : ¬ ((d < 0 ∨ 9 < d) ∨ k < -1) := by omega
        have w2 : Y.1 0 ≠ 0 := by omega
        refine k_aload_n hE dX6_rains_24 0 rfl rfl ?_
        refine k_iload_n hE dX6_rains_25 1 rfl rfl ?_
        refine k_callV hE (c_X6_passAsTold st Y d hA hI (by omega)) mf_X6_passAsTold ml_X6_134 0 rfl rfl rfl rfl ⟨rfl, rfl, Nat.le_of_ble_eq_true rfl, Nat.le_of_ble_eq_true rfl⟩ [] (Nat.le_of_ble_eq_true rfl) dX6_rains_26 rfl (fun rv u hp => ?_)
        obtain ⟨S1, hv26, hu26, hx_26, hr_26, hO_26, er_26⟩ := hp
        refine k_sk (sk' := []) (by rw [hv26]; rfl) ?_
        refine k_st S1 hu26 ?_
        have hB : Ag S1 Y := hx_26.ag hA
        refine k_iconst hE dX6_rains_29 ?_
        refine k_istore_n hE dX6_rains_30 [1, 2, 3, 0] rfl (Nat.le_of_ble_eq_true rfl) (lo' := [(0, .ref (ad 0)), (1, .int (iI d)), (2, .int (iI k)), (3, .int (iI 0))]) rfl ?_
        refine k_iconst hE dX6_rains_31 ?_
        refine k_istore hE dX6_rains_32 [1, 2, 3, 4, 0] (Nat.le_of_ble_eq_true rfl) (lo' := [(0, .ref (ad 0)), (1, .int (iI d)), (2, .int (iI k)), (3, .int (iI 0)), (4, .int (iI (-1)))]) rfl ?_
        refine k_iconst hE dX6_rains_34 ?_
        refine k_istore hE dX6_rains_35 [1, 2, 3, 4, 5, 0] (Nat.le_of_ble_eq_true rfl) (lo' := [(0, .ref (ad 0)), (1, .int (iI d)), (2, .int (iI k)), (3, .int (iI 0)), (4, .int (iI (-1))), (5, .int (iI 0))]) rfl ?_
        refine k_iconst hE dX6_rains_37 ?_
        refine k_istore hE dX6_rains_38 [1, 2, 3, 4, 5, 6, 0] (Nat.le_of_ble_eq_true rfl) (lo' := [(0, .ref (ad 0)), (1, .int (iI d)), (2, .int (iI k)), (3, .int (iI 0)), (4, .int (iI (-1))), (5, .int (iI 0)), (6, .int (iI 0))]) rfl ?_
        have L40 : ∀ (fu40 : Nat) (S : Sg) (c : Int) (ll : Int) (ft : Int) (v : Nat), ((v : Int) ≤ 100) → (100 - (v : Int) < fu40) → (XS st S) → (S.1 10 = Y.1 4) → (OR Y (Y.1 4) (S.2 12) (Y.1 0).toNat) → (∀ j : Int, 0 ≤ j → j ≤ d → S.2 9 j = lev Y (Y.1 4) (Y.1 3) (Y.2 4) j.toNat ∧ 0 ≤ lev Y (Y.1 4) (Y.1 3) (Y.2 4) j.toNat ∧ lev Y (Y.1 4) (Y.1 3) (Y.2 4) j.toNat ≤ Y.1 1) → (c = CT (RNp Y d) v) → (0 ≤ k → c ≤ k) → (-1 ≤ ll ∧ ll ≤ Y.1 1) → (ft = 0 ∨ ft = 1) → (ll = -1 ∨ ∀ u : Int, dW Y (Y.1 4) (lev Y (Y.1 4) (Y.1 3) (Y.2 4) d.toNat) u = ll → (ft = 1 ↔ RNp Y d u)) → KW (xw ad ta sa ca D cI cT cS) G H0 m 7 S 40 [(0, .ref (ad 0)), (1, .int (iI d)), (2, .int (iI k)), (3, .int (iI c)), (4, .int (iI ll)), (5, .int (iI ft)), (6, .int (iI ((v : Int))))] [] := by
          intro fu40
          induction fu40 with
          | zero =>
            intro S c ll ft v q0 q1 hxS hr10 hO hv ec hk hll hz01 hf
            omega
          | succ fu40 ih40 =>
            intro S c ll ft v q0 q1 hxS hr10 hO hv ec hk hll hz01 hf
            have hAS := hxS.ag hA
            have rc := CT_rng (RNp Y d) v
            refine k_iload hE dX6_rains_40 6 rfl ?_
            refine k_bipush hE dX6_rains_42 rfl ?_
            refine k_icmp_gt hE 125 dX6_rains_44 (by decide) (by unfold in32; omega) (by unfold in32; omega) (fun c44 => ?_) (fun c44 => ?_)
            · refine k_iload_n hE dX6_rains_125 2 rfl rfl ?_
              refine k_iconst hE dX6_rains_126 ?_
              refine k_icmp_ne hE 134 dX6_rains_127 (by decide) (by unfold in32; omega) (by unfold in32; omega) (fun c127 => ?_) (fun c127 => ?_)
              · refine k_bipush hE dX6_rains_134 rfl ?_
                refine k_iret hR dX6_rains_136 rfl ?_
                have e100 : v = 100 := by omega
                rw [e100] at ec
                first
                  | exact ⟨_, S, rfl, rfl, Or.inr (Or.inr ⟨w1, w2, Or.inl ⟨by omega, ec⟩⟩), hxS⟩
                  | exact ⟨_, S, rfl, rfl, Or.inr (Or.inr ⟨w1, w2, Or.inr ⟨by omega, Or.inr ⟨by omega, rfl⟩⟩⟩), hxS⟩
              · refine k_iload_n hE dX6_rains_130 3 rfl rfl ?_
                refine k_goto hE 136 dX6_rains_131 (by decide) ?_
                refine k_iret hR dX6_rains_136 rfl ?_
                have e100 : v = 100 := by omega
                rw [e100] at ec
                first
                  | exact ⟨_, S, rfl, rfl, Or.inr (Or.inr ⟨w1, w2, Or.inl ⟨by omega, ec⟩⟩), hxS⟩
                  | exact ⟨_, S, rfl, rfl, Or.inr (Or.inr ⟨w1, w2, Or.inr ⟨by omega, Or.inr ⟨by omega, rfl⟩⟩⟩), hxS⟩
            · have J93 : ∀ (S4 : Sg) (l4 : Int) (f4 : Int), (XS st S4) → (S4.1 10 = Y.1 4) → (OR Y (Y.1 4) (S4.2 12) (Y.1 0).toNat) → (∀ j : Int, 0 ≤ j → j ≤ d → S4.2 9 j = lev Y (Y.1 4) (Y.1 3) (Y.2 4) j.toNat ∧ 0 ≤ lev Y (Y.1 4) (Y.1 3) (Y.2 4) j.toNat ∧ lev Y (Y.1 4) (Y.1 3) (Y.2 4) j.toNat ≤ Y.1 1) → (0 ≤ l4 ∧ l4 ≤ Y.1 1) → (f4 = 0 ∨ f4 = 1) → (∀ u : Int, dW Y (Y.1 4) (lev Y (Y.1 4) (Y.1 3) (Y.2 4) d.toNat) u = l4 → (f4 = 1 ↔ RNp Y d u)) → (f4 = 1 ↔ RNp Y d v) → KW (xw ad ta sa ca D cI cT cS) G H0 m 7 S4 93 [(0, .ref (ad 0)), (1, .int (iI d)), (2, .int (iI k)), (3, .int (iI c)), (4, .int (iI l4)), (5, .int (iI f4)), (6, .int (iI ((v : Int))))] [] := by
                intro S4 l4 f4 hx4 h10 hO4 hv4 hl4 h01 hf4 hP
                have hAS4 := hx4.ag hA
                refine k_iload hE dX6_rains_93 5 rfl ?_
                refine k_if_eq hE 106 dX6_rains_95 (by decide) (by unfold in32; omega) (fun c95 => ?_) (fun c95 => ?_)
                · refine k_iload_n hE dX6_rains_106 3 rfl rfl ?_
                  refine k_iload hE dX6_rains_107 5 rfl ?_
                  refine k_if_eq hE 116 dX6_rains_109 (by decide) (by unfold in32; omega) (fun c109 => ?_) (fun c109 => ?_)
                  · refine k_iconst hE dX6_rains_116 ?_
                    refine k_iadd hE dX6_rains_117 ?_
                    refine k_istore_n hE dX6_rains_118 [1, 2, 3, 0, 4, 5, 6] rfl (Nat.le_of_ble_eq_true rfl) (lo' := [(0, .ref (ad 0)), (1, .int (iI d)), (2, .int (iI k)), (3, .int (iI (c + 0))), (4, .int (iI l4)), (5, .int (iI f4)), (6, .int (iI ((v : Int))))]) rfl ?_
                    refine k_iinc hE dX6_rains_119 6 [1, 2, 3, 4, 5, 6, 0] rfl (Nat.le_of_ble_eq_true rfl) (lo' := [(0, .ref (ad 0)), (1, .int (iI d)), (2, .int (iI k)), (3, .int (iI (c + 0))), (4, .int (iI l4)), (5, .int (iI f4)), (6, .int (iI (((v : Int)) + 1)))]) rfl ?_
                    refine k_goto hE 40 dX6_rains_122 (by decide) ?_
                    first
                      | (exfalso; omega)
                      | (refine ih40 S4 _ l4 f4 (v + 1) (by omega) (by omega) hx4 h10 hO4 hv4 ?_ (by omega) (by omega) h01 (Or.inr hf4)
                         first
                           | (have e5 := CT_y (P := RNp Y d) (k := v) (hP.mp (by omega)); omega)
                           | (have e5 := CT_n (P := RNp Y d) (k := v) (fun h5 => absurd (hP.mpr h5) (by omega)); omega))
                  · refine k_iconst hE dX6_rains_112 ?_
                    refine k_goto hE 117 dX6_rains_113 (by decide) ?_
                    refine k_iadd hE dX6_rains_117 ?_
                    refine k_istore_n hE dX6_rains_118 [1, 2, 3, 0, 4, 5, 6] rfl (Nat.le_of_ble_eq_true rfl) (lo' := [(0, .ref (ad 0)), (1, .int (iI d)), (2, .int (iI k)), (3, .int (iI (c + 1))), (4, .int (iI l4)), (5, .int (iI f4)), (6, .int (iI ((v : Int))))]) rfl ?_
                    refine k_iinc hE dX6_rains_119 6 [1, 2, 3, 4, 5, 6, 0] rfl (Nat.le_of_ble_eq_true rfl) (lo' := [(0, .ref (ad 0)), (1, .int (iI d)), (2, .int (iI k)), (3, .int (iI (c + 1))), (4, .int (iI l4)), (5, .int (iI f4)), (6, .int (iI (((v : Int)) + 1)))]) rfl ?_
                    refine k_goto hE 40 dX6_rains_122 (by decide) ?_
                    first
                      | (exfalso; omega)
                      | (refine ih40 S4 _ l4 f4 (v + 1) (by omega) (by omega) hx4 h10 hO4 hv4 ?_ (by omega) (by omega) h01 (Or.inr hf4)
                         first
                           | (have e5 := CT_y (P := RNp Y d) (k := v) (hP.mp (by omega)); omega)
                           | (have e5 := CT_n (P := RNp Y d) (k := v) (fun h5 => absurd (hP.mpr h5) (by omega)); omega))
                · refine k_iload_n hE dX6_rains_98 3 rfl rfl ?_
                  refine k_iload_n hE dX6_rains_99 2 rfl rfl ?_
                  refine k_icmp_ne hE 106 dX6_rains_100 (by decide) (by unfold in32; omega) (by unfold in32; omega) (fun c100 => ?_) (fun c100 => ?_)
                  · refine k_iload_n hE dX6_rains_106 3 rfl rfl ?_
                    refine k_iload hE dX6_rains_107 5 rfl ?_
                    refine k_if_eq hE 116 dX6_rains_109 (by decide) (by unfold in32; omega) (fun c109 => ?_) (fun c109 => ?_)
                    · refine k_iconst hE dX6_rains_116 ?_
                      refine k_iadd hE dX6_rains_117 ?_
                      refine k_istore_n hE dX6_rains_118 [1, 2, 3, 0, 4, 5, 6] rfl (Nat.le_of_ble_eq_true rfl) (lo' := [(0, .ref (ad 0)), (1, .int (iI d)), (2, .int (iI k)), (3, .int (iI (c + 0))), (4, .int (iI l4)), (5, .int (iI f4)), (6, .int (iI ((v : Int))))]) rfl ?_
                      refine k_iinc hE dX6_rains_119 6 [1, 2, 3, 4, 5, 6, 0] rfl (Nat.le_of_ble_eq_true rfl) (lo' := [(0, .ref (ad 0)), (1, .int (iI d)), (2, .int (iI k)), (3, .int (iI (c + 0))), (4, .int (iI l4)), (5, .int (iI f4)), (6, .int (iI (((v : Int)) + 1)))]) rfl ?_
                      refine k_goto hE 40 dX6_rains_122 (by decide) ?_
                      first
                        | (exfalso; omega)
                        | (refine ih40 S4 _ l4 f4 (v + 1) (by omega) (by omega) hx4 h10 hO4 hv4 ?_ (by omega) (by omega) h01 (Or.inr hf4)
                           first
                             | (have e5 := CT_y (P := RNp Y d) (k := v) (hP.mp (by omega)); omega)
                             | (have e5 := CT_n (P := RNp Y d) (k := v) (fun h5 => absurd (hP.mpr h5) (by omega)); omega))
                    · refine k_iconst hE dX6_rains_112 ?_
                      refine k_goto hE 117 dX6_rains_113 (by decide) ?_
                      refine k_iadd hE dX6_rains_117 ?_
                      refine k_istore_n hE dX6_rains_118 [1, 2, 3, 0, 4, 5, 6] rfl (Nat.le_of_ble_eq_true rfl) (lo' := [(0, .ref (ad 0)), (1, .int (iI d)), (2, .int (iI k)), (3, .int (iI (c + 1))), (4, .int (iI l4)), (5, .int (iI f4)), (6, .int (iI ((v : Int))))]) rfl ?_
                      refine k_iinc hE dX6_rains_119 6 [1, 2, 3, 4, 5, 6, 0] rfl (Nat.le_of_ble_eq_true rfl) (lo' := [(0, .ref (ad 0)), (1, .int (iI d)), (2, .int (iI k)), (3, .int (iI (c + 1))), (4, .int (iI l4)), (5, .int (iI f4)), (6, .int (iI (((v : Int)) + 1)))]) rfl ?_
                      refine k_goto hE 40 dX6_rains_122 (by decide) ?_
                      first
                        | (exfalso; omega)
                        | (refine ih40 S4 _ l4 f4 (v + 1) (by omega) (by omega) hx4 h10 hO4 hv4 ?_ (by omega) (by omega) h01 (Or.inr hf4)
                           first
                             | (have e5 := CT_y (P := RNp Y d) (k := v) (hP.mp (by omega)); omega)
                             | (have e5 := CT_n (P := RNp Y d) (k := v) (fun h5 => absurd (hP.mpr h5) (by omega)); omega))
                  · refine k_iload hE dX6_rains_103 6 rfl ?_
                    exact k_iret hR dX6_rains_105 rfl ⟨_, S4, rfl, rfl, Or.inr (Or.inr ⟨w1, w2, Or.inr ⟨by omega, Or.inl ⟨v, by omega, hP.mp (by omega), by omega, rfl⟩⟩⟩), hx4⟩
              refine k_aload_n hE dX6_rains_47 0 rfl rfl ?_
              refine x_get_X6_days hE fl_X6_23 dX6_rains_48 ?_
              refine k_iload_n hE dX6_rains_51 1 rfl rfl ?_
              refine k_iload hE dX6_rains_52 6 rfl ?_
              refine k_callV hE (c_X0_passDay S Y d ((v : Int)) (lev Y (Y.1 4) (Y.1 3) (Y.2 4) d.toNat) (Y.1 4) hAS hI (by omega) (by omega) (hv d (by omega) (by omega)).1 (hv d (by omega) (by omega)).2 hr10 (by omega) hO) mf_X0_passDay ml_X6_183 4 rfl rfl rfl rfl ⟨rfl, rfl, Nat.le_of_ble_eq_true rfl, Nat.le_of_ble_eq_true rfl⟩ [] (Nat.le_of_ble_eq_true rfl) dX6_rains_54 rfl (fun rv u hp => ?_)
              obtain ⟨S2, hv54, hu54, e1_54, e2_54, l1_54, l2_54, o1_54, o2_54, g1_54, g2_54, rg_54, gr_54⟩ := hp
              refine k_sk (sk' := []) (by rw [hv54]; rfl) ?_
              refine k_st S2 hu54 ?_
              have hx2 : XS st S2 := hxS.trans ⟨fun i hi => by rw [e1_54], fun a ha => e2_54 a (by omega)⟩
              have hB2 := hx2.ag hA
              have r2 : S2.1 10 = Y.1 4 := (congrFun e1_54 10).trans hr10
              have O2 : OR Y (Y.1 4) (S2.2 12) (Y.1 0).toNat := by rw [e2_54 12 (by decide)]; exact hO
              have hv2 : ∀ j : Int, 0 ≤ j → j ≤ d → S2.2 9 j = lev Y (Y.1 4) (Y.1 3) (Y.2 4) j.toNat ∧ 0 ≤ lev Y (Y.1 4) (Y.1 3) (Y.2 4) j.toNat ∧ lev Y (Y.1 4) (Y.1 3) (Y.2 4) j.toNat ≤ Y.1 1 := fun j j0 j1 => by rw [l1_54 j (by omega)]; exact hv j j0 j1
              refine k_aload_n hE dX6_rains_57 0 rfl rfl ?_
              refine x_get_X6_days hE fl_X6_23 dX6_rains_58 ?_
              refine x_get_X0_levels hE fl_X6_142 dX6_rains_61 ?_
              refine k_iload_n hE dX6_rains_64 1 rfl rfl ?_
              refine k_iconst hE dX6_rains_65 ?_
              refine k_iadd hE dX6_rains_66 ?_
              refine x_ld_levels hE (z := dW Y (Y.1 4) (lev Y (Y.1 4) (Y.1 3) (Y.2 4) d.toNat) (v : Int)) (by omega) (by omega) l2_54 dX6_rains_67 ?_
              refine k_iload hE dX6_rains_68 4 rfl ?_
              refine k_icmp_eq hE 93 dX6_rains_70 (by decide) (by unfold in32; omega) (by unfold in32; omega) (fun c70 => ?_) (fun c70 => ?_)
              · first
                  | exact J93 S2 ll ft hx2 r2 O2 hv2 (by omega) hz01 (hf.resolve_left (by omega)) (hf.resolve_left (by omega) _ c70)
                  | exact J93 S3 _ zz hx3 r3 O3 hv3 rg_54 z01 hfz (hfz _ rfl)
              · refine k_aload_n hE dX6_rains_73 0 rfl rfl ?_
                refine x_get_X6_days hE fl_X6_23 dX6_rains_74 ?_
                refine x_get_X0_levels hE fl_X6_142 dX6_rains_77 ?_
                refine k_iload_n hE dX6_rains_80 1 rfl rfl ?_
                refine k_iconst hE dX6_rains_81 ?_
                refine k_iadd hE dX6_rains_82 ?_
                refine x_ld_levels hE (z := dW Y (Y.1 4) (lev Y (Y.1 4) (Y.1 3) (Y.2 4) d.toNat) (v : Int)) (by omega) (by omega) l2_54 dX6_rains_83 ?_
                refine k_istore hE dX6_rains_84 [1, 2, 3, 4, 0, 5, 6] (Nat.le_of_ble_eq_true rfl) (lo' := [(0, .ref (ad 0)), (1, .int (iI d)), (2, .int (iI k)), (3, .int (iI c)), (4, .int (iI (dW Y (Y.1 4) (lev Y (Y.1 4) (Y.1 3) (Y.2 4) d.toNat) (v : Int)))), (5, .int (iI ft)), (6, .int (iI ((v : Int))))]) rfl ?_
                refine k_aload_n hE dX6_rains_86 0 rfl rfl ?_
                refine k_iload_n hE dX6_rains_87 1 rfl rfl ?_
                refine k_callV hE (c_X6_marksHoldBehind S2 Y d (Y.1 4) hB2 hI (by omega) r2 (by omega) O2 (fun j j0 j1 => by by_cases e : j = d + 1; (rw [e, l2_54]; exact rg_54); rw [(hv2 j j0 (by omega)).1]; exact (hv2 j j0 (by omega)).2)) mf_X6_marksHoldBehind ml_X6_186 0 rfl rfl rfl rfl ⟨rfl, rfl, Nat.le_of_ble_eq_true rfl, Nat.le_of_ble_eq_true rfl⟩ [] (Nat.le_of_ble_eq_true rfl) dX6_rains_88 rfl (fun rv u hp => ?_)
                obtain ⟨zz, S3, hv88, hu88, hz_88, k1_88, k2_88, k3_88⟩ := hp
                refine k_sk (sk' := [.int (iI zz)]) (by rw [hv88]; rfl) ?_
                refine k_st S3 hu88 ?_
                have hx3 : XS st S3 := hx2.trans ⟨fun i hi => by rw [k1_88], fun a ha => k2_88 a (by omega)⟩
                have r3 : S3.1 10 = Y.1 4 := (congrFun k1_88 10).trans r2
                have O3 : OR Y (Y.1 4) (S3.2 12) (Y.1 0).toNat := by rw [k2_88 12 (by decide)]; exact O2
                have hv3 : ∀ j : Int, 0 ≤ j → j ≤ d → S3.2 9 j = lev Y (Y.1 4) (Y.1 3) (Y.2 4) j.toNat ∧ 0 ≤ lev Y (Y.1 4) (Y.1 3) (Y.2 4) j.toNat ∧ lev Y (Y.1 4) (Y.1 3) (Y.2 4) j.toNat ≤ Y.1 1 := fun j j0 j1 => by rw [k3_88 j (by omega)]; exact hv2 j j0 j1
                have z01 : zz = 0 ∨ zz = 1 := by rcases hz_88 with h5 | h5 <;> omega
                have hfz : ∀ u : Int, dW Y (Y.1 4) (lev Y (Y.1 4) (Y.1 3) (Y.2 4) d.toNat) u = dW Y (Y.1 4) (lev Y (Y.1 4) (Y.1 3) (Y.2 4) d.toNat) (v : Int) → (zz = 1 ↔ RNp Y d u) := fun u hu => by
                  have hc : MH Y (LVf Y (Y.1 4) (Y.2 4) d (S2.2 9)) ↔ RNp Y d u := MH_cong (LVf_rain (by omega) (fun j j0 j1 => (hv2 j j0 j1).1) (l2_54.trans hu.symm))
                  rcases hz_88 with h5 | h5
                  · exact ⟨fun _ => hc.mp h5.2, fun _ => h5.1⟩
                  · exact ⟨fun h6 => by omega, fun h6 => absurd (hc.mpr h6) h5.2⟩
                refine k_istore hE dX6_rains_91 [1, 2, 3, 4, 5, 0, 6] (Nat.le_of_ble_eq_true rfl) (lo' := [(0, .ref (ad 0)), (1, .int (iI d)), (2, .int (iI k)), (3, .int (iI c)), (4, .int (iI (dW Y (Y.1 4) (lev Y (Y.1 4) (Y.1 3) (Y.2 4) d.toNat) (v : Int)))), (5, .int (iI zz)), (6, .int (iI ((v : Int))))]) rfl ?_
                first
                  | exact J93 S2 ll ft hx2 r2 O2 hv2 (by omega) hz01 (hf.resolve_left (by omega)) (hf.resolve_left (by omega) _ c70)
                  | exact J93 S3 _ zz hx3 r3 O3 hv3 rg_54 z01 hfz (hfz _ rfl)
        exact L40 101 S1 0 (-1) 0 0 (by omega) (by omega) hx_26 hr_26 hO_26 (fun j j0 j1 => Ran_lev er_26 j0 (by omega)) rfl (fun h => h) (by omega) (Or.inl rfl) (Or.inl rfl)
      · refine k_bipush hE dX6_rains_21 rfl ?_
        exact k_iret hR dX6_rains_23 rfl ⟨_, st, rfl, rfl, Or.inr (Or.inl ⟨by omega, by omega, rfl⟩), XS.refl st⟩
    · refine k_iconst hE dX6_rains_12 ?_
      exact k_iret hR dX6_rains_13 rfl ⟨_, st, rfl, rfl, Or.inl ⟨by omega, rfl⟩, XS.refl st⟩
