set_option maxHeartbeats 4000000 in
set_option maxRecDepth 100000 in
theorem c_X6_thief {ad : Nat → Nat} {ta sa ca : Int → Nat} {D : va_G} {cI cT cS : ClassId} (st : Sg) (Y : Sg) (d : Int) (v : Int) (hA : Ag st Y) (hI : Inv Y) (i_d : -2147483648 ≤ d ∧ d < 2147483648) (i_v : -2147483648 ≤ v ∧ v < 2147483648) : MC (xw ad ta sa ca D cI cT cS) yX6_thief cX6_thief 6 (some .int) { frames := 6, cells := 0, slots := 0, locals := 145 } [.ref (ad 0), .int (iI d), .int (iI v)] st (fun rv u => ∃ z : Int, ∃ S : Sg, rv = some (.int (iI (z))) ∧ u = S ∧ (TH Y d v z) ∧ (XS st S)) := by
  refine MC_intro RX6 (by decide) rfl (Nat.le_of_ble_eq_true rfl) ?_
  intro G H0 m hE hR
  refine k_lo [0, 1, 2] (lo' := [(0, .ref (ad 0)), (1, .int (iI d)), (2, .int (iI v))]) rfl ?_
  obtain ⟨hi0, hi1, hi2, hi3, hi4, hi5, hi6, hi7, hit, hir, him, hin⟩ := id hI
  refine k_iload_n hE dX6_thief_0 1 rfl rfl ?_
  refine k_callS hE (c_X6_noDay st d (by omega)) ms_X6_noDay ml_X6_118 rfl ⟨rfl, rfl, Nat.le_of_ble_eq_true rfl, Nat.le_of_ble_eq_true rfl⟩ [] (Nat.le_of_ble_eq_true rfl) dX6_thief_1 rfl (fun rv u hp => ?_)
  obtain ⟨z1, hv1, hu1, hz_1⟩ := hp
  refine k_sk (sk' := [.int (iI z1)]) (by rw [hv1]; rfl) ?_
  refine k_st st hu1 ?_
  refine k_if_eq hE 9 dX6_thief_4 (by decide) (by unfold in32; omega) (fun c4 => ?_) (fun c4 => ?_)
  · refine k_iconst hE dX6_thief_9 ?_
    refine k_iload_n hE dX6_thief_10 2 rfl rfl ?_
    refine k_bipush hE dX6_thief_11 rfl ?_
    refine k_callS hE (c_X6_isNot st 1 v 9 (by omega) (by omega) (by omega)) ms_X6_isNot ml_X6_104 rfl ⟨rfl, rfl, Nat.le_of_ble_eq_true rfl, Nat.le_of_ble_eq_true rfl⟩ [] (Nat.le_of_ble_eq_true rfl) dX6_thief_13 rfl (fun rv u hp => ?_)
    obtain ⟨z2, hv13, hu13, hz_13⟩ := hp
    refine k_sk (sk' := [.int (iI z2)]) (by rw [hv13]; rfl) ?_
    refine k_st st hu13 ?_
    refine k_if_eq hE 22 dX6_thief_16 (by decide) (by unfold in32; omega) (fun c16 => ?_) (fun c16 => ?_)
    · refine k_aload_n hE dX6_thief_22 0 rfl rfl ?_
      refine k_callV hE (c_X6_noYard st Y hA hI) mf_X6_noYard ml_X6_108 0 rfl rfl rfl rfl ⟨rfl, rfl, Nat.le_of_ble_eq_true rfl, Nat.le_of_ble_eq_true rfl⟩ [] (Nat.le_of_ble_eq_true rfl) dX6_thief_23 rfl (fun rv u hp => ?_)
      obtain ⟨z3, hv23, hu23, hz_23⟩ := hp
      refine k_sk (sk' := [.int (iI z3)]) (by rw [hv23]; rfl) ?_
      refine k_st st hu23 ?_
      refine k_if_eq hE 32 dX6_thief_26 (by decide) (by unfold in32; omega) (fun c26 => ?_) (fun c26 => ?_)
      · have w1 : ¬ (d < 0 ∨ 9 < d) := by omega
        have w2 : ¬ (v < 1 ∨ 9 < v) := by omega
        have w3 : Y.1 0 ≠ 0 := by omega
        refine k_aload_n hE dX6_thief_32 0 rfl rfl ?_
        refine k_iload_n hE dX6_thief_33 1 rfl rfl ?_
        refine k_iconst hE dX6_thief_34 ?_
        refine k_iadd hE dX6_thief_35 ?_
        refine k_callV hE (c_X6_passAsTold st Y (d + 1) hA hI (by omega)) mf_X6_passAsTold ml_X6_134 0 rfl rfl rfl rfl ⟨rfl, rfl, Nat.le_of_ble_eq_true rfl, Nat.le_of_ble_eq_true rfl⟩ [] (Nat.le_of_ble_eq_true rfl) dX6_thief_36 rfl (fun rv u hp => ?_)
        obtain ⟨S1, hv36, hu36, hx_36, hr_36, hO_36, er_36⟩ := hp
        refine k_sk (sk' := []) (by rw [hv36]; rfl) ?_
        refine k_st S1 hu36 ?_
        have hB : Ag S1 Y := hx_36.ag hA
        refine k_aload_n hE dX6_thief_39 0 rfl rfl ?_
        refine x_get_X6_days hE fl_X6_23 dX6_thief_40 ?_
        refine x_get_X0_levels hE fl_X6_142 dX6_thief_43 ?_
        refine k_iload_n hE dX6_thief_46 1 rfl rfl ?_
        refine k_iconst hE dX6_thief_47 ?_
        refine k_iadd hE dX6_thief_48 ?_
        refine x_ld_levels hE (z := S1.2 9 (d + 1)) (by omega) (by omega) rfl dX6_thief_49 ?_
        have hlv := Ran_lev er_36 (k := d + 1) (by omega) (by omega)
        refine k_sk (sk' := [.int (iI (lev Y (Y.1 4) (Y.1 3) (Y.2 4) (d + 1).toNat))]) (congrArg (fun zz : Int => ([.int (iI zz)] : List Value)) (show (S1.2 9 (d + 1)) = (lev Y (Y.1 4) (Y.1 3) (Y.2 4) (d + 1).toNat) from hlv.1)) ?_
        refine k_istore_n hE dX6_thief_50 [1, 2, 3, 0] rfl (Nat.le_of_ble_eq_true rfl) (lo' := [(0, .ref (ad 0)), (1, .int (iI d)), (2, .int (iI v)), (3, .int (iI (lev Y (Y.1 4) (Y.1 3) (Y.2 4) (d + 1).toNat)))]) rfl ?_
        refine k_iconst hE dX6_thief_51 ?_
        refine k_istore hE dX6_thief_52 [1, 2, 3, 4, 0] (Nat.le_of_ble_eq_true rfl) (lo' := [(0, .ref (ad 0)), (1, .int (iI d)), (2, .int (iI v)), (3, .int (iI (lev Y (Y.1 4) (Y.1 3) (Y.2 4) (d + 1).toNat))), (4, .int (iI 0))]) rfl ?_
        refine k_iconst hE dX6_thief_54 ?_
        refine k_istore hE dX6_thief_55 [1, 2, 3, 4, 5, 0] (Nat.le_of_ble_eq_true rfl) (lo' := [(0, .ref (ad 0)), (1, .int (iI d)), (2, .int (iI v)), (3, .int (iI (lev Y (Y.1 4) (Y.1 3) (Y.2 4) (d + 1).toNat))), (4, .int (iI 0)), (5, .int (iI 0))]) rfl ?_
        have L57 : ∀ (fu57 : Nat) (S : Sg) (s : Int) (f : Nat), ((f : Int) ≤ Y.1 0) → (Y.1 0 - f < fu57) → (XS st S) → (S.1 10 = Y.1 4) → (OR Y (Y.1 4) (S.2 12) (Y.1 0).toNat) → (∀ j : Int, 0 ≤ j → j ≤ d → S.2 9 j = lev Y (Y.1 4) (Y.1 3) (Y.2 4) j.toNat ∧ 0 ≤ lev Y (Y.1 4) (Y.1 3) (Y.2 4) j.toNat ∧ lev Y (Y.1 4) (Y.1 3) (Y.2 4) j.toNat ≤ Y.1 1) → (s = TFs (THp Y d v) f) → KW (xw ad ta sa ca D cI cT cS) G H0 m 6 S 57 [(0, .ref (ad 0)), (1, .int (iI d)), (2, .int (iI v)), (3, .int (iI (lev Y (Y.1 4) (Y.1 3) (Y.2 4) (d + 1).toNat))), (4, .int (iI s)), (5, .int (iI ((f : Int))))] [] := by
          intro fu57
          induction fu57 with
          | zero =>
            intro S s f q0 q1 hxS hr10 hO hv es
            omega
          | succ fu57 ih57 =>
            intro S s f q0 q1 hxS hr10 hO hv es
            have hAS := hxS.ag hA
            refine k_iload hE dX6_thief_57 5 rfl ?_
            refine k_aload_n hE dX6_thief_59 0 rfl rfl ?_
            refine x_get_X6_yard hE fl_X6_12 dX6_thief_60 ?_
            refine x_get_X5_tapCount hE (z := Y.1 0) (hAS.1 0 (by decide)) fl_X6_76 dX6_thief_63 ?_
            refine k_icmp_ge hE 120 dX6_thief_66 (by decide) (by unfold in32; omega) (by unfold in32; omega) (fun c66 => ?_) (fun c66 => ?_)
            · refine k_iload hE dX6_thief_120 4 rfl ?_
              refine k_iret hR dX6_thief_122 rfl ?_
              have ef : (Y.1 0).toNat = f := by omega
              exact ⟨_, S, rfl, rfl, Or.inr (Or.inr (Or.inr ⟨w1, w2, w3, by rw [ef]; exact es⟩)), hxS⟩
            · refine k_aload_n hE dX6_thief_69 0 rfl rfl ?_
              refine x_get_X6_yard hE fl_X6_12 dX6_thief_70 ?_
              refine k_iload hE dX6_thief_73 5 rfl ?_
              refine k_iload_n hE dX6_thief_75 3 rfl rfl ?_
              have hg := GV_rng hI (f := (f : Int)) (by omega) (by omega) (lev Y (Y.1 4) (Y.1 3) (Y.2 4) (d + 1).toNat)
              refine k_callV hE (c_X5_givesAt S Y ((f : Int)) (lev Y (Y.1 4) (Y.1 3) (Y.2 4) (d + 1).toNat) hAS hI (by omega) (by omega) (by omega)) mf_X5_givesAt ml_X6_185 1 rfl rfl rfl rfl ⟨rfl, rfl, Nat.le_of_ble_eq_true rfl, Nat.le_of_ble_eq_true rfl⟩ [] (Nat.le_of_ble_eq_true rfl) dX6_thief_76 rfl (fun rv u hp => ?_)
              obtain ⟨hv76, hu76⟩ := hp
              refine k_sk (sk' := [.int (iI (GV Y ((f : Int)) (lev Y (Y.1 4) (Y.1 3) (Y.2 4) (d + 1).toNat)))]) (by rw [hv76]; rfl) ?_
              refine k_st S hu76 ?_
              refine k_iload_n hE dX6_thief_79 2 rfl rfl ?_
              refine k_icmp_lt hE 114 dX6_thief_80 (by decide) (by unfold in32; omega) (by unfold in32; omega) (fun c80 => ?_) (fun c80 => ?_)
              · refine k_iinc hE dX6_thief_114 5 [1, 2, 3, 4, 5, 0] rfl (Nat.le_of_ble_eq_true rfl) (lo' := [(0, .ref (ad 0)), (1, .int (iI d)), (2, .int (iI v)), (3, .int (iI (lev Y (Y.1 4) (Y.1 3) (Y.2 4) (d + 1).toNat))), (4, .int (iI s)), (5, .int (iI (((f : Int)) + 1)))]) rfl ?_
                refine k_goto hE 57 dX6_thief_117 (by decide) ?_
                first
                  | (refine ih57 S _ (f + 1) (by omega) (by omega) hxS hr10 hO hv ?_
                     rw [TFs_n (P := THp Y d v) (k := f) (fun h5 => by have h6 := h5.1; omega)]; exact es)
                  | (refine ih57 S3 _ (f + 1) (by omega) (by omega) hx3 (by rw [k1_99, eS2]; exact hr10) (by rw [k2_99 12 (by decide), eS2]; exact hO) (fun j j0 j1 => by rw [k3_99 j (by omega), eS2]; show ur S.2 9 _ _ 9 j = _ ∧ _; rw [ur_o _ _ _ (by omega)]; exact hv j j0 j1) ?_
                     first
                       | (rw [TFs_n (P := THp Y d v) (k := f) (fun h5 => absurd (hP.mpr h5.2) (by omega))]; exact es)
                       | (rw [TFs_y (P := THp Y d v) (k := f) ⟨by omega, hP.mp (by omega)⟩, ← es]))
              · refine k_aload_n hE dX6_thief_83 0 rfl rfl ?_
                refine x_get_X6_days hE fl_X6_23 dX6_thief_84 ?_
                refine x_get_X0_levels hE fl_X6_142 dX6_thief_87 ?_
                refine k_iload_n hE dX6_thief_90 1 rfl rfl ?_
                refine k_iconst hE dX6_thief_91 ?_
                refine k_iadd hE dX6_thief_92 ?_
                refine k_iload_n hE dX6_thief_93 3 rfl rfl ?_
                refine k_iload_n hE dX6_thief_94 2 rfl rfl ?_
                refine k_isub hE dX6_thief_95 ?_
                refine x_st_levels hE (by omega) (by omega) dX6_thief_96 ?_
                refine k_st ((S.1, ur S.2 9 (d + 1) ((lev Y (Y.1 4) (Y.1 3) (Y.2 4) (d + 1).toNat) - v))) rfl ?_
                refine k_nm (fun S2 eS2 => ?_)
                have hx2 : XS st S2 := by rw [eS2]; exact hxS.trans ⟨fun i hi => rfl, fun a ha => by show ur S.2 9 _ _ a = _; rw [ur_n _ _ _ (by omega)]⟩
                have hB2 := hx2.ag hA
                have hL2 : ∀ j : Int, 0 ≤ j → j ≤ d + 1 → S2.2 9 j = LTh Y d v j := fun j j0 j1 => by
                  rw [eS2]
                  show ur S.2 9 _ _ 9 j = _
                  unfold LTh
                  rw [ur_c]
                  by_cases e : j = d + 1
                  · rw [if_pos e, if_pos e]
                  · rw [if_neg e, if_neg e]; exact (hv j j0 (by omega)).1
                refine k_aload_n hE dX6_thief_97 0 rfl rfl ?_
                refine k_iload_n hE dX6_thief_98 1 rfl rfl ?_
                refine k_callV hE (c_X6_marksHoldBehind S2 Y d (Y.1 4) hB2 hI (by omega) (by rw [eS2]; exact hr10) (by omega) (by rw [eS2]; exact hO) (fun j j0 j1 => by rw [hL2 j j0 j1]; unfold LTh; by_cases e : j = d + 1; (rw [if_pos e]; omega); rw [if_neg e]; exact (hv j j0 (by omega)).2)) mf_X6_marksHoldBehind ml_X6_182 0 rfl rfl rfl rfl ⟨rfl, rfl, Nat.le_of_ble_eq_true rfl, Nat.le_of_ble_eq_true rfl⟩ [] (Nat.le_of_ble_eq_true rfl) dX6_thief_99 rfl (fun rv u hp => ?_)
                obtain ⟨zz, S3, hv99, hu99, hz_99, k1_99, k2_99, k3_99⟩ := hp
                refine k_sk (sk' := [.int (iI zz)]) (by rw [hv99]; rfl) ?_
                refine k_st S3 hu99 ?_
                have hx3 : XS st S3 := hx2.trans ⟨fun i hi => by rw [k1_99], fun a ha => k2_99 a (by omega)⟩
                have hP : zz = 1 ↔ MH Y (LVf Y (Y.1 4) (Y.2 4) d (LTh Y d v)) := by
                  have hc := MH_cong (Y := Y) (LVf_cong (Y := Y) (q := Y.1 4) (rn := Y.2 4) (d := d) hL2 (by omega))
                  rcases hz_99 with h5 | h5
                  · exact ⟨fun _ => hc.mp h5.2, fun _ => h5.1⟩
                  · exact ⟨fun h6 => by omega, fun h6 => absurd (hc.mpr h6) h5.2⟩
                refine k_if_eq hE 114 dX6_thief_102 (by decide) (by unfold in32; omega) (fun c102 => ?_) (fun c102 => ?_)
                · refine k_iinc hE dX6_thief_114 5 [1, 2, 3, 4, 5, 0] rfl (Nat.le_of_ble_eq_true rfl) (lo' := [(0, .ref (ad 0)), (1, .int (iI d)), (2, .int (iI v)), (3, .int (iI (lev Y (Y.1 4) (Y.1 3) (Y.2 4) (d + 1).toNat))), (4, .int (iI s)), (5, .int (iI (((f : Int)) + 1)))]) rfl ?_
                  refine k_goto hE 57 dX6_thief_117 (by decide) ?_
                  first
                    | (refine ih57 S _ (f + 1) (by omega) (by omega) hxS hr10 hO hv ?_
                       rw [TFs_n (P := THp Y d v) (k := f) (fun h5 => by have h6 := h5.1; omega)]; exact es)
                    | (refine ih57 S3 _ (f + 1) (by omega) (by omega) hx3 (by rw [k1_99, eS2]; exact hr10) (by rw [k2_99 12 (by decide), eS2]; exact hO) (fun j j0 j1 => by rw [k3_99 j (by omega), eS2]; show ur S.2 9 _ _ 9 j = _ ∧ _; rw [ur_o _ _ _ (by omega)]; exact hv j j0 j1) ?_
                       first
                         | (rw [TFs_n (P := THp Y d v) (k := f) (fun h5 => absurd (hP.mpr h5.2) (by omega))]; exact es)
                         | (rw [TFs_y (P := THp Y d v) (k := f) ⟨by omega, hP.mp (by omega)⟩, ← es]))
                · refine k_iload hE dX6_thief_105 4 rfl ?_
                  refine k_iconst hE dX6_thief_107 ?_
                  refine k_iload hE dX6_thief_108 5 rfl ?_
                  refine k_ishl hE dX6_thief_110 ?_
                  refine k_ior hE dX6_thief_111 ?_
                  refine k_istore hE dX6_thief_112 [1, 2, 3, 4, 0, 5] (Nat.le_of_ble_eq_true rfl) (lo' := [(0, .ref (ad 0)), (1, .int (iI d)), (2, .int (iI v)), (3, .int (iI (lev Y (Y.1 4) (Y.1 3) (Y.2 4) (d + 1).toNat))), (4, .int (iI (zor s (zshl 1 ((f : Int)))))), (5, .int (iI ((f : Int))))]) rfl ?_
                  refine k_iinc hE dX6_thief_114 5 [1, 2, 3, 4, 5, 0] rfl (Nat.le_of_ble_eq_true rfl) (lo' := [(0, .ref (ad 0)), (1, .int (iI d)), (2, .int (iI v)), (3, .int (iI (lev Y (Y.1 4) (Y.1 3) (Y.2 4) (d + 1).toNat))), (4, .int (iI (zor s (zshl 1 ((f : Int)))))), (5, .int (iI (((f : Int)) + 1)))]) rfl ?_
                  refine k_goto hE 57 dX6_thief_117 (by decide) ?_
                  first
                    | (refine ih57 S _ (f + 1) (by omega) (by omega) hxS hr10 hO hv ?_
                       rw [TFs_n (P := THp Y d v) (k := f) (fun h5 => by have h6 := h5.1; omega)]; exact es)
                    | (refine ih57 S3 _ (f + 1) (by omega) (by omega) hx3 (by rw [k1_99, eS2]; exact hr10) (by rw [k2_99 12 (by decide), eS2]; exact hO) (fun j j0 j1 => by rw [k3_99 j (by omega), eS2]; show ur S.2 9 _ _ 9 j = _ ∧ _; rw [ur_o _ _ _ (by omega)]; exact hv j j0 j1) ?_
                       first
                         | (rw [TFs_n (P := THp Y d v) (k := f) (fun h5 => absurd (hP.mpr h5.2) (by omega))]; exact es)
                         | (rw [TFs_y (P := THp Y d v) (k := f) ⟨by omega, hP.mp (by omega)⟩, ← es]))
        exact L57 7 S1 0 0 (by omega) (by omega) hx_36 hr_36 hO_36 (fun j j0 j1 => Ran_lev er_36 j0 (by omega)) rfl
      · refine k_bipush hE dX6_thief_29 rfl ?_
        exact k_iret hR dX6_thief_31 rfl ⟨_, st, rfl, rfl, Or.inr (Or.inr (Or.inl ⟨by omega, by omega, by omega, rfl⟩)), XS.refl st⟩
    · refine k_bipush hE dX6_thief_19 rfl ?_
      exact k_iret hR dX6_thief_21 rfl ⟨_, st, rfl, rfl, Or.inr (Or.inl ⟨by omega, by omega, rfl⟩), XS.refl st⟩
  · refine k_iconst hE dX6_thief_7 ?_
    exact k_iret hR dX6_thief_8 rfl ⟨_, st, rfl, rfl, Or.inl ⟨by omega, rfl⟩, XS.refl st⟩

set_option maxHeartbeats 4000000 in
set_option maxRecDepth 100000 in
theorem c_X6_risk {ad : Nat → Nat} {ta sa ca : Int → Nat} {D : va_G} {cI cT cS : ClassId} (st : Sg) (Y : Sg) (f : Int) (n : Int) (a : Int) (b : Int) (x : Int) (hA : Ag st Y) (hI : Inv Y) (i_f : -2147483648 ≤ f ∧ f < 2147483648) (i_n : -2147483648 ≤ n ∧ n < 2147483648) (i_a : -2147483648 ≤ a ∧ a < 2147483648) (i_b : -2147483648 ≤ b ∧ b < 2147483648) (i_x : -2147483648 ≤ x ∧ x < 2147483648) : MC (xw ad ta sa ca D cI cT cS) yX6_risk cX6_risk 10 (some .long) { frames := 4, cells := 0, slots := 0, locals := 101 } [.ref (ad 0), .int (iI f), .int (iI n), .int (iI a), .int (iI b), .int (iI x)] st (fun rv u => ∃ L : Int64, ∃ S : Sg, rv = some (.long (L)) ∧ u = S ∧ (RK Y f n a b x L) ∧ (XS st S)) := by
  refine MC_intro RX6 (by decide) rfl (Nat.le_of_ble_eq_true rfl) ?_
  intro G H0 m hE hR
  refine k_lo [0, 1, 2, 3, 4, 5] (lo' := [(0, .ref (ad 0)), (1, .int (iI f)), (2, .int (iI n)), (3, .int (iI a)), (4, .int (iI b)), (5, .int (iI x))]) rfl ?_
  obtain ⟨hi0, hi1, hi2, hi3, hi4, hi5, hi6, hi7, hit, hir, him, hin⟩ := id hI
  refine k_aload_n hE dX6_risk_0 0 rfl rfl ?_
  refine k_iload_n hE dX6_risk_1 1 rfl rfl ?_
  refine k_callV hE (c_X6_noTap st Y f hA hI (by omega)) mf_X6_noTap ml_X6_79 0 rfl rfl rfl rfl ⟨rfl, rfl, Nat.le_of_ble_eq_true rfl, Nat.le_of_ble_eq_true rfl⟩ [] (Nat.le_of_ble_eq_true rfl) dX6_risk_2 rfl (fun rv u hp => ?_)
  obtain ⟨z1, hv2, hu2, hz_2⟩ := hp
  refine k_sk (sk' := [.int (iI z1)]) (by rw [hv2]; rfl) ?_
  refine k_st st hu2 ?_
  refine k_if_ne hE 28 dX6_risk_5 (by decide) (by unfold in32; omega) (fun c5 => ?_) (fun c5 => ?_)
  · refine k_ldc2 hE cl_X6_167 dX6_risk_28 ?_
    exact k_lret hR dX6_risk_31 rfl ⟨_, st, rfl, rfl, Or.inl ⟨by omega, rfl⟩, XS.refl st⟩
  · refine k_iconst hE dX6_risk_8 ?_
    refine k_iload_n hE dX6_risk_9 2 rfl rfl ?_
    refine k_bipush hE dX6_risk_10 rfl ?_
    refine k_callS hE (c_X6_isNot st 0 n 6 (by omega) (by omega) (by omega)) ms_X6_isNot ml_X6_104 rfl ⟨rfl, rfl, Nat.le_of_ble_eq_true rfl, Nat.le_of_ble_eq_true rfl⟩ [] (Nat.le_of_ble_eq_true rfl) dX6_risk_12 rfl (fun rv u hp => ?_)
    obtain ⟨z2, hv12, hu12, hz_12⟩ := hp
    refine k_sk (sk' := [.int (iI z2)]) (by rw [hv12]; rfl) ?_
    refine k_st st hu12 ?_
    refine k_if_ne hE 28 dX6_risk_15 (by decide) (by unfold in32; omega) (fun c15 => ?_) (fun c15 => ?_)
    · refine k_ldc2 hE cl_X6_167 dX6_risk_28 ?_
      exact k_lret hR dX6_risk_31 rfl ⟨_, st, rfl, rfl, Or.inl ⟨by omega, rfl⟩, XS.refl st⟩
    · refine k_iconst hE dX6_risk_18 ?_
      refine k_iload hE dX6_risk_19 5 rfl ?_
      refine k_iconst hE dX6_risk_21 ?_
      refine k_callS hE (c_X6_isNot st 0 x 1 (by omega) (by omega) (by omega)) ms_X6_isNot ml_X6_104 rfl ⟨rfl, rfl, Nat.le_of_ble_eq_true rfl, Nat.le_of_ble_eq_true rfl⟩ [] (Nat.le_of_ble_eq_true rfl) dX6_risk_22 rfl (fun rv u hp => ?_)
      obtain ⟨z3, hv22, hu22, hz_22⟩ := hp
      refine k_sk (sk' := [.int (iI z3)]) (by rw [hv22]; rfl) ?_
      refine k_st st hu22 ?_
      refine k_if_eq hE 32 dX6_risk_25 (by decide) (by unfold in32; omega) (fun c25 => ?_) (fun c25 => ?_)
      · refine k_iconst hE dX6_risk_32 ?_
        refine k_iload_n hE dX6_risk_33 3 rfl rfl ?_
        refine k_bipush hE dX6_risk_34 rfl ?_
        refine k_callS hE (c_X6_isNot st 0 a 99 (by omega) (by omega) (by omega)) ms_X6_isNot ml_X6_104 rfl ⟨rfl, rfl, Nat.le_of_ble_eq_true rfl, Nat.le_of_ble_eq_true rfl⟩ [] (Nat.le_of_ble_eq_true rfl) dX6_risk_36 rfl (fun rv u hp => ?_)
        obtain ⟨z4, hv36, hu36, hz_36⟩ := hp
        refine k_sk (sk' := [.int (iI z4)]) (by rw [hv36]; rfl) ?_
        refine k_st st hu36 ?_
        refine k_if_ne hE 53 dX6_risk_39 (by decide) (by unfold in32; omega) (fun c39 => ?_) (fun c39 => ?_)
        · refine k_ldc2 hE cl_X6_167 dX6_risk_53 ?_
          exact k_lret hR dX6_risk_56 rfl ⟨_, st, rfl, rfl, Or.inl ⟨by omega, rfl⟩, XS.refl st⟩
        · refine k_iconst hE dX6_risk_42 ?_
          refine k_iload hE dX6_risk_43 4 rfl ?_
          refine k_bipush hE dX6_risk_45 rfl ?_
          refine k_callS hE (c_X6_isNot st 0 b 99 (by omega) (by omega) (by omega)) ms_X6_isNot ml_X6_104 rfl ⟨rfl, rfl, Nat.le_of_ble_eq_true rfl, Nat.le_of_ble_eq_true rfl⟩ [] (Nat.le_of_ble_eq_true rfl) dX6_risk_47 rfl (fun rv u hp => ?_)
          obtain ⟨z5, hv47, hu47, hz_47⟩ := hp
          refine k_sk (sk' := [.int (iI z5)]) (by rw [hv47]; rfl) ?_
          refine k_st st hu47 ?_
          refine k_if_eq hE 57 dX6_risk_50 (by decide) (by unfold in32; omega) (fun c50 => ?_) (fun c50 => ?_)
          · have w1 : ¬ ((f < 0 ∨ Y.1 0 ≤ f) ∨ (n < 0 ∨ 6 < n) ∨ (x < 0 ∨ 1 < x) ∨ (a < 0 ∨ 99 < a) ∨ (b < 0 ∨ 99 < b)) := by omega
            have p6 := pow6 (n := n) (by omega) (by omega)
            have rr : ∀ row k : Int, 0 ≤ RRb a b row k ∧ RRb a b row k ≤ 99 := fun row k => by unfold RRb; split <;> omega
            refine k_iconst hE dX6_risk_57 ?_
            refine k_iload_n hE dX6_risk_58 2 rfl rfl ?_
            refine k_ishl hE dX6_risk_59 ?_
            refine k_sk (sk' := [.int (iI (((2 ^ n.toNat : Nat) : Int)))]) (congrArg (fun zz : Int => ([.int (iI zz)] : List Value)) (show (zshl 1 n) = (((2 ^ n.toNat : Nat) : Int)) from (zshl1 (by omega) (by omega)))) ?_
            refine k_istore hE dX6_risk_60 [1, 2, 3, 4, 5, 6, 0] (Nat.le_of_ble_eq_true rfl) (lo' := [(0, .ref (ad 0)), (1, .int (iI f)), (2, .int (iI n)), (3, .int (iI a)), (4, .int (iI b)), (5, .int (iI x)), (6, .int (iI (((2 ^ n.toNat : Nat) : Int))))]) rfl ?_
            refine k_iconst hE dX6_risk_62 ?_
            refine k_istore hE dX6_risk_63 [1, 2, 3, 4, 5, 6, 7, 0] (Nat.le_of_ble_eq_true rfl) (lo' := [(0, .ref (ad 0)), (1, .int (iI f)), (2, .int (iI n)), (3, .int (iI a)), (4, .int (iI b)), (5, .int (iI x)), (6, .int (iI (((2 ^ n.toNat : Nat) : Int)))), (7, .int (iI 0))]) rfl ?_
            refine k_aload_n hE dX6_risk_65 0 rfl rfl ?_
            refine x_get_X6_days hE fl_X6_23 dX6_risk_66 ?_
            refine k_aload_n hE dX6_risk_69 0 rfl rfl ?_
            refine x_get_X6_yard hE fl_X6_12 dX6_risk_70 ?_
            refine x_get_X5_firstWater hE (z := Y.1 3) (hA.1 3 (by decide)) fl_X6_115 dX6_risk_73 ?_
            refine k_aload_n hE dX6_risk_76 0 rfl rfl ?_
            refine x_get_X6_yard hE fl_X6_12 dX6_risk_77 ?_
            refine x_get_X5_rule hE (z := Y.1 4) (hA.1 4 (by decide)) fl_X6_125 dX6_risk_80 ?_
            refine k_callV hE (c_X0_startWith st Y (Y.1 3) (Y.1 4) hA hI (by omega)) mf_X0_startWith ml_X6_157 4 rfl rfl rfl rfl ⟨rfl, rfl, Nat.le_of_ble_eq_true rfl, Nat.le_of_ble_eq_true rfl⟩ [] (Nat.le_of_ble_eq_true rfl) dX6_risk_83 rfl (fun rv u hp => ?_)
            obtain ⟨S1, hv83, hu83, e1_83, e2_83, e3_83⟩ := hp
            refine k_sk (sk' := []) (by rw [hv83]; rfl) ?_
            refine k_st S1 hu83 ?_
            have hxB : XS st S1 := ⟨fun i hi => by rw [e1_83, uv_n _ _ hi], fun a ha => by rw [e2_83 a (by omega), ur_n _ _ _ (by omega)]⟩
            have hB := hxB.ag hA
            refine k_iconst hE dX6_risk_86 ?_
            refine k_istore hE dX6_risk_87 [1, 2, 3, 4, 5, 6, 7, 8, 0] (Nat.le_of_ble_eq_true rfl) (lo' := [(0, .ref (ad 0)), (1, .int (iI f)), (2, .int (iI n)), (3, .int (iI a)), (4, .int (iI b)), (5, .int (iI x)), (6, .int (iI (((2 ^ n.toNat : Nat) : Int)))), (7, .int (iI 0)), (8, .int (iI 0))]) rfl ?_
            have L89 : ∀ (fu89 : Nat) (S : Sg) (c : Int) (j : Nat), ((j : Int) ≤ ((2 ^ n.toNat : Nat) : Int)) → (((2 ^ n.toNat : Nat) : Int) - j < fu89) → (XS st S) → (S.1 10 = Y.1 4) → (OR Y (Y.1 4) (S.2 12) (Y.1 0).toNat) → (S.2 9 0 = Y.1 3) → (c = CT (fun row => ¬ NV Y (Y.1 4) (Y.1 3) (RRb a b row) n f) j) → KW (xw ad ta sa ca D cI cT cS) G H0 m 10 S 89 [(0, .ref (ad 0)), (1, .int (iI f)), (2, .int (iI n)), (3, .int (iI a)), (4, .int (iI b)), (5, .int (iI x)), (6, .int (iI (((2 ^ n.toNat : Nat) : Int)))), (7, .int (iI c)), (8, .int (iI ((j : Int))))] [] := by
              intro fu89
              induction fu89 with
              | zero =>
                intro S c j q0 q1 hxS hr10 hO hl0 ec
                omega
              | succ fu89 ih89 =>
                intro S c j q0 q1 hxS hr10 hO hl0 ec
                have hAS := hxS.ag hA
                have rc := CT_rng (fun row => ¬ NV Y (Y.1 4) (Y.1 3) (RRb a b row) n f) j
                refine k_iload hE dX6_risk_89 8 rfl ?_
                refine k_iload hE dX6_risk_91 6 rfl ?_
                refine k_icmp_ge hE 159 dX6_risk_93 (by decide) (by unfold in32; omega) (by unfold in32; omega) (fun c93 => ?_) (fun c93 => ?_)
                · refine k_iload hE dX6_risk_159 7 rfl ?_
                  refine k_iload hE dX6_risk_161 6 rfl ?_
                  refine k_iload hE dX6_risk_163 5 rfl ?_
                  refine k_callS hE (c_X6_inLeastTerms S c (((2 ^ n.toNat : Nat) : Int)) x (by omega) (by omega) (by omega)) ms_X6_inLeastTerms ml_X6_172 rfl ⟨rfl, rfl, Nat.le_of_ble_eq_true rfl, Nat.le_of_ble_eq_true rfl⟩ [] (Nat.le_of_ble_eq_true rfl) dX6_risk_165 rfl (fun rv u hp => ?_)
                  obtain ⟨hv165, hu165⟩ := hp
                  refine k_sk (sk' := [.long (jI (LT c (((2 ^ n.toNat : Nat) : Int)) x))]) (by rw [hv165]; rfl) ?_
                  refine k_st S hu165 ?_
                  refine k_lret hR dX6_risk_168 rfl ?_
                  have ej : 2 ^ n.toNat = j := by omega
                  refine ⟨_, S, rfl, rfl, Or.inr ⟨w1, ?_⟩, hxS⟩
                  unfold RKc
                  rw [ec, ← ej]
                · refine k_iconst hE dX6_risk_96 ?_
                  refine k_istore hE dX6_risk_97 [1, 2, 3, 4, 5, 6, 7, 8, 9, 0] (Nat.le_of_ble_eq_true rfl) (lo' := [(0, .ref (ad 0)), (1, .int (iI f)), (2, .int (iI n)), (3, .int (iI a)), (4, .int (iI b)), (5, .int (iI x)), (6, .int (iI (((2 ^ n.toNat : Nat) : Int)))), (7, .int (iI c)), (8, .int (iI ((j : Int)))), (9, .int (iI 0))]) rfl ?_
                  have L99 : ∀ (fu99 : Nat) (S2 : Sg) (k : Nat), ((k : Int) ≤ n) → (n - k < fu99) → (XS st S2) → (S2.1 10 = Y.1 4) → (OR Y (Y.1 4) (S2.2 12) (Y.1 0).toNat) → (S2.2 9 0 = Y.1 3) → (Ran Y (Y.1 4) (Y.1 3) (RRb a b j) S2.2 k 9 10 11) → KW (xw ad ta sa ca D cI cT cS) G H0 m 10 S2 99 [(0, .ref (ad 0)), (1, .int (iI f)), (2, .int (iI n)), (3, .int (iI a)), (4, .int (iI b)), (5, .int (iI x)), (6, .int (iI (((2 ^ n.toNat : Nat) : Int)))), (7, .int (iI c)), (8, .int (iI ((j : Int)))), (9, .int (iI ((k : Int))))] [] := by
                    intro fu99
                    induction fu99 with
                    | zero =>
                      intro S2 k p0 p1 hx2 h10 hO2 hl2 er
                      omega
                    | succ fu99 ih99 =>
                      intro S2 k p0 p1 hx2 h10 hO2 hl2 er
                      have hAS2 := hx2.ag hA
                      refine k_iload hE dX6_risk_99 9 rfl ?_
                      refine k_iload_n hE dX6_risk_101 2 rfl rfl ?_
                      refine k_icmp_ge hE 136 dX6_risk_102 (by decide) (by unfold in32; omega) (by unfold in32; omega) (fun c102 => ?_) (fun c102 => ?_)
                      · refine k_aload_n hE dX6_risk_136 0 rfl rfl ?_
                        refine x_get_X6_days hE fl_X6_23 dX6_risk_137 ?_
                        refine k_iload_n hE dX6_risk_140 1 rfl rfl ?_
                        refine k_iload_n hE dX6_risk_141 2 rfl rfl ?_
                        refine k_callV hE (c_X0_firstDry S2 Y f n hAS2 hI (by omega) (by omega) (by omega) (fun i i0 i1 => by have hg := Ran_gD er (f := f) (k := i) (by omega) (by omega) i0 (by omega); omega)) mf_X0_firstDry ml_X6_151 4 rfl rfl rfl rfl ⟨rfl, rfl, Nat.le_of_ble_eq_true rfl, Nat.le_of_ble_eq_true rfl⟩ [] (Nat.le_of_ble_eq_true rfl) dX6_risk_142 rfl (fun rv u hp => ?_)
                        obtain ⟨zz, hv142, hu142, hz_142⟩ := hp
                        refine k_sk (sk' := [.int (iI zz)]) (by rw [hv142]; rfl) ?_
                        refine k_st S2 hu142 ?_
                        have rz : -9 ≤ zz ∧ zz ≤ 10 := by rcases hz_142 with h5 | h5 <;> omega
                        have hP : zz = -9 ↔ NV Y (Y.1 4) (Y.1 3) (RRb a b j) n f := (FD_none hz_142).trans ⟨fun h5 i i0 i1 => by rw [← (Ran_gD er (f := f) (by omega) (by omega) i0 (by omega)).1]; exact h5 i i0 i1, fun h5 i i0 i1 => by show Y.2 2 f ≤ S2.2 11 (i * 6 + f); rw [(Ran_gD er (f := f) (by omega) (by omega) i0 (by omega)).1]; exact h5 i i0 i1⟩
                        refine k_bipush hE dX6_risk_145 rfl ?_
                        refine k_icmp_eq hE 153 dX6_risk_147 (by decide) (by unfold in32; omega) (by unfold in32; omega) (fun c147 => ?_) (fun c147 => ?_)
                        · refine k_iinc hE dX6_risk_153 8 [1, 2, 3, 4, 5, 6, 7, 8, 0, 9] rfl (Nat.le_of_ble_eq_true rfl) (lo' := [(0, .ref (ad 0)), (1, .int (iI f)), (2, .int (iI n)), (3, .int (iI a)), (4, .int (iI b)), (5, .int (iI x)), (6, .int (iI (((2 ^ n.toNat : Nat) : Int)))), (7, .int (iI c)), (8, .int (iI (((j : Int)) + 1))), (9, .int (iI ((k : Int))))]) rfl ?_
                          refine k_goto hE 89 dX6_risk_156 (by decide) ?_
                          refine k_lo [0, 1, 2, 3, 4, 5, 6, 7, 8] (lo' := [(0, .ref (ad 0)), (1, .int (iI f)), (2, .int (iI n)), (3, .int (iI a)), (4, .int (iI b)), (5, .int (iI x)), (6, .int (iI (((2 ^ n.toNat : Nat) : Int)))), (7, .int (iI c)), (8, .int (iI (((j : Int)) + 1)))]) rfl ?_
                          refine ih89 S2 _ (j + 1) (by omega) (by omega) hx2 h10 hO2 hl2 ?_
                          first
                            | (rw [CT_y (P := fun row => ¬ NV Y (Y.1 4) (Y.1 3) (RRb a b row) n f) (k := j) (fun h5 => absurd (hP.mpr h5) (by omega)), ← ec])
                            | (rw [CT_n (P := fun row => ¬ NV Y (Y.1 4) (Y.1 3) (RRb a b row) n f) (k := j) (fun h5 => h5 (hP.mp (by omega))), ← ec])
                        · refine k_iinc hE dX6_risk_150 7 [1, 2, 3, 4, 5, 6, 7, 0, 8, 9] rfl (Nat.le_of_ble_eq_true rfl) (lo' := [(0, .ref (ad 0)), (1, .int (iI f)), (2, .int (iI n)), (3, .int (iI a)), (4, .int (iI b)), (5, .int (iI x)), (6, .int (iI (((2 ^ n.toNat : Nat) : Int)))), (7, .int (iI (c + 1))), (8, .int (iI ((j : Int)))), (9, .int (iI ((k : Int))))]) rfl ?_
                          refine k_iinc hE dX6_risk_153 8 [1, 2, 3, 4, 5, 6, 7, 8, 0, 9] rfl (Nat.le_of_ble_eq_true rfl) (lo' := [(0, .ref (ad 0)), (1, .int (iI f)), (2, .int (iI n)), (3, .int (iI a)), (4, .int (iI b)), (5, .int (iI x)), (6, .int (iI (((2 ^ n.toNat : Nat) : Int)))), (7, .int (iI (c + 1))), (8, .int (iI (((j : Int)) + 1))), (9, .int (iI ((k : Int))))]) rfl ?_
                          refine k_goto hE 89 dX6_risk_156 (by decide) ?_
                          refine k_lo [0, 1, 2, 3, 4, 5, 6, 7, 8] (lo' := [(0, .ref (ad 0)), (1, .int (iI f)), (2, .int (iI n)), (3, .int (iI a)), (4, .int (iI b)), (5, .int (iI x)), (6, .int (iI (((2 ^ n.toNat : Nat) : Int)))), (7, .int (iI (c + 1))), (8, .int (iI (((j : Int)) + 1)))]) rfl ?_
                          refine ih89 S2 _ (j + 1) (by omega) (by omega) hx2 h10 hO2 hl2 ?_
                          first
                            | (rw [CT_y (P := fun row => ¬ NV Y (Y.1 4) (Y.1 3) (RRb a b row) n f) (k := j) (fun h5 => absurd (hP.mpr h5) (by omega)), ← ec])
                            | (rw [CT_n (P := fun row => ¬ NV Y (Y.1 4) (Y.1 3) (RRb a b row) n f) (k := j) (fun h5 => h5 (hP.mp (by omega))), ← ec])
                      · refine k_aload_n hE dX6_risk_105 0 rfl rfl ?_
                        refine x_get_X6_days hE fl_X6_23 dX6_risk_106 ?_
                        refine k_iload hE dX6_risk_109 9 rfl ?_
                        refine k_iload hE dX6_risk_111 8 rfl ?_
                        refine k_iload hE dX6_risk_113 9 rfl ?_
                        refine k_ishr hE dX6_risk_115 ?_
                        refine k_iconst hE dX6_risk_116 ?_
                        refine k_iand hE dX6_risk_117 ?_
                        have J127 : ∀ (tt : Nat), (tt = 0) → KW (xw ad ta sa ca D cI cT cS) G H0 m 10 S2 127 [(0, .ref (ad 0)), (1, .int (iI f)), (2, .int (iI n)), (3, .int (iI a)), (4, .int (iI b)), (5, .int (iI x)), (6, .int (iI (((2 ^ n.toNat : Nat) : Int)))), (7, .int (iI c)), (8, .int (iI ((j : Int)))), (9, .int (iI ((k : Int))))] [.int (iI (RRb a b (j : Int) (k : Int))), .int (iI ((k : Int))), .ref (ad 4)] := by
                          intro tt ht
                          refine k_callV hE (c_X0_passDay S2 Y ((k : Int)) (RRb a b (j : Int) (k : Int)) (lev Y (Y.1 4) (Y.1 3) (RRb a b j) k) (Y.1 4) hAS2 hI (by omega) (rr j k) (er.1 k (Nat.le_refl k)).1 (er.1 k (Nat.le_refl k)).2 h10 (by omega) hO2) mf_X0_passDay ml_X6_176 4 rfl rfl rfl rfl ⟨rfl, rfl, Nat.le_of_ble_eq_true rfl, Nat.le_of_ble_eq_true rfl⟩ [] (Nat.le_of_ble_eq_true rfl) dX6_risk_127 rfl (fun rv u hp => ?_)
                          obtain ⟨S3, hv127, hu127, e1_127, e2_127, l1_127, l2_127, o1_127, o2_127, g1_127, g2_127, rg_127, gr_127⟩ := hp
                          refine k_sk (sk' := []) (by rw [hv127]; rfl) ?_
                          refine k_st S3 hu127 ?_
                          refine k_iinc hE dX6_risk_130 9 [1, 2, 3, 4, 5, 6, 7, 8, 9, 0] rfl (Nat.le_of_ble_eq_true rfl) (lo' := [(0, .ref (ad 0)), (1, .int (iI f)), (2, .int (iI n)), (3, .int (iI a)), (4, .int (iI b)), (5, .int (iI x)), (6, .int (iI (((2 ^ n.toNat : Nat) : Int)))), (7, .int (iI c)), (8, .int (iI ((j : Int)))), (9, .int (iI (((k : Int)) + 1)))]) rfl ?_
                          refine k_goto hE 99 dX6_risk_133 (by decide) ?_
                          exact ih99 S3 (k + 1) (by omega) (by omega) (hx2.trans ⟨fun i hi => by rw [e1_127], fun a ha => e2_127 a (by omega)⟩) (by rw [e1_127]; exact h10) (by rw [e2_127 12 (by decide)]; exact hO2) (by rw [l1_127 0 (by omega)]; exact hl2) (Ran_s er l1_127 l2_127 o1_127 o2_127 g1_127 g2_127 rg_127 gr_127 hi0.2)
                        refine k_if_ne hE 125 dX6_risk_118 (by decide) (zand_in _ _) (fun c118 => ?_) (fun c118 => ?_)
                        · refine k_iload hE dX6_risk_125 4 rfl ?_
                          refine k_sk (sk' := [.int (iI (RRb a b (j : Int) (k : Int))), .int (iI (k : Int)), .ref (ad 4)]) (congrArg (fun zz : Int => ([.int (iI zz), .int (iI (k : Int)), .ref (ad 4)] : List Value)) (show b = RRb a b (j : Int) (k : Int) from by unfold RRb; split <;> omega)) ?_
                          exact J127 0 rfl
                        · refine k_iload_n hE dX6_risk_121 3 rfl rfl ?_
                          refine k_goto hE 127 dX6_risk_122 (by decide) ?_
                          refine k_sk (sk' := [.int (iI (RRb a b (j : Int) (k : Int))), .int (iI (k : Int)), .ref (ad 4)]) (congrArg (fun zz : Int => ([.int (iI zz), .int (iI (k : Int)), .ref (ad 4)] : List Value)) (show a = RRb a b (j : Int) (k : Int) from by unfold RRb; split <;> omega)) ?_
                          exact J127 0 rfl
                  exact L99 11 S 0 (by omega) (by omega) hxS hr10 hO hl0 (Ran_0 hl0 hi3)
            exact L89 66 S1 0 0 (by omega) (by omega) hxB (by rw [e1_83]; exact uv_s _ _ _) e3_83 (by rw [e2_83 9 (by decide)]; exact ur_s _ _ _ _) rfl
          · refine k_ldc2 hE cl_X6_167 dX6_risk_53 ?_
            exact k_lret hR dX6_risk_56 rfl ⟨_, st, rfl, rfl, Or.inl ⟨by omega, rfl⟩, XS.refl st⟩
      · refine k_ldc2 hE cl_X6_167 dX6_risk_28 ?_
        exact k_lret hR dX6_risk_31 rfl ⟨_, st, rfl, rfl, Or.inl ⟨by omega, rfl⟩, XS.refl st⟩
