set_option maxHeartbeats 4000000 in
set_option maxRecDepth 100000 in
theorem c_X6_thief {ad : Nat → Nat} {ta sa ca : Int → Nat} {D : va_G} {cI cT cS : ClassId} (st : Sg) (Y : Sg) (d : Int) (v : Int) (hA : Ag st Y) (hI : Inv Y) (i_d : -2147483648 ≤ d ∧ d < 2147483648) (i_v : -2147483648 ≤ v ∧ v < 2147483648) : MC (xw ad ta sa ca D cI cT cS) yX6_thief cX6_thief 6 (some .int) { frames := 6, cells := 0, slots := 0, locals := 145 } [.ref (ad 0), .int (iI d), .int (iI v)] st (fun rv u => ∃ z : Int, ∃ S : Sg, rv = some (.int (iI (z))) ∧ u = S ∧ (TH Y d v z) ∧ (XS st S)) := by
  refine MC_intro RX6 (by decide) rfl (Nat.le_of_ble_eq_true rfl) ?_
  intro G H0 m hE hR
  refine k_lo [0, 1, 2] (lo' := [(0, .ref (ad 0)), (1, .int (iI d)), (2, .int (iI v))]) rfl ?_
  obtain ⟨hi0, hi1, hi2, hi3, hi4, hi5, hi6, hi7, hit, hir, him, hin⟩ := id hI
  refine k_iload_n hE dX6_thief_0 1 rfl rfl ?_
  refine k_callS hE (c_X6_noDay st d (by omega)) ms_X6_noDay ml_X6_118 rfl ⟨rfl, rfl, Nat.le_of_ble_eq_true rfl, Nat.le_of_ble_eq_true rfl⟩ [] (Nat.le_of_ble_eq_true rfl) dX6_thief_1 rfl (fun rv u hp => ?_)
  obtain ⟨z1, hv1, hu1, hz_1⟩ := hp
  refine k_sk (sk' := [.int (iI z1)]) (by rw [hv1]; rfl) ?_
  refine k_st st hu1 ?_
  refine k_if_eq hE 9 dX6_thief_4 (by decide) (by unfold in32; omega) (fun c4 => ?_) (fun c4 => ?_)
  · refine k_iconst hE dX6_thief_9 ?_
    refine k_iload_n hE dX6_thief_10 2 rfl rfl ?_
    refine k_bipush hE dX6_thief_11 rfl ?_
    refine k_callS hE (c_X6_isNot st 1 v 9 (by omega) (by omega) (by omega)) ms_X6_isNot ml_X6_104 rfl ⟨rfl, rfl, Nat.le_of_ble_eq_true rfl, Nat.le_of_ble_eq_true rfl⟩ [] (Nat.le_of_ble_eq_true rfl) dX6_thief_13 rfl (fun rv u hp => ?_)
    obtain ⟨z2, hv13, hu13, hz_13⟩ := hp
    refine k_sk (sk' := [.int (iI z2)]) (by rw [hv13]; rfl) ?_
    refine k_st st hu13 ?_
    refine k_if_eq hE 22 dX6_thief_16 (by decide) (by unfold in32; omega) (fun c16 => ?_) (fun c16 => ?_)
    · refine k_aload_n hE dX6_thief_22 0 rfl rfl ?_
      refine k_callV hE (c_X6_noYard st Y hA hI) mf_X6_noYard ml_X6_108 0 rfl rfl rfl rfl ⟨rfl, rfl, Nat.le_of_ble_eq_true rfl, Nat.le_of_ble_eq_true rfl⟩ [] (Nat.le_of_ble_eq_true rfl) dX6_thief_23 rfl (fun rv u hp => ?_)
      obtain ⟨z3, hv23, hu23, hz_23⟩ := hp
      refine k_sk (sk' := [.int (iI z3)]) (by rw [hv23]; rfl) ?_
      refine k_st st hu23 ?_
      refine k_if_eq hE 32 dX6_thief_26 (by decide) (by unfold in32; omega) (fun c26 => ?_) (fun c26 => ?_)
      · have w1 : ¬ (d < 0 ∨ 9 < d) := by omega
        have w2 : ¬ (v < 1 ∨ 9 < v) := by omega
        have w3 : Y.1 0 ≠ 0 := by omega
        refine k_aload_n hE dX6_thief_32 0 rfl rfl ?_
        refine k_iload_n hE dX6_thief_33 1 rfl rfl ?_
        refine k_iconst hE dX6_thief_34 ?_
        refine k_iadd hE dX6_thief_35 ?_
        refine k_callV hE (c_X6_passAsTold st Y (d + 1) hA hI (by omega)) mf_X6_passAsTold ml_X6_134 0 rfl rfl rfl rfl ⟨rfl, rfl, Nat.le_of_ble_eq_true rfl, Nat.le_of_ble_eq_true rfl⟩ [] (Nat.le_of_ble_eq_true rfl) dX6_thief_36 rfl (fun rv u hp => ?_)
        obtain ⟨S1, hv36, hu36, hx_36, hr_36, hO_36, er_36⟩ := hp
        refine k_sk (sk' := []) (by rw [hv36]; rfl) ?_
        refine k_st S1 hu36 ?_
        have hB : Ag S1 Y := hx_36.ag hA
        refine k_aload_n hE dX6_thief_39 0 rfl rfl ?_
        refine x_get_X6_days hE fl_X6_23 dX6_thief_40 ?_
        refine x_get_X0_levels hE fl_X6_142 dX6_thief_43 ?_
        refine k_iload_n hE dX6_thief_46 1 rfl rfl ?_
        refine k_iconst hE dX6_thief_47 ?_
        refine k_iadd hE dX6_thief_48 ?_
        refine x_ld_levels hE (z := S1.2 9 (d + 1)) (by omega) (by omega) rfl dX6_thief_49 ?_
        have hlv := Ran_lev er_36 (k := d + 1) (by omega) (by omega)
        refine k_sk (sk' := [.int (iI (lev Y (Y.1 4) (Y.1 3) (Y.2 4) (d + 1).toNat))]) (congrArg (fun zz : Int => ([.int (iI zz)] : List Value)) (show (S1.2 9 (d + 1)) = (lev Y (Y.1 4) (Y.1 3) (Y.2 4) (d + 1).toNat) from hlv.1)) ?_
        refine k_istore_n hE dX6_thief_50 [1, 2, 3, 0] rfl (Nat.le_of_ble_eq_true rfl) (lo' := [(0, .ref (ad 0)), (1, .int (iI d)), (2, .int (iI v)), (3, .int (iI (lev Y (Y.1 4) (Y.1 3) (Y.2 4) (d + 1).toNat)))]) rfl ?_
        refine k_iconst hE dX6_thief_51 ?_
        refine k_istore hE dX6_thief_52 [1, 2, 3, 4, 0] (Nat.le_of_ble_eq_true rfl) (lo' := [(0, .ref (ad 0)), (1, .int (iI d)), (2, .int (iI v)), (3, .int (iI (lev Y (Y.1 4) (Y.1 3) (Y.2 4) (d + 1).toNat))), (4, .int (iI 0))]) rfl ?_
        refine k_iconst hE dX6_thief_54 ?_
        refine k_istore hE dX6_thief_55 [1, 2, 3, 4, 5, 0] (Nat.le_of_ble_eq_true rfl) (lo' := [(0, .ref (ad 0)), (1, .int (iI d)), (2, .int (iI v)), (3, .int (iI (lev Y (Y.1 4) (Y.1 3) (Y.2 4) (d + 1).toNat))), (4, .int (iI 0)), (5, .int (iI 0))]) rfl ?_
        have L57 : ∀ (fu57 : Nat) (S : Sg) (s : Int) (f : Nat), ((f : Int) ≤ Y.1 0) → (Y.1 0 - f < fu57) → (XS st S) → (S.1 10 = Y.1 4) → (OR Y (Y.1 4) (S.2 12) (Y.1 0).toNat) → (∀ j : Int, 0 ≤ j → j ≤ d → S.2 9 j = lev Y (Y.1 4) (Y.1 3) (Y.2 4) j.toNat ∧ 0 ≤ lev Y (Y.1 4) (Y.1 3) (Y.2 4) j.toNat ∧ lev Y (Y.1 4) (Y.1 3) (Y.2 4) j.toNat ≤ Y.1 1) → (s = TFs (THp Y d v) f) → KW (xw ad ta sa ca D cI cT cS) G H0 m 6 S 57 [(0, .ref (ad 0)), (1, .int (iI d)), (2, .int (iI v)), (3, .int (iI (lev Y (Y.1 4) (Y.1 3) (Y.2 4) (d + 1).toNat))), (4, .int (iI s)), (5, .int (iI ((f : Int))))] [] := by
          intro fu57
          induction fu57 with
          | zero =>
            intro S s f q0 q1 hxS hr10 hO hv es
            omega
          | succ fu57 ih57 =>
            intro S s f q0 q1 hxS hr10 hO hv es
            have hAS := hxS.ag hA
            refine k_iload hE dX6_thief_57 5 rfl ?_
            refine k_aload_n hE dX6_thief_59 0 rfl rfl ?_
            refine x_get_X6_yard hE fl_X6_12 dX6_thief_60 ?_
            refine x_get_X5_tapCount hE (z := Y.1 0) (hAS.1 0 (by decide)) fl_X6_76 dX6_thief_63 ?_
            refine k_icmp_ge hE 120 dX6_thief_66 (by decide) (by unfold in32; omega) (by unfold in32; omega) (fun c66 => ?_) (fun c66 => ?_)
            · refine k_iload hE dX6_thief_120 4 rfl ?_
              refine k_iret hR dX6_thief_122 rfl ?_
              have ef : (Y.1 0).toNat = f := by omega
              exact ⟨_, S, rfl, rfl, Or.inr (Or.inr (Or.inr ⟨w1, w2, w3, by rw [ef]; exact es⟩)), hxS⟩
            · refine k_aload_n hE dX6_thief_69 0 rfl rfl ?_
              refine x_get_X6_yard hE fl_X6_12 dX6_thief_70 ?_
              refine k_iload hE dX6_thief_73 5 rfl ?_
              refine k_iload_n hE dX6_thief_75 3 rfl rfl ?_
              have hg := GV_rng hI (f := (f : Int)) (by omega) (by omega) (lev Y (Y.1 4) (Y.1 3) (Y.2 4) (d + 1).toNat)
              refine k_callV hE (c_X5_givesAt S Y ((f : Int)) (lev Y (Y.1 4) (Y.1 3) (Y.2 4) (d + 1).toNat) hAS hI (by omega) (by omega) (by omega)) mf_X5_givesAt ml_X6_189 1 rfl rfl rfl rfl ⟨rfl, rfl, Nat.le_of_ble_eq_true rfl, Nat.le_of_ble_eq_true rfl⟩ [] (Nat.le_of_ble_eq_true rfl) dX6_thief_76 rfl (fun rv u hp => ?_)
              obtain ⟨hv76, hu76⟩ := hp
              refine k_sk (sk' := [.int (iI (GV Y ((f : Int)) (lev Y (Y.1 4) (Y.1 3) (Y.2 4) (d + 1).toNat)))]) (by rw [hv76]; rfl) ?_
              refine k_st S hu76 ?_
              refine k_iload_n hE dX6_thief_79 2 rfl rfl ?_
              refine k_icmp_lt hE 114 dX6_thief_80 (by decide) (by unfold in32; omega) (by unfold in32; omega) (fun c80 => ?_) (fun c80 => ?_)
              · refine k_iinc hE dX6_thief_114 5 [1, 2, 3, 4, 5, 0] rfl (Nat.le_of_ble_eq_true rfl) (lo' := [(0, .ref (ad 0)), (1, .int (iI d)), (2, .int (iI v)), (3, .int (iI (lev Y (Y.1 4) (Y.1 3) (Y.2 4) (d + 1).toNat))), (4, .int (iI s)), (5, .int (iI (((f : Int)) + 1)))]) rfl ?_
                refine k_goto hE 57 dX6_thief_117 (by decide) ?_
                first
                  | (refine ih57 S _ (f + 1) (by omega) (by omega) hxS hr10 hO hv ?_
                     rw [TFs_n (P := THp Y d v) (k := f) (fun h5 => by have h6 := h5.1; omega)]; exact es)
                  | (refine ih57 S3 _ (f + 1) (by omega) (by omega) hx3 (by rw [k1_99, eS2]; exact hr10) (by rw [k2_99 12 (by decide), eS2]; exact hO) (fun j j0 j1 => by rw [k3_99 j (by omega), eS2]; show ur S.2 9 _ _ 9 j = _ ∧ _; rw [ur_o _ _ _ (by omega)]; exact hv j j0 j1) ?_
                     first
                       | (rw [TFs_n (P := THp Y d v) (k := f) (fun h5 => absurd (hP.mpr h5.2) (by omega))]; exact es)
                       | (rw [TFs_y (P := THp Y d v) (k := f) ⟨by omega, hP.mp (by omega)⟩, ← es]))
              · refine k_aload_n hE dX6_thief_83 0 rfl rfl ?_
                refine x_get_X6_days hE fl_X6_23 dX6_thief_84 ?_
                refine x_get_X0_levels hE fl_X6_142 dX6_thief_87 ?_
                refine k_iload_n hE dX6_thief_90 1 rfl rfl ?_
                refine k_iconst hE dX6_thief_91 ?_
                refine k_iadd hE dX6_thief_92 ?_
                refine k_iload_n hE dX6_thief_93 3 rfl rfl ?_
                refine k_iload_n hE dX6_thief_94 2 rfl rfl ?_
                refine k_isub hE dX6_thief_95 ?_
                refine x_st_levels hE (by omega) (by omega) dX6_thief_96 ?_
                refine k_st ((S.1, ur S.2 9 (d + 1) ((lev Y (Y.1 4) (Y.1 3) (Y.2 4) (d + 1).toNat) - v))) rfl ?_
                refine k_nm (fun S2 eS2 => ?_)
                have hx2 : XS st S2 := by rw [eS2]; exact hxS.trans ⟨fun i hi => rfl, fun a ha => by show ur S.2 9 _ _ a = _; rw [ur_n _ _ _ (by omega)]⟩
                have hB2 := hx2.ag hA
                have hL2 : ∀ j : Int, 0 ≤ j → j ≤ d + 1 → S2.2 9 j = LTh Y d v j := fun j j0 j1 => by
                  rw [eS2]
                  show ur S.2 9 _ _ 9 j = _
                  unfold LTh
                  rw [ur_c]
                  by_cases e : j = d + 1
                  · rw [if_pos e, if_pos e]
                  · rw [if_neg e, if_neg e]; exact (hv j j0 (by omega)).1
                refine k_aload_n hE dX6_thief_97 0 rfl rfl ?_
                refine k_iload_n hE dX6_thief_98 1 rfl rfl ?_
                refine k_callV hE (c_X6_marksHoldBehind S2 Y d (Y.1 4) hB2 hI (by omega) (by rw [eS2]; exact hr10) (by omega) (by rw [eS2]; exact hO) (fun j j0 j1 => by rw [hL2 j j0 j1]; unfold LTh; by_cases e : j = d + 1; (rw [if_pos e]; omega); rw [if_neg e]; exact (hv j j0 (by omega)).2)) mf_X6_marksHoldBehind ml_X6_186 0 rfl rfl rfl rfl ⟨rfl, rfl, Nat.le_of_ble_eq_true rfl, Nat.le_of_ble_eq_true rfl⟩ [] (Nat.le_of_ble_eq_true rfl) dX6_thief_99 rfl (fun rv u hp => ?_)
                obtain ⟨zz, S3, hv99, hu99, hz_99, k1_99, k2_99, k3_99⟩ := hp
                refine k_sk (sk' := [.int (iI zz)]) (by rw [hv99]; rfl) ?_
                refine k_st S3 hu99 ?_
                have hx3 : XS st S3 := hx2.trans ⟨fun i hi => by rw [k1_99], fun a ha => k2_99 a (by omega)⟩
                have hP : zz = 1 ↔ MH Y (LVf Y (Y.1 4) (Y.2 4) d (LTh Y d v)) := by
                  have hc := MH_cong (Y := Y) (LVf_cong (Y := Y) (q := Y.1 4) (rn := Y.2 4) (d := d) hL2 (by omega))
                  rcases hz_99 with h5 | h5
                  · exact ⟨fun _ => hc.mp h5.2, fun _ => h5.1⟩
                  · exact ⟨fun h6 => by omega, fun h6 => absurd (hc.mpr h6) h5.2⟩
                refine k_if_eq hE 114 dX6_thief_102 (by decide) (by unfold in32; omega) (fun c102 => ?_) (fun c102 => ?_)
                · refine k_iinc hE dX6_thief_114 5 [1, 2, 3, 4, 5, 0] rfl (Nat.le_of_ble_eq_true rfl) (lo' := [(0, .ref (ad 0)), (1, .int (iI d)), (2, .int (iI v)), (3, .int (iI (lev Y (Y.1 4) (Y.1 3) (Y.2 4) (d + 1).toNat))), (4, .int (iI s)), (5, .int (iI (((f : Int)) + 1)))]) rfl ?_
                  refine k_goto hE 57 dX6_thief_117 (by decide) ?_
                  first
                    | (refine ih57 S _ (f + 1) (by omega) (by omega) hxS hr10 hO hv ?_
                       rw [TFs_n (P := THp Y d v) (k := f) (fun h5 => by have h6 := h5.1; omega)]; exact es)
                    | (refine ih57 S3 _ (f + 1) (by omega) (by omega) hx3 (by rw [k1_99, eS2]; exact hr10) (by rw [k2_99 12 (by decide), eS2]; exact hO) (fun j j0 j1 => by rw [k3_99 j (by omega), eS2]; show ur S.2 9 _ _ 9 j = _ ∧ _; rw [ur_o _ _ _ (by omega)]; exact hv j j0 j1) ?_
                       first
                         | (rw [TFs_n (P := THp Y d v) (k := f) (fun h5 => absurd (hP.mpr h5.2) (by omega))]; exact es)
                         | (rw [TFs_y (P := THp Y d v) (k := f) ⟨by omega, hP.mp (by omega)⟩, ← es]))
                · refine k_iload hE dX6_thief_105 4 rfl ?_
                  refine k_iconst hE dX6_thief_107 ?_
                  refine k_iload hE dX6_thief_108 5 rfl ?_
                  refine k_ishl hE dX6_thief_110 ?_
                  refine k_ior hE dX6_thief_111 ?_
                  refine k_istore hE dX6_thief_112 [1, 2, 3, 4, 0, 5] (Nat.le_of_ble_eq_true rfl) (lo' := [(0, .ref (ad 0)), (1, .int (iI d)), (2, .int (iI v)), (3, .int (iI (lev Y (Y.1 4) (Y.1 3) (Y.2 4) (d + 1).toNat))), (4, .int (iI (zor s (zshl 1 ((f : Int)))))), (5, .int (iI ((f : Int))))]) rfl ?_
                  refine k_iinc hE dX6_thief_114 5 [1, 2, 3, 4, 5, 0] rfl (Nat.le_of_ble_eq_true rfl) (lo' := [(0, .ref (ad 0)), (1, .int (iI d)), (2, .int (iI v)), (3, .int (iI (lev Y (Y.1 4) (Y.1 3) (Y.2 4) (d + 1).toNat))), (4, .int (iI (zor s (zshl 1 ((f : Int)))))), (5, .int (iI (((f : Int)) + 1)))]) rfl ?_
                  refine k_goto hE 57 dX6_thief_117 (by decide) ?_
                  first
                    | (refine ih57 S _ (f + 1) (by omega) (by omega) hxS hr10 hO hv ?_
                       rw [TFs_n (P := THp Y d v) (k := f) (fun h5 => by have h6 := h5.1; omega)]; exact es)
                    | (refine ih57 S3 _ (f + 1) (by omega) (by omega) hx3 (by rw [k1_99, eS2]; exact hr10) (by rw [k2_99 12 (by decide), eS2]; exact hO) (fun j j0 j1 => by rw [k3_99 j (by omega), eS2]; show ur S.2 9 _ _ 9 j = _ ∧ _; rw [ur_o _ _ _ (by omega)]; exact hv j j0 j1) ?_
                       first
                         | (rw [TFs_n (P := THp Y d v) (k := f) (fun h5 => absurd (hP.mpr h5.2) (by omega))]; exact es)
                         | (rw [TFs_y (P := THp Y d v) (k := f) ⟨by omega, hP.mp (by omega)⟩, ← es]))
        exact L57 7 S1 0 0 (by omega) (by omega) hx_36 hr_36 hO_36 (fun j j0 j1 => Ran_lev er_36 j0 (by omega)) rfl
      · refine k_bipush hE dX6_thief_29 rfl ?_
        exact k_iret hR dX6_thief_31 rfl ⟨_, st, rfl, rfl, Or.inr (Or.inr (Or.inl ⟨by omega, by omega, by omega, rfl⟩)), XS.refl st⟩
    · refine k_bipush hE dX6_thief_19 rfl ?_
      exact k_iret hR dX6_thief_21 rfl ⟨_, st, rfl, rfl, Or.inr (Or.inl ⟨by omega, by omega, rfl⟩), XS.refl st⟩
  · refine k_iconst hE dX6_thief_7 ?_
    exact k_iret hR dX6_thief_8 rfl ⟨_, st, rfl, rfl, Or.inl ⟨by omega, rfl⟩, XS.refl st⟩

set_option maxHeartbeats 4000000 in
set_option maxRecDepth 100000 in
theorem c_X6_dryRows_s {ad : Nat → Nat} {ta sa ca : Int → Nat} {D : va_G} {cI cT cS : ClassId} (k : Nat) (st : Sg) (Y : Sg) (f : Int) (n : Int) (a : Int) (b : Int) (d : Int) (w : Int) (q : Int) (hA : Ag st Y) (hI : Inv Y) (hn : n ≤ 6) (hd : 0 ≤ d) (hkk : n - d = (k : Int)) (f0 : 0 ≤ f) (f1 : f < Y.1 0) (ha : 0 ≤ a ∧ a ≤ 99) (hb : 0 ≤ b ∧ b ≤ 99) (hl : st.2 9 d = w) (hw : 0 ≤ w ∧ w ≤ Y.1 1) (hq : st.1 10 = q) (hq3 : 0 ≤ q ∧ q ≤ 3) (hO : OR Y q (st.2 12) (Y.1 0).toNat) (ihk : ∀ j : Nat, k = j + 1 → ∀ (st : Sg) (Y : Sg) (f : Int) (n : Int) (a : Int) (b : Int) (d : Int) (w : Int) (q : Int) (hA : Ag st Y) (hI : Inv Y) (hn : n ≤ 6) (hd : 0 ≤ d) (hkk : n - d = (j : Int)) (f0 : 0 ≤ f) (f1 : f < Y.1 0) (ha : 0 ≤ a ∧ a ≤ 99) (hb : 0 ≤ b ∧ b ≤ 99) (hl : st.2 9 d = w) (hw : 0 ≤ w ∧ w ≤ Y.1 1) (hq : st.1 10 = q) (hq3 : 0 ≤ q ∧ q ≤ 3) (hO : OR Y q (st.2 12) (Y.1 0).toNat), MC (xw ad ta sa ca D cI cT cS) yX6_dryRows cX6_dryRows 8 (some .int) { frames := j + 4, cells := 0, slots := 0, locals := 27 * j + 101 } [.ref (ad 4), .int (iI f), .int (iI n), .int (iI a), .int (iI b), .int (iI d)] st (fun rv u => ∃ S : Sg, rv = some (.int (iI (DRc Y q f a b j w))) ∧ u = S ∧ (S.1 = st.1) ∧ (∀ i, (i < 9 ∨ 11 < i) → S.2 i = st.2 i) ∧ (∀ j : Int, j ≤ d → S.2 9 j = st.2 9 j))) : MC (xw ad ta sa ca D cI cT cS) yX6_dryRows cX6_dryRows 8 (some .int) { frames := k + 4, cells := 0, slots := 0, locals := 27 * k + 101 } [.ref (ad 4), .int (iI f), .int (iI n), .int (iI a), .int (iI b), .int (iI d)] st (fun rv u => ∃ S : Sg, rv = some (.int (iI (DRc Y q f a b k w))) ∧ u = S ∧ (S.1 = st.1) ∧ (∀ i, (i < 9 ∨ 11 < i) → S.2 i = st.2 i) ∧ (∀ j : Int, j ≤ d → S.2 9 j = st.2 9 j)) := by
  refine MC_intro RX6 (by decide) rfl (Nat.le_of_ble_eq_true rfl) ?_
  intro G H0 m hE hR
  refine k_lo [0, 1, 2, 3, 4, 5] (lo' := [(0, .ref (ad 4)), (1, .int (iI f)), (2, .int (iI n)), (3, .int (iI a)), (4, .int (iI b)), (5, .int (iI d))]) rfl ?_
  obtain ⟨hi0, hi1, hi2, hi3, hi4, hi5, hi6, hi7, hit, hir, him, hin⟩ := id hI
  refine k_iload hE dX6_dryRows_0 5 rfl ?_
  refine k_iload_n hE dX6_dryRows_2 2 rfl rfl ?_
  refine k_icmp_lt hE 8 dX6_dryRows_3 (by decide) (by unfold in32; omega) (by unfold in32; omega) (fun c3 => ?_) (fun c3 => ?_)
  · obtain ⟨j, rfl⟩ : ∃ j : Nat, k = j + 1 := ⟨k - 1, by omega⟩
    refine k_iconst hE dX6_dryRows_8 ?_
    refine k_istore hE dX6_dryRows_9 [1, 2, 3, 4, 5, 6, 0] (Nat.le_of_ble_eq_true rfl) (lo' := [(0, .ref (ad 4)), (1, .int (iI f)), (2, .int (iI n)), (3, .int (iI a)), (4, .int (iI b)), (5, .int (iI d)), (6, .int (iI 0))]) rfl ?_
    refine k_iconst hE dX6_dryRows_11 ?_
    refine k_istore hE dX6_dryRows_12 [1, 2, 3, 4, 5, 6, 7, 0] (Nat.le_of_ble_eq_true rfl) (lo' := [(0, .ref (ad 4)), (1, .int (iI f)), (2, .int (iI n)), (3, .int (iI a)), (4, .int (iI b)), (5, .int (iI d)), (6, .int (iI 0)), (7, .int (iI 0))]) rfl ?_
    have L14 : ∀ (fu14 : Nat) (S : Sg) (c : Int) (s : Nat), (s ≤ 2) → (2 < fu14 + s) → (S.1 = st.1) → (∀ i, (i < 9 ∨ 11 < i) → S.2 i = st.2 i) → (∀ t : Int, t ≤ d → S.2 9 t = st.2 9 t) → (c = SM (fun s => DRt Y q f j (DRc Y q f a b j) w (RSb a b s)) s) → KW (xw ad ta sa ca D cI cT cS) G H0 m 8 S 14 [(0, .ref (ad 4)), (1, .int (iI f)), (2, .int (iI n)), (3, .int (iI a)), (4, .int (iI b)), (5, .int (iI d)), (6, .int (iI c)), (7, .int (iI ((s : Int))))] [] := by
      intro fu14
      induction fu14 with
      | zero =>
        intro S c s q0 q1 e1 e2 e3 ec
        omega
      | succ fu14 ih14 =>
        intro S c s q0 q1 e1 e2 e3 ec
        have hAS : Ag S Y := ⟨fun i hi => by rw [e1]; exact hA.1 i hi, fun i hi => by rw [e2 i (by omega)]; exact hA.2 i hi⟩
        refine k_iload hE dX6_dryRows_14 7 rfl ?_
        refine k_iconst hE dX6_dryRows_16 ?_
        refine k_icmp_ge hE 82 dX6_dryRows_17 (by decide) (by unfold in32; omega) (by unfold in32; omega) (fun c17 => ?_) (fun c17 => ?_)
        · refine k_iload hE dX6_dryRows_82 6 rfl ?_
          refine k_iret hR dX6_dryRows_84 rfl ?_
          have es : s = 2 := by omega
          subst es
          exact ⟨S, ret_i (by rw [DRc_s]; exact ec), rfl, e1, e2, e3⟩
        · refine k_aload_n hE dX6_dryRows_20 0 rfl rfl ?_
          refine k_iload hE dX6_dryRows_21 5 rfl ?_
          refine k_iload hE dX6_dryRows_23 7 rfl ?_
          have J34 : ∀ (rn : Int), (rn = RSb a b (s : Int)) → KW (xw ad ta sa ca D cI cT cS) G H0 m 8 S 34 [(0, .ref (ad 4)), (1, .int (iI f)), (2, .int (iI n)), (3, .int (iI a)), (4, .int (iI b)), (5, .int (iI d)), (6, .int (iI c)), (7, .int (iI ((s : Int))))] [.int (iI rn), .int (iI d), .ref (ad 4)] := by
            intro rn hrn
            refine k_callV hE (c_X0_passDay S Y d rn w q hAS hI (by omega) (by rw [hrn]; unfold RSb; split <;> omega) ((e3 d (by omega)).trans hl) hw (by rw [e1]; exact hq) (by omega) (by rw [e2 12 (by decide)]; exact hO)) mf_X0_passDay ml_X6_183 4 rfl rfl rfl rfl ⟨rfl, rfl, (by first | omega | (dsimp only; omega)), (by first | omega | (dsimp only; omega))⟩ [] (Nat.le_of_ble_eq_true rfl) dX6_dryRows_34 rfl (fun rv u hp => ?_)
            obtain ⟨S3, hv34, hu34, e1_34, e2_34, l1_34, l2_34, o1_34, o2_34, g1_34, g2_34, rg_34, gr_34⟩ := hp
            refine k_sk (sk' := []) (by rw [hv34]; rfl) ?_
            refine k_st S3 hu34 ?_
            have hAS3 : Ag S3 Y := ⟨fun i hi => by rw [e1_34]; exact hAS.1 i hi, fun i hi => by rw [e2_34 i (by omega)]; exact hAS.2 i hi⟩
            have g2f := g2_34 f (by omega) (by omega)
            have grf := gr_34 f (by omega) (by omega)
            refine k_iload hE dX6_dryRows_37 6 rfl ?_
            refine k_aload_n hE dX6_dryRows_39 0 rfl rfl ?_
            refine k_iload_n hE dX6_dryRows_40 1 rfl rfl ?_
            refine k_iload hE dX6_dryRows_41 5 rfl ?_
            refine k_callV hE (c_X0_isDry S3 Y f d hAS3 hI (by omega) (by omega) (by omega) (by rw [g2f]; omega)) mf_X0_isDry ml_X6_235 4 rfl rfl rfl rfl ⟨rfl, rfl, (by first | omega | (dsimp only; omega)), (by first | omega | (dsimp only; omega))⟩ [.int (iI c)] (Nat.le_of_ble_eq_true rfl) dX6_dryRows_43 rfl (fun rv u hp => ?_)
            obtain ⟨zz, hv43, hu43, hz_43⟩ := hp
            refine k_sk (sk' := [.int (iI zz), .int (iI c)]) (by rw [hv43]; rfl) ?_
            refine k_st S3 hu43 ?_
            refine k_if_eq hE 60 dX6_dryRows_46 (by decide) (by unfold in32; omega) (fun c46 => ?_) (fun c46 => ?_)
            · have dt : DRt Y q f j (DRc Y q f a b j) w (RSb a b (s : Int)) = DRc Y q f a b j (dW Y q w rn) := by unfold DRt; rw [← hrn, if_neg (by omega)]
              refine k_aload_n hE dX6_dryRows_60 0 rfl rfl ?_
              refine k_iload_n hE dX6_dryRows_61 1 rfl rfl ?_
              refine k_iload_n hE dX6_dryRows_62 2 rfl rfl ?_
              refine k_iload_n hE dX6_dryRows_63 3 rfl rfl ?_
              refine k_iload hE dX6_dryRows_64 4 rfl ?_
              refine k_iload hE dX6_dryRows_66 5 rfl ?_
              refine k_iconst hE dX6_dryRows_68 ?_
              refine k_iadd hE dX6_dryRows_69 ?_
              refine k_callS hE (ihk j rfl S3 Y f n a b (d + 1) (dW Y q w rn) q hAS3 hI (by omega) (by omega) (by omega) (by omega) (by omega) (by omega) (by omega) l2_34 rg_34 (by rw [e1_34, e1]; exact hq) (by omega) (by rw [e2_34 12 (by decide), e2 12 (by decide)]; exact hO)) ms_X6_dryRows ml_X6_176 rfl ⟨rfl, rfl, (by first | omega | (dsimp only; omega)), (by first | omega | (dsimp only; omega))⟩ [.int (iI c)] (Nat.le_of_ble_eq_true rfl) dX6_dryRows_70 rfl (fun rv u hp => ?_)
              obtain ⟨S5, hv70, hu70, e1_70, e2_70, e3_70⟩ := hp
              refine k_sk (sk' := [.int (iI (DRc Y q f a b j (dW Y q w rn))), .int (iI c)]) (by rw [hv70]; rfl) ?_
              refine k_st S5 hu70 ?_
              refine k_iadd hE dX6_dryRows_73 ?_
              refine k_istore hE dX6_dryRows_74 [1, 2, 3, 4, 5, 6, 0, 7] (Nat.le_of_ble_eq_true rfl) (lo' := [(0, .ref (ad 4)), (1, .int (iI f)), (2, .int (iI n)), (3, .int (iI a)), (4, .int (iI b)), (5, .int (iI d)), (6, .int (iI (c + (DRc Y q f a b j (dW Y q w rn))))), (7, .int (iI ((s : Int))))]) rfl ?_
              refine k_iinc hE dX6_dryRows_76 7 [1, 2, 3, 4, 5, 6, 7, 0] rfl (Nat.le_of_ble_eq_true rfl) (lo' := [(0, .ref (ad 4)), (1, .int (iI f)), (2, .int (iI n)), (3, .int (iI a)), (4, .int (iI b)), (5, .int (iI d)), (6, .int (iI (c + (DRc Y q f a b j (dW Y q w rn))))), (7, .int (iI (((s : Int)) + 1)))]) rfl ?_
              refine k_goto hE 14 dX6_dryRows_79 (by decide) ?_
              first
                | exact ih14 S3 _ (s + 1) (by omega) (by omega) (e1_34.trans e1) (fun i hi => (e2_34 i hi).trans (e2 i hi)) (fun t ht => (l1_34 t (by omega)).trans (e3 t ht)) (by rw [SM, ← ec]; exact congrArg (fun z : Int => c + z) dt.symm)
                | exact ih14 S5 _ (s + 1) (by omega) (by omega) (e1_70.trans (e1_34.trans e1)) (fun i hi => (e2_70 i hi).trans ((e2_34 i hi).trans (e2 i hi))) (fun t ht => (e3_70 t (by omega)).trans ((l1_34 t (by omega)).trans (e3 t ht))) (by rw [SM, ← ec]; exact congrArg (fun z : Int => c + z) dt.symm)
            · have dt : DRt Y q f j (DRc Y q f a b j) w (RSb a b (s : Int)) = ((2 ^ j : Nat) : Int) := by unfold DRt; rw [← hrn, if_pos (by omega)]
              refine k_iconst hE dX6_dryRows_49 ?_
              refine k_iload_n hE dX6_dryRows_50 2 rfl rfl ?_
              refine k_iconst hE dX6_dryRows_51 ?_
              refine k_isub hE dX6_dryRows_52 ?_
              refine k_iload hE dX6_dryRows_53 5 rfl ?_
              refine k_isub hE dX6_dryRows_55 ?_
              refine k_ishl hE dX6_dryRows_56 ?_
              refine k_sk (sk' := [.int (iI (((2 ^ j : Nat) : Int))), .int (iI c)]) (congrArg (fun zz : Int => ([.int (iI zz), .int (iI c)] : List Value)) (show (zshl 1 ((n - 1) - d)) = (((2 ^ j : Nat) : Int)) from (by rw [zshl1 (by omega) (by omega), show (n - 1 - d).toNat = j by omega]))) ?_
              refine k_goto hE 73 dX6_dryRows_57 (by decide) ?_
              refine k_iadd hE dX6_dryRows_73 ?_
              refine k_istore hE dX6_dryRows_74 [1, 2, 3, 4, 5, 6, 0, 7] (Nat.le_of_ble_eq_true rfl) (lo' := [(0, .ref (ad 4)), (1, .int (iI f)), (2, .int (iI n)), (3, .int (iI a)), (4, .int (iI b)), (5, .int (iI d)), (6, .int (iI (c + (((2 ^ j : Nat) : Int))))), (7, .int (iI ((s : Int))))]) rfl ?_
              refine k_iinc hE dX6_dryRows_76 7 [1, 2, 3, 4, 5, 6, 7, 0] rfl (Nat.le_of_ble_eq_true rfl) (lo' := [(0, .ref (ad 4)), (1, .int (iI f)), (2, .int (iI n)), (3, .int (iI a)), (4, .int (iI b)), (5, .int (iI d)), (6, .int (iI (c + (((2 ^ j : Nat) : Int))))), (7, .int (iI (((s : Int)) + 1)))]) rfl ?_
              refine k_goto hE 14 dX6_dryRows_79 (by decide) ?_
              first
                | exact ih14 S3 _ (s + 1) (by omega) (by omega) (e1_34.trans e1) (fun i hi => (e2_34 i hi).trans (e2 i hi)) (fun t ht => (l1_34 t (by omega)).trans (e3 t ht)) (by rw [SM, ← ec]; exact congrArg (fun z : Int => c + z) dt.symm)
                | exact ih14 S5 _ (s + 1) (by omega) (by omega) (e1_70.trans (e1_34.trans e1)) (fun i hi => (e2_70 i hi).trans ((e2_34 i hi).trans (e2 i hi))) (fun t ht => (e3_70 t (by omega)).trans ((l1_34 t (by omega)).trans (e3 t ht))) (by rw [SM, ← ec]; exact congrArg (fun z : Int => c + z) dt.symm)
          refine k_if_ne hE 32 dX6_dryRows_25 (by decide) (by unfold in32; omega) (fun c25 => ?_) (fun c25 => ?_)
          · refine k_iload hE dX6_dryRows_32 4 rfl ?_
            first
              | exact J34 _ (by unfold RSb; rw [if_pos (by omega)])
              | exact J34 _ (by unfold RSb; rw [if_neg (by omega)])
          · refine k_iload_n hE dX6_dryRows_28 3 rfl rfl ?_
            refine k_goto hE 34 dX6_dryRows_29 (by decide) ?_
            first
              | exact J34 _ (by unfold RSb; rw [if_pos (by omega)])
              | exact J34 _ (by unfold RSb; rw [if_neg (by omega)])
    exact L14 3 st 0 0 (by omega) (by omega) rfl (fun i _ => rfl) (fun t _ => rfl) rfl
  · refine k_iconst hE dX6_dryRows_6 ?_
    refine k_iret hR dX6_dryRows_7 rfl ?_
    have ek : k = 0 := by omega
    subst ek
    exact ⟨st, rfl, rfl, rfl, fun i _ => rfl, fun t _ => rfl⟩

theorem c_X6_dryRows {ad : Nat → Nat} {ta sa ca : Int → Nat} {D : va_G} {cI cT cS : ClassId} : ∀ (k : Nat) (st : Sg) (Y : Sg) (f : Int) (n : Int) (a : Int) (b : Int) (d : Int) (w : Int) (q : Int) (hA : Ag st Y) (hI : Inv Y) (hn : n ≤ 6) (hd : 0 ≤ d) (hkk : n - d = (k : Int)) (f0 : 0 ≤ f) (f1 : f < Y.1 0) (ha : 0 ≤ a ∧ a ≤ 99) (hb : 0 ≤ b ∧ b ≤ 99) (hl : st.2 9 d = w) (hw : 0 ≤ w ∧ w ≤ Y.1 1) (hq : st.1 10 = q) (hq3 : 0 ≤ q ∧ q ≤ 3) (hO : OR Y q (st.2 12) (Y.1 0).toNat),
    MC (xw ad ta sa ca D cI cT cS) yX6_dryRows cX6_dryRows 8 (some .int) { frames := k + 4, cells := 0, slots := 0, locals := 27 * k + 101 } [.ref (ad 4), .int (iI f), .int (iI n), .int (iI a), .int (iI b), .int (iI d)] st (fun rv u => ∃ S : Sg, rv = some (.int (iI (DRc Y q f a b k w))) ∧ u = S ∧ (S.1 = st.1) ∧ (∀ i, (i < 9 ∨ 11 < i) → S.2 i = st.2 i) ∧ (∀ j : Int, j ≤ d → S.2 9 j = st.2 9 j)) := by
  intro k
  induction k with
  | zero =>
    intro st Y f n a b d w q hA hI hn hd hkk f0 f1 ha hb hl hw hq hq3 hO
    exact c_X6_dryRows_s 0 st Y f n a b d w q hA hI hn hd hkk f0 f1 ha hb hl hw hq hq3 hO (fun j e => absurd e (by omega))
  | succ k ihc =>
    intro st Y f n a b d w q hA hI hn hd hkk f0 f1 ha hb hl hw hq hq3 hO
    refine c_X6_dryRows_s (k + 1) st Y f n a b d w q hA hI hn hd hkk f0 f1 ha hb hl hw hq hq3 hO (fun j e => ?_)
    have e2 : k = j := by omega
    subst e2
    exact ihc

set_option maxHeartbeats 4000000 in
set_option maxRecDepth 100000 in
theorem c_X6_risk {ad : Nat → Nat} {ta sa ca : Int → Nat} {D : va_G} {cI cT cS : ClassId} (st : Sg) (Y : Sg) (f : Int) (n : Int) (a : Int) (b : Int) (x : Int) (hA : Ag st Y) (hI : Inv Y) (i_f : -2147483648 ≤ f ∧ f < 2147483648) (i_n : -2147483648 ≤ n ∧ n < 2147483648) (i_a : -2147483648 ≤ a ∧ a < 2147483648) (i_b : -2147483648 ≤ b ∧ b < 2147483648) (i_x : -2147483648 ≤ x ∧ x < 2147483648) : MC (xw ad ta sa ca D cI cT cS) yX6_risk cX6_risk 6 (some .long) { frames := 11, cells := 0, slots := 0, locals := 290 } [.ref (ad 0), .int (iI f), .int (iI n), .int (iI a), .int (iI b), .int (iI x)] st (fun rv u => ∃ L : Int64, ∃ S : Sg, rv = some (.long (L)) ∧ u = S ∧ (RK Y f n a b x L) ∧ (XS st S)) := by
  refine MC_intro RX6 (by decide) rfl (Nat.le_of_ble_eq_true rfl) ?_
  intro G H0 m hE hR
  refine k_lo [0, 1, 2, 3, 4, 5] (lo' := [(0, .ref (ad 0)), (1, .int (iI f)), (2, .int (iI n)), (3, .int (iI a)), (4, .int (iI b)), (5, .int (iI x))]) rfl ?_
  obtain ⟨hi0, hi1, hi2, hi3, hi4, hi5, hi6, hi7, hit, hir, him, hin⟩ := id hI
  refine k_aload_n hE dX6_risk_0 0 rfl rfl ?_
  refine k_iload_n hE dX6_risk_1 1 rfl rfl ?_
  refine k_callV hE (c_X6_noTap st Y f hA hI (by omega)) mf_X6_noTap ml_X6_79 0 rfl rfl rfl rfl ⟨rfl, rfl, Nat.le_of_ble_eq_true rfl, Nat.le_of_ble_eq_true rfl⟩ [] (Nat.le_of_ble_eq_true rfl) dX6_risk_2 rfl (fun rv u hp => ?_)
  obtain ⟨z1, hv2, hu2, hz_2⟩ := hp
  refine k_sk (sk' := [.int (iI z1)]) (by rw [hv2]; rfl) ?_
  refine k_st st hu2 ?_
  refine k_if_ne hE 28 dX6_risk_5 (by decide) (by unfold in32; omega) (fun c5 => ?_) (fun c5 => ?_)
  · refine k_ldc2 hE cl_X6_167 dX6_risk_28 ?_
    exact k_lret hR dX6_risk_31 rfl ⟨_, st, rfl, rfl, Or.inl ⟨by omega, rfl⟩, XS.refl st⟩
  · refine k_iconst hE dX6_risk_8 ?_
    refine k_iload_n hE dX6_risk_9 2 rfl rfl ?_
    refine k_bipush hE dX6_risk_10 rfl ?_
    refine k_callS hE (c_X6_isNot st 0 n 6 (by omega) (by omega) (by omega)) ms_X6_isNot ml_X6_104 rfl ⟨rfl, rfl, Nat.le_of_ble_eq_true rfl, Nat.le_of_ble_eq_true rfl⟩ [] (Nat.le_of_ble_eq_true rfl) dX6_risk_12 rfl (fun rv u hp => ?_)
    obtain ⟨z2, hv12, hu12, hz_12⟩ := hp
    refine k_sk (sk' := [.int (iI z2)]) (by rw [hv12]; rfl) ?_
    refine k_st st hu12 ?_
    refine k_if_ne hE 28 dX6_risk_15 (by decide) (by unfold in32; omega) (fun c15 => ?_) (fun c15 => ?_)
    · refine k_ldc2 hE cl_X6_167 dX6_risk_28 ?_
      exact k_lret hR dX6_risk_31 rfl ⟨_, st, rfl, rfl, Or.inl ⟨by omega, rfl⟩, XS.refl st⟩
    · refine k_iconst hE dX6_risk_18 ?_
      refine k_iload hE dX6_risk_19 5 rfl ?_
      refine k_iconst hE dX6_risk_21 ?_
      refine k_callS hE (c_X6_isNot st 0 x 1 (by omega) (by omega) (by omega)) ms_X6_isNot ml_X6_104 rfl ⟨rfl, rfl, Nat.le_of_ble_eq_true rfl, Nat.le_of_ble_eq_true rfl⟩ [] (Nat.le_of_ble_eq_true rfl) dX6_risk_22 rfl (fun rv u hp => ?_)
      obtain ⟨z3, hv22, hu22, hz_22⟩ := hp
      refine k_sk (sk' := [.int (iI z3)]) (by rw [hv22]; rfl) ?_
      refine k_st st hu22 ?_
      refine k_if_eq hE 32 dX6_risk_25 (by decide) (by unfold in32; omega) (fun c25 => ?_) (fun c25 => ?_)
      · refine k_iconst hE dX6_risk_32 ?_
        refine k_iload_n hE dX6_risk_33 3 rfl rfl ?_
        refine k_bipush hE dX6_risk_34 rfl ?_
        refine k_callS hE (c_X6_isNot st 0 a 99 (by omega) (by omega) (by omega)) ms_X6_isNot ml_X6_104 rfl ⟨rfl, rfl, Nat.le_of_ble_eq_true rfl, Nat.le_of_ble_eq_true rfl⟩ [] (Nat.le_of_ble_eq_true rfl) dX6_risk_36 rfl (fun rv u hp => ?_)
        obtain ⟨z4, hv36, hu36, hz_36⟩ := hp
        refine k_sk (sk' := [.int (iI z4)]) (by rw [hv36]; rfl) ?_
        refine k_st st hu36 ?_
        refine k_if_ne hE 53 dX6_risk_39 (by decide) (by unfold in32; omega) (fun c39 => ?_) (fun c39 => ?_)
        · refine k_ldc2 hE cl_X6_167 dX6_risk_53 ?_
          exact k_lret hR dX6_risk_56 rfl ⟨_, st, rfl, rfl, Or.inl ⟨by omega, rfl⟩, XS.refl st⟩
        · refine k_iconst hE dX6_risk_42 ?_
          refine k_iload hE dX6_risk_43 4 rfl ?_
          refine k_bipush hE dX6_risk_45 rfl ?_
          refine k_callS hE (c_X6_isNot st 0 b 99 (by omega) (by omega) (by omega)) ms_X6_isNot ml_X6_104 rfl ⟨rfl, rfl, Nat.le_of_ble_eq_true rfl, Nat.le_of_ble_eq_true rfl⟩ [] (Nat.le_of_ble_eq_true rfl) dX6_risk_47 rfl (fun rv u hp => ?_)
          obtain ⟨z5, hv47, hu47, hz_47⟩ := hp
          refine k_sk (sk' := [.int (iI z5)]) (by rw [hv47]; rfl) ?_
          refine k_st st hu47 ?_
          refine k_if_eq hE 57 dX6_risk_50 (by decide) (by unfold in32; omega) (fun c50 => ?_) (fun c50 => ?_)
          · have w1 : ¬ ((f < 0 ∨ Y.1 0 ≤ f) ∨ (n < 0 ∨ 6 < n) ∨ (x < 0 ∨ 1 < x) ∨ (a < 0 ∨ 99 < a) ∨ (b < 0 ∨ 99 < b)) := by omega
            have p6 := pow6 (n := n) (by omega) (by omega)
            have rk := RKc_rng (Y := Y) (f := f) (n := n) (a := a) (b := b) (by omega) (by omega)
            refine k_aload_n hE dX6_risk_57 0 rfl rfl ?_
            refine x_get_X6_days hE fl_X6_23 dX6_risk_58 ?_
            refine k_aload_n hE dX6_risk_61 0 rfl rfl ?_
            refine x_get_X6_yard hE fl_X6_12 dX6_risk_62 ?_
            refine x_get_X5_firstWater hE (z := Y.1 3) (hA.1 3 (by decide)) fl_X6_115 dX6_risk_65 ?_
            refine k_aload_n hE dX6_risk_68 0 rfl rfl ?_
            refine x_get_X6_yard hE fl_X6_12 dX6_risk_69 ?_
            refine x_get_X5_rule hE (z := Y.1 4) (hA.1 4 (by decide)) fl_X6_125 dX6_risk_72 ?_
            refine k_callV hE (c_X0_startWith st Y (Y.1 3) (Y.1 4) hA hI (by omega)) mf_X0_startWith ml_X6_157 4 rfl rfl rfl rfl ⟨rfl, rfl, Nat.le_of_ble_eq_true rfl, Nat.le_of_ble_eq_true rfl⟩ [] (Nat.le_of_ble_eq_true rfl) dX6_risk_75 rfl (fun rv u hp => ?_)
            obtain ⟨S1, hv75, hu75, e1_75, e2_75, e3_75⟩ := hp
            refine k_sk (sk' := []) (by rw [hv75]; rfl) ?_
            refine k_st S1 hu75 ?_
            have hxB : XS st S1 := ⟨fun i hi => by rw [e1_75, uv_n _ _ hi], fun a ha => by rw [e2_75 a (by omega), ur_n _ _ _ (by omega)]⟩
            have hB := hxB.ag hA
            refine k_aload_n hE dX6_risk_78 0 rfl rfl ?_
            refine x_get_X6_days hE fl_X6_23 dX6_risk_79 ?_
            refine k_iload_n hE dX6_risk_82 1 rfl rfl ?_
            refine k_iload_n hE dX6_risk_83 2 rfl rfl ?_
            refine k_iload_n hE dX6_risk_84 3 rfl rfl ?_
            refine k_iload hE dX6_risk_85 4 rfl ?_
            refine k_iconst hE dX6_risk_87 ?_
            refine k_callS hE (c_X6_dryRows n.toNat S1 Y f n a b 0 (Y.1 3) (Y.1 4) hB hI (by omega) (by omega) (by omega) (by omega) (by omega) (by omega) (by omega) (by rw [e2_75 9 (by decide)]; exact ur_s _ _ _ _) hi3 (by rw [e1_75]; exact uv_s _ _ _) (by omega) e3_75) ms_X6_dryRows ml_X6_176 rfl ⟨rfl, rfl, (by first | omega | (dsimp only; omega)), (by first | omega | (dsimp only; omega))⟩ [] (Nat.le_of_ble_eq_true rfl) dX6_risk_88 rfl (fun rv u hp => ?_)
            obtain ⟨S2, hv88, hu88, e1_88, e2_88, e3_88⟩ := hp
            refine k_sk (sk' := [.int (iI (DRc Y (Y.1 4) f a b n.toNat (Y.1 3)))]) (by rw [hv88]; rfl) ?_
            refine k_st S2 hu88 ?_
            have hx2 : XS st S2 := hxB.trans ⟨fun i hi => by rw [e1_88], fun i hi => e2_88 i (by omega)⟩
            refine k_sk (sk' := [.int (iI (RKc Y f n a b))]) (congrArg (fun zz : Int => ([.int (iI zz)] : List Value)) (show (DRc Y (Y.1 4) f a b n.toNat (Y.1 3)) = (RKc Y f n a b) from (DR_RK (by omega) (by omega)))) ?_
            refine k_iconst hE dX6_risk_91 ?_
            refine k_iload_n hE dX6_risk_92 2 rfl rfl ?_
            refine k_ishl hE dX6_risk_93 ?_
            refine k_sk (sk' := [.int (iI (((2 ^ n.toNat : Nat) : Int))), .int (iI (RKc Y f n a b))]) (congrArg (fun zz : Int => ([.int (iI zz), .int (iI (RKc Y f n a b))] : List Value)) (show (zshl 1 n) = (((2 ^ n.toNat : Nat) : Int)) from (zshl1 (by omega) (by omega)))) ?_
            refine k_iload hE dX6_risk_94 5 rfl ?_
            refine k_callS hE (c_X6_inLeastTerms S2 (RKc Y f n a b) (((2 ^ n.toNat : Nat) : Int)) x (by omega) (by omega) (by omega)) ms_X6_inLeastTerms ml_X6_172 rfl ⟨rfl, rfl, Nat.le_of_ble_eq_true rfl, Nat.le_of_ble_eq_true rfl⟩ [] (Nat.le_of_ble_eq_true rfl) dX6_risk_96 rfl (fun rv u hp => ?_)
            obtain ⟨hv96, hu96⟩ := hp
            refine k_sk (sk' := [.long (jI (LT (RKc Y f n a b) (((2 ^ n.toNat : Nat) : Int)) x))]) (by rw [hv96]; rfl) ?_
            refine k_st S2 hu96 ?_
            exact k_lret hR dX6_risk_99 rfl ⟨_, S2, rfl, rfl, Or.inr ⟨w1, rfl⟩, hx2⟩
          · refine k_ldc2 hE cl_X6_167 dX6_risk_53 ?_
            exact k_lret hR dX6_risk_56 rfl ⟨_, st, rfl, rfl, Or.inl ⟨by omega, rfl⟩, XS.refl st⟩
      · refine k_ldc2 hE cl_X6_167 dX6_risk_28 ?_
        exact k_lret hR dX6_risk_31 rfl ⟨_, st, rfl, rfl, Or.inl ⟨by omega, rfl⟩, XS.refl st⟩
