set_option maxHeartbeats 4000000 in
set_option maxRecDepth 100000 in
theorem c_X7_got {ad : Nat → Nat} {D : va_G} {cI cZ : ClassId} (st : Sg) (Y : Sg) (f : Int) (d : Int) (hA : Ag st Y) (hI : Inv Y) (hm : st.1 15 = 0 ∧ st.1 16 = -9) (i_f : -2147483648 ≤ f ∧ f < 2147483648) (i_d : -2147483648 ≤ d ∧ d < 2147483648) : MC (mw ad D cI cZ) yX7_got cX7_got 3 (some .int) { frames := 5, cells := 0, slots := 0, locals := 112 } [.ref (ad 0), .int (iI f), .int (iI d)] st (fun rv u => ∃ S : Sg, rv = some (.int (iI (GT Y f d))) ∧ u = S ∧ (MX st S)) := by
  refine MC_intro RX7 (by decide) rfl (Nat.le_of_ble_eq_true rfl) ?_
  intro G H0 m hE hR
  refine k_lo [0, 1, 2] (lo' := [(0, .ref (ad 0)), (1, .int (iI f)), (2, .int (iI d))]) rfl ?_
  obtain ⟨hi0, hi1, hi2, hi3, hi4, hi5, hi6, hi7, hit, hir, him, hin⟩ := id hI
  have a3 := hA.1 3 (by decide)
  have a4 := hA.1 4 (by decide)
  refine k_aload_n hE dX7_got_0 0 rfl rfl ?_
  refine k_iload_n hE dX7_got_1 1 rfl rfl ?_
  refine k_callV hE (c_X7_isTap st Y f hA hI (by omega)) mf_X7_isTap ml_X7_139 0 rfl rfl rfl rfl ⟨rfl, rfl, Nat.le_of_ble_eq_true rfl, Nat.le_of_ble_eq_true rfl⟩ [] (Nat.le_of_ble_eq_true rfl) dX7_got_2 rfl (fun rv u hp => ?_)
  obtain ⟨z1, hv2, hu2, hz_2⟩ := hp
  refine k_sk (sk' := [.int (iI z1)]) (by rw [hv2]; rfl) ?_
  refine k_st st hu2 ?_
  refine k_if_eq hE 15 dX7_got_5 (by decide) (by unfold in32; omega) (fun c5 => ?_) (fun c5 => ?_)
  · refine k_iconst hE dX7_got_15 ?_
    exact k_iret hR dX7_got_16 rfl ⟨st, ret_i (by unfold GT; (repeat (first | omega | split))), rfl, MX.refl st⟩
  · refine k_iload_n hE dX7_got_8 2 rfl rfl ?_
    refine k_callS hE (c_X7_isDay st d (by omega)) ms_X7_isDay ml_X7_145 rfl ⟨rfl, rfl, Nat.le_of_ble_eq_true rfl, Nat.le_of_ble_eq_true rfl⟩ [] (Nat.le_of_ble_eq_true rfl) dX7_got_9 rfl (fun rv u hp => ?_)
    obtain ⟨z2, hv9, hu9, hz_9⟩ := hp
    refine k_sk (sk' := [.int (iI z2)]) (by rw [hv9]; rfl) ?_
    refine k_st st hu9 ?_
    refine k_if_ne hE 17 dX7_got_12 (by decide) (by unfold in32; omega) (fun c12 => ?_) (fun c12 => ?_)
    · refine k_aload_n hE dX7_got_17 0 rfl rfl ?_
      refine k_bipush hE dX7_got_18 rfl ?_
      refine k_callV hE (c_X7_goDays st Y 10 (Y.1 4) hA.d hI (by omega) (by omega) (by omega) (by omega) (fun d d0 d1 => by rw [hA.2 4 (by decide)]; exact hir d d0 d1) (by omega) (by omega)) mf_X7_goDays ml_X7_189 0 rfl rfl rfl rfl ⟨rfl, rfl, Nat.le_of_ble_eq_true rfl, Nat.le_of_ble_eq_true rfl⟩ [] (Nat.le_of_ble_eq_true rfl) dX7_got_20 rfl (fun rv u hp => ?_)
      obtain ⟨S1, hv20, hu20, hx_20, er_20, dg_20⟩ := hp
      refine k_sk (sk' := []) (by rw [hv20]; rfl) ?_
      refine k_st S1 hu20 ?_
      have er : Ran Y (Y.1 4) (Y.1 3) (Y.2 4) S1.2 (10 : Int).toNat 12 15 14 := by
        have h5 := MRn_Ran er_20 (by omega)
        rw [a3, hA.2 4 (by decide)] at h5
        exact h5
      have hB : Ag S1 Y := hx_20.ag hA
      refine k_aload_n hE dX7_got_23 0 rfl rfl ?_
      refine m_get_gotOn hE fl_X7_43 dX7_got_24 ?_
      refine k_bipush hE dX7_got_27 rfl ?_
      refine k_iload_n hE dX7_got_29 2 rfl rfl ?_
      refine k_imul hE dX7_got_30 ?_
      refine k_iload_n hE dX7_got_31 1 rfl rfl ?_
      refine k_iadd hE dX7_got_32 ?_
      refine m_ld_gotOn hE (z := S1.2 14 ((6 * d) + f)) (by omega) (by omega) rfl dX7_got_33 ?_
      exact k_iret hR dX7_got_34 rfl ⟨S1, ret_i (by unfold GT; rw [if_neg (by omega), Int.mul_comm 6 d]; exact (Ran_gD er (by omega) (by omega) (by omega) (by omega)).1), rfl, hx_20⟩
    · refine k_iconst hE dX7_got_15 ?_
      exact k_iret hR dX7_got_16 rfl ⟨st, ret_i (by unfold GT; (repeat (first | omega | split))), rfl, MX.refl st⟩

set_option maxHeartbeats 4000000 in
set_option maxRecDepth 100000 in
theorem c_X7_level {ad : Nat → Nat} {D : va_G} {cI cZ : ClassId} (st : Sg) (Y : Sg) (d : Int) (hA : Ag st Y) (hI : Inv Y) (hm : st.1 15 = 0 ∧ st.1 16 = -9) (i_d : -2147483648 ≤ d ∧ d < 2147483648) : MC (mw ad D cI cZ) yX7_level cX7_level 2 (some .int) { frames := 5, cells := 0, slots := 0, locals := 112 } [.ref (ad 0), .int (iI d)] st (fun rv u => ∃ S : Sg, rv = some (.int (iI (LE Y d))) ∧ u = S ∧ (MX st S)) := by
  refine MC_intro RX7 (by decide) rfl (Nat.le_of_ble_eq_true rfl) ?_
  intro G H0 m hE hR
  refine k_lo [0, 1] (lo' := [(0, .ref (ad 0)), (1, .int (iI d))]) rfl ?_
  obtain ⟨hi0, hi1, hi2, hi3, hi4, hi5, hi6, hi7, hit, hir, him, hin⟩ := id hI
  have a3 := hA.1 3 (by decide)
  have a4 := hA.1 4 (by decide)
  refine k_iload_n hE dX7_level_0 1 rfl rfl ?_
  refine k_iconst hE dX7_level_1 ?_
  refine k_bipush hE dX7_level_2 rfl ?_
  refine k_callS hE (c_X7_within st d 0 10 (by omega) (by omega) (by omega)) ms_X7_within ml_X7_74 rfl ⟨rfl, rfl, Nat.le_of_ble_eq_true rfl, Nat.le_of_ble_eq_true rfl⟩ [] (Nat.le_of_ble_eq_true rfl) dX7_level_4 rfl (fun rv u hp => ?_)
  obtain ⟨z1, hv4, hu4, hz_4⟩ := hp
  refine k_sk (sk' := [.int (iI z1)]) (by rw [hv4]; rfl) ?_
  refine k_st st hu4 ?_
  refine k_if_ne hE 12 dX7_level_7 (by decide) (by unfold in32; omega) (fun c7 => ?_) (fun c7 => ?_)
  · refine k_aload_n hE dX7_level_12 0 rfl rfl ?_
    refine m_get_taps hE (z := Y.1 0) (hA.1 0 (by decide)) fl_X7_78 dX7_level_13 ?_
    refine k_if_ne hE 22 dX7_level_16 (by decide) (by unfold in32; omega) (fun c16 => ?_) (fun c16 => ?_)
    · refine k_aload_n hE dX7_level_22 0 rfl rfl ?_
      refine k_bipush hE dX7_level_23 rfl ?_
      refine k_callV hE (c_X7_goDays st Y 10 (Y.1 4) hA.d hI (by omega) (by omega) (by omega) (by omega) (fun d d0 d1 => by rw [hA.2 4 (by decide)]; exact hir d d0 d1) (by omega) (by omega)) mf_X7_goDays ml_X7_189 0 rfl rfl rfl rfl ⟨rfl, rfl, Nat.le_of_ble_eq_true rfl, Nat.le_of_ble_eq_true rfl⟩ [] (Nat.le_of_ble_eq_true rfl) dX7_level_25 rfl (fun rv u hp => ?_)
      obtain ⟨S1, hv25, hu25, hx_25, er_25, dg_25⟩ := hp
      refine k_sk (sk' := []) (by rw [hv25]; rfl) ?_
      refine k_st S1 hu25 ?_
      have er : Ran Y (Y.1 4) (Y.1 3) (Y.2 4) S1.2 (10 : Int).toNat 12 15 14 := by
        have h5 := MRn_Ran er_25 (by omega)
        rw [a3, hA.2 4 (by decide)] at h5
        exact h5
      have hB : Ag S1 Y := hx_25.ag hA
      refine k_aload_n hE dX7_level_28 0 rfl rfl ?_
      refine m_get_levels hE fl_X7_40 dX7_level_29 ?_
      refine k_iload_n hE dX7_level_32 1 rfl rfl ?_
      refine m_ld_levels hE (z := S1.2 12 d) (by omega) (by omega) rfl dX7_level_33 ?_
      exact k_iret hR dX7_level_34 rfl ⟨S1, ret_i (by unfold LE; rw [if_neg (by omega), if_neg (by omega)]; exact (Ran_lev er (by omega) (by omega)).1), rfl, hx_25⟩
    · refine k_bipush hE dX7_level_19 rfl ?_
      exact k_iret hR dX7_level_21 rfl ⟨st, ret_i (by unfold LE; (repeat (first | omega | split))), rfl, MX.refl st⟩
  · refine k_iconst hE dX7_level_10 ?_
    exact k_iret hR dX7_level_11 rfl ⟨st, ret_i (by unfold LE; (repeat (first | omega | split))), rfl, MX.refl st⟩

set_option maxHeartbeats 4000000 in
set_option maxRecDepth 100000 in
theorem c_X7_over {ad : Nat → Nat} {D : va_G} {cI cZ : ClassId} (st : Sg) (Y : Sg) (d : Int) (hA : Ag st Y) (hI : Inv Y) (hm : st.1 15 = 0 ∧ st.1 16 = -9) (i_d : -2147483648 ≤ d ∧ d < 2147483648) : MC (mw ad D cI cZ) yX7_over cX7_over 2 (some .int) { frames := 5, cells := 0, slots := 0, locals := 112 } [.ref (ad 0), .int (iI d)] st (fun rv u => ∃ S : Sg, rv = some (.int (iI (OV Y d))) ∧ u = S ∧ (MX st S)) := by
  refine MC_intro RX7 (by decide) rfl (Nat.le_of_ble_eq_true rfl) ?_
  intro G H0 m hE hR
  refine k_lo [0, 1] (lo' := [(0, .ref (ad 0)), (1, .int (iI d))]) rfl ?_
  obtain ⟨hi0, hi1, hi2, hi3, hi4, hi5, hi6, hi7, hit, hir, him, hin⟩ := id hI
  have a3 := hA.1 3 (by decide)
  have a4 := hA.1 4 (by decide)
  refine k_iload_n hE dX7_over_0 1 rfl rfl ?_
  refine k_callS hE (c_X7_isDay st d (by omega)) ms_X7_isDay ml_X7_145 rfl ⟨rfl, rfl, Nat.le_of_ble_eq_true rfl, Nat.le_of_ble_eq_true rfl⟩ [] (Nat.le_of_ble_eq_true rfl) dX7_over_1 rfl (fun rv u hp => ?_)
  obtain ⟨z1, hv1, hu1, hz_1⟩ := hp
  refine k_sk (sk' := [.int (iI z1)]) (by rw [hv1]; rfl) ?_
  refine k_st st hu1 ?_
  refine k_if_ne hE 9 dX7_over_4 (by decide) (by unfold in32; omega) (fun c4 => ?_) (fun c4 => ?_)
  · refine k_aload_n hE dX7_over_9 0 rfl rfl ?_
    refine m_get_taps hE (z := Y.1 0) (hA.1 0 (by decide)) fl_X7_78 dX7_over_10 ?_
    refine k_if_ne hE 19 dX7_over_13 (by decide) (by unfold in32; omega) (fun c13 => ?_) (fun c13 => ?_)
    · refine k_aload_n hE dX7_over_19 0 rfl rfl ?_
      refine k_bipush hE dX7_over_20 rfl ?_
      refine k_callV hE (c_X7_goDays st Y 10 (Y.1 4) hA.d hI (by omega) (by omega) (by omega) (by omega) (fun d d0 d1 => by rw [hA.2 4 (by decide)]; exact hir d d0 d1) (by omega) (by omega)) mf_X7_goDays ml_X7_189 0 rfl rfl rfl rfl ⟨rfl, rfl, Nat.le_of_ble_eq_true rfl, Nat.le_of_ble_eq_true rfl⟩ [] (Nat.le_of_ble_eq_true rfl) dX7_over_22 rfl (fun rv u hp => ?_)
      obtain ⟨S1, hv22, hu22, hx_22, er_22, dg_22⟩ := hp
      refine k_sk (sk' := []) (by rw [hv22]; rfl) ?_
      refine k_st S1 hu22 ?_
      have er : Ran Y (Y.1 4) (Y.1 3) (Y.2 4) S1.2 (10 : Int).toNat 12 15 14 := by
        have h5 := MRn_Ran er_22 (by omega)
        rw [a3, hA.2 4 (by decide)] at h5
        exact h5
      have hB : Ag S1 Y := hx_22.ag hA
      refine k_aload_n hE dX7_over_25 0 rfl rfl ?_
      refine m_get_overOn hE fl_X7_46 dX7_over_26 ?_
      refine k_iload_n hE dX7_over_29 1 rfl rfl ?_
      refine m_ld_overOn hE (z := S1.2 15 d) (by omega) (by omega) rfl dX7_over_30 ?_
      exact k_iret hR dX7_over_31 rfl ⟨S1, ret_i (by unfold OV; rw [if_neg (by omega), if_neg (by omega)]; exact Ran_over er (by omega) (by omega)), rfl, hx_22⟩
    · refine k_bipush hE dX7_over_16 rfl ?_
      exact k_iret hR dX7_over_18 rfl ⟨st, ret_i (by unfold OV; (repeat (first | omega | split))), rfl, MX.refl st⟩
  · refine k_iconst hE dX7_over_7 ?_
    exact k_iret hR dX7_over_8 rfl ⟨st, ret_i (by unfold OV; (repeat (first | omega | split))), rfl, MX.refl st⟩

set_option maxHeartbeats 4000000 in
set_option maxRecDepth 100000 in
theorem c_X7_nobody {ad : Nat → Nat} {D : va_G} {cI cZ : ClassId} (st : Sg) (Y : Sg) (d : Int) (hA : Ag st Y) (hI : Inv Y) (hm : st.1 15 = 0 ∧ st.1 16 = -9) (i_d : -2147483648 ≤ d ∧ d < 2147483648) : MC (mw ad D cI cZ) yX7_nobody cX7_nobody 4 (some .int) { frames := 5, cells := 0, slots := 0, locals := 112 } [.ref (ad 0), .int (iI d)] st (fun rv u => ∃ z : Int, ∃ S : Sg, rv = some (.int (iI (z))) ∧ u = S ∧ (NB Y d z) ∧ (MX st S)) := by
  refine MC_intro RX7 (by decide) rfl (Nat.le_of_ble_eq_true rfl) ?_
  intro G H0 m hE hR
  refine k_lo [0, 1] (lo' := [(0, .ref (ad 0)), (1, .int (iI d))]) rfl ?_
  obtain ⟨hi0, hi1, hi2, hi3, hi4, hi5, hi6, hi7, hit, hir, him, hin⟩ := id hI
  have a3 := hA.1 3 (by decide)
  have a4 := hA.1 4 (by decide)
  refine k_iload_n hE dX7_nobody_0 1 rfl rfl ?_
  refine k_iconst hE dX7_nobody_1 ?_
  refine k_bipush hE dX7_nobody_2 rfl ?_
  refine k_callS hE (c_X7_within st d 0 10 (by omega) (by omega) (by omega)) ms_X7_within ml_X7_74 rfl ⟨rfl, rfl, Nat.le_of_ble_eq_true rfl, Nat.le_of_ble_eq_true rfl⟩ [] (Nat.le_of_ble_eq_true rfl) dX7_nobody_4 rfl (fun rv u hp => ?_)
  obtain ⟨z1, hv4, hu4, hz_4⟩ := hp
  refine k_sk (sk' := [.int (iI z1)]) (by rw [hv4]; rfl) ?_
  refine k_st st hu4 ?_
  refine k_if_ne hE 12 dX7_nobody_7 (by decide) (by unfold in32; omega) (fun c7 => ?_) (fun c7 => ?_)
  · refine k_aload_n hE dX7_nobody_12 0 rfl rfl ?_
    refine m_get_taps hE (z := Y.1 0) (hA.1 0 (by decide)) fl_X7_78 dX7_nobody_13 ?_
    refine k_if_ne hE 22 dX7_nobody_16 (by decide) (by unfold in32; omega) (fun c16 => ?_) (fun c16 => ?_)
    · have w1 : ¬ (d < 0 ∨ 10 < d) := by omega
      have w2 : Y.1 0 ≠ 0 := by omega
      refine k_aload_n hE dX7_nobody_22 0 rfl rfl ?_
      refine k_bipush hE dX7_nobody_23 rfl ?_
      refine k_callV hE (c_X7_goDays st Y 10 (Y.1 4) hA.d hI (by omega) (by omega) (by omega) (by omega) (fun d d0 d1 => by rw [hA.2 4 (by decide)]; exact hir d d0 d1) (by omega) (by omega)) mf_X7_goDays ml_X7_189 0 rfl rfl rfl rfl ⟨rfl, rfl, Nat.le_of_ble_eq_true rfl, Nat.le_of_ble_eq_true rfl⟩ [] (Nat.le_of_ble_eq_true rfl) dX7_nobody_25 rfl (fun rv u hp => ?_)
      obtain ⟨S1, hv25, hu25, hx_25, er_25, dg_25⟩ := hp
      refine k_sk (sk' := []) (by rw [hv25]; rfl) ?_
      refine k_st S1 hu25 ?_
      have er : Ran Y (Y.1 4) (Y.1 3) (Y.2 4) S1.2 (10 : Int).toNat 12 15 14 := by
        have h5 := MRn_Ran er_25 (by omega)
        rw [a3, hA.2 4 (by decide)] at h5
        exact h5
      have hB : Ag S1 Y := hx_25.ag hA
      have ht0 := hit 0 (by omega) (by omega)
      refine k_aload_n hE dX7_nobody_28 0 rfl rfl ?_
      refine m_get_height hE fl_X7_22 dX7_nobody_29 ?_
      refine k_iconst hE dX7_nobody_32 ?_
      refine m_ld_height hE (z := Y.2 1 0) (by omega) (by omega) (congrFun (hB.2 1 (by decide)) 0) dX7_nobody_33 ?_
      refine k_istore_n hE dX7_nobody_34 [1, 2, 0] rfl (Nat.le_of_ble_eq_true rfl) (lo' := [(0, .ref (ad 0)), (1, .int (iI d)), (2, .int (iI (Y.2 1 0)))]) rfl ?_
      refine k_iconst hE dX7_nobody_35 ?_
      refine k_istore_n hE dX7_nobody_36 [1, 2, 3, 0] rfl (Nat.le_of_ble_eq_true rfl) (lo' := [(0, .ref (ad 0)), (1, .int (iI d)), (2, .int (iI (Y.2 1 0))), (3, .int (iI 1))]) rfl ?_
      have L37 : ∀ (fu37 : Nat) (le : Int) (f : Int), (1 ≤ f ∧ f ≤ Y.1 0) → (Y.1 0 - f < fu37) → (0 ≤ le ∧ le ≤ 9) → (∀ g : Int, 0 ≤ g → g < f → le ≤ Y.2 1 g) → (∃ g : Int, 0 ≤ g ∧ g < f ∧ le = Y.2 1 g) → KW (mw ad D cI cZ) G H0 m 4 S1 37 [(0, .ref (ad 0)), (1, .int (iI d)), (2, .int (iI le)), (3, .int (iI f))] [] := by
        intro fu37
        induction fu37 with
        | zero =>
          intro le f q0 q1 ql q2 q3
          omega
        | succ fu37 ih37 =>
          intro le f q0 q1 ql q2 q3
          refine k_iload_n hE dX7_nobody_37 3 rfl rfl ?_
          refine k_aload_n hE dX7_nobody_38 0 rfl rfl ?_
          refine m_get_taps hE (z := Y.1 0) (hB.1 0 (by decide)) fl_X7_78 dX7_nobody_39 ?_
          refine k_icmp_ge hE 72 dX7_nobody_42 (by decide) (by unfold in32; omega) (by unfold in32; omega) (fun c42 => ?_) (fun c42 => ?_)
          · have hlv := Ran_lev er (k := d) (by omega) (by omega)
            have hmp := mul99 ql hi2
            refine k_aload_n hE dX7_nobody_72 0 rfl rfl ?_
            refine m_get_levels hE fl_X7_40 dX7_nobody_73 ?_
            refine k_iload_n hE dX7_nobody_76 1 rfl rfl ?_
            refine m_ld_levels hE (z := S1.2 12 d) (by omega) (by omega) rfl dX7_nobody_77 ?_
            refine k_iload_n hE dX7_nobody_78 2 rfl rfl ?_
            refine k_aload_n hE dX7_nobody_79 0 rfl rfl ?_
            refine m_get_per hE (z := Y.1 2) (hB.1 2 (by decide)) fl_X7_111 dX7_nobody_80 ?_
            refine k_imul hE dX7_nobody_83 ?_
            refine k_icmp_ge hE 96 dX7_nobody_84 (by decide) (by unfold in32; omega) (by unfold in32; omega) (fun c84 => ?_) (fun c84 => ?_)
            · refine k_iload_n hE dX7_nobody_96 2 rfl rfl ?_
              refine k_aload_n hE dX7_nobody_97 0 rfl rfl ?_
              refine m_get_per hE (z := Y.1 2) (hB.1 2 (by decide)) fl_X7_111 dX7_nobody_98 ?_
              refine k_imul hE dX7_nobody_101 ?_
              refine k_iret hR dX7_nobody_102 rfl ?_
              have qm : ∀ g : Int, 0 ≤ g → g < Y.1 0 → le * Y.1 2 ≤ Y.2 1 g * Y.1 2 := fun g g0 g1 => Int.mul_le_mul_of_nonneg_right (q2 g g0 (by omega)) hi2.1
              refine ⟨(le * (Y.1 2)), S1, rfl, rfl, Or.inr (Or.inr ⟨w1, w2, ?_⟩), hx_25⟩
              rw [← hlv.1]
              refine ⟨by omega, fun g g0 g1 => ?_, ?_⟩
              · have h5 := qm g g0 g1; omega
              · first
                  | exact Or.inl rfl
                  | (obtain ⟨g, g0, g1, g2⟩ := q3
                     exact Or.inr ⟨g, g0, by omega, by rw [g2]⟩)
            · refine k_aload_n hE dX7_nobody_87 0 rfl rfl ?_
              refine m_get_levels hE fl_X7_40 dX7_nobody_88 ?_
              refine k_iload_n hE dX7_nobody_91 1 rfl rfl ?_
              refine m_ld_levels hE (z := S1.2 12 d) (by omega) (by omega) rfl dX7_nobody_92 ?_
              refine k_goto hE 102 dX7_nobody_93 (by decide) ?_
              refine k_iret hR dX7_nobody_102 rfl ?_
              have qm : ∀ g : Int, 0 ≤ g → g < Y.1 0 → le * Y.1 2 ≤ Y.2 1 g * Y.1 2 := fun g g0 g1 => Int.mul_le_mul_of_nonneg_right (q2 g g0 (by omega)) hi2.1
              refine ⟨(S1.2 12 d), S1, rfl, rfl, Or.inr (Or.inr ⟨w1, w2, ?_⟩), hx_25⟩
              rw [← hlv.1]
              refine ⟨by omega, fun g g0 g1 => ?_, ?_⟩
              · have h5 := qm g g0 g1; omega
              · first
                  | exact Or.inl rfl
                  | (obtain ⟨g, g0, g1, g2⟩ := q3
                     exact Or.inr ⟨g, g0, by omega, by rw [g2]⟩)
          · have hf := hit f (by omega) (by omega)
            refine k_aload_n hE dX7_nobody_45 0 rfl rfl ?_
            refine m_get_height hE fl_X7_22 dX7_nobody_46 ?_
            refine k_iload_n hE dX7_nobody_49 3 rfl rfl ?_
            refine m_ld_height hE (z := Y.2 1 f) (by omega) (by omega) (congrFun (hB.2 1 (by decide)) f) dX7_nobody_50 ?_
            refine k_iload_n hE dX7_nobody_51 2 rfl rfl ?_
            refine k_icmp_ge hE 64 dX7_nobody_52 (by decide) (by unfold in32; omega) (by unfold in32; omega) (fun c52 => ?_) (fun c52 => ?_)
            · refine k_iload_n hE dX7_nobody_64 2 rfl rfl ?_
              refine k_istore_n hE dX7_nobody_65 [1, 2, 0, 3] rfl (Nat.le_of_ble_eq_true rfl) (lo' := [(0, .ref (ad 0)), (1, .int (iI d)), (2, .int (iI le)), (3, .int (iI f))]) rfl ?_
              refine k_iinc hE dX7_nobody_66 3 [1, 2, 3, 0] rfl (Nat.le_of_ble_eq_true rfl) (lo' := [(0, .ref (ad 0)), (1, .int (iI d)), (2, .int (iI le)), (3, .int (iI (f + 1)))]) rfl ?_
              refine k_goto hE 37 dX7_nobody_69 (by decide) ?_
              first
                | exact ih37 _ _ (by omega) (by omega) (by omega) (fun g g0 g1 => by by_cases e : g = f; (rw [e]; omega); have h5 := q2 g g0 (by omega); omega) ⟨f, by omega, by omega, rfl⟩
                | (obtain ⟨g, g0, g1, g2⟩ := q3
                   exact ih37 _ _ (by omega) (by omega) (by omega) (fun g g0 g1 => by by_cases e : g = f; (rw [e]; omega); have h5 := q2 g g0 (by omega); omega) ⟨g, g0, by omega, g2⟩)
            · refine k_aload_n hE dX7_nobody_55 0 rfl rfl ?_
              refine m_get_height hE fl_X7_22 dX7_nobody_56 ?_
              refine k_iload_n hE dX7_nobody_59 3 rfl rfl ?_
              refine m_ld_height hE (z := Y.2 1 f) (by omega) (by omega) (congrFun (hB.2 1 (by decide)) f) dX7_nobody_60 ?_
              refine k_goto hE 65 dX7_nobody_61 (by decide) ?_
              refine k_istore_n hE dX7_nobody_65 [1, 2, 0, 3] rfl (Nat.le_of_ble_eq_true rfl) (lo' := [(0, .ref (ad 0)), (1, .int (iI d)), (2, .int (iI (Y.2 1 f))), (3, .int (iI f))]) rfl ?_
              refine k_iinc hE dX7_nobody_66 3 [1, 2, 3, 0] rfl (Nat.le_of_ble_eq_true rfl) (lo' := [(0, .ref (ad 0)), (1, .int (iI d)), (2, .int (iI (Y.2 1 f))), (3, .int (iI (f + 1)))]) rfl ?_
              refine k_goto hE 37 dX7_nobody_69 (by decide) ?_
              first
                | exact ih37 _ _ (by omega) (by omega) (by omega) (fun g g0 g1 => by by_cases e : g = f; (rw [e]; omega); have h5 := q2 g g0 (by omega); omega) ⟨f, by omega, by omega, rfl⟩
                | (obtain ⟨g, g0, g1, g2⟩ := q3
                   exact ih37 _ _ (by omega) (by omega) (by omega) (fun g g0 g1 => by by_cases e : g = f; (rw [e]; omega); have h5 := q2 g g0 (by omega); omega) ⟨g, g0, by omega, g2⟩)
      exact L37 7 _ 1 (by omega) (by omega) (by omega) (fun g g0 g1 => by rw [show g = 0 by omega]; omega) ⟨0, by omega, by omega, rfl⟩
    · refine k_bipush hE dX7_nobody_19 rfl ?_
      exact k_iret hR dX7_nobody_21 rfl ⟨_, st, rfl, rfl, Or.inr (Or.inl ⟨by omega, by omega, rfl⟩), MX.refl st⟩
  · refine k_iconst hE dX7_nobody_10 ?_
    exact k_iret hR dX7_nobody_11 rfl ⟨_, st, rfl, rfl, Or.inl ⟨by omega, rfl⟩, MX.refl st⟩

set_option maxHeartbeats 4000000 in
set_option maxRecDepth 100000 in
theorem c_X7_firstDry {ad : Nat → Nat} {D : va_G} {cI cZ : ClassId} (st : Sg) (Y : Sg) (f : Int) (n : Int) (hA : AgD st Y) (hI : Inv Y) (h0 : 0 ≤ f) (h1 : f < 6) (hn : 0 ≤ n ∧ n ≤ 10) (hg : ∀ k : Int, 0 ≤ k → k < n → -1000 ≤ st.2 14 (6 * k + f) ∧ st.2 14 (6 * k + f) ≤ 1000) : MC (mw ad D cI cZ) yX7_firstDry cX7_firstDry 4 (some .int) { frames := 0, cells := 0, slots := 0, locals := 0 } [.ref (ad 0), .int (iI f), .int (iI n)] st (fun rv u => ∃ z : Int, rv = some (.int (iI (z))) ∧ u = st ∧ (FD (fun k => st.2 14 (6 * k + f)) (Y.2 2 f) n z)) := by
  refine MC_intro RX7 (by decide) rfl (Nat.le_of_ble_eq_true rfl) ?_
  intro G H0 m hE hR
  refine k_lo [0, 1, 2] (lo' := [(0, .ref (ad 0)), (1, .int (iI f)), (2, .int (iI n))]) rfl ?_
  obtain ⟨hi0, hi1, hi2, hi3, hi4, hi5, hi6, hi7, hit, hir, him, hin⟩ := id hI
  refine k_iconst hE dX7_firstDry_0 ?_
  refine k_istore_n hE dX7_firstDry_1 [1, 2, 3, 0] rfl (Nat.le_of_ble_eq_true rfl) (lo' := [(0, .ref (ad 0)), (1, .int (iI f)), (2, .int (iI n)), (3, .int (iI 0))]) rfl ?_
  have L2 : ∀ (fu2 : Nat) (k : Int), (0 ≤ k ∧ k ≤ n) → (n - k < fu2) → (∀ j : Int, 0 ≤ j → j < k → Y.2 2 f ≤ st.2 14 (6 * j + f)) → KW (mw ad D cI cZ) G H0 m 4 st 2 [(0, .ref (ad 0)), (1, .int (iI f)), (2, .int (iI n)), (3, .int (iI k))] [] := by
    intro fu2
    induction fu2 with
    | zero =>
      intro k q0 q1 q2
      omega
    | succ fu2 ih2 =>
      intro k q0 q1 q2
      refine k_iload_n hE dX7_firstDry_2 3 rfl rfl ?_
      refine k_iload_n hE dX7_firstDry_3 2 rfl rfl ?_
      refine k_icmp_ge hE 35 dX7_firstDry_4 (by decide) (by unfold in32; omega) (by unfold in32; omega) (fun c4 => ?_) (fun c4 => ?_)
      · refine k_bipush hE dX7_firstDry_35 rfl ?_
        exact k_iret hR dX7_firstDry_37 rfl ⟨_, rfl, rfl, Or.inl ⟨rfl, fun j j0 j1 => q2 j j0 (by omega)⟩⟩
      · have hk := hg k (by omega) (by omega)
        have hf := hit f h0 h1
        refine k_aload_n hE dX7_firstDry_7 0 rfl rfl ?_
        refine m_get_gotOn hE fl_X7_43 dX7_firstDry_8 ?_
        refine k_bipush hE dX7_firstDry_11 rfl ?_
        refine k_iload_n hE dX7_firstDry_13 3 rfl rfl ?_
        refine k_imul hE dX7_firstDry_14 ?_
        refine k_iload_n hE dX7_firstDry_15 1 rfl rfl ?_
        refine k_iadd hE dX7_firstDry_16 ?_
        refine m_ld_gotOn hE (z := st.2 14 ((6 * k) + f)) (by omega) (by omega) rfl dX7_firstDry_17 ?_
        refine k_aload_n hE dX7_firstDry_18 0 rfl rfl ?_
        refine m_get_need hE fl_X7_25 dX7_firstDry_19 ?_
        refine k_iload_n hE dX7_firstDry_22 1 rfl rfl ?_
        refine m_ld_need hE (z := Y.2 2 f) (by omega) (by omega) (congrFun (hA.2 2 (by decide)) f) dX7_firstDry_23 ?_
        refine k_icmp_ge hE 29 dX7_firstDry_24 (by decide) (by unfold in32; omega) (by unfold in32; omega) (fun c24 => ?_) (fun c24 => ?_)
        · refine k_iinc hE dX7_firstDry_29 3 [1, 2, 3, 0] rfl (Nat.le_of_ble_eq_true rfl) (lo' := [(0, .ref (ad 0)), (1, .int (iI f)), (2, .int (iI n)), (3, .int (iI (k + 1)))]) rfl ?_
          refine k_goto hE 2 dX7_firstDry_32 (by decide) ?_
          exact ih2 _ (by omega) (by omega) (fun j j0 j1 => by by_cases e : j = k; (rw [e]; omega); exact q2 j j0 (by omega))
        · refine k_iload_n hE dX7_firstDry_27 3 rfl rfl ?_
          exact k_iret hR dX7_firstDry_28 rfl ⟨_, rfl, rfl, Or.inr ⟨by omega, by omega, (show st.2 14 (6 * k + f) < Y.2 2 f by omega), q2⟩⟩
  exact L2 11 0 (by omega) (by omega) (fun j h1 h2 => by omega)

set_option maxHeartbeats 4000000 in
set_option maxRecDepth 100000 in
theorem c_X7_dry {ad : Nat → Nat} {D : va_G} {cI cZ : ClassId} (st : Sg) (Y : Sg) (f : Int) (hA : Ag st Y) (hI : Inv Y) (hm : st.1 15 = 0 ∧ st.1 16 = -9) (i_f : -2147483648 ≤ f ∧ f < 2147483648) : MC (mw ad D cI cZ) yX7_dry cX7_dry 2 (some .int) { frames := 5, cells := 0, slots := 0, locals := 112 } [.ref (ad 0), .int (iI f)] st (fun rv u => ∃ z : Int, ∃ S : Sg, rv = some (.int (iI (z))) ∧ u = S ∧ (DY Y f z) ∧ (MX st S)) := by
  refine MC_intro RX7 (by decide) rfl (Nat.le_of_ble_eq_true rfl) ?_
  intro G H0 m hE hR
  refine k_lo [0, 1] (lo' := [(0, .ref (ad 0)), (1, .int (iI f))]) rfl ?_
  obtain ⟨hi0, hi1, hi2, hi3, hi4, hi5, hi6, hi7, hit, hir, him, hin⟩ := id hI
  have a3 := hA.1 3 (by decide)
  have a4 := hA.1 4 (by decide)
  refine k_aload_n hE dX7_dry_0 0 rfl rfl ?_
  refine k_iload_n hE dX7_dry_1 1 rfl rfl ?_
  refine k_callV hE (c_X7_isTap st Y f hA hI (by omega)) mf_X7_isTap ml_X7_139 0 rfl rfl rfl rfl ⟨rfl, rfl, Nat.le_of_ble_eq_true rfl, Nat.le_of_ble_eq_true rfl⟩ [] (Nat.le_of_ble_eq_true rfl) dX7_dry_2 rfl (fun rv u hp => ?_)
  obtain ⟨z1, hv2, hu2, hz_2⟩ := hp
  refine k_sk (sk' := [.int (iI z1)]) (by rw [hv2]; rfl) ?_
  refine k_st st hu2 ?_
  refine k_if_ne hE 10 dX7_dry_5 (by decide) (by unfold in32; omega) (fun c5 => ?_) (fun c5 => ?_)
  · refine k_aload_n hE dX7_dry_10 0 rfl rfl ?_
    refine k_bipush hE dX7_dry_11 rfl ?_
    refine k_callV hE (c_X7_goDays st Y 10 (Y.1 4) hA.d hI (by omega) (by omega) (by omega) (by omega) (fun d d0 d1 => by rw [hA.2 4 (by decide)]; exact hir d d0 d1) (by omega) (by omega)) mf_X7_goDays ml_X7_189 0 rfl rfl rfl rfl ⟨rfl, rfl, Nat.le_of_ble_eq_true rfl, Nat.le_of_ble_eq_true rfl⟩ [] (Nat.le_of_ble_eq_true rfl) dX7_dry_13 rfl (fun rv u hp => ?_)
    obtain ⟨S1, hv13, hu13, hx_13, er_13, dg_13⟩ := hp
    refine k_sk (sk' := []) (by rw [hv13]; rfl) ?_
    refine k_st S1 hu13 ?_
    have er : Ran Y (Y.1 4) (Y.1 3) (Y.2 4) S1.2 (10 : Int).toNat 12 15 14 := by
      have h5 := MRn_Ran er_13 (by omega)
      rw [a3, hA.2 4 (by decide)] at h5
      exact h5
    have hB : Ag S1 Y := hx_13.ag hA
    refine k_aload_n hE dX7_dry_16 0 rfl rfl ?_
    refine k_iload_n hE dX7_dry_17 1 rfl rfl ?_
    refine k_bipush hE dX7_dry_18 rfl ?_
    refine k_callV hE (c_X7_firstDry S1 Y f 10 hB.d hI (by omega) (by omega) (by omega) (fun k k0 k1 => by have hg := Ran_gD er (f := f) (k := k) (by omega) (by omega) (by omega) (by omega); rw [Int.mul_comm] at hg; omega)) mf_X7_firstDry ml_X7_192 0 rfl rfl rfl rfl ⟨rfl, rfl, Nat.le_of_ble_eq_true rfl, Nat.le_of_ble_eq_true rfl⟩ [] (Nat.le_of_ble_eq_true rfl) dX7_dry_20 rfl (fun rv u hp => ?_)
    obtain ⟨z1, hv20, hu20, hz_20⟩ := hp
    refine k_sk (sk' := [.int (iI z1)]) (by rw [hv20]; rfl) ?_
    refine k_st S1 hu20 ?_
    exact k_iret hR dX7_dry_23 rfl ⟨_, S1, rfl, rfl, Or.inr ⟨by omega, FD_cong hz_20 (fun k k0 k1 => by rw [Int.mul_comm 6 k]; exact (Ran_gD er (by omega) (by omega) k0 (by omega)).1)⟩, hx_13⟩
  · refine k_iconst hE dX7_dry_8 ?_
    exact k_iret hR dX7_dry_9 rfl ⟨_, st, rfl, rfl, Or.inl ⟨by omega, rfl⟩, MX.refl st⟩

set_option maxHeartbeats 4000000 in
set_option maxRecDepth 100000 in
theorem c_X7_wetOn {ad : Nat → Nat} {D : va_G} {cI cZ : ClassId} (st : Sg) (Y : Sg) (n : Int) (hA : AgD st Y) (hI : Inv Y) (hn : 0 ≤ n ∧ n ≤ 10) (hg : ∀ f : Int, 0 ≤ f → f < Y.1 0 → ∀ k : Int, 0 ≤ k → k < n → -1000 ≤ st.2 14 (6 * k + f) ∧ st.2 14 (6 * k + f) ≤ 1000) : MC (mw ad D cI cZ) yX7_wetOn cX7_wetOn 4 (some .int) { frames := 1, cells := 0, slots := 0, locals := 23 } [.ref (ad 0), .int (iI n)] st (fun rv u => rv = some (.int (iI (CT (fun f => ∀ k : Int, 0 ≤ k → k < n → Y.2 2 f ≤ st.2 14 (6 * k + f)) (Y.1 0).toNat))) ∧ u = st) := by
  refine MC_intro RX7 (by decide) rfl (Nat.le_of_ble_eq_true rfl) ?_
  intro G H0 m hE hR
  refine k_lo [0, 1] (lo' := [(0, .ref (ad 0)), (1, .int (iI n))]) rfl ?_
  obtain ⟨hi0, hi1, hi2, hi3, hi4, hi5, hi6, hi7, hit, hir, him, hin⟩ := id hI
  refine k_iconst hE dX7_wetOn_0 ?_
  refine k_istore_n hE dX7_wetOn_1 [1, 2, 0] rfl (Nat.le_of_ble_eq_true rfl) (lo' := [(0, .ref (ad 0)), (1, .int (iI n)), (2, .int (iI 0))]) rfl ?_
  refine k_iconst hE dX7_wetOn_2 ?_
  refine k_istore_n hE dX7_wetOn_3 [1, 2, 3, 0] rfl (Nat.le_of_ble_eq_true rfl) (lo' := [(0, .ref (ad 0)), (1, .int (iI n)), (2, .int (iI 0)), (3, .int (iI 0))]) rfl ?_
  have L4 : ∀ (fu4 : Nat) (c : Int) (f : Nat), ((f : Int) ≤ Y.1 0) → (Y.1 0 - f < fu4) → (c = CT (fun f => ∀ k : Int, 0 ≤ k → k < n → Y.2 2 f ≤ st.2 14 (6 * k + f)) f) → KW (mw ad D cI cZ) G H0 m 4 st 4 [(0, .ref (ad 0)), (1, .int (iI n)), (2, .int (iI c)), (3, .int (iI ((f : Int))))] [] := by
    intro fu4
    induction fu4 with
    | zero =>
      intro c f q0 q1 q2
      omega
    | succ fu4 ih4 =>
      intro c f q0 q1 q2
      refine k_iload_n hE dX7_wetOn_4 3 rfl rfl ?_
      refine k_aload_n hE dX7_wetOn_5 0 rfl rfl ?_
      refine m_get_taps hE (z := Y.1 0) (hA.1 0 (by decide)) fl_X7_78 dX7_wetOn_6 ?_
      refine k_icmp_ge hE 37 dX7_wetOn_9 (by decide) (by unfold in32; omega) (by unfold in32; omega) (fun c9 => ?_) (fun c9 => ?_)
      · refine k_iload_n hE dX7_wetOn_37 2 rfl rfl ?_
        refine k_iret hR dX7_wetOn_38 rfl ?_
        have ef : (Y.1 0).toNat = f := by omega
        exact ⟨ret_i (by rw [ef]; exact q2), rfl⟩
      · refine k_iload_n hE dX7_wetOn_12 2 rfl rfl ?_
        refine k_aload_n hE dX7_wetOn_13 0 rfl rfl ?_
        refine k_iload_n hE dX7_wetOn_14 3 rfl rfl ?_
        refine k_iload_n hE dX7_wetOn_15 1 rfl rfl ?_
        refine k_callV hE (c_X7_firstDry st Y ((f : Int)) n hA hI (by omega) (by omega) (by omega) (hg f (by omega) (by omega))) mf_X7_firstDry ml_X7_192 0 rfl rfl rfl rfl ⟨rfl, rfl, Nat.le_of_ble_eq_true rfl, Nat.le_of_ble_eq_true rfl⟩ [.int (iI c)] (Nat.le_of_ble_eq_true rfl) dX7_wetOn_16 rfl (fun rv u hp => ?_)
        obtain ⟨z1, hv16, hu16, hz_16⟩ := hp
        refine k_sk (sk' := [.int (iI z1), .int (iI c)]) (by rw [hv16]; rfl) ?_
        refine k_st st hu16 ?_
        have hz2 : -9 ≤ z1 ∧ z1 ≤ 10 := by rcases hz_16 with h | h <;> omega
        refine k_bipush hE dX7_wetOn_19 rfl ?_
        refine k_icmp_ne hE 28 dX7_wetOn_21 (by decide) (by unfold in32; omega) (by unfold in32; omega) (fun c21 => ?_) (fun c21 => ?_)
        · refine k_iconst hE dX7_wetOn_28 ?_
          refine k_iadd hE dX7_wetOn_29 ?_
          refine k_istore_n hE dX7_wetOn_30 [1, 2, 0, 3] rfl (Nat.le_of_ble_eq_true rfl) (lo' := [(0, .ref (ad 0)), (1, .int (iI n)), (2, .int (iI (c + 0))), (3, .int (iI ((f : Int))))]) rfl ?_
          refine k_iinc hE dX7_wetOn_31 3 [1, 2, 3, 0] rfl (Nat.le_of_ble_eq_true rfl) (lo' := [(0, .ref (ad 0)), (1, .int (iI n)), (2, .int (iI (c + 0))), (3, .int (iI (((f : Int)) + 1)))]) rfl ?_
          refine k_goto hE 4 dX7_wetOn_34 (by decide) ?_
          refine ih4 _ (f + 1) (by omega) (by omega) ?_
          first
            | (rw [CT_y (P := fun f => ∀ k : Int, 0 ≤ k → k < n → Y.2 2 f ≤ st.2 14 (6 * k + f)) (k := f) ((FD_none hz_16).mp (by omega))]; omega)
            | (rw [CT_n (P := fun f => ∀ k : Int, 0 ≤ k → k < n → Y.2 2 f ≤ st.2 14 (6 * k + f)) (k := f) (fun h => absurd ((FD_none hz_16).mpr h) (by omega))]; omega)
        · refine k_iconst hE dX7_wetOn_24 ?_
          refine k_goto hE 29 dX7_wetOn_25 (by decide) ?_
          refine k_iadd hE dX7_wetOn_29 ?_
          refine k_istore_n hE dX7_wetOn_30 [1, 2, 0, 3] rfl (Nat.le_of_ble_eq_true rfl) (lo' := [(0, .ref (ad 0)), (1, .int (iI n)), (2, .int (iI (c + 1))), (3, .int (iI ((f : Int))))]) rfl ?_
          refine k_iinc hE dX7_wetOn_31 3 [1, 2, 3, 0] rfl (Nat.le_of_ble_eq_true rfl) (lo' := [(0, .ref (ad 0)), (1, .int (iI n)), (2, .int (iI (c + 1))), (3, .int (iI (((f : Int)) + 1)))]) rfl ?_
          refine k_goto hE 4 dX7_wetOn_34 (by decide) ?_
          refine ih4 _ (f + 1) (by omega) (by omega) ?_
          first
            | (rw [CT_y (P := fun f => ∀ k : Int, 0 ≤ k → k < n → Y.2 2 f ≤ st.2 14 (6 * k + f)) (k := f) ((FD_none hz_16).mp (by omega))]; omega)
            | (rw [CT_n (P := fun f => ∀ k : Int, 0 ≤ k → k < n → Y.2 2 f ≤ st.2 14 (6 * k + f)) (k := f) (fun h => absurd ((FD_none hz_16).mpr h) (by omega))]; omega)
  exact L4 7 0 0 (by omega) (by omega) rfl

set_option maxHeartbeats 4000000 in
set_option maxRecDepth 100000 in
theorem c_X7_canAll {ad : Nat → Nat} {D : va_G} {cI cZ : ClassId} (st : Sg) (Y : Sg) (n : Int) (hA : AgD st Y) (hI : Inv Y) (hn : 0 ≤ n ∧ n ≤ 10) (hj0 : st.1 15 = 0) (hlw : 0 ≤ st.1 4 ∧ st.1 4 ≤ 2) (hw0 : 0 ≤ st.1 3 ∧ st.1 3 ≤ Y.1 1) (hrn : ∀ d : Int, 0 ≤ d → d < 10 → 0 ≤ st.2 4 d ∧ st.2 4 d ≤ 99) (htd : st.1 16 = -9) : MC (mw ad D cI cZ) yX7_canAll cX7_canAll 2 (some .boolean) { frames := 5, cells := 0, slots := 0, locals := 112 } [.ref (ad 0), .int (iI n)] st (fun rv u => ∃ z : Int, ∃ S : Sg, rv = some (.int (iI (z))) ∧ u = S ∧ ((z = 1 ∧ (∀ f : Int, 0 ≤ f → f < Y.1 0 → NV Y 3 (st.1 3) (st.2 4) n f)) ∨ (z = 0 ∧ ¬ (∀ f : Int, 0 ≤ f → f < Y.1 0 → NV Y 3 (st.1 3) (st.2 4) n f))) ∧ (MX st S)) := by
  refine MC_intro RX7 (by decide) rfl (Nat.le_of_ble_eq_true rfl) ?_
  intro G H0 m hE hR
  refine k_lo [0, 1] (lo' := [(0, .ref (ad 0)), (1, .int (iI n))]) rfl ?_
  obtain ⟨hi0, hi1, hi2, hi3, hi4, hi5, hi6, hi7, hit, hir, him, hin⟩ := id hI
  refine k_aload_n hE dX7_canAll_0 0 rfl rfl ?_
  refine k_iconst hE dX7_canAll_1 ?_
  refine m_put_isJust hE (by omega) fl_X7_154 dX7_canAll_2 ?_
  refine k_st ((uv st.1 15 1, st.2)) rfl ?_
  refine k_nm (fun Sx eSx => ?_)
  have hAx : AgD Sx Y := by rw [eSx]; exact hA.of (fun i hi => by show uv st.1 15 1 i = _; rw [uv_n _ _ (by omega)]) (fun a ha => rfl)
  have x15 : Sx.1 15 = 1 := by rw [eSx]; rfl
  have x4 : Sx.1 4 = st.1 4 := by rw [eSx]; rfl
  have x3 : Sx.1 3 = st.1 3 := by rw [eSx]; rfl
  have x16 : Sx.1 16 = st.1 16 := by rw [eSx]; rfl
  have xr : Sx.2 = st.2 := by rw [eSx]
  refine k_aload_n hE dX7_canAll_5 0 rfl rfl ?_
  refine k_iload_n hE dX7_canAll_6 1 rfl rfl ?_
  refine k_callV hE (c_X7_goDays Sx Y n 3 hAx hI (by omega) (Or.inl ⟨x15, rfl⟩) (by omega) (by omega) (by rw [xr]; exact hrn) (by omega) (by omega)) mf_X7_goDays ml_X7_189 0 rfl rfl rfl rfl ⟨rfl, rfl, Nat.le_of_ble_eq_true rfl, Nat.le_of_ble_eq_true rfl⟩ [] (Nat.le_of_ble_eq_true rfl) dX7_canAll_7 rfl (fun rv u hp => ?_)
  obtain ⟨S1, hv7, hu7, hx_7, er_7, dg_7⟩ := hp
  refine k_sk (sk' := []) (by rw [hv7]; rfl) ?_
  refine k_st S1 hu7 ?_
  have er : Ran Y 3 (st.1 3) (st.2 4) S1.2 n.toNat 12 15 14 := by
    have h5 := MRn_Ran er_7 (by omega)
    rw [x3, xr] at h5
    exact h5
  have hB := hx_7.agd hAx
  refine k_aload_n hE dX7_canAll_10 0 rfl rfl ?_
  refine k_iconst hE dX7_canAll_11 ?_
  refine m_put_isJust hE (by omega) fl_X7_154 dX7_canAll_12 ?_
  refine k_st ((uv S1.1 15 0, S1.2)) rfl ?_
  refine k_nm (fun S3 eS3 => ?_)
  have hAS3 : AgD S3 Y := by rw [eS3]; exact hB.of (fun i hi => by show uv S1.1 15 0 i = _; rw [uv_n _ _ (by omega)]) (fun a ha => rfl)
  have s3r : S3.2 = S1.2 := by rw [eS3]
  have hx3 : MX st S3 := ⟨fun i h1 h2 => by
    rw [eS3]
    show uv S1.1 15 0 i = _
    by_cases e : i = 15
    · rw [e, uv_s, hj0]
    · rw [uv_n _ _ e, hx_7.1 i h1 h2, eSx]; show uv st.1 15 1 i = _; rw [uv_n _ _ e], fun a ha => by rw [s3r, hx_7.2 a ha, xr]⟩
  refine k_aload_n hE dX7_canAll_15 0 rfl rfl ?_
  refine k_iload_n hE dX7_canAll_16 1 rfl rfl ?_
  refine k_callV hE (c_X7_wetOn S3 Y n hAS3 hI (by omega) (fun f f0 f1 k k0 k1 => by have hg := Ran_gD er (f := f) (k := k) f0 f1 k0 (by omega); rw [Int.mul_comm] at hg; rw [s3r]; omega)) mf_X7_wetOn ml_X7_196 0 rfl rfl rfl rfl ⟨rfl, rfl, Nat.le_of_ble_eq_true rfl, Nat.le_of_ble_eq_true rfl⟩ [] (Nat.le_of_ble_eq_true rfl) dX7_canAll_17 rfl (fun rv u hp => ?_)
  obtain ⟨hv17, hu17⟩ := hp
  refine k_sk (sk' := [.int (iI (CT (fun f => ∀ k : Int, 0 ≤ k → k < n → Y.2 2 f ≤ S3.2 14 (6 * k + f)) (Y.1 0).toNat))]) (by rw [hv17]; rfl) ?_
  refine k_st S3 hu17 ?_
  have ec : CT (fun f => ∀ k : Int, 0 ≤ k → k < n → Y.2 2 f ≤ S3.2 14 (6 * k + f)) (Y.1 0).toNat = CT (fun f => NV Y 3 (st.1 3) (st.2 4) n f) (Y.1 0).toNat := CT_cong (fun f f0 f1 => ⟨fun h k k0 k1 => by rw [← (Ran_gD er f0 (by omega) k0 (by omega)).1, Int.mul_comm, ← s3r]; exact h k k0 k1, fun h k k0 k1 => by rw [s3r, Int.mul_comm, (Ran_gD er f0 (by omega) k0 (by omega)).1]; exact h k k0 k1⟩)
  have rc := CT_rng (fun f => NV Y 3 (st.1 3) (st.2 4) n f) (Y.1 0).toNat
  have hall := CT_all (P := fun f => NV Y 3 (st.1 3) (st.2 4) n f) (k := (Y.1 0).toNat)
  have tn : (((Y.1 0).toNat : Nat) : Int) = Y.1 0 := by omega
  refine k_sk (sk' := [.int (iI (CT (fun f => NV Y 3 (st.1 3) (st.2 4) n f) (Y.1 0).toNat))]) (congrArg (fun zz : Int => ([.int (iI zz)] : List Value)) (show (CT (fun f => ∀ k : Int, 0 ≤ k → k < n → Y.2 2 f ≤ S3.2 14 (6 * k + f)) (Y.1 0).toNat) = (CT (fun f => NV Y 3 (st.1 3) (st.2 4) n f) (Y.1 0).toNat) from ec)) ?_
  refine k_aload_n hE dX7_canAll_20 0 rfl rfl ?_
  refine m_get_taps hE (z := Y.1 0) (hAS3.1 0 (by decide)) fl_X7_78 dX7_canAll_21 ?_
  refine k_icmp_ne hE 31 dX7_canAll_24 (by decide) (by unfold in32; omega) (by unfold in32; omega) (fun c24 => ?_) (fun c24 => ?_)
  · refine k_iconst hE dX7_canAll_31 ?_
    refine k_zret hR dX7_canAll_32 rfl (nar_b (by omega)) ?_
    refine ⟨_, S3, rfl, rfl, ?_, hx3⟩
    first
      | exact Or.inl ⟨rfl, fun f f0 f1 => hall.mp (by omega) f f0 (by omega)⟩
      | exact Or.inr ⟨rfl, fun h => absurd (hall.mpr (fun f f0 f1 => h f f0 (by omega))) (by omega)⟩
  · refine k_iconst hE dX7_canAll_27 ?_
    refine k_goto hE 32 dX7_canAll_28 (by decide) ?_
    refine k_zret hR dX7_canAll_32 rfl (nar_b (by omega)) ?_
    refine ⟨_, S3, rfl, rfl, ?_, hx3⟩
    first
      | exact Or.inl ⟨rfl, fun f f0 f1 => hall.mp (by omega) f f0 (by omega)⟩
      | exact Or.inr ⟨rfl, fun h => absurd (hall.mpr (fun f f0 f1 => h f f0 (by omega))) (by omega)⟩

set_option maxHeartbeats 4000000 in
set_option maxRecDepth 100000 in
theorem c_X7_againstDays {ad : Nat → Nat} {D : va_G} {cI cZ : ClassId} (st : Sg) (Y : Sg) (n : Int) (hA : Ag st Y) (hI : Inv Y) (i_n : -2147483648 ≤ n ∧ n < 2147483648) : MC (mw ad D cI cZ) yX7_againstDays cX7_againstDays 2 (some .int) { frames := 1, cells := 0, slots := 0, locals := 22 } [.ref (ad 0), .int (iI n)] st (fun rv u => rv = some (.int (iI (if n < 0 ∨ 10 < n then -2 else if Y.1 0 = 0 then -3 else 0))) ∧ u = st) := by
  refine MC_intro RX7 (by decide) rfl (Nat.le_of_ble_eq_true rfl) ?_
  intro G H0 m hE hR
  refine k_lo [0, 1] (lo' := [(0, .ref (ad 0)), (1, .int (iI n))]) rfl ?_
  obtain ⟨hi0, hi1, hi2, hi3, hi4, hi5, hi6, hi7, hit, hir, him, hin⟩ := id hI
  refine k_iload_n hE dX7_againstDays_0 1 rfl rfl ?_
  refine k_iconst hE dX7_againstDays_1 ?_
  refine k_bipush hE dX7_againstDays_2 rfl ?_
  refine k_callS hE (c_X7_within st n 0 10 (by omega) (by omega) (by omega)) ms_X7_within ml_X7_74 rfl ⟨rfl, rfl, Nat.le_of_ble_eq_true rfl, Nat.le_of_ble_eq_true rfl⟩ [] (Nat.le_of_ble_eq_true rfl) dX7_againstDays_4 rfl (fun rv u hp => ?_)
  obtain ⟨z1, hv4, hu4, hz_4⟩ := hp
  refine k_sk (sk' := [.int (iI z1)]) (by rw [hv4]; rfl) ?_
  refine k_st st hu4 ?_
  refine k_if_ne hE 15 dX7_againstDays_7 (by decide) (by unfold in32; omega) (fun c7 => ?_) (fun c7 => ?_)
  · refine k_aload_n hE dX7_againstDays_15 0 rfl rfl ?_
    refine m_get_taps hE (z := Y.1 0) (hA.1 0 (by decide)) fl_X7_78 dX7_againstDays_16 ?_
    refine k_if_ne hE 27 dX7_againstDays_19 (by decide) (by unfold in32; omega) (fun c19 => ?_) (fun c19 => ?_)
    · refine k_iconst hE dX7_againstDays_27 ?_
      exact k_iret hR dX7_againstDays_28 rfl ⟨ret_i (by (repeat (first | omega | split))), rfl⟩
    · refine k_bipush hE dX7_againstDays_22 rfl ?_
      refine k_goto hE 28 dX7_againstDays_24 (by decide) ?_
      exact k_iret hR dX7_againstDays_28 rfl ⟨ret_i (by (repeat (first | omega | split))), rfl⟩
  · refine k_bipush hE dX7_againstDays_10 rfl ?_
    refine k_goto hE 28 dX7_againstDays_12 (by decide) ?_
    exact k_iret hR dX7_againstDays_28 rfl ⟨ret_i (by (repeat (first | omega | split))), rfl⟩
