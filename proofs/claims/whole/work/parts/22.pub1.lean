set_option maxHeartbeats 4000000 in
set_option maxRecDepth 100000 in
theorem c_X6_ofTap {ad : Nat → Nat} {ta sa ca : Int → Nat} {D : va_G} {cI cT cS : ClassId} (st : Sg) (Y : Sg) (f : Int) (x : Int) (hA : Ag st Y) (hI : Inv Y) (i_f : -2147483648 ≤ f ∧ f < 2147483648) (i_x : -2147483648 ≤ x ∧ x < 2147483648) : MC (xw ad ta sa ca D cI cT cS) yX6_ofTap cX6_ofTap 4 (some .int) { frames := 1, cells := 0, slots := 0, locals := 21 } [.ref (ad 0), .int (iI f), .int (iI x)] st (fun rv u => rv = some (.int (iI (OT Y f x))) ∧ u = st) := by
  refine MC_intro RX6 (by decide) rfl (Nat.le_of_ble_eq_true rfl) ?_
  intro G H0 m hE hR
  refine k_lo [0, 1, 2] (lo' := [(0, .ref (ad 0)), (1, .int (iI f)), (2, .int (iI x))]) rfl ?_
  obtain ⟨hi0, hi1, hi2, hi3, hi4, hi5, hi6, hi7, hit, hir, him, hin⟩ := id hI
  refine k_aload_n hE dX6_ofTap_0 0 rfl rfl ?_
  refine k_iload_n hE dX6_ofTap_1 1 rfl rfl ?_
  refine k_callV hE (c_X6_noTap st Y f hA hI (by omega)) mf_X6_noTap ml_X6_79 0 rfl rfl rfl rfl ⟨rfl, rfl, Nat.le_of_ble_eq_true rfl, Nat.le_of_ble_eq_true rfl⟩ [] (Nat.le_of_ble_eq_true rfl) dX6_ofTap_2 rfl (fun rv u hp => ?_)
  obtain ⟨z1, hv2, hu2, hz_2⟩ := hp
  refine k_sk (sk' := [.int (iI z1)]) (by rw [hv2]; rfl) ?_
  refine k_st st hu2 ?_
  refine k_if_eq hE 10 dX6_ofTap_5 (by decide) (by unfold in32; omega) (fun c5 => ?_) (fun c5 => ?_)
  · refine k_aload_n hE dX6_ofTap_10 0 rfl rfl ?_
    refine x_get_X6_yard hE fl_X6_12 dX6_ofTap_11 ?_
    refine x_get_X5_taps hE fl_X6_82 dX6_ofTap_14 ?_
    refine k_iload_n hE dX6_ofTap_17 1 rfl rfl ?_
    refine x_ld_taps hE (i := f) (by omega) (by omega) dX6_ofTap_18 ?_
    refine k_astore_n hE dX6_ofTap_19 [1, 2, 3, 0] rfl (Nat.le_of_ble_eq_true rfl) (lo' := [(0, .ref (ad 0)), (1, .int (iI f)), (2, .int (iI x)), (3, .ref (ta f))]) rfl ?_
    refine k_iload_n hE dX6_ofTap_20 2 rfl rfl ?_
    by_cases q21 : x < 0 ∨ 4 < x
    · refine k_tabOut hE 81 dX6_ofTap_21 (by unfold in32; omega) q21 (by decide) ?_
      refine k_bipush hE dX6_ofTap_81 rfl ?_
      exact k_iret hR dX6_ofTap_83 rfl ⟨ret_i (by unfold OT; (repeat (first | omega | split))), rfl⟩
    rcases (show x = 0 ∨ x = 1 ∨ x = 2 ∨ x = 3 ∨ x = 4 by omega) with s21 | s21 | s21 | s21 | s21
    · refine k_tabIn hE 56 0 dX6_ofTap_21 s21 (by decide) (by decide) rfl (by decide) ?_
      refine k_aload_n hE dX6_ofTap_56 3 rfl rfl ?_
      refine x_get_X3_kind hE (z := Y.2 0 f) (by omega) (by omega) (congrFun (hA.2 0 (by decide)) f) fl_X6_86 dX6_ofTap_57 ?_
      exact k_iret hR dX6_ofTap_60 rfl ⟨ret_i (by unfold OT; (repeat (first | omega | split))), rfl⟩
    · refine k_tabIn hE 61 1 dX6_ofTap_21 s21 (by decide) (by decide) rfl (by decide) ?_
      refine k_aload_n hE dX6_ofTap_61 3 rfl rfl ?_
      refine x_get_X3_height hE (z := Y.2 1 f) (by omega) (by omega) (congrFun (hA.2 1 (by decide)) f) fl_X6_91 dX6_ofTap_62 ?_
      exact k_iret hR dX6_ofTap_65 rfl ⟨ret_i (by unfold OT; (repeat (first | omega | split))), rfl⟩
    · refine k_tabIn hE 66 2 dX6_ofTap_21 s21 (by decide) (by decide) rfl (by decide) ?_
      refine k_aload_n hE dX6_ofTap_66 3 rfl rfl ?_
      refine x_get_X3_need hE (z := Y.2 2 f) (by omega) (by omega) (congrFun (hA.2 2 (by decide)) f) fl_X6_94 dX6_ofTap_67 ?_
      exact k_iret hR dX6_ofTap_70 rfl ⟨ret_i (by unfold OT; (repeat (first | omega | split))), rfl⟩
    · refine k_tabIn hE 71 3 dX6_ofTap_21 s21 (by decide) (by decide) rfl (by decide) ?_
      refine k_aload_n hE dX6_ofTap_71 3 rfl rfl ?_
      refine x_get_X3_speed hE (z := Y.2 3 f) (by omega) (by omega) (congrFun (hA.2 3 (by decide)) f) fl_X6_97 dX6_ofTap_72 ?_
      exact k_iret hR dX6_ofTap_75 rfl ⟨ret_i (by unfold OT; (repeat (first | omega | split))), rfl⟩
    · refine k_tabIn hE 76 4 dX6_ofTap_21 s21 (by decide) (by decide) rfl (by decide) ?_
      refine k_aload_n hE dX6_ofTap_76 3 rfl rfl ?_
      refine k_callV hE (c_X3_wants st Y f hA hI (by omega) (by omega)) mf_X3_wants ml_X6_100 (13 + Int.toNat f) (xW_tap (by omega) (by omega)) rfl rfl rfl ⟨rfl, rfl, Nat.le_of_ble_eq_true rfl, Nat.le_of_ble_eq_true rfl⟩ [] (Nat.le_of_ble_eq_true rfl) dX6_ofTap_77 rfl (fun rv u hp => ?_)
      obtain ⟨hv77, hu77⟩ := hp
      refine k_sk (sk' := [.int (iI (WN Y f))]) (by rw [hv77]; rfl) ?_
      refine k_st st hu77 ?_
      exact k_iret hR dX6_ofTap_80 rfl ⟨ret_i (by unfold OT; (repeat (first | omega | split))), rfl⟩
  · refine k_iconst hE dX6_ofTap_8 ?_
    exact k_iret hR dX6_ofTap_9 rfl ⟨ret_i (by unfold OT; (repeat (first | omega | split))), rfl⟩

set_option maxHeartbeats 4000000 in
set_option maxRecDepth 100000 in
theorem c_X6_bore {ad : Nat → Nat} {ta sa ca : Int → Nat} {D : va_G} {cI cT cS : ClassId} (st : Sg) (Y : Sg) (f : Int) (h : Int) (hA : Ag st Y) (hI : Inv Y) (i_f : -2147483648 ≤ f ∧ f < 2147483648) (i_h : -2147483648 ≤ h ∧ h < 2147483648) : MC (xw ad ta sa ca D cI cT cS) yX6_bore cX6_bore 4 (some .int) { frames := 1, cells := 0, slots := 0, locals := 22 } [.ref (ad 0), .int (iI f), .int (iI h)] st (fun rv u => ∃ z : Int, ∃ S : Sg, rv = some (.int (iI (z))) ∧ u = S ∧ (((f < 0 ∨ Y.1 0 ≤ f) ∧ z = -1 ∧ S = st) ∨ (¬ (f < 0 ∨ Y.1 0 ≤ f) ∧ (h < 0 ∨ 9 < h) ∧ z = -2 ∧ S = st) ∨ (¬ (f < 0 ∨ Y.1 0 ≤ f) ∧ ¬ (h < 0 ∨ 9 < h) ∧ z = Y.2 1 f ∧ S = (st.1, ur st.2 1 f h)))) := by
  refine MC_intro RX6 (by decide) rfl (Nat.le_of_ble_eq_true rfl) ?_
  intro G H0 m hE hR
  refine k_lo [0, 1, 2] (lo' := [(0, .ref (ad 0)), (1, .int (iI f)), (2, .int (iI h))]) rfl ?_
  obtain ⟨hi0, hi1, hi2, hi3, hi4, hi5, hi6, hi7, hit, hir, him, hin⟩ := id hI
  refine k_aload_n hE dX6_bore_0 0 rfl rfl ?_
  refine k_iload_n hE dX6_bore_1 1 rfl rfl ?_
  refine k_callV hE (c_X6_noTap st Y f hA hI (by omega)) mf_X6_noTap ml_X6_79 0 rfl rfl rfl rfl ⟨rfl, rfl, Nat.le_of_ble_eq_true rfl, Nat.le_of_ble_eq_true rfl⟩ [] (Nat.le_of_ble_eq_true rfl) dX6_bore_2 rfl (fun rv u hp => ?_)
  obtain ⟨z1, hv2, hu2, hz_2⟩ := hp
  refine k_sk (sk' := [.int (iI z1)]) (by rw [hv2]; rfl) ?_
  refine k_st st hu2 ?_
  refine k_if_eq hE 10 dX6_bore_5 (by decide) (by unfold in32; omega) (fun c5 => ?_) (fun c5 => ?_)
  · refine k_iconst hE dX6_bore_10 ?_
    refine k_iload_n hE dX6_bore_11 2 rfl rfl ?_
    refine k_bipush hE dX6_bore_12 rfl ?_
    refine k_callS hE (c_X6_isNot st 0 h 9 (by omega) (by omega) (by omega)) ms_X6_isNot ml_X6_104 rfl ⟨rfl, rfl, Nat.le_of_ble_eq_true rfl, Nat.le_of_ble_eq_true rfl⟩ [] (Nat.le_of_ble_eq_true rfl) dX6_bore_14 rfl (fun rv u hp => ?_)
    obtain ⟨z2, hv14, hu14, hz_14⟩ := hp
    refine k_sk (sk' := [.int (iI z2)]) (by rw [hv14]; rfl) ?_
    refine k_st st hu14 ?_
    refine k_if_eq hE 23 dX6_bore_17 (by decide) (by unfold in32; omega) (fun c17 => ?_) (fun c17 => ?_)
    · refine k_aload_n hE dX6_bore_23 0 rfl rfl ?_
      refine x_get_X6_yard hE fl_X6_12 dX6_bore_24 ?_
      refine x_get_X5_taps hE fl_X6_82 dX6_bore_27 ?_
      refine k_iload_n hE dX6_bore_30 1 rfl rfl ?_
      refine x_ld_taps hE (i := f) (by omega) (by omega) dX6_bore_31 ?_
      refine x_get_X3_height hE (z := Y.2 1 f) (by omega) (by omega) (congrFun (hA.2 1 (by decide)) f) fl_X6_91 dX6_bore_32 ?_
      refine k_istore_n hE dX6_bore_35 [1, 2, 3, 0] rfl (Nat.le_of_ble_eq_true rfl) (lo' := [(0, .ref (ad 0)), (1, .int (iI f)), (2, .int (iI h)), (3, .int (iI (Y.2 1 f)))]) rfl ?_
      refine k_aload_n hE dX6_bore_36 0 rfl rfl ?_
      refine x_get_X6_yard hE fl_X6_12 dX6_bore_37 ?_
      refine x_get_X5_taps hE fl_X6_82 dX6_bore_40 ?_
      refine k_iload_n hE dX6_bore_43 1 rfl rfl ?_
      refine x_ld_taps hE (i := f) (by omega) (by omega) dX6_bore_44 ?_
      refine k_iload_n hE dX6_bore_45 2 rfl rfl ?_
      refine x_put_X3_height hE (by omega) (by omega) fl_X6_91 dX6_bore_46 ?_
      refine k_st ((st.1, ur st.2 1 f h)) rfl ?_
      refine k_iload_n hE dX6_bore_49 3 rfl rfl ?_
      exact k_iret hR dX6_bore_50 rfl ⟨_, _, rfl, rfl, Or.inr (Or.inr ⟨by omega, by omega, rfl, rfl⟩)⟩
    · refine k_bipush hE dX6_bore_20 rfl ?_
      exact k_iret hR dX6_bore_22 rfl ⟨_, _, rfl, rfl, Or.inr (Or.inl ⟨by omega, by omega, rfl, rfl⟩)⟩
  · refine k_iconst hE dX6_bore_8 ?_
    exact k_iret hR dX6_bore_9 rfl ⟨_, _, rfl, rfl, Or.inl ⟨by omega, rfl, rfl⟩⟩

set_option maxHeartbeats 4000000 in
set_option maxRecDepth 100000 in
theorem c_X6_begin {ad : Nat → Nat} {ta sa ca : Int → Nat} {D : va_G} {cI cT cS : ClassId} (st : Sg) (Y : Sg) (v : Int) (hA : Ag st Y) (hI : Inv Y) (i_v : -2147483648 ≤ v ∧ v < 2147483648) : MC (xw ad ta sa ca D cI cT cS) yX6_begin cX6_begin 3 (some .int) { frames := 1, cells := 0, slots := 0, locals := 22 } [.ref (ad 0), .int (iI v)] st (fun rv u => ∃ z : Int, ∃ S : Sg, rv = some (.int (iI (z))) ∧ u = S ∧ ((Y.1 0 = 0 ∧ z = -3 ∧ S = st) ∨ (Y.1 0 ≠ 0 ∧ (v < 0 ∨ Y.1 1 < v) ∧ z = -2 ∧ S = st) ∨ (Y.1 0 ≠ 0 ∧ ¬ (v < 0 ∨ Y.1 1 < v) ∧ z = Y.1 3 ∧ S = (uv st.1 3 v, st.2)))) := by
  refine MC_intro RX6 (by decide) rfl (Nat.le_of_ble_eq_true rfl) ?_
  intro G H0 m hE hR
  refine k_lo [0, 1] (lo' := [(0, .ref (ad 0)), (1, .int (iI v))]) rfl ?_
  obtain ⟨hi0, hi1, hi2, hi3, hi4, hi5, hi6, hi7, hit, hir, him, hin⟩ := id hI
  refine k_aload_n hE dX6_begin_0 0 rfl rfl ?_
  refine k_callV hE (c_X6_noYard st Y hA hI) mf_X6_noYard ml_X6_108 0 rfl rfl rfl rfl ⟨rfl, rfl, Nat.le_of_ble_eq_true rfl, Nat.le_of_ble_eq_true rfl⟩ [] (Nat.le_of_ble_eq_true rfl) dX6_begin_1 rfl (fun rv u hp => ?_)
  obtain ⟨z1, hv1, hu1, hz_1⟩ := hp
  refine k_sk (sk' := [.int (iI z1)]) (by rw [hv1]; rfl) ?_
  refine k_st st hu1 ?_
  refine k_if_eq hE 10 dX6_begin_4 (by decide) (by unfold in32; omega) (fun c4 => ?_) (fun c4 => ?_)
  · refine k_iconst hE dX6_begin_10 ?_
    refine k_iload_n hE dX6_begin_11 1 rfl rfl ?_
    refine k_aload_n hE dX6_begin_12 0 rfl rfl ?_
    refine x_get_X6_yard hE fl_X6_12 dX6_begin_13 ?_
    refine x_get_X5_cap hE (z := Y.1 1) (hA.1 1 (by decide)) fl_X6_112 dX6_begin_16 ?_
    refine k_callS hE (c_X6_isNot st 0 v (Y.1 1) (by omega) (by omega) (by omega)) ms_X6_isNot ml_X6_104 rfl ⟨rfl, rfl, Nat.le_of_ble_eq_true rfl, Nat.le_of_ble_eq_true rfl⟩ [] (Nat.le_of_ble_eq_true rfl) dX6_begin_19 rfl (fun rv u hp => ?_)
    obtain ⟨z2, hv19, hu19, hz_19⟩ := hp
    refine k_sk (sk' := [.int (iI z2)]) (by rw [hv19]; rfl) ?_
    refine k_st st hu19 ?_
    refine k_if_eq hE 28 dX6_begin_22 (by decide) (by unfold in32; omega) (fun c22 => ?_) (fun c22 => ?_)
    · refine k_aload_n hE dX6_begin_28 0 rfl rfl ?_
      refine x_get_X6_yard hE fl_X6_12 dX6_begin_29 ?_
      refine x_get_X5_firstWater hE (z := Y.1 3) (hA.1 3 (by decide)) fl_X6_115 dX6_begin_32 ?_
      refine k_istore_n hE dX6_begin_35 [1, 2, 0] rfl (Nat.le_of_ble_eq_true rfl) (lo' := [(0, .ref (ad 0)), (1, .int (iI v)), (2, .int (iI (Y.1 3)))]) rfl ?_
      refine k_aload_n hE dX6_begin_36 0 rfl rfl ?_
      refine x_get_X6_yard hE fl_X6_12 dX6_begin_37 ?_
      refine k_iload_n hE dX6_begin_40 1 rfl rfl ?_
      refine x_put_X5_firstWater hE fl_X6_115 dX6_begin_41 ?_
      refine k_st ((uv st.1 3 v, st.2)) rfl ?_
      refine k_iload_n hE dX6_begin_44 2 rfl rfl ?_
      exact k_iret hR dX6_begin_45 rfl ⟨_, _, rfl, rfl, Or.inr (Or.inr ⟨by omega, by omega, rfl, rfl⟩)⟩
    · refine k_bipush hE dX6_begin_25 rfl ?_
      exact k_iret hR dX6_begin_27 rfl ⟨_, _, rfl, rfl, Or.inr (Or.inl ⟨by omega, by omega, rfl, rfl⟩)⟩
  · refine k_bipush hE dX6_begin_7 rfl ?_
    exact k_iret hR dX6_begin_9 rfl ⟨_, _, rfl, rfl, Or.inl ⟨by omega, rfl, rfl⟩⟩

set_option maxHeartbeats 4000000 in
set_option maxRecDepth 100000 in
theorem c_X6_rain {ad : Nat → Nat} {ta sa ca : Int → Nat} {D : va_G} {cI cT cS : ClassId} (st : Sg) (Y : Sg) (d : Int) (v : Int) (hA : Ag st Y) (hI : Inv Y) (i_d : -2147483648 ≤ d ∧ d < 2147483648) (i_v : -2147483648 ≤ v ∧ v < 2147483648) : MC (xw ad ta sa ca D cI cT cS) yX6_rain cX6_rain 4 (some .int) { frames := 2, cells := 0, slots := 0, locals := 42 } [.ref (ad 0), .int (iI d), .int (iI v)] st (fun rv u => ∃ z : Int, ∃ S : Sg, rv = some (.int (iI (z))) ∧ u = S ∧ (((d < 0 ∨ 9 < d) ∧ z = -1 ∧ S = st) ∨ (¬ (d < 0 ∨ 9 < d) ∧ (v < 0 ∨ 99 < v) ∧ z = -2 ∧ S = st) ∨ (¬ (d < 0 ∨ 9 < d) ∧ ¬ (v < 0 ∨ 99 < v) ∧ Y.1 0 = 0 ∧ z = -3 ∧ S = st) ∨ (¬ (d < 0 ∨ 9 < d) ∧ ¬ (v < 0 ∨ 99 < v) ∧ Y.1 0 ≠ 0 ∧ z = Y.2 4 d ∧ S = (st.1, ur st.2 4 d v)))) := by
  refine MC_intro RX6 (by decide) rfl (Nat.le_of_ble_eq_true rfl) ?_
  intro G H0 m hE hR
  refine k_lo [0, 1, 2] (lo' := [(0, .ref (ad 0)), (1, .int (iI d)), (2, .int (iI v))]) rfl ?_
  obtain ⟨hi0, hi1, hi2, hi3, hi4, hi5, hi6, hi7, hit, hir, him, hin⟩ := id hI
  refine k_iload_n hE dX6_rain_0 1 rfl rfl ?_
  refine k_callS hE (c_X6_noDay st d (by omega)) ms_X6_noDay ml_X6_118 rfl ⟨rfl, rfl, Nat.le_of_ble_eq_true rfl, Nat.le_of_ble_eq_true rfl⟩ [] (Nat.le_of_ble_eq_true rfl) dX6_rain_1 rfl (fun rv u hp => ?_)
  obtain ⟨z1, hv1, hu1, hz_1⟩ := hp
  refine k_sk (sk' := [.int (iI z1)]) (by rw [hv1]; rfl) ?_
  refine k_st st hu1 ?_
  refine k_if_eq hE 9 dX6_rain_4 (by decide) (by unfold in32; omega) (fun c4 => ?_) (fun c4 => ?_)
  · refine k_iconst hE dX6_rain_9 ?_
    refine k_iload_n hE dX6_rain_10 2 rfl rfl ?_
    refine k_bipush hE dX6_rain_11 rfl ?_
    refine k_callS hE (c_X6_isNot st 0 v 99 (by omega) (by omega) (by omega)) ms_X6_isNot ml_X6_104 rfl ⟨rfl, rfl, Nat.le_of_ble_eq_true rfl, Nat.le_of_ble_eq_true rfl⟩ [] (Nat.le_of_ble_eq_true rfl) dX6_rain_13 rfl (fun rv u hp => ?_)
    obtain ⟨z2, hv13, hu13, hz_13⟩ := hp
    refine k_sk (sk' := [.int (iI z2)]) (by rw [hv13]; rfl) ?_
    refine k_st st hu13 ?_
    refine k_if_eq hE 22 dX6_rain_16 (by decide) (by unfold in32; omega) (fun c16 => ?_) (fun c16 => ?_)
    · refine k_aload_n hE dX6_rain_22 0 rfl rfl ?_
      refine k_callV hE (c_X6_noYard st Y hA hI) mf_X6_noYard ml_X6_108 0 rfl rfl rfl rfl ⟨rfl, rfl, Nat.le_of_ble_eq_true rfl, Nat.le_of_ble_eq_true rfl⟩ [] (Nat.le_of_ble_eq_true rfl) dX6_rain_23 rfl (fun rv u hp => ?_)
      obtain ⟨z3, hv23, hu23, hz_23⟩ := hp
      refine k_sk (sk' := [.int (iI z3)]) (by rw [hv23]; rfl) ?_
      refine k_st st hu23 ?_
      refine k_if_eq hE 32 dX6_rain_26 (by decide) (by unfold in32; omega) (fun c26 => ?_) (fun c26 => ?_)
      · refine k_aload_n hE dX6_rain_32 0 rfl rfl ?_
        refine x_get_X6_yard hE fl_X6_12 dX6_rain_33 ?_
        refine x_get_X5_rainOn hE fl_X6_121 dX6_rain_36 ?_
        refine k_iload_n hE dX6_rain_39 1 rfl rfl ?_
        refine x_ld_rainOn hE (z := Y.2 4 d) (by omega) (by omega) (congrFun (hA.2 4 (by decide)) d) dX6_rain_40 ?_
        refine k_istore_n hE dX6_rain_41 [1, 2, 3, 0] rfl (Nat.le_of_ble_eq_true rfl) (lo' := [(0, .ref (ad 0)), (1, .int (iI d)), (2, .int (iI v)), (3, .int (iI (Y.2 4 d)))]) rfl ?_
        refine k_aload_n hE dX6_rain_42 0 rfl rfl ?_
        refine x_get_X6_yard hE fl_X6_12 dX6_rain_43 ?_
        refine x_get_X5_rainOn hE fl_X6_121 dX6_rain_46 ?_
        refine k_iload_n hE dX6_rain_49 1 rfl rfl ?_
        refine k_iload_n hE dX6_rain_50 2 rfl rfl ?_
        refine x_st_rainOn hE (by omega) (by omega) dX6_rain_51 ?_
        refine k_st ((st.1, ur st.2 4 d v)) rfl ?_
        refine k_iload_n hE dX6_rain_52 3 rfl rfl ?_
        exact k_iret hR dX6_rain_53 rfl ⟨_, _, rfl, rfl, Or.inr (Or.inr (Or.inr ⟨by omega, by omega, by omega, rfl, rfl⟩))⟩
      · refine k_bipush hE dX6_rain_29 rfl ?_
        exact k_iret hR dX6_rain_31 rfl ⟨_, _, rfl, rfl, Or.inr (Or.inr (Or.inl ⟨by omega, by omega, by omega, rfl, rfl⟩))⟩
    · refine k_bipush hE dX6_rain_19 rfl ?_
      exact k_iret hR dX6_rain_21 rfl ⟨_, _, rfl, rfl, Or.inr (Or.inl ⟨by omega, by omega, rfl, rfl⟩)⟩
  · refine k_iconst hE dX6_rain_7 ?_
    exact k_iret hR dX6_rain_8 rfl ⟨_, _, rfl, rfl, Or.inl ⟨by omega, rfl, rfl⟩⟩

set_option maxHeartbeats 4000000 in
set_option maxRecDepth 100000 in
theorem c_X6_law {ad : Nat → Nat} {ta sa ca : Int → Nat} {D : va_G} {cI cT cS : ClassId} (st : Sg) (Y : Sg) (v : Int) (hA : Ag st Y) (hI : Inv Y) (i_v : -2147483648 ≤ v ∧ v < 2147483648) : MC (xw ad ta sa ca D cI cT cS) yX6_law cX6_law 3 (some .int) { frames := 1, cells := 0, slots := 0, locals := 22 } [.ref (ad 0), .int (iI v)] st (fun rv u => ∃ z : Int, ∃ S : Sg, rv = some (.int (iI (z))) ∧ u = S ∧ (((v < 0 ∨ 2 < v) ∧ z = -2 ∧ S = st) ∨ (¬ (v < 0 ∨ 2 < v) ∧ Y.1 0 = 0 ∧ z = -3 ∧ S = st) ∨ (¬ (v < 0 ∨ 2 < v) ∧ Y.1 0 ≠ 0 ∧ z = Y.1 4 ∧ S = (uv st.1 4 v, st.2)))) := by
  refine MC_intro RX6 (by decide) rfl (Nat.le_of_ble_eq_true rfl) ?_
  intro G H0 m hE hR
  refine k_lo [0, 1] (lo' := [(0, .ref (ad 0)), (1, .int (iI v))]) rfl ?_
  obtain ⟨hi0, hi1, hi2, hi3, hi4, hi5, hi6, hi7, hit, hir, him, hin⟩ := id hI
  refine k_iconst hE dX6_law_0 ?_
  refine k_iload_n hE dX6_law_1 1 rfl rfl ?_
  refine k_iconst hE dX6_law_2 ?_
  refine k_callS hE (c_X6_isNot st 0 v 2 (by omega) (by omega) (by omega)) ms_X6_isNot ml_X6_104 rfl ⟨rfl, rfl, Nat.le_of_ble_eq_true rfl, Nat.le_of_ble_eq_true rfl⟩ [] (Nat.le_of_ble_eq_true rfl) dX6_law_3 rfl (fun rv u hp => ?_)
  obtain ⟨z1, hv3, hu3, hz_3⟩ := hp
  refine k_sk (sk' := [.int (iI z1)]) (by rw [hv3]; rfl) ?_
  refine k_st st hu3 ?_
  refine k_if_eq hE 12 dX6_law_6 (by decide) (by unfold in32; omega) (fun c6 => ?_) (fun c6 => ?_)
  · refine k_aload_n hE dX6_law_12 0 rfl rfl ?_
    refine k_callV hE (c_X6_noYard st Y hA hI) mf_X6_noYard ml_X6_108 0 rfl rfl rfl rfl ⟨rfl, rfl, Nat.le_of_ble_eq_true rfl, Nat.le_of_ble_eq_true rfl⟩ [] (Nat.le_of_ble_eq_true rfl) dX6_law_13 rfl (fun rv u hp => ?_)
    obtain ⟨z2, hv13, hu13, hz_13⟩ := hp
    refine k_sk (sk' := [.int (iI z2)]) (by rw [hv13]; rfl) ?_
    refine k_st st hu13 ?_
    refine k_if_eq hE 22 dX6_law_16 (by decide) (by unfold in32; omega) (fun c16 => ?_) (fun c16 => ?_)
    · refine k_aload_n hE dX6_law_22 0 rfl rfl ?_
      refine x_get_X6_yard hE fl_X6_12 dX6_law_23 ?_
      refine x_get_X5_rule hE (z := Y.1 4) (hA.1 4 (by decide)) fl_X6_125 dX6_law_26 ?_
      refine k_istore_n hE dX6_law_29 [1, 2, 0] rfl (Nat.le_of_ble_eq_true rfl) (lo' := [(0, .ref (ad 0)), (1, .int (iI v)), (2, .int (iI (Y.1 4)))]) rfl ?_
      refine k_aload_n hE dX6_law_30 0 rfl rfl ?_
      refine x_get_X6_yard hE fl_X6_12 dX6_law_31 ?_
      refine k_iload_n hE dX6_law_34 1 rfl rfl ?_
      refine x_put_X5_rule hE fl_X6_125 dX6_law_35 ?_
      refine k_st ((uv st.1 4 v, st.2)) rfl ?_
      refine k_iload_n hE dX6_law_38 2 rfl rfl ?_
      exact k_iret hR dX6_law_39 rfl ⟨_, _, rfl, rfl, Or.inr (Or.inr ⟨by omega, by omega, rfl, rfl⟩)⟩
    · refine k_bipush hE dX6_law_19 rfl ?_
      exact k_iret hR dX6_law_21 rfl ⟨_, _, rfl, rfl, Or.inr (Or.inl ⟨by omega, by omega, rfl, rfl⟩)⟩
  · refine k_bipush hE dX6_law_9 rfl ?_
    exact k_iret hR dX6_law_11 rfl ⟨_, _, rfl, rfl, Or.inl ⟨by omega, rfl, rfl⟩⟩

set_option maxHeartbeats 4000000 in
set_option maxRecDepth 100000 in
theorem c_X6_leak {ad : Nat → Nat} {ta sa ca : Int → Nat} {D : va_G} {cI cT cS : ClassId} (st : Sg) (Y : Sg) (h : Int) (v : Int) (hA : Ag st Y) (hI : Inv Y) (i_h : -2147483648 ≤ h ∧ h < 2147483648) (i_v : -2147483648 ≤ v ∧ v < 2147483648) : MC (xw ad ta sa ca D cI cT cS) yX6_leak cX6_leak 4 (some .int) { frames := 1, cells := 0, slots := 0, locals := 22 } [.ref (ad 0), .int (iI h), .int (iI v)] st (fun rv u => ∃ z : Int, ∃ S : Sg, rv = some (.int (iI (z))) ∧ u = S ∧ ((((h < 0 ∨ 9 < h) ∨ (v < 0 ∨ 9 < v)) ∧ z = -2 ∧ S = st) ∨ (¬ ((h < 0 ∨ 9 < h) ∨ (v < 0 ∨ 9 < v)) ∧ Y.1 0 = 0 ∧ z = -3 ∧ S = st) ∨ (¬ ((h < 0 ∨ 9 < h) ∨ (v < 0 ∨ 9 < v)) ∧ Y.1 0 ≠ 0 ∧ z = 10 * Y.1 5 + Y.1 6 ∧ S = (uv (uv st.1 5 h) 6 v, st.2)))) := by
  refine MC_intro RX6 (by decide) rfl (Nat.le_of_ble_eq_true rfl) ?_
  intro G H0 m hE hR
  refine k_lo [0, 1, 2] (lo' := [(0, .ref (ad 0)), (1, .int (iI h)), (2, .int (iI v))]) rfl ?_
  obtain ⟨hi0, hi1, hi2, hi3, hi4, hi5, hi6, hi7, hit, hir, him, hin⟩ := id hI
  refine k_iconst hE dX6_leak_0 ?_
  refine k_iload_n hE dX6_leak_1 1 rfl rfl ?_
  refine k_bipush hE dX6_leak_2 rfl ?_
  refine k_callS hE (c_X6_isNot st 0 h 9 (by omega) (by omega) (by omega)) ms_X6_isNot ml_X6_104 rfl ⟨rfl, rfl, Nat.le_of_ble_eq_true rfl, Nat.le_of_ble_eq_true rfl⟩ [] (Nat.le_of_ble_eq_true rfl) dX6_leak_4 rfl (fun rv u hp => ?_)
  obtain ⟨z1, hv4, hu4, hz_4⟩ := hp
  refine k_sk (sk' := [.int (iI z1)]) (by rw [hv4]; rfl) ?_
  refine k_st st hu4 ?_
  refine k_if_ne hE 20 dX6_leak_7 (by decide) (by unfold in32; omega) (fun c7 => ?_) (fun c7 => ?_)
  · refine k_bipush hE dX6_leak_20 rfl ?_
    exact k_iret hR dX6_leak_22 rfl ⟨_, _, rfl, rfl, Or.inl ⟨by omega, rfl, rfl⟩⟩
  · refine k_iconst hE dX6_leak_10 ?_
    refine k_iload_n hE dX6_leak_11 2 rfl rfl ?_
    refine k_bipush hE dX6_leak_12 rfl ?_
    refine k_callS hE (c_X6_isNot st 0 v 9 (by omega) (by omega) (by omega)) ms_X6_isNot ml_X6_104 rfl ⟨rfl, rfl, Nat.le_of_ble_eq_true rfl, Nat.le_of_ble_eq_true rfl⟩ [] (Nat.le_of_ble_eq_true rfl) dX6_leak_14 rfl (fun rv u hp => ?_)
    obtain ⟨z2, hv14, hu14, hz_14⟩ := hp
    refine k_sk (sk' := [.int (iI z2)]) (by rw [hv14]; rfl) ?_
    refine k_st st hu14 ?_
    refine k_if_eq hE 23 dX6_leak_17 (by decide) (by unfold in32; omega) (fun c17 => ?_) (fun c17 => ?_)
    · refine k_aload_n hE dX6_leak_23 0 rfl rfl ?_
      refine k_callV hE (c_X6_noYard st Y hA hI) mf_X6_noYard ml_X6_108 0 rfl rfl rfl rfl ⟨rfl, rfl, Nat.le_of_ble_eq_true rfl, Nat.le_of_ble_eq_true rfl⟩ [] (Nat.le_of_ble_eq_true rfl) dX6_leak_24 rfl (fun rv u hp => ?_)
      obtain ⟨z3, hv24, hu24, hz_24⟩ := hp
      refine k_sk (sk' := [.int (iI z3)]) (by rw [hv24]; rfl) ?_
      refine k_st st hu24 ?_
      refine k_if_eq hE 33 dX6_leak_27 (by decide) (by unfold in32; omega) (fun c27 => ?_) (fun c27 => ?_)
      · refine k_bipush hE dX6_leak_33 rfl ?_
        refine k_aload_n hE dX6_leak_35 0 rfl rfl ?_
        refine x_get_X6_yard hE fl_X6_12 dX6_leak_36 ?_
        refine x_get_X5_leakHeight hE (z := Y.1 5) (hA.1 5 (by decide)) fl_X6_128 dX6_leak_39 ?_
        refine k_imul hE dX6_leak_42 ?_
        refine k_aload_n hE dX6_leak_43 0 rfl rfl ?_
        refine x_get_X6_yard hE fl_X6_12 dX6_leak_44 ?_
        refine x_get_X5_leakPails hE (z := Y.1 6) (hA.1 6 (by decide)) fl_X6_131 dX6_leak_47 ?_
        refine k_iadd hE dX6_leak_50 ?_
        refine k_istore_n hE dX6_leak_51 [1, 2, 3, 0] rfl (Nat.le_of_ble_eq_true rfl) (lo' := [(0, .ref (ad 0)), (1, .int (iI h)), (2, .int (iI v)), (3, .int (iI ((10 * (Y.1 5)) + (Y.1 6))))]) rfl ?_
        refine k_aload_n hE dX6_leak_52 0 rfl rfl ?_
        refine x_get_X6_yard hE fl_X6_12 dX6_leak_53 ?_
        refine k_iload_n hE dX6_leak_56 1 rfl rfl ?_
        refine x_put_X5_leakHeight hE fl_X6_128 dX6_leak_57 ?_
        refine k_st ((uv st.1 5 h, st.2)) rfl ?_
        refine k_aload_n hE dX6_leak_60 0 rfl rfl ?_
        refine x_get_X6_yard hE fl_X6_12 dX6_leak_61 ?_
        refine k_iload_n hE dX6_leak_64 2 rfl rfl ?_
        refine x_put_X5_leakPails hE fl_X6_131 dX6_leak_65 ?_
        refine k_st ((uv (uv st.1 5 h) 6 v, st.2)) rfl ?_
        refine k_iload_n hE dX6_leak_68 3 rfl rfl ?_
        exact k_iret hR dX6_leak_69 rfl ⟨_, _, rfl, rfl, Or.inr (Or.inr ⟨by omega, by omega, rfl, rfl⟩)⟩
      · refine k_bipush hE dX6_leak_30 rfl ?_
        exact k_iret hR dX6_leak_32 rfl ⟨_, _, rfl, rfl, Or.inr (Or.inl ⟨by omega, by omega, rfl, rfl⟩)⟩
    · refine k_bipush hE dX6_leak_20 rfl ?_
      exact k_iret hR dX6_leak_22 rfl ⟨_, _, rfl, rfl, Or.inl ⟨by omega, rfl, rfl⟩⟩

set_option maxHeartbeats 4000000 in
set_option maxRecDepth 100000 in
theorem c_X6_got {ad : Nat → Nat} {ta sa ca : Int → Nat} {D : va_G} {cI cT cS : ClassId} (st : Sg) (Y : Sg) (f : Int) (d : Int) (hA : Ag st Y) (hI : Inv Y) (i_f : -2147483648 ≤ f ∧ f < 2147483648) (i_d : -2147483648 ≤ d ∧ d < 2147483648) : MC (xw ad ta sa ca D cI cT cS) yX6_got cX6_got 3 (some .int) { frames := 6, cells := 0, slots := 0, locals := 145 } [.ref (ad 0), .int (iI f), .int (iI d)] st (fun rv u => ∃ S : Sg, rv = some (.int (iI (GT Y f d))) ∧ u = S ∧ (XS st S)) := by
  refine MC_intro RX6 (by decide) rfl (Nat.le_of_ble_eq_true rfl) ?_
  intro G H0 m hE hR
  refine k_lo [0, 1, 2] (lo' := [(0, .ref (ad 0)), (1, .int (iI f)), (2, .int (iI d))]) rfl ?_
  obtain ⟨hi0, hi1, hi2, hi3, hi4, hi5, hi6, hi7, hit, hir, him, hin⟩ := id hI
  refine k_aload_n hE dX6_got_0 0 rfl rfl ?_
  refine k_iload_n hE dX6_got_1 1 rfl rfl ?_
  refine k_callV hE (c_X6_noTap st Y f hA hI (by omega)) mf_X6_noTap ml_X6_79 0 rfl rfl rfl rfl ⟨rfl, rfl, Nat.le_of_ble_eq_true rfl, Nat.le_of_ble_eq_true rfl⟩ [] (Nat.le_of_ble_eq_true rfl) dX6_got_2 rfl (fun rv u hp => ?_)
  obtain ⟨z1, hv2, hu2, hz_2⟩ := hp
  refine k_sk (sk' := [.int (iI z1)]) (by rw [hv2]; rfl) ?_
  refine k_st st hu2 ?_
  refine k_if_ne hE 15 dX6_got_5 (by decide) (by unfold in32; omega) (fun c5 => ?_) (fun c5 => ?_)
  · refine k_iconst hE dX6_got_15 ?_
    exact k_iret hR dX6_got_16 rfl ⟨st, ret_i (by unfold GT; (repeat (first | omega | split))), rfl, XS.refl st⟩
  · refine k_iload_n hE dX6_got_8 2 rfl rfl ?_
    refine k_callS hE (c_X6_noDay st d (by omega)) ms_X6_noDay ml_X6_118 rfl ⟨rfl, rfl, Nat.le_of_ble_eq_true rfl, Nat.le_of_ble_eq_true rfl⟩ [] (Nat.le_of_ble_eq_true rfl) dX6_got_9 rfl (fun rv u hp => ?_)
    obtain ⟨z2, hv9, hu9, hz_9⟩ := hp
    refine k_sk (sk' := [.int (iI z2)]) (by rw [hv9]; rfl) ?_
    refine k_st st hu9 ?_
    refine k_if_eq hE 17 dX6_got_12 (by decide) (by unfold in32; omega) (fun c12 => ?_) (fun c12 => ?_)
    · refine k_aload_n hE dX6_got_17 0 rfl rfl ?_
      refine k_iload_n hE dX6_got_18 2 rfl rfl ?_
      refine k_iconst hE dX6_got_19 ?_
      refine k_iadd hE dX6_got_20 ?_
      refine k_callV hE (c_X6_passAsTold st Y (d + 1) hA hI (by omega)) mf_X6_passAsTold ml_X6_134 0 rfl rfl rfl rfl ⟨rfl, rfl, Nat.le_of_ble_eq_true rfl, Nat.le_of_ble_eq_true rfl⟩ [] (Nat.le_of_ble_eq_true rfl) dX6_got_21 rfl (fun rv u hp => ?_)
      obtain ⟨S1, hv21, hu21, hx_21, hr_21, hO_21, er_21⟩ := hp
      refine k_sk (sk' := []) (by rw [hv21]; rfl) ?_
      refine k_st S1 hu21 ?_
      have hB : Ag S1 Y := hx_21.ag hA
      refine k_aload_n hE dX6_got_24 0 rfl rfl ?_
      refine x_get_X6_days hE fl_X6_23 dX6_got_25 ?_
      refine k_iload_n hE dX6_got_28 1 rfl rfl ?_
      refine k_iload_n hE dX6_got_29 2 rfl rfl ?_
      refine k_callV hE (c_X0_drawnBy S1 f d (by omega) (by omega) (by omega)) mf_X0_drawnBy ml_X6_138 4 rfl rfl rfl rfl ⟨rfl, rfl, Nat.le_of_ble_eq_true rfl, Nat.le_of_ble_eq_true rfl⟩ [] (Nat.le_of_ble_eq_true rfl) dX6_got_30 rfl (fun rv u hp => ?_)
      obtain ⟨hv30, hu30⟩ := hp
      refine k_sk (sk' := [.int (iI (S1.2 11 (d * 6 + f)))]) (by rw [hv30]; rfl) ?_
      refine k_st S1 hu30 ?_
      exact k_iret hR dX6_got_33 rfl ⟨S1, ret_i (by unfold GT; rw [if_neg (by omega)]; exact (Ran_gD er_21 (by omega) (by omega) (by omega) (by omega)).1), rfl, hx_21⟩
    · refine k_iconst hE dX6_got_15 ?_
      exact k_iret hR dX6_got_16 rfl ⟨st, ret_i (by unfold GT; (repeat (first | omega | split))), rfl, XS.refl st⟩

set_option maxHeartbeats 4000000 in
set_option maxRecDepth 100000 in
theorem c_X6_level {ad : Nat → Nat} {ta sa ca : Int → Nat} {D : va_G} {cI cT cS : ClassId} (st : Sg) (Y : Sg) (d : Int) (hA : Ag st Y) (hI : Inv Y) (i_d : -2147483648 ≤ d ∧ d < 2147483648) : MC (xw ad ta sa ca D cI cT cS) yX6_level cX6_level 2 (some .int) { frames := 6, cells := 0, slots := 0, locals := 145 } [.ref (ad 0), .int (iI d)] st (fun rv u => ∃ S : Sg, rv = some (.int (iI (LE Y d))) ∧ u = S ∧ (XS st S)) := by
  refine MC_intro RX6 (by decide) rfl (Nat.le_of_ble_eq_true rfl) ?_
  intro G H0 m hE hR
  refine k_lo [0, 1] (lo' := [(0, .ref (ad 0)), (1, .int (iI d))]) rfl ?_
  obtain ⟨hi0, hi1, hi2, hi3, hi4, hi5, hi6, hi7, hit, hir, him, hin⟩ := id hI
  refine k_iconst hE dX6_level_0 ?_
  refine k_iload_n hE dX6_level_1 1 rfl rfl ?_
  refine k_bipush hE dX6_level_2 rfl ?_
  refine k_callS hE (c_X6_isNot st 0 d 10 (by omega) (by omega) (by omega)) ms_X6_isNot ml_X6_104 rfl ⟨rfl, rfl, Nat.le_of_ble_eq_true rfl, Nat.le_of_ble_eq_true rfl⟩ [] (Nat.le_of_ble_eq_true rfl) dX6_level_4 rfl (fun rv u hp => ?_)
  obtain ⟨z1, hv4, hu4, hz_4⟩ := hp
  refine k_sk (sk' := [.int (iI z1)]) (by rw [hv4]; rfl) ?_
  refine k_st st hu4 ?_
  refine k_if_eq hE 12 dX6_level_7 (by decide) (by unfold in32; omega) (fun c7 => ?_) (fun c7 => ?_)
  · refine k_aload_n hE dX6_level_12 0 rfl rfl ?_
    refine k_callV hE (c_X6_noYard st Y hA hI) mf_X6_noYard ml_X6_108 0 rfl rfl rfl rfl ⟨rfl, rfl, Nat.le_of_ble_eq_true rfl, Nat.le_of_ble_eq_true rfl⟩ [] (Nat.le_of_ble_eq_true rfl) dX6_level_13 rfl (fun rv u hp => ?_)
    obtain ⟨z2, hv13, hu13, hz_13⟩ := hp
    refine k_sk (sk' := [.int (iI z2)]) (by rw [hv13]; rfl) ?_
    refine k_st st hu13 ?_
    refine k_if_eq hE 22 dX6_level_16 (by decide) (by unfold in32; omega) (fun c16 => ?_) (fun c16 => ?_)
    · refine k_aload_n hE dX6_level_22 0 rfl rfl ?_
      refine k_iload_n hE dX6_level_23 1 rfl rfl ?_
      refine k_callV hE (c_X6_passAsTold st Y d hA hI (by omega)) mf_X6_passAsTold ml_X6_134 0 rfl rfl rfl rfl ⟨rfl, rfl, Nat.le_of_ble_eq_true rfl, Nat.le_of_ble_eq_true rfl⟩ [] (Nat.le_of_ble_eq_true rfl) dX6_level_24 rfl (fun rv u hp => ?_)
      obtain ⟨S1, hv24, hu24, hx_24, hr_24, hO_24, er_24⟩ := hp
      refine k_sk (sk' := []) (by rw [hv24]; rfl) ?_
      refine k_st S1 hu24 ?_
      have hB : Ag S1 Y := hx_24.ag hA
      refine k_aload_n hE dX6_level_27 0 rfl rfl ?_
      refine x_get_X6_days hE fl_X6_23 dX6_level_28 ?_
      refine x_get_X0_levels hE fl_X6_142 dX6_level_31 ?_
      refine k_iload_n hE dX6_level_34 1 rfl rfl ?_
      refine x_ld_levels hE (z := S1.2 9 d) (by omega) (by omega) rfl dX6_level_35 ?_
      exact k_iret hR dX6_level_36 rfl ⟨S1, ret_i (by unfold LE; rw [if_neg (by omega), if_neg (by omega)]; exact (Ran_lev er_24 (by omega) (by omega)).1), rfl, hx_24⟩
    · refine k_bipush hE dX6_level_19 rfl ?_
      exact k_iret hR dX6_level_21 rfl ⟨st, ret_i (by unfold LE; (repeat (first | omega | split))), rfl, XS.refl st⟩
  · refine k_iconst hE dX6_level_10 ?_
    exact k_iret hR dX6_level_11 rfl ⟨st, ret_i (by unfold LE; (repeat (first | omega | split))), rfl, XS.refl st⟩

set_option maxHeartbeats 4000000 in
set_option maxRecDepth 100000 in
theorem c_X6_over {ad : Nat → Nat} {ta sa ca : Int → Nat} {D : va_G} {cI cT cS : ClassId} (st : Sg) (Y : Sg) (d : Int) (hA : Ag st Y) (hI : Inv Y) (i_d : -2147483648 ≤ d ∧ d < 2147483648) : MC (xw ad ta sa ca D cI cT cS) yX6_over cX6_over 2 (some .int) { frames := 6, cells := 0, slots := 0, locals := 145 } [.ref (ad 0), .int (iI d)] st (fun rv u => ∃ S : Sg, rv = some (.int (iI (OV Y d))) ∧ u = S ∧ (XS st S)) := by
  refine MC_intro RX6 (by decide) rfl (Nat.le_of_ble_eq_true rfl) ?_
  intro G H0 m hE hR
  refine k_lo [0, 1] (lo' := [(0, .ref (ad 0)), (1, .int (iI d))]) rfl ?_
  obtain ⟨hi0, hi1, hi2, hi3, hi4, hi5, hi6, hi7, hit, hir, him, hin⟩ := id hI
  refine k_iload_n hE dX6_over_0 1 rfl rfl ?_
  refine k_callS hE (c_X6_noDay st d (by omega)) ms_X6_noDay ml_X6_118 rfl ⟨rfl, rfl, Nat.le_of_ble_eq_true rfl, Nat.le_of_ble_eq_true rfl⟩ [] (Nat.le_of_ble_eq_true rfl) dX6_over_1 rfl (fun rv u hp => ?_)
  obtain ⟨z1, hv1, hu1, hz_1⟩ := hp
  refine k_sk (sk' := [.int (iI z1)]) (by rw [hv1]; rfl) ?_
  refine k_st st hu1 ?_
  refine k_if_eq hE 9 dX6_over_4 (by decide) (by unfold in32; omega) (fun c4 => ?_) (fun c4 => ?_)
  · refine k_aload_n hE dX6_over_9 0 rfl rfl ?_
    refine k_callV hE (c_X6_noYard st Y hA hI) mf_X6_noYard ml_X6_108 0 rfl rfl rfl rfl ⟨rfl, rfl, Nat.le_of_ble_eq_true rfl, Nat.le_of_ble_eq_true rfl⟩ [] (Nat.le_of_ble_eq_true rfl) dX6_over_10 rfl (fun rv u hp => ?_)
    obtain ⟨z2, hv10, hu10, hz_10⟩ := hp
    refine k_sk (sk' := [.int (iI z2)]) (by rw [hv10]; rfl) ?_
    refine k_st st hu10 ?_
    refine k_if_eq hE 19 dX6_over_13 (by decide) (by unfold in32; omega) (fun c13 => ?_) (fun c13 => ?_)
    · refine k_aload_n hE dX6_over_19 0 rfl rfl ?_
      refine k_iload_n hE dX6_over_20 1 rfl rfl ?_
      refine k_iconst hE dX6_over_21 ?_
      refine k_iadd hE dX6_over_22 ?_
      refine k_callV hE (c_X6_passAsTold st Y (d + 1) hA hI (by omega)) mf_X6_passAsTold ml_X6_134 0 rfl rfl rfl rfl ⟨rfl, rfl, Nat.le_of_ble_eq_true rfl, Nat.le_of_ble_eq_true rfl⟩ [] (Nat.le_of_ble_eq_true rfl) dX6_over_23 rfl (fun rv u hp => ?_)
      obtain ⟨S1, hv23, hu23, hx_23, hr_23, hO_23, er_23⟩ := hp
      refine k_sk (sk' := []) (by rw [hv23]; rfl) ?_
      refine k_st S1 hu23 ?_
      have hB : Ag S1 Y := hx_23.ag hA
      refine k_aload_n hE dX6_over_26 0 rfl rfl ?_
      refine x_get_X6_days hE fl_X6_23 dX6_over_27 ?_
      refine x_get_X0_overs hE fl_X6_145 dX6_over_30 ?_
      refine k_iload_n hE dX6_over_33 1 rfl rfl ?_
      refine x_ld_overs hE (z := S1.2 10 d) (by omega) (by omega) rfl dX6_over_34 ?_
      exact k_iret hR dX6_over_35 rfl ⟨S1, ret_i (by unfold OV; rw [if_neg (by omega), if_neg (by omega)]; exact Ran_over er_23 (by omega) (by omega)), rfl, hx_23⟩
    · refine k_bipush hE dX6_over_16 rfl ?_
      exact k_iret hR dX6_over_18 rfl ⟨st, ret_i (by unfold OV; (repeat (first | omega | split))), rfl, XS.refl st⟩
  · refine k_iconst hE dX6_over_7 ?_
    exact k_iret hR dX6_over_8 rfl ⟨st, ret_i (by unfold OV; (repeat (first | omega | split))), rfl, XS.refl st⟩

set_option maxHeartbeats 4000000 in
set_option maxRecDepth 100000 in
theorem c_X6_nobody {ad : Nat → Nat} {ta sa ca : Int → Nat} {D : va_G} {cI cT cS : ClassId} (st : Sg) (Y : Sg) (d : Int) (hA : Ag st Y) (hI : Inv Y) (i_d : -2147483648 ≤ d ∧ d < 2147483648) : MC (xw ad ta sa ca D cI cT cS) yX6_nobody cX6_nobody 2 (some .int) { frames := 6, cells := 0, slots := 0, locals := 145 } [.ref (ad 0), .int (iI d)] st (fun rv u => ∃ z : Int, ∃ S : Sg, rv = some (.int (iI (z))) ∧ u = S ∧ (NB Y d z) ∧ (XS st S)) := by
  refine MC_intro RX6 (by decide) rfl (Nat.le_of_ble_eq_true rfl) ?_
  intro G H0 m hE hR
  refine k_lo [0, 1] (lo' := [(0, .ref (ad 0)), (1, .int (iI d))]) rfl ?_
  obtain ⟨hi0, hi1, hi2, hi3, hi4, hi5, hi6, hi7, hit, hir, him, hin⟩ := id hI
  refine k_iconst hE dX6_nobody_0 ?_
  refine k_iload_n hE dX6_nobody_1 1 rfl rfl ?_
  refine k_bipush hE dX6_nobody_2 rfl ?_
  refine k_callS hE (c_X6_isNot st 0 d 10 (by omega) (by omega) (by omega)) ms_X6_isNot ml_X6_104 rfl ⟨rfl, rfl, Nat.le_of_ble_eq_true rfl, Nat.le_of_ble_eq_true rfl⟩ [] (Nat.le_of_ble_eq_true rfl) dX6_nobody_4 rfl (fun rv u hp => ?_)
  obtain ⟨z1, hv4, hu4, hz_4⟩ := hp
  refine k_sk (sk' := [.int (iI z1)]) (by rw [hv4]; rfl) ?_
  refine k_st st hu4 ?_
  refine k_if_eq hE 12 dX6_nobody_7 (by decide) (by unfold in32; omega) (fun c7 => ?_) (fun c7 => ?_)
  · refine k_aload_n hE dX6_nobody_12 0 rfl rfl ?_
    refine k_callV hE (c_X6_noYard st Y hA hI) mf_X6_noYard ml_X6_108 0 rfl rfl rfl rfl ⟨rfl, rfl, Nat.le_of_ble_eq_true rfl, Nat.le_of_ble_eq_true rfl⟩ [] (Nat.le_of_ble_eq_true rfl) dX6_nobody_13 rfl (fun rv u hp => ?_)
    obtain ⟨z2, hv13, hu13, hz_13⟩ := hp
    refine k_sk (sk' := [.int (iI z2)]) (by rw [hv13]; rfl) ?_
    refine k_st st hu13 ?_
    refine k_if_eq hE 22 dX6_nobody_16 (by decide) (by unfold in32; omega) (fun c16 => ?_) (fun c16 => ?_)
    · have w1 : ¬ (d < 0 ∨ 10 < d) := by omega
      have w2 : Y.1 0 ≠ 0 := by omega
      refine k_aload_n hE dX6_nobody_22 0 rfl rfl ?_
      refine k_iload_n hE dX6_nobody_23 1 rfl rfl ?_
      refine k_callV hE (c_X6_passAsTold st Y d hA hI (by omega)) mf_X6_passAsTold ml_X6_134 0 rfl rfl rfl rfl ⟨rfl, rfl, Nat.le_of_ble_eq_true rfl, Nat.le_of_ble_eq_true rfl⟩ [] (Nat.le_of_ble_eq_true rfl) dX6_nobody_24 rfl (fun rv u hp => ?_)
      obtain ⟨S1, hv24, hu24, hx_24, hr_24, hO_24, er_24⟩ := hp
      refine k_sk (sk' := []) (by rw [hv24]; rfl) ?_
      refine k_st S1 hu24 ?_
      have hB : Ag S1 Y := hx_24.ag hA
      refine k_aload_n hE dX6_nobody_27 0 rfl rfl ?_
      refine x_get_X6_yard hE fl_X6_12 dX6_nobody_28 ?_
      refine k_aload_n hE dX6_nobody_31 0 rfl rfl ?_
      refine x_get_X6_days hE fl_X6_23 dX6_nobody_32 ?_
      refine x_get_X0_levels hE fl_X6_142 dX6_nobody_35 ?_
      refine k_iload_n hE dX6_nobody_38 1 rfl rfl ?_
      refine x_ld_levels hE (z := S1.2 9 d) (by omega) (by omega) rfl dX6_nobody_39 ?_
      have hlv := Ran_lev er_24 (k := d) (by omega) (by omega)
      refine k_callV hE (c_X5_beneathAllTaps S1 Y (S1.2 9 d) hB hI (by omega)) mf_X5_beneathAllTaps ml_X6_148 1 rfl rfl rfl rfl ⟨rfl, rfl, Nat.le_of_ble_eq_true rfl, Nat.le_of_ble_eq_true rfl⟩ [] (Nat.le_of_ble_eq_true rfl) dX6_nobody_40 rfl (fun rv u hp => ?_)
      obtain ⟨z3, hv40, hu40, p0_40, p1_40, p2_40⟩ := hp
      refine k_sk (sk' := [.int (iI ((S1.2 9 d) - z3))]) (by rw [hv40]; rfl) ?_
      refine k_st S1 hu40 ?_
      refine k_iret hR dX6_nobody_43 rfl ?_
      refine ⟨((S1.2 9 d) - z3), S1, rfl, rfl, Or.inr (Or.inr ⟨w1, w2, ?_⟩), hx_24⟩
      rw [← hlv.1]
      refine ⟨by omega, fun f f0 f1 => ?_, ?_⟩
      · have h1 := p1_40 f f0 f1
        have hf := hit f f0 (by omega)
        have hm := mul99 hf.2.1 hi2
        unfold GV at h1
        omega
      · rcases p2_40 with h | ⟨f, f0, f1, h⟩
        · exact Or.inl (by omega)
        · have hf := hit f f0 (by omega)
          have hm := mul99 hf.2.1 hi2
          unfold GV at h
          by_cases e : S1.2 9 d - Y.2 1 f * Y.1 2 ≤ 0
          · exact Or.inl (by omega)
          · exact Or.inr ⟨f, f0, f1, by omega⟩
    · refine k_bipush hE dX6_nobody_19 rfl ?_
      exact k_iret hR dX6_nobody_21 rfl ⟨_, st, rfl, rfl, Or.inr (Or.inl ⟨by omega, by omega, rfl⟩), XS.refl st⟩
  · refine k_iconst hE dX6_nobody_10 ?_
    exact k_iret hR dX6_nobody_11 rfl ⟨_, st, rfl, rfl, Or.inl ⟨by omega, rfl⟩, XS.refl st⟩

set_option maxHeartbeats 4000000 in
set_option maxRecDepth 100000 in
theorem c_X6_dry {ad : Nat → Nat} {ta sa ca : Int → Nat} {D : va_G} {cI cT cS : ClassId} (st : Sg) (Y : Sg) (f : Int) (hA : Ag st Y) (hI : Inv Y) (i_f : -2147483648 ≤ f ∧ f < 2147483648) : MC (xw ad ta sa ca D cI cT cS) yX6_dry cX6_dry 2 (some .int) { frames := 6, cells := 0, slots := 0, locals := 145 } [.ref (ad 0), .int (iI f)] st (fun rv u => ∃ z : Int, ∃ S : Sg, rv = some (.int (iI (z))) ∧ u = S ∧ (DY Y f z) ∧ (XS st S)) := by
  refine MC_intro RX6 (by decide) rfl (Nat.le_of_ble_eq_true rfl) ?_
  intro G H0 m hE hR
  refine k_lo [0, 1] (lo' := [(0, .ref (ad 0)), (1, .int (iI f))]) rfl ?_
  obtain ⟨hi0, hi1, hi2, hi3, hi4, hi5, hi6, hi7, hit, hir, him, hin⟩ := id hI
  refine k_aload_n hE dX6_dry_0 0 rfl rfl ?_
  refine k_iload_n hE dX6_dry_1 1 rfl rfl ?_
  refine k_callV hE (c_X6_noTap st Y f hA hI (by omega)) mf_X6_noTap ml_X6_79 0 rfl rfl rfl rfl ⟨rfl, rfl, Nat.le_of_ble_eq_true rfl, Nat.le_of_ble_eq_true rfl⟩ [] (Nat.le_of_ble_eq_true rfl) dX6_dry_2 rfl (fun rv u hp => ?_)
  obtain ⟨z1, hv2, hu2, hz_2⟩ := hp
  refine k_sk (sk' := [.int (iI z1)]) (by rw [hv2]; rfl) ?_
  refine k_st st hu2 ?_
  refine k_if_eq hE 10 dX6_dry_5 (by decide) (by unfold in32; omega) (fun c5 => ?_) (fun c5 => ?_)
  · refine k_aload_n hE dX6_dry_10 0 rfl rfl ?_
    refine k_bipush hE dX6_dry_11 rfl ?_
    refine k_callV hE (c_X6_passAsTold st Y 10 hA hI (by omega)) mf_X6_passAsTold ml_X6_134 0 rfl rfl rfl rfl ⟨rfl, rfl, Nat.le_of_ble_eq_true rfl, Nat.le_of_ble_eq_true rfl⟩ [] (Nat.le_of_ble_eq_true rfl) dX6_dry_13 rfl (fun rv u hp => ?_)
    obtain ⟨S1, hv13, hu13, hx_13, hr_13, hO_13, er_13⟩ := hp
    refine k_sk (sk' := []) (by rw [hv13]; rfl) ?_
    refine k_st S1 hu13 ?_
    have hB : Ag S1 Y := hx_13.ag hA
    refine k_aload_n hE dX6_dry_16 0 rfl rfl ?_
    refine x_get_X6_days hE fl_X6_23 dX6_dry_17 ?_
    refine k_iload_n hE dX6_dry_20 1 rfl rfl ?_
    refine k_bipush hE dX6_dry_21 rfl ?_
    refine k_callV hE (c_X0_firstDry S1 Y f 10 hB hI (by omega) (by omega) (by omega) (fun k k0 k1 => by have hg := Ran_gD er_13 (f := f) (k := k) (by omega) (by omega) (by omega) (by omega); omega)) mf_X0_firstDry ml_X6_151 4 rfl rfl rfl rfl ⟨rfl, rfl, Nat.le_of_ble_eq_true rfl, Nat.le_of_ble_eq_true rfl⟩ [] (Nat.le_of_ble_eq_true rfl) dX6_dry_23 rfl (fun rv u hp => ?_)
    obtain ⟨z1, hv23, hu23, hz_23⟩ := hp
    refine k_sk (sk' := [.int (iI z1)]) (by rw [hv23]; rfl) ?_
    refine k_st S1 hu23 ?_
    refine k_iret hR dX6_dry_26 rfl ?_
    refine ⟨_, S1, rfl, rfl, Or.inr ⟨by omega, ?_⟩, hx_13⟩
    exact FD_cong hz_23 (fun k k0 k1 => (Ran_gD er_13 (by omega) (by omega) k0 (by omega)).1)
  · refine k_iconst hE dX6_dry_8 ?_
    exact k_iret hR dX6_dry_9 rfl ⟨_, st, rfl, rfl, Or.inl ⟨by omega, rfl⟩, XS.refl st⟩

set_option maxHeartbeats 4000000 in
set_option maxRecDepth 100000 in
theorem c_X6_can {ad : Nat → Nat} {ta sa ca : Int → Nat} {D : va_G} {cI cT cS : ClassId} (st : Sg) (Y : Sg) (n : Int) (hA : Ag st Y) (hI : Inv Y) (i_n : -2147483648 ≤ n ∧ n < 2147483648) : MC (xw ad ta sa ca D cI cT cS) yX6_can cX6_can 2 (some .int) { frames := 5, cells := 0, slots := 0, locals := 125 } [.ref (ad 0), .int (iI n)] st (fun rv u => ∃ z : Int, ∃ S : Sg, rv = some (.int (iI (z))) ∧ u = S ∧ (CN Y n z) ∧ (XS st S)) := by
  refine MC_intro RX6 (by decide) rfl (Nat.le_of_ble_eq_true rfl) ?_
  intro G H0 m hE hR
  refine k_lo [0, 1] (lo' := [(0, .ref (ad 0)), (1, .int (iI n))]) rfl ?_
  obtain ⟨hi0, hi1, hi2, hi3, hi4, hi5, hi6, hi7, hit, hir, him, hin⟩ := id hI
  refine k_iconst hE dX6_can_0 ?_
  refine k_iload_n hE dX6_can_1 1 rfl rfl ?_
  refine k_bipush hE dX6_can_2 rfl ?_
  refine k_callS hE (c_X6_isNot st 0 n 10 (by omega) (by omega) (by omega)) ms_X6_isNot ml_X6_104 rfl ⟨rfl, rfl, Nat.le_of_ble_eq_true rfl, Nat.le_of_ble_eq_true rfl⟩ [] (Nat.le_of_ble_eq_true rfl) dX6_can_4 rfl (fun rv u hp => ?_)
  obtain ⟨z1, hv4, hu4, hz_4⟩ := hp
  refine k_sk (sk' := [.int (iI z1)]) (by rw [hv4]; rfl) ?_
  refine k_st st hu4 ?_
  refine k_if_eq hE 13 dX6_can_7 (by decide) (by unfold in32; omega) (fun c7 => ?_) (fun c7 => ?_)
  · refine k_aload_n hE dX6_can_13 0 rfl rfl ?_
    refine k_callV hE (c_X6_noYard st Y hA hI) mf_X6_noYard ml_X6_108 0 rfl rfl rfl rfl ⟨rfl, rfl, Nat.le_of_ble_eq_true rfl, Nat.le_of_ble_eq_true rfl⟩ [] (Nat.le_of_ble_eq_true rfl) dX6_can_14 rfl (fun rv u hp => ?_)
    obtain ⟨z2, hv14, hu14, hz_14⟩ := hp
    refine k_sk (sk' := [.int (iI z2)]) (by rw [hv14]; rfl) ?_
    refine k_st st hu14 ?_
    refine k_if_eq hE 23 dX6_can_17 (by decide) (by unfold in32; omega) (fun c17 => ?_) (fun c17 => ?_)
    · refine k_aload_n hE dX6_can_23 0 rfl rfl ?_
      refine x_get_X6_days hE fl_X6_23 dX6_can_24 ?_
      refine k_aload_n hE dX6_can_27 0 rfl rfl ?_
      refine x_get_X6_yard hE fl_X6_12 dX6_can_28 ?_
      refine x_get_X5_firstWater hE (z := Y.1 3) (hA.1 3 (by decide)) fl_X6_115 dX6_can_31 ?_
      refine k_iload_n hE dX6_can_34 1 rfl rfl ?_
      refine k_callV hE (c_X0_allHaveNeeds st Y (Y.1 3) n hA hI (by omega) (by omega)) mf_X0_allHaveNeeds ml_X6_154 4 rfl rfl rfl rfl ⟨rfl, rfl, Nat.le_of_ble_eq_true rfl, Nat.le_of_ble_eq_true rfl⟩ [] (Nat.le_of_ble_eq_true rfl) dX6_can_35 rfl (fun rv u hp => ?_)
      obtain ⟨z1, S1, hv35, hu35, hz_35, hx_35⟩ := hp
      refine k_sk (sk' := [.int (iI z1)]) (by rw [hv35]; rfl) ?_
      refine k_st S1 hu35 ?_
      refine k_if_eq hE 45 dX6_can_38 (by decide) (by unfold in32; omega) (fun c38 => ?_) (fun c38 => ?_)
      · refine k_iconst hE dX6_can_45 ?_
        exact k_iret hR dX6_can_46 rfl ⟨_, S1, rfl, rfl, Or.inr (Or.inr ⟨by omega, by omega, by rcases hz_35 with h | h <;> first | exact Or.inl ⟨rfl, h.2⟩ | exact Or.inr ⟨rfl, h.2⟩ | omega⟩), hx_35⟩
      · refine k_iconst hE dX6_can_41 ?_
        refine k_goto hE 46 dX6_can_42 (by decide) ?_
        exact k_iret hR dX6_can_46 rfl ⟨_, S1, rfl, rfl, Or.inr (Or.inr ⟨by omega, by omega, by rcases hz_35 with h | h <;> first | exact Or.inl ⟨rfl, h.2⟩ | exact Or.inr ⟨rfl, h.2⟩ | omega⟩), hx_35⟩
    · refine k_bipush hE dX6_can_20 rfl ?_
      exact k_iret hR dX6_can_22 rfl ⟨_, st, rfl, rfl, Or.inr (Or.inl ⟨by omega, by omega, rfl⟩), XS.refl st⟩
  · refine k_bipush hE dX6_can_10 rfl ?_
    exact k_iret hR dX6_can_12 rfl ⟨_, st, rfl, rfl, Or.inl ⟨by omega, rfl⟩, XS.refl st⟩
