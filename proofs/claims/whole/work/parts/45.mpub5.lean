set_option maxHeartbeats 4000000 in
set_option maxRecDepth 100000 in
theorem c_X7_ofTap {ad : Nat → Nat} {D : va_G} {cI cZ : ClassId} (st : Sg) (Y : Sg) (f : Int) (x : Int) (hA : Ag st Y) (hI : Inv Y) (i_f : -2147483648 ≤ f ∧ f < 2147483648) (i_x : -2147483648 ≤ x ∧ x < 2147483648) : MC (mw ad D cI cZ) yX7_ofTap cX7_ofTap 3 (some .int) { frames := 1, cells := 0, slots := 0, locals := 21 } [.ref (ad 0), .int (iI f), .int (iI x)] st (fun rv u => rv = some (.int (iI (OT Y f x))) ∧ u = st) := by
  refine MC_intro RX7 (by decide) rfl (Nat.le_of_ble_eq_true rfl) ?_
  intro G H0 m hE hR
  refine k_lo [0, 1, 2] (lo' := [(0, .ref (ad 0)), (1, .int (iI f)), (2, .int (iI x))]) rfl ?_
  obtain ⟨hi0, hi1, hi2, hi3, hi4, hi5, hi6, hi7, hit, hir, him, hin⟩ := id hI
  refine k_aload_n hE dX7_ofTap_0 0 rfl rfl ?_
  refine k_iload_n hE dX7_ofTap_1 1 rfl rfl ?_
  refine k_callV hE (c_X7_isTap st Y f hA hI (by omega)) mf_X7_isTap ml_X7_139 0 rfl rfl rfl rfl ⟨rfl, rfl, Nat.le_of_ble_eq_true rfl, Nat.le_of_ble_eq_true rfl⟩ [] (Nat.le_of_ble_eq_true rfl) dX7_ofTap_2 rfl (fun rv u hp => ?_)
  obtain ⟨z1, hv2, hu2, hz_2⟩ := hp
  refine k_sk (sk' := [.int (iI z1)]) (by rw [hv2]; rfl) ?_
  refine k_st st hu2 ?_
  refine k_if_ne hE 10 dX7_ofTap_5 (by decide) (by unfold in32; omega) (fun c5 => ?_) (fun c5 => ?_)
  · refine k_iload_n hE dX7_ofTap_10 2 rfl rfl ?_
    by_cases q11 : x < 0 ∨ 4 < x
    · refine k_tabOut hE 78 dX7_ofTap_11 (by unfold in32; omega) q11 (by decide) ?_
      refine k_bipush hE dX7_ofTap_78 rfl ?_
      exact k_iret hR dX7_ofTap_80 rfl ⟨ret_i (by unfold OT; (repeat (first | omega | split))), rfl⟩
    rcases (show x = 0 ∨ x = 1 ∨ x = 2 ∨ x = 3 ∨ x = 4 by omega) with s11 | s11 | s11 | s11 | s11
    · refine k_tabIn hE 44 0 dX7_ofTap_11 s11 (by decide) (by decide) rfl (by decide) ?_
      refine k_aload_n hE dX7_ofTap_44 0 rfl rfl ?_
      refine m_get_kind hE fl_X7_19 dX7_ofTap_45 ?_
      refine k_iload_n hE dX7_ofTap_48 1 rfl rfl ?_
      refine m_ld_kind hE (z := Y.2 0 f) (by omega) (by omega) (congrFun (hA.2 0 (by decide)) f) dX7_ofTap_49 ?_
      exact k_iret hR dX7_ofTap_50 rfl ⟨ret_i (by unfold OT; (repeat (first | omega | split))), rfl⟩
    · refine k_tabIn hE 51 1 dX7_ofTap_11 s11 (by decide) (by decide) rfl (by decide) ?_
      refine k_aload_n hE dX7_ofTap_51 0 rfl rfl ?_
      refine m_get_height hE fl_X7_22 dX7_ofTap_52 ?_
      refine k_iload_n hE dX7_ofTap_55 1 rfl rfl ?_
      refine m_ld_height hE (z := Y.2 1 f) (by omega) (by omega) (congrFun (hA.2 1 (by decide)) f) dX7_ofTap_56 ?_
      exact k_iret hR dX7_ofTap_57 rfl ⟨ret_i (by unfold OT; (repeat (first | omega | split))), rfl⟩
    · refine k_tabIn hE 58 2 dX7_ofTap_11 s11 (by decide) (by decide) rfl (by decide) ?_
      refine k_aload_n hE dX7_ofTap_58 0 rfl rfl ?_
      refine m_get_need hE fl_X7_25 dX7_ofTap_59 ?_
      refine k_iload_n hE dX7_ofTap_62 1 rfl rfl ?_
      refine m_ld_need hE (z := Y.2 2 f) (by omega) (by omega) (congrFun (hA.2 2 (by decide)) f) dX7_ofTap_63 ?_
      exact k_iret hR dX7_ofTap_64 rfl ⟨ret_i (by unfold OT; (repeat (first | omega | split))), rfl⟩
    · refine k_tabIn hE 65 3 dX7_ofTap_11 s11 (by decide) (by decide) rfl (by decide) ?_
      refine k_aload_n hE dX7_ofTap_65 0 rfl rfl ?_
      refine m_get_speed hE fl_X7_28 dX7_ofTap_66 ?_
      refine k_iload_n hE dX7_ofTap_69 1 rfl rfl ?_
      refine m_ld_speed hE (z := Y.2 3 f) (by omega) (by omega) (congrFun (hA.2 3 (by decide)) f) dX7_ofTap_70 ?_
      exact k_iret hR dX7_ofTap_71 rfl ⟨ret_i (by unfold OT; (repeat (first | omega | split))), rfl⟩
    · refine k_tabIn hE 72 4 dX7_ofTap_11 s11 (by decide) (by decide) rfl (by decide) ?_
      refine k_aload_n hE dX7_ofTap_72 0 rfl rfl ?_
      refine k_iload_n hE dX7_ofTap_73 1 rfl rfl ?_
      refine k_callV hE (c_X7_wants st Y f hA.d hI (by omega) (by omega)) mf_X7_wants ml_X7_142 0 rfl rfl rfl rfl ⟨rfl, rfl, Nat.le_of_ble_eq_true rfl, Nat.le_of_ble_eq_true rfl⟩ [] (Nat.le_of_ble_eq_true rfl) dX7_ofTap_74 rfl (fun rv u hp => ?_)
      obtain ⟨hv74, hu74⟩ := hp
      refine k_sk (sk' := [.int (iI (WN Y f))]) (by rw [hv74]; rfl) ?_
      refine k_st st hu74 ?_
      exact k_iret hR dX7_ofTap_77 rfl ⟨ret_i (by unfold OT; (repeat (first | omega | split))), rfl⟩
  · refine k_iconst hE dX7_ofTap_8 ?_
    exact k_iret hR dX7_ofTap_9 rfl ⟨ret_i (by unfold OT; (repeat (first | omega | split))), rfl⟩

set_option maxHeartbeats 4000000 in
set_option maxRecDepth 100000 in
theorem c_X7_bore {ad : Nat → Nat} {D : va_G} {cI cZ : ClassId} (st : Sg) (Y : Sg) (f : Int) (h : Int) (hA : Ag st Y) (hI : Inv Y) (i_f : -2147483648 ≤ f ∧ f < 2147483648) (i_h : -2147483648 ≤ h ∧ h < 2147483648) : MC (mw ad D cI cZ) yX7_bore cX7_bore 4 (some .int) { frames := 1, cells := 0, slots := 0, locals := 22 } [.ref (ad 0), .int (iI f), .int (iI h)] st (fun rv u => ∃ z : Int, ∃ S : Sg, rv = some (.int (iI (z))) ∧ u = S ∧ (((f < 0 ∨ Y.1 0 ≤ f) ∧ z = -1 ∧ S = st) ∨ (¬ (f < 0 ∨ Y.1 0 ≤ f) ∧ (h < 0 ∨ 9 < h) ∧ z = -2 ∧ S = st) ∨ (¬ (f < 0 ∨ Y.1 0 ≤ f) ∧ ¬ (h < 0 ∨ 9 < h) ∧ z = Y.2 1 f ∧ S = (st.1, ur st.2 1 f h)))) := by
  refine MC_intro RX7 (by decide) rfl (Nat.le_of_ble_eq_true rfl) ?_
  intro G H0 m hE hR
  refine k_lo [0, 1, 2] (lo' := [(0, .ref (ad 0)), (1, .int (iI f)), (2, .int (iI h))]) rfl ?_
  obtain ⟨hi0, hi1, hi2, hi3, hi4, hi5, hi6, hi7, hit, hir, him, hin⟩ := id hI
  refine k_aload_n hE dX7_bore_0 0 rfl rfl ?_
  refine k_iload_n hE dX7_bore_1 1 rfl rfl ?_
  refine k_callV hE (c_X7_isTap st Y f hA hI (by omega)) mf_X7_isTap ml_X7_139 0 rfl rfl rfl rfl ⟨rfl, rfl, Nat.le_of_ble_eq_true rfl, Nat.le_of_ble_eq_true rfl⟩ [] (Nat.le_of_ble_eq_true rfl) dX7_bore_2 rfl (fun rv u hp => ?_)
  obtain ⟨z1, hv2, hu2, hz_2⟩ := hp
  refine k_sk (sk' := [.int (iI z1)]) (by rw [hv2]; rfl) ?_
  refine k_st st hu2 ?_
  refine k_if_ne hE 10 dX7_bore_5 (by decide) (by unfold in32; omega) (fun c5 => ?_) (fun c5 => ?_)
  · refine k_iload_n hE dX7_bore_10 2 rfl rfl ?_
    refine k_iconst hE dX7_bore_11 ?_
    refine k_bipush hE dX7_bore_12 rfl ?_
    refine k_callS hE (c_X7_within st h 0 9 (by omega) (by omega) (by omega)) ms_X7_within ml_X7_74 rfl ⟨rfl, rfl, Nat.le_of_ble_eq_true rfl, Nat.le_of_ble_eq_true rfl⟩ [] (Nat.le_of_ble_eq_true rfl) dX7_bore_14 rfl (fun rv u hp => ?_)
    obtain ⟨z2, hv14, hu14, hz_14⟩ := hp
    refine k_sk (sk' := [.int (iI z2)]) (by rw [hv14]; rfl) ?_
    refine k_st st hu14 ?_
    refine k_if_ne hE 23 dX7_bore_17 (by decide) (by unfold in32; omega) (fun c17 => ?_) (fun c17 => ?_)
    · refine k_aload_n hE dX7_bore_23 0 rfl rfl ?_
      refine m_get_height hE fl_X7_22 dX7_bore_24 ?_
      refine k_iload_n hE dX7_bore_27 1 rfl rfl ?_
      refine m_ld_height hE (z := Y.2 1 f) (by omega) (by omega) (congrFun (hA.2 1 (by decide)) f) dX7_bore_28 ?_
      refine k_istore_n hE dX7_bore_29 [1, 2, 3, 0] rfl (Nat.le_of_ble_eq_true rfl) (lo' := [(0, .ref (ad 0)), (1, .int (iI f)), (2, .int (iI h)), (3, .int (iI (Y.2 1 f)))]) rfl ?_
      refine k_aload_n hE dX7_bore_30 0 rfl rfl ?_
      refine m_get_height hE fl_X7_22 dX7_bore_31 ?_
      refine k_iload_n hE dX7_bore_34 1 rfl rfl ?_
      refine k_iload_n hE dX7_bore_35 2 rfl rfl ?_
      refine m_st_height hE (by omega) (by omega) dX7_bore_36 ?_
      refine k_st ((st.1, ur st.2 1 f h)) rfl ?_
      refine k_iload_n hE dX7_bore_37 3 rfl rfl ?_
      exact k_iret hR dX7_bore_38 rfl ⟨_, _, rfl, rfl, Or.inr (Or.inr (⟨by omega, by omega, rfl, rfl⟩))⟩
    · refine k_bipush hE dX7_bore_20 rfl ?_
      exact k_iret hR dX7_bore_22 rfl ⟨_, _, rfl, rfl, Or.inr (Or.inl ⟨by omega, by omega, rfl, rfl⟩)⟩
  · refine k_iconst hE dX7_bore_8 ?_
    exact k_iret hR dX7_bore_9 rfl ⟨_, _, rfl, rfl, Or.inl ⟨by omega, rfl, rfl⟩⟩

set_option maxHeartbeats 4000000 in
set_option maxRecDepth 100000 in
theorem c_X7_begin {ad : Nat → Nat} {D : va_G} {cI cZ : ClassId} (st : Sg) (Y : Sg) (v : Int) (hA : Ag st Y) (hI : Inv Y) (i_v : -2147483648 ≤ v ∧ v < 2147483648) : MC (mw ad D cI cZ) yX7_begin cX7_begin 3 (some .int) { frames := 1, cells := 0, slots := 0, locals := 22 } [.ref (ad 0), .int (iI v)] st (fun rv u => ∃ z : Int, ∃ S : Sg, rv = some (.int (iI (z))) ∧ u = S ∧ ((Y.1 0 = 0 ∧ z = -3 ∧ S = st) ∨ (Y.1 0 ≠ 0 ∧ (v < 0 ∨ Y.1 1 < v) ∧ z = -2 ∧ S = st) ∨ (Y.1 0 ≠ 0 ∧ ¬ (v < 0 ∨ Y.1 1 < v) ∧ z = Y.1 3 ∧ S = (uv st.1 3 v, st.2)))) := by
  refine MC_intro RX7 (by decide) rfl (Nat.le_of_ble_eq_true rfl) ?_
  intro G H0 m hE hR
  refine k_lo [0, 1] (lo' := [(0, .ref (ad 0)), (1, .int (iI v))]) rfl ?_
  obtain ⟨hi0, hi1, hi2, hi3, hi4, hi5, hi6, hi7, hit, hir, him, hin⟩ := id hI
  refine k_aload_n hE dX7_begin_0 0 rfl rfl ?_
  refine m_get_taps hE (z := Y.1 0) (hA.1 0 (by decide)) fl_X7_78 dX7_begin_1 ?_
  refine k_if_ne hE 10 dX7_begin_4 (by decide) (by unfold in32; omega) (fun c4 => ?_) (fun c4 => ?_)
  · refine k_iload_n hE dX7_begin_10 1 rfl rfl ?_
    refine k_iconst hE dX7_begin_11 ?_
    refine k_aload_n hE dX7_begin_12 0 rfl rfl ?_
    refine m_get_cap hE (z := Y.1 1) (hA.1 1 (by decide)) fl_X7_105 dX7_begin_13 ?_
    refine k_callS hE (c_X7_within st v 0 (Y.1 1) (by omega) (by omega) (by omega)) ms_X7_within ml_X7_74 rfl ⟨rfl, rfl, Nat.le_of_ble_eq_true rfl, Nat.le_of_ble_eq_true rfl⟩ [] (Nat.le_of_ble_eq_true rfl) dX7_begin_16 rfl (fun rv u hp => ?_)
    obtain ⟨z1, hv16, hu16, hz_16⟩ := hp
    refine k_sk (sk' := [.int (iI z1)]) (by rw [hv16]; rfl) ?_
    refine k_st st hu16 ?_
    refine k_if_ne hE 25 dX7_begin_19 (by decide) (by unfold in32; omega) (fun c19 => ?_) (fun c19 => ?_)
    · refine k_aload_n hE dX7_begin_25 0 rfl rfl ?_
      refine m_get_first hE (z := Y.1 3) (hA.1 3 (by decide)) fl_X7_117 dX7_begin_26 ?_
      refine k_istore_n hE dX7_begin_29 [1, 2, 0] rfl (Nat.le_of_ble_eq_true rfl) (lo' := [(0, .ref (ad 0)), (1, .int (iI v)), (2, .int (iI (Y.1 3)))]) rfl ?_
      refine k_aload_n hE dX7_begin_30 0 rfl rfl ?_
      refine k_iload_n hE dX7_begin_31 1 rfl rfl ?_
      refine m_put_first hE fl_X7_117 dX7_begin_32 ?_
      refine k_st ((uv st.1 3 v, st.2)) rfl ?_
      refine k_iload_n hE dX7_begin_35 2 rfl rfl ?_
      exact k_iret hR dX7_begin_36 rfl ⟨_, _, rfl, rfl, Or.inr (Or.inr (⟨by omega, by omega, rfl, rfl⟩))⟩
    · refine k_bipush hE dX7_begin_22 rfl ?_
      exact k_iret hR dX7_begin_24 rfl ⟨_, _, rfl, rfl, Or.inr (Or.inl ⟨by omega, by omega, rfl, rfl⟩)⟩
  · refine k_bipush hE dX7_begin_7 rfl ?_
    exact k_iret hR dX7_begin_9 rfl ⟨_, _, rfl, rfl, Or.inl ⟨by omega, rfl, rfl⟩⟩

set_option maxHeartbeats 4000000 in
set_option maxRecDepth 100000 in
theorem c_X7_rain {ad : Nat → Nat} {D : va_G} {cI cZ : ClassId} (st : Sg) (Y : Sg) (d : Int) (v : Int) (hA : Ag st Y) (hI : Inv Y) (i_d : -2147483648 ≤ d ∧ d < 2147483648) (i_v : -2147483648 ≤ v ∧ v < 2147483648) : MC (mw ad D cI cZ) yX7_rain cX7_rain 4 (some .int) { frames := 2, cells := 0, slots := 0, locals := 42 } [.ref (ad 0), .int (iI d), .int (iI v)] st (fun rv u => ∃ z : Int, ∃ S : Sg, rv = some (.int (iI (z))) ∧ u = S ∧ (((d < 0 ∨ 9 < d) ∧ z = -1 ∧ S = st) ∨ (¬ (d < 0 ∨ 9 < d) ∧ (v < 0 ∨ 99 < v) ∧ z = -2 ∧ S = st) ∨ (¬ (d < 0 ∨ 9 < d) ∧ ¬ (v < 0 ∨ 99 < v) ∧ Y.1 0 = 0 ∧ z = -3 ∧ S = st) ∨ (¬ (d < 0 ∨ 9 < d) ∧ ¬ (v < 0 ∨ 99 < v) ∧ Y.1 0 ≠ 0 ∧ z = Y.2 4 d ∧ S = (st.1, ur st.2 4 d v)))) := by
  refine MC_intro RX7 (by decide) rfl (Nat.le_of_ble_eq_true rfl) ?_
  intro G H0 m hE hR
  refine k_lo [0, 1, 2] (lo' := [(0, .ref (ad 0)), (1, .int (iI d)), (2, .int (iI v))]) rfl ?_
  obtain ⟨hi0, hi1, hi2, hi3, hi4, hi5, hi6, hi7, hit, hir, him, hin⟩ := id hI
  refine k_iload_n hE dX7_rain_0 1 rfl rfl ?_
  refine k_callS hE (c_X7_isDay st d (by omega)) ms_X7_isDay ml_X7_145 rfl ⟨rfl, rfl, Nat.le_of_ble_eq_true rfl, Nat.le_of_ble_eq_true rfl⟩ [] (Nat.le_of_ble_eq_true rfl) dX7_rain_1 rfl (fun rv u hp => ?_)
  obtain ⟨z1, hv1, hu1, hz_1⟩ := hp
  refine k_sk (sk' := [.int (iI z1)]) (by rw [hv1]; rfl) ?_
  refine k_st st hu1 ?_
  refine k_if_ne hE 9 dX7_rain_4 (by decide) (by unfold in32; omega) (fun c4 => ?_) (fun c4 => ?_)
  · refine k_iload_n hE dX7_rain_9 2 rfl rfl ?_
    refine k_iconst hE dX7_rain_10 ?_
    refine k_bipush hE dX7_rain_11 rfl ?_
    refine k_callS hE (c_X7_within st v 0 99 (by omega) (by omega) (by omega)) ms_X7_within ml_X7_74 rfl ⟨rfl, rfl, Nat.le_of_ble_eq_true rfl, Nat.le_of_ble_eq_true rfl⟩ [] (Nat.le_of_ble_eq_true rfl) dX7_rain_13 rfl (fun rv u hp => ?_)
    obtain ⟨z2, hv13, hu13, hz_13⟩ := hp
    refine k_sk (sk' := [.int (iI z2)]) (by rw [hv13]; rfl) ?_
    refine k_st st hu13 ?_
    refine k_if_ne hE 22 dX7_rain_16 (by decide) (by unfold in32; omega) (fun c16 => ?_) (fun c16 => ?_)
    · refine k_aload_n hE dX7_rain_22 0 rfl rfl ?_
      refine m_get_taps hE (z := Y.1 0) (hA.1 0 (by decide)) fl_X7_78 dX7_rain_23 ?_
      refine k_if_ne hE 32 dX7_rain_26 (by decide) (by unfold in32; omega) (fun c26 => ?_) (fun c26 => ?_)
      · refine k_aload_n hE dX7_rain_32 0 rfl rfl ?_
        refine m_get_rainOf hE fl_X7_31 dX7_rain_33 ?_
        refine k_iload_n hE dX7_rain_36 1 rfl rfl ?_
        refine m_ld_rainOf hE (z := Y.2 4 d) (by omega) (by omega) (congrFun (hA.2 4 (by decide)) d) dX7_rain_37 ?_
        refine k_istore_n hE dX7_rain_38 [1, 2, 3, 0] rfl (Nat.le_of_ble_eq_true rfl) (lo' := [(0, .ref (ad 0)), (1, .int (iI d)), (2, .int (iI v)), (3, .int (iI (Y.2 4 d)))]) rfl ?_
        refine k_aload_n hE dX7_rain_39 0 rfl rfl ?_
        refine m_get_rainOf hE fl_X7_31 dX7_rain_40 ?_
        refine k_iload_n hE dX7_rain_43 1 rfl rfl ?_
        refine k_iload_n hE dX7_rain_44 2 rfl rfl ?_
        refine m_st_rainOf hE (by omega) (by omega) dX7_rain_45 ?_
        refine k_st ((st.1, ur st.2 4 d v)) rfl ?_
        refine k_iload_n hE dX7_rain_46 3 rfl rfl ?_
        exact k_iret hR dX7_rain_47 rfl ⟨_, _, rfl, rfl, Or.inr (Or.inr (Or.inr (⟨by omega, by omega, by omega, rfl, rfl⟩)))⟩
      · refine k_bipush hE dX7_rain_29 rfl ?_
        exact k_iret hR dX7_rain_31 rfl ⟨_, _, rfl, rfl, Or.inr (Or.inr (Or.inl ⟨by omega, by omega, by omega, rfl, rfl⟩))⟩
    · refine k_bipush hE dX7_rain_19 rfl ?_
      exact k_iret hR dX7_rain_21 rfl ⟨_, _, rfl, rfl, Or.inr (Or.inl ⟨by omega, by omega, rfl, rfl⟩)⟩
  · refine k_iconst hE dX7_rain_7 ?_
    exact k_iret hR dX7_rain_8 rfl ⟨_, _, rfl, rfl, Or.inl ⟨by omega, rfl, rfl⟩⟩

set_option maxHeartbeats 4000000 in
set_option maxRecDepth 100000 in
theorem c_X7_law {ad : Nat → Nat} {D : va_G} {cI cZ : ClassId} (st : Sg) (Y : Sg) (v : Int) (hA : Ag st Y) (hI : Inv Y) (i_v : -2147483648 ≤ v ∧ v < 2147483648) : MC (mw ad D cI cZ) yX7_law cX7_law 3 (some .int) { frames := 1, cells := 0, slots := 0, locals := 22 } [.ref (ad 0), .int (iI v)] st (fun rv u => ∃ z : Int, ∃ S : Sg, rv = some (.int (iI (z))) ∧ u = S ∧ (((v < 0 ∨ 2 < v) ∧ z = -2 ∧ S = st) ∨ (¬ (v < 0 ∨ 2 < v) ∧ Y.1 0 = 0 ∧ z = -3 ∧ S = st) ∨ (¬ (v < 0 ∨ 2 < v) ∧ Y.1 0 ≠ 0 ∧ z = Y.1 4 ∧ S = (uv st.1 4 v, st.2)))) := by
  refine MC_intro RX7 (by decide) rfl (Nat.le_of_ble_eq_true rfl) ?_
  intro G H0 m hE hR
  refine k_lo [0, 1] (lo' := [(0, .ref (ad 0)), (1, .int (iI v))]) rfl ?_
  obtain ⟨hi0, hi1, hi2, hi3, hi4, hi5, hi6, hi7, hit, hir, him, hin⟩ := id hI
  refine k_iload_n hE dX7_law_0 1 rfl rfl ?_
  refine k_iconst hE dX7_law_1 ?_
  refine k_iconst hE dX7_law_2 ?_
  refine k_callS hE (c_X7_within st v 0 2 (by omega) (by omega) (by omega)) ms_X7_within ml_X7_74 rfl ⟨rfl, rfl, Nat.le_of_ble_eq_true rfl, Nat.le_of_ble_eq_true rfl⟩ [] (Nat.le_of_ble_eq_true rfl) dX7_law_3 rfl (fun rv u hp => ?_)
  obtain ⟨z1, hv3, hu3, hz_3⟩ := hp
  refine k_sk (sk' := [.int (iI z1)]) (by rw [hv3]; rfl) ?_
  refine k_st st hu3 ?_
  refine k_if_ne hE 12 dX7_law_6 (by decide) (by unfold in32; omega) (fun c6 => ?_) (fun c6 => ?_)
  · refine k_aload_n hE dX7_law_12 0 rfl rfl ?_
    refine m_get_taps hE (z := Y.1 0) (hA.1 0 (by decide)) fl_X7_78 dX7_law_13 ?_
    refine k_if_ne hE 22 dX7_law_16 (by decide) (by unfold in32; omega) (fun c16 => ?_) (fun c16 => ?_)
    · refine k_aload_n hE dX7_law_22 0 rfl rfl ?_
      refine m_get_lawNow hE (z := Y.1 4) (hA.1 4 (by decide)) fl_X7_120 dX7_law_23 ?_
      refine k_istore_n hE dX7_law_26 [1, 2, 0] rfl (Nat.le_of_ble_eq_true rfl) (lo' := [(0, .ref (ad 0)), (1, .int (iI v)), (2, .int (iI (Y.1 4)))]) rfl ?_
      refine k_aload_n hE dX7_law_27 0 rfl rfl ?_
      refine k_iload_n hE dX7_law_28 1 rfl rfl ?_
      refine m_put_lawNow hE fl_X7_120 dX7_law_29 ?_
      refine k_st ((uv st.1 4 v, st.2)) rfl ?_
      refine k_iload_n hE dX7_law_32 2 rfl rfl ?_
      exact k_iret hR dX7_law_33 rfl ⟨_, _, rfl, rfl, Or.inr (Or.inr (⟨by omega, by omega, rfl, rfl⟩))⟩
    · refine k_bipush hE dX7_law_19 rfl ?_
      exact k_iret hR dX7_law_21 rfl ⟨_, _, rfl, rfl, Or.inr (Or.inl ⟨by omega, by omega, rfl, rfl⟩)⟩
  · refine k_bipush hE dX7_law_9 rfl ?_
    exact k_iret hR dX7_law_11 rfl ⟨_, _, rfl, rfl, Or.inl ⟨by omega, rfl, rfl⟩⟩

set_option maxHeartbeats 4000000 in
set_option maxRecDepth 100000 in
theorem c_X7_leak {ad : Nat → Nat} {D : va_G} {cI cZ : ClassId} (st : Sg) (Y : Sg) (h : Int) (v : Int) (hA : Ag st Y) (hI : Inv Y) (i_h : -2147483648 ≤ h ∧ h < 2147483648) (i_v : -2147483648 ≤ v ∧ v < 2147483648) : MC (mw ad D cI cZ) yX7_leak cX7_leak 4 (some .int) { frames := 1, cells := 0, slots := 0, locals := 22 } [.ref (ad 0), .int (iI h), .int (iI v)] st (fun rv u => ∃ z : Int, ∃ S : Sg, rv = some (.int (iI (z))) ∧ u = S ∧ ((((h < 0 ∨ 9 < h) ∨ (v < 0 ∨ 9 < v)) ∧ z = -2 ∧ S = st) ∨ (¬ ((h < 0 ∨ 9 < h) ∨ (v < 0 ∨ 9 < v)) ∧ Y.1 0 = 0 ∧ z = -3 ∧ S = st) ∨ (¬ ((h < 0 ∨ 9 < h) ∨ (v < 0 ∨ 9 < v)) ∧ Y.1 0 ≠ 0 ∧ z = 10 * Y.1 5 + Y.1 6 ∧ S = (uv (uv st.1 5 h) 6 v, st.2)))) := by
  refine MC_intro RX7 (by decide) rfl (Nat.le_of_ble_eq_true rfl) ?_
  intro G H0 m hE hR
  refine k_lo [0, 1, 2] (lo' := [(0, .ref (ad 0)), (1, .int (iI h)), (2, .int (iI v))]) rfl ?_
  obtain ⟨hi0, hi1, hi2, hi3, hi4, hi5, hi6, hi7, hit, hir, him, hin⟩ := id hI
  refine k_iload_n hE dX7_leak_0 1 rfl rfl ?_
  refine k_iconst hE dX7_leak_1 ?_
  refine k_bipush hE dX7_leak_2 rfl ?_
  refine k_callS hE (c_X7_within st h 0 9 (by omega) (by omega) (by omega)) ms_X7_within ml_X7_74 rfl ⟨rfl, rfl, Nat.le_of_ble_eq_true rfl, Nat.le_of_ble_eq_true rfl⟩ [] (Nat.le_of_ble_eq_true rfl) dX7_leak_4 rfl (fun rv u hp => ?_)
  obtain ⟨z1, hv4, hu4, hz_4⟩ := hp
  refine k_sk (sk' := [.int (iI z1)]) (by rw [hv4]; rfl) ?_
  refine k_st st hu4 ?_
  refine k_if_eq hE 20 dX7_leak_7 (by decide) (by unfold in32; omega) (fun c7 => ?_) (fun c7 => ?_)
  · refine k_bipush hE dX7_leak_20 rfl ?_
    exact k_iret hR dX7_leak_22 rfl ⟨_, _, rfl, rfl, Or.inl ⟨by omega, rfl, rfl⟩⟩
  · refine k_iload_n hE dX7_leak_10 2 rfl rfl ?_
    refine k_iconst hE dX7_leak_11 ?_
    refine k_bipush hE dX7_leak_12 rfl ?_
    refine k_callS hE (c_X7_within st v 0 9 (by omega) (by omega) (by omega)) ms_X7_within ml_X7_74 rfl ⟨rfl, rfl, Nat.le_of_ble_eq_true rfl, Nat.le_of_ble_eq_true rfl⟩ [] (Nat.le_of_ble_eq_true rfl) dX7_leak_14 rfl (fun rv u hp => ?_)
    obtain ⟨z2, hv14, hu14, hz_14⟩ := hp
    refine k_sk (sk' := [.int (iI z2)]) (by rw [hv14]; rfl) ?_
    refine k_st st hu14 ?_
    refine k_if_ne hE 23 dX7_leak_17 (by decide) (by unfold in32; omega) (fun c17 => ?_) (fun c17 => ?_)
    · refine k_aload_n hE dX7_leak_23 0 rfl rfl ?_
      refine m_get_taps hE (z := Y.1 0) (hA.1 0 (by decide)) fl_X7_78 dX7_leak_24 ?_
      refine k_if_ne hE 33 dX7_leak_27 (by decide) (by unfold in32; omega) (fun c27 => ?_) (fun c27 => ?_)
      · refine k_bipush hE dX7_leak_33 rfl ?_
        refine k_aload_n hE dX7_leak_35 0 rfl rfl ?_
        refine m_get_leakAt hE (z := Y.1 5) (hA.1 5 (by decide)) fl_X7_123 dX7_leak_36 ?_
        refine k_imul hE dX7_leak_39 ?_
        refine k_aload_n hE dX7_leak_40 0 rfl rfl ?_
        refine m_get_leaks hE (z := Y.1 6) (hA.1 6 (by decide)) fl_X7_126 dX7_leak_41 ?_
        refine k_iadd hE dX7_leak_44 ?_
        refine k_istore_n hE dX7_leak_45 [1, 2, 3, 0] rfl (Nat.le_of_ble_eq_true rfl) (lo' := [(0, .ref (ad 0)), (1, .int (iI h)), (2, .int (iI v)), (3, .int (iI ((10 * (Y.1 5)) + (Y.1 6))))]) rfl ?_
        refine k_aload_n hE dX7_leak_46 0 rfl rfl ?_
        refine k_iload_n hE dX7_leak_47 1 rfl rfl ?_
        refine m_put_leakAt hE fl_X7_123 dX7_leak_48 ?_
        refine k_st ((uv st.1 5 h, st.2)) rfl ?_
        refine k_aload_n hE dX7_leak_51 0 rfl rfl ?_
        refine k_iload_n hE dX7_leak_52 2 rfl rfl ?_
        refine m_put_leaks hE fl_X7_126 dX7_leak_53 ?_
        refine k_st ((uv (uv st.1 5 h) 6 v, st.2)) rfl ?_
        refine k_iload_n hE dX7_leak_56 3 rfl rfl ?_
        exact k_iret hR dX7_leak_57 rfl ⟨_, _, rfl, rfl, Or.inr (Or.inr (⟨by omega, by omega, rfl, rfl⟩))⟩
      · refine k_bipush hE dX7_leak_30 rfl ?_
        exact k_iret hR dX7_leak_32 rfl ⟨_, _, rfl, rfl, Or.inr (Or.inl ⟨by omega, by omega, rfl, rfl⟩)⟩
    · refine k_bipush hE dX7_leak_20 rfl ?_
      exact k_iret hR dX7_leak_22 rfl ⟨_, _, rfl, rfl, Or.inl ⟨by omega, rfl, rfl⟩⟩

set_option maxHeartbeats 4000000 in
set_option maxRecDepth 100000 in
theorem c_X7_knock {ad : Nat → Nat} {D : va_G} {cI cZ : ClassId} (st : Sg) (Y : Sg) (f : Int) (hA : Ag st Y) (hI : Inv Y) (i_f : -2147483648 ≤ f ∧ f < 2147483648) : MC (mw ad D cI cZ) yX7_knock cX7_knock 2 (some .int) { frames := 1, cells := 0, slots := 0, locals := 21 } [.ref (ad 0), .int (iI f)] st (fun rv u => ∃ z : Int, ∃ S : Sg, rv = some (.int (iI (z))) ∧ u = S ∧ (((f < 0 ∨ Y.1 0 ≤ f) ∧ z = -1 ∧ S = st) ∨ (¬ (f < 0 ∨ Y.1 0 ≤ f) ∧ Y.2 0 f = 2 ∧ z = 70 ∧ S = (uv st.1 8 (31 * st.1 8 + 5), st.2)) ∨ (¬ (f < 0 ∨ Y.1 0 ≤ f) ∧ Y.2 0 f ≠ 2 ∧ z = f ∧ S = (uv st.1 8 (31 * st.1 8 + 4), st.2)))) := by
  refine MC_intro RX7 (by decide) rfl (Nat.le_of_ble_eq_true rfl) ?_
  intro G H0 m hE hR
  refine k_lo [0, 1] (lo' := [(0, .ref (ad 0)), (1, .int (iI f))]) rfl ?_
  obtain ⟨hi0, hi1, hi2, hi3, hi4, hi5, hi6, hi7, hit, hir, him, hin⟩ := id hI
  refine k_aload_n hE dX7_knock_0 0 rfl rfl ?_
  refine k_iload_n hE dX7_knock_1 1 rfl rfl ?_
  refine k_callV hE (c_X7_isTap st Y f hA hI (by omega)) mf_X7_isTap ml_X7_139 0 rfl rfl rfl rfl ⟨rfl, rfl, Nat.le_of_ble_eq_true rfl, Nat.le_of_ble_eq_true rfl⟩ [] (Nat.le_of_ble_eq_true rfl) dX7_knock_2 rfl (fun rv u hp => ?_)
  obtain ⟨z1, hv2, hu2, hz_2⟩ := hp
  refine k_sk (sk' := [.int (iI z1)]) (by rw [hv2]; rfl) ?_
  refine k_st st hu2 ?_
  refine k_if_ne hE 10 dX7_knock_5 (by decide) (by unfold in32; omega) (fun c5 => ?_) (fun c5 => ?_)
  · have hk := hit f (by omega) (by omega)
    refine k_aload_n hE dX7_knock_10 0 rfl rfl ?_
    refine k_aload_n hE dX7_knock_11 0 rfl rfl ?_
    refine m_get_kind hE fl_X7_19 dX7_knock_12 ?_
    refine k_iload_n hE dX7_knock_15 1 rfl rfl ?_
    refine m_ld_kind hE (z := Y.2 0 f) (by omega) (by omega) (congrFun (hA.2 0 (by decide)) f) dX7_knock_16 ?_
    refine k_iconst hE dX7_knock_17 ?_
    refine k_icmp_ne hE 25 dX7_knock_18 (by decide) (by unfold in32; omega) (by unfold in32; omega) (fun c18 => ?_) (fun c18 => ?_)
    · refine k_iconst hE dX7_knock_25 ?_
      refine k_callV hE (c_X7_begins st 4) mf_X7_begins ml_X7_220 0 rfl rfl rfl rfl ⟨rfl, rfl, Nat.le_of_ble_eq_true rfl, Nat.le_of_ble_eq_true rfl⟩ [] (Nat.le_of_ble_eq_true rfl) dX7_knock_26 rfl (fun rv u hp => ?_)
      obtain ⟨hv26, hu26⟩ := hp
      refine k_sk (sk' := []) (by rw [hv26]; rfl) ?_
      refine k_st ((uv st.1 8 (31 * st.1 8 + 4), st.2)) hu26 ?_
      refine k_aload_n hE dX7_knock_29 0 rfl rfl ?_
      refine m_get_kind hE fl_X7_19 dX7_knock_30 ?_
      refine k_iload_n hE dX7_knock_33 1 rfl rfl ?_
      refine m_ld_kind hE (z := Y.2 0 f) (by omega) (by omega) (congrFun (hA.2 0 (by decide)) f) dX7_knock_34 ?_
      refine k_iconst hE dX7_knock_35 ?_
      refine k_icmp_ne hE 44 dX7_knock_36 (by decide) (by unfold in32; omega) (by unfold in32; omega) (fun c36 => ?_) (fun c36 => ?_)
      · refine k_iload_n hE dX7_knock_44 1 rfl rfl ?_
        refine k_iret hR dX7_knock_45 rfl ?_
        first | exact ⟨_, _, rfl, rfl, Or.inr (Or.inl ⟨by omega, by omega, rfl, rfl⟩)⟩ | exact ⟨_, _, rfl, rfl, Or.inr (Or.inr (⟨by omega, by omega, rfl, rfl⟩))⟩ | (exfalso; omega)
      · refine k_bipush hE dX7_knock_39 rfl ?_
        refine k_goto hE 45 dX7_knock_41 (by decide) ?_
        refine k_iret hR dX7_knock_45 rfl ?_
        first | exact ⟨_, _, rfl, rfl, Or.inr (Or.inl ⟨by omega, by omega, rfl, rfl⟩)⟩ | exact ⟨_, _, rfl, rfl, Or.inr (Or.inr (⟨by omega, by omega, rfl, rfl⟩))⟩ | (exfalso; omega)
    · refine k_iconst hE dX7_knock_21 ?_
      refine k_goto hE 26 dX7_knock_22 (by decide) ?_
      refine k_callV hE (c_X7_begins st 5) mf_X7_begins ml_X7_220 0 rfl rfl rfl rfl ⟨rfl, rfl, Nat.le_of_ble_eq_true rfl, Nat.le_of_ble_eq_true rfl⟩ [] (Nat.le_of_ble_eq_true rfl) dX7_knock_26 rfl (fun rv u hp => ?_)
      obtain ⟨hv26, hu26⟩ := hp
      refine k_sk (sk' := []) (by rw [hv26]; rfl) ?_
      refine k_st ((uv st.1 8 (31 * st.1 8 + 5), st.2)) hu26 ?_
      refine k_aload_n hE dX7_knock_29 0 rfl rfl ?_
      refine m_get_kind hE fl_X7_19 dX7_knock_30 ?_
      refine k_iload_n hE dX7_knock_33 1 rfl rfl ?_
      refine m_ld_kind hE (z := Y.2 0 f) (by omega) (by omega) (congrFun (hA.2 0 (by decide)) f) dX7_knock_34 ?_
      refine k_iconst hE dX7_knock_35 ?_
      refine k_icmp_ne hE 44 dX7_knock_36 (by decide) (by unfold in32; omega) (by unfold in32; omega) (fun c36 => ?_) (fun c36 => ?_)
      · refine k_iload_n hE dX7_knock_44 1 rfl rfl ?_
        refine k_iret hR dX7_knock_45 rfl ?_
        first | exact ⟨_, _, rfl, rfl, Or.inr (Or.inl ⟨by omega, by omega, rfl, rfl⟩)⟩ | exact ⟨_, _, rfl, rfl, Or.inr (Or.inr (⟨by omega, by omega, rfl, rfl⟩))⟩ | (exfalso; omega)
      · refine k_bipush hE dX7_knock_39 rfl ?_
        refine k_goto hE 45 dX7_knock_41 (by decide) ?_
        refine k_iret hR dX7_knock_45 rfl ?_
        first | exact ⟨_, _, rfl, rfl, Or.inr (Or.inl ⟨by omega, by omega, rfl, rfl⟩)⟩ | exact ⟨_, _, rfl, rfl, Or.inr (Or.inr (⟨by omega, by omega, rfl, rfl⟩))⟩ | (exfalso; omega)
  · refine k_iconst hE dX7_knock_8 ?_
    exact k_iret hR dX7_knock_9 rfl ⟨_, _, rfl, rfl, Or.inl ⟨by omega, rfl, rfl⟩⟩

set_option maxHeartbeats 4000000 in
set_option maxRecDepth 100000 in
theorem c_X7_as {ad : Nat → Nat} {D : va_G} {cI cZ : ClassId} (st : Sg) (Y : Sg) (f : Int) (x : Int) (hA : Ag st Y) (hI : Inv Y) (i_f : -2147483648 ≤ f ∧ f < 2147483648) (i_x : -2147483648 ≤ x ∧ x < 2147483648) : MC (mw ad D cI cZ) yX7_as cX7_as 3 (some .int) { frames := 1, cells := 0, slots := 0, locals := 22 } [.ref (ad 0), .int (iI f), .int (iI x)] st (fun rv u => ∃ z : Int, ∃ S : Sg, rv = some (.int (iI (z))) ∧ u = S ∧ (((f < 0 ∨ Y.1 0 ≤ f) ∧ z = -1 ∧ S = (uv st.1 9 0, st.2)) ∨ (¬ (f < 0 ∨ Y.1 0 ≤ f) ∧ (x < 0 ∨ 2 < x) ∧ z = -2 ∧ S = (uv st.1 9 0, st.2)) ∨ (¬ (f < 0 ∨ Y.1 0 ≤ f) ∧ ¬ (x < 0 ∨ 2 < x) ∧ Y.2 0 f < x ∧ z = -12 ∧ S = (uv (uv st.1 9 0) 9 2, st.2)) ∨ (¬ (f < 0 ∨ Y.1 0 ≤ f) ∧ ¬ (x < 0 ∨ 2 < x) ∧ ¬ Y.2 0 f < x ∧ z = 1 ∧ S = (uv st.1 9 0, st.2)))) := by
  refine MC_intro RX7 (by decide) rfl (Nat.le_of_ble_eq_true rfl) ?_
  intro G H0 m hE hR
  refine k_lo [0, 1, 2] (lo' := [(0, .ref (ad 0)), (1, .int (iI f)), (2, .int (iI x))]) rfl ?_
  obtain ⟨hi0, hi1, hi2, hi3, hi4, hi5, hi6, hi7, hit, hir, him, hin⟩ := id hI
  refine k_aload_n hE dX7_as_0 0 rfl rfl ?_
  refine k_iconst hE dX7_as_1 ?_
  refine m_put_fault hE fl_X7_69 dX7_as_2 ?_
  refine k_st ((uv st.1 9 0, st.2)) rfl ?_
  refine k_aload_n hE dX7_as_5 0 rfl rfl ?_
  refine k_iload_n hE dX7_as_6 1 rfl rfl ?_
  refine k_callV hE (c_X7_isTap ((uv st.1 9 0, st.2)) Y f (show Ag _ _ from ⟨fun i hi => by have e := hA.1 i hi; rcases i with _ | _ | _ | _ | _ | _ | _ | _ | i <;> first | exact e | omega, fun a ha => by have e := hA.2 a ha; rcases a with _ | _ | _ | _ | _ | _ | _ | a <;> first | exact e | omega⟩) hI (by omega)) mf_X7_isTap ml_X7_139 0 rfl rfl rfl rfl ⟨rfl, rfl, Nat.le_of_ble_eq_true rfl, Nat.le_of_ble_eq_true rfl⟩ [] (Nat.le_of_ble_eq_true rfl) dX7_as_7 rfl (fun rv u hp => ?_)
  obtain ⟨z1, hv7, hu7, hz_7⟩ := hp
  try dsimp only at hz_7
  refine k_sk (sk' := [.int (iI z1)]) (by rw [hv7]; rfl) ?_
  refine k_st ((uv st.1 9 0, st.2)) hu7 ?_
  refine k_if_ne hE 15 dX7_as_10 (by decide) (by unfold in32; omega) (fun c10 => ?_) (fun c10 => ?_)
  · refine k_iload_n hE dX7_as_15 2 rfl rfl ?_
    refine k_iconst hE dX7_as_16 ?_
    refine k_iconst hE dX7_as_17 ?_
    refine k_callS hE (c_X7_within ((uv st.1 9 0, st.2)) x 0 2 (by omega) (by omega) (by omega)) ms_X7_within ml_X7_74 rfl ⟨rfl, rfl, Nat.le_of_ble_eq_true rfl, Nat.le_of_ble_eq_true rfl⟩ [] (Nat.le_of_ble_eq_true rfl) dX7_as_18 rfl (fun rv u hp => ?_)
    obtain ⟨z2, hv18, hu18, hz_18⟩ := hp
    try dsimp only at hz_18
    refine k_sk (sk' := [.int (iI z2)]) (by rw [hv18]; rfl) ?_
    refine k_st ((uv st.1 9 0, st.2)) hu18 ?_
    refine k_if_ne hE 27 dX7_as_21 (by decide) (by unfold in32; omega) (fun c21 => ?_) (fun c21 => ?_)
    · have hk := hit f (by omega) (by omega)
      refine k_aload_n hE dX7_as_27 0 rfl rfl ?_
      refine m_get_kind hE fl_X7_19 dX7_as_28 ?_
      refine k_iload_n hE dX7_as_31 1 rfl rfl ?_
      refine m_ld_kind hE (z := Y.2 0 f) (by omega) (by omega) (congrFun (hA.2 0 (by decide)) f) dX7_as_32 ?_
      refine k_iload_n hE dX7_as_33 2 rfl rfl ?_
      refine k_icmp_lt hE 41 dX7_as_34 (by decide) (by unfold in32; omega) (by unfold in32; omega) (fun c34 => ?_) (fun c34 => ?_)
      · refine k_aload_n hE dX7_as_41 0 rfl rfl ?_
        refine k_iconst hE dX7_as_42 ?_
        refine k_callV hE (c_X7_fails ((uv st.1 9 0, st.2)) 2) mf_X7_fails ml_X7_92 0 rfl rfl rfl rfl ⟨rfl, rfl, Nat.le_of_ble_eq_true rfl, Nat.le_of_ble_eq_true rfl⟩ [] (Nat.le_of_ble_eq_true rfl) dX7_as_43 rfl (fun rv u hp => ?_)
        obtain ⟨hv43, hu43⟩ := hp
        refine k_sk (sk' := [.int (iI (-10 - 2))]) (by rw [hv43]; rfl) ?_
        refine k_st ((uv (uv st.1 9 0) 9 2, st.2)) hu43 ?_
        refine k_iret hR dX7_as_46 rfl ?_
        first | exact ⟨_, _, rfl, rfl, Or.inr (Or.inr (Or.inl ⟨by omega, by omega, by omega, rfl, rfl⟩))⟩ | exact ⟨_, _, rfl, rfl, Or.inr (Or.inr (Or.inr (⟨by omega, by omega, by omega, rfl, rfl⟩)))⟩
      · refine k_iconst hE dX7_as_37 ?_
        refine k_goto hE 46 dX7_as_38 (by decide) ?_
        refine k_iret hR dX7_as_46 rfl ?_
        first | exact ⟨_, _, rfl, rfl, Or.inr (Or.inr (Or.inl ⟨by omega, by omega, by omega, rfl, rfl⟩))⟩ | exact ⟨_, _, rfl, rfl, Or.inr (Or.inr (Or.inr (⟨by omega, by omega, by omega, rfl, rfl⟩)))⟩
    · refine k_bipush hE dX7_as_24 rfl ?_
      exact k_iret hR dX7_as_26 rfl ⟨_, _, rfl, rfl, Or.inr (Or.inl ⟨by omega, by omega, rfl, rfl⟩)⟩
  · refine k_iconst hE dX7_as_13 ?_
    exact k_iret hR dX7_as_14 rfl ⟨_, _, rfl, rfl, Or.inl ⟨by omega, rfl, rfl⟩⟩

set_option maxHeartbeats 4000000 in
set_option maxRecDepth 100000 in
theorem c_X7_tell {ad : Nat → Nat} {D : va_G} {cI cZ : ClassId} (st : Sg) (Y : Sg) (f : Int) (hA : Ag st Y) (hI : Inv Y) (i_f : -2147483648 ≤ f ∧ f < 2147483648) : MC (mw ad D cI cZ) yX7_tell cX7_tell 3 (some .int) { frames := 1, cells := 0, slots := 0, locals := 21 } [.ref (ad 0), .int (iI f)] st (fun rv u => ∃ z : Int, ∃ S : Sg, rv = some (.int (iI (z))) ∧ u = S ∧ (((f < 0 ∨ Y.1 0 ≤ f) ∧ z = -1 ∧ S = st) ∨ (¬ (f < 0 ∨ Y.1 0 ≤ f) ∧ Y.2 0 f = 2 ∧ z = 2 * Y.2 2 f + 100 ∧ S.1 8 = 31 * (31 * (31 * (31 * st.1 8 + 3) + 2) + 1) + 1 ∧ (∀ i, i ≠ 8 → S.1 i = st.1 i) ∧ S.2 = st.2) ∨ (¬ (f < 0 ∨ Y.1 0 ≤ f) ∧ Y.2 0 f = 1 ∧ z = Y.2 2 f + 100 ∧ S.1 8 = 31 * (31 * st.1 8 + 2) + 1 ∧ (∀ i, i ≠ 8 → S.1 i = st.1 i) ∧ S.2 = st.2) ∨ (¬ (f < 0 ∨ Y.1 0 ≤ f) ∧ Y.2 0 f ≠ 2 ∧ Y.2 0 f ≠ 1 ∧ z = Y.2 2 f ∧ S.1 8 = 31 * st.1 8 + 1 ∧ (∀ i, i ≠ 8 → S.1 i = st.1 i) ∧ S.2 = st.2))) := by
  refine MC_intro RX7 (by decide) rfl (Nat.le_of_ble_eq_true rfl) ?_
  intro G H0 m hE hR
  refine k_lo [0, 1] (lo' := [(0, .ref (ad 0)), (1, .int (iI f))]) rfl ?_
  obtain ⟨hi0, hi1, hi2, hi3, hi4, hi5, hi6, hi7, hit, hir, him, hin⟩ := id hI
  refine k_aload_n hE dX7_tell_0 0 rfl rfl ?_
  refine k_iload_n hE dX7_tell_1 1 rfl rfl ?_
  refine k_callV hE (c_X7_isTap st Y f hA hI (by omega)) mf_X7_isTap ml_X7_139 0 rfl rfl rfl rfl ⟨rfl, rfl, Nat.le_of_ble_eq_true rfl, Nat.le_of_ble_eq_true rfl⟩ [] (Nat.le_of_ble_eq_true rfl) dX7_tell_2 rfl (fun rv u hp => ?_)
  obtain ⟨z1, hv2, hu2, hz_2⟩ := hp
  refine k_sk (sk' := [.int (iI z1)]) (by rw [hv2]; rfl) ?_
  refine k_st st hu2 ?_
  refine k_if_ne hE 10 dX7_tell_5 (by decide) (by unfold in32; omega) (fun c5 => ?_) (fun c5 => ?_)
  · have hk := hit f (by omega) (by omega)
    refine k_aload_n hE dX7_tell_10 0 rfl rfl ?_
    refine m_get_need hE fl_X7_25 dX7_tell_11 ?_
    refine k_iload_n hE dX7_tell_14 1 rfl rfl ?_
    refine m_ld_need hE (z := Y.2 2 f) (by omega) (by omega) (congrFun (hA.2 2 (by decide)) f) dX7_tell_15 ?_
    refine k_istore_n hE dX7_tell_16 [1, 2, 0] rfl (Nat.le_of_ble_eq_true rfl) (lo' := [(0, .ref (ad 0)), (1, .int (iI f)), (2, .int (iI (Y.2 2 f)))]) rfl ?_
    refine k_aload_n hE dX7_tell_17 0 rfl rfl ?_
    refine m_get_kind hE fl_X7_19 dX7_tell_18 ?_
    refine k_iload_n hE dX7_tell_21 1 rfl rfl ?_
    refine m_ld_kind hE (z := Y.2 0 f) (by omega) (by omega) (congrFun (hA.2 0 (by decide)) f) dX7_tell_22 ?_
    rcases (show (Y.2 0 f ≠ 1 ∧ Y.2 0 f ≠ 2) ∨ Y.2 0 f = 1 ∨ Y.2 0 f = 2 by omega) with s23 | s23 | s23
    · refine k_lookup hE 90 dX7_tell_23 (by decide) (off := 67) (by rw [iI_val (by omega) (by omega)]; simp [Op.lookupswitch.offset]; omega) (by decide) ?_
      refine k_aload_n hE dX7_tell_90 0 rfl rfl ?_
      refine k_iconst hE dX7_tell_91 ?_
      refine k_callV hE (c_X7_begins st 1) mf_X7_begins ml_X7_220 0 rfl rfl rfl rfl ⟨rfl, rfl, Nat.le_of_ble_eq_true rfl, Nat.le_of_ble_eq_true rfl⟩ [] (Nat.le_of_ble_eq_true rfl) dX7_tell_92 rfl (fun rv u hp => ?_)
      obtain ⟨hv92, hu92⟩ := hp
      refine k_sk (sk' := []) (by rw [hv92]; rfl) ?_
      refine k_st ((uv st.1 8 (31 * st.1 8 + 1), st.2)) hu92 ?_
      refine k_iload_n hE dX7_tell_95 2 rfl rfl ?_
      refine k_iret hR dX7_tell_96 rfl ?_
      first
        | exact ⟨_, _, rfl, rfl, Or.inr (Or.inl ⟨by omega, by omega, by omega, rfl, fun i hi => by show uv (uv (uv (uv st.1 8 _) 8 _) 8 _) 8 _ i = _; rw [uv_n _ _ hi, uv_n _ _ hi, uv_n _ _ hi, uv_n _ _ hi], rfl⟩)⟩
        | exact ⟨_, _, rfl, rfl, Or.inr (Or.inr (Or.inl ⟨by omega, by omega, by omega, rfl, fun i hi => by show uv (uv st.1 8 _) 8 _ i = _; rw [uv_n _ _ hi, uv_n _ _ hi], rfl⟩))⟩
        | exact ⟨_, _, rfl, rfl, Or.inr (Or.inr (Or.inr ⟨by omega, by omega, by omega, by omega, rfl, fun i hi => by show uv st.1 8 _ i = _; rw [uv_n _ _ hi], rfl⟩))⟩
    · refine k_lookup hE 48 dX7_tell_23 (by decide) (off := 25) (by rw [s23]; rfl) (by decide) ?_
      refine k_aload_n hE dX7_tell_48 0 rfl rfl ?_
      refine k_iconst hE dX7_tell_49 ?_
      refine k_callV hE (c_X7_begins st 2) mf_X7_begins ml_X7_220 0 rfl rfl rfl rfl ⟨rfl, rfl, Nat.le_of_ble_eq_true rfl, Nat.le_of_ble_eq_true rfl⟩ [] (Nat.le_of_ble_eq_true rfl) dX7_tell_50 rfl (fun rv u hp => ?_)
      obtain ⟨hv50, hu50⟩ := hp
      refine k_sk (sk' := []) (by rw [hv50]; rfl) ?_
      refine k_st ((uv st.1 8 (31 * st.1 8 + 2), st.2)) hu50 ?_
      refine k_aload_n hE dX7_tell_53 0 rfl rfl ?_
      refine k_iconst hE dX7_tell_54 ?_
      refine k_callV hE (c_X7_begins ((uv st.1 8 (31 * st.1 8 + 2), st.2)) 1) mf_X7_begins ml_X7_220 0 rfl rfl rfl rfl ⟨rfl, rfl, Nat.le_of_ble_eq_true rfl, Nat.le_of_ble_eq_true rfl⟩ [] (Nat.le_of_ble_eq_true rfl) dX7_tell_55 rfl (fun rv u hp => ?_)
      obtain ⟨hv55, hu55⟩ := hp
      refine k_sk (sk' := []) (by rw [hv55]; rfl) ?_
      refine k_st ((uv (uv st.1 8 (31 * st.1 8 + 2)) 8 (31 * (31 * st.1 8 + 2) + 1), st.2)) hu55 ?_
      refine k_iload_n hE dX7_tell_58 2 rfl rfl ?_
      refine k_bipush hE dX7_tell_59 rfl ?_
      refine k_iadd hE dX7_tell_61 ?_
      refine k_iret hR dX7_tell_62 rfl ?_
      first
        | exact ⟨_, _, rfl, rfl, Or.inr (Or.inl ⟨by omega, by omega, by omega, rfl, fun i hi => by show uv (uv (uv (uv st.1 8 _) 8 _) 8 _) 8 _ i = _; rw [uv_n _ _ hi, uv_n _ _ hi, uv_n _ _ hi, uv_n _ _ hi], rfl⟩)⟩
        | exact ⟨_, _, rfl, rfl, Or.inr (Or.inr (Or.inl ⟨by omega, by omega, by omega, rfl, fun i hi => by show uv (uv st.1 8 _) 8 _ i = _; rw [uv_n _ _ hi, uv_n _ _ hi], rfl⟩))⟩
        | exact ⟨_, _, rfl, rfl, Or.inr (Or.inr (Or.inr ⟨by omega, by omega, by omega, by omega, rfl, fun i hi => by show uv st.1 8 _ i = _; rw [uv_n _ _ hi], rfl⟩))⟩
    · refine k_lookup hE 63 dX7_tell_23 (by decide) (off := 40) (by rw [s23]; rfl) (by decide) ?_
      refine k_aload_n hE dX7_tell_63 0 rfl rfl ?_
      refine k_iconst hE dX7_tell_64 ?_
      refine k_callV hE (c_X7_begins st 3) mf_X7_begins ml_X7_220 0 rfl rfl rfl rfl ⟨rfl, rfl, Nat.le_of_ble_eq_true rfl, Nat.le_of_ble_eq_true rfl⟩ [] (Nat.le_of_ble_eq_true rfl) dX7_tell_65 rfl (fun rv u hp => ?_)
      obtain ⟨hv65, hu65⟩ := hp
      refine k_sk (sk' := []) (by rw [hv65]; rfl) ?_
      refine k_st ((uv st.1 8 (31 * st.1 8 + 3), st.2)) hu65 ?_
      refine k_aload_n hE dX7_tell_68 0 rfl rfl ?_
      refine k_iconst hE dX7_tell_69 ?_
      refine k_callV hE (c_X7_begins ((uv st.1 8 (31 * st.1 8 + 3), st.2)) 2) mf_X7_begins ml_X7_220 0 rfl rfl rfl rfl ⟨rfl, rfl, Nat.le_of_ble_eq_true rfl, Nat.le_of_ble_eq_true rfl⟩ [] (Nat.le_of_ble_eq_true rfl) dX7_tell_70 rfl (fun rv u hp => ?_)
      obtain ⟨hv70, hu70⟩ := hp
      refine k_sk (sk' := []) (by rw [hv70]; rfl) ?_
      refine k_st ((uv (uv st.1 8 (31 * st.1 8 + 3)) 8 (31 * (31 * st.1 8 + 3) + 2), st.2)) hu70 ?_
      refine k_aload_n hE dX7_tell_73 0 rfl rfl ?_
      refine k_iconst hE dX7_tell_74 ?_
      refine k_callV hE (c_X7_begins ((uv (uv st.1 8 (31 * st.1 8 + 3)) 8 (31 * (31 * st.1 8 + 3) + 2), st.2)) 1) mf_X7_begins ml_X7_220 0 rfl rfl rfl rfl ⟨rfl, rfl, Nat.le_of_ble_eq_true rfl, Nat.le_of_ble_eq_true rfl⟩ [] (Nat.le_of_ble_eq_true rfl) dX7_tell_75 rfl (fun rv u hp => ?_)
      obtain ⟨hv75, hu75⟩ := hp
      refine k_sk (sk' := []) (by rw [hv75]; rfl) ?_
      refine k_st ((uv (uv (uv st.1 8 (31 * st.1 8 + 3)) 8 (31 * (31 * st.1 8 + 3) + 2)) 8 (31 * (31 * (31 * st.1 8 + 3) + 2) + 1), st.2)) hu75 ?_
      refine k_aload_n hE dX7_tell_78 0 rfl rfl ?_
      refine k_iconst hE dX7_tell_79 ?_
      refine k_callV hE (c_X7_begins ((uv (uv (uv st.1 8 (31 * st.1 8 + 3)) 8 (31 * (31 * st.1 8 + 3) + 2)) 8 (31 * (31 * (31 * st.1 8 + 3) + 2) + 1), st.2)) 1) mf_X7_begins ml_X7_220 0 rfl rfl rfl rfl ⟨rfl, rfl, Nat.le_of_ble_eq_true rfl, Nat.le_of_ble_eq_true rfl⟩ [] (Nat.le_of_ble_eq_true rfl) dX7_tell_80 rfl (fun rv u hp => ?_)
      obtain ⟨hv80, hu80⟩ := hp
      refine k_sk (sk' := []) (by rw [hv80]; rfl) ?_
      refine k_st ((uv (uv (uv (uv st.1 8 (31 * st.1 8 + 3)) 8 (31 * (31 * st.1 8 + 3) + 2)) 8 (31 * (31 * (31 * st.1 8 + 3) + 2) + 1)) 8 (31 * (31 * (31 * (31 * st.1 8 + 3) + 2) + 1) + 1), st.2)) hu80 ?_
      refine k_iconst hE dX7_tell_83 ?_
      refine k_iload_n hE dX7_tell_84 2 rfl rfl ?_
      refine k_imul hE dX7_tell_85 ?_
      refine k_bipush hE dX7_tell_86 rfl ?_
      refine k_iadd hE dX7_tell_88 ?_
      refine k_iret hR dX7_tell_89 rfl ?_
      first
        | exact ⟨_, _, rfl, rfl, Or.inr (Or.inl ⟨by omega, by omega, by omega, rfl, fun i hi => by show uv (uv (uv (uv st.1 8 _) 8 _) 8 _) 8 _ i = _; rw [uv_n _ _ hi, uv_n _ _ hi, uv_n _ _ hi, uv_n _ _ hi], rfl⟩)⟩
        | exact ⟨_, _, rfl, rfl, Or.inr (Or.inr (Or.inl ⟨by omega, by omega, by omega, rfl, fun i hi => by show uv (uv st.1 8 _) 8 _ i = _; rw [uv_n _ _ hi, uv_n _ _ hi], rfl⟩))⟩
        | exact ⟨_, _, rfl, rfl, Or.inr (Or.inr (Or.inr ⟨by omega, by omega, by omega, by omega, rfl, fun i hi => by show uv st.1 8 _ i = _; rw [uv_n _ _ hi], rfl⟩))⟩
  · refine k_iconst hE dX7_tell_8 ?_
    exact k_iret hR dX7_tell_9 rfl ⟨_, _, rfl, rfl, Or.inl ⟨by omega, rfl, rfl⟩⟩

set_option maxHeartbeats 4000000 in
set_option maxRecDepth 100000 in
theorem c_X7_trace {ad : Nat → Nat} {D : va_G} {cI cZ : ClassId} (st : Sg)  : MC (mw ad D cI cZ) yX7_trace cX7_trace 1 (some .int) { frames := 0, cells := 0, slots := 0, locals := 0 } [.ref (ad 0)] st (fun rv u => rv = some (.int (iI (st.1 8))) ∧ u = st) := by
  refine MC_intro RX7 (by decide) rfl (Nat.le_of_ble_eq_true rfl) ?_
  intro G H0 m hE hR
  refine k_lo [0] (lo' := [(0, .ref (ad 0))]) rfl ?_
  refine k_aload_n hE dX7_trace_0 0 rfl rfl ?_
  refine m_get_trace hE (z := st.1 8) rfl fl_X7_217 dX7_trace_1 ?_
  exact k_iret hR dX7_trace_4 rfl ⟨rfl, rfl⟩

set_option maxHeartbeats 4000000 in
set_option maxRecDepth 100000 in
theorem c_X7_fault {ad : Nat → Nat} {D : va_G} {cI cZ : ClassId} (st : Sg)  : MC (mw ad D cI cZ) yX7_fault cX7_fault 1 (some .int) { frames := 0, cells := 0, slots := 0, locals := 0 } [.ref (ad 0)] st (fun rv u => rv = some (.int (iI (st.1 9))) ∧ u = st) := by
  refine MC_intro RX7 (by decide) rfl (Nat.le_of_ble_eq_true rfl) ?_
  intro G H0 m hE hR
  refine k_lo [0] (lo' := [(0, .ref (ad 0))]) rfl ?_
  refine k_aload_n hE dX7_fault_0 0 rfl rfl ?_
  refine m_get_fault hE (z := st.1 9) rfl fl_X7_69 dX7_fault_1 ?_
  exact k_iret hR dX7_fault_4 rfl ⟨rfl, rfl⟩

set_option maxHeartbeats 4000000 in
set_option maxRecDepth 100000 in
theorem c_X7_many {ad : Nat → Nat} {D : va_G} {cI cZ : ClassId} (st : Sg) (Y : Sg) (x : Int) (hA : Ag st Y) (hI : Inv Y) (i_x : -2147483648 ≤ x ∧ x < 2147483648) : MC (mw ad D cI cZ) yX7_many cX7_many 2 (some .int) { frames := 0, cells := 0, slots := 0, locals := 0 } [.ref (ad 0), .int (iI x)] st (fun rv u => rv = some (.int (iI (MN Y x))) ∧ u = st) := by
  refine MC_intro RX7 (by decide) rfl (Nat.le_of_ble_eq_true rfl) ?_
  intro G H0 m hE hR
  refine k_lo [0, 1] (lo' := [(0, .ref (ad 0)), (1, .int (iI x))]) rfl ?_
  obtain ⟨hi0, hi1, hi2, hi3, hi4, hi5, hi6, hi7, hit, hir, him, hin⟩ := id hI
  refine k_iload_n hE dX7_many_0 1 rfl rfl ?_
  by_cases q1 : x < 0 ∨ 4 < x
  · refine k_tabOut hE 61 dX7_many_1 (by unfold in32; omega) q1 (by decide) ?_
    refine k_bipush hE dX7_many_61 rfl ?_
    exact k_iret hR dX7_many_63 rfl ⟨ret_i (by unfold MN; (repeat (first | omega | split))), rfl⟩
  rcases (show x = 0 ∨ x = 1 ∨ x = 2 ∨ x = 3 ∨ x = 4 by omega) with s1 | s1 | s1 | s1 | s1
  · refine k_tabIn hE 36 0 dX7_many_1 s1 (by decide) (by decide) rfl (by decide) ?_
    refine k_aload_n hE dX7_many_36 0 rfl rfl ?_
    refine m_get_taps hE (z := Y.1 0) (hA.1 0 (by decide)) fl_X7_78 dX7_many_37 ?_
    exact k_iret hR dX7_many_40 rfl ⟨ret_i (by unfold MN; (repeat (first | omega | split))), rfl⟩
  · refine k_tabIn hE 41 1 dX7_many_1 s1 (by decide) (by decide) rfl (by decide) ?_
    refine k_aload_n hE dX7_many_41 0 rfl rfl ?_
    refine m_get_cap hE (z := Y.1 1) (hA.1 1 (by decide)) fl_X7_105 dX7_many_42 ?_
    exact k_iret hR dX7_many_45 rfl ⟨ret_i (by unfold MN; (repeat (first | omega | split))), rfl⟩
  · refine k_tabIn hE 46 2 dX7_many_1 s1 (by decide) (by decide) rfl (by decide) ?_
    refine k_aload_n hE dX7_many_46 0 rfl rfl ?_
    refine m_get_per hE (z := Y.1 2) (hA.1 2 (by decide)) fl_X7_111 dX7_many_47 ?_
    exact k_iret hR dX7_many_50 rfl ⟨ret_i (by unfold MN; (repeat (first | omega | split))), rfl⟩
  · refine k_tabIn hE 51 3 dX7_many_1 s1 (by decide) (by decide) rfl (by decide) ?_
    refine k_aload_n hE dX7_many_51 0 rfl rfl ?_
    refine m_get_lawNow hE (z := Y.1 4) (hA.1 4 (by decide)) fl_X7_120 dX7_many_52 ?_
    exact k_iret hR dX7_many_55 rfl ⟨ret_i (by unfold MN; (repeat (first | omega | split))), rfl⟩
  · refine k_tabIn hE 56 4 dX7_many_1 s1 (by decide) (by decide) rfl (by decide) ?_
    refine k_aload_n hE dX7_many_56 0 rfl rfl ?_
    refine m_get_marks hE (z := Y.1 7) (hA.1 7 (by decide)) fl_X7_129 dX7_many_57 ?_
    exact k_iret hR dX7_many_60 rfl ⟨ret_i (by unfold MN; (repeat (first | omega | split))), rfl⟩
