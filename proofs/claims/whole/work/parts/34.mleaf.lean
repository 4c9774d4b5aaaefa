set_option maxHeartbeats 4000000 in
set_option maxRecDepth 100000 in
theorem c_X7_within {ad : Nat → Nat} {D : va_G} {cI cZ : ClassId} (st : Sg) (v : Int) (a : Int) (b : Int) (i_v : -2147483648 ≤ v ∧ v < 2147483648) (i_a : -2147483648 ≤ a ∧ a < 2147483648) (i_b : -2147483648 ≤ b ∧ b < 2147483648) : MC (mw ad D cI cZ) yX7_within cX7_within 3 (some .boolean) { frames := 0, cells := 0, slots := 0, locals := 0 } [.int (iI v), .int (iI a), .int (iI b)] st (fun rv u => ∃ z : Int, rv = some (.int (iI (z))) ∧ u = st ∧ ((z = 1 ∧ (a ≤ v ∧ v ≤ b)) ∨ (z = 0 ∧ ¬ (a ≤ v ∧ v ≤ b)))) := by
  refine MC_intro RX7 (by decide) rfl (Nat.le_of_ble_eq_true rfl) ?_
  intro G H0 m hE hR
  refine k_lo [0, 1, 2] (lo' := [(0, .int (iI v)), (1, .int (iI a)), (2, .int (iI b))]) rfl ?_
  refine k_iload_n hE dX7_within_0 0 rfl rfl ?_
  refine k_iload_n hE dX7_within_1 1 rfl rfl ?_
  refine k_icmp_lt hE 14 dX7_within_2 (by decide) (by unfold in32; omega) (by unfold in32; omega) (fun c2 => ?_) (fun c2 => ?_)
  · refine k_iconst hE dX7_within_14 ?_
    exact k_zret hR dX7_within_15 rfl (nar_b (by omega)) ⟨_, rfl, rfl, by omega⟩
  · refine k_iload_n hE dX7_within_5 0 rfl rfl ?_
    refine k_iload_n hE dX7_within_6 2 rfl rfl ?_
    refine k_icmp_gt hE 14 dX7_within_7 (by decide) (by unfold in32; omega) (by unfold in32; omega) (fun c7 => ?_) (fun c7 => ?_)
    · refine k_iconst hE dX7_within_14 ?_
      exact k_zret hR dX7_within_15 rfl (nar_b (by omega)) ⟨_, rfl, rfl, by omega⟩
    · refine k_iconst hE dX7_within_10 ?_
      refine k_goto hE 15 dX7_within_11 (by decide) ?_
      exact k_zret hR dX7_within_15 rfl (nar_b (by omega)) ⟨_, rfl, rfl, by omega⟩

set_option maxHeartbeats 4000000 in
set_option maxRecDepth 100000 in
theorem c_X7_isSheet {ad : Nat → Nat} {D : va_G} {cI cZ : ClassId} (st : Sg) (k : Int) (i_k : -2147483648 ≤ k ∧ k < 2147483648) : MC (mw ad D cI cZ) yX7_isSheet cX7_isSheet 1 (some .boolean) { frames := 1, cells := 0, slots := 0, locals := 22 } [.int (iI k)] st (fun rv u => ∃ z : Int, rv = some (.int (iI (z))) ∧ u = st ∧ ((z = 1 ∧ (0 ≤ k ∧ k ≤ 3)) ∨ (z = 0 ∧ ¬ (0 ≤ k ∧ k ≤ 3)))) := by
  refine MC_intro RX7 (by decide) rfl (Nat.le_of_ble_eq_true rfl) ?_
  intro G H0 m hE hR
  refine k_lo [0] (lo' := [(0, .int (iI k))]) rfl ?_
  refine k_iload_n hE dX7_isSheet_0 0 rfl rfl ?_
  refine k_iconst hE dX7_isSheet_1 ?_
  refine k_iconst hE dX7_isSheet_2 ?_
  refine k_callS hE (c_X7_within st k 0 3 (by omega) (by omega) (by omega)) ms_X7_within ml_X7_74 rfl ⟨rfl, rfl, Nat.le_of_ble_eq_true rfl, Nat.le_of_ble_eq_true rfl⟩ [] (Nat.le_of_ble_eq_true rfl) dX7_isSheet_3 rfl (fun rv u hp => ?_)
  obtain ⟨z1, hv3, hu3, hz_3⟩ := hp
  refine k_sk (sk' := [.int (iI z1)]) (by rw [hv3]; rfl) ?_
  refine k_st st hu3 ?_
  exact k_zret hR dX7_isSheet_6 rfl (nar_b (by omega)) ⟨_, rfl, rfl, by omega⟩

set_option maxHeartbeats 4000000 in
set_option maxRecDepth 100000 in
theorem c_X7_isSort {ad : Nat → Nat} {D : va_G} {cI cZ : ClassId} (st : Sg) (k : Int) (i_k : -2147483648 ≤ k ∧ k < 2147483648) : MC (mw ad D cI cZ) yX7_isSort cX7_isSort 1 (some .boolean) { frames := 1, cells := 0, slots := 0, locals := 22 } [.int (iI k)] st (fun rv u => ∃ z : Int, rv = some (.int (iI (z))) ∧ u = st ∧ ((z = 1 ∧ (0 ≤ k ∧ k ≤ 2)) ∨ (z = 0 ∧ ¬ (0 ≤ k ∧ k ≤ 2)))) := by
  refine MC_intro RX7 (by decide) rfl (Nat.le_of_ble_eq_true rfl) ?_
  intro G H0 m hE hR
  refine k_lo [0] (lo' := [(0, .int (iI k))]) rfl ?_
  refine k_iload_n hE dX7_isSort_0 0 rfl rfl ?_
  refine k_iconst hE dX7_isSort_1 ?_
  refine k_iconst hE dX7_isSort_2 ?_
  refine k_callS hE (c_X7_within st k 0 2 (by omega) (by omega) (by omega)) ms_X7_within ml_X7_74 rfl ⟨rfl, rfl, Nat.le_of_ble_eq_true rfl, Nat.le_of_ble_eq_true rfl⟩ [] (Nat.le_of_ble_eq_true rfl) dX7_isSort_3 rfl (fun rv u hp => ?_)
  obtain ⟨z1, hv3, hu3, hz_3⟩ := hp
  refine k_sk (sk' := [.int (iI z1)]) (by rw [hv3]; rfl) ?_
  refine k_st st hu3 ?_
  exact k_zret hR dX7_isSort_6 rfl (nar_b (by omega)) ⟨_, rfl, rfl, by omega⟩

set_option maxHeartbeats 4000000 in
set_option maxRecDepth 100000 in
theorem c_X7_isDay {ad : Nat → Nat} {D : va_G} {cI cZ : ClassId} (st : Sg) (d : Int) (i_d : -2147483648 ≤ d ∧ d < 2147483648) : MC (mw ad D cI cZ) yX7_isDay cX7_isDay 1 (some .boolean) { frames := 1, cells := 0, slots := 0, locals := 22 } [.int (iI d)] st (fun rv u => ∃ z : Int, rv = some (.int (iI (z))) ∧ u = st ∧ ((z = 1 ∧ (0 ≤ d ∧ d ≤ 9)) ∨ (z = 0 ∧ ¬ (0 ≤ d ∧ d ≤ 9)))) := by
  refine MC_intro RX7 (by decide) rfl (Nat.le_of_ble_eq_true rfl) ?_
  intro G H0 m hE hR
  refine k_lo [0] (lo' := [(0, .int (iI d))]) rfl ?_
  refine k_iload_n hE dX7_isDay_0 0 rfl rfl ?_
  refine k_iconst hE dX7_isDay_1 ?_
  refine k_bipush hE dX7_isDay_2 rfl ?_
  refine k_callS hE (c_X7_within st d 0 9 (by omega) (by omega) (by omega)) ms_X7_within ml_X7_74 rfl ⟨rfl, rfl, Nat.le_of_ble_eq_true rfl, Nat.le_of_ble_eq_true rfl⟩ [] (Nat.le_of_ble_eq_true rfl) dX7_isDay_4 rfl (fun rv u hp => ?_)
  obtain ⟨z1, hv4, hu4, hz_4⟩ := hp
  refine k_sk (sk' := [.int (iI z1)]) (by rw [hv4]; rfl) ?_
  refine k_st st hu4 ?_
  exact k_zret hR dX7_isDay_7 rfl (nar_b (by omega)) ⟨_, rfl, rfl, by omega⟩

set_option maxHeartbeats 4000000 in
set_option maxRecDepth 100000 in
theorem c_X7_isTap {ad : Nat → Nat} {D : va_G} {cI cZ : ClassId} (st : Sg) (Y : Sg) (f : Int) (hA : Ag st Y) (hI : Inv Y) (i_f : -2147483648 ≤ f ∧ f < 2147483648) : MC (mw ad D cI cZ) yX7_isTap cX7_isTap 2 (some .boolean) { frames := 0, cells := 0, slots := 0, locals := 0 } [.ref (ad 0), .int (iI f)] st (fun rv u => ∃ z : Int, rv = some (.int (iI (z))) ∧ u = st ∧ ((z = 1 ∧ (0 ≤ f ∧ f < Y.1 0)) ∨ (z = 0 ∧ ¬ (0 ≤ f ∧ f < Y.1 0)))) := by
  refine MC_intro RX7 (by decide) rfl (Nat.le_of_ble_eq_true rfl) ?_
  intro G H0 m hE hR
  refine k_lo [0, 1] (lo' := [(0, .ref (ad 0)), (1, .int (iI f))]) rfl ?_
  obtain ⟨hi0, hi1, hi2, hi3, hi4, hi5, hi6, hi7, hit, hir, him, hin⟩ := id hI
  refine k_iload_n hE dX7_isTap_0 1 rfl rfl ?_
  refine k_if_lt hE 16 dX7_isTap_1 (by decide) (by unfold in32; omega) (fun c1 => ?_) (fun c1 => ?_)
  · refine k_iconst hE dX7_isTap_16 ?_
    exact k_zret hR dX7_isTap_17 rfl (nar_b (by omega)) ⟨_, rfl, rfl, by omega⟩
  · refine k_iload_n hE dX7_isTap_4 1 rfl rfl ?_
    refine k_aload_n hE dX7_isTap_5 0 rfl rfl ?_
    refine m_get_taps hE (z := Y.1 0) (hA.1 0 (by decide)) fl_X7_78 dX7_isTap_6 ?_
    refine k_icmp_ge hE 16 dX7_isTap_9 (by decide) (by unfold in32; omega) (by unfold in32; omega) (fun c9 => ?_) (fun c9 => ?_)
    · refine k_iconst hE dX7_isTap_16 ?_
      exact k_zret hR dX7_isTap_17 rfl (nar_b (by omega)) ⟨_, rfl, rfl, by omega⟩
    · refine k_iconst hE dX7_isTap_12 ?_
      refine k_goto hE 17 dX7_isTap_13 (by decide) ?_
      exact k_zret hR dX7_isTap_17 rfl (nar_b (by omega)) ⟨_, rfl, rfl, by omega⟩

set_option maxHeartbeats 4000000 in
set_option maxRecDepth 100000 in
theorem c_X7_fails {ad : Nat → Nat} {D : va_G} {cI cZ : ClassId} (st : Sg) (k : Int)  : MC (mw ad D cI cZ) yX7_fails cX7_fails 2 (some .int) { frames := 0, cells := 0, slots := 0, locals := 0 } [.ref (ad 0), .int (iI k)] st (fun rv u => rv = some (.int (iI (-10 - k))) ∧ u = (uv st.1 9 k, st.2)) := by
  refine MC_intro RX7 (by decide) rfl (Nat.le_of_ble_eq_true rfl) ?_
  intro G H0 m hE hR
  refine k_lo [0, 1] (lo' := [(0, .ref (ad 0)), (1, .int (iI k))]) rfl ?_
  refine k_aload_n hE dX7_fails_0 0 rfl rfl ?_
  refine k_iload_n hE dX7_fails_1 1 rfl rfl ?_
  refine m_put_fault hE fl_X7_69 dX7_fails_2 ?_
  refine k_st ((uv st.1 9 k, st.2)) rfl ?_
  refine k_bipush hE dX7_fails_5 rfl ?_
  refine k_iload_n hE dX7_fails_7 1 rfl rfl ?_
  refine k_isub hE dX7_fails_8 ?_
  exact k_iret hR dX7_fails_9 rfl ⟨rfl, rfl⟩

set_option maxHeartbeats 4000000 in
set_option maxRecDepth 100000 in
theorem c_X7_lost {ad : Nat → Nat} {D : va_G} {cI cZ : ClassId} (st : Sg) (k : Int)  : MC (mw ad D cI cZ) yX7_lost cX7_lost 2 (some .long) { frames := 0, cells := 0, slots := 0, locals := 0 } [.ref (ad 0), .int (iI k)] st (fun rv u => rv = some (.long (-9223372036854775808)) ∧ u = (uv st.1 9 k, st.2)) := by
  refine MC_intro RX7 (by decide) rfl (Nat.le_of_ble_eq_true rfl) ?_
  intro G H0 m hE hR
  refine k_lo [0, 1] (lo' := [(0, .ref (ad 0)), (1, .int (iI k))]) rfl ?_
  refine k_aload_n hE dX7_lost_0 0 rfl rfl ?_
  refine k_iload_n hE dX7_lost_1 1 rfl rfl ?_
  refine m_put_fault hE fl_X7_69 dX7_lost_2 ?_
  refine k_st ((uv st.1 9 k, st.2)) rfl ?_
  refine k_ldc2 hE cl_X7_72 dX7_lost_5 ?_
  exact k_lret hR dX7_lost_8 rfl ⟨rfl, rfl⟩

set_option maxHeartbeats 4000000 in
set_option maxRecDepth 100000 in
theorem c_X7_begins {ad : Nat → Nat} {D : va_G} {cI cZ : ClassId} (st : Sg) (k : Int)  : MC (mw ad D cI cZ) yX7_begins cX7_begins 2 none { frames := 0, cells := 0, slots := 0, locals := 0 } [.ref (ad 0), .int (iI k)] st (fun rv u => rv = none ∧ u = (uv st.1 8 (31 * st.1 8 + k), st.2)) := by
  refine MC_intro RX7 (by decide) rfl (Nat.le_of_ble_eq_true rfl) ?_
  intro G H0 m hE hR
  refine k_lo [0, 1] (lo' := [(0, .ref (ad 0)), (1, .int (iI k))]) rfl ?_
  refine k_aload_n hE dX7_begins_0 0 rfl rfl ?_
  refine k_bipush hE dX7_begins_1 rfl ?_
  refine k_aload_n hE dX7_begins_3 0 rfl rfl ?_
  refine m_get_trace hE (z := st.1 8) rfl fl_X7_217 dX7_begins_4 ?_
  refine k_imul hE dX7_begins_7 ?_
  refine k_iload_n hE dX7_begins_8 1 rfl rfl ?_
  refine k_iadd hE dX7_begins_9 ?_
  refine m_put_trace hE fl_X7_217 dX7_begins_10 ?_
  refine k_st ((uv st.1 8 ((31 * (st.1 8)) + k), st.2)) rfl ?_
  exact k_vret hR dX7_begins_13 rfl ⟨rfl, rfl⟩

set_option maxHeartbeats 4000000 in
set_option maxRecDepth 100000 in
theorem c_X7_wants {ad : Nat → Nat} {D : va_G} {cI cZ : ClassId} (st : Sg) (Y : Sg) (f : Int) (hA : AgD st Y) (hI : Inv Y) (h0 : 0 ≤ f) (h1 : f < 6) : MC (mw ad D cI cZ) yX7_wants cX7_wants 2 (some .int) { frames := 0, cells := 0, slots := 0, locals := 0 } [.ref (ad 0), .int (iI f)] st (fun rv u => rv = some (.int (iI (WN Y f))) ∧ u = st) := by
  refine MC_intro RX7 (by decide) rfl (Nat.le_of_ble_eq_true rfl) ?_
  intro G H0 m hE hR
  refine k_lo [0, 1] (lo' := [(0, .ref (ad 0)), (1, .int (iI f))]) rfl ?_
  obtain ⟨hi0, hi1, hi2, hi3, hi4, hi5, hi6, hi7, hit, hir, him, hin⟩ := id hI
  have hf := hit f h0 h1
  refine k_aload_n hE dX7_wants_0 0 rfl rfl ?_
  refine m_get_kind hE fl_X7_19 dX7_wants_1 ?_
  refine k_iload_n hE dX7_wants_4 1 rfl rfl ?_
  refine m_ld_kind hE (z := Y.2 0 f) (by omega) (by omega) (congrFun (hA.2 0 (by decide)) f) dX7_wants_5 ?_
  refine k_if_ne hE 18 dX7_wants_6 (by decide) (by unfold in32; omega) (fun c6 => ?_) (fun c6 => ?_)
  · refine k_aload_n hE dX7_wants_18 0 rfl rfl ?_
    refine m_get_need hE fl_X7_25 dX7_wants_19 ?_
    refine k_iload_n hE dX7_wants_22 1 rfl rfl ?_
    refine m_ld_need hE (z := Y.2 2 f) (by omega) (by omega) (congrFun (hA.2 2 (by decide)) f) dX7_wants_23 ?_
    refine k_aload_n hE dX7_wants_24 0 rfl rfl ?_
    refine m_get_need hE fl_X7_25 dX7_wants_25 ?_
    refine k_iload_n hE dX7_wants_28 1 rfl rfl ?_
    refine m_ld_need hE (z := Y.2 2 f) (by omega) (by omega) (congrFun (hA.2 2 (by decide)) f) dX7_wants_29 ?_
    refine k_iconst hE dX7_wants_30 ?_
    refine k_idivN hE dX7_wants_31 (by unfold in32; omega) (by unfold in32; omega) (by omega) (by omega) ?_
    refine k_iadd hE dX7_wants_32 ?_
    refine k_aload_n hE dX7_wants_33 0 rfl rfl ?_
    refine m_get_kind hE fl_X7_19 dX7_wants_34 ?_
    refine k_iload_n hE dX7_wants_37 1 rfl rfl ?_
    refine m_ld_kind hE (z := Y.2 0 f) (by omega) (by omega) (congrFun (hA.2 0 (by decide)) f) dX7_wants_38 ?_
    refine k_iadd hE dX7_wants_39 ?_
    refine k_iconst hE dX7_wants_40 ?_
    refine k_isub hE dX7_wants_41 ?_
    exact k_iret hR dX7_wants_42 rfl ⟨ret_i (by unfold WN; repeat (first | omega | split)), rfl⟩
  · refine k_aload_n hE dX7_wants_9 0 rfl rfl ?_
    refine m_get_need hE fl_X7_25 dX7_wants_10 ?_
    refine k_iload_n hE dX7_wants_13 1 rfl rfl ?_
    refine m_ld_need hE (z := Y.2 2 f) (by omega) (by omega) (congrFun (hA.2 2 (by decide)) f) dX7_wants_14 ?_
    refine k_goto hE 42 dX7_wants_15 (by decide) ?_
    exact k_iret hR dX7_wants_42 rfl ⟨ret_i (by unfold WN; repeat (first | omega | split)), rfl⟩

set_option maxHeartbeats 4000000 in
set_option maxRecDepth 100000 in
theorem c_X7_gives {ad : Nat → Nat} {D : va_G} {cI cZ : ClassId} (st : Sg) (Y : Sg) (f : Int) (w : Int) (hA : AgD st Y) (hI : Inv Y) (h0 : 0 ≤ f) (h1 : f < 6) (hv_w : st.1 14 = w) (hw : -1000 ≤ w ∧ w ≤ 1000) : MC (mw ad D cI cZ) yX7_gives cX7_gives 3 (some .int) { frames := 0, cells := 0, slots := 0, locals := 0 } [.ref (ad 0), .int (iI f)] st (fun rv u => rv = some (.int (iI (GV Y f w))) ∧ u = st) := by
  refine MC_intro RX7 (by decide) rfl (Nat.le_of_ble_eq_true rfl) ?_
  intro G H0 m hE hR
  refine k_lo [0, 1] (lo' := [(0, .ref (ad 0)), (1, .int (iI f))]) rfl ?_
  obtain ⟨hi0, hi1, hi2, hi3, hi4, hi5, hi6, hi7, hit, hir, him, hin⟩ := id hI
  have hf := hit f h0 h1
  have hm := mul99 hf.2.1 hi2
  refine k_aload_n hE dX7_gives_0 0 rfl rfl ?_
  refine m_get_water hE (z := w) hv_w fl_X7_148 dX7_gives_1 ?_
  refine k_aload_n hE dX7_gives_4 0 rfl rfl ?_
  refine m_get_height hE fl_X7_22 dX7_gives_5 ?_
  refine k_iload_n hE dX7_gives_8 1 rfl rfl ?_
  refine m_ld_height hE (z := Y.2 1 f) (by omega) (by omega) (congrFun (hA.2 1 (by decide)) f) dX7_gives_9 ?_
  refine k_aload_n hE dX7_gives_10 0 rfl rfl ?_
  refine m_get_per hE (z := Y.1 2) (hA.1 2 (by decide)) fl_X7_111 dX7_gives_11 ?_
  refine k_imul hE dX7_gives_14 ?_
  refine k_isub hE dX7_gives_15 ?_
  refine k_istore_n hE dX7_gives_16 [1, 2, 0] rfl (Nat.le_of_ble_eq_true rfl) (lo' := [(0, .ref (ad 0)), (1, .int (iI f)), (2, .int (iI (w - ((Y.2 1 f) * (Y.1 2)))))]) rfl ?_
  refine k_iload_n hE dX7_gives_17 2 rfl rfl ?_
  refine k_if_le hE 25 dX7_gives_18 (by decide) (by unfold in32; omega) (fun c18 => ?_) (fun c18 => ?_)
  · refine k_iconst hE dX7_gives_25 ?_
    exact k_iret hR dX7_gives_26 rfl ⟨ret_i (by unfold GV; omega), rfl⟩
  · refine k_iload_n hE dX7_gives_21 2 rfl rfl ?_
    refine k_goto hE 26 dX7_gives_22 (by decide) ?_
    exact k_iret hR dX7_gives_26 rfl ⟨ret_i (by unfold GV; omega), rfl⟩

set_option maxHeartbeats 4000000 in
set_option maxRecDepth 100000 in
theorem c_X7_draw {ad : Nat → Nat} {D : va_G} {cI cZ : ClassId} (st : Sg) (Y : Sg) (f : Int) (x : Int) (w : Int) (hA : AgD st Y) (hI : Inv Y) (h0 : 0 ≤ f) (h1 : f < 6) (hv_w : st.1 14 = w) (hw : -1000 ≤ w ∧ w ≤ 1000) (hx : -1000 ≤ x ∧ x ≤ 1000) : MC (mw ad D cI cZ) yX7_draw cX7_draw 4 none { frames := 1, cells := 0, slots := 0, locals := 22 } [.ref (ad 0), .int (iI f), .int (iI x)] st (fun rv u => rv = none ∧ u = (uv st.1 14 (w - min x (GV Y f w)), ur st.2 16 f (st.2 16 f + min x (GV Y f w)))) := by
  refine MC_intro RX7 (by decide) rfl (Nat.le_of_ble_eq_true rfl) ?_
  intro G H0 m hE hR
  refine k_lo [0, 1, 2] (lo' := [(0, .ref (ad 0)), (1, .int (iI f)), (2, .int (iI x))]) rfl ?_
  obtain ⟨hi0, hi1, hi2, hi3, hi4, hi5, hi6, hi7, hit, hir, him, hin⟩ := id hI
  have hg : 0 ≤ GV Y f w ∧ GV Y f w ≤ 1000 := by have h2 := hit f h0 h1; have h3 := mul99 h2.2.1 hi2; unfold GV; omega
  refine k_iload_n hE dX7_draw_0 2 rfl rfl ?_
  refine k_aload_n hE dX7_draw_1 0 rfl rfl ?_
  refine k_iload_n hE dX7_draw_2 1 rfl rfl ?_
  refine k_callV hE (c_X7_gives st Y f w hA hI (by omega) (by omega) hv_w (by omega)) mf_X7_gives ml_X7_151 0 rfl rfl rfl rfl ⟨rfl, rfl, Nat.le_of_ble_eq_true rfl, Nat.le_of_ble_eq_true rfl⟩ [.int (iI x)] (Nat.le_of_ble_eq_true rfl) dX7_draw_3 rfl (fun rv u hp => ?_)
  obtain ⟨hv3, hu3⟩ := hp
  refine k_sk (sk' := [.int (iI (GV Y f w)), .int (iI x)]) (by rw [hv3]; rfl) ?_
  refine k_st st hu3 ?_
  refine k_icmp_ge hE 13 dX7_draw_6 (by decide) (by unfold in32; omega) (by unfold in32; omega) (fun c6 => ?_) (fun c6 => ?_)
  · refine k_aload_n hE dX7_draw_13 0 rfl rfl ?_
    refine k_iload_n hE dX7_draw_14 1 rfl rfl ?_
    refine k_callV hE (c_X7_gives st Y f w hA hI (by omega) (by omega) hv_w (by omega)) mf_X7_gives ml_X7_151 0 rfl rfl rfl rfl ⟨rfl, rfl, Nat.le_of_ble_eq_true rfl, Nat.le_of_ble_eq_true rfl⟩ [] (Nat.le_of_ble_eq_true rfl) dX7_draw_15 rfl (fun rv u hp => ?_)
    obtain ⟨hv15, hu15⟩ := hp
    refine k_sk (sk' := [.int (iI (GV Y f w))]) (by rw [hv15]; rfl) ?_
    refine k_st st hu15 ?_
    refine k_sk (sk' := [.int (iI (min x (GV Y f w)))]) (congrArg (fun zz : Int => ([.int (iI zz)] : List Value)) (show (GV Y f w) = (min x (GV Y f w)) from (by omega))) ?_
    refine k_istore_n hE dX7_draw_18 [1, 2, 3, 0] rfl (Nat.le_of_ble_eq_true rfl) (lo' := [(0, .ref (ad 0)), (1, .int (iI f)), (2, .int (iI x)), (3, .int (iI (min x (GV Y f w))))]) rfl ?_
    refine k_aload_n hE dX7_draw_19 0 rfl rfl ?_
    refine m_get_drawn hE fl_X7_49 dX7_draw_20 ?_
    refine k_iload_n hE dX7_draw_23 1 rfl rfl ?_
    refine k_dup2 hE dX7_draw_24 rfl rfl ?_
    refine m_ld_drawn hE (z := st.2 16 f) (by omega) (by omega) rfl dX7_draw_25 ?_
    refine k_iload_n hE dX7_draw_26 3 rfl rfl ?_
    refine k_iadd hE dX7_draw_27 ?_
    refine m_st_drawn hE (by omega) (by omega) dX7_draw_28 ?_
    refine k_st ((st.1, ur st.2 16 f ((st.2 16 f) + (min x (GV Y f w))))) rfl ?_
    refine k_aload_n hE dX7_draw_29 0 rfl rfl ?_
    refine k_dup hE dX7_draw_30 rfl ?_
    refine m_get_water hE (z := w) hv_w fl_X7_148 dX7_draw_31 ?_
    refine k_iload_n hE dX7_draw_34 3 rfl rfl ?_
    refine k_isub hE dX7_draw_35 ?_
    refine m_put_water hE fl_X7_148 dX7_draw_36 ?_
    refine k_st ((uv st.1 14 (w - (min x (GV Y f w))), ur st.2 16 f ((st.2 16 f) + (min x (GV Y f w))))) rfl ?_
    exact k_vret hR dX7_draw_39 rfl ⟨rfl, rfl⟩
  · refine k_iload_n hE dX7_draw_9 2 rfl rfl ?_
    refine k_goto hE 18 dX7_draw_10 (by decide) ?_
    refine k_sk (sk' := [.int (iI (min x (GV Y f w)))]) (congrArg (fun zz : Int => ([.int (iI zz)] : List Value)) (show (x) = (min x (GV Y f w)) from (by omega))) ?_
    refine k_istore_n hE dX7_draw_18 [1, 2, 3, 0] rfl (Nat.le_of_ble_eq_true rfl) (lo' := [(0, .ref (ad 0)), (1, .int (iI f)), (2, .int (iI x)), (3, .int (iI (min x (GV Y f w))))]) rfl ?_
    refine k_aload_n hE dX7_draw_19 0 rfl rfl ?_
    refine m_get_drawn hE fl_X7_49 dX7_draw_20 ?_
    refine k_iload_n hE dX7_draw_23 1 rfl rfl ?_
    refine k_dup2 hE dX7_draw_24 rfl rfl ?_
    refine m_ld_drawn hE (z := st.2 16 f) (by omega) (by omega) rfl dX7_draw_25 ?_
    refine k_iload_n hE dX7_draw_26 3 rfl rfl ?_
    refine k_iadd hE dX7_draw_27 ?_
    refine m_st_drawn hE (by omega) (by omega) dX7_draw_28 ?_
    refine k_st ((st.1, ur st.2 16 f ((st.2 16 f) + (min x (GV Y f w))))) rfl ?_
    refine k_aload_n hE dX7_draw_29 0 rfl rfl ?_
    refine k_dup hE dX7_draw_30 rfl ?_
    refine m_get_water hE (z := w) hv_w fl_X7_148 dX7_draw_31 ?_
    refine k_iload_n hE dX7_draw_34 3 rfl rfl ?_
    refine k_isub hE dX7_draw_35 ?_
    refine m_put_water hE fl_X7_148 dX7_draw_36 ?_
    refine k_st ((uv st.1 14 (w - (min x (GV Y f w))), ur st.2 16 f ((st.2 16 f) + (min x (GV Y f w))))) rfl ?_
    exact k_vret hR dX7_draw_39 rfl ⟨rfl, rfl⟩

set_option maxHeartbeats 4000000 in
set_option maxRecDepth 100000 in
theorem c_X7_wantsNow {ad : Nat → Nat} {D : va_G} {cI cZ : ClassId} (st : Sg) (Y : Sg) (f : Int) (q : Int) (hA : AgD st Y) (hI : Inv Y) (h0 : 0 ≤ f) (h1 : f < 6) (hj : (st.1 15 = 1 ∧ q = 3) ∨ (st.1 15 = 0 ∧ q ≠ 3)) : MC (mw ad D cI cZ) yX7_wantsNow cX7_wantsNow 2 (some .int) { frames := 1, cells := 0, slots := 0, locals := 21 } [.ref (ad 0), .int (iI f)] st (fun rv u => rv = some (.int (iI (WS Y q f))) ∧ u = st) := by
  refine MC_intro RX7 (by decide) rfl (Nat.le_of_ble_eq_true rfl) ?_
  intro G H0 m hE hR
  refine k_lo [0, 1] (lo' := [(0, .ref (ad 0)), (1, .int (iI f))]) rfl ?_
  obtain ⟨hi0, hi1, hi2, hi3, hi4, hi5, hi6, hi7, hit, hir, him, hin⟩ := id hI
  refine k_aload_n hE dX7_wantsNow_0 0 rfl rfl ?_
  refine m_get_isJust hE (z := st.1 15) rfl fl_X7_154 dX7_wantsNow_1 ?_
  refine k_if_eq hE 16 dX7_wantsNow_4 (by decide) (by unfold in32; omega) (fun c4 => ?_) (fun c4 => ?_)
  · refine k_aload_n hE dX7_wantsNow_16 0 rfl rfl ?_
    refine k_iload_n hE dX7_wantsNow_17 1 rfl rfl ?_
    refine k_callV hE (c_X7_wants st Y f hA hI (by omega) (by omega)) mf_X7_wants ml_X7_142 0 rfl rfl rfl rfl ⟨rfl, rfl, Nat.le_of_ble_eq_true rfl, Nat.le_of_ble_eq_true rfl⟩ [] (Nat.le_of_ble_eq_true rfl) dX7_wantsNow_18 rfl (fun rv u hp => ?_)
    obtain ⟨hv18, hu18⟩ := hp
    refine k_sk (sk' := [.int (iI (WN Y f))]) (by rw [hv18]; rfl) ?_
    refine k_st st hu18 ?_
    exact k_iret hR dX7_wantsNow_21 rfl ⟨ret_i (by unfold WS; split <;> omega), rfl⟩
  · refine k_aload_n hE dX7_wantsNow_7 0 rfl rfl ?_
    refine m_get_need hE fl_X7_25 dX7_wantsNow_8 ?_
    refine k_iload_n hE dX7_wantsNow_11 1 rfl rfl ?_
    refine m_ld_need hE (z := Y.2 2 f) (by omega) (by omega) (congrFun (hA.2 2 (by decide)) f) dX7_wantsNow_12 ?_
    refine k_goto hE 21 dX7_wantsNow_13 (by decide) ?_
    exact k_iret hR dX7_wantsNow_21 rfl ⟨ret_i (by unfold WS; split <;> omega), rfl⟩

set_option maxHeartbeats 4000000 in
set_option maxRecDepth 100000 in
theorem c_X7_nextTap {ad : Nat → Nat} {D : va_G} {cI cZ : ClassId} (st : Sg) (Y : Sg) (b : Int) (q : Int) (hA : AgD st Y) (hI : Inv Y) (hb : (b = 1 ∧ q ≠ 1) ∨ (b = 0 ∧ q = 1)) (hdn : ∀ f : Int, 0 ≤ f → f < Y.1 0 → st.2 17 f = 0 ∨ st.2 17 f = 1) : MC (mw ad D cI cZ) yX7_nextTap cX7_nextTap 5 (some .int) { frames := 0, cells := 0, slots := 0, locals := 0 } [.ref (ad 0), .int (iI b)] st (fun rv u => ∃ z : Int, rv = some (.int (iI (z))) ∧ u = st ∧ (NT Y q (st.2 17) z)) := by
  refine MC_intro RX7 (by decide) rfl (Nat.le_of_ble_eq_true rfl) ?_
  intro G H0 m hE hR
  refine k_lo [0, 1] (lo' := [(0, .ref (ad 0)), (1, .int (iI b))]) rfl ?_
  obtain ⟨hi0, hi1, hi2, hi3, hi4, hi5, hi6, hi7, hit, hir, him, hin⟩ := id hI
  have ky : ∀ g : Int, (b = 1 → KY Y q g = -(Y.2 1 g)) ∧ (b = 0 → KY Y q g = Y.2 1 g) := fun g => ⟨fun h => by unfold KY; rw [if_neg (by omega)], fun h => by unfold KY; rw [if_pos (by omega)]⟩
  refine k_bipush hE dX7_nextTap_0 rfl ?_
  refine k_istore_n hE dX7_nextTap_2 [1, 2, 0] rfl (Nat.le_of_ble_eq_true rfl) (lo' := [(0, .ref (ad 0)), (1, .int (iI b)), (2, .int (iI (-9)))]) rfl ?_
  refine k_iconst hE dX7_nextTap_3 ?_
  refine k_istore_n hE dX7_nextTap_4 [1, 2, 3, 0] rfl (Nat.le_of_ble_eq_true rfl) (lo' := [(0, .ref (ad 0)), (1, .int (iI b)), (2, .int (iI (-9))), (3, .int (iI 0))]) rfl ?_
  have L5 : ∀ (fu5 : Nat) (z : Int) (f : Int), (0 ≤ f ∧ f ≤ Y.1 0) → (Y.1 0 - f < fu5) → ((z = -9 ∧ ∀ g : Int, 0 ≤ g → g < f → st.2 17 g = 1) ∨ (0 ≤ z ∧ z < f ∧ st.2 17 z = 0 ∧ ∀ g : Int, 0 ≤ g → g < f → st.2 17 g = 0 → g = z ∨ BF Y q z g)) → KW (mw ad D cI cZ) G H0 m 5 st 5 [(0, .ref (ad 0)), (1, .int (iI b)), (2, .int (iI z)), (3, .int (iI f))] [] := by
    intro fu5
    induction fu5 with
    | zero =>
      intro z f q0 q1 qz
      omega
    | succ fu5 ih5 =>
      intro z f q0 q1 qz
      have rz : -9 ≤ z ∧ z < 6 := by rcases qz with h | h <;> omega
      have rz2 : z ≠ -9 → 0 ≤ z ∧ z < f := by rcases qz with h | h <;> omega
      refine k_iload_n hE dX7_nextTap_5 3 rfl rfl ?_
      refine k_aload_n hE dX7_nextTap_6 0 rfl rfl ?_
      refine m_get_taps hE (z := Y.1 0) (hA.1 0 (by decide)) fl_X7_78 dX7_nextTap_7 ?_
      refine k_icmp_ge hE 89 dX7_nextTap_10 (by decide) (by unfold in32; omega) (by unfold in32; omega) (fun c10 => ?_) (fun c10 => ?_)
      · refine k_iload_n hE dX7_nextTap_89 2 rfl rfl ?_
        refine k_iret hR dX7_nextTap_90 rfl ?_
        have ef : f = Y.1 0 := by omega
        rw [ef] at qz
        exact ⟨z, rfl, rfl, qz⟩
      · have kf := ky f
        have kz := ky z
        have hf := hit f (by omega) (by omega)
        have df := hdn f (by omega) (by omega)
        have J61 : ∀ (t : Int), ((t = 1 ∧ (z = -9 ∨ KY Y q f < KY Y q z)) ∨ (t = 0 ∧ z ≠ -9 ∧ ¬ KY Y q f < KY Y q z)) → KW (mw ad D cI cZ) G H0 m 5 st 61 [(0, .ref (ad 0)), (1, .int (iI b)), (2, .int (iI z)), (3, .int (iI f))] [.int (iI t)] := by
          intro t ht
          refine k_istore hE dX7_nextTap_61 [1, 2, 3, 4, 0] (Nat.le_of_ble_eq_true rfl) (lo' := [(0, .ref (ad 0)), (1, .int (iI b)), (2, .int (iI z)), (3, .int (iI f)), (4, .int (iI t))]) rfl ?_
          refine k_aload_n hE dX7_nextTap_63 0 rfl rfl ?_
          refine m_get_isDone hE fl_X7_52 dX7_nextTap_64 ?_
          refine k_iload_n hE dX7_nextTap_67 3 rfl rfl ?_
          refine m_ld_isDone hE (z := st.2 17 f) (by omega) (by omega) rfl dX7_nextTap_68 ?_
          refine k_if_ne hE 81 dX7_nextTap_69 (by decide) (by unfold in32; omega) (fun c69 => ?_) (fun c69 => ?_)
          · refine k_iload_n hE dX7_nextTap_81 2 rfl rfl ?_
            refine k_istore_n hE dX7_nextTap_82 [1, 2, 0, 3, 4] rfl (Nat.le_of_ble_eq_true rfl) (lo' := [(0, .ref (ad 0)), (1, .int (iI b)), (2, .int (iI z)), (3, .int (iI f)), (4, .int (iI t))]) rfl ?_
            refine k_iinc hE dX7_nextTap_83 3 [1, 2, 3, 0, 4] rfl (Nat.le_of_ble_eq_true rfl) (lo' := [(0, .ref (ad 0)), (1, .int (iI b)), (2, .int (iI z)), (3, .int (iI (f + 1))), (4, .int (iI t))]) rfl ?_
            refine k_goto hE 5 dX7_nextTap_86 (by decide) ?_
            refine k_lo [0, 1, 2, 3] (lo' := [(0, .ref (ad 0)), (1, .int (iI b)), (2, .int (iI z)), (3, .int (iI (f + 1)))]) rfl ?_
            refine ih5 _ _ (by omega) (by omega) ?_
            first
              | (refine Or.inr ⟨by omega, by omega, by omega, fun g g0 g1 g2 => ?_⟩
                 by_cases e : g = f
                 · exact Or.inl e
                 · right
                   rcases qz with ⟨a, b5⟩ | ⟨a, b5, c5, d5⟩
                   · have h5 := b5 g g0 (by omega); omega
                   · rcases d5 g g0 (by omega) g2 with e2 | e2
                     · rw [e2]; unfold BF; omega
                     · refine BF_tr (b := z) ?_ e2
                       unfold BF; omega)
              | (rcases qz with ⟨a, b5⟩ | ⟨a, b5, c5, d5⟩
                 · refine Or.inl ⟨a, fun g g0 g1 => ?_⟩
                   by_cases e : g = f
                   · rw [e]; omega
                   · exact b5 g g0 (by omega)
                 · refine Or.inr ⟨a, by omega, c5, fun g g0 g1 g2 => ?_⟩
                   by_cases e : g = f
                   · right
                     rw [e] at g2 ⊢
                     unfold BF; omega
                   · exact d5 g g0 (by omega) g2)
          · refine k_iload hE dX7_nextTap_72 4 rfl ?_
            refine k_if_eq hE 81 dX7_nextTap_74 (by decide) (by unfold in32; omega) (fun c74 => ?_) (fun c74 => ?_)
            · refine k_iload_n hE dX7_nextTap_81 2 rfl rfl ?_
              refine k_istore_n hE dX7_nextTap_82 [1, 2, 0, 3, 4] rfl (Nat.le_of_ble_eq_true rfl) (lo' := [(0, .ref (ad 0)), (1, .int (iI b)), (2, .int (iI z)), (3, .int (iI f)), (4, .int (iI t))]) rfl ?_
              refine k_iinc hE dX7_nextTap_83 3 [1, 2, 3, 0, 4] rfl (Nat.le_of_ble_eq_true rfl) (lo' := [(0, .ref (ad 0)), (1, .int (iI b)), (2, .int (iI z)), (3, .int (iI (f + 1))), (4, .int (iI t))]) rfl ?_
              refine k_goto hE 5 dX7_nextTap_86 (by decide) ?_
              refine k_lo [0, 1, 2, 3] (lo' := [(0, .ref (ad 0)), (1, .int (iI b)), (2, .int (iI z)), (3, .int (iI (f + 1)))]) rfl ?_
              refine ih5 _ _ (by omega) (by omega) ?_
              first
                | (refine Or.inr ⟨by omega, by omega, by omega, fun g g0 g1 g2 => ?_⟩
                   by_cases e : g = f
                   · exact Or.inl e
                   · right
                     rcases qz with ⟨a, b5⟩ | ⟨a, b5, c5, d5⟩
                     · have h5 := b5 g g0 (by omega); omega
                     · rcases d5 g g0 (by omega) g2 with e2 | e2
                       · rw [e2]; unfold BF; omega
                       · refine BF_tr (b := z) ?_ e2
                         unfold BF; omega)
                | (rcases qz with ⟨a, b5⟩ | ⟨a, b5, c5, d5⟩
                   · refine Or.inl ⟨a, fun g g0 g1 => ?_⟩
                     by_cases e : g = f
                     · rw [e]; omega
                     · exact b5 g g0 (by omega)
                   · refine Or.inr ⟨a, by omega, c5, fun g g0 g1 g2 => ?_⟩
                     by_cases e : g = f
                     · right
                       rw [e] at g2 ⊢
                       unfold BF; omega
                     · exact d5 g g0 (by omega) g2)
            · refine k_iload_n hE dX7_nextTap_77 3 rfl rfl ?_
              refine k_goto hE 82 dX7_nextTap_78 (by decide) ?_
              refine k_istore_n hE dX7_nextTap_82 [1, 2, 0, 3, 4] rfl (Nat.le_of_ble_eq_true rfl) (lo' := [(0, .ref (ad 0)), (1, .int (iI b)), (2, .int (iI f)), (3, .int (iI f)), (4, .int (iI t))]) rfl ?_
              refine k_iinc hE dX7_nextTap_83 3 [1, 2, 3, 0, 4] rfl (Nat.le_of_ble_eq_true rfl) (lo' := [(0, .ref (ad 0)), (1, .int (iI b)), (2, .int (iI f)), (3, .int (iI (f + 1))), (4, .int (iI t))]) rfl ?_
              refine k_goto hE 5 dX7_nextTap_86 (by decide) ?_
              refine k_lo [0, 1, 2, 3] (lo' := [(0, .ref (ad 0)), (1, .int (iI b)), (2, .int (iI f)), (3, .int (iI (f + 1)))]) rfl ?_
              refine ih5 _ _ (by omega) (by omega) ?_
              first
                | (refine Or.inr ⟨by omega, by omega, by omega, fun g g0 g1 g2 => ?_⟩
                   by_cases e : g = f
                   · exact Or.inl e
                   · right
                     rcases qz with ⟨a, b5⟩ | ⟨a, b5, c5, d5⟩
                     · have h5 := b5 g g0 (by omega); omega
                     · rcases d5 g g0 (by omega) g2 with e2 | e2
                       · rw [e2]; unfold BF; omega
                       · refine BF_tr (b := z) ?_ e2
                         unfold BF; omega)
                | (rcases qz with ⟨a, b5⟩ | ⟨a, b5, c5, d5⟩
                   · refine Or.inl ⟨a, fun g g0 g1 => ?_⟩
                     by_cases e : g = f
                     · rw [e]; omega
                     · exact b5 g g0 (by omega)
                   · refine Or.inr ⟨a, by omega, c5, fun g g0 g1 g2 => ?_⟩
                     by_cases e : g = f
                     · right
                       rw [e] at g2 ⊢
                       unfold BF; omega
                     · exact d5 g g0 (by omega) g2)
        refine k_iload_n hE dX7_nextTap_13 2 rfl rfl ?_
        refine k_bipush hE dX7_nextTap_14 rfl ?_
        refine k_icmp_eq hE 56 dX7_nextTap_16 (by decide) (by unfold in32; omega) (by unfold in32; omega) (fun c16 => ?_) (fun c16 => ?_)
        · refine k_iconst hE dX7_nextTap_56 ?_
          refine k_goto hE 61 dX7_nextTap_57 (by decide) ?_
          exact J61 _ (by omega)
        · refine k_iload_n hE dX7_nextTap_19 1 rfl rfl ?_
          refine k_if_eq hE 41 dX7_nextTap_20 (by decide) (by unfold in32; omega) (fun c20 => ?_) (fun c20 => ?_)
          · have hz1 := hit z (by omega) (by omega)
            refine k_aload_n hE dX7_nextTap_41 0 rfl rfl ?_
            refine m_get_height hE fl_X7_22 dX7_nextTap_42 ?_
            refine k_iload_n hE dX7_nextTap_45 3 rfl rfl ?_
            refine m_ld_height hE (z := Y.2 1 f) (by omega) (by omega) (congrFun (hA.2 1 (by decide)) f) dX7_nextTap_46 ?_
            refine k_aload_n hE dX7_nextTap_47 0 rfl rfl ?_
            refine m_get_height hE fl_X7_22 dX7_nextTap_48 ?_
            refine k_iload_n hE dX7_nextTap_51 2 rfl rfl ?_
            refine m_ld_height hE (z := Y.2 1 z) (by omega) (by omega) (congrFun (hA.2 1 (by decide)) z) dX7_nextTap_52 ?_
            refine k_icmp_ge hE 60 dX7_nextTap_53 (by decide) (by unfold in32; omega) (by unfold in32; omega) (fun c53 => ?_) (fun c53 => ?_)
            · refine k_iconst hE dX7_nextTap_60 ?_
              exact J61 _ (by omega)
            · refine k_iconst hE dX7_nextTap_56 ?_
              refine k_goto hE 61 dX7_nextTap_57 (by decide) ?_
              exact J61 _ (by omega)
          · have hz1 := hit z (by omega) (by omega)
            refine k_aload_n hE dX7_nextTap_23 0 rfl rfl ?_
            refine m_get_height hE fl_X7_22 dX7_nextTap_24 ?_
            refine k_iload_n hE dX7_nextTap_27 3 rfl rfl ?_
            refine m_ld_height hE (z := Y.2 1 f) (by omega) (by omega) (congrFun (hA.2 1 (by decide)) f) dX7_nextTap_28 ?_
            refine k_aload_n hE dX7_nextTap_29 0 rfl rfl ?_
            refine m_get_height hE fl_X7_22 dX7_nextTap_30 ?_
            refine k_iload_n hE dX7_nextTap_33 2 rfl rfl ?_
            refine m_ld_height hE (z := Y.2 1 z) (by omega) (by omega) (congrFun (hA.2 1 (by decide)) z) dX7_nextTap_34 ?_
            refine k_icmp_le hE 60 dX7_nextTap_35 (by decide) (by unfold in32; omega) (by unfold in32; omega) (fun c35 => ?_) (fun c35 => ?_)
            · refine k_iconst hE dX7_nextTap_60 ?_
              exact J61 _ (by omega)
            · refine k_goto hE 56 dX7_nextTap_38 (by decide) ?_
              refine k_iconst hE dX7_nextTap_56 ?_
              refine k_goto hE 61 dX7_nextTap_57 (by decide) ?_
              exact J61 _ (by omega)
  exact L5 7 (-9) 0 (by omega) (by omega) (Or.inl ⟨rfl, fun g g0 g1 => by omega⟩)
