set_option maxHeartbeats 4000000 in
set_option maxRecDepth 100000 in
theorem c_X3_wants {ad : Nat → Nat} {ta sa ca : Int → Nat} {D : va_G} {cI cT cS : ClassId} (st : Sg) (Y : Sg) (f : Int) (hA : Ag st Y) (hI : Inv Y) (h0 : 0 ≤ f) (h1 : f < 6) : MC (xw ad ta sa ca D cI cT cS) yX3_wants cX3_wants 1 (some .int) { frames := 0, cells := 0, slots := 0, locals := 0 } [.ref (ta f)] st (fun rv u => rv = some (.int (iI (WN Y f))) ∧ u = st) := by
  refine MC_intro RX3 (by decide) rfl (Nat.le_of_ble_eq_true rfl) ?_
  intro G H0 m hE hR
  refine k_lo [0] (lo' := [(0, .ref (ta f))]) rfl ?_
  obtain ⟨hi0, hi1, hi2, hi3, hi4, hi5, hi6, hi7, hit, hir, him, hin⟩ := id hI
  have hf := hit f h0 h1
  refine k_aload_n hE dX3_wants_0 0 rfl rfl ?_
  refine x_get_X3_kind hE (z := Y.2 0 f) (by omega) (by omega) (congrFun (hA.2 0 (by decide)) f) fl_X3_9 dX3_wants_1 ?_
  refine k_iconst hE dX3_wants_4 ?_
  refine k_icmp_ne hE 22 dX3_wants_5 (by decide) (by unfold in32; omega) (by unfold in32; omega) (fun c5 => ?_) (fun c5 => ?_)
  · refine k_aload_n hE dX3_wants_22 0 rfl rfl ?_
    refine x_get_X3_kind hE (z := Y.2 0 f) (by omega) (by omega) (congrFun (hA.2 0 (by decide)) f) fl_X3_9 dX3_wants_23 ?_
    refine k_iconst hE dX3_wants_26 ?_
    refine k_icmp_ne hE 44 dX3_wants_27 (by decide) (by unfold in32; omega) (by unfold in32; omega) (fun c27 => ?_) (fun c27 => ?_)
    · refine k_aload_n hE dX3_wants_44 0 rfl rfl ?_
      refine x_get_X3_need hE (z := Y.2 2 f) (by omega) (by omega) (congrFun (hA.2 2 (by decide)) f) fl_X3_15 dX3_wants_45 ?_
      exact k_iret hR dX3_wants_48 rfl ⟨ret_i (by unfold WN; repeat (first | omega | split)), rfl⟩
    · refine k_aload_n hE dX3_wants_30 0 rfl rfl ?_
      refine x_get_X3_need hE (z := Y.2 2 f) (by omega) (by omega) (congrFun (hA.2 2 (by decide)) f) fl_X3_15 dX3_wants_31 ?_
      refine k_aload_n hE dX3_wants_34 0 rfl rfl ?_
      refine x_get_X3_need hE (z := Y.2 2 f) (by omega) (by omega) (congrFun (hA.2 2 (by decide)) f) fl_X3_15 dX3_wants_35 ?_
      refine k_iconst hE dX3_wants_38 ?_
      refine k_idivN hE dX3_wants_39 (by unfold in32; omega) (by unfold in32; omega) (by omega) (by omega) ?_
      refine k_iadd hE dX3_wants_40 ?_
      refine k_goto hE 48 dX3_wants_41 (by decide) ?_
      exact k_iret hR dX3_wants_48 rfl ⟨ret_i (by unfold WN; repeat (first | omega | split)), rfl⟩
  · refine k_aload_n hE dX3_wants_8 0 rfl rfl ?_
    refine x_get_X3_need hE (z := Y.2 2 f) (by omega) (by omega) (congrFun (hA.2 2 (by decide)) f) fl_X3_15 dX3_wants_9 ?_
    refine k_aload_n hE dX3_wants_12 0 rfl rfl ?_
    refine x_get_X3_need hE (z := Y.2 2 f) (by omega) (by omega) (congrFun (hA.2 2 (by decide)) f) fl_X3_15 dX3_wants_13 ?_
    refine k_iconst hE dX3_wants_16 ?_
    refine k_idivN hE dX3_wants_17 (by unfold in32; omega) (by unfold in32; omega) (by omega) (by omega) ?_
    refine k_iadd hE dX3_wants_18 ?_
    refine k_iconst hE dX3_wants_19 ?_
    refine k_iadd hE dX3_wants_20 ?_
    exact k_iret hR dX3_wants_21 rfl ⟨ret_i (by unfold WN; repeat (first | omega | split)), rfl⟩

set_option maxHeartbeats 4000000 in
set_option maxRecDepth 100000 in
theorem c_X5_givesAt {ad : Nat → Nat} {ta sa ca : Int → Nat} {D : va_G} {cI cT cS : ClassId} (st : Sg) (Y : Sg) (f : Int) (w : Int) (hA : Ag st Y) (hI : Inv Y) (h0 : 0 ≤ f) (h1 : f < 6) (hw : -1000 ≤ w ∧ w ≤ 1000) : MC (xw ad ta sa ca D cI cT cS) yX5_givesAt cX5_givesAt 4 (some .int) { frames := 0, cells := 0, slots := 0, locals := 0 } [.ref (ad 1), .int (iI f), .int (iI w)] st (fun rv u => rv = some (.int (iI (GV Y f w))) ∧ u = st) := by
  refine MC_intro RX5 (by decide) rfl (Nat.le_of_ble_eq_true rfl) ?_
  intro G H0 m hE hR
  refine k_lo [0, 1, 2] (lo' := [(0, .ref (ad 1)), (1, .int (iI f)), (2, .int (iI w))]) rfl ?_
  obtain ⟨hi0, hi1, hi2, hi3, hi4, hi5, hi6, hi7, hit, hir, him, hin⟩ := id hI
  have hf := hit f h0 h1
  have hm := mul99 hf.2.1 hi2
  refine k_iload_n hE dX5_givesAt_0 2 rfl rfl ?_
  refine k_aload_n hE dX5_givesAt_1 0 rfl rfl ?_
  refine x_get_X5_taps hE fl_X5_11 dX5_givesAt_2 ?_
  refine k_iload_n hE dX5_givesAt_5 1 rfl rfl ?_
  refine x_ld_taps hE (i := f) (by omega) (by omega) dX5_givesAt_6 ?_
  refine x_get_X3_height hE (z := Y.2 1 f) (by omega) (by omega) (congrFun (hA.2 1 (by decide)) f) fl_X5_56 dX5_givesAt_7 ?_
  refine k_aload_n hE dX5_givesAt_10 0 rfl rfl ?_
  refine x_get_X5_per hE (z := Y.1 2) (hA.1 2 (by decide)) fl_X5_32 dX5_givesAt_11 ?_
  refine k_imul hE dX5_givesAt_14 ?_
  refine k_isub hE dX5_givesAt_15 ?_
  refine k_istore_n hE dX5_givesAt_16 [1, 2, 3, 0] rfl (Nat.le_of_ble_eq_true rfl) (lo' := [(0, .ref (ad 1)), (1, .int (iI f)), (2, .int (iI w)), (3, .int (iI (w - ((Y.2 1 f) * (Y.1 2)))))]) rfl ?_
  refine k_iload_n hE dX5_givesAt_17 3 rfl rfl ?_
  refine k_if_le hE 25 dX5_givesAt_18 (by decide) (by unfold in32; omega) (fun c18 => ?_) (fun c18 => ?_)
  · refine k_iconst hE dX5_givesAt_25 ?_
    exact k_iret hR dX5_givesAt_26 rfl ⟨ret_i (by unfold GV; omega), rfl⟩
  · refine k_iload_n hE dX5_givesAt_21 3 rfl rfl ?_
    refine k_goto hE 26 dX5_givesAt_22 (by decide) ?_
    exact k_iret hR dX5_givesAt_26 rfl ⟨ret_i (by unfold GV; omega), rfl⟩

set_option maxHeartbeats 4000000 in
set_option maxRecDepth 100000 in
theorem c_X6_isNot {ad : Nat → Nat} {ta sa ca : Int → Nat} {D : va_G} {cI cT cS : ClassId} (st : Sg) (a : Int) (v : Int) (b : Int) (i_a : -2147483648 ≤ a ∧ a < 2147483648) (i_v : -2147483648 ≤ v ∧ v < 2147483648) (i_b : -2147483648 ≤ b ∧ b < 2147483648) : MC (xw ad ta sa ca D cI cT cS) yX6_isNot cX6_isNot 3 (some .boolean) { frames := 0, cells := 0, slots := 0, locals := 0 } [.int (iI a), .int (iI v), .int (iI b)] st (fun rv u => ∃ z : Int, rv = some (.int (iI (z))) ∧ u = st ∧ ((z = 1 ∧ (v < a ∨ b < v)) ∨ (z = 0 ∧ ¬ (v < a ∨ b < v)))) := by
  refine MC_intro RX6 (by decide) rfl (Nat.le_of_ble_eq_true rfl) ?_
  intro G H0 m hE hR
  refine k_lo [0, 1, 2] (lo' := [(0, .int (iI a)), (1, .int (iI v)), (2, .int (iI b))]) rfl ?_
  refine k_iload_n hE dX6_isNot_0 1 rfl rfl ?_
  refine k_iload_n hE dX6_isNot_1 0 rfl rfl ?_
  refine k_icmp_lt hE 10 dX6_isNot_2 (by decide) (by unfold in32; omega) (by unfold in32; omega) (fun c2 => ?_) (fun c2 => ?_)
  · refine k_iconst hE dX6_isNot_10 ?_
    refine k_goto hE 15 dX6_isNot_11 (by decide) ?_
    exact k_zret hR dX6_isNot_15 rfl (nar_b (by omega)) ⟨_, rfl, rfl, by omega⟩
  · refine k_iload_n hE dX6_isNot_5 1 rfl rfl ?_
    refine k_iload_n hE dX6_isNot_6 2 rfl rfl ?_
    refine k_icmp_le hE 14 dX6_isNot_7 (by decide) (by unfold in32; omega) (by unfold in32; omega) (fun c7 => ?_) (fun c7 => ?_)
    · refine k_iconst hE dX6_isNot_14 ?_
      exact k_zret hR dX6_isNot_15 rfl (nar_b (by omega)) ⟨_, rfl, rfl, by omega⟩
    · refine k_iconst hE dX6_isNot_10 ?_
      refine k_goto hE 15 dX6_isNot_11 (by decide) ?_
      exact k_zret hR dX6_isNot_15 rfl (nar_b (by omega)) ⟨_, rfl, rfl, by omega⟩

set_option maxHeartbeats 4000000 in
set_option maxRecDepth 100000 in
theorem c_X6_noDay {ad : Nat → Nat} {ta sa ca : Int → Nat} {D : va_G} {cI cT cS : ClassId} (st : Sg) (d : Int) (i_d : -2147483648 ≤ d ∧ d < 2147483648) : MC (xw ad ta sa ca D cI cT cS) yX6_noDay cX6_noDay 1 (some .boolean) { frames := 1, cells := 0, slots := 0, locals := 22 } [.int (iI d)] st (fun rv u => ∃ z : Int, rv = some (.int (iI (z))) ∧ u = st ∧ ((z = 1 ∧ (d < 0 ∨ 9 < d)) ∨ (z = 0 ∧ ¬ (d < 0 ∨ 9 < d)))) := by
  refine MC_intro RX6 (by decide) rfl (Nat.le_of_ble_eq_true rfl) ?_
  intro G H0 m hE hR
  refine k_lo [0] (lo' := [(0, .int (iI d))]) rfl ?_
  refine k_iconst hE dX6_noDay_0 ?_
  refine k_iload_n hE dX6_noDay_1 0 rfl rfl ?_
  refine k_bipush hE dX6_noDay_2 rfl ?_
  refine k_callS hE (c_X6_isNot st 0 d 9 (by omega) (by omega) (by omega)) ms_X6_isNot ml_X6_104 rfl ⟨rfl, rfl, Nat.le_of_ble_eq_true rfl, Nat.le_of_ble_eq_true rfl⟩ [] (Nat.le_of_ble_eq_true rfl) dX6_noDay_4 rfl (fun rv u hp => ?_)
  obtain ⟨z1, hv4, hu4, hz_4⟩ := hp
  refine k_sk (sk' := [.int (iI z1)]) (by rw [hv4]; rfl) ?_
  refine k_st st hu4 ?_
  exact k_zret hR dX6_noDay_7 rfl (nar_b (by omega)) ⟨_, rfl, rfl, by omega⟩

set_option maxHeartbeats 4000000 in
set_option maxRecDepth 100000 in
theorem c_X6_noSheet {ad : Nat → Nat} {ta sa ca : Int → Nat} {D : va_G} {cI cT cS : ClassId} (st : Sg) (k : Int) (i_k : -2147483648 ≤ k ∧ k < 2147483648) : MC (xw ad ta sa ca D cI cT cS) yX6_noSheet cX6_noSheet 1 (some .boolean) { frames := 1, cells := 0, slots := 0, locals := 22 } [.int (iI k)] st (fun rv u => ∃ z : Int, rv = some (.int (iI (z))) ∧ u = st ∧ ((z = 1 ∧ (k < 0 ∨ 3 < k)) ∨ (z = 0 ∧ ¬ (k < 0 ∨ 3 < k)))) := by
  refine MC_intro RX6 (by decide) rfl (Nat.le_of_ble_eq_true rfl) ?_
  intro G H0 m hE hR
  refine k_lo [0] (lo' := [(0, .int (iI k))]) rfl ?_
  refine k_iconst hE dX6_noSheet_0 ?_
  refine k_iload_n hE dX6_noSheet_1 0 rfl rfl ?_
  refine k_iconst hE dX6_noSheet_2 ?_
  refine k_callS hE (c_X6_isNot st 0 k 3 (by omega) (by omega) (by omega)) ms_X6_isNot ml_X6_104 rfl ⟨rfl, rfl, Nat.le_of_ble_eq_true rfl, Nat.le_of_ble_eq_true rfl⟩ [] (Nat.le_of_ble_eq_true rfl) dX6_noSheet_3 rfl (fun rv u hp => ?_)
  obtain ⟨z1, hv3, hu3, hz_3⟩ := hp
  refine k_sk (sk' := [.int (iI z1)]) (by rw [hv3]; rfl) ?_
  refine k_st st hu3 ?_
  exact k_zret hR dX6_noSheet_6 rfl (nar_b (by omega)) ⟨_, rfl, rfl, by omega⟩

set_option maxHeartbeats 4000000 in
set_option maxRecDepth 100000 in
theorem c_X6_noLane {ad : Nat → Nat} {ta sa ca : Int → Nat} {D : va_G} {cI cT cS : ClassId} (st : Sg) (k : Int) (i_k : -2147483648 ≤ k ∧ k < 2147483648) : MC (xw ad ta sa ca D cI cT cS) yX6_noLane cX6_noLane 1 (some .boolean) { frames := 1, cells := 0, slots := 0, locals := 22 } [.int (iI k)] st (fun rv u => ∃ z : Int, rv = some (.int (iI (z))) ∧ u = st ∧ ((z = 1 ∧ (k < 0 ∨ 2 < k)) ∨ (z = 0 ∧ ¬ (k < 0 ∨ 2 < k)))) := by
  refine MC_intro RX6 (by decide) rfl (Nat.le_of_ble_eq_true rfl) ?_
  intro G H0 m hE hR
  refine k_lo [0] (lo' := [(0, .int (iI k))]) rfl ?_
  refine k_iconst hE dX6_noLane_0 ?_
  refine k_iload_n hE dX6_noLane_1 0 rfl rfl ?_
  refine k_iconst hE dX6_noLane_2 ?_
  refine k_callS hE (c_X6_isNot st 0 k 2 (by omega) (by omega) (by omega)) ms_X6_isNot ml_X6_104 rfl ⟨rfl, rfl, Nat.le_of_ble_eq_true rfl, Nat.le_of_ble_eq_true rfl⟩ [] (Nat.le_of_ble_eq_true rfl) dX6_noLane_3 rfl (fun rv u hp => ?_)
  obtain ⟨z1, hv3, hu3, hz_3⟩ := hp
  refine k_sk (sk' := [.int (iI z1)]) (by rw [hv3]; rfl) ?_
  refine k_st st hu3 ?_
  exact k_zret hR dX6_noLane_6 rfl (nar_b (by omega)) ⟨_, rfl, rfl, by omega⟩

set_option maxHeartbeats 4000000 in
set_option maxRecDepth 100000 in
theorem c_X6_noYard {ad : Nat → Nat} {ta sa ca : Int → Nat} {D : va_G} {cI cT cS : ClassId} (st : Sg) (Y : Sg) (hA : Ag st Y) (hI : Inv Y) : MC (xw ad ta sa ca D cI cT cS) yX6_noYard cX6_noYard 1 (some .boolean) { frames := 0, cells := 0, slots := 0, locals := 0 } [.ref (ad 0)] st (fun rv u => ∃ z : Int, rv = some (.int (iI (z))) ∧ u = st ∧ ((z = 1 ∧ (Y.1 0 = 0)) ∨ (z = 0 ∧ ¬ (Y.1 0 = 0)))) := by
  refine MC_intro RX6 (by decide) rfl (Nat.le_of_ble_eq_true rfl) ?_
  intro G H0 m hE hR
  refine k_lo [0] (lo' := [(0, .ref (ad 0))]) rfl ?_
  obtain ⟨hi0, hi1, hi2, hi3, hi4, hi5, hi6, hi7, hit, hir, him, hin⟩ := id hI
  refine k_aload_n hE dX6_noYard_0 0 rfl rfl ?_
  refine x_get_X6_yard hE fl_X6_12 dX6_noYard_1 ?_
  refine x_get_X5_tapCount hE (z := Y.1 0) (hA.1 0 (by decide)) fl_X6_76 dX6_noYard_4 ?_
  refine k_if_ne hE 14 dX6_noYard_7 (by decide) (by unfold in32; omega) (fun c7 => ?_) (fun c7 => ?_)
  · refine k_iconst hE dX6_noYard_14 ?_
    exact k_zret hR dX6_noYard_15 rfl (nar_b (by omega)) ⟨_, rfl, rfl, by omega⟩
  · refine k_iconst hE dX6_noYard_10 ?_
    refine k_goto hE 15 dX6_noYard_11 (by decide) ?_
    exact k_zret hR dX6_noYard_15 rfl (nar_b (by omega)) ⟨_, rfl, rfl, by omega⟩

set_option maxHeartbeats 4000000 in
set_option maxRecDepth 100000 in
theorem c_X6_noTap {ad : Nat → Nat} {ta sa ca : Int → Nat} {D : va_G} {cI cT cS : ClassId} (st : Sg) (Y : Sg) (f : Int) (hA : Ag st Y) (hI : Inv Y) (i_f : -2147483648 ≤ f ∧ f < 2147483648) : MC (xw ad ta sa ca D cI cT cS) yX6_noTap cX6_noTap 2 (some .boolean) { frames := 0, cells := 0, slots := 0, locals := 0 } [.ref (ad 0), .int (iI f)] st (fun rv u => ∃ z : Int, rv = some (.int (iI (z))) ∧ u = st ∧ ((z = 1 ∧ (f < 0 ∨ Y.1 0 ≤ f)) ∨ (z = 0 ∧ ¬ (f < 0 ∨ Y.1 0 ≤ f)))) := by
  refine MC_intro RX6 (by decide) rfl (Nat.le_of_ble_eq_true rfl) ?_
  intro G H0 m hE hR
  refine k_lo [0, 1] (lo' := [(0, .ref (ad 0)), (1, .int (iI f))]) rfl ?_
  obtain ⟨hi0, hi1, hi2, hi3, hi4, hi5, hi6, hi7, hit, hir, him, hin⟩ := id hI
  refine k_iload_n hE dX6_noTap_0 1 rfl rfl ?_
  refine k_if_lt hE 15 dX6_noTap_1 (by decide) (by unfold in32; omega) (fun c1 => ?_) (fun c1 => ?_)
  · refine k_iconst hE dX6_noTap_15 ?_
    refine k_goto hE 20 dX6_noTap_16 (by decide) ?_
    exact k_zret hR dX6_noTap_20 rfl (nar_b (by omega)) ⟨_, rfl, rfl, by omega⟩
  · refine k_iload_n hE dX6_noTap_4 1 rfl rfl ?_
    refine k_aload_n hE dX6_noTap_5 0 rfl rfl ?_
    refine x_get_X6_yard hE fl_X6_12 dX6_noTap_6 ?_
    refine x_get_X5_tapCount hE (z := Y.1 0) (hA.1 0 (by decide)) fl_X6_76 dX6_noTap_9 ?_
    refine k_icmp_lt hE 19 dX6_noTap_12 (by decide) (by unfold in32; omega) (by unfold in32; omega) (fun c12 => ?_) (fun c12 => ?_)
    · refine k_iconst hE dX6_noTap_19 ?_
      exact k_zret hR dX6_noTap_20 rfl (nar_b (by omega)) ⟨_, rfl, rfl, by omega⟩
    · refine k_iconst hE dX6_noTap_15 ?_
      refine k_goto hE 20 dX6_noTap_16 (by decide) ?_
      exact k_zret hR dX6_noTap_20 rfl (nar_b (by omega)) ⟨_, rfl, rfl, by omega⟩

set_option maxHeartbeats 4000000 in
set_option maxRecDepth 100000 in
theorem c_X6_failBy {ad : Nat → Nat} {ta sa ca : Int → Nat} {D : va_G} {cI cT cS : ClassId} (st : Sg) (k : Int)  : MC (xw ad ta sa ca D cI cT cS) yX6_failBy cX6_failBy 2 (some .int) { frames := 0, cells := 0, slots := 0, locals := 0 } [.ref (ad 0), .int (iI k)] st (fun rv u => rv = some (.int (iI (-10 - k))) ∧ u = (uv st.1 9 k, st.2)) := by
  refine MC_intro RX6 (by decide) rfl (Nat.le_of_ble_eq_true rfl) ?_
  intro G H0 m hE hR
  refine k_lo [0, 1] (lo' := [(0, .ref (ad 0)), (1, .int (iI k))]) rfl ?_
  refine k_aload_n hE dX6_failBy_0 0 rfl rfl ?_
  refine k_iload_n hE dX6_failBy_1 1 rfl rfl ?_
  refine x_put_X6_lastFault hE fl_X6_41 dX6_failBy_2 ?_
  refine k_st ((uv st.1 9 k, st.2)) rfl ?_
  refine k_bipush hE dX6_failBy_5 rfl ?_
  refine k_iload_n hE dX6_failBy_7 1 rfl rfl ?_
  refine k_isub hE dX6_failBy_8 ?_
  exact k_iret hR dX6_failBy_9 rfl ⟨rfl, rfl⟩

set_option maxHeartbeats 4000000 in
set_option maxRecDepth 100000 in
theorem c_X6_leaveTrace {ad : Nat → Nat} {ta sa ca : Int → Nat} {D : va_G} {cI cT cS : ClassId} (st : Sg) (k : Int)  : MC (xw ad ta sa ca D cI cT cS) yX6_leaveTrace cX6_leaveTrace 2 none { frames := 0, cells := 0, slots := 0, locals := 0 } [.ref (ad 0), .int (iI k)] st (fun rv u => rv = none ∧ u = (uv st.1 8 (31 * st.1 8 + k), st.2)) := by
  refine MC_intro RX6 (by decide) rfl (Nat.le_of_ble_eq_true rfl) ?_
  intro G H0 m hE hR
  refine k_lo [0, 1] (lo' := [(0, .ref (ad 0)), (1, .int (iI k))]) rfl ?_
  refine k_aload_n hE dX6_leaveTrace_0 0 rfl rfl ?_
  refine k_bipush hE dX6_leaveTrace_1 rfl ?_
  refine k_aload_n hE dX6_leaveTrace_3 0 rfl rfl ?_
  refine x_get_X6_traceLeft hE (z := st.1 8) rfl fl_X6_223 dX6_leaveTrace_4 ?_
  refine k_imul hE dX6_leaveTrace_7 ?_
  refine k_iload_n hE dX6_leaveTrace_8 1 rfl rfl ?_
  refine k_iadd hE dX6_leaveTrace_9 ?_
  refine x_put_X6_traceLeft hE fl_X6_223 dX6_leaveTrace_10 ?_
  refine k_st ((uv st.1 8 ((31 * (st.1 8)) + k), st.2)) rfl ?_
  exact k_vret hR dX6_leaveTrace_13 rfl ⟨rfl, rfl⟩

set_option maxHeartbeats 4000000 in
set_option maxRecDepth 100000 in
theorem c_X2_hasCells {ad : Nat → Nat} {ta sa ca : Int → Nat} {D : va_G} {cI cT cS : ClassId} (st : Sg) (k : Int) (i : Int) (n : Int) (h0 : 0 ≤ k) (h1 : k < 4) (i_i : -2147483648 ≤ i ∧ i < 2147483648) (i_n : -2147483648 ≤ n ∧ n < 2147483648) (hs : 0 ≤ st.2 8 k ∧ st.2 8 k ≤ 60) : MC (xw ad ta sa ca D cI cT cS) yX2_hasCells cX2_hasCells 3 (some .boolean) { frames := 0, cells := 0, slots := 0, locals := 0 } [.ref (sa k), .int (iI i), .int (iI n)] st (fun rv u => ∃ z : Int, rv = some (.int (iI (z))) ∧ u = st ∧ ((z = 1 ∧ (0 ≤ i ∧ i ≤ st.2 8 k ∧ 0 ≤ n ∧ n ≤ st.2 8 k - i)) ∨ (z = 0 ∧ ¬ (0 ≤ i ∧ i ≤ st.2 8 k ∧ 0 ≤ n ∧ n ≤ st.2 8 k - i)))) := by
  refine MC_intro RX2 (by decide) rfl (Nat.le_of_ble_eq_true rfl) ?_
  intro G H0 m hE hR
  refine k_lo [0, 1, 2] (lo' := [(0, .ref (sa k)), (1, .int (iI i)), (2, .int (iI n))]) rfl ?_
  refine k_iload_n hE dX2_hasCells_0 1 rfl rfl ?_
  refine k_if_lt hE 30 dX2_hasCells_1 (by decide) (by unfold in32; omega) (fun c1 => ?_) (fun c1 => ?_)
  · refine k_iconst hE dX2_hasCells_30 ?_
    exact k_zret hR dX2_hasCells_31 rfl (nar_b (by omega)) ⟨_, rfl, rfl, by omega⟩
  · refine k_iload_n hE dX2_hasCells_4 1 rfl rfl ?_
    refine k_aload_n hE dX2_hasCells_5 0 rfl rfl ?_
    refine x_get_X2_size hE (z := st.2 8 k) (by omega) (by omega) rfl fl_X2_19 dX2_hasCells_6 ?_
    refine k_icmp_gt hE 30 dX2_hasCells_9 (by decide) (by unfold in32; omega) (by unfold in32; omega) (fun c9 => ?_) (fun c9 => ?_)
    · refine k_iconst hE dX2_hasCells_30 ?_
      exact k_zret hR dX2_hasCells_31 rfl (nar_b (by omega)) ⟨_, rfl, rfl, by omega⟩
    · refine k_iload_n hE dX2_hasCells_12 2 rfl rfl ?_
      refine k_if_lt hE 30 dX2_hasCells_13 (by decide) (by unfold in32; omega) (fun c13 => ?_) (fun c13 => ?_)
      · refine k_iconst hE dX2_hasCells_30 ?_
        exact k_zret hR dX2_hasCells_31 rfl (nar_b (by omega)) ⟨_, rfl, rfl, by omega⟩
      · refine k_iload_n hE dX2_hasCells_16 2 rfl rfl ?_
        refine k_aload_n hE dX2_hasCells_17 0 rfl rfl ?_
        refine x_get_X2_size hE (z := st.2 8 k) (by omega) (by omega) rfl fl_X2_19 dX2_hasCells_18 ?_
        refine k_iload_n hE dX2_hasCells_21 1 rfl rfl ?_
        refine k_isub hE dX2_hasCells_22 ?_
        refine k_icmp_gt hE 30 dX2_hasCells_23 (by decide) (by unfold in32; omega) (by unfold in32; omega) (fun c23 => ?_) (fun c23 => ?_)
        · refine k_iconst hE dX2_hasCells_30 ?_
          exact k_zret hR dX2_hasCells_31 rfl (nar_b (by omega)) ⟨_, rfl, rfl, by omega⟩
        · refine k_iconst hE dX2_hasCells_26 ?_
          refine k_goto hE 31 dX2_hasCells_27 (by decide) ?_
          exact k_zret hR dX2_hasCells_31 rfl (nar_b (by omega)) ⟨_, rfl, rfl, by omega⟩

set_option maxHeartbeats 4000000 in
set_option maxRecDepth 100000 in
theorem c_X2_faultAsLane {ad : Nat → Nat} {ta sa ca : Int → Nat} {D : va_G} {cI cT cS : ClassId} (st : Sg) (k : Int) (l : Int) (h0 : 0 ≤ k) (h1 : k < 4) (i_l : -2147483648 ≤ l ∧ l < 2147483648) (hs : -1 ≤ st.2 7 k ∧ st.2 7 k ≤ 2) : MC (xw ad ta sa ca D cI cT cS) yX2_faultAsLane cX2_faultAsLane 2 (some .int) { frames := 0, cells := 0, slots := 0, locals := 0 } [.ref (sa k), .int (iI l)] st (fun rv u => rv = some (.int (iI (if st.2 7 k = -1 then 1 else if st.2 7 k = l then 0 else 2))) ∧ u = st) := by
  refine MC_intro RX2 (by decide) rfl (Nat.le_of_ble_eq_true rfl) ?_
  intro G H0 m hE hR
  refine k_lo [0, 1] (lo' := [(0, .ref (sa k)), (1, .int (iI l))]) rfl ?_
  refine k_aload_n hE dX2_faultAsLane_0 0 rfl rfl ?_
  refine x_get_X2_lane hE (z := st.2 7 k) (by omega) (by omega) rfl fl_X2_15 dX2_faultAsLane_1 ?_
  refine k_iconst hE dX2_faultAsLane_4 ?_
  refine k_icmp_ne hE 10 dX2_faultAsLane_5 (by decide) (by unfold in32; omega) (by unfold in32; omega) (fun c5 => ?_) (fun c5 => ?_)
  · refine k_aload_n hE dX2_faultAsLane_10 0 rfl rfl ?_
    refine x_get_X2_lane hE (z := st.2 7 k) (by omega) (by omega) rfl fl_X2_15 dX2_faultAsLane_11 ?_
    refine k_iload_n hE dX2_faultAsLane_14 1 rfl rfl ?_
    refine k_icmp_ne hE 22 dX2_faultAsLane_15 (by decide) (by unfold in32; omega) (by unfold in32; omega) (fun c15 => ?_) (fun c15 => ?_)
    · refine k_iconst hE dX2_faultAsLane_22 ?_
      exact k_iret hR dX2_faultAsLane_23 rfl ⟨ret_i (by repeat (first | omega | split)), rfl⟩
    · refine k_iconst hE dX2_faultAsLane_18 ?_
      refine k_goto hE 23 dX2_faultAsLane_19 (by decide) ?_
      exact k_iret hR dX2_faultAsLane_23 rfl ⟨ret_i (by repeat (first | omega | split)), rfl⟩
  · refine k_iconst hE dX2_faultAsLane_8 ?_
    exact k_iret hR dX2_faultAsLane_9 rfl ⟨ret_i (by repeat (first | omega | split)), rfl⟩

set_option maxHeartbeats 4000000 in
set_option maxRecDepth 100000 in
theorem c_X2_cutToLane {ad : Nat → Nat} {ta sa ca : Int → Nat} {D : va_G} {cI cT cS : ClassId} (st : Sg) (k : Int) (v : Int) (h0 : 0 ≤ k) (h1 : k < 4) (hs : -1 ≤ st.2 7 k ∧ st.2 7 k ≤ 2) : MC (xw ad ta sa ca D cI cT cS) yX2_cutToLane cX2_cutToLane 2 (some .int) { frames := 0, cells := 0, slots := 0, locals := 0 } [.ref (sa k), .int (iI v)] st (fun rv u => rv = some (.int (iI (if st.2 7 k = 0 then b8 v else if st.2 7 k = 1 then s16 v else v))) ∧ u = st) := by
  refine MC_intro RX2 (by decide) rfl (Nat.le_of_ble_eq_true rfl) ?_
  intro G H0 m hE hR
  refine k_lo [0, 1] (lo' := [(0, .ref (sa k)), (1, .int (iI v))]) rfl ?_
  refine k_aload_n hE dX2_cutToLane_0 0 rfl rfl ?_
  refine x_get_X2_lane hE (z := st.2 7 k) (by omega) (by omega) rfl fl_X2_15 dX2_cutToLane_1 ?_
  refine k_if_ne hE 10 dX2_cutToLane_4 (by decide) (by unfold in32; omega) (fun c4 => ?_) (fun c4 => ?_)
  · refine k_aload_n hE dX2_cutToLane_10 0 rfl rfl ?_
    refine x_get_X2_lane hE (z := st.2 7 k) (by omega) (by omega) rfl fl_X2_15 dX2_cutToLane_11 ?_
    refine k_iconst hE dX2_cutToLane_14 ?_
    refine k_icmp_ne hE 23 dX2_cutToLane_15 (by decide) (by unfold in32; omega) (by unfold in32; omega) (fun c15 => ?_) (fun c15 => ?_)
    · refine k_iload_n hE dX2_cutToLane_23 1 rfl rfl ?_
      exact k_iret hR dX2_cutToLane_24 rfl ⟨ret_i (by repeat (first | omega | split)), rfl⟩
    · refine k_iload_n hE dX2_cutToLane_18 1 rfl rfl ?_
      refine k_i2s hE dX2_cutToLane_19 ?_
      refine k_goto hE 24 dX2_cutToLane_20 (by decide) ?_
      exact k_iret hR dX2_cutToLane_24 rfl ⟨ret_i (by repeat (first | omega | split)), rfl⟩
  · refine k_iload_n hE dX2_cutToLane_7 1 rfl rfl ?_
    refine k_i2b hE dX2_cutToLane_8 ?_
    exact k_iret hR dX2_cutToLane_9 rfl ⟨ret_i (by repeat (first | omega | split)), rfl⟩

set_option maxHeartbeats 4000000 in
set_option maxRecDepth 100000 in
theorem c_X4_isDigit {ad : Nat → Nat} {ta sa ca : Int → Nat} {D : va_G} {cI cT cS : ClassId} (st : Sg) (c : Int) (i_c : -2147483648 ≤ c ∧ c < 2147483648) : MC (xw ad ta sa ca D cI cT cS) yX4_isDigit cX4_isDigit 1 (some .boolean) { frames := 0, cells := 0, slots := 0, locals := 0 } [.int (iI c)] st (fun rv u => ∃ z : Int, rv = some (.int (iI (z))) ∧ u = st ∧ ((z = 1 ∧ (48 ≤ c ∧ c ≤ 57)) ∨ (z = 0 ∧ ¬ (48 ≤ c ∧ c ≤ 57)))) := by
  refine MC_intro RX4 (by decide) rfl (Nat.le_of_ble_eq_true rfl) ?_
  intro G H0 m hE hR
  refine k_lo [0] (lo' := [(0, .int (iI c))]) rfl ?_
  refine k_iload_n hE dX4_isDigit_0 0 rfl rfl ?_
  refine k_bipush hE dX4_isDigit_1 rfl ?_
  refine k_icmp_lt hE 16 dX4_isDigit_3 (by decide) (by unfold in32; omega) (by unfold in32; omega) (fun c3 => ?_) (fun c3 => ?_)
  · refine k_iconst hE dX4_isDigit_16 ?_
    exact k_zret hR dX4_isDigit_17 rfl (nar_b (by omega)) ⟨_, rfl, rfl, by omega⟩
  · refine k_iload_n hE dX4_isDigit_6 0 rfl rfl ?_
    refine k_bipush hE dX4_isDigit_7 rfl ?_
    refine k_icmp_gt hE 16 dX4_isDigit_9 (by decide) (by unfold in32; omega) (by unfold in32; omega) (fun c9 => ?_) (fun c9 => ?_)
    · refine k_iconst hE dX4_isDigit_16 ?_
      exact k_zret hR dX4_isDigit_17 rfl (nar_b (by omega)) ⟨_, rfl, rfl, by omega⟩
    · refine k_iconst hE dX4_isDigit_12 ?_
      refine k_goto hE 17 dX4_isDigit_13 (by decide) ?_
      exact k_zret hR dX4_isDigit_17 rfl (nar_b (by omega)) ⟨_, rfl, rfl, by omega⟩

set_option maxHeartbeats 4000000 in
set_option maxRecDepth 100000 in
theorem c_X4_kindOf {ad : Nat → Nat} {ta sa ca : Int → Nat} {D : va_G} {cI cT cS : ClassId} (st : Sg) (c : Int) (i_c : -2147483648 ≤ c ∧ c < 2147483648) : MC (xw ad ta sa ca D cI cT cS) yX4_kindOf cX4_kindOf 1 (some .int) { frames := 0, cells := 0, slots := 0, locals := 0 } [.int (iI c)] st (fun rv u => rv = some (.int (iI (if c = 111 then 2 else if c = 103 then 1 else 0))) ∧ u = st) := by
  refine MC_intro RX4 (by decide) rfl (Nat.le_of_ble_eq_true rfl) ?_
  intro G H0 m hE hR
  refine k_lo [0] (lo' := [(0, .int (iI c))]) rfl ?_
  refine k_iload_n hE dX4_kindOf_0 0 rfl rfl ?_
  refine k_bipush hE dX4_kindOf_1 rfl ?_
  refine k_icmp_ne hE 8 dX4_kindOf_3 (by decide) (by unfold in32; omega) (by unfold in32; omega) (fun c3 => ?_) (fun c3 => ?_)
  · refine k_iload_n hE dX4_kindOf_8 0 rfl rfl ?_
    refine k_bipush hE dX4_kindOf_9 rfl ?_
    refine k_icmp_ne hE 18 dX4_kindOf_11 (by decide) (by unfold in32; omega) (by unfold in32; omega) (fun c11 => ?_) (fun c11 => ?_)
    · refine k_iconst hE dX4_kindOf_18 ?_
      exact k_iret hR dX4_kindOf_19 rfl ⟨ret_i (by repeat (first | omega | split)), rfl⟩
    · refine k_iconst hE dX4_kindOf_14 ?_
      refine k_goto hE 19 dX4_kindOf_15 (by decide) ?_
      exact k_iret hR dX4_kindOf_19 rfl ⟨ret_i (by repeat (first | omega | split)), rfl⟩
  · refine k_iconst hE dX4_kindOf_6 ?_
    exact k_iret hR dX4_kindOf_7 rfl ⟨ret_i (by repeat (first | omega | split)), rfl⟩
