set_option maxHeartbeats 4000000 in
set_option maxRecDepth 100000 in
theorem c_X6_passAsTold {ad : Nat → Nat} {ta sa ca : Int → Nat} {D : va_G} {cI cT cS : ClassId} (st : Sg) (Y : Sg) (n : Int) (hA : Ag st Y) (hI : Inv Y) (hn : 0 ≤ n ∧ n ≤ 10) : MC (xw ad ta sa ca D cI cT cS) yX6_passAsTold cX6_passAsTold 2 none { frames := 5, cells := 0, slots := 0, locals := 124 } [.ref (ad 0), .int (iI n)] st (fun rv u => ∃ S : Sg, rv = none ∧ u = S ∧ (XS st S) ∧ (S.1 10 = Y.1 4) ∧ (OR Y (Y.1 4) (S.2 12) (Y.1 0).toNat) ∧ (Ran Y (Y.1 4) (Y.1 3) (Y.2 4) S.2 n.toNat 9 10 11)) := by
  refine MC_intro RX6 (by decide) rfl (Nat.le_of_ble_eq_true rfl) ?_
  intro G H0 m hE hR
  refine k_lo [0, 1] (lo' := [(0, .ref (ad 0)), (1, .int (iI n))]) rfl ?_
  obtain ⟨hi0, hi1, hi2, hi3, hi4, hi5, hi6, hi7, hit, hir, him, hin⟩ := id hI
  refine k_aload_n hE dX6_passAsTold_0 0 rfl rfl ?_
  refine x_get_X6_days hE fl_X6_23 dX6_passAsTold_1 ?_
  refine k_aload_n hE dX6_passAsTold_4 0 rfl rfl ?_
  refine x_get_X6_yard hE fl_X6_12 dX6_passAsTold_5 ?_
  refine x_get_X5_firstWater hE (z := Y.1 3) (hA.1 3 (by decide)) fl_X6_115 dX6_passAsTold_8 ?_
  refine k_aload_n hE dX6_passAsTold_11 0 rfl rfl ?_
  refine x_get_X6_yard hE fl_X6_12 dX6_passAsTold_12 ?_
  refine x_get_X5_rule hE (z := Y.1 4) (hA.1 4 (by decide)) fl_X6_125 dX6_passAsTold_15 ?_
  refine k_callV hE (c_X0_startWith st Y (Y.1 3) (Y.1 4) hA hI (by omega)) mf_X0_startWith ml_X6_157 4 rfl rfl rfl rfl ⟨rfl, rfl, Nat.le_of_ble_eq_true rfl, Nat.le_of_ble_eq_true rfl⟩ [] (Nat.le_of_ble_eq_true rfl) dX6_passAsTold_18 rfl (fun rv u hp => ?_)
  obtain ⟨S1, hv18, hu18, e1_18, e2_18, e3_18⟩ := hp
  refine k_sk (sk' := []) (by rw [hv18]; rfl) ?_
  refine k_st S1 hu18 ?_
  have hB : Ag S1 Y := ⟨fun i hi => by rw [e1_18, uv_n _ _ (by omega)]; exact hA.1 i hi, fun a ha => by rw [e2_18 a (by omega), ur_n _ _ _ (by omega)]; exact hA.2 a ha⟩
  refine k_aload_n hE dX6_passAsTold_21 0 rfl rfl ?_
  refine x_get_X6_days hE fl_X6_23 dX6_passAsTold_22 ?_
  refine k_iconst hE dX6_passAsTold_25 ?_
  refine k_iload_n hE dX6_passAsTold_26 1 rfl rfl ?_
  refine k_callV hE (c_X0_passDays S1 Y 0 n (Y.1 3) (Y.1 4) hB hI (by omega) (by omega) (by rw [e2_18 9 (by decide)]; exact ur_s _ _ _ _) hi3 (by rw [e1_18]; exact uv_s _ _ _) (by omega) e3_18) mf_X0_passDays ml_X6_161 4 rfl rfl rfl rfl ⟨rfl, rfl, Nat.le_of_ble_eq_true rfl, Nat.le_of_ble_eq_true rfl⟩ [] (Nat.le_of_ble_eq_true rfl) dX6_passAsTold_27 rfl (fun rv u hp => ?_)
  obtain ⟨S2, hv27, hu27, e1_27, e2_27, er_27⟩ := hp
  refine k_sk (sk' := []) (by rw [hv27]; rfl) ?_
  refine k_st S2 hu27 ?_
  refine k_vret hR dX6_passAsTold_30 rfl ?_
  refine ⟨S2, rfl, rfl, ⟨fun i hi => ?_, fun a ha => ?_⟩, ?_, ?_, er_27⟩
  · rw [e1_27, e1_18, uv_n _ _ hi]
  · rw [e2_27 a (by omega), e2_18 a (by omega), ur_n _ _ _ (by omega)]
  · rw [e1_27, e1_18, uv_s]
  · rw [e2_27 12 (by decide)]; exact e3_18

set_option maxHeartbeats 4000000 in
set_option maxRecDepth 100000 in
theorem c_X0_isDry {ad : Nat → Nat} {ta sa ca : Int → Nat} {D : va_G} {cI cT cS : ClassId} (st : Sg) (Y : Sg) (f : Int) (d : Int) (hA : Ag st Y) (hI : Inv Y) (h0 : 0 ≤ f) (h1 : f < 6) (hd : 0 ≤ d ∧ d < 10) (hg : -1000 ≤ st.2 11 (d * 6 + f) ∧ st.2 11 (d * 6 + f) ≤ 1000) : MC (xw ad ta sa ca D cI cT cS) yX0_isDry cX0_isDry 3 (some .boolean) { frames := 1, cells := 0, slots := 0, locals := 22 } [.ref (ad 4), .int (iI f), .int (iI d)] st (fun rv u => ∃ z : Int, rv = some (.int (iI (z))) ∧ u = st ∧ ((z = 1 ∧ (st.2 11 (d * 6 + f) < Y.2 2 f)) ∨ (z = 0 ∧ ¬ (st.2 11 (d * 6 + f) < Y.2 2 f)))) := by
  refine MC_intro RX0 (by decide) rfl (Nat.le_of_ble_eq_true rfl) ?_
  intro G H0 m hE hR
  refine k_lo [0, 1, 2] (lo' := [(0, .ref (ad 4)), (1, .int (iI f)), (2, .int (iI d))]) rfl ?_
  obtain ⟨hi0, hi1, hi2, hi3, hi4, hi5, hi6, hi7, hit, hir, him, hin⟩ := id hI
  have hf := hit f h0 h1
  refine k_aload_n hE dX0_isDry_0 0 rfl rfl ?_
  refine k_iload_n hE dX0_isDry_1 1 rfl rfl ?_
  refine k_iload_n hE dX0_isDry_2 2 rfl rfl ?_
  refine k_callV hE (c_X0_drawnBy st f d (by omega) (by omega) (by omega)) mf_X0_drawnBy ml_X0_90 4 rfl rfl rfl rfl ⟨rfl, rfl, Nat.le_of_ble_eq_true rfl, Nat.le_of_ble_eq_true rfl⟩ [] (Nat.le_of_ble_eq_true rfl) dX0_isDry_3 rfl (fun rv u hp => ?_)
  obtain ⟨hv3, hu3⟩ := hp
  refine k_sk (sk' := [.int (iI (st.2 11 (d * 6 + f)))]) (by rw [hv3]; rfl) ?_
  refine k_st st hu3 ?_
  refine k_aload_n hE dX0_isDry_6 0 rfl rfl ?_
  refine x_get_X0_yard hE fl_X0_24 dX0_isDry_7 ?_
  refine x_get_X5_taps hE fl_X0_41 dX0_isDry_10 ?_
  refine k_iload_n hE dX0_isDry_13 1 rfl rfl ?_
  refine x_ld_taps hE (i := f) (by omega) (by omega) dX0_isDry_14 ?_
  refine x_get_X3_need hE (z := Y.2 2 f) (by omega) (by omega) (congrFun (hA.2 2 (by decide)) f) fl_X0_76 dX0_isDry_15 ?_
  refine k_icmp_ge hE 25 dX0_isDry_18 (by decide) (by unfold in32; omega) (by unfold in32; omega) (fun c18 => ?_) (fun c18 => ?_)
  · refine k_iconst hE dX0_isDry_25 ?_
    exact k_zret hR dX0_isDry_26 rfl (nar_b (by omega)) ⟨_, rfl, rfl, by omega⟩
  · refine k_iconst hE dX0_isDry_21 ?_
    refine k_goto hE 26 dX0_isDry_22 (by decide) ?_
    exact k_zret hR dX0_isDry_26 rfl (nar_b (by omega)) ⟨_, rfl, rfl, by omega⟩

set_option maxHeartbeats 4000000 in
set_option maxRecDepth 100000 in
theorem c_X0_firstDry {ad : Nat → Nat} {ta sa ca : Int → Nat} {D : va_G} {cI cT cS : ClassId} (st : Sg) (Y : Sg) (f : Int) (n : Int) (hA : Ag st Y) (hI : Inv Y) (h0 : 0 ≤ f) (h1 : f < 6) (hn : 0 ≤ n ∧ n ≤ 10) (hg : ∀ k : Int, 0 ≤ k → k < n → -1000 ≤ st.2 11 (k * 6 + f) ∧ st.2 11 (k * 6 + f) ≤ 1000) : MC (xw ad ta sa ca D cI cT cS) yX0_firstDry cX0_firstDry 4 (some .int) { frames := 2, cells := 0, slots := 0, locals := 44 } [.ref (ad 4), .int (iI f), .int (iI n)] st (fun rv u => ∃ z : Int, rv = some (.int (iI (z))) ∧ u = st ∧ (FD (fun k => st.2 11 (k * 6 + f)) (Y.2 2 f) n z)) := by
  refine MC_intro RX0 (by decide) rfl (Nat.le_of_ble_eq_true rfl) ?_
  intro G H0 m hE hR
  refine k_lo [0, 1, 2] (lo' := [(0, .ref (ad 4)), (1, .int (iI f)), (2, .int (iI n))]) rfl ?_
  obtain ⟨hi0, hi1, hi2, hi3, hi4, hi5, hi6, hi7, hit, hir, him, hin⟩ := id hI
  refine k_iconst hE dX0_firstDry_0 ?_
  refine k_istore_n hE dX0_firstDry_1 [1, 2, 3, 0] rfl (Nat.le_of_ble_eq_true rfl) (lo' := [(0, .ref (ad 4)), (1, .int (iI f)), (2, .int (iI n)), (3, .int (iI 0))]) rfl ?_
  have L2 : ∀ (fu2 : Nat) (k : Int), (0 ≤ k ∧ k ≤ n) → (n - k < fu2) → (∀ j : Int, 0 ≤ j → j < k → Y.2 2 f ≤ st.2 11 (j * 6 + f)) → KW (xw ad ta sa ca D cI cT cS) G H0 m 4 st 2 [(0, .ref (ad 4)), (1, .int (iI f)), (2, .int (iI n)), (3, .int (iI k))] [] := by
    intro fu2
    induction fu2 with
    | zero =>
      intro k q0 q1 q2
      omega
    | succ fu2 ih2 =>
      intro k q0 q1 q2
      refine k_iload_n hE dX0_firstDry_2 3 rfl rfl ?_
      refine k_iload_n hE dX0_firstDry_3 2 rfl rfl ?_
      refine k_icmp_ge hE 24 dX0_firstDry_4 (by decide) (by unfold in32; omega) (by unfold in32; omega) (fun c4 => ?_) (fun c4 => ?_)
      · refine k_bipush hE dX0_firstDry_24 rfl ?_
        exact k_iret hR dX0_firstDry_26 rfl ⟨_, rfl, rfl, Or.inl ⟨rfl, fun j j0 j1 => q2 j j0 (by omega)⟩⟩
      · have hk := hg k (by omega) (by omega)
        refine k_aload_n hE dX0_firstDry_7 0 rfl rfl ?_
        refine k_iload_n hE dX0_firstDry_8 1 rfl rfl ?_
        refine k_iload_n hE dX0_firstDry_9 3 rfl rfl ?_
        refine k_callV hE (c_X0_isDry st Y f k hA hI (by omega) (by omega) (by omega) (by omega)) mf_X0_isDry ml_X0_99 4 rfl rfl rfl rfl ⟨rfl, rfl, Nat.le_of_ble_eq_true rfl, Nat.le_of_ble_eq_true rfl⟩ [] (Nat.le_of_ble_eq_true rfl) dX0_firstDry_10 rfl (fun rv u hp => ?_)
        obtain ⟨z1, hv10, hu10, hz_10⟩ := hp
        refine k_sk (sk' := [.int (iI z1)]) (by rw [hv10]; rfl) ?_
        refine k_st st hu10 ?_
        refine k_if_eq hE 18 dX0_firstDry_13 (by decide) (by unfold in32; omega) (fun c13 => ?_) (fun c13 => ?_)
        · refine k_iinc hE dX0_firstDry_18 3 [1, 2, 3, 0] rfl (Nat.le_of_ble_eq_true rfl) (lo' := [(0, .ref (ad 4)), (1, .int (iI f)), (2, .int (iI n)), (3, .int (iI (k + 1)))]) rfl ?_
          refine k_goto hE 2 dX0_firstDry_21 (by decide) ?_
          exact ih2 _ (by omega) (by omega) (fun j j0 j1 => by by_cases e : j = k; (rw [e]; omega); exact q2 j j0 (by omega))
        · refine k_iload_n hE dX0_firstDry_16 3 rfl rfl ?_
          exact k_iret hR dX0_firstDry_17 rfl ⟨_, rfl, rfl, Or.inr ⟨by omega, by omega, (show st.2 11 (k * 6 + f) < Y.2 2 f by omega), q2⟩⟩
  exact L2 11 0 (by omega) (by omega) (fun j h1 h2 => by omega)

set_option maxHeartbeats 4000000 in
set_option maxRecDepth 100000 in
theorem c_X0_countNeverDry {ad : Nat → Nat} {ta sa ca : Int → Nat} {D : va_G} {cI cT cS : ClassId} (st : Sg) (Y : Sg) (n : Int) (hA : Ag st Y) (hI : Inv Y) (hn : 0 ≤ n ∧ n ≤ 10) (hg : ∀ f : Int, 0 ≤ f → f < Y.1 0 → ∀ k : Int, 0 ≤ k → k < n → -1000 ≤ st.2 11 (k * 6 + f) ∧ st.2 11 (k * 6 + f) ≤ 1000) : MC (xw ad ta sa ca D cI cT cS) yX0_countNeverDry cX0_countNeverDry 4 (some .int) { frames := 3, cells := 0, slots := 0, locals := 67 } [.ref (ad 4), .int (iI n)] st (fun rv u => rv = some (.int (iI (CT (fun f => ∀ k : Int, 0 ≤ k → k < n → Y.2 2 f ≤ st.2 11 (k * 6 + f)) (Y.1 0).toNat))) ∧ u = st) := by
  refine MC_intro RX0 (by decide) rfl (Nat.le_of_ble_eq_true rfl) ?_
  intro G H0 m hE hR
  refine k_lo [0, 1] (lo' := [(0, .ref (ad 4)), (1, .int (iI n))]) rfl ?_
  obtain ⟨hi0, hi1, hi2, hi3, hi4, hi5, hi6, hi7, hit, hir, him, hin⟩ := id hI
  refine k_iconst hE dX0_countNeverDry_0 ?_
  refine k_istore_n hE dX0_countNeverDry_1 [1, 2, 0] rfl (Nat.le_of_ble_eq_true rfl) (lo' := [(0, .ref (ad 4)), (1, .int (iI n)), (2, .int (iI 0))]) rfl ?_
  refine k_iconst hE dX0_countNeverDry_2 ?_
  refine k_istore_n hE dX0_countNeverDry_3 [1, 2, 3, 0] rfl (Nat.le_of_ble_eq_true rfl) (lo' := [(0, .ref (ad 4)), (1, .int (iI n)), (2, .int (iI 0)), (3, .int (iI 0))]) rfl ?_
  have L4 : ∀ (fu4 : Nat) (c : Int) (f : Nat), ((f : Int) ≤ Y.1 0) → (Y.1 0 - f < fu4) → (c = CT (fun f => ∀ k : Int, 0 ≤ k → k < n → Y.2 2 f ≤ st.2 11 (k * 6 + f)) f) → KW (xw ad ta sa ca D cI cT cS) G H0 m 4 st 4 [(0, .ref (ad 4)), (1, .int (iI n)), (2, .int (iI c)), (3, .int (iI ((f : Int))))] [] := by
    intro fu4
    induction fu4 with
    | zero =>
      intro c f q0 q1 q2
      omega
    | succ fu4 ih4 =>
      intro c f q0 q1 q2
      refine k_iload_n hE dX0_countNeverDry_4 3 rfl rfl ?_
      refine k_aload_n hE dX0_countNeverDry_5 0 rfl rfl ?_
      refine x_get_X0_yard hE fl_X0_24 dX0_countNeverDry_6 ?_
      refine x_get_X5_tapCount hE (z := Y.1 0) (hA.1 0 (by decide)) fl_X0_32 dX0_countNeverDry_9 ?_
      refine k_icmp_ge hE 35 dX0_countNeverDry_12 (by decide) (by unfold in32; omega) (by unfold in32; omega) (fun c12 => ?_) (fun c12 => ?_)
      · refine k_iload_n hE dX0_countNeverDry_35 2 rfl rfl ?_
        refine k_iret hR dX0_countNeverDry_36 rfl ?_
        have ef : (Y.1 0).toNat = f := by omega
        exact ⟨ret_i (by rw [ef]; exact q2), rfl⟩
      · refine k_aload_n hE dX0_countNeverDry_15 0 rfl rfl ?_
        refine k_iload_n hE dX0_countNeverDry_16 3 rfl rfl ?_
        refine k_iload_n hE dX0_countNeverDry_17 1 rfl rfl ?_
        refine k_callV hE (c_X0_firstDry st Y ((f : Int)) n hA hI (by omega) (by omega) (by omega) (hg f (by omega) (by omega))) mf_X0_firstDry ml_X0_102 4 rfl rfl rfl rfl ⟨rfl, rfl, Nat.le_of_ble_eq_true rfl, Nat.le_of_ble_eq_true rfl⟩ [] (Nat.le_of_ble_eq_true rfl) dX0_countNeverDry_18 rfl (fun rv u hp => ?_)
        obtain ⟨z1, hv18, hu18, hz_18⟩ := hp
        refine k_sk (sk' := [.int (iI z1)]) (by rw [hv18]; rfl) ?_
        refine k_st st hu18 ?_
        have hz2 : -9 ≤ z1 ∧ z1 ≤ 10 := by rcases hz_18 with h | h <;> omega
        refine k_bipush hE dX0_countNeverDry_21 rfl ?_
        refine k_icmp_ne hE 29 dX0_countNeverDry_23 (by decide) (by unfold in32; omega) (by unfold in32; omega) (fun c23 => ?_) (fun c23 => ?_)
        · refine k_iinc hE dX0_countNeverDry_29 3 [1, 2, 3, 0] rfl (Nat.le_of_ble_eq_true rfl) (lo' := [(0, .ref (ad 4)), (1, .int (iI n)), (2, .int (iI c)), (3, .int (iI (((f : Int)) + 1)))]) rfl ?_
          refine k_goto hE 4 dX0_countNeverDry_32 (by decide) ?_
          refine ih4 _ (f + 1) (by omega) (by omega) ?_
          first
            | (rw [CT_y (P := fun f => ∀ k : Int, 0 ≤ k → k < n → Y.2 2 f ≤ st.2 11 (k * 6 + f)) (k := f) ((FD_none hz_18).mp (by omega))]; omega)
            | (rw [CT_n (P := fun f => ∀ k : Int, 0 ≤ k → k < n → Y.2 2 f ≤ st.2 11 (k * 6 + f)) (k := f) (fun h => absurd ((FD_none hz_18).mpr h) (by omega))]; omega)
        · refine k_iinc hE dX0_countNeverDry_26 2 [1, 2, 0, 3] rfl (Nat.le_of_ble_eq_true rfl) (lo' := [(0, .ref (ad 4)), (1, .int (iI n)), (2, .int (iI (c + 1))), (3, .int (iI ((f : Int))))]) rfl ?_
          refine k_iinc hE dX0_countNeverDry_29 3 [1, 2, 3, 0] rfl (Nat.le_of_ble_eq_true rfl) (lo' := [(0, .ref (ad 4)), (1, .int (iI n)), (2, .int (iI (c + 1))), (3, .int (iI (((f : Int)) + 1)))]) rfl ?_
          refine k_goto hE 4 dX0_countNeverDry_32 (by decide) ?_
          refine ih4 _ (f + 1) (by omega) (by omega) ?_
          first
            | (rw [CT_y (P := fun f => ∀ k : Int, 0 ≤ k → k < n → Y.2 2 f ≤ st.2 11 (k * 6 + f)) (k := f) ((FD_none hz_18).mp (by omega))]; omega)
            | (rw [CT_n (P := fun f => ∀ k : Int, 0 ≤ k → k < n → Y.2 2 f ≤ st.2 11 (k * 6 + f)) (k := f) (fun h => absurd ((FD_none hz_18).mpr h) (by omega))]; omega)
  exact L4 7 0 0 (by omega) (by omega) rfl

set_option maxHeartbeats 4000000 in
set_option maxRecDepth 100000 in
theorem c_X0_drawnInAll {ad : Nat → Nat} {ta sa ca : Int → Nat} {D : va_G} {cI cT cS : ClassId} (st : Sg) (Y : Sg) (f : Int) (n : Int) (hA : Ag st Y) (hI : Inv Y) (h0 : 0 ≤ f) (h1 : f < 6) (hn : 0 ≤ n ∧ n ≤ 10) : MC (xw ad ta sa ca D cI cT cS) yX0_drawnInAll cX0_drawnInAll 5 (some .int) { frames := 1, cells := 0, slots := 0, locals := 22 } [.ref (ad 4), .int (iI f), .int (iI n)] st (fun rv u => rv = some (.int (iI (SM (fun k => st.2 11 (k * 6 + f)) n.toNat))) ∧ u = st) := by
  refine MC_intro RX0 (by decide) rfl (Nat.le_of_ble_eq_true rfl) ?_
  intro G H0 m hE hR
  refine k_lo [0, 1, 2] (lo' := [(0, .ref (ad 4)), (1, .int (iI f)), (2, .int (iI n))]) rfl ?_
  obtain ⟨hi0, hi1, hi2, hi3, hi4, hi5, hi6, hi7, hit, hir, him, hin⟩ := id hI
  refine k_iconst hE dX0_drawnInAll_0 ?_
  refine k_istore_n hE dX0_drawnInAll_1 [1, 2, 3, 0] rfl (Nat.le_of_ble_eq_true rfl) (lo' := [(0, .ref (ad 4)), (1, .int (iI f)), (2, .int (iI n)), (3, .int (iI 0))]) rfl ?_
  refine k_iconst hE dX0_drawnInAll_2 ?_
  refine k_istore hE dX0_drawnInAll_3 [1, 2, 3, 4, 0] (Nat.le_of_ble_eq_true rfl) (lo' := [(0, .ref (ad 4)), (1, .int (iI f)), (2, .int (iI n)), (3, .int (iI 0)), (4, .int (iI 0))]) rfl ?_
  have L5 : ∀ (fu5 : Nat) (c : Int) (k : Nat), ((k : Int) ≤ n) → (n - k < fu5) → (c = SM (fun k => st.2 11 (k * 6 + f)) k) → KW (xw ad ta sa ca D cI cT cS) G H0 m 5 st 5 [(0, .ref (ad 4)), (1, .int (iI f)), (2, .int (iI n)), (3, .int (iI c)), (4, .int (iI ((k : Int))))] [] := by
    intro fu5
    induction fu5 with
    | zero =>
      intro c k q0 q1 q2
      omega
    | succ fu5 ih5 =>
      intro c k q0 q1 q2
      refine k_iload hE dX0_drawnInAll_5 4 rfl ?_
      refine k_iload_n hE dX0_drawnInAll_7 2 rfl rfl ?_
      refine k_icmp_ge hE 27 dX0_drawnInAll_8 (by decide) (by unfold in32; omega) (by unfold in32; omega) (fun c8 => ?_) (fun c8 => ?_)
      · refine k_iload_n hE dX0_drawnInAll_27 3 rfl rfl ?_
        refine k_iret hR dX0_drawnInAll_28 rfl ?_
        have ef : n.toNat = k := by omega
        exact ⟨ret_i (by rw [ef]; exact q2), rfl⟩
      · refine k_iload_n hE dX0_drawnInAll_11 3 rfl rfl ?_
        refine k_aload_n hE dX0_drawnInAll_12 0 rfl rfl ?_
        refine k_iload_n hE dX0_drawnInAll_13 1 rfl rfl ?_
        refine k_iload hE dX0_drawnInAll_14 4 rfl ?_
        refine k_callV hE (c_X0_drawnBy st f ((k : Int)) (by omega) (by omega) (by omega)) mf_X0_drawnBy ml_X0_90 4 rfl rfl rfl rfl ⟨rfl, rfl, Nat.le_of_ble_eq_true rfl, Nat.le_of_ble_eq_true rfl⟩ [.int (iI c)] (Nat.le_of_ble_eq_true rfl) dX0_drawnInAll_16 rfl (fun rv u hp => ?_)
        obtain ⟨hv16, hu16⟩ := hp
        refine k_sk (sk' := [.int (iI (st.2 11 (((k : Int)) * 6 + f))), .int (iI c)]) (by rw [hv16]; rfl) ?_
        refine k_st st hu16 ?_
        refine k_iadd hE dX0_drawnInAll_19 ?_
        refine k_istore_n hE dX0_drawnInAll_20 [1, 2, 3, 0, 4] rfl (Nat.le_of_ble_eq_true rfl) (lo' := [(0, .ref (ad 4)), (1, .int (iI f)), (2, .int (iI n)), (3, .int (iI (c + (st.2 11 (((k : Int)) * 6 + f))))), (4, .int (iI ((k : Int))))]) rfl ?_
        refine k_iinc hE dX0_drawnInAll_21 4 [1, 2, 3, 4, 0] rfl (Nat.le_of_ble_eq_true rfl) (lo' := [(0, .ref (ad 4)), (1, .int (iI f)), (2, .int (iI n)), (3, .int (iI (c + (st.2 11 (((k : Int)) * 6 + f))))), (4, .int (iI (((k : Int)) + 1)))]) rfl ?_
        refine k_goto hE 5 dX0_drawnInAll_24 (by decide) ?_
        exact ih5 _ (k + 1) (by omega) (by omega) (by rw [SM, ← q2])
  exact L5 11 0 0 (by omega) (by omega) rfl

set_option maxHeartbeats 4000000 in
set_option maxRecDepth 100000 in
theorem c_X0_allHaveNeeds {ad : Nat → Nat} {ta sa ca : Int → Nat} {D : va_G} {cI cT cS : ClassId} (st : Sg) (Y : Sg) (w : Int) (n : Int) (hA : Ag st Y) (hI : Inv Y) (hw : 0 ≤ w ∧ w ≤ Y.1 1) (hn : 0 ≤ n ∧ n ≤ 10) : MC (xw ad ta sa ca D cI cT cS) yX0_allHaveNeeds cX0_allHaveNeeds 5 (some .boolean) { frames := 4, cells := 0, slots := 0, locals := 101 } [.ref (ad 4), .int (iI w), .int (iI n)] st (fun rv u => ∃ z : Int, ∃ S : Sg, rv = some (.int (iI (z))) ∧ u = S ∧ ((z = 1 ∧ CA Y w n) ∨ (z = 0 ∧ ¬ CA Y w n)) ∧ (XS st S)) := by
  refine MC_intro RX0 (by decide) rfl (Nat.le_of_ble_eq_true rfl) ?_
  intro G H0 m hE hR
  refine k_lo [0, 1, 2] (lo' := [(0, .ref (ad 4)), (1, .int (iI w)), (2, .int (iI n))]) rfl ?_
  obtain ⟨hi0, hi1, hi2, hi3, hi4, hi5, hi6, hi7, hit, hir, him, hin⟩ := id hI
  refine k_aload_n hE dX0_allHaveNeeds_0 0 rfl rfl ?_
  refine k_iload_n hE dX0_allHaveNeeds_1 1 rfl rfl ?_
  refine k_iconst hE dX0_allHaveNeeds_2 ?_
  refine k_callV hE (c_X0_startWith st Y w 3 hA hI (by omega)) mf_X0_startWith ml_X0_105 4 rfl rfl rfl rfl ⟨rfl, rfl, Nat.le_of_ble_eq_true rfl, Nat.le_of_ble_eq_true rfl⟩ [] (Nat.le_of_ble_eq_true rfl) dX0_allHaveNeeds_3 rfl (fun rv u hp => ?_)
  obtain ⟨S1, hv3, hu3, e1_3, e2_3, e3_3⟩ := hp
  refine k_sk (sk' := []) (by rw [hv3]; rfl) ?_
  refine k_st S1 hu3 ?_
  have hB : Ag S1 Y := ⟨fun i hi => by rw [e1_3, uv_n _ _ (by omega)]; exact hA.1 i hi, fun a ha => by rw [e2_3 a (by omega), ur_n _ _ _ (by omega)]; exact hA.2 a ha⟩
  refine k_iconst hE dX0_allHaveNeeds_6 ?_
  refine k_istore_n hE dX0_allHaveNeeds_7 [1, 2, 3, 0] rfl (Nat.le_of_ble_eq_true rfl) (lo' := [(0, .ref (ad 4)), (1, .int (iI w)), (2, .int (iI n)), (3, .int (iI 0))]) rfl ?_
  have L8 : ∀ (fu8 : Nat) (S : Sg) (k : Nat), ((k : Int) ≤ n) → (n - k < fu8) → (S.1 = uv st.1 10 3) → (∀ a, (a < 9 ∨ 12 < a) → S.2 a = st.2 a) → (OR Y 3 (S.2 12) (Y.1 0).toNat) → (Ran Y 3 w (Y.2 4) S.2 k 9 10 11) → (∀ i : Int, 0 ≤ i → i < k → ∀ f : Int, 0 ≤ f → f < Y.1 0 → Y.2 2 f ≤ gD Y 3 w (Y.2 4) f i) → KW (xw ad ta sa ca D cI cT cS) G H0 m 5 S 8 [(0, .ref (ad 4)), (1, .int (iI w)), (2, .int (iI n)), (3, .int (iI ((k : Int))))] [] := by
    intro fu8
    induction fu8 with
    | zero =>
      intro S k q0 q1 e1 e2 eO er ep
      omega
    | succ fu8 ih8 =>
      intro S k q0 q1 e1 e2 eO er ep
      have hAS : Ag S Y := ⟨fun i hi => by rw [e1, uv_n _ _ (by omega)]; exact hA.1 i hi, fun a ha => by rw [e2 a (by omega)]; exact hA.2 a ha⟩
      have hxS : XS st S := ⟨fun i hi => by rw [e1, uv_n _ _ hi], e2⟩
      refine k_iload_n hE dX0_allHaveNeeds_8 3 rfl rfl ?_
      refine k_iload_n hE dX0_allHaveNeeds_9 2 rfl rfl ?_
      refine k_icmp_ge hE 66 dX0_allHaveNeeds_10 (by decide) (by unfold in32; omega) (by unfold in32; omega) (fun c10 => ?_) (fun c10 => ?_)
      · refine k_iconst hE dX0_allHaveNeeds_66 ?_
        exact k_zret hR dX0_allHaveNeeds_67 rfl (nar_b (by omega)) ⟨_, _, rfl, rfl, Or.inl ⟨rfl, fun f f0 f1 i i0 i1 => ep i i0 (by omega) f f0 f1⟩, hxS⟩
      · refine k_aload_n hE dX0_allHaveNeeds_13 0 rfl rfl ?_
        refine k_iload_n hE dX0_allHaveNeeds_14 3 rfl rfl ?_
        refine k_aload_n hE dX0_allHaveNeeds_15 0 rfl rfl ?_
        refine x_get_X0_yard hE fl_X0_24 dX0_allHaveNeeds_16 ?_
        refine x_get_X5_rainOn hE fl_X0_50 dX0_allHaveNeeds_19 ?_
        refine k_iload_n hE dX0_allHaveNeeds_22 3 rfl rfl ?_
        refine x_ld_rainOn hE (z := Y.2 4 ((k : Int))) (by omega) (by omega) (congrFun (hAS.2 4 (by decide)) ((k : Int))) dX0_allHaveNeeds_23 ?_
        refine k_callV hE (c_X0_passDay S Y ((k : Int)) (Y.2 4 ((k : Int))) (lev Y 3 w (Y.2 4) k) 3 hAS hI (by omega) (hir k (by omega) (by omega)) (er.1 k (Nat.le_refl k)).1 (er.1 k (Nat.le_refl k)).2 (by rw [e1]; exact uv_s _ _ _) (by omega) eO) mf_X0_passDay ml_X0_53 4 rfl rfl rfl rfl ⟨rfl, rfl, Nat.le_of_ble_eq_true rfl, Nat.le_of_ble_eq_true rfl⟩ [] (Nat.le_of_ble_eq_true rfl) dX0_allHaveNeeds_24 rfl (fun rv u hp => ?_)
        obtain ⟨S2, hv24, hu24, e1_24, e2_24, l1_24, l2_24, o1_24, o2_24, g1_24, g2_24, rg_24, gr_24⟩ := hp
        refine k_sk (sk' := []) (by rw [hv24]; rfl) ?_
        refine k_st S2 hu24 ?_
        have hAS2 : Ag S2 Y := ⟨fun i hi => by rw [e1_24]; exact hAS.1 i hi, fun a ha => by rw [e2_24 a (by omega)]; exact hAS.2 a ha⟩
        have er2 : Ran Y 3 w (Y.2 4) S2.2 (k + 1) 9 10 11 := Ran_s er l1_24 l2_24 o1_24 o2_24 g1_24 g2_24 rg_24 gr_24 hi0.2
        have hx2 : XS st S2 := hxS.trans ⟨fun i hi => by rw [e1_24], fun a ha => e2_24 a (by omega)⟩
        refine k_iconst hE dX0_allHaveNeeds_27 ?_
        refine k_istore hE dX0_allHaveNeeds_28 [1, 2, 3, 4, 0] (Nat.le_of_ble_eq_true rfl) (lo' := [(0, .ref (ad 4)), (1, .int (iI w)), (2, .int (iI n)), (3, .int (iI ((k : Int)))), (4, .int (iI 0))]) rfl ?_
        have L30 : ∀ (fu30 : Nat) (f : Int), (0 ≤ f ∧ f ≤ Y.1 0) → (Y.1 0 - f < fu30) → (∀ g : Int, 0 ≤ g → g < f → Y.2 2 g ≤ gD Y 3 w (Y.2 4) g k) → KW (xw ad ta sa ca D cI cT cS) G H0 m 5 S2 30 [(0, .ref (ad 4)), (1, .int (iI w)), (2, .int (iI n)), (3, .int (iI ((k : Int)))), (4, .int (iI f))] [] := by
          intro fu30
          induction fu30 with
          | zero =>
            intro f p0 p1 fp
            omega
          | succ fu30 ih30 =>
            intro f p0 p1 fp
            refine k_iload hE dX0_allHaveNeeds_30 4 rfl ?_
            refine k_aload_n hE dX0_allHaveNeeds_32 0 rfl rfl ?_
            refine x_get_X0_yard hE fl_X0_24 dX0_allHaveNeeds_33 ?_
            refine x_get_X5_tapCount hE (z := Y.1 0) (hAS2.1 0 (by decide)) fl_X0_32 dX0_allHaveNeeds_36 ?_
            refine k_icmp_ge hE 60 dX0_allHaveNeeds_39 (by decide) (by unfold in32; omega) (by unfold in32; omega) (fun c39 => ?_) (fun c39 => ?_)
            · refine k_iinc hE dX0_allHaveNeeds_60 3 [1, 2, 3, 0, 4] rfl (Nat.le_of_ble_eq_true rfl) (lo' := [(0, .ref (ad 4)), (1, .int (iI w)), (2, .int (iI n)), (3, .int (iI (((k : Int)) + 1))), (4, .int (iI f))]) rfl ?_
              refine k_goto hE 8 dX0_allHaveNeeds_63 (by decide) ?_
              refine k_lo [0, 1, 2, 3] (lo' := [(0, .ref (ad 4)), (1, .int (iI w)), (2, .int (iI n)), (3, .int (iI (((k : Int)) + 1)))]) rfl ?_
              exact ih8 S2 (k + 1) (by omega) (by omega) (e1_24.trans e1) (fun a ha => (e2_24 a (by omega)).trans (e2 a ha)) (by rw [e2_24 12 (by decide)]; exact eO) er2 (fun i i0 i1 g g0 g1 => by by_cases e : i = k; (rw [e]; exact fp g g0 (by omega)); exact ep i i0 (by omega) g g0 g1)
            · have hg := Ran_gD er2 (f := f) (k := (k : Int)) (by omega) (by omega) (by omega) (by omega)
              refine k_aload_n hE dX0_allHaveNeeds_42 0 rfl rfl ?_
              refine k_iload hE dX0_allHaveNeeds_43 4 rfl ?_
              refine k_iload_n hE dX0_allHaveNeeds_45 3 rfl rfl ?_
              refine k_callV hE (c_X0_isDry S2 Y f ((k : Int)) hAS2 hI (by omega) (by omega) (by omega) (by omega)) mf_X0_isDry ml_X0_99 4 rfl rfl rfl rfl ⟨rfl, rfl, Nat.le_of_ble_eq_true rfl, Nat.le_of_ble_eq_true rfl⟩ [] (Nat.le_of_ble_eq_true rfl) dX0_allHaveNeeds_46 rfl (fun rv u hp => ?_)
              obtain ⟨z1, hv46, hu46, hz_46⟩ := hp
              refine k_sk (sk' := [.int (iI z1)]) (by rw [hv46]; rfl) ?_
              refine k_st S2 hu46 ?_
              refine k_if_eq hE 54 dX0_allHaveNeeds_49 (by decide) (by unfold in32; omega) (fun c49 => ?_) (fun c49 => ?_)
              · refine k_iinc hE dX0_allHaveNeeds_54 4 [1, 2, 3, 4, 0] rfl (Nat.le_of_ble_eq_true rfl) (lo' := [(0, .ref (ad 4)), (1, .int (iI w)), (2, .int (iI n)), (3, .int (iI ((k : Int)))), (4, .int (iI (f + 1)))]) rfl ?_
                refine k_goto hE 30 dX0_allHaveNeeds_57 (by decide) ?_
                exact ih30 _ (by omega) (by omega) (fun g g0 g1 => by by_cases e : g = f; (rw [e]; omega); exact fp g g0 (by omega))
              · refine k_iconst hE dX0_allHaveNeeds_52 ?_
                exact k_zret hR dX0_allHaveNeeds_53 rfl (nar_b (by omega)) ⟨_, _, rfl, rfl, Or.inr ⟨rfl, fun h => by have h5 := h f (by omega) (by omega) (k : Int) (by omega) (by omega); omega⟩, hx2⟩
        exact L30 7 0 (by omega) (by omega) (fun g g0 g1 => by omega)
  exact L8 11 S1 0 (by omega) (by omega) e1_3 (fun a ha => by rw [e2_3 a (by omega), ur_n _ _ _ (by omega)]) e3_3 (Ran_0 (by rw [e2_3 9 (by decide)]; exact ur_s _ _ _ _) hw) (fun i i0 i1 => by omega)
