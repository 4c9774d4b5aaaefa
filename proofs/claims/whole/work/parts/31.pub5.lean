set_option maxHeartbeats 4000000 in
set_option maxRecDepth 100000 in
theorem c_X6_sheet {ad : Nat → Nat} {ta sa ca : Int → Nat} {D : va_G} {cI cT cS : ClassId} (st : Sg) (Y : Sg) (k : Int) (l : Int) (n : Int) (hA : Ag st Y) (hI : Inv Y) (hS : SHx st) (i_k : -2147483648 ≤ k ∧ k < 2147483648) (i_l : -2147483648 ≤ l ∧ l < 2147483648) (i_n : -2147483648 ≤ n ∧ n < 2147483648) : MC (xw ad ta sa ca D cI cT cS) yX6_sheet cX6_sheet 4 (some .int) { frames := 2, cells := 0, slots := 0, locals := 42 } [.ref (ad 0), .int (iI k), .int (iI l), .int (iI n)] st (fun rv u => ∃ z : Int, ∃ S : Sg, rv = some (.int (iI (z))) ∧ u = S ∧ (((k < 0 ∨ 3 < k) ∧ z = -1 ∧ S = (uv st.1 9 0, st.2)) ∨ (¬ (k < 0 ∨ 3 < k) ∧ ((l < 0 ∨ 2 < l) ∨ 60 < n) ∧ z = -2 ∧ S = (uv st.1 9 0, st.2)) ∨ (¬ (k < 0 ∨ 3 < k) ∧ ¬ ((l < 0 ∨ 2 < l) ∨ 60 < n) ∧ n < 0 ∧ z = -14 ∧ S = (uv (uv st.1 9 0) 9 4, st.2)) ∨ (¬ (k < 0 ∨ 3 < k) ∧ ¬ ((l < 0 ∨ 2 < l) ∨ 60 < n) ∧ ¬ n < 0 ∧ z = 1 ∧ (S.1 = uv st.1 9 0 ∧ (∀ a, a ≠ 20 + Int.toNat k → S.2 a = (ur (ur st.2 7 k l) 8 k n) a) ∧ (∀ i : Int, 0 ≤ i → i < n → S.2 (20 + Int.toNat k) i = 0))))) := by
  refine MC_intro RX6 (by decide) rfl (Nat.le_of_ble_eq_true rfl) ?_
  intro G H0 m hE hR
  refine k_lo [0, 1, 2, 3] (lo' := [(0, .ref (ad 0)), (1, .int (iI k)), (2, .int (iI l)), (3, .int (iI n))]) rfl ?_
  obtain ⟨hi0, hi1, hi2, hi3, hi4, hi5, hi6, hi7, hit, hir, him, hin⟩ := id hI
  refine k_aload_n hE dX6_sheet_0 0 rfl rfl ?_
  refine k_iconst hE dX6_sheet_1 ?_
  refine x_put_X6_lastFault hE fl_X6_41 dX6_sheet_2 ?_
  refine k_st ((uv st.1 9 0, st.2)) rfl ?_
  refine k_iload_n hE dX6_sheet_5 1 rfl rfl ?_
  refine k_callS hE (c_X6_noSheet ((uv st.1 9 0, st.2)) k (by omega)) ms_X6_noSheet ml_X6_45 rfl ⟨rfl, rfl, Nat.le_of_ble_eq_true rfl, Nat.le_of_ble_eq_true rfl⟩ [] (Nat.le_of_ble_eq_true rfl) dX6_sheet_6 rfl (fun rv u hp => ?_)
  obtain ⟨z1, hv6, hu6, hz_6⟩ := hp
  try dsimp only at hz_6
  refine k_sk (sk' := [.int (iI z1)]) (by rw [hv6]; rfl) ?_
  refine k_st ((uv st.1 9 0, st.2)) hu6 ?_
  refine k_if_eq hE 14 dX6_sheet_9 (by decide) (by unfold in32; omega) (fun c9 => ?_) (fun c9 => ?_)
  · refine k_iload_n hE dX6_sheet_14 2 rfl rfl ?_
    refine k_callS hE (c_X6_noLane ((uv st.1 9 0, st.2)) l (by omega)) ms_X6_noLane ml_X6_49 rfl ⟨rfl, rfl, Nat.le_of_ble_eq_true rfl, Nat.le_of_ble_eq_true rfl⟩ [] (Nat.le_of_ble_eq_true rfl) dX6_sheet_15 rfl (fun rv u hp => ?_)
    obtain ⟨z2, hv15, hu15, hz_15⟩ := hp
    try dsimp only at hz_15
    refine k_sk (sk' := [.int (iI z2)]) (by rw [hv15]; rfl) ?_
    refine k_st ((uv st.1 9 0, st.2)) hu15 ?_
    refine k_if_ne hE 27 dX6_sheet_18 (by decide) (by unfold in32; omega) (fun c18 => ?_) (fun c18 => ?_)
    · refine k_bipush hE dX6_sheet_27 rfl ?_
      exact k_iret hR dX6_sheet_29 rfl ⟨_, _, rfl, rfl, Or.inr (Or.inl ⟨by omega, by omega, rfl, rfl⟩)⟩
    · refine k_iload_n hE dX6_sheet_21 3 rfl rfl ?_
      refine k_bipush hE dX6_sheet_22 rfl ?_
      refine k_icmp_le hE 30 dX6_sheet_24 (by decide) (by unfold in32; omega) (by unfold in32; omega) (fun c24 => ?_) (fun c24 => ?_)
      · refine k_iload_n hE dX6_sheet_30 3 rfl rfl ?_
        refine k_if_ge hE 40 dX6_sheet_31 (by decide) (by unfold in32; omega) (fun c31 => ?_) (fun c31 => ?_)
        · refine k_aload_n hE dX6_sheet_40 0 rfl rfl ?_
          refine x_get_X6_sheets hE fl_X6_36 dX6_sheet_41 ?_
          refine k_iload_n hE dX6_sheet_44 1 rfl rfl ?_
          refine x_ld_sheets hE (i := k) (by omega) (by omega) dX6_sheet_45 ?_
          refine k_iload_n hE dX6_sheet_46 2 rfl rfl ?_
          refine k_iload_n hE dX6_sheet_47 3 rfl rfl ?_
          refine k_callV hE (c_X2_makeRow ((uv st.1 9 0, st.2)) k l n (by omega) (by omega) (by omega)) mf_X2_makeRow ml_X6_192 (19 + Int.toNat k) (xW_sheet (by omega) (by omega)) rfl rfl rfl ⟨rfl, rfl, Nat.le_of_ble_eq_true rfl, Nat.le_of_ble_eq_true rfl⟩ [] (Nat.le_of_ble_eq_true rfl) dX6_sheet_48 rfl (fun rv u hp => ?_)
          obtain ⟨S1, hv48, hu48, e1_48, e2_48, e3_48⟩ := hp
          try dsimp only at e1_48 e2_48 e3_48
          refine k_sk (sk' := []) (by rw [hv48]; rfl) ?_
          refine k_st S1 hu48 ?_
          refine k_iconst hE dX6_sheet_51 ?_
          exact k_iret hR dX6_sheet_52 rfl ⟨_, S1, rfl, rfl, Or.inr (Or.inr (Or.inr ⟨by omega, by omega, by omega, rfl, e1_48, e2_48, e3_48⟩))⟩
        · refine k_aload_n hE dX6_sheet_34 0 rfl rfl ?_
          refine k_iconst hE dX6_sheet_35 ?_
          refine k_callV hE (c_X6_failBy ((uv st.1 9 0, st.2)) 4) mf_X6_failBy ml_X6_60 0 rfl rfl rfl rfl ⟨rfl, rfl, Nat.le_of_ble_eq_true rfl, Nat.le_of_ble_eq_true rfl⟩ [] (Nat.le_of_ble_eq_true rfl) dX6_sheet_36 rfl (fun rv u hp => ?_)
          obtain ⟨hv36, hu36⟩ := hp
          refine k_sk (sk' := [.int (iI (-10 - 4))]) (by rw [hv36]; rfl) ?_
          refine k_st ((uv (uv st.1 9 0) 9 4, st.2)) hu36 ?_
          exact k_iret hR dX6_sheet_39 rfl ⟨_, _, rfl, rfl, Or.inr (Or.inr (Or.inl ⟨by omega, by omega, by omega, rfl, rfl⟩))⟩
      · refine k_bipush hE dX6_sheet_27 rfl ?_
        exact k_iret hR dX6_sheet_29 rfl ⟨_, _, rfl, rfl, Or.inr (Or.inl ⟨by omega, by omega, rfl, rfl⟩)⟩
  · refine k_iconst hE dX6_sheet_12 ?_
    exact k_iret hR dX6_sheet_13 rfl ⟨_, _, rfl, rfl, Or.inl ⟨by omega, rfl, rfl⟩⟩

set_option maxHeartbeats 4000000 in
set_option maxRecDepth 100000 in
theorem c_X6_lose {ad : Nat → Nat} {ta sa ca : Int → Nat} {D : va_G} {cI cT cS : ClassId} (st : Sg) (Y : Sg) (k : Int) (hA : Ag st Y) (hI : Inv Y) (hS : SHx st) (i_k : -2147483648 ≤ k ∧ k < 2147483648) : MC (xw ad ta sa ca D cI cT cS) yX6_lose cX6_lose 2 (some .int) { frames := 2, cells := 0, slots := 0, locals := 42 } [.ref (ad 0), .int (iI k)] st (fun rv u => ∃ z : Int, ∃ S : Sg, rv = some (.int (iI (z))) ∧ u = S ∧ (((k < 0 ∨ 3 < k) ∧ z = -1 ∧ S = st) ∨ (¬ (k < 0 ∨ 3 < k) ∧ st.2 7 k = -1 ∧ z = 0 ∧ S = st) ∨ (¬ (k < 0 ∨ 3 < k) ∧ st.2 7 k ≠ -1 ∧ z = 1 ∧ S = (st.1, ur st.2 7 k (-1))))) := by
  refine MC_intro RX6 (by decide) rfl (Nat.le_of_ble_eq_true rfl) ?_
  intro G H0 m hE hR
  refine k_lo [0, 1] (lo' := [(0, .ref (ad 0)), (1, .int (iI k))]) rfl ?_
  obtain ⟨hi0, hi1, hi2, hi3, hi4, hi5, hi6, hi7, hit, hir, him, hin⟩ := id hI
  refine k_iload_n hE dX6_lose_0 1 rfl rfl ?_
  refine k_callS hE (c_X6_noSheet st k (by omega)) ms_X6_noSheet ml_X6_45 rfl ⟨rfl, rfl, Nat.le_of_ble_eq_true rfl, Nat.le_of_ble_eq_true rfl⟩ [] (Nat.le_of_ble_eq_true rfl) dX6_lose_1 rfl (fun rv u hp => ?_)
  obtain ⟨z1, hv1, hu1, hz_1⟩ := hp
  refine k_sk (sk' := [.int (iI z1)]) (by rw [hv1]; rfl) ?_
  refine k_st st hu1 ?_
  refine k_if_eq hE 9 dX6_lose_4 (by decide) (by unfold in32; omega) (fun c4 => ?_) (fun c4 => ?_)
  · have hk := hS.1 k (by omega) (by omega)
    refine k_aload_n hE dX6_lose_9 0 rfl rfl ?_
    refine x_get_X6_sheets hE fl_X6_36 dX6_lose_10 ?_
    refine k_iload_n hE dX6_lose_13 1 rfl rfl ?_
    refine x_ld_sheets hE (i := k) (by omega) (by omega) dX6_lose_14 ?_
    refine x_get_X2_lane hE (z := st.2 7 k) (by omega) (by omega) rfl fl_X6_195 dX6_lose_15 ?_
    refine k_iconst hE dX6_lose_18 ?_
    refine k_icmp_ne hE 24 dX6_lose_19 (by decide) (by unfold in32; omega) (by unfold in32; omega) (fun c19 => ?_) (fun c19 => ?_)
    · refine k_aload_n hE dX6_lose_24 0 rfl rfl ?_
      refine x_get_X6_sheets hE fl_X6_36 dX6_lose_25 ?_
      refine k_iload_n hE dX6_lose_28 1 rfl rfl ?_
      refine x_ld_sheets hE (i := k) (by omega) (by omega) dX6_lose_29 ?_
      refine k_iconst hE dX6_lose_30 ?_
      refine x_put_X2_lane hE (by omega) (by omega) fl_X6_195 dX6_lose_31 ?_
      refine k_st ((st.1, ur st.2 7 k (-1))) rfl ?_
      refine k_iconst hE dX6_lose_34 ?_
      exact k_iret hR dX6_lose_35 rfl ⟨_, _, rfl, rfl, Or.inr (Or.inr (⟨by omega, by omega, rfl, rfl⟩))⟩
    · refine k_iconst hE dX6_lose_22 ?_
      exact k_iret hR dX6_lose_23 rfl ⟨_, _, rfl, rfl, Or.inr (Or.inl ⟨by omega, by omega, rfl, rfl⟩)⟩
  · refine k_iconst hE dX6_lose_7 ?_
    exact k_iret hR dX6_lose_8 rfl ⟨_, _, rfl, rfl, Or.inl ⟨by omega, rfl, rfl⟩⟩

set_option maxHeartbeats 4000000 in
set_option maxRecDepth 100000 in
theorem c_X6_put {ad : Nat → Nat} {ta sa ca : Int → Nat} {D : va_G} {cI cT cS : ClassId} (st : Sg) (Y : Sg) (k : Int) (i : Int) (v : Int) (hA : Ag st Y) (hI : Inv Y) (hS : SHx st) (i_k : -2147483648 ≤ k ∧ k < 2147483648) (i_i : -2147483648 ≤ i ∧ i < 2147483648) (i_v : -2147483648 ≤ v ∧ v < 2147483648) : MC (xw ad ta sa ca D cI cT cS) yX6_put cX6_put 5 (some .int) { frames := 2, cells := 0, slots := 0, locals := 42 } [.ref (ad 0), .int (iI k), .int (iI i), .int (iI v)] st (fun rv u => ∃ z : Int, ∃ S : Sg, rv = some (.int (iI (z))) ∧ u = S ∧ (((k < 0 ∨ 3 < k) ∧ z = -1 ∧ S = (uv st.1 9 0, st.2)) ∨ (¬ (k < 0 ∨ 3 < k) ∧ st.2 7 k = -1 ∧ z = -11 ∧ S = (uv (uv st.1 9 0) 9 1, st.2)) ∨ (¬ (k < 0 ∨ 3 < k) ∧ st.2 7 k ≠ -1 ∧ ¬ (0 ≤ i ∧ i ≤ st.2 8 k ∧ 0 ≤ (1 : Int) ∧ 1 ≤ st.2 8 k - i) ∧ z = -13 ∧ S = (uv (uv st.1 9 0) 9 3, st.2)) ∨ (¬ (k < 0 ∨ 3 < k) ∧ st.2 7 k ≠ -1 ∧ (0 ≤ i ∧ i ≤ st.2 8 k ∧ 0 ≤ (1 : Int) ∧ 1 ≤ st.2 8 k - i) ∧ z = 1 ∧ S = (uv st.1 9 0, ur st.2 (20 + Int.toNat k) i (CUT (st.2 7 k) v))))) := by
  refine MC_intro RX6 (by decide) rfl (Nat.le_of_ble_eq_true rfl) ?_
  intro G H0 m hE hR
  refine k_lo [0, 1, 2, 3] (lo' := [(0, .ref (ad 0)), (1, .int (iI k)), (2, .int (iI i)), (3, .int (iI v))]) rfl ?_
  obtain ⟨hi0, hi1, hi2, hi3, hi4, hi5, hi6, hi7, hit, hir, him, hin⟩ := id hI
  refine k_aload_n hE dX6_put_0 0 rfl rfl ?_
  refine k_iconst hE dX6_put_1 ?_
  refine x_put_X6_lastFault hE fl_X6_41 dX6_put_2 ?_
  refine k_st ((uv st.1 9 0, st.2)) rfl ?_
  refine k_iload_n hE dX6_put_5 1 rfl rfl ?_
  refine k_callS hE (c_X6_noSheet ((uv st.1 9 0, st.2)) k (by omega)) ms_X6_noSheet ml_X6_45 rfl ⟨rfl, rfl, Nat.le_of_ble_eq_true rfl, Nat.le_of_ble_eq_true rfl⟩ [] (Nat.le_of_ble_eq_true rfl) dX6_put_6 rfl (fun rv u hp => ?_)
  obtain ⟨z1, hv6, hu6, hz_6⟩ := hp
  try dsimp only at hz_6
  refine k_sk (sk' := [.int (iI z1)]) (by rw [hv6]; rfl) ?_
  refine k_st ((uv st.1 9 0, st.2)) hu6 ?_
  refine k_if_eq hE 14 dX6_put_9 (by decide) (by unfold in32; omega) (fun c9 => ?_) (fun c9 => ?_)
  · have hk := hS.1 k (by omega) (by omega)
    refine k_aload_n hE dX6_put_14 0 rfl rfl ?_
    refine x_get_X6_sheets hE fl_X6_36 dX6_put_15 ?_
    refine k_iload_n hE dX6_put_18 1 rfl rfl ?_
    refine x_ld_sheets hE (i := k) (by omega) (by omega) dX6_put_19 ?_
    refine k_astore hE dX6_put_20 [1, 2, 3, 4, 0] (Nat.le_of_ble_eq_true rfl) (lo' := [(0, .ref (ad 0)), (1, .int (iI k)), (2, .int (iI i)), (3, .int (iI v)), (4, .ref (sa k))]) rfl ?_
    refine k_aload hE dX6_put_22 4 rfl ?_
    refine x_get_X2_lane hE (z := st.2 7 k) (by omega) (by omega) rfl fl_X6_195 dX6_put_24 ?_
    refine k_iconst hE dX6_put_27 ?_
    refine k_icmp_ne hE 37 dX6_put_28 (by decide) (by unfold in32; omega) (by unfold in32; omega) (fun c28 => ?_) (fun c28 => ?_)
    · refine k_aload hE dX6_put_37 4 rfl ?_
      refine k_iload_n hE dX6_put_39 2 rfl rfl ?_
      refine k_iconst hE dX6_put_40 ?_
      refine k_callV hE (c_X2_hasCells ((uv st.1 9 0, st.2)) k i 1 (by omega) (by omega) (by omega) (by omega) hk.2) mf_X2_hasCells ml_X6_56 (19 + Int.toNat k) (xW_sheet (by omega) (by omega)) rfl rfl rfl ⟨rfl, rfl, Nat.le_of_ble_eq_true rfl, Nat.le_of_ble_eq_true rfl⟩ [] (Nat.le_of_ble_eq_true rfl) dX6_put_41 rfl (fun rv u hp => ?_)
      obtain ⟨z2, hv41, hu41, hz_41⟩ := hp
      try dsimp only at hz_41
      refine k_sk (sk' := [.int (iI z2)]) (by rw [hv41]; rfl) ?_
      refine k_st ((uv st.1 9 0, st.2)) hu41 ?_
      refine k_if_ne hE 53 dX6_put_44 (by decide) (by unfold in32; omega) (fun c44 => ?_) (fun c44 => ?_)
      · refine k_aload hE dX6_put_53 4 rfl ?_
        refine x_get_X2_cells hE (by omega) (by omega) fl_X6_198 dX6_put_55 ?_
        refine k_iload_n hE dX6_put_58 2 rfl rfl ?_
        refine k_aload hE dX6_put_59 4 rfl ?_
        refine k_iload_n hE dX6_put_61 3 rfl rfl ?_
        refine k_callV hE (c_X2_cutToLane ((uv st.1 9 0, st.2)) k v (by omega) (by omega) hk.1) mf_X2_cutToLane ml_X6_201 (19 + Int.toNat k) (xW_sheet (by omega) (by omega)) rfl rfl rfl ⟨rfl, rfl, Nat.le_of_ble_eq_true rfl, Nat.le_of_ble_eq_true rfl⟩ [.int (iI i), .ref (ca k)] (Nat.le_of_ble_eq_true rfl) dX6_put_62 rfl (fun rv u hp => ?_)
        obtain ⟨hv62, hu62⟩ := hp
        refine k_sk (sk' := [.int (iI (if st.2 7 k = 0 then b8 v else if st.2 7 k = 1 then s16 v else v)), .int (iI i), .ref (ca k)]) (by rw [hv62]; rfl) ?_
        refine k_st ((uv st.1 9 0, st.2)) hu62 ?_
        refine k_sk (sk' := [.int (iI (CUT (st.2 7 k) v)), .int (iI i), .ref (ca k)]) (congrArg (fun zz : Int => ([.int (iI zz), .int (iI i), .ref (ca k)] : List Value)) (show (if st.2 7 k = 0 then b8 v else if st.2 7 k = 1 then s16 v else v) = (CUT (st.2 7 k) v) from rfl)) ?_
        refine x_st_cells hE (f := k) (by omega) (by omega) (by omega) (by omega) dX6_put_65 ?_
        refine k_st ((uv st.1 9 0, ur st.2 (20 + Int.toNat k) i (CUT (st.2 7 k) v))) rfl ?_
        refine k_iconst hE dX6_put_66 ?_
        exact k_iret hR dX6_put_67 rfl ⟨_, _, rfl, rfl, Or.inr (Or.inr (Or.inr (⟨by omega, by omega, by omega, rfl, rfl⟩)))⟩
      · refine k_aload_n hE dX6_put_47 0 rfl rfl ?_
        refine k_iconst hE dX6_put_48 ?_
        refine k_callV hE (c_X6_failBy ((uv st.1 9 0, st.2)) 3) mf_X6_failBy ml_X6_60 0 rfl rfl rfl rfl ⟨rfl, rfl, Nat.le_of_ble_eq_true rfl, Nat.le_of_ble_eq_true rfl⟩ [] (Nat.le_of_ble_eq_true rfl) dX6_put_49 rfl (fun rv u hp => ?_)
        obtain ⟨hv49, hu49⟩ := hp
        refine k_sk (sk' := [.int (iI (-10 - 3))]) (by rw [hv49]; rfl) ?_
        refine k_st ((uv (uv st.1 9 0) 9 3, st.2)) hu49 ?_
        exact k_iret hR dX6_put_52 rfl ⟨_, _, rfl, rfl, Or.inr (Or.inr (Or.inl ⟨by omega, by omega, by omega, rfl, rfl⟩))⟩
    · refine k_aload_n hE dX6_put_31 0 rfl rfl ?_
      refine k_iconst hE dX6_put_32 ?_
      refine k_callV hE (c_X6_failBy ((uv st.1 9 0, st.2)) 1) mf_X6_failBy ml_X6_60 0 rfl rfl rfl rfl ⟨rfl, rfl, Nat.le_of_ble_eq_true rfl, Nat.le_of_ble_eq_true rfl⟩ [] (Nat.le_of_ble_eq_true rfl) dX6_put_33 rfl (fun rv u hp => ?_)
      obtain ⟨hv33, hu33⟩ := hp
      refine k_sk (sk' := [.int (iI (-10 - 1))]) (by rw [hv33]; rfl) ?_
      refine k_st ((uv (uv st.1 9 0) 9 1, st.2)) hu33 ?_
      exact k_iret hR dX6_put_36 rfl ⟨_, _, rfl, rfl, Or.inr (Or.inl ⟨by omega, by omega, rfl, rfl⟩)⟩
  · refine k_iconst hE dX6_put_12 ?_
    exact k_iret hR dX6_put_13 rfl ⟨_, _, rfl, rfl, Or.inl ⟨by omega, rfl, rfl⟩⟩

set_option maxHeartbeats 4000000 in
set_option maxRecDepth 100000 in
theorem c_X6_cell {ad : Nat → Nat} {ta sa ca : Int → Nat} {D : va_G} {cI cT cS : ClassId} (st : Sg) (Y : Sg) (k : Int) (i : Int) (l : Int) (hA : Ag st Y) (hI : Inv Y) (hS : SHx st) (i_k : -2147483648 ≤ k ∧ k < 2147483648) (i_i : -2147483648 ≤ i ∧ i < 2147483648) (i_l : -2147483648 ≤ l ∧ l < 2147483648) : MC (xw ad ta sa ca D cI cT cS) yX6_cell cX6_cell 6 (some .long) { frames := 2, cells := 0, slots := 0, locals := 42 } [.ref (ad 0), .int (iI k), .int (iI i), .int (iI l)] st (fun rv u => ∃ L : Int64, ∃ S : Sg, rv = some (.long (L)) ∧ u = S ∧ ((((k < 0 ∨ 3 < k) ∨ (l < 0 ∨ 2 < l)) ∧ L = -9223372036854775808 ∧ S = (uv st.1 9 0, st.2)) ∨ (¬ ((k < 0 ∨ 3 < k) ∨ (l < 0 ∨ 2 < l)) ∧ S = (uv (uv st.1 9 0) 9 (if st.2 7 k = -1 then 1 else if st.2 7 k = l then (if (0 ≤ i ∧ i ≤ st.2 8 k ∧ 0 ≤ (1 : Int) ∧ 1 ≤ st.2 8 k - i) then 0 else 3) else 2), st.2) ∧ (((if st.2 7 k = -1 then 1 else if st.2 7 k = l then (if (0 ≤ i ∧ i ≤ st.2 8 k ∧ 0 ≤ (1 : Int) ∧ 1 ≤ st.2 8 k - i) then 0 else 3) else 2) = 0 ∧ L = jI (st.2 (20 + Int.toNat k) i)) ∨ ((if st.2 7 k = -1 then 1 else if st.2 7 k = l then (if (0 ≤ i ∧ i ≤ st.2 8 k ∧ 0 ≤ (1 : Int) ∧ 1 ≤ st.2 8 k - i) then 0 else 3) else 2) ≠ 0 ∧ L = -9223372036854775808))))) := by
  refine MC_intro RX6 (by decide) rfl (Nat.le_of_ble_eq_true rfl) ?_
  intro G H0 m hE hR
  refine k_lo [0, 1, 2, 3] (lo' := [(0, .ref (ad 0)), (1, .int (iI k)), (2, .int (iI i)), (3, .int (iI l))]) rfl ?_
  obtain ⟨hi0, hi1, hi2, hi3, hi4, hi5, hi6, hi7, hit, hir, him, hin⟩ := id hI
  refine k_aload_n hE dX6_cell_0 0 rfl rfl ?_
  refine k_iconst hE dX6_cell_1 ?_
  refine x_put_X6_lastFault hE fl_X6_41 dX6_cell_2 ?_
  refine k_st ((uv st.1 9 0, st.2)) rfl ?_
  refine k_iload_n hE dX6_cell_5 1 rfl rfl ?_
  refine k_callS hE (c_X6_noSheet ((uv st.1 9 0, st.2)) k (by omega)) ms_X6_noSheet ml_X6_45 rfl ⟨rfl, rfl, Nat.le_of_ble_eq_true rfl, Nat.le_of_ble_eq_true rfl⟩ [] (Nat.le_of_ble_eq_true rfl) dX6_cell_6 rfl (fun rv u hp => ?_)
  obtain ⟨z1, hv6, hu6, hz_6⟩ := hp
  try dsimp only at hz_6
  refine k_sk (sk' := [.int (iI z1)]) (by rw [hv6]; rfl) ?_
  refine k_st ((uv st.1 9 0, st.2)) hu6 ?_
  refine k_if_ne hE 19 dX6_cell_9 (by decide) (by unfold in32; omega) (fun c9 => ?_) (fun c9 => ?_)
  · refine k_ldc2 hE cl_X6_167 dX6_cell_19 ?_
    exact k_lret hR dX6_cell_22 rfl ⟨_, _, rfl, rfl, Or.inl ⟨by omega, rfl, rfl⟩⟩
  · refine k_iload_n hE dX6_cell_12 3 rfl rfl ?_
    refine k_callS hE (c_X6_noLane ((uv st.1 9 0, st.2)) l (by omega)) ms_X6_noLane ml_X6_49 rfl ⟨rfl, rfl, Nat.le_of_ble_eq_true rfl, Nat.le_of_ble_eq_true rfl⟩ [] (Nat.le_of_ble_eq_true rfl) dX6_cell_13 rfl (fun rv u hp => ?_)
    obtain ⟨z2, hv13, hu13, hz_13⟩ := hp
    try dsimp only at hz_13
    refine k_sk (sk' := [.int (iI z2)]) (by rw [hv13]; rfl) ?_
    refine k_st ((uv st.1 9 0, st.2)) hu13 ?_
    refine k_if_eq hE 23 dX6_cell_16 (by decide) (by unfold in32; omega) (fun c16 => ?_) (fun c16 => ?_)
    · have hk := hS.1 k (by omega) (by omega)
      refine k_aload_n hE dX6_cell_23 0 rfl rfl ?_
      refine x_get_X6_sheets hE fl_X6_36 dX6_cell_24 ?_
      refine k_iload_n hE dX6_cell_27 1 rfl rfl ?_
      refine x_ld_sheets hE (i := k) (by omega) (by omega) dX6_cell_28 ?_
      refine k_astore hE dX6_cell_29 [1, 2, 3, 4, 0] (Nat.le_of_ble_eq_true rfl) (lo' := [(0, .ref (ad 0)), (1, .int (iI k)), (2, .int (iI i)), (3, .int (iI l)), (4, .ref (sa k))]) rfl ?_
      refine k_aload hE dX6_cell_31 4 rfl ?_
      refine k_iload_n hE dX6_cell_33 3 rfl rfl ?_
      refine k_callV hE (c_X2_faultAsLane ((uv st.1 9 0, st.2)) k l (by omega) (by omega) (by omega) hk.1) mf_X2_faultAsLane ml_X6_52 (19 + Int.toNat k) (xW_sheet (by omega) (by omega)) rfl rfl rfl ⟨rfl, rfl, Nat.le_of_ble_eq_true rfl, Nat.le_of_ble_eq_true rfl⟩ [] (Nat.le_of_ble_eq_true rfl) dX6_cell_34 rfl (fun rv u hp => ?_)
      obtain ⟨hv34, hu34⟩ := hp
      refine k_sk (sk' := [.int (iI (if st.2 7 k = -1 then 1 else if st.2 7 k = l then 0 else 2))]) (by rw [hv34]; rfl) ?_
      refine k_st ((uv st.1 9 0, st.2)) hu34 ?_
      refine k_istore hE dX6_cell_37 [1, 2, 3, 4, 5, 0] (Nat.le_of_ble_eq_true rfl) (lo' := [(0, .ref (ad 0)), (1, .int (iI k)), (2, .int (iI i)), (3, .int (iI l)), (4, .ref (sa k)), (5, .int (iI (if st.2 7 k = -1 then 1 else if st.2 7 k = l then 0 else 2)))]) rfl ?_
      have rf : 0 ≤ (if st.2 7 k = -1 then (1 : Int) else if st.2 7 k = l then 0 else 2) ∧ (if st.2 7 k = -1 then (1 : Int) else if st.2 7 k = l then 0 else 2) ≤ 2 := by (repeat (first | omega | split))
      refine k_iload hE dX6_cell_39 5 rfl ?_
      refine k_if_ne hE 57 dX6_cell_41 (by decide) (by unfold in32; omega) (fun c41 => ?_) (fun c41 => ?_)
      · refine k_aload_n hE dX6_cell_57 0 rfl rfl ?_
        refine k_iload hE dX6_cell_58 5 rfl ?_
        refine x_put_X6_lastFault hE fl_X6_41 dX6_cell_60 ?_
        refine k_st ((uv (uv st.1 9 0) 9 (if st.2 7 k = -1 then 1 else if st.2 7 k = l then 0 else 2), st.2)) rfl ?_
        refine k_iload hE dX6_cell_63 5 rfl ?_
        refine k_if_ne hE 79 dX6_cell_65 (by decide) (by unfold in32; omega) (fun c65 => ?_) (fun c65 => ?_)
        · refine k_ldc2 hE cl_X6_167 dX6_cell_79 ?_
          refine k_lret hR dX6_cell_82 rfl ?_
          refine ⟨_, _, rfl, rfl, Or.inr ⟨by omega, ?_, ?_⟩⟩
          · first
              | (refine congrArg (fun zz : Int => ((uv (uv st.1 9 0) 9 zz, st.2) : Sg)) ?_; (repeat (first | omega | split)))
          · first
              | (refine Or.inl ⟨?_, rfl⟩; (repeat (first | omega | split)); done)
              | (refine Or.inr ⟨?_, rfl⟩; (repeat (first | omega | split)); done)
        · refine k_aload hE dX6_cell_68 4 rfl ?_
          refine x_get_X2_cells hE (by omega) (by omega) fl_X6_198 dX6_cell_70 ?_
          refine k_iload_n hE dX6_cell_73 2 rfl rfl ?_
          refine x_ld_cells hE (f := k) (z := st.2 ((20 + Int.toNat k)) i) (by omega) (by omega) (by omega) (by omega) rfl dX6_cell_74 ?_
          have hcc := hS.2 k i (by omega) (by omega) (by omega) (by omega)
          refine k_i2l hE dX6_cell_75 (by unfold in32; omega) ?_
          refine k_goto hE 82 dX6_cell_76 (by decide) ?_
          refine k_lret hR dX6_cell_82 rfl ?_
          refine ⟨_, _, rfl, rfl, Or.inr ⟨by omega, ?_, ?_⟩⟩
          · first
              | (refine congrArg (fun zz : Int => ((uv (uv st.1 9 0) 9 zz, st.2) : Sg)) ?_; (repeat (first | omega | split)))
          · first
              | (refine Or.inl ⟨?_, rfl⟩; (repeat (first | omega | split)); done)
              | (refine Or.inr ⟨?_, rfl⟩; (repeat (first | omega | split)); done)
      · refine k_aload hE dX6_cell_44 4 rfl ?_
        refine k_iload_n hE dX6_cell_46 2 rfl rfl ?_
        refine k_iconst hE dX6_cell_47 ?_
        refine k_callV hE (c_X2_hasCells ((uv st.1 9 0, st.2)) k i 1 (by omega) (by omega) (by omega) (by omega) hk.2) mf_X2_hasCells ml_X6_56 (19 + Int.toNat k) (xW_sheet (by omega) (by omega)) rfl rfl rfl ⟨rfl, rfl, Nat.le_of_ble_eq_true rfl, Nat.le_of_ble_eq_true rfl⟩ [] (Nat.le_of_ble_eq_true rfl) dX6_cell_48 rfl (fun rv u hp => ?_)
        obtain ⟨z3, hv48, hu48, hz_48⟩ := hp
        try dsimp only at hz_48
        refine k_sk (sk' := [.int (iI z3)]) (by rw [hv48]; rfl) ?_
        refine k_st ((uv st.1 9 0, st.2)) hu48 ?_
        refine k_if_ne hE 57 dX6_cell_51 (by decide) (by unfold in32; omega) (fun c51 => ?_) (fun c51 => ?_)
        · refine k_aload_n hE dX6_cell_57 0 rfl rfl ?_
          refine k_iload hE dX6_cell_58 5 rfl ?_
          refine x_put_X6_lastFault hE fl_X6_41 dX6_cell_60 ?_
          refine k_st ((uv (uv st.1 9 0) 9 (if st.2 7 k = -1 then 1 else if st.2 7 k = l then 0 else 2), st.2)) rfl ?_
          refine k_iload hE dX6_cell_63 5 rfl ?_
          refine k_if_ne hE 79 dX6_cell_65 (by decide) (by unfold in32; omega) (fun c65 => ?_) (fun c65 => ?_)
          · refine k_ldc2 hE cl_X6_167 dX6_cell_79 ?_
            refine k_lret hR dX6_cell_82 rfl ?_
            refine ⟨_, _, rfl, rfl, Or.inr ⟨by omega, ?_, ?_⟩⟩
            · first
                | (refine congrArg (fun zz : Int => ((uv (uv st.1 9 0) 9 zz, st.2) : Sg)) ?_; (repeat (first | omega | split)))
            · first
                | (refine Or.inl ⟨?_, rfl⟩; (repeat (first | omega | split)); done)
                | (refine Or.inr ⟨?_, rfl⟩; (repeat (first | omega | split)); done)
          · refine k_aload hE dX6_cell_68 4 rfl ?_
            refine x_get_X2_cells hE (by omega) (by omega) fl_X6_198 dX6_cell_70 ?_
            refine k_iload_n hE dX6_cell_73 2 rfl rfl ?_
            refine x_ld_cells hE (f := k) (z := st.2 ((20 + Int.toNat k)) i) (by omega) (by omega) (by omega) (by omega) rfl dX6_cell_74 ?_
            have hcc := hS.2 k i (by omega) (by omega) (by omega) (by omega)
            refine k_i2l hE dX6_cell_75 (by unfold in32; omega) ?_
            refine k_goto hE 82 dX6_cell_76 (by decide) ?_
            refine k_lret hR dX6_cell_82 rfl ?_
            refine ⟨_, _, rfl, rfl, Or.inr ⟨by omega, ?_, ?_⟩⟩
            · first
                | (refine congrArg (fun zz : Int => ((uv (uv st.1 9 0) 9 zz, st.2) : Sg)) ?_; (repeat (first | omega | split)))
            · first
                | (refine Or.inl ⟨?_, rfl⟩; (repeat (first | omega | split)); done)
                | (refine Or.inr ⟨?_, rfl⟩; (repeat (first | omega | split)); done)
        · refine k_iconst hE dX6_cell_54 ?_
          refine k_istore hE dX6_cell_55 [1, 2, 3, 4, 5, 0] (Nat.le_of_ble_eq_true rfl) (lo' := [(0, .ref (ad 0)), (1, .int (iI k)), (2, .int (iI i)), (3, .int (iI l)), (4, .ref (sa k)), (5, .int (iI 3))]) rfl ?_
          refine k_aload_n hE dX6_cell_57 0 rfl rfl ?_
          refine k_iload hE dX6_cell_58 5 rfl ?_
          refine x_put_X6_lastFault hE fl_X6_41 dX6_cell_60 ?_
          refine k_st ((uv (uv st.1 9 0) 9 3, st.2)) rfl ?_
          refine k_iload hE dX6_cell_63 5 rfl ?_
          refine k_if_ne hE 79 dX6_cell_65 (by decide) (by unfold in32; omega) (fun c65 => ?_) (fun c65 => ?_)
          · refine k_ldc2 hE cl_X6_167 dX6_cell_79 ?_
            refine k_lret hR dX6_cell_82 rfl ?_
            refine ⟨_, _, rfl, rfl, Or.inr ⟨by omega, ?_, ?_⟩⟩
            · first
                | (refine congrArg (fun zz : Int => ((uv (uv st.1 9 0) 9 zz, st.2) : Sg)) ?_; (repeat (first | omega | split)))
            · first
                | (refine Or.inl ⟨?_, rfl⟩; (repeat (first | omega | split)); done)
                | (refine Or.inr ⟨?_, rfl⟩; (repeat (first | omega | split)); done)
          · refine k_aload hE dX6_cell_68 4 rfl ?_
            refine x_get_X2_cells hE (by omega) (by omega) fl_X6_198 dX6_cell_70 ?_
            refine k_iload_n hE dX6_cell_73 2 rfl rfl ?_
            refine x_ld_cells hE (f := k) (z := st.2 ((20 + Int.toNat k)) i) (by omega) (by omega) (by omega) (by omega) rfl dX6_cell_74 ?_
            have hcc := hS.2 k i (by omega) (by omega) (by omega) (by omega)
            refine k_i2l hE dX6_cell_75 (by unfold in32; omega) ?_
            refine k_goto hE 82 dX6_cell_76 (by decide) ?_
            refine k_lret hR dX6_cell_82 rfl ?_
            refine ⟨_, _, rfl, rfl, Or.inr ⟨by omega, ?_, ?_⟩⟩
            · first
                | (refine congrArg (fun zz : Int => ((uv (uv st.1 9 0) 9 zz, st.2) : Sg)) ?_; (repeat (first | omega | split)))
            · first
                | (refine Or.inl ⟨?_, rfl⟩; (repeat (first | omega | split)); done)
                | (refine Or.inr ⟨?_, rfl⟩; (repeat (first | omega | split)); done)
    · refine k_ldc2 hE cl_X6_167 dX6_cell_19 ?_
      exact k_lret hR dX6_cell_22 rfl ⟨_, _, rfl, rfl, Or.inl ⟨by omega, rfl, rfl⟩⟩

set_option maxHeartbeats 4000000 in
set_option maxRecDepth 100000 in
theorem c_X6_familyTells {ad : Nat → Nat} {ta sa ca : Int → Nat} {D : va_G} {cI cT cS : ClassId} (st : Sg) (f : Int) (h0 : 0 ≤ f) (h1 : f < 6) : MC (xw ad ta sa ca D cI cT cS) yX6_familyTells cX6_familyTells 2 (some .int) { frames := 1, cells := 0, slots := 0, locals := 21 } [.ref (ad 0), .ref (ta f)] st (fun rv u => ∃ S : Sg, rv = some (.int (iI (st.2 2 f))) ∧ u = S ∧ (S.1 8 = 31 * st.1 8 + 1) ∧ (∀ i, i ≠ 8 → S.1 i = st.1 i) ∧ (S.2 = st.2)) := by
  refine MC_intro RX6 (by decide) rfl (Nat.le_of_ble_eq_true rfl) ?_
  intro G H0 m hE hR
  refine k_lo [0, 1] (lo' := [(0, .ref (ad 0)), (1, .ref (ta f))]) rfl ?_
  refine k_aload_n hE dX6_familyTells_0 0 rfl rfl ?_
  refine k_iconst hE dX6_familyTells_1 ?_
  refine k_callV hE (c_X6_leaveTrace st 1) mf_X6_leaveTrace ml_X6_220 0 rfl rfl rfl rfl ⟨rfl, rfl, Nat.le_of_ble_eq_true rfl, Nat.le_of_ble_eq_true rfl⟩ [] (Nat.le_of_ble_eq_true rfl) dX6_familyTells_2 rfl (fun rv u hp => ?_)
  obtain ⟨hv2, hu2⟩ := hp
  refine k_sk (sk' := []) (by rw [hv2]; rfl) ?_
  refine k_st ((uv st.1 8 (31 * st.1 8 + 1), st.2)) hu2 ?_
  refine k_aload_n hE dX6_familyTells_5 1 rfl rfl ?_
  refine x_get_X3_need hE (z := st.2 2 f) (by omega) (by omega) rfl fl_X6_94 dX6_familyTells_6 ?_
  exact k_iret hR dX6_familyTells_9 rfl ⟨_, rfl, rfl, rfl, fun i hi => uv_n _ _ hi, rfl⟩

set_option maxHeartbeats 4000000 in
set_option maxRecDepth 100000 in
theorem c_X6_greedyTells {ad : Nat → Nat} {ta sa ca : Int → Nat} {D : va_G} {cI cT cS : ClassId} (st : Sg) (f : Int) (h0 : 0 ≤ f) (h1 : f < 6) : MC (xw ad ta sa ca D cI cT cS) yX6_greedyTells cX6_greedyTells 2 (some .int) { frames := 2, cells := 0, slots := 0, locals := 42 } [.ref (ad 0), .ref (ta f)] st (fun rv u => ∃ S : Sg, rv = some (.int (iI (st.2 2 f + 100))) ∧ u = S ∧ (S.1 8 = 31 * (31 * st.1 8 + 2) + 1) ∧ (∀ i, i ≠ 8 → S.1 i = st.1 i) ∧ (S.2 = st.2)) := by
  refine MC_intro RX6 (by decide) rfl (Nat.le_of_ble_eq_true rfl) ?_
  intro G H0 m hE hR
  refine k_lo [0, 1] (lo' := [(0, .ref (ad 0)), (1, .ref (ta f))]) rfl ?_
  refine k_aload_n hE dX6_greedyTells_0 0 rfl rfl ?_
  refine k_iconst hE dX6_greedyTells_1 ?_
  refine k_callV hE (c_X6_leaveTrace st 2) mf_X6_leaveTrace ml_X6_220 0 rfl rfl rfl rfl ⟨rfl, rfl, Nat.le_of_ble_eq_true rfl, Nat.le_of_ble_eq_true rfl⟩ [] (Nat.le_of_ble_eq_true rfl) dX6_greedyTells_2 rfl (fun rv u hp => ?_)
  obtain ⟨hv2, hu2⟩ := hp
  refine k_sk (sk' := []) (by rw [hv2]; rfl) ?_
  refine k_st ((uv st.1 8 (31 * st.1 8 + 2), st.2)) hu2 ?_
  refine k_aload_n hE dX6_greedyTells_5 0 rfl rfl ?_
  refine k_aload_n hE dX6_greedyTells_6 1 rfl rfl ?_
  refine k_callV hE (c_X6_familyTells ((uv st.1 8 (31 * st.1 8 + 2), st.2)) f (by omega) (by omega)) mf_X6_familyTells ml_X6_217 0 rfl rfl rfl rfl ⟨rfl, rfl, Nat.le_of_ble_eq_true rfl, Nat.le_of_ble_eq_true rfl⟩ [] (Nat.le_of_ble_eq_true rfl) dX6_greedyTells_7 rfl (fun rv u hp => ?_)
  obtain ⟨S1, hv7, hu7, t1_7, t2_7, t3_7⟩ := hp
  try dsimp only at t1_7 t2_7 t3_7
  refine k_sk (sk' := [.int (iI (st.2 2 f))]) (by rw [hv7]; rfl) ?_
  refine k_st S1 hu7 ?_
  refine k_bipush hE dX6_greedyTells_10 rfl ?_
  refine k_iadd hE dX6_greedyTells_12 ?_
  exact k_iret hR dX6_greedyTells_13 rfl ⟨S1, rfl, rfl, t1_7, fun i hi => (t2_7 i hi).trans (uv_n _ _ hi), t3_7⟩

set_option maxHeartbeats 4000000 in
set_option maxRecDepth 100000 in
theorem c_X6_oldestTells {ad : Nat → Nat} {ta sa ca : Int → Nat} {D : va_G} {cI cT cS : ClassId} (st : Sg) (f : Int) (h0 : 0 ≤ f) (h1 : f < 6) : MC (xw ad ta sa ca D cI cT cS) yX6_oldestTells cX6_oldestTells 3 (some .int) { frames := 3, cells := 0, slots := 0, locals := 63 } [.ref (ad 0), .ref (ta f)] st (fun rv u => ∃ S : Sg, rv = some (.int (iI ((st.2 2 f + 100) + st.2 2 f))) ∧ u = S ∧ (S.1 8 = 31 * (31 * (31 * (31 * st.1 8 + 3) + 2) + 1) + 1) ∧ (∀ i, i ≠ 8 → S.1 i = st.1 i) ∧ (S.2 = st.2)) := by
  refine MC_intro RX6 (by decide) rfl (Nat.le_of_ble_eq_true rfl) ?_
  intro G H0 m hE hR
  refine k_lo [0, 1] (lo' := [(0, .ref (ad 0)), (1, .ref (ta f))]) rfl ?_
  refine k_aload_n hE dX6_oldestTells_0 0 rfl rfl ?_
  refine k_iconst hE dX6_oldestTells_1 ?_
  refine k_callV hE (c_X6_leaveTrace st 3) mf_X6_leaveTrace ml_X6_220 0 rfl rfl rfl rfl ⟨rfl, rfl, Nat.le_of_ble_eq_true rfl, Nat.le_of_ble_eq_true rfl⟩ [] (Nat.le_of_ble_eq_true rfl) dX6_oldestTells_2 rfl (fun rv u hp => ?_)
  obtain ⟨hv2, hu2⟩ := hp
  refine k_sk (sk' := []) (by rw [hv2]; rfl) ?_
  refine k_st ((uv st.1 8 (31 * st.1 8 + 3), st.2)) hu2 ?_
  refine k_aload_n hE dX6_oldestTells_5 0 rfl rfl ?_
  refine k_aload_n hE dX6_oldestTells_6 1 rfl rfl ?_
  refine k_callV hE (c_X6_greedyTells ((uv st.1 8 (31 * st.1 8 + 3), st.2)) f (by omega) (by omega)) mf_X6_greedyTells ml_X6_214 0 rfl rfl rfl rfl ⟨rfl, rfl, Nat.le_of_ble_eq_true rfl, Nat.le_of_ble_eq_true rfl⟩ [] (Nat.le_of_ble_eq_true rfl) dX6_oldestTells_7 rfl (fun rv u hp => ?_)
  obtain ⟨S1, hv7, hu7, t1_7, t2_7, t3_7⟩ := hp
  try dsimp only at t1_7 t2_7 t3_7
  refine k_sk (sk' := [.int (iI (st.2 2 f + 100))]) (by rw [hv7]; rfl) ?_
  refine k_st S1 hu7 ?_
  refine k_istore_n hE dX6_oldestTells_10 [1, 2, 0] rfl (Nat.le_of_ble_eq_true rfl) (lo' := [(0, .ref (ad 0)), (1, .ref (ta f)), (2, .int (iI (st.2 2 f + 100)))]) rfl ?_
  refine k_iload_n hE dX6_oldestTells_11 2 rfl rfl ?_
  refine k_aload_n hE dX6_oldestTells_12 0 rfl rfl ?_
  refine k_aload_n hE dX6_oldestTells_13 1 rfl rfl ?_
  refine k_callV hE (c_X6_familyTells S1 f (by omega) (by omega)) mf_X6_familyTells ml_X6_217 0 rfl rfl rfl rfl ⟨rfl, rfl, Nat.le_of_ble_eq_true rfl, Nat.le_of_ble_eq_true rfl⟩ [.int (iI (st.2 2 f + 100))] (Nat.le_of_ble_eq_true rfl) dX6_oldestTells_14 rfl (fun rv u hp => ?_)
  obtain ⟨S2, hv14, hu14, t1_14, t2_14, t3_14⟩ := hp
  refine k_sk (sk' := [.int (iI (S1.2 2 f)), .int (iI (st.2 2 f + 100))]) (by rw [hv14]; rfl) ?_
  refine k_st S2 hu14 ?_
  refine k_iadd hE dX6_oldestTells_17 ?_
  refine k_iret hR dX6_oldestTells_18 rfl ?_
  have t1a : S1.1 8 = 31 * (31 * (31 * st.1 8 + 3) + 2) + 1 := t1_7
  have t3a : S1.2 = st.2 := t3_7
  refine ⟨S2, ?_, rfl, by rw [t1_14, t1a], fun i hi => (t2_14 i hi).trans ((t2_7 i hi).trans (uv_n _ _ hi)), t3_14.trans t3_7⟩
  rw [t3a]

set_option maxHeartbeats 4000000 in
set_option maxRecDepth 100000 in
theorem c_X6_tell {ad : Nat → Nat} {ta sa ca : Int → Nat} {D : va_G} {cI cT cS : ClassId} (st : Sg) (Y : Sg) (f : Int) (hA : Ag st Y) (hI : Inv Y) (i_f : -2147483648 ≤ f ∧ f < 2147483648) : MC (xw ad ta sa ca D cI cT cS) yX6_tell cX6_tell 3 (some .int) { frames := 4, cells := 0, slots := 0, locals := 85 } [.ref (ad 0), .int (iI f)] st (fun rv u => ∃ z : Int, ∃ S : Sg, rv = some (.int (iI (z))) ∧ u = S ∧ (((f < 0 ∨ Y.1 0 ≤ f) ∧ z = -1 ∧ S = st) ∨ (¬ (f < 0 ∨ Y.1 0 ≤ f) ∧ Y.2 0 f = 2 ∧ z = 2 * Y.2 2 f + 100 ∧ S.1 8 = 31 * (31 * (31 * (31 * st.1 8 + 3) + 2) + 1) + 1 ∧ (∀ i, i ≠ 8 → S.1 i = st.1 i) ∧ S.2 = st.2) ∨ (¬ (f < 0 ∨ Y.1 0 ≤ f) ∧ Y.2 0 f = 1 ∧ z = Y.2 2 f + 100 ∧ S.1 8 = 31 * (31 * st.1 8 + 2) + 1 ∧ (∀ i, i ≠ 8 → S.1 i = st.1 i) ∧ S.2 = st.2) ∨ (¬ (f < 0 ∨ Y.1 0 ≤ f) ∧ Y.2 0 f ≠ 2 ∧ Y.2 0 f ≠ 1 ∧ z = Y.2 2 f ∧ S.1 8 = 31 * st.1 8 + 1 ∧ (∀ i, i ≠ 8 → S.1 i = st.1 i) ∧ S.2 = st.2))) := by
  refine MC_intro RX6 (by decide) rfl (Nat.le_of_ble_eq_true rfl) ?_
  intro G H0 m hE hR
  refine k_lo [0, 1] (lo' := [(0, .ref (ad 0)), (1, .int (iI f))]) rfl ?_
  obtain ⟨hi0, hi1, hi2, hi3, hi4, hi5, hi6, hi7, hit, hir, him, hin⟩ := id hI
  refine k_aload_n hE dX6_tell_0 0 rfl rfl ?_
  refine k_iload_n hE dX6_tell_1 1 rfl rfl ?_
  refine k_callV hE (c_X6_noTap st Y f hA hI (by omega)) mf_X6_noTap ml_X6_79 0 rfl rfl rfl rfl ⟨rfl, rfl, Nat.le_of_ble_eq_true rfl, Nat.le_of_ble_eq_true rfl⟩ [] (Nat.le_of_ble_eq_true rfl) dX6_tell_2 rfl (fun rv u hp => ?_)
  obtain ⟨z1, hv2, hu2, hz_2⟩ := hp
  refine k_sk (sk' := [.int (iI z1)]) (by rw [hv2]; rfl) ?_
  refine k_st st hu2 ?_
  refine k_if_eq hE 10 dX6_tell_5 (by decide) (by unfold in32; omega) (fun c5 => ?_) (fun c5 => ?_)
  · refine k_aload_n hE dX6_tell_10 0 rfl rfl ?_
    refine x_get_X6_yard hE fl_X6_12 dX6_tell_11 ?_
    refine x_get_X5_taps hE fl_X6_82 dX6_tell_14 ?_
    refine k_iload_n hE dX6_tell_17 1 rfl rfl ?_
    refine x_ld_taps hE (i := f) (by omega) (by omega) dX6_tell_18 ?_
    refine k_astore_n hE dX6_tell_19 [1, 2, 0] rfl (Nat.le_of_ble_eq_true rfl) (lo' := [(0, .ref (ad 0)), (1, .int (iI f)), (2, .ref (ta f))]) rfl ?_
    have hk := hit f (by omega) (by omega)
    have en : st.2 2 f = Y.2 2 f := congrFun (hA.2 2 (by decide)) f
    refine k_aload_n hE dX6_tell_20 2 rfl rfl ?_
    refine x_get_X3_kind hE (z := Y.2 0 f) (by omega) (by omega) (congrFun (hA.2 0 (by decide)) f) fl_X6_86 dX6_tell_21 ?_
    refine k_iconst hE dX6_tell_24 ?_
    refine k_icmp_ne hE 34 dX6_tell_25 (by decide) (by unfold in32; omega) (by unfold in32; omega) (fun c25 => ?_) (fun c25 => ?_)
    · refine k_aload_n hE dX6_tell_34 2 rfl rfl ?_
      refine x_get_X3_kind hE (z := Y.2 0 f) (by omega) (by omega) (congrFun (hA.2 0 (by decide)) f) fl_X6_86 dX6_tell_35 ?_
      refine k_iconst hE dX6_tell_38 ?_
      refine k_icmp_ne hE 50 dX6_tell_39 (by decide) (by unfold in32; omega) (by unfold in32; omega) (fun c39 => ?_) (fun c39 => ?_)
      · refine k_aload_n hE dX6_tell_50 0 rfl rfl ?_
        refine k_aload_n hE dX6_tell_51 2 rfl rfl ?_
        refine k_callV hE (c_X6_familyTells st f (by omega) (by omega)) mf_X6_familyTells ml_X6_217 0 rfl rfl rfl rfl ⟨rfl, rfl, Nat.le_of_ble_eq_true rfl, Nat.le_of_ble_eq_true rfl⟩ [] (Nat.le_of_ble_eq_true rfl) dX6_tell_52 rfl (fun rv u hp => ?_)
        obtain ⟨S1, hv52, hu52, t1_52, t2_52, t3_52⟩ := hp
        refine k_sk (sk' := [.int (iI (st.2 2 f))]) (by rw [hv52]; rfl) ?_
        refine k_st S1 hu52 ?_
        refine k_iret hR dX6_tell_55 rfl ?_
        first
          | exact ⟨_, S1, rfl, rfl, Or.inr (Or.inr (Or.inl ⟨by omega, by omega, by omega, t1_44, t2_44, t3_44⟩))⟩
          | exact ⟨_, S1, rfl, rfl, Or.inr (Or.inr (Or.inr ⟨by omega, by omega, by omega, by omega, t1_52, t2_52, t3_52⟩))⟩
      · refine k_aload_n hE dX6_tell_42 0 rfl rfl ?_
        refine k_aload_n hE dX6_tell_43 2 rfl rfl ?_
        refine k_callV hE (c_X6_greedyTells st f (by omega) (by omega)) mf_X6_greedyTells ml_X6_214 0 rfl rfl rfl rfl ⟨rfl, rfl, Nat.le_of_ble_eq_true rfl, Nat.le_of_ble_eq_true rfl⟩ [] (Nat.le_of_ble_eq_true rfl) dX6_tell_44 rfl (fun rv u hp => ?_)
        obtain ⟨S1, hv44, hu44, t1_44, t2_44, t3_44⟩ := hp
        refine k_sk (sk' := [.int (iI (st.2 2 f + 100))]) (by rw [hv44]; rfl) ?_
        refine k_st S1 hu44 ?_
        refine k_goto hE 55 dX6_tell_47 (by decide) ?_
        refine k_iret hR dX6_tell_55 rfl ?_
        first
          | exact ⟨_, S1, rfl, rfl, Or.inr (Or.inr (Or.inl ⟨by omega, by omega, by omega, t1_44, t2_44, t3_44⟩))⟩
          | exact ⟨_, S1, rfl, rfl, Or.inr (Or.inr (Or.inr ⟨by omega, by omega, by omega, by omega, t1_52, t2_52, t3_52⟩))⟩
    · refine k_aload_n hE dX6_tell_28 0 rfl rfl ?_
      refine k_aload_n hE dX6_tell_29 2 rfl rfl ?_
      refine k_callV hE (c_X6_oldestTells st f (by omega) (by omega)) mf_X6_oldestTells ml_X6_210 0 rfl rfl rfl rfl ⟨rfl, rfl, Nat.le_of_ble_eq_true rfl, Nat.le_of_ble_eq_true rfl⟩ [] (Nat.le_of_ble_eq_true rfl) dX6_tell_30 rfl (fun rv u hp => ?_)
      obtain ⟨S1, hv30, hu30, t1_30, t2_30, t3_30⟩ := hp
      refine k_sk (sk' := [.int (iI ((st.2 2 f + 100) + st.2 2 f))]) (by rw [hv30]; rfl) ?_
      refine k_st S1 hu30 ?_
      exact k_iret hR dX6_tell_33 rfl ⟨_, S1, rfl, rfl, Or.inr (Or.inl ⟨by omega, by omega, by omega, t1_30, t2_30, t3_30⟩)⟩
  · refine k_iconst hE dX6_tell_8 ?_
    exact k_iret hR dX6_tell_9 rfl ⟨_, _, rfl, rfl, Or.inl ⟨by omega, rfl, rfl⟩⟩

set_option maxHeartbeats 4000000 in
set_option maxRecDepth 100000 in
theorem c_X6_knock {ad : Nat → Nat} {ta sa ca : Int → Nat} {D : va_G} {cI cT cS : ClassId} (st : Sg) (Y : Sg) (f : Int) (hA : Ag st Y) (hI : Inv Y) (i_f : -2147483648 ≤ f ∧ f < 2147483648) : MC (xw ad ta sa ca D cI cT cS) yX6_knock cX6_knock 2 (some .int) { frames := 1, cells := 0, slots := 0, locals := 21 } [.ref (ad 0), .int (iI f)] st (fun rv u => ∃ z : Int, ∃ S : Sg, rv = some (.int (iI (z))) ∧ u = S ∧ (((f < 0 ∨ Y.1 0 ≤ f) ∧ z = -1 ∧ S = st) ∨ (¬ (f < 0 ∨ Y.1 0 ≤ f) ∧ Y.2 0 f = 2 ∧ z = 70 ∧ S = (uv st.1 8 (31 * st.1 8 + 5), st.2)) ∨ (¬ (f < 0 ∨ Y.1 0 ≤ f) ∧ Y.2 0 f ≠ 2 ∧ z = f ∧ S = (uv st.1 8 (31 * st.1 8 + 4), st.2)))) := by
  refine MC_intro RX6 (by decide) rfl (Nat.le_of_ble_eq_true rfl) ?_
  intro G H0 m hE hR
  refine k_lo [0, 1] (lo' := [(0, .ref (ad 0)), (1, .int (iI f))]) rfl ?_
  obtain ⟨hi0, hi1, hi2, hi3, hi4, hi5, hi6, hi7, hit, hir, him, hin⟩ := id hI
  refine k_aload_n hE dX6_knock_0 0 rfl rfl ?_
  refine k_iload_n hE dX6_knock_1 1 rfl rfl ?_
  refine k_callV hE (c_X6_noTap st Y f hA hI (by omega)) mf_X6_noTap ml_X6_79 0 rfl rfl rfl rfl ⟨rfl, rfl, Nat.le_of_ble_eq_true rfl, Nat.le_of_ble_eq_true rfl⟩ [] (Nat.le_of_ble_eq_true rfl) dX6_knock_2 rfl (fun rv u hp => ?_)
  obtain ⟨z1, hv2, hu2, hz_2⟩ := hp
  refine k_sk (sk' := [.int (iI z1)]) (by rw [hv2]; rfl) ?_
  refine k_st st hu2 ?_
  refine k_if_eq hE 10 dX6_knock_5 (by decide) (by unfold in32; omega) (fun c5 => ?_) (fun c5 => ?_)
  · refine k_aload_n hE dX6_knock_10 0 rfl rfl ?_
    refine x_get_X6_yard hE fl_X6_12 dX6_knock_11 ?_
    refine x_get_X5_taps hE fl_X6_82 dX6_knock_14 ?_
    have hk := hit f (by omega) (by omega)
    refine k_iload_n hE dX6_knock_17 1 rfl rfl ?_
    refine x_ld_taps hE (i := f) (by omega) (by omega) dX6_knock_18 ?_
    refine x_get_X3_kind hE (z := Y.2 0 f) (by omega) (by omega) (congrFun (hA.2 0 (by decide)) f) fl_X6_86 dX6_knock_19 ?_
    refine k_iconst hE dX6_knock_22 ?_
    refine k_icmp_ne hE 34 dX6_knock_23 (by decide) (by unfold in32; omega) (by unfold in32; omega) (fun c23 => ?_) (fun c23 => ?_)
    · refine k_aload_n hE dX6_knock_34 0 rfl rfl ?_
      refine k_iconst hE dX6_knock_35 ?_
      refine k_callV hE (c_X6_leaveTrace st 4) mf_X6_leaveTrace ml_X6_220 0 rfl rfl rfl rfl ⟨rfl, rfl, Nat.le_of_ble_eq_true rfl, Nat.le_of_ble_eq_true rfl⟩ [] (Nat.le_of_ble_eq_true rfl) dX6_knock_36 rfl (fun rv u hp => ?_)
      obtain ⟨hv36, hu36⟩ := hp
      refine k_sk (sk' := []) (by rw [hv36]; rfl) ?_
      refine k_st ((uv st.1 8 (31 * st.1 8 + 4), st.2)) hu36 ?_
      refine k_iload_n hE dX6_knock_39 1 rfl rfl ?_
      exact k_iret hR dX6_knock_40 rfl ⟨_, _, rfl, rfl, Or.inr (Or.inr (⟨by omega, by omega, rfl, rfl⟩))⟩
    · refine k_aload_n hE dX6_knock_26 0 rfl rfl ?_
      refine k_iconst hE dX6_knock_27 ?_
      refine k_callV hE (c_X6_leaveTrace st 5) mf_X6_leaveTrace ml_X6_220 0 rfl rfl rfl rfl ⟨rfl, rfl, Nat.le_of_ble_eq_true rfl, Nat.le_of_ble_eq_true rfl⟩ [] (Nat.le_of_ble_eq_true rfl) dX6_knock_28 rfl (fun rv u hp => ?_)
      obtain ⟨hv28, hu28⟩ := hp
      refine k_sk (sk' := []) (by rw [hv28]; rfl) ?_
      refine k_st ((uv st.1 8 (31 * st.1 8 + 5), st.2)) hu28 ?_
      refine k_bipush hE dX6_knock_31 rfl ?_
      exact k_iret hR dX6_knock_33 rfl ⟨_, _, rfl, rfl, Or.inr (Or.inl ⟨by omega, by omega, rfl, rfl⟩)⟩
  · refine k_iconst hE dX6_knock_8 ?_
    exact k_iret hR dX6_knock_9 rfl ⟨_, _, rfl, rfl, Or.inl ⟨by omega, rfl, rfl⟩⟩

set_option maxHeartbeats 4000000 in
set_option maxRecDepth 100000 in
theorem c_X6_as {ad : Nat → Nat} {ta sa ca : Int → Nat} {D : va_G} {cI cT cS : ClassId} (st : Sg) (Y : Sg) (f : Int) (x : Int) (hA : Ag st Y) (hI : Inv Y) (i_f : -2147483648 ≤ f ∧ f < 2147483648) (i_x : -2147483648 ≤ x ∧ x < 2147483648) : MC (xw ad ta sa ca D cI cT cS) yX6_as cX6_as 3 (some .int) { frames := 1, cells := 0, slots := 0, locals := 22 } [.ref (ad 0), .int (iI f), .int (iI x)] st (fun rv u => ∃ z : Int, ∃ S : Sg, rv = some (.int (iI (z))) ∧ u = S ∧ (((f < 0 ∨ Y.1 0 ≤ f) ∧ z = -1 ∧ S = (uv st.1 9 0, st.2)) ∨ (¬ (f < 0 ∨ Y.1 0 ≤ f) ∧ (x < 0 ∨ 2 < x) ∧ z = -2 ∧ S = (uv st.1 9 0, st.2)) ∨ (¬ (f < 0 ∨ Y.1 0 ≤ f) ∧ ¬ (x < 0 ∨ 2 < x) ∧ Y.2 0 f < x ∧ z = -12 ∧ S = (uv (uv st.1 9 0) 9 2, st.2)) ∨ (¬ (f < 0 ∨ Y.1 0 ≤ f) ∧ ¬ (x < 0 ∨ 2 < x) ∧ ¬ Y.2 0 f < x ∧ z = 1 ∧ S = (uv st.1 9 0, st.2)))) := by
  refine MC_intro RX6 (by decide) rfl (Nat.le_of_ble_eq_true rfl) ?_
  intro G H0 m hE hR
  refine k_lo [0, 1, 2] (lo' := [(0, .ref (ad 0)), (1, .int (iI f)), (2, .int (iI x))]) rfl ?_
  obtain ⟨hi0, hi1, hi2, hi3, hi4, hi5, hi6, hi7, hit, hir, him, hin⟩ := id hI
  refine k_aload_n hE dX6_as_0 0 rfl rfl ?_
  refine k_iconst hE dX6_as_1 ?_
  refine x_put_X6_lastFault hE fl_X6_41 dX6_as_2 ?_
  refine k_st ((uv st.1 9 0, st.2)) rfl ?_
  refine k_aload_n hE dX6_as_5 0 rfl rfl ?_
  refine k_iload_n hE dX6_as_6 1 rfl rfl ?_
  refine k_callV hE (c_X6_noTap ((uv st.1 9 0, st.2)) Y f (show Ag _ _ from ⟨fun i hi => by have e := hA.1 i hi; rcases i with _ | _ | _ | _ | _ | _ | _ | _ | i <;> first | exact e | omega, fun a ha => by have e := hA.2 a ha; rcases a with _ | _ | _ | _ | _ | _ | _ | a <;> first | exact e | omega⟩) hI (by omega)) mf_X6_noTap ml_X6_79 0 rfl rfl rfl rfl ⟨rfl, rfl, Nat.le_of_ble_eq_true rfl, Nat.le_of_ble_eq_true rfl⟩ [] (Nat.le_of_ble_eq_true rfl) dX6_as_7 rfl (fun rv u hp => ?_)
  obtain ⟨z1, hv7, hu7, hz_7⟩ := hp
  try dsimp only at hz_7
  refine k_sk (sk' := [.int (iI z1)]) (by rw [hv7]; rfl) ?_
  refine k_st ((uv st.1 9 0, st.2)) hu7 ?_
  refine k_if_eq hE 15 dX6_as_10 (by decide) (by unfold in32; omega) (fun c10 => ?_) (fun c10 => ?_)
  · refine k_iconst hE dX6_as_15 ?_
    refine k_iload_n hE dX6_as_16 2 rfl rfl ?_
    refine k_iconst hE dX6_as_17 ?_
    refine k_callS hE (c_X6_isNot ((uv st.1 9 0, st.2)) 0 x 2 (by omega) (by omega) (by omega)) ms_X6_isNot ml_X6_104 rfl ⟨rfl, rfl, Nat.le_of_ble_eq_true rfl, Nat.le_of_ble_eq_true rfl⟩ [] (Nat.le_of_ble_eq_true rfl) dX6_as_18 rfl (fun rv u hp => ?_)
    obtain ⟨z2, hv18, hu18, hz_18⟩ := hp
    try dsimp only at hz_18
    refine k_sk (sk' := [.int (iI z2)]) (by rw [hv18]; rfl) ?_
    refine k_st ((uv st.1 9 0, st.2)) hu18 ?_
    refine k_if_eq hE 27 dX6_as_21 (by decide) (by unfold in32; omega) (fun c21 => ?_) (fun c21 => ?_)
    · refine k_aload_n hE dX6_as_27 0 rfl rfl ?_
      refine x_get_X6_yard hE fl_X6_12 dX6_as_28 ?_
      have hk := hit f (by omega) (by omega)
      refine x_get_X5_taps hE fl_X6_82 dX6_as_31 ?_
      refine k_iload_n hE dX6_as_34 1 rfl rfl ?_
      refine x_ld_taps hE (i := f) (by omega) (by omega) dX6_as_35 ?_
      refine x_get_X3_kind hE (z := Y.2 0 f) (by omega) (by omega) (congrFun (hA.2 0 (by decide)) f) fl_X6_86 dX6_as_36 ?_
      refine k_iload_n hE dX6_as_39 2 rfl rfl ?_
      refine k_icmp_ge hE 51 dX6_as_40 (by decide) (by unfold in32; omega) (by unfold in32; omega) (fun c40 => ?_) (fun c40 => ?_)
      · refine k_iconst hE dX6_as_51 ?_
        refine k_iret hR dX6_as_52 rfl ?_
        first | exact ⟨_, _, rfl, rfl, Or.inr (Or.inr (Or.inl ⟨by omega, by omega, by omega, rfl, rfl⟩))⟩ | exact ⟨_, _, rfl, rfl, Or.inr (Or.inr (Or.inr (⟨by omega, by omega, by omega, rfl, rfl⟩)))⟩
      · refine k_aload_n hE dX6_as_43 0 rfl rfl ?_
        refine k_iconst hE dX6_as_44 ?_
        refine k_callV hE (c_X6_failBy ((uv st.1 9 0, st.2)) 2) mf_X6_failBy ml_X6_60 0 rfl rfl rfl rfl ⟨rfl, rfl, Nat.le_of_ble_eq_true rfl, Nat.le_of_ble_eq_true rfl⟩ [] (Nat.le_of_ble_eq_true rfl) dX6_as_45 rfl (fun rv u hp => ?_)
        obtain ⟨hv45, hu45⟩ := hp
        refine k_sk (sk' := [.int (iI (-10 - 2))]) (by rw [hv45]; rfl) ?_
        refine k_st ((uv (uv st.1 9 0) 9 2, st.2)) hu45 ?_
        refine k_goto hE 52 dX6_as_48 (by decide) ?_
        refine k_iret hR dX6_as_52 rfl ?_
        first | exact ⟨_, _, rfl, rfl, Or.inr (Or.inr (Or.inl ⟨by omega, by omega, by omega, rfl, rfl⟩))⟩ | exact ⟨_, _, rfl, rfl, Or.inr (Or.inr (Or.inr (⟨by omega, by omega, by omega, rfl, rfl⟩)))⟩
    · refine k_bipush hE dX6_as_24 rfl ?_
      exact k_iret hR dX6_as_26 rfl ⟨_, _, rfl, rfl, Or.inr (Or.inl ⟨by omega, by omega, rfl, rfl⟩)⟩
  · refine k_iconst hE dX6_as_13 ?_
    exact k_iret hR dX6_as_14 rfl ⟨_, _, rfl, rfl, Or.inl ⟨by omega, rfl, rfl⟩⟩

set_option maxHeartbeats 4000000 in
set_option maxRecDepth 100000 in
theorem c_X6_trace {ad : Nat → Nat} {ta sa ca : Int → Nat} {D : va_G} {cI cT cS : ClassId} (st : Sg)  : MC (xw ad ta sa ca D cI cT cS) yX6_trace cX6_trace 1 (some .int) { frames := 0, cells := 0, slots := 0, locals := 0 } [.ref (ad 0)] st (fun rv u => rv = some (.int (iI (st.1 8))) ∧ u = st) := by
  refine MC_intro RX6 (by decide) rfl (Nat.le_of_ble_eq_true rfl) ?_
  intro G H0 m hE hR
  refine k_lo [0] (lo' := [(0, .ref (ad 0))]) rfl ?_
  refine k_aload_n hE dX6_trace_0 0 rfl rfl ?_
  refine x_get_X6_traceLeft hE (z := st.1 8) rfl fl_X6_223 dX6_trace_1 ?_
  exact k_iret hR dX6_trace_4 rfl ⟨rfl, rfl⟩

set_option maxHeartbeats 4000000 in
set_option maxRecDepth 100000 in
theorem c_X6_fault {ad : Nat → Nat} {ta sa ca : Int → Nat} {D : va_G} {cI cT cS : ClassId} (st : Sg)  : MC (xw ad ta sa ca D cI cT cS) yX6_fault cX6_fault 1 (some .int) { frames := 0, cells := 0, slots := 0, locals := 0 } [.ref (ad 0)] st (fun rv u => rv = some (.int (iI (st.1 9))) ∧ u = st) := by
  refine MC_intro RX6 (by decide) rfl (Nat.le_of_ble_eq_true rfl) ?_
  intro G H0 m hE hR
  refine k_lo [0] (lo' := [(0, .ref (ad 0))]) rfl ?_
  refine k_aload_n hE dX6_fault_0 0 rfl rfl ?_
  refine x_get_X6_lastFault hE (z := st.1 9) rfl fl_X6_41 dX6_fault_1 ?_
  exact k_iret hR dX6_fault_4 rfl ⟨rfl, rfl⟩

set_option maxHeartbeats 4000000 in
set_option maxRecDepth 100000 in
theorem c_X6_many {ad : Nat → Nat} {ta sa ca : Int → Nat} {D : va_G} {cI cT cS : ClassId} (st : Sg) (Y : Sg) (x : Int) (hA : Ag st Y) (hI : Inv Y) (i_x : -2147483648 ≤ x ∧ x < 2147483648) : MC (xw ad ta sa ca D cI cT cS) yX6_many cX6_many 2 (some .int) { frames := 0, cells := 0, slots := 0, locals := 0 } [.ref (ad 0), .int (iI x)] st (fun rv u => rv = some (.int (iI (MN Y x))) ∧ u = st) := by
  refine MC_intro RX6 (by decide) rfl (Nat.le_of_ble_eq_true rfl) ?_
  intro G H0 m hE hR
  refine k_lo [0, 1] (lo' := [(0, .ref (ad 0)), (1, .int (iI x))]) rfl ?_
  obtain ⟨hi0, hi1, hi2, hi3, hi4, hi5, hi6, hi7, hit, hir, him, hin⟩ := id hI
  refine k_iload_n hE dX6_many_0 1 rfl rfl ?_
  by_cases q1 : x < 0 ∨ 4 < x
  · refine k_tabOut hE 76 dX6_many_1 (by unfold in32; omega) q1 (by decide) ?_
    refine k_bipush hE dX6_many_76 rfl ?_
    exact k_iret hR dX6_many_78 rfl ⟨ret_i (by unfold MN; (repeat (first | omega | split))), rfl⟩
  rcases (show x = 0 ∨ x = 1 ∨ x = 2 ∨ x = 3 ∨ x = 4 by omega) with s1 | s1 | s1 | s1 | s1
  · refine k_tabIn hE 36 0 dX6_many_1 s1 (by decide) (by decide) rfl (by decide) ?_
    refine k_aload_n hE dX6_many_36 0 rfl rfl ?_
    refine x_get_X6_yard hE fl_X6_12 dX6_many_37 ?_
    refine x_get_X5_tapCount hE (z := Y.1 0) (hA.1 0 (by decide)) fl_X6_76 dX6_many_40 ?_
    exact k_iret hR dX6_many_43 rfl ⟨ret_i (by unfold MN; (repeat (first | omega | split))), rfl⟩
  · refine k_tabIn hE 44 1 dX6_many_1 s1 (by decide) (by decide) rfl (by decide) ?_
    refine k_aload_n hE dX6_many_44 0 rfl rfl ?_
    refine x_get_X6_yard hE fl_X6_12 dX6_many_45 ?_
    refine x_get_X5_cap hE (z := Y.1 1) (hA.1 1 (by decide)) fl_X6_112 dX6_many_48 ?_
    exact k_iret hR dX6_many_51 rfl ⟨ret_i (by unfold MN; (repeat (first | omega | split))), rfl⟩
  · refine k_tabIn hE 52 2 dX6_many_1 s1 (by decide) (by decide) rfl (by decide) ?_
    refine k_aload_n hE dX6_many_52 0 rfl rfl ?_
    refine x_get_X6_yard hE fl_X6_12 dX6_many_53 ?_
    refine x_get_X5_per hE (z := Y.1 2) (hA.1 2 (by decide)) fl_X6_226 dX6_many_56 ?_
    exact k_iret hR dX6_many_59 rfl ⟨ret_i (by unfold MN; (repeat (first | omega | split))), rfl⟩
  · refine k_tabIn hE 60 3 dX6_many_1 s1 (by decide) (by decide) rfl (by decide) ?_
    refine k_aload_n hE dX6_many_60 0 rfl rfl ?_
    refine x_get_X6_yard hE fl_X6_12 dX6_many_61 ?_
    refine x_get_X5_rule hE (z := Y.1 4) (hA.1 4 (by decide)) fl_X6_125 dX6_many_64 ?_
    exact k_iret hR dX6_many_67 rfl ⟨ret_i (by unfold MN; (repeat (first | omega | split))), rfl⟩
  · refine k_tabIn hE 68 4 dX6_many_1 s1 (by decide) (by decide) rfl (by decide) ?_
    refine k_aload_n hE dX6_many_68 0 rfl rfl ?_
    refine x_get_X6_marks hE fl_X6_30 dX6_many_69 ?_
    refine x_get_X1_count hE (z := Y.1 7) (hA.1 7 (by decide)) fl_X6_73 dX6_many_72 ?_
    exact k_iret hR dX6_many_75 rfl ⟨ret_i (by unfold MN; (repeat (first | omega | split))), rfl⟩
