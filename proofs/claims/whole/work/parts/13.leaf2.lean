set_option maxHeartbeats 4000000 in
set_option maxRecDepth 100000 in
theorem c_X2_makeRow {ad : Nat → Nat} {ta sa ca : Int → Nat} {D : va_G} {cI cT cS : ClassId} (st : Sg) (k : Int) (l : Int) (n : Int) (h0 : 0 ≤ k) (h1 : k < 4) (hn : 0 ≤ n ∧ n ≤ 60) : MC (xw ad ta sa ca D cI cT cS) yX2_makeRow cX2_makeRow 4 none { frames := 0, cells := 0, slots := 0, locals := 0 } [.ref (sa k), .int (iI l), .int (iI n)] st (fun rv u => ∃ S : Sg, rv = none ∧ u = S ∧ (S.1 = st.1) ∧ (∀ a, a ≠ 20 + Int.toNat k → S.2 a = (ur (ur st.2 7 k l) 8 k n) a) ∧ (∀ i : Int, 0 ≤ i → i < n → S.2 (20 + Int.toNat k) i = 0)) := by
  refine MC_intro RX2 (by decide) rfl (Nat.le_of_ble_eq_true rfl) ?_
  intro G H0 m hE hR
  refine k_lo [0, 1, 2] (lo' := [(0, .ref (sa k)), (1, .int (iI l)), (2, .int (iI n))]) rfl ?_
  refine k_aload_n hE dX2_makeRow_0 0 rfl rfl ?_
  refine k_iload_n hE dX2_makeRow_1 1 rfl rfl ?_
  refine x_put_X2_lane hE (by omega) (by omega) fl_X2_15 dX2_makeRow_2 ?_
  refine k_st ((st.1, ur st.2 7 k l)) rfl ?_
  refine k_aload_n hE dX2_makeRow_5 0 rfl rfl ?_
  refine k_iload_n hE dX2_makeRow_6 2 rfl rfl ?_
  refine x_put_X2_size hE (by omega) (by omega) fl_X2_19 dX2_makeRow_7 ?_
  refine k_st ((st.1, ur (ur st.2 7 k l) 8 k n)) rfl ?_
  refine k_iconst hE dX2_makeRow_10 ?_
  refine k_istore_n hE dX2_makeRow_11 [1, 2, 3, 0] rfl (Nat.le_of_ble_eq_true rfl) (lo' := [(0, .ref (sa k)), (1, .int (iI l)), (2, .int (iI n)), (3, .int (iI 0))]) rfl ?_
  have L12 : ∀ (fu12 : Nat) (S : Sg) (i : Int), (0 ≤ i ∧ i ≤ n) → (n - i < fu12) → (S.1 = st.1) → (∀ a, a ≠ 20 + Int.toNat k → S.2 a = (ur (ur st.2 7 k l) 8 k n) a) → (∀ j : Int, 0 ≤ j → j < i → S.2 (20 + Int.toNat k) j = 0) → KW (xw ad ta sa ca D cI cT cS) G H0 m 4 S 12 [(0, .ref (sa k)), (1, .int (iI l)), (2, .int (iI n)), (3, .int (iI i))] [] := by
    intro fu12
    induction fu12 with
    | zero =>
      intro S i q0 q1 e1 e2 e3
      omega
    | succ fu12 ih12 =>
      intro S i q0 q1 e1 e2 e3
      refine k_iload_n hE dX2_makeRow_12 3 rfl rfl ?_
      refine k_iload_n hE dX2_makeRow_13 2 rfl rfl ?_
      refine k_icmp_ge hE 30 dX2_makeRow_14 (by decide) (by unfold in32; omega) (by unfold in32; omega) (fun c14 => ?_) (fun c14 => ?_)
      · exact k_vret hR dX2_makeRow_30 rfl ⟨S, rfl, rfl, e1, e2, fun i h1 h2 => e3 i h1 (by omega)⟩
      · refine k_aload_n hE dX2_makeRow_17 0 rfl rfl ?_
        refine x_get_X2_cells hE (by omega) (by omega) fl_X2_9 dX2_makeRow_18 ?_
        refine k_iload_n hE dX2_makeRow_21 3 rfl rfl ?_
        refine k_iconst hE dX2_makeRow_22 ?_
        refine x_st_cells hE (f := k) (by omega) (by omega) (by omega) (by omega) dX2_makeRow_23 ?_
        refine k_st ((S.1, ur S.2 (20 + Int.toNat k) i 0)) rfl ?_
        refine k_iinc hE dX2_makeRow_24 3 [1, 2, 3, 0] rfl (Nat.le_of_ble_eq_true rfl) (lo' := [(0, .ref (sa k)), (1, .int (iI l)), (2, .int (iI n)), (3, .int (iI (i + 1)))]) rfl ?_
        refine k_goto hE 12 dX2_makeRow_27 (by decide) ?_
        exact ih12 _ _ (by omega) (by omega) e1 (fun a ha => by show ur S.2 _ i 0 a = _; rw [ur_n _ _ _ ha]; exact e2 a ha) (fun j h1 h2 => by show ur S.2 _ i 0 _ j = 0; rw [ur_c]; split <;> first | rfl | exact e3 j h1 (by omega))
  exact L12 61 _ 0 (by omega) (by omega) rfl (fun a _ => rfl) (fun j h1 h2 => by omega)

set_option maxHeartbeats 4000000 in
set_option maxRecDepth 100000 in
theorem c_X4_digitAt {ad : Nat → Nat} {ta sa ca : Int → Nat} {D : va_G} {cI cT cS : ClassId} (st : Sg) (k : Int) (q : Int) (h0 : 0 ≤ k) (h1 : k < 4) (ha : 0 ≤ q ∧ q < 60) : MC (xw ad ta sa ca D cI cT cS) yX4_digitAt cX4_digitAt 2 (some .int) { frames := 0, cells := 0, slots := 0, locals := 0 } [.ref (sa k), .int (iI q)] st (fun rv u => rv = some (.int (iI (st.2 (20 + Int.toNat k) q - 48))) ∧ u = st) := by
  refine MC_intro RX4 (by decide) rfl (Nat.le_of_ble_eq_true rfl) ?_
  intro G H0 m hE hR
  refine k_lo [0, 1] (lo' := [(0, .ref (sa k)), (1, .int (iI q))]) rfl ?_
  refine k_aload_n hE dX4_digitAt_0 0 rfl rfl ?_
  refine x_get_X2_cells hE (by omega) (by omega) fl_X4_9 dX4_digitAt_1 ?_
  refine k_iload_n hE dX4_digitAt_4 1 rfl rfl ?_
  refine x_ld_cells hE (f := k) (z := st.2 ((20 + Int.toNat k)) q) (by omega) (by omega) (by omega) (by omega) rfl dX4_digitAt_5 ?_
  refine k_bipush hE dX4_digitAt_6 rfl ?_
  refine k_isub hE dX4_digitAt_8 ?_
  exact k_iret hR dX4_digitAt_9 rfl ⟨rfl, rfl⟩

set_option maxHeartbeats 4000000 in
set_option maxRecDepth 100000 in
theorem c_X1_addOne {ad : Nat → Nat} {ta sa ca : Int → Nat} {D : va_G} {cI cT cS : ClassId} (st : Sg) (d : Int) (v : Int) (hc : 0 ≤ st.1 7 ∧ st.1 7 < 8) : MC (xw ad ta sa ca D cI cT cS) yX1_addOne cX1_addOne 4 (some .int) { frames := 0, cells := 0, slots := 0, locals := 0 } [.ref (ad 9), .int (iI d), .int (iI v)] st (fun rv u => rv = some (.int (iI (st.1 7))) ∧ u = (uv st.1 7 (st.1 7 + 1), ur (ur st.2 5 (st.1 7) d) 6 (st.1 7) v)) := by
  refine MC_intro RX1 (by decide) rfl (Nat.le_of_ble_eq_true rfl) ?_
  intro G H0 m hE hR
  refine k_lo [0, 1, 2] (lo' := [(0, .ref (ad 9)), (1, .int (iI d)), (2, .int (iI v))]) rfl ?_
  refine k_aload_n hE dX1_addOne_0 0 rfl rfl ?_
  refine x_get_X1_count hE (z := st.1 7) rfl fl_X1_18 dX1_addOne_1 ?_
  refine k_istore_n hE dX1_addOne_4 [1, 2, 3, 0] rfl (Nat.le_of_ble_eq_true rfl) (lo' := [(0, .ref (ad 9)), (1, .int (iI d)), (2, .int (iI v)), (3, .int (iI (st.1 7)))]) rfl ?_
  refine k_aload_n hE dX1_addOne_5 0 rfl rfl ?_
  refine x_get_X1_day hE fl_X1_9 dX1_addOne_6 ?_
  refine k_iload_n hE dX1_addOne_9 3 rfl rfl ?_
  refine k_iload_n hE dX1_addOne_10 1 rfl rfl ?_
  refine x_st_mday hE (by omega) (by omega) dX1_addOne_11 ?_
  refine k_st ((st.1, ur st.2 5 (st.1 7) d)) rfl ?_
  refine k_aload_n hE dX1_addOne_12 0 rfl rfl ?_
  refine x_get_X1_height hE fl_X1_15 dX1_addOne_13 ?_
  refine k_iload_n hE dX1_addOne_16 3 rfl rfl ?_
  refine k_iload_n hE dX1_addOne_17 2 rfl rfl ?_
  refine x_st_mheight hE (by omega) (by omega) dX1_addOne_18 ?_
  refine k_st ((st.1, ur (ur st.2 5 (st.1 7) d) 6 (st.1 7) v)) rfl ?_
  refine k_aload_n hE dX1_addOne_19 0 rfl rfl ?_
  refine k_dup hE dX1_addOne_20 rfl ?_
  refine x_get_X1_count hE (z := st.1 7) rfl fl_X1_18 dX1_addOne_21 ?_
  refine k_iconst hE dX1_addOne_24 ?_
  refine k_iadd hE dX1_addOne_25 ?_
  refine x_put_X1_count hE fl_X1_18 dX1_addOne_26 ?_
  refine k_st ((uv st.1 7 ((st.1 7) + 1), ur (ur st.2 5 (st.1 7) d) 6 (st.1 7) v)) rfl ?_
  refine k_iload_n hE dX1_addOne_29 3 rfl rfl ?_
  exact k_iret hR dX1_addOne_30 rfl ⟨rfl, rfl⟩

set_option maxHeartbeats 4000000 in
set_option maxRecDepth 100000 in
theorem c_X5_leaksOut {ad : Nat → Nat} {ta sa ca : Int → Nat} {D : va_G} {cI cT cS : ClassId} (st : Sg) (Y : Sg) (w : Int) (hA : Ag st Y) (hI : Inv Y) (hw : -1000 ≤ w ∧ w ≤ 1000) : MC (xw ad ta sa ca D cI cT cS) yX5_leaksOut cX5_leaksOut 2 (some .int) { frames := 1, cells := 0, slots := 0, locals := 21 } [.ref (ad 1), .int (iI w)] st (fun rv u => rv = some (.int (iI (min (Y.1 6) (max 0 (w - Y.1 5 * Y.1 2))))) ∧ u = st) := by
  refine MC_intro RX5 (by decide) rfl (Nat.le_of_ble_eq_true rfl) ?_
  intro G H0 m hE hR
  refine k_lo [0, 1] (lo' := [(0, .ref (ad 1)), (1, .int (iI w))]) rfl ?_
  obtain ⟨hi0, hi1, hi2, hi3, hi4, hi5, hi6, hi7, hit, hir, him, hin⟩ := id hI
  have hm := mul99 hi5 hi2
  refine k_aload_n hE dX5_leaksOut_0 0 rfl rfl ?_
  refine x_get_X5_leakPails hE (z := Y.1 6) (hA.1 6 (by decide)) fl_X5_74 dX5_leaksOut_1 ?_
  refine k_iconst hE dX5_leaksOut_4 ?_
  refine k_iload_n hE dX5_leaksOut_5 1 rfl rfl ?_
  refine k_aload_n hE dX5_leaksOut_6 0 rfl rfl ?_
  refine x_get_X5_leakHeight hE (z := Y.1 5) (hA.1 5 (by decide)) fl_X5_71 dX5_leaksOut_7 ?_
  refine k_aload_n hE dX5_leaksOut_10 0 rfl rfl ?_
  refine x_get_X5_per hE (z := Y.1 2) (hA.1 2 (by decide)) fl_X5_32 dX5_leaksOut_11 ?_
  refine k_imul hE dX5_leaksOut_14 ?_
  refine k_isub hE dX5_leaksOut_15 ?_
  refine k_max hE ml_X5_77 dX5_leaksOut_16 (by unfold in32; omega) (by unfold in32; omega) (Nat.le_of_ble_eq_true rfl) (Nat.le_of_ble_eq_true rfl) ?_
  refine k_min hE ml_X5_35 dX5_leaksOut_19 (by unfold in32; omega) (by unfold in32; omega) (Nat.le_of_ble_eq_true rfl) (Nat.le_of_ble_eq_true rfl) ?_
  exact k_iret hR dX5_leaksOut_22 rfl ⟨rfl, rfl⟩

set_option maxHeartbeats 4000000 in
set_option maxRecDepth 100000 in
theorem c_X1_lastDay {ad : Nat → Nat} {ta sa ca : Int → Nat} {D : va_G} {cI cT cS : ClassId} (st : Sg) (Y : Sg) (hA : Ag st Y) (hI : Inv Y) : MC (xw ad ta sa ca D cI cT cS) yX1_lastDay cX1_lastDay 3 (some .int) { frames := 1, cells := 0, slots := 0, locals := 21 } [.ref (ad 9)] st (fun rv u => ∃ z : Int, rv = some (.int (iI (z))) ∧ u = st ∧ (0 ≤ z ∧ z ≤ 10) ∧ (∀ k : Int, 0 ≤ k → k < Y.1 7 → Y.2 5 k ≤ z)) := by
  refine MC_intro RX1 (by decide) rfl (Nat.le_of_ble_eq_true rfl) ?_
  intro G H0 m hE hR
  refine k_lo [0] (lo' := [(0, .ref (ad 9))]) rfl ?_
  obtain ⟨hi0, hi1, hi2, hi3, hi4, hi5, hi6, hi7, hit, hir, him, hin⟩ := id hI
  refine k_iconst hE dX1_lastDay_0 ?_
  refine k_istore_n hE dX1_lastDay_1 [1, 0] rfl (Nat.le_of_ble_eq_true rfl) (lo' := [(0, .ref (ad 9)), (1, .int (iI 0))]) rfl ?_
  refine k_iconst hE dX1_lastDay_2 ?_
  refine k_istore_n hE dX1_lastDay_3 [1, 2, 0] rfl (Nat.le_of_ble_eq_true rfl) (lo' := [(0, .ref (ad 9)), (1, .int (iI 0)), (2, .int (iI 0))]) rfl ?_
  have L4 : ∀ (fu4 : Nat) (a : Int) (k : Int), (0 ≤ k ∧ k ≤ Y.1 7) → (Y.1 7 - k < fu4) → (0 ≤ a ∧ a ≤ 10) → (∀ j : Int, 0 ≤ j → j < k → Y.2 5 j ≤ a) → KW (xw ad ta sa ca D cI cT cS) G H0 m 3 st 4 [(0, .ref (ad 9)), (1, .int (iI a)), (2, .int (iI k))] [] := by
    intro fu4
    induction fu4 with
    | zero =>
      intro a k q0 q1 q2 q3
      omega
    | succ fu4 ih4 =>
      intro a k q0 q1 q2 q3
      refine k_iload_n hE dX1_lastDay_4 2 rfl rfl ?_
      refine k_aload_n hE dX1_lastDay_5 0 rfl rfl ?_
      refine x_get_X1_count hE (z := Y.1 7) (hA.1 7 (by decide)) fl_X1_18 dX1_lastDay_6 ?_
      refine k_icmp_ge hE 29 dX1_lastDay_9 (by decide) (by unfold in32; omega) (by unfold in32; omega) (fun c9 => ?_) (fun c9 => ?_)
      · refine k_iload_n hE dX1_lastDay_29 1 rfl rfl ?_
        exact k_iret hR dX1_lastDay_30 rfl ⟨_, rfl, rfl, by omega, fun j h1 h2 => q3 j h1 (by omega)⟩
      · have hk := him k (by omega) (by omega)
        refine k_iload_n hE dX1_lastDay_12 1 rfl rfl ?_
        refine k_aload_n hE dX1_lastDay_13 0 rfl rfl ?_
        refine x_get_X1_day hE fl_X1_9 dX1_lastDay_14 ?_
        refine k_iload_n hE dX1_lastDay_17 2 rfl rfl ?_
        refine x_ld_mday hE (z := Y.2 5 k) (by omega) (by omega) (congrFun (hA.2 5 (by decide)) k) dX1_lastDay_18 ?_
        refine k_max hE ml_X1_22 dX1_lastDay_19 (by unfold in32; omega) (by unfold in32; omega) (Nat.le_of_ble_eq_true rfl) (Nat.le_of_ble_eq_true rfl) ?_
        refine k_istore_n hE dX1_lastDay_22 [1, 0, 2] rfl (Nat.le_of_ble_eq_true rfl) (lo' := [(0, .ref (ad 9)), (1, .int (iI (max a (Y.2 5 k)))), (2, .int (iI k))]) rfl ?_
        refine k_iinc hE dX1_lastDay_23 2 [1, 2, 0] rfl (Nat.le_of_ble_eq_true rfl) (lo' := [(0, .ref (ad 9)), (1, .int (iI (max a (Y.2 5 k)))), (2, .int (iI (k + 1)))]) rfl ?_
        refine k_goto hE 4 dX1_lastDay_26 (by decide) ?_
        exact ih4 _ _ (by omega) (by omega) (by omega) (fun j h1 h2 => by by_cases e : j = k; (subst e; omega); have := q3 j h1 (by omega); omega)
  exact L4 9 0 0 (by omega) (by omega) (by omega) (fun j h1 h2 => by omega)

set_option maxHeartbeats 4000000 in
set_option maxRecDepth 100000 in
theorem c_X1_holdAhead {ad : Nat → Nat} {ta sa ca : Int → Nat} {D : va_G} {cI cT cS : ClassId} (st : Sg) (Y : Sg) (d : Int) (w : Int) (hA : Ag st Y) (hI : Inv Y) (i_d : -2147483648 ≤ d ∧ d < 2147483648) (i_w : -2147483648 ≤ w ∧ w < 2147483648) : MC (xw ad ta sa ca D cI cT cS) yX1_holdAhead cX1_holdAhead 4 (some .boolean) { frames := 0, cells := 0, slots := 0, locals := 0 } [.ref (ad 9), .int (iI d), .int (iI w)] st (fun rv u => ∃ z : Int, rv = some (.int (iI (z))) ∧ u = st ∧ ((z = 1 ∧ (∀ k : Int, 0 ≤ k → k < Y.1 7 → Y.2 5 k = d → Y.2 6 k = w)) ∨ (z = 0 ∧ ¬ (∀ k : Int, 0 ≤ k → k < Y.1 7 → Y.2 5 k = d → Y.2 6 k = w)))) := by
  refine MC_intro RX1 (by decide) rfl (Nat.le_of_ble_eq_true rfl) ?_
  intro G H0 m hE hR
  refine k_lo [0, 1, 2] (lo' := [(0, .ref (ad 9)), (1, .int (iI d)), (2, .int (iI w))]) rfl ?_
  obtain ⟨hi0, hi1, hi2, hi3, hi4, hi5, hi6, hi7, hit, hir, him, hin⟩ := id hI
  refine k_iconst hE dX1_holdAhead_0 ?_
  refine k_istore_n hE dX1_holdAhead_1 [1, 2, 3, 0] rfl (Nat.le_of_ble_eq_true rfl) (lo' := [(0, .ref (ad 9)), (1, .int (iI d)), (2, .int (iI w)), (3, .int (iI 0))]) rfl ?_
  have L2 : ∀ (fu2 : Nat) (k : Int), (0 ≤ k ∧ k ≤ Y.1 7) → (Y.1 7 - k < fu2) → (∀ j : Int, 0 ≤ j → j < k → Y.2 5 j = d → Y.2 6 j = w) → KW (xw ad ta sa ca D cI cT cS) G H0 m 4 st 2 [(0, .ref (ad 9)), (1, .int (iI d)), (2, .int (iI w)), (3, .int (iI k))] [] := by
    intro fu2
    induction fu2 with
    | zero =>
      intro k q0 q1 q3
      omega
    | succ fu2 ih2 =>
      intro k q0 q1 q3
      refine k_iload_n hE dX1_holdAhead_2 3 rfl rfl ?_
      refine k_aload_n hE dX1_holdAhead_3 0 rfl rfl ?_
      refine x_get_X1_count hE (z := Y.1 7) (hA.1 7 (by decide)) fl_X1_18 dX1_holdAhead_4 ?_
      refine k_icmp_ge hE 38 dX1_holdAhead_7 (by decide) (by unfold in32; omega) (by unfold in32; omega) (fun c7 => ?_) (fun c7 => ?_)
      · refine k_iconst hE dX1_holdAhead_38 ?_
        exact k_zret hR dX1_holdAhead_39 rfl (nar_b (by omega)) ⟨_, rfl, rfl, Or.inl ⟨rfl, fun j h1 h2 h3 => q3 j h1 (by omega) h3⟩⟩
      · have hk := him k (by omega) (by omega)
        refine k_aload_n hE dX1_holdAhead_10 0 rfl rfl ?_
        refine x_get_X1_day hE fl_X1_9 dX1_holdAhead_11 ?_
        refine k_iload_n hE dX1_holdAhead_14 3 rfl rfl ?_
        refine x_ld_mday hE (z := Y.2 5 k) (by omega) (by omega) (congrFun (hA.2 5 (by decide)) k) dX1_holdAhead_15 ?_
        refine k_iload_n hE dX1_holdAhead_16 1 rfl rfl ?_
        refine k_icmp_ne hE 32 dX1_holdAhead_17 (by decide) (by unfold in32; omega) (by unfold in32; omega) (fun c17 => ?_) (fun c17 => ?_)
        · refine k_iinc hE dX1_holdAhead_32 3 [1, 2, 3, 0] rfl (Nat.le_of_ble_eq_true rfl) (lo' := [(0, .ref (ad 9)), (1, .int (iI d)), (2, .int (iI w)), (3, .int (iI (k + 1)))]) rfl ?_
          refine k_goto hE 2 dX1_holdAhead_35 (by decide) ?_
          exact ih2 _ (by omega) (by omega) (fun j h1 h2 h3 => by by_cases e : j = k; (subst e; omega); exact q3 j h1 (by omega) h3)
        · refine k_aload_n hE dX1_holdAhead_20 0 rfl rfl ?_
          refine x_get_X1_height hE fl_X1_15 dX1_holdAhead_21 ?_
          refine k_iload_n hE dX1_holdAhead_24 3 rfl rfl ?_
          refine x_ld_mheight hE (z := Y.2 6 k) (by omega) (by omega) (congrFun (hA.2 6 (by decide)) k) dX1_holdAhead_25 ?_
          refine k_iload_n hE dX1_holdAhead_26 2 rfl rfl ?_
          refine k_icmp_eq hE 32 dX1_holdAhead_27 (by decide) (by unfold in32; omega) (by unfold in32; omega) (fun c27 => ?_) (fun c27 => ?_)
          · refine k_iinc hE dX1_holdAhead_32 3 [1, 2, 3, 0] rfl (Nat.le_of_ble_eq_true rfl) (lo' := [(0, .ref (ad 9)), (1, .int (iI d)), (2, .int (iI w)), (3, .int (iI (k + 1)))]) rfl ?_
            refine k_goto hE 2 dX1_holdAhead_35 (by decide) ?_
            exact ih2 _ (by omega) (by omega) (fun j h1 h2 h3 => by by_cases e : j = k; (subst e; omega); exact q3 j h1 (by omega) h3)
          · refine k_iconst hE dX1_holdAhead_30 ?_
            exact k_zret hR dX1_holdAhead_31 rfl (nar_b (by omega)) ⟨_, rfl, rfl, Or.inr ⟨rfl, fun h => by have := h k (by omega) (by omega) (by omega); omega⟩⟩
  exact L2 9 0 (by omega) (by omega) (fun j h1 h2 => by omega)

set_option maxHeartbeats 4000000 in
set_option maxRecDepth 100000 in
theorem c_X5_beneathAllTaps {ad : Nat → Nat} {ta sa ca : Int → Nat} {D : va_G} {cI cT cS : ClassId} (st : Sg) (Y : Sg) (w : Int) (hA : Ag st Y) (hI : Inv Y) (hw : 0 ≤ w ∧ w ≤ 1000) : MC (xw ad ta sa ca D cI cT cS) yX5_beneathAllTaps cX5_beneathAllTaps 4 (some .int) { frames := 1, cells := 0, slots := 0, locals := 23 } [.ref (ad 1), .int (iI w)] st (fun rv u => ∃ z : Int, rv = some (.int (iI (w - z))) ∧ u = st ∧ (0 ≤ z ∧ z ≤ w) ∧ (∀ f : Int, 0 ≤ f → f < Y.1 0 → GV Y f w ≤ z) ∧ (z = 0 ∨ ∃ f : Int, 0 ≤ f ∧ f < Y.1 0 ∧ z = GV Y f w)) := by
  refine MC_intro RX5 (by decide) rfl (Nat.le_of_ble_eq_true rfl) ?_
  intro G H0 m hE hR
  refine k_lo [0, 1] (lo' := [(0, .ref (ad 1)), (1, .int (iI w))]) rfl ?_
  obtain ⟨hi0, hi1, hi2, hi3, hi4, hi5, hi6, hi7, hit, hir, him, hin⟩ := id hI
  refine k_iconst hE dX5_beneathAllTaps_0 ?_
  refine k_istore_n hE dX5_beneathAllTaps_1 [1, 2, 0] rfl (Nat.le_of_ble_eq_true rfl) (lo' := [(0, .ref (ad 1)), (1, .int (iI w)), (2, .int (iI 0))]) rfl ?_
  refine k_iconst hE dX5_beneathAllTaps_2 ?_
  refine k_istore_n hE dX5_beneathAllTaps_3 [1, 2, 3, 0] rfl (Nat.le_of_ble_eq_true rfl) (lo' := [(0, .ref (ad 1)), (1, .int (iI w)), (2, .int (iI 0)), (3, .int (iI 0))]) rfl ?_
  have L4 : ∀ (fu4 : Nat) (a : Int) (f : Int), (0 ≤ f ∧ f ≤ Y.1 0) → (Y.1 0 - f < fu4) → (0 ≤ a ∧ a ≤ w) → (∀ j : Int, 0 ≤ j → j < f → GV Y j w ≤ a) → (a = 0 ∨ ∃ j : Int, 0 ≤ j ∧ j < f ∧ a = GV Y j w) → KW (xw ad ta sa ca D cI cT cS) G H0 m 4 st 4 [(0, .ref (ad 1)), (1, .int (iI w)), (2, .int (iI a)), (3, .int (iI f))] [] := by
    intro fu4
    induction fu4 with
    | zero =>
      intro a f q0 q1 q2 q3 q4
      omega
    | succ fu4 ih4 =>
      intro a f q0 q1 q2 q3 q4
      refine k_iload_n hE dX5_beneathAllTaps_4 3 rfl rfl ?_
      refine k_aload_n hE dX5_beneathAllTaps_5 0 rfl rfl ?_
      refine x_get_X5_tapCount hE (z := Y.1 0) (hA.1 0 (by decide)) fl_X5_41 dX5_beneathAllTaps_6 ?_
      refine k_icmp_ge hE 29 dX5_beneathAllTaps_9 (by decide) (by unfold in32; omega) (by unfold in32; omega) (fun c9 => ?_) (fun c9 => ?_)
      · refine k_iload_n hE dX5_beneathAllTaps_29 1 rfl rfl ?_
        refine k_iload_n hE dX5_beneathAllTaps_30 2 rfl rfl ?_
        refine k_isub hE dX5_beneathAllTaps_31 ?_
        refine k_iret hR dX5_beneathAllTaps_32 rfl ?_
        refine ⟨a, rfl, rfl, by omega, fun j h1 h2 => q3 j h1 (by omega), ?_⟩
        rcases q4 with q4 | ⟨j, j1, j2, j3⟩
        · exact Or.inl q4
        · exact Or.inr ⟨j, j1, by omega, j3⟩
      · have hf := hit f (by omega) (by omega)
        have hm := mul99 hf.2.1 hi2
        have hg : 0 ≤ GV Y f w ∧ GV Y f w ≤ w := by unfold GV; omega
        refine k_iload_n hE dX5_beneathAllTaps_12 2 rfl rfl ?_
        refine k_aload_n hE dX5_beneathAllTaps_13 0 rfl rfl ?_
        refine k_iload_n hE dX5_beneathAllTaps_14 3 rfl rfl ?_
        refine k_iload_n hE dX5_beneathAllTaps_15 1 rfl rfl ?_
        refine k_callV hE (c_X5_givesAt st Y f w hA hI (by omega) (by omega) (by omega)) mf_X5_givesAt ml_X5_80 1 rfl rfl rfl rfl ⟨rfl, rfl, Nat.le_of_ble_eq_true rfl, Nat.le_of_ble_eq_true rfl⟩ [.int (iI a)] (Nat.le_of_ble_eq_true rfl) dX5_beneathAllTaps_16 rfl (fun rv u hp => ?_)
        obtain ⟨hv16, hu16⟩ := hp
        refine k_sk (sk' := [.int (iI (GV Y f w)), .int (iI a)]) (by rw [hv16]; rfl) ?_
        refine k_st st hu16 ?_
        refine k_max hE ml_X5_77 dX5_beneathAllTaps_19 (by unfold in32; omega) (by unfold in32; omega) (Nat.le_of_ble_eq_true rfl) (Nat.le_of_ble_eq_true rfl) ?_
        refine k_istore_n hE dX5_beneathAllTaps_22 [1, 2, 0, 3] rfl (Nat.le_of_ble_eq_true rfl) (lo' := [(0, .ref (ad 1)), (1, .int (iI w)), (2, .int (iI (max a (GV Y f w)))), (3, .int (iI f))]) rfl ?_
        refine k_iinc hE dX5_beneathAllTaps_23 3 [1, 2, 3, 0] rfl (Nat.le_of_ble_eq_true rfl) (lo' := [(0, .ref (ad 1)), (1, .int (iI w)), (2, .int (iI (max a (GV Y f w)))), (3, .int (iI (f + 1)))]) rfl ?_
        refine k_goto hE 4 dX5_beneathAllTaps_26 (by decide) ?_
        refine ih4 _ _ (by omega) (by omega) (by omega) (fun j h1 h2 => by by_cases e : j = f; (subst e; omega); have := q3 j h1 (by omega); omega) ?_
        rcases (show max a (GV Y f w) = a ∨ max a (GV Y f w) = GV Y f w by omega) with e | e
        · rw [e]
          rcases q4 with q4 | ⟨j, j1, j2, j3⟩
          · exact Or.inl q4
          · exact Or.inr ⟨j, j1, by omega, j3⟩
        · rw [e]; exact Or.inr ⟨f, by omega, by omega, rfl⟩
  exact L4 7 0 0 (by omega) (by omega) (by omega) (fun j h1 h2 => by omega) (Or.inl rfl)
