set_option maxHeartbeats 4000000 in
set_option maxRecDepth 100000 in
theorem c_X7_sheet {ad : Nat → Nat} {D : va_G} {cI cZ : ClassId} (st : Sg) (k : Int) (l : Int) (n : Int) (hS : SHm st) (i_k : -2147483648 ≤ k ∧ k < 2147483648) (i_l : -2147483648 ≤ l ∧ l < 2147483648) (i_n : -2147483648 ≤ n ∧ n < 2147483648) : MC (mw ad D cI cZ) yX7_sheet cX7_sheet 5 (some .int) { frames := 2, cells := 0, slots := 0, locals := 42 } [.ref (ad 0), .int (iI k), .int (iI l), .int (iI n)] st (fun rv u => ∃ z : Int, ∃ S : Sg, rv = some (.int (iI (z))) ∧ u = S ∧ (((k < 0 ∨ 3 < k) ∧ z = -1 ∧ S = (uv st.1 9 0, st.2)) ∨ (¬ (k < 0 ∨ 3 < k) ∧ ((l < 0 ∨ 2 < l) ∨ 60 < n) ∧ z = -2 ∧ S = (uv st.1 9 0, st.2)) ∨ (¬ (k < 0 ∨ 3 < k) ∧ ¬ ((l < 0 ∨ 2 < l) ∨ 60 < n) ∧ n < 0 ∧ z = -14 ∧ S = (uv (uv st.1 9 0) 9 4, st.2)) ∨ (¬ (k < 0 ∨ 3 < k) ∧ ¬ ((l < 0 ∨ 2 < l) ∨ 60 < n) ∧ ¬ n < 0 ∧ z = 1 ∧ (S.1 = uv st.1 9 0 ∧ (∀ a, a ≠ 13 → S.2 a = (ur (ur st.2 9 k l) 8 k n) a) ∧ (∀ j : Int, ¬ (60 * k ≤ j ∧ j < 60 * k + 60) → S.2 13 j = st.2 13 j) ∧ (∀ j : Int, 0 ≤ j → j < 60 → S.2 13 (60 * k + j) = 0))))) := by
  refine MC_intro RX7 (by decide) rfl (Nat.le_of_ble_eq_true rfl) ?_
  intro G H0 m hE hR
  refine k_lo [0, 1, 2, 3] (lo' := [(0, .ref (ad 0)), (1, .int (iI k)), (2, .int (iI l)), (3, .int (iI n))]) rfl ?_
  refine k_aload_n hE dX7_sheet_0 0 rfl rfl ?_
  refine k_iconst hE dX7_sheet_1 ?_
  refine m_put_fault hE fl_X7_69 dX7_sheet_2 ?_
  refine k_st ((uv st.1 9 0, st.2)) rfl ?_
  refine k_iload_n hE dX7_sheet_5 1 rfl rfl ?_
  refine k_callS hE (c_X7_isSheet ((uv st.1 9 0, st.2)) k (by omega)) ms_X7_isSheet ml_X7_81 rfl ⟨rfl, rfl, Nat.le_of_ble_eq_true rfl, Nat.le_of_ble_eq_true rfl⟩ [] (Nat.le_of_ble_eq_true rfl) dX7_sheet_6 rfl (fun rv u hp => ?_)
  obtain ⟨z1, hv6, hu6, hz_6⟩ := hp
  try dsimp only at hz_6
  refine k_sk (sk' := [.int (iI z1)]) (by rw [hv6]; rfl) ?_
  refine k_st ((uv st.1 9 0, st.2)) hu6 ?_
  refine k_if_ne hE 14 dX7_sheet_9 (by decide) (by unfold in32; omega) (fun c9 => ?_) (fun c9 => ?_)
  · refine k_iload_n hE dX7_sheet_14 2 rfl rfl ?_
    refine k_callS hE (c_X7_isSort ((uv st.1 9 0, st.2)) l (by omega)) ms_X7_isSort ml_X7_85 rfl ⟨rfl, rfl, Nat.le_of_ble_eq_true rfl, Nat.le_of_ble_eq_true rfl⟩ [] (Nat.le_of_ble_eq_true rfl) dX7_sheet_15 rfl (fun rv u hp => ?_)
    obtain ⟨z2, hv15, hu15, hz_15⟩ := hp
    try dsimp only at hz_15
    refine k_sk (sk' := [.int (iI z2)]) (by rw [hv15]; rfl) ?_
    refine k_st ((uv st.1 9 0, st.2)) hu15 ?_
    refine k_if_eq hE 27 dX7_sheet_18 (by decide) (by unfold in32; omega) (fun c18 => ?_) (fun c18 => ?_)
    · refine k_bipush hE dX7_sheet_27 rfl ?_
      exact k_iret hR dX7_sheet_29 rfl ⟨_, _, rfl, rfl, Or.inr (Or.inl ⟨by omega, by omega, rfl, rfl⟩)⟩
    · refine k_iload_n hE dX7_sheet_21 3 rfl rfl ?_
      refine k_bipush hE dX7_sheet_22 rfl ?_
      refine k_icmp_le hE 30 dX7_sheet_24 (by decide) (by unfold in32; omega) (by unfold in32; omega) (fun c24 => ?_) (fun c24 => ?_)
      · refine k_iload_n hE dX7_sheet_30 3 rfl rfl ?_
        refine k_if_ge hE 40 dX7_sheet_31 (by decide) (by unfold in32; omega) (fun c31 => ?_) (fun c31 => ?_)
        · refine k_aload_n hE dX7_sheet_40 0 rfl rfl ?_
          refine m_get_sorts hE fl_X7_9 dX7_sheet_41 ?_
          refine k_iload_n hE dX7_sheet_44 1 rfl rfl ?_
          refine k_iload_n hE dX7_sheet_45 2 rfl rfl ?_
          refine m_st_sorts hE (by omega) (by omega) dX7_sheet_46 ?_
          refine k_st ((uv st.1 9 0, ur st.2 9 k l)) rfl ?_
          refine k_aload_n hE dX7_sheet_47 0 rfl rfl ?_
          refine m_get_sheetLong hE fl_X7_13 dX7_sheet_48 ?_
          refine k_iload_n hE dX7_sheet_51 1 rfl rfl ?_
          refine k_iload_n hE dX7_sheet_52 3 rfl rfl ?_
          refine m_st_sheetLong hE (by omega) (by omega) dX7_sheet_53 ?_
          refine k_st ((uv st.1 9 0, ur (ur st.2 9 k l) 8 k n)) rfl ?_
          refine k_iconst hE dX7_sheet_54 ?_
          refine k_istore hE dX7_sheet_55 [1, 2, 3, 4, 0] (Nat.le_of_ble_eq_true rfl) (lo' := [(0, .ref (ad 0)), (1, .int (iI k)), (2, .int (iI l)), (3, .int (iI n)), (4, .int (iI 0))]) rfl ?_
          have L57 : ∀ (fu57 : Nat) (S : Sg) (j : Int), (0 ≤ j ∧ j ≤ 60) → (60 - j < fu57) → (S.1 = uv st.1 9 0) → (∀ a, a ≠ 13 → S.2 a = (ur (ur st.2 9 k l) 8 k n) a) → (∀ t : Int, ¬ (60 * k ≤ t ∧ t < 60 * k + 60) → S.2 13 t = st.2 13 t) → (∀ t : Int, 0 ≤ t → t < j → S.2 13 (60 * k + t) = 0) → KW (mw ad D cI cZ) G H0 m 5 S 57 [(0, .ref (ad 0)), (1, .int (iI k)), (2, .int (iI l)), (3, .int (iI n)), (4, .int (iI j))] [] := by
            intro fu57
            induction fu57 with
            | zero =>
              intro S j q0 q1 e1 e2 e3 e4
              omega
            | succ fu57 ih57 =>
              intro S j q0 q1 e1 e2 e3 e4
              refine k_iload hE dX7_sheet_57 4 rfl ?_
              refine k_bipush hE dX7_sheet_59 rfl ?_
              refine k_icmp_ge hE 83 dX7_sheet_61 (by decide) (by unfold in32; omega) (by unfold in32; omega) (fun c61 => ?_) (fun c61 => ?_)
              · refine k_iconst hE dX7_sheet_83 ?_
                exact k_iret hR dX7_sheet_84 rfl ⟨_, S, rfl, rfl, Or.inr (Or.inr (Or.inr ⟨by omega, by omega, by omega, rfl, e1, e2, e3, fun t t0 t1 => e4 t t0 (by omega)⟩))⟩
              · refine k_aload_n hE dX7_sheet_64 0 rfl rfl ?_
                refine m_get_cells hE fl_X7_16 dX7_sheet_65 ?_
                refine k_bipush hE dX7_sheet_68 rfl ?_
                refine k_iload_n hE dX7_sheet_70 1 rfl rfl ?_
                refine k_imul hE dX7_sheet_71 ?_
                refine k_iload hE dX7_sheet_72 4 rfl ?_
                refine k_iadd hE dX7_sheet_74 ?_
                refine k_iconst hE dX7_sheet_75 ?_
                refine m_st_cells hE (by omega) (by omega) dX7_sheet_76 ?_
                refine k_st ((S.1, ur S.2 13 ((60 * k) + j) 0)) rfl ?_
                refine k_iinc hE dX7_sheet_77 4 [1, 2, 3, 4, 0] rfl (Nat.le_of_ble_eq_true rfl) (lo' := [(0, .ref (ad 0)), (1, .int (iI k)), (2, .int (iI l)), (3, .int (iI n)), (4, .int (iI (j + 1)))]) rfl ?_
                refine k_goto hE 57 dX7_sheet_80 (by decide) ?_
                exact ih57 ((S.1, ur S.2 13 ((60 * k) + j) 0)) _ (by omega) (by omega) e1 (fun a ha => by show ur S.2 13 _ _ a = _; rw [ur_n _ _ _ ha]; exact e2 a ha) (fun t ht => by show ur S.2 13 _ _ 13 t = _; rw [ur_o _ _ _ (by omega)]; exact e3 t ht) (fun t t0 t1 => by
                  show ur S.2 13 _ _ 13 _ = 0
                  rw [ur_c]
                  by_cases e : t = j
                  · rw [if_pos (by omega)]
                  · rw [if_neg (by omega)]; exact e4 t t0 (by omega))
          exact L57 61 ((uv st.1 9 0, ur (ur st.2 9 k l) 8 k n)) 0 (by omega) (by omega) rfl (fun a _ => rfl) (fun t _ => rfl) (fun t t0 t1 => by omega)
        · refine k_aload_n hE dX7_sheet_34 0 rfl rfl ?_
          refine k_iconst hE dX7_sheet_35 ?_
          refine k_callV hE (c_X7_fails ((uv st.1 9 0, st.2)) 4) mf_X7_fails ml_X7_92 0 rfl rfl rfl rfl ⟨rfl, rfl, Nat.le_of_ble_eq_true rfl, Nat.le_of_ble_eq_true rfl⟩ [] (Nat.le_of_ble_eq_true rfl) dX7_sheet_36 rfl (fun rv u hp => ?_)
          obtain ⟨hv36, hu36⟩ := hp
          refine k_sk (sk' := [.int (iI (-10 - 4))]) (by rw [hv36]; rfl) ?_
          refine k_st ((uv (uv st.1 9 0) 9 4, st.2)) hu36 ?_
          exact k_iret hR dX7_sheet_39 rfl ⟨_, _, rfl, rfl, Or.inr (Or.inr (Or.inl ⟨by omega, by omega, by omega, rfl, rfl⟩))⟩
      · refine k_bipush hE dX7_sheet_27 rfl ?_
        exact k_iret hR dX7_sheet_29 rfl ⟨_, _, rfl, rfl, Or.inr (Or.inl ⟨by omega, by omega, rfl, rfl⟩)⟩
  · refine k_iconst hE dX7_sheet_12 ?_
    exact k_iret hR dX7_sheet_13 rfl ⟨_, _, rfl, rfl, Or.inl ⟨by omega, rfl, rfl⟩⟩

set_option maxHeartbeats 4000000 in
set_option maxRecDepth 100000 in
theorem c_X7_lose {ad : Nat → Nat} {D : va_G} {cI cZ : ClassId} (st : Sg) (k : Int) (hS : SHm st) (i_k : -2147483648 ≤ k ∧ k < 2147483648) : MC (mw ad D cI cZ) yX7_lose cX7_lose 3 (some .int) { frames := 2, cells := 0, slots := 0, locals := 42 } [.ref (ad 0), .int (iI k)] st (fun rv u => ∃ z : Int, ∃ S : Sg, rv = some (.int (iI (z))) ∧ u = S ∧ (((k < 0 ∨ 3 < k) ∧ z = -1 ∧ S = st) ∨ (¬ (k < 0 ∨ 3 < k) ∧ ((st.2 9 k = -9 ∧ z = 0) ∨ (st.2 9 k ≠ -9 ∧ z = 1)) ∧ S = (st.1, ur st.2 9 k (-9))))) := by
  refine MC_intro RX7 (by decide) rfl (Nat.le_of_ble_eq_true rfl) ?_
  intro G H0 m hE hR
  refine k_lo [0, 1] (lo' := [(0, .ref (ad 0)), (1, .int (iI k))]) rfl ?_
  refine k_iload_n hE dX7_lose_0 1 rfl rfl ?_
  refine k_callS hE (c_X7_isSheet st k (by omega)) ms_X7_isSheet ml_X7_81 rfl ⟨rfl, rfl, Nat.le_of_ble_eq_true rfl, Nat.le_of_ble_eq_true rfl⟩ [] (Nat.le_of_ble_eq_true rfl) dX7_lose_1 rfl (fun rv u hp => ?_)
  obtain ⟨z1, hv1, hu1, hz_1⟩ := hp
  refine k_sk (sk' := [.int (iI z1)]) (by rw [hv1]; rfl) ?_
  refine k_st st hu1 ?_
  refine k_if_ne hE 9 dX7_lose_4 (by decide) (by unfold in32; omega) (fun c4 => ?_) (fun c4 => ?_)
  · have hk := hS.1 k (by omega) (by omega)
    refine k_aload_n hE dX7_lose_9 0 rfl rfl ?_
    refine m_get_sorts hE fl_X7_9 dX7_lose_10 ?_
    refine k_iload_n hE dX7_lose_13 1 rfl rfl ?_
    refine m_ld_sorts hE (z := st.2 9 k) (by omega) (by omega) rfl dX7_lose_14 ?_
    refine k_bipush hE dX7_lose_15 rfl ?_
    refine k_icmp_ne hE 24 dX7_lose_17 (by decide) (by unfold in32; omega) (by unfold in32; omega) (fun c17 => ?_) (fun c17 => ?_)
    · refine k_iconst hE dX7_lose_24 ?_
      refine k_istore_n hE dX7_lose_25 [1, 2, 0] rfl (Nat.le_of_ble_eq_true rfl) (lo' := [(0, .ref (ad 0)), (1, .int (iI k)), (2, .int (iI 1))]) rfl ?_
      refine k_aload_n hE dX7_lose_26 0 rfl rfl ?_
      refine m_get_sorts hE fl_X7_9 dX7_lose_27 ?_
      refine k_iload_n hE dX7_lose_30 1 rfl rfl ?_
      refine k_bipush hE dX7_lose_31 rfl ?_
      refine m_st_sorts hE (by omega) (by omega) dX7_lose_33 ?_
      refine k_st ((st.1, ur st.2 9 k (-9))) rfl ?_
      refine k_iload_n hE dX7_lose_34 2 rfl rfl ?_
      exact k_iret hR dX7_lose_35 rfl ⟨_, _, rfl, rfl, Or.inr ⟨by omega, by omega, rfl⟩⟩
    · refine k_iconst hE dX7_lose_20 ?_
      refine k_goto hE 25 dX7_lose_21 (by decide) ?_
      refine k_istore_n hE dX7_lose_25 [1, 2, 0] rfl (Nat.le_of_ble_eq_true rfl) (lo' := [(0, .ref (ad 0)), (1, .int (iI k)), (2, .int (iI 0))]) rfl ?_
      refine k_aload_n hE dX7_lose_26 0 rfl rfl ?_
      refine m_get_sorts hE fl_X7_9 dX7_lose_27 ?_
      refine k_iload_n hE dX7_lose_30 1 rfl rfl ?_
      refine k_bipush hE dX7_lose_31 rfl ?_
      refine m_st_sorts hE (by omega) (by omega) dX7_lose_33 ?_
      refine k_st ((st.1, ur st.2 9 k (-9))) rfl ?_
      refine k_iload_n hE dX7_lose_34 2 rfl rfl ?_
      exact k_iret hR dX7_lose_35 rfl ⟨_, _, rfl, rfl, Or.inr ⟨by omega, by omega, rfl⟩⟩
  · refine k_iconst hE dX7_lose_7 ?_
    exact k_iret hR dX7_lose_8 rfl ⟨_, _, rfl, rfl, Or.inl ⟨by omega, rfl, rfl⟩⟩

set_option maxHeartbeats 4000000 in
set_option maxRecDepth 100000 in
theorem c_X7_put {ad : Nat → Nat} {D : va_G} {cI cZ : ClassId} (st : Sg) (k : Int) (i : Int) (v : Int) (hS : SHm st) (i_k : -2147483648 ≤ k ∧ k < 2147483648) (i_i : -2147483648 ≤ i ∧ i < 2147483648) (i_v : -2147483648 ≤ v ∧ v < 2147483648) : MC (mw ad D cI cZ) yX7_put cX7_put 4 (some .int) { frames := 2, cells := 0, slots := 0, locals := 42 } [.ref (ad 0), .int (iI k), .int (iI i), .int (iI v)] st (fun rv u => ∃ z : Int, ∃ S : Sg, rv = some (.int (iI (z))) ∧ u = S ∧ (((k < 0 ∨ 3 < k) ∧ z = -1 ∧ S = (uv st.1 9 0, st.2)) ∨ (¬ (k < 0 ∨ 3 < k) ∧ st.2 9 k = -9 ∧ z = -11 ∧ S = (uv (uv st.1 9 0) 9 1, st.2)) ∨ (¬ (k < 0 ∨ 3 < k) ∧ st.2 9 k ≠ -9 ∧ ¬ (0 ≤ i ∧ i ≤ st.2 8 k - 1) ∧ z = -13 ∧ S = (uv (uv st.1 9 0) 9 3, st.2)) ∨ (¬ (k < 0 ∨ 3 < k) ∧ st.2 9 k ≠ -9 ∧ (0 ≤ i ∧ i ≤ st.2 8 k - 1) ∧ z = 1 ∧ S = (uv st.1 9 0, ur st.2 13 (60 * k + i) (CUT (st.2 9 k) v))))) := by
  refine MC_intro RX7 (by decide) rfl (Nat.le_of_ble_eq_true rfl) ?_
  intro G H0 m hE hR
  refine k_lo [0, 1, 2, 3] (lo' := [(0, .ref (ad 0)), (1, .int (iI k)), (2, .int (iI i)), (3, .int (iI v))]) rfl ?_
  refine k_aload_n hE dX7_put_0 0 rfl rfl ?_
  refine k_iconst hE dX7_put_1 ?_
  refine m_put_fault hE fl_X7_69 dX7_put_2 ?_
  refine k_st ((uv st.1 9 0, st.2)) rfl ?_
  refine k_iload_n hE dX7_put_5 1 rfl rfl ?_
  refine k_callS hE (c_X7_isSheet ((uv st.1 9 0, st.2)) k (by omega)) ms_X7_isSheet ml_X7_81 rfl ⟨rfl, rfl, Nat.le_of_ble_eq_true rfl, Nat.le_of_ble_eq_true rfl⟩ [] (Nat.le_of_ble_eq_true rfl) dX7_put_6 rfl (fun rv u hp => ?_)
  obtain ⟨z1, hv6, hu6, hz_6⟩ := hp
  try dsimp only at hz_6
  refine k_sk (sk' := [.int (iI z1)]) (by rw [hv6]; rfl) ?_
  refine k_st ((uv st.1 9 0, st.2)) hu6 ?_
  refine k_if_ne hE 14 dX7_put_9 (by decide) (by unfold in32; omega) (fun c9 => ?_) (fun c9 => ?_)
  · have hk := hS.1 k (by omega) (by omega)
    refine k_aload_n hE dX7_put_14 0 rfl rfl ?_
    refine m_get_sorts hE fl_X7_9 dX7_put_15 ?_
    refine k_iload_n hE dX7_put_18 1 rfl rfl ?_
    refine m_ld_sorts hE (z := st.2 9 k) (by omega) (by omega) rfl dX7_put_19 ?_
    refine k_bipush hE dX7_put_20 rfl ?_
    refine k_icmp_ne hE 31 dX7_put_22 (by decide) (by unfold in32; omega) (by unfold in32; omega) (fun c22 => ?_) (fun c22 => ?_)
    · refine k_iload_n hE dX7_put_31 2 rfl rfl ?_
      refine k_iconst hE dX7_put_32 ?_
      refine k_aload_n hE dX7_put_33 0 rfl rfl ?_
      refine m_get_sheetLong hE fl_X7_13 dX7_put_34 ?_
      refine k_iload_n hE dX7_put_37 1 rfl rfl ?_
      refine m_ld_sheetLong hE (z := st.2 8 k) (by omega) (by omega) rfl dX7_put_38 ?_
      refine k_iconst hE dX7_put_39 ?_
      refine k_isub hE dX7_put_40 ?_
      refine k_callS hE (c_X7_within ((uv st.1 9 0, st.2)) i 0 ((st.2 8 k) - 1) (by omega) (by omega) (by omega)) ms_X7_within ml_X7_74 rfl ⟨rfl, rfl, Nat.le_of_ble_eq_true rfl, Nat.le_of_ble_eq_true rfl⟩ [] (Nat.le_of_ble_eq_true rfl) dX7_put_41 rfl (fun rv u hp => ?_)
      obtain ⟨z2, hv41, hu41, hz_41⟩ := hp
      try dsimp only at hz_41
      refine k_sk (sk' := [.int (iI z2)]) (by rw [hv41]; rfl) ?_
      refine k_st ((uv st.1 9 0, st.2)) hu41 ?_
      refine k_if_ne hE 53 dX7_put_44 (by decide) (by unfold in32; omega) (fun c44 => ?_) (fun c44 => ?_)
      · refine k_aload_n hE dX7_put_53 0 rfl rfl ?_
        refine m_get_cells hE fl_X7_16 dX7_put_54 ?_
        refine k_bipush hE dX7_put_57 rfl ?_
        refine k_iload_n hE dX7_put_59 1 rfl rfl ?_
        refine k_imul hE dX7_put_60 ?_
        refine k_iload_n hE dX7_put_61 2 rfl rfl ?_
        refine k_iadd hE dX7_put_62 ?_
        refine k_aload_n hE dX7_put_63 0 rfl rfl ?_
        refine m_get_sorts hE fl_X7_9 dX7_put_64 ?_
        refine k_iload_n hE dX7_put_67 1 rfl rfl ?_
        refine m_ld_sorts hE (z := st.2 9 k) (by omega) (by omega) rfl dX7_put_68 ?_
        refine k_if_ne hE 77 dX7_put_69 (by decide) (by unfold in32; omega) (fun c69 => ?_) (fun c69 => ?_)
        · refine k_aload_n hE dX7_put_77 0 rfl rfl ?_
          refine m_get_sorts hE fl_X7_9 dX7_put_78 ?_
          refine k_iload_n hE dX7_put_81 1 rfl rfl ?_
          refine m_ld_sorts hE (z := st.2 9 k) (by omega) (by omega) rfl dX7_put_82 ?_
          refine k_iconst hE dX7_put_83 ?_
          refine k_icmp_ne hE 92 dX7_put_84 (by decide) (by unfold in32; omega) (by unfold in32; omega) (fun c84 => ?_) (fun c84 => ?_)
          · refine k_iload_n hE dX7_put_92 3 rfl rfl ?_
            refine k_sk (sk' := [.int (iI (CUT (st.2 9 k) v)), .int (iI ((60 * k) + i)), .ref (ad 3)]) (congrArg (fun zz : Int => ([.int (iI zz), .int (iI ((60 * k) + i)), .ref (ad 3)] : List Value)) (show (v) = (CUT (st.2 9 k) v) from (by unfold CUT; (repeat (first | omega | split))))) ?_
            refine m_st_cells hE (by omega) (by omega) dX7_put_93 ?_
            refine k_st ((uv st.1 9 0, ur st.2 13 ((60 * k) + i) (CUT (st.2 9 k) v))) rfl ?_
            refine k_iconst hE dX7_put_94 ?_
            exact k_iret hR dX7_put_95 rfl ⟨_, _, rfl, rfl, Or.inr (Or.inr (Or.inr (⟨by omega, by omega, by omega, rfl, rfl⟩)))⟩
          · refine k_iload_n hE dX7_put_87 3 rfl rfl ?_
            refine k_i2s hE dX7_put_88 ?_
            refine k_goto hE 93 dX7_put_89 (by decide) ?_
            refine k_sk (sk' := [.int (iI (CUT (st.2 9 k) v)), .int (iI ((60 * k) + i)), .ref (ad 3)]) (congrArg (fun zz : Int => ([.int (iI zz), .int (iI ((60 * k) + i)), .ref (ad 3)] : List Value)) (show (s16 v) = (CUT (st.2 9 k) v) from (by unfold CUT; (repeat (first | omega | split))))) ?_
            refine m_st_cells hE (by omega) (by omega) dX7_put_93 ?_
            refine k_st ((uv st.1 9 0, ur st.2 13 ((60 * k) + i) (CUT (st.2 9 k) v))) rfl ?_
            refine k_iconst hE dX7_put_94 ?_
            exact k_iret hR dX7_put_95 rfl ⟨_, _, rfl, rfl, Or.inr (Or.inr (Or.inr (⟨by omega, by omega, by omega, rfl, rfl⟩)))⟩
        · refine k_iload_n hE dX7_put_72 3 rfl rfl ?_
          refine k_i2b hE dX7_put_73 ?_
          refine k_goto hE 93 dX7_put_74 (by decide) ?_
          refine k_sk (sk' := [.int (iI (CUT (st.2 9 k) v)), .int (iI ((60 * k) + i)), .ref (ad 3)]) (congrArg (fun zz : Int => ([.int (iI zz), .int (iI ((60 * k) + i)), .ref (ad 3)] : List Value)) (show (b8 v) = (CUT (st.2 9 k) v) from (by unfold CUT; (repeat (first | omega | split))))) ?_
          refine m_st_cells hE (by omega) (by omega) dX7_put_93 ?_
          refine k_st ((uv st.1 9 0, ur st.2 13 ((60 * k) + i) (CUT (st.2 9 k) v))) rfl ?_
          refine k_iconst hE dX7_put_94 ?_
          exact k_iret hR dX7_put_95 rfl ⟨_, _, rfl, rfl, Or.inr (Or.inr (Or.inr (⟨by omega, by omega, by omega, rfl, rfl⟩)))⟩
      · refine k_aload_n hE dX7_put_47 0 rfl rfl ?_
        refine k_iconst hE dX7_put_48 ?_
        refine k_callV hE (c_X7_fails ((uv st.1 9 0, st.2)) 3) mf_X7_fails ml_X7_92 0 rfl rfl rfl rfl ⟨rfl, rfl, Nat.le_of_ble_eq_true rfl, Nat.le_of_ble_eq_true rfl⟩ [] (Nat.le_of_ble_eq_true rfl) dX7_put_49 rfl (fun rv u hp => ?_)
        obtain ⟨hv49, hu49⟩ := hp
        refine k_sk (sk' := [.int (iI (-10 - 3))]) (by rw [hv49]; rfl) ?_
        refine k_st ((uv (uv st.1 9 0) 9 3, st.2)) hu49 ?_
        exact k_iret hR dX7_put_52 rfl ⟨_, _, rfl, rfl, Or.inr (Or.inr (Or.inl ⟨by omega, by omega, by omega, rfl, rfl⟩))⟩
    · refine k_aload_n hE dX7_put_25 0 rfl rfl ?_
      refine k_iconst hE dX7_put_26 ?_
      refine k_callV hE (c_X7_fails ((uv st.1 9 0, st.2)) 1) mf_X7_fails ml_X7_92 0 rfl rfl rfl rfl ⟨rfl, rfl, Nat.le_of_ble_eq_true rfl, Nat.le_of_ble_eq_true rfl⟩ [] (Nat.le_of_ble_eq_true rfl) dX7_put_27 rfl (fun rv u hp => ?_)
      obtain ⟨hv27, hu27⟩ := hp
      refine k_sk (sk' := [.int (iI (-10 - 1))]) (by rw [hv27]; rfl) ?_
      refine k_st ((uv (uv st.1 9 0) 9 1, st.2)) hu27 ?_
      exact k_iret hR dX7_put_30 rfl ⟨_, _, rfl, rfl, Or.inr (Or.inl ⟨by omega, by omega, rfl, rfl⟩)⟩
  · refine k_iconst hE dX7_put_12 ?_
    exact k_iret hR dX7_put_13 rfl ⟨_, _, rfl, rfl, Or.inl ⟨by omega, rfl, rfl⟩⟩

set_option maxHeartbeats 4000000 in
set_option maxRecDepth 100000 in
theorem c_X7_cell {ad : Nat → Nat} {D : va_G} {cI cZ : ClassId} (st : Sg) (k : Int) (i : Int) (l : Int) (hS : SHm st) (i_k : -2147483648 ≤ k ∧ k < 2147483648) (i_i : -2147483648 ≤ i ∧ i < 2147483648) (i_l : -2147483648 ≤ l ∧ l < 2147483648) : MC (mw ad D cI cZ) yX7_cell cX7_cell 4 (some .long) { frames := 2, cells := 0, slots := 0, locals := 42 } [.ref (ad 0), .int (iI k), .int (iI i), .int (iI l)] st (fun rv u => ∃ L : Int64, ∃ S : Sg, rv = some (.long (L)) ∧ u = S ∧ ((((k < 0 ∨ 3 < k) ∨ (l < 0 ∨ 2 < l)) ∧ L = -9223372036854775808 ∧ S = (uv st.1 9 0, st.2)) ∨ (¬ ((k < 0 ∨ 3 < k) ∨ (l < 0 ∨ 2 < l)) ∧ FAm st k i l = 0 ∧ S = (uv st.1 9 0, st.2) ∧ L = jI (st.2 13 (60 * k + i))) ∨ (¬ ((k < 0 ∨ 3 < k) ∨ (l < 0 ∨ 2 < l)) ∧ FAm st k i l ≠ 0 ∧ S = (uv (uv st.1 9 0) 9 (FAm st k i l), st.2) ∧ L = -9223372036854775808))) := by
  refine MC_intro RX7 (by decide) rfl (Nat.le_of_ble_eq_true rfl) ?_
  intro G H0 m hE hR
  refine k_lo [0, 1, 2, 3] (lo' := [(0, .ref (ad 0)), (1, .int (iI k)), (2, .int (iI i)), (3, .int (iI l))]) rfl ?_
  refine k_aload_n hE dX7_cell_0 0 rfl rfl ?_
  refine k_iconst hE dX7_cell_1 ?_
  refine m_put_fault hE fl_X7_69 dX7_cell_2 ?_
  refine k_st ((uv st.1 9 0, st.2)) rfl ?_
  refine k_iload_n hE dX7_cell_5 1 rfl rfl ?_
  refine k_callS hE (c_X7_isSheet ((uv st.1 9 0, st.2)) k (by omega)) ms_X7_isSheet ml_X7_81 rfl ⟨rfl, rfl, Nat.le_of_ble_eq_true rfl, Nat.le_of_ble_eq_true rfl⟩ [] (Nat.le_of_ble_eq_true rfl) dX7_cell_6 rfl (fun rv u hp => ?_)
  obtain ⟨z1, hv6, hu6, hz_6⟩ := hp
  try dsimp only at hz_6
  refine k_sk (sk' := [.int (iI z1)]) (by rw [hv6]; rfl) ?_
  refine k_st ((uv st.1 9 0, st.2)) hu6 ?_
  refine k_if_eq hE 19 dX7_cell_9 (by decide) (by unfold in32; omega) (fun c9 => ?_) (fun c9 => ?_)
  · refine k_ldc2 hE cl_X7_72 dX7_cell_19 ?_
    exact k_lret hR dX7_cell_22 rfl ⟨_, _, rfl, rfl, Or.inl ⟨by omega, rfl, rfl⟩⟩
  · refine k_iload_n hE dX7_cell_12 3 rfl rfl ?_
    refine k_callS hE (c_X7_isSort ((uv st.1 9 0, st.2)) l (by omega)) ms_X7_isSort ml_X7_85 rfl ⟨rfl, rfl, Nat.le_of_ble_eq_true rfl, Nat.le_of_ble_eq_true rfl⟩ [] (Nat.le_of_ble_eq_true rfl) dX7_cell_13 rfl (fun rv u hp => ?_)
    obtain ⟨z2, hv13, hu13, hz_13⟩ := hp
    try dsimp only at hz_13
    refine k_sk (sk' := [.int (iI z2)]) (by rw [hv13]; rfl) ?_
    refine k_st ((uv st.1 9 0, st.2)) hu13 ?_
    refine k_if_ne hE 23 dX7_cell_16 (by decide) (by unfold in32; omega) (fun c16 => ?_) (fun c16 => ?_)
    · have hk := hS.1 k (by omega) (by omega)
      refine k_aload_n hE dX7_cell_23 0 rfl rfl ?_
      refine m_get_sorts hE fl_X7_9 dX7_cell_24 ?_
      refine k_iload_n hE dX7_cell_27 1 rfl rfl ?_
      refine m_ld_sorts hE (z := st.2 9 k) (by omega) (by omega) rfl dX7_cell_28 ?_
      refine k_bipush hE dX7_cell_29 rfl ?_
      refine k_icmp_eq hE 50 dX7_cell_31 (by decide) (by unfold in32; omega) (by unfold in32; omega) (fun c31 => ?_) (fun c31 => ?_)
      · refine k_aload_n hE dX7_cell_50 0 rfl rfl ?_
        refine m_get_sorts hE fl_X7_9 dX7_cell_51 ?_
        refine k_iload_n hE dX7_cell_54 1 rfl rfl ?_
        refine m_ld_sorts hE (z := st.2 9 k) (by omega) (by omega) rfl dX7_cell_55 ?_
        refine k_bipush hE dX7_cell_56 rfl ?_
        refine k_icmp_ne hE 67 dX7_cell_58 (by decide) (by unfold in32; omega) (by unfold in32; omega) (fun c58 => ?_) (fun c58 => ?_)
        · refine k_iload_n hE dX7_cell_67 2 rfl rfl ?_
          refine k_iconst hE dX7_cell_68 ?_
          refine k_aload_n hE dX7_cell_69 0 rfl rfl ?_
          refine m_get_sheetLong hE fl_X7_13 dX7_cell_70 ?_
          refine k_iload_n hE dX7_cell_73 1 rfl rfl ?_
          refine m_ld_sheetLong hE (z := st.2 8 k) (by omega) (by omega) rfl dX7_cell_74 ?_
          refine k_iconst hE dX7_cell_75 ?_
          refine k_isub hE dX7_cell_76 ?_
          refine k_callS hE (c_X7_within ((uv st.1 9 0, st.2)) i 0 ((st.2 8 k) - 1) (by omega) (by omega) (by omega)) ms_X7_within ml_X7_74 rfl ⟨rfl, rfl, Nat.le_of_ble_eq_true rfl, Nat.le_of_ble_eq_true rfl⟩ [] (Nat.le_of_ble_eq_true rfl) dX7_cell_77 rfl (fun rv u hp => ?_)
          obtain ⟨z3, hv77, hu77, hz_77⟩ := hp
          try dsimp only at hz_77
          refine k_sk (sk' := [.int (iI z3)]) (by rw [hv77]; rfl) ?_
          refine k_st ((uv st.1 9 0, st.2)) hu77 ?_
          refine k_if_ne hE 89 dX7_cell_80 (by decide) (by unfold in32; omega) (fun c80 => ?_) (fun c80 => ?_)
          · refine k_aload_n hE dX7_cell_89 0 rfl rfl ?_
            refine m_get_cells hE fl_X7_16 dX7_cell_90 ?_
            refine k_bipush hE dX7_cell_93 rfl ?_
            refine k_iload_n hE dX7_cell_95 1 rfl rfl ?_
            refine k_imul hE dX7_cell_96 ?_
            refine k_iload_n hE dX7_cell_97 2 rfl rfl ?_
            refine k_iadd hE dX7_cell_98 ?_
            refine m_ld_cells hE (z := st.2 13 ((60 * k) + i)) (by omega) (by omega) rfl dX7_cell_99 ?_
            have hcc := hS.2 k i (by omega) (by omega) (by omega) (by omega)
            refine k_i2l hE dX7_cell_100 (by unfold in32; omega) ?_
            refine k_lret hR dX7_cell_101 rfl ?_
            have fe : FAm st k i l = 0 := by unfold FAm; (repeat (first | omega | split))
            exact ⟨_, _, rfl, rfl, Or.inr (Or.inl ⟨by omega, fe, rfl, rfl⟩)⟩
          · refine k_aload_n hE dX7_cell_83 0 rfl rfl ?_
            refine k_iconst hE dX7_cell_84 ?_
            refine k_callV hE (c_X7_lost ((uv st.1 9 0, st.2)) 3) mf_X7_lost ml_X7_213 0 rfl rfl rfl rfl ⟨rfl, rfl, Nat.le_of_ble_eq_true rfl, Nat.le_of_ble_eq_true rfl⟩ [] (Nat.le_of_ble_eq_true rfl) dX7_cell_85 rfl (fun rv u hp => ?_)
            obtain ⟨hv85, hu85⟩ := hp
            refine k_sk (sk' := [.long (-9223372036854775808)]) (by rw [hv85]; rfl) ?_
            refine k_st ((uv (uv st.1 9 0) 9 3, st.2)) hu85 ?_
            refine k_lret hR dX7_cell_88 rfl ?_
            have fe : FAm st k i l = 3 := by unfold FAm; (repeat (first | omega | split))
            exact ⟨_, _, rfl, rfl, Or.inr (Or.inr ⟨by omega, by omega, by rw [fe], rfl⟩)⟩
        · refine k_aload_n hE dX7_cell_61 0 rfl rfl ?_
          refine k_iconst hE dX7_cell_62 ?_
          refine k_callV hE (c_X7_lost ((uv st.1 9 0, st.2)) 1) mf_X7_lost ml_X7_213 0 rfl rfl rfl rfl ⟨rfl, rfl, Nat.le_of_ble_eq_true rfl, Nat.le_of_ble_eq_true rfl⟩ [] (Nat.le_of_ble_eq_true rfl) dX7_cell_63 rfl (fun rv u hp => ?_)
          obtain ⟨hv63, hu63⟩ := hp
          refine k_sk (sk' := [.long (-9223372036854775808)]) (by rw [hv63]; rfl) ?_
          refine k_st ((uv (uv st.1 9 0) 9 1, st.2)) hu63 ?_
          refine k_lret hR dX7_cell_66 rfl ?_
          have fe : FAm st k i l = 1 := by unfold FAm; (repeat (first | omega | split))
          exact ⟨_, _, rfl, rfl, Or.inr (Or.inr ⟨by omega, by omega, by rw [fe], rfl⟩)⟩
      · refine k_aload_n hE dX7_cell_34 0 rfl rfl ?_
        refine m_get_sorts hE fl_X7_9 dX7_cell_35 ?_
        refine k_iload_n hE dX7_cell_38 1 rfl rfl ?_
        refine m_ld_sorts hE (z := st.2 9 k) (by omega) (by omega) rfl dX7_cell_39 ?_
        refine k_iload_n hE dX7_cell_40 3 rfl rfl ?_
        refine k_icmp_eq hE 50 dX7_cell_41 (by decide) (by unfold in32; omega) (by unfold in32; omega) (fun c41 => ?_) (fun c41 => ?_)
        · refine k_aload_n hE dX7_cell_50 0 rfl rfl ?_
          refine m_get_sorts hE fl_X7_9 dX7_cell_51 ?_
          refine k_iload_n hE dX7_cell_54 1 rfl rfl ?_
          refine m_ld_sorts hE (z := st.2 9 k) (by omega) (by omega) rfl dX7_cell_55 ?_
          refine k_bipush hE dX7_cell_56 rfl ?_
          refine k_icmp_ne hE 67 dX7_cell_58 (by decide) (by unfold in32; omega) (by unfold in32; omega) (fun c58 => ?_) (fun c58 => ?_)
          · refine k_iload_n hE dX7_cell_67 2 rfl rfl ?_
            refine k_iconst hE dX7_cell_68 ?_
            refine k_aload_n hE dX7_cell_69 0 rfl rfl ?_
            refine m_get_sheetLong hE fl_X7_13 dX7_cell_70 ?_
            refine k_iload_n hE dX7_cell_73 1 rfl rfl ?_
            refine m_ld_sheetLong hE (z := st.2 8 k) (by omega) (by omega) rfl dX7_cell_74 ?_
            refine k_iconst hE dX7_cell_75 ?_
            refine k_isub hE dX7_cell_76 ?_
            refine k_callS hE (c_X7_within ((uv st.1 9 0, st.2)) i 0 ((st.2 8 k) - 1) (by omega) (by omega) (by omega)) ms_X7_within ml_X7_74 rfl ⟨rfl, rfl, Nat.le_of_ble_eq_true rfl, Nat.le_of_ble_eq_true rfl⟩ [] (Nat.le_of_ble_eq_true rfl) dX7_cell_77 rfl (fun rv u hp => ?_)
            obtain ⟨z4, hv77, hu77, hz_77⟩ := hp
            try dsimp only at hz_77
            refine k_sk (sk' := [.int (iI z4)]) (by rw [hv77]; rfl) ?_
            refine k_st ((uv st.1 9 0, st.2)) hu77 ?_
            refine k_if_ne hE 89 dX7_cell_80 (by decide) (by unfold in32; omega) (fun c80 => ?_) (fun c80 => ?_)
            · refine k_aload_n hE dX7_cell_89 0 rfl rfl ?_
              refine m_get_cells hE fl_X7_16 dX7_cell_90 ?_
              refine k_bipush hE dX7_cell_93 rfl ?_
              refine k_iload_n hE dX7_cell_95 1 rfl rfl ?_
              refine k_imul hE dX7_cell_96 ?_
              refine k_iload_n hE dX7_cell_97 2 rfl rfl ?_
              refine k_iadd hE dX7_cell_98 ?_
              refine m_ld_cells hE (z := st.2 13 ((60 * k) + i)) (by omega) (by omega) rfl dX7_cell_99 ?_
              have hcc := hS.2 k i (by omega) (by omega) (by omega) (by omega)
              refine k_i2l hE dX7_cell_100 (by unfold in32; omega) ?_
              refine k_lret hR dX7_cell_101 rfl ?_
              have fe : FAm st k i l = 0 := by unfold FAm; (repeat (first | omega | split))
              exact ⟨_, _, rfl, rfl, Or.inr (Or.inl ⟨by omega, fe, rfl, rfl⟩)⟩
            · refine k_aload_n hE dX7_cell_83 0 rfl rfl ?_
              refine k_iconst hE dX7_cell_84 ?_
              refine k_callV hE (c_X7_lost ((uv st.1 9 0, st.2)) 3) mf_X7_lost ml_X7_213 0 rfl rfl rfl rfl ⟨rfl, rfl, Nat.le_of_ble_eq_true rfl, Nat.le_of_ble_eq_true rfl⟩ [] (Nat.le_of_ble_eq_true rfl) dX7_cell_85 rfl (fun rv u hp => ?_)
              obtain ⟨hv85, hu85⟩ := hp
              refine k_sk (sk' := [.long (-9223372036854775808)]) (by rw [hv85]; rfl) ?_
              refine k_st ((uv (uv st.1 9 0) 9 3, st.2)) hu85 ?_
              refine k_lret hR dX7_cell_88 rfl ?_
              have fe : FAm st k i l = 3 := by unfold FAm; (repeat (first | omega | split))
              exact ⟨_, _, rfl, rfl, Or.inr (Or.inr ⟨by omega, by omega, by rw [fe], rfl⟩)⟩
          · refine k_aload_n hE dX7_cell_61 0 rfl rfl ?_
            refine k_iconst hE dX7_cell_62 ?_
            refine k_callV hE (c_X7_lost ((uv st.1 9 0, st.2)) 1) mf_X7_lost ml_X7_213 0 rfl rfl rfl rfl ⟨rfl, rfl, Nat.le_of_ble_eq_true rfl, Nat.le_of_ble_eq_true rfl⟩ [] (Nat.le_of_ble_eq_true rfl) dX7_cell_63 rfl (fun rv u hp => ?_)
            obtain ⟨hv63, hu63⟩ := hp
            refine k_sk (sk' := [.long (-9223372036854775808)]) (by rw [hv63]; rfl) ?_
            refine k_st ((uv (uv st.1 9 0) 9 1, st.2)) hu63 ?_
            refine k_lret hR dX7_cell_66 rfl ?_
            have fe : FAm st k i l = 1 := by unfold FAm; (repeat (first | omega | split))
            exact ⟨_, _, rfl, rfl, Or.inr (Or.inr ⟨by omega, by omega, by rw [fe], rfl⟩)⟩
        · refine k_aload_n hE dX7_cell_44 0 rfl rfl ?_
          refine k_iconst hE dX7_cell_45 ?_
          refine k_callV hE (c_X7_lost ((uv st.1 9 0, st.2)) 2) mf_X7_lost ml_X7_213 0 rfl rfl rfl rfl ⟨rfl, rfl, Nat.le_of_ble_eq_true rfl, Nat.le_of_ble_eq_true rfl⟩ [] (Nat.le_of_ble_eq_true rfl) dX7_cell_46 rfl (fun rv u hp => ?_)
          obtain ⟨hv46, hu46⟩ := hp
          refine k_sk (sk' := [.long (-9223372036854775808)]) (by rw [hv46]; rfl) ?_
          refine k_st ((uv (uv st.1 9 0) 9 2, st.2)) hu46 ?_
          refine k_lret hR dX7_cell_49 rfl ?_
          have fe : FAm st k i l = 2 := by unfold FAm; (repeat (first | omega | split))
          exact ⟨_, _, rfl, rfl, Or.inr (Or.inr ⟨by omega, by omega, by rw [fe], rfl⟩)⟩
    · refine k_ldc2 hE cl_X7_72 dX7_cell_19 ?_
      exact k_lret hR dX7_cell_22 rfl ⟨_, _, rfl, rfl, Or.inl ⟨by omega, rfl, rfl⟩⟩

set_option maxHeartbeats 4000000 in
set_option maxRecDepth 100000 in
theorem c_X7_copy {ad : Nat → Nat} {D : va_G} {cI cZ : ClassId} (st : Sg) (k : Int) (i : Int) (o : Int) (j : Int) (n : Int) (hS : SHm st) (i_k : -2147483648 ≤ k ∧ k < 2147483648) (i_i : -2147483648 ≤ i ∧ i < 2147483648) (i_o : -2147483648 ≤ o ∧ o < 2147483648) (i_j : -2147483648 ≤ j ∧ j < 2147483648) (i_n : -2147483648 ≤ n ∧ n < 2147483648) : MC (mw ad D cI cZ) yX7_copy cX7_copy 10 (some .int) { frames := 2, cells := 0, slots := 0, locals := 42 } [.ref (ad 0), .int (iI k), .int (iI i), .int (iI o), .int (iI j), .int (iI n)] st (fun rv u => ∃ z : Int, ∃ S : Sg, rv = some (.int (iI (z))) ∧ u = S ∧ ((((k < 0 ∨ 3 < k) ∨ (o < 0 ∨ 3 < o)) ∧ z = -1 ∧ S = (uv st.1 9 0, st.2)) ∨ (¬ ((k < 0 ∨ 3 < k) ∨ (o < 0 ∨ 3 < o)) ∧ (st.2 9 k = -9 ∨ st.2 9 o = -9) ∧ z = -11 ∧ S = (uv (uv st.1 9 0) 9 1, st.2)) ∨ (¬ ((k < 0 ∨ 3 < k) ∨ (o < 0 ∨ 3 < o)) ∧ ¬ (st.2 9 k = -9 ∨ st.2 9 o = -9) ∧ st.2 9 k ≠ st.2 9 o ∧ z = -12 ∧ S = (uv (uv st.1 9 0) 9 2, st.2)) ∨ (¬ ((k < 0 ∨ 3 < k) ∨ (o < 0 ∨ 3 < o)) ∧ ¬ (st.2 9 k = -9 ∨ st.2 9 o = -9) ∧ st.2 9 k = st.2 9 o ∧ ¬ ((0 ≤ i ∧ i ≤ st.2 8 k ∧ 0 ≤ n ∧ n ≤ st.2 8 k - i) ∧ (0 ≤ j ∧ j ≤ st.2 8 o ∧ 0 ≤ n ∧ n ≤ st.2 8 o - j)) ∧ z = -13 ∧ S = (uv (uv st.1 9 0) 9 3, st.2)) ∨ (¬ ((k < 0 ∨ 3 < k) ∨ (o < 0 ∨ 3 < o)) ∧ ¬ (st.2 9 k = -9 ∨ st.2 9 o = -9) ∧ st.2 9 k = st.2 9 o ∧ ((0 ≤ i ∧ i ≤ st.2 8 k ∧ 0 ≤ n ∧ n ≤ st.2 8 k - i) ∧ (0 ≤ j ∧ j ≤ st.2 8 o ∧ 0 ≤ n ∧ n ≤ st.2 8 o - j)) ∧ z = n ∧ S.1 = uv st.1 9 0 ∧ (∀ a, a ≠ 13 → S.2 a = st.2 a) ∧ (∀ t : Int, 60 * o + j ≤ t → t < 60 * o + j + n → S.2 13 t = st.2 13 (60 * k + i + (t - (60 * o + j)))) ∧ (∀ t : Int, ¬ (60 * o + j ≤ t ∧ t < 60 * o + j + n) → S.2 13 t = st.2 13 t)))) := by
  refine MC_intro RX7 (by decide) rfl (Nat.le_of_ble_eq_true rfl) ?_
  intro G H0 m hE hR
  refine k_lo [0, 1, 2, 3, 4, 5] (lo' := [(0, .ref (ad 0)), (1, .int (iI k)), (2, .int (iI i)), (3, .int (iI o)), (4, .int (iI j)), (5, .int (iI n))]) rfl ?_
  refine k_aload_n hE dX7_copy_0 0 rfl rfl ?_
  refine k_iconst hE dX7_copy_1 ?_
  refine m_put_fault hE fl_X7_69 dX7_copy_2 ?_
  refine k_st ((uv st.1 9 0, st.2)) rfl ?_
  refine k_iload_n hE dX7_copy_5 1 rfl rfl ?_
  refine k_callS hE (c_X7_isSheet ((uv st.1 9 0, st.2)) k (by omega)) ms_X7_isSheet ml_X7_81 rfl ⟨rfl, rfl, Nat.le_of_ble_eq_true rfl, Nat.le_of_ble_eq_true rfl⟩ [] (Nat.le_of_ble_eq_true rfl) dX7_copy_6 rfl (fun rv u hp => ?_)
  obtain ⟨z1, hv6, hu6, hz_6⟩ := hp
  try dsimp only at hz_6
  refine k_sk (sk' := [.int (iI z1)]) (by rw [hv6]; rfl) ?_
  refine k_st ((uv st.1 9 0, st.2)) hu6 ?_
  refine k_if_eq hE 19 dX7_copy_9 (by decide) (by unfold in32; omega) (fun c9 => ?_) (fun c9 => ?_)
  · refine k_iconst hE dX7_copy_19 ?_
    exact k_iret hR dX7_copy_20 rfl ⟨_, _, rfl, rfl, Or.inl ⟨by omega, rfl, rfl⟩⟩
  · refine k_iload_n hE dX7_copy_12 3 rfl rfl ?_
    refine k_callS hE (c_X7_isSheet ((uv st.1 9 0, st.2)) o (by omega)) ms_X7_isSheet ml_X7_81 rfl ⟨rfl, rfl, Nat.le_of_ble_eq_true rfl, Nat.le_of_ble_eq_true rfl⟩ [] (Nat.le_of_ble_eq_true rfl) dX7_copy_13 rfl (fun rv u hp => ?_)
    obtain ⟨z2, hv13, hu13, hz_13⟩ := hp
    try dsimp only at hz_13
    refine k_sk (sk' := [.int (iI z2)]) (by rw [hv13]; rfl) ?_
    refine k_st ((uv st.1 9 0, st.2)) hu13 ?_
    refine k_if_ne hE 21 dX7_copy_16 (by decide) (by unfold in32; omega) (fun c16 => ?_) (fun c16 => ?_)
    · have hk := hS.1 k (by omega) (by omega)
      have ho := hS.1 o (by omega) (by omega)
      refine k_aload_n hE dX7_copy_21 0 rfl rfl ?_
      refine m_get_sorts hE fl_X7_9 dX7_copy_22 ?_
      refine k_iload_n hE dX7_copy_25 1 rfl rfl ?_
      refine m_ld_sorts hE (z := st.2 9 k) (by omega) (by omega) rfl dX7_copy_26 ?_
      refine k_bipush hE dX7_copy_27 rfl ?_
      refine k_icmp_eq hE 43 dX7_copy_29 (by decide) (by unfold in32; omega) (by unfold in32; omega) (fun c29 => ?_) (fun c29 => ?_)
      · refine k_aload_n hE dX7_copy_43 0 rfl rfl ?_
        refine k_iconst hE dX7_copy_44 ?_
        refine k_callV hE (c_X7_fails ((uv st.1 9 0, st.2)) 1) mf_X7_fails ml_X7_92 0 rfl rfl rfl rfl ⟨rfl, rfl, Nat.le_of_ble_eq_true rfl, Nat.le_of_ble_eq_true rfl⟩ [] (Nat.le_of_ble_eq_true rfl) dX7_copy_45 rfl (fun rv u hp => ?_)
        obtain ⟨hv45, hu45⟩ := hp
        refine k_sk (sk' := [.int (iI (-10 - 1))]) (by rw [hv45]; rfl) ?_
        refine k_st ((uv (uv st.1 9 0) 9 1, st.2)) hu45 ?_
        exact k_iret hR dX7_copy_48 rfl ⟨_, _, rfl, rfl, Or.inr (Or.inl ⟨by omega, by omega, rfl, rfl⟩)⟩
      · refine k_aload_n hE dX7_copy_32 0 rfl rfl ?_
        refine m_get_sorts hE fl_X7_9 dX7_copy_33 ?_
        refine k_iload_n hE dX7_copy_36 3 rfl rfl ?_
        refine m_ld_sorts hE (z := st.2 9 o) (by omega) (by omega) rfl dX7_copy_37 ?_
        refine k_bipush hE dX7_copy_38 rfl ?_
        refine k_icmp_ne hE 49 dX7_copy_40 (by decide) (by unfold in32; omega) (by unfold in32; omega) (fun c40 => ?_) (fun c40 => ?_)
        · refine k_aload_n hE dX7_copy_49 0 rfl rfl ?_
          refine m_get_sorts hE fl_X7_9 dX7_copy_50 ?_
          refine k_iload_n hE dX7_copy_53 1 rfl rfl ?_
          refine m_ld_sorts hE (z := st.2 9 k) (by omega) (by omega) rfl dX7_copy_54 ?_
          refine k_aload_n hE dX7_copy_55 0 rfl rfl ?_
          refine m_get_sorts hE fl_X7_9 dX7_copy_56 ?_
          refine k_iload_n hE dX7_copy_59 3 rfl rfl ?_
          refine m_ld_sorts hE (z := st.2 9 o) (by omega) (by omega) rfl dX7_copy_60 ?_
          refine k_icmp_eq hE 70 dX7_copy_61 (by decide) (by unfold in32; omega) (by unfold in32; omega) (fun c61 => ?_) (fun c61 => ?_)
          · have J110 : ∀ (b : Int), ((b = 1 ∧ (0 ≤ i ∧ 0 ≤ j ∧ 0 ≤ n ∧ i ≤ st.2 8 k ∧ j ≤ st.2 8 o)) ∨ (b = 0 ∧ ¬ (0 ≤ i ∧ 0 ≤ j ∧ 0 ≤ n ∧ i ≤ st.2 8 k ∧ j ≤ st.2 8 o))) → KW (mw ad D cI cZ) G H0 m 10 ((uv st.1 9 0, st.2)) 110 [(0, .ref (ad 0)), (1, .int (iI k)), (2, .int (iI i)), (3, .int (iI o)), (4, .int (iI j)), (5, .int (iI n))] [.int (iI b)] := by
              intro b hb
              refine k_istore hE dX7_copy_110 [1, 2, 3, 4, 5, 6, 0] (Nat.le_of_ble_eq_true rfl) (lo' := [(0, .ref (ad 0)), (1, .int (iI k)), (2, .int (iI i)), (3, .int (iI o)), (4, .int (iI j)), (5, .int (iI n)), (6, .int (iI b))]) rfl ?_
              refine k_iload hE dX7_copy_112 6 rfl ?_
              refine k_if_eq hE 144 dX7_copy_114 (by decide) (by unfold in32; omega) (fun c114 => ?_) (fun c114 => ?_)
              · refine k_aload_n hE dX7_copy_144 0 rfl rfl ?_
                refine k_iconst hE dX7_copy_145 ?_
                refine k_callV hE (c_X7_fails ((uv st.1 9 0, st.2)) 3) mf_X7_fails ml_X7_92 0 rfl rfl rfl rfl ⟨rfl, rfl, Nat.le_of_ble_eq_true rfl, Nat.le_of_ble_eq_true rfl⟩ [] (Nat.le_of_ble_eq_true rfl) dX7_copy_146 rfl (fun rv u hp => ?_)
                obtain ⟨hv146, hu146⟩ := hp
                refine k_sk (sk' := [.int (iI (-10 - 3))]) (by rw [hv146]; rfl) ?_
                refine k_st ((uv (uv st.1 9 0) 9 3, st.2)) hu146 ?_
                exact k_iret hR dX7_copy_149 rfl ⟨_, _, rfl, rfl, Or.inr (Or.inr (Or.inr (Or.inl ⟨by omega, by omega, by omega, by omega, rfl, rfl⟩)))⟩
              · refine k_iload hE dX7_copy_117 5 rfl ?_
                refine k_aload_n hE dX7_copy_119 0 rfl rfl ?_
                refine m_get_sheetLong hE fl_X7_13 dX7_copy_120 ?_
                refine k_iload_n hE dX7_copy_123 1 rfl rfl ?_
                refine m_ld_sheetLong hE (z := st.2 8 k) (by omega) (by omega) rfl dX7_copy_124 ?_
                refine k_iload_n hE dX7_copy_125 2 rfl rfl ?_
                refine k_isub hE dX7_copy_126 ?_
                refine k_icmp_gt hE 144 dX7_copy_127 (by decide) (by unfold in32; omega) (by unfold in32; omega) (fun c127 => ?_) (fun c127 => ?_)
                · refine k_aload_n hE dX7_copy_144 0 rfl rfl ?_
                  refine k_iconst hE dX7_copy_145 ?_
                  refine k_callV hE (c_X7_fails ((uv st.1 9 0, st.2)) 3) mf_X7_fails ml_X7_92 0 rfl rfl rfl rfl ⟨rfl, rfl, Nat.le_of_ble_eq_true rfl, Nat.le_of_ble_eq_true rfl⟩ [] (Nat.le_of_ble_eq_true rfl) dX7_copy_146 rfl (fun rv u hp => ?_)
                  obtain ⟨hv146, hu146⟩ := hp
                  refine k_sk (sk' := [.int (iI (-10 - 3))]) (by rw [hv146]; rfl) ?_
                  refine k_st ((uv (uv st.1 9 0) 9 3, st.2)) hu146 ?_
                  exact k_iret hR dX7_copy_149 rfl ⟨_, _, rfl, rfl, Or.inr (Or.inr (Or.inr (Or.inl ⟨by omega, by omega, by omega, by omega, rfl, rfl⟩)))⟩
                · refine k_iload hE dX7_copy_130 5 rfl ?_
                  refine k_aload_n hE dX7_copy_132 0 rfl rfl ?_
                  refine m_get_sheetLong hE fl_X7_13 dX7_copy_133 ?_
                  refine k_iload_n hE dX7_copy_136 3 rfl rfl ?_
                  refine m_ld_sheetLong hE (z := st.2 8 o) (by omega) (by omega) rfl dX7_copy_137 ?_
                  refine k_iload hE dX7_copy_138 4 rfl ?_
                  refine k_isub hE dX7_copy_140 ?_
                  refine k_icmp_le hE 150 dX7_copy_141 (by decide) (by unfold in32; omega) (by unfold in32; omega) (fun c141 => ?_) (fun c141 => ?_)
                  · have J161 : ∀ (a : Int), ((a = 1 ∧ i < j) ∨ (a = 0 ∧ j ≤ i)) → KW (mw ad D cI cZ) G H0 m 10 ((uv st.1 9 0, st.2)) 161 [(0, .ref (ad 0)), (1, .int (iI k)), (2, .int (iI i)), (3, .int (iI o)), (4, .int (iI j)), (5, .int (iI n))] [.int (iI a)] := by
                      intro a ha
                      refine k_istore hE dX7_copy_161 [1, 2, 3, 4, 5, 6, 0] (Nat.le_of_ble_eq_true rfl) (lo' := [(0, .ref (ad 0)), (1, .int (iI k)), (2, .int (iI i)), (3, .int (iI o)), (4, .int (iI j)), (5, .int (iI n)), (7, .int (iI a))]) rfl ?_
                      refine k_iconst hE dX7_copy_163 ?_
                      refine k_istore hE dX7_copy_164 [1, 2, 3, 4, 5, 6, 7, 0] (Nat.le_of_ble_eq_true rfl) (lo' := [(0, .ref (ad 0)), (1, .int (iI k)), (2, .int (iI i)), (3, .int (iI o)), (4, .int (iI j)), (5, .int (iI n)), (7, .int (iI a)), (8, .int (iI 0))]) rfl ?_
                      have L166 : ∀ (fu166 : Nat) (S : Sg) (q : Int), (0 ≤ q ∧ q ≤ n) → (n - q < fu166) → (S.1 = uv st.1 9 0) → (∀ a, a ≠ 13 → S.2 a = st.2 a) → (∀ t : Int, ((a = 1 ∧ 60 * o + j + (n - q) ≤ t ∧ t < 60 * o + j + n) ∨ (a = 0 ∧ 60 * o + j ≤ t ∧ t < 60 * o + j + q)) → S.2 13 t = st.2 13 (60 * k + i + (t - (60 * o + j)))) → (∀ t : Int, ¬ ((a = 1 ∧ 60 * o + j + (n - q) ≤ t ∧ t < 60 * o + j + n) ∨ (a = 0 ∧ 60 * o + j ≤ t ∧ t < 60 * o + j + q)) → S.2 13 t = st.2 13 t) → KW (mw ad D cI cZ) G H0 m 10 S 166 [(0, .ref (ad 0)), (1, .int (iI k)), (2, .int (iI i)), (3, .int (iI o)), (4, .int (iI j)), (5, .int (iI n)), (7, .int (iI a)), (8, .int (iI q))] [] := by
                        intro fu166
                        induction fu166 with
                        | zero =>
                          intro S q q0 q1 e1 e2 hc1 hc2
                          omega
                        | succ fu166 ih166 =>
                          intro S q q0 q1 e1 e2 hc1 hc2
                          refine k_iload hE dX7_copy_166 7 rfl ?_
                          refine k_iload hE dX7_copy_168 5 rfl ?_
                          refine k_icmp_ge hE 227 dX7_copy_170 (by decide) (by unfold in32; omega) (by unfold in32; omega) (fun c170 => ?_) (fun c170 => ?_)
                          · refine k_iload hE dX7_copy_227 5 rfl ?_
                            exact k_iret hR dX7_copy_229 rfl ⟨_, S, rfl, rfl, Or.inr (Or.inr (Or.inr (Or.inr ⟨by omega, by omega, by omega, by omega, rfl, e1, e2, fun t t0 t1 => hc1 t (by omega), fun t ht => hc2 t (by omega)⟩)))⟩
                          · have J190 : ∀ (c : Int), ((a = 1 ∧ c = n - 1 - q) ∨ (a = 0 ∧ c = q)) → KW (mw ad D cI cZ) G H0 m 10 S 190 [(0, .ref (ad 0)), (1, .int (iI k)), (2, .int (iI i)), (3, .int (iI o)), (4, .int (iI j)), (5, .int (iI n)), (7, .int (iI a)), (8, .int (iI q))] [.int (iI c)] := by
                              intro c hcc
                              refine k_istore hE dX7_copy_190 [1, 2, 3, 4, 5, 6, 7, 8, 0] (Nat.le_of_ble_eq_true rfl) (lo' := [(0, .ref (ad 0)), (1, .int (iI k)), (2, .int (iI i)), (3, .int (iI o)), (4, .int (iI j)), (5, .int (iI n)), (7, .int (iI a)), (8, .int (iI q)), (9, .int (iI c))]) rfl ?_
                              have hsr : S.2 13 (60 * k + i + c) = st.2 13 (60 * k + i + c) := hc2 _ (by omega)
                              refine k_aload_n hE dX7_copy_192 0 rfl rfl ?_
                              refine m_get_cells hE fl_X7_16 dX7_copy_193 ?_
                              refine k_bipush hE dX7_copy_196 rfl ?_
                              refine k_iload_n hE dX7_copy_198 3 rfl rfl ?_
                              refine k_imul hE dX7_copy_199 ?_
                              refine k_iload hE dX7_copy_200 4 rfl ?_
                              refine k_iadd hE dX7_copy_202 ?_
                              refine k_iload hE dX7_copy_203 8 rfl ?_
                              refine k_iadd hE dX7_copy_205 ?_
                              refine k_aload_n hE dX7_copy_206 0 rfl rfl ?_
                              refine m_get_cells hE fl_X7_16 dX7_copy_207 ?_
                              refine k_bipush hE dX7_copy_210 rfl ?_
                              refine k_iload_n hE dX7_copy_212 1 rfl rfl ?_
                              refine k_imul hE dX7_copy_213 ?_
                              refine k_iload_n hE dX7_copy_214 2 rfl rfl ?_
                              refine k_iadd hE dX7_copy_215 ?_
                              refine k_iload hE dX7_copy_216 8 rfl ?_
                              refine k_iadd hE dX7_copy_218 ?_
                              refine m_ld_cells hE (z := st.2 13 (60 * k + i + c)) (by omega) (by omega) hsr dX7_copy_219 ?_
                              refine m_st_cells hE (by omega) (by omega) dX7_copy_220 ?_
                              refine k_st ((S.1, ur S.2 13 (((60 * o) + j) + c) (st.2 13 (60 * k + i + c)))) rfl ?_
                              refine k_iinc hE dX7_copy_221 7 [1, 2, 3, 4, 5, 6, 7, 0, 8] rfl (Nat.le_of_ble_eq_true rfl) (lo' := [(0, .ref (ad 0)), (1, .int (iI k)), (2, .int (iI i)), (3, .int (iI o)), (4, .int (iI j)), (5, .int (iI n)), (7, .int (iI a)), (8, .int (iI (q + 1))), (9, .int (iI c))]) rfl ?_
                              refine k_goto hE 166 dX7_copy_224 (by decide) ?_
                              refine k_lo [0, 1, 2, 3, 4, 5, 6, 7] (lo' := [(0, .ref (ad 0)), (1, .int (iI k)), (2, .int (iI i)), (3, .int (iI o)), (4, .int (iI j)), (5, .int (iI n)), (7, .int (iI a)), (8, .int (iI (q + 1)))]) rfl ?_
                              refine ih166 ((S.1, ur S.2 13 (((60 * o) + j) + c) (st.2 13 (60 * k + i + c)))) _ (by omega) (by omega) e1 (fun b hb5 => by show ur S.2 13 _ _ b = _; rw [ur_n _ _ _ hb5]; exact e2 b hb5) (fun t ht => ?_) (fun t ht => ?_)
                              · show ur S.2 13 _ _ 13 t = _
                                rw [ur_c]
                                by_cases e : t = 60 * o + j + c
                                · rw [if_pos e, e, show 60 * k + i + (60 * o + j + c - (60 * o + j)) = 60 * k + i + c by omega]
                                · rw [if_neg e]; exact hc1 t (by omega)
                              · show ur S.2 13 _ _ 13 t = _
                                rw [ur_o _ _ _ (by omega)]; exact hc2 t (by omega)
                            refine k_iload hE dX7_copy_173 6 rfl ?_
                            refine k_if_eq hE 188 dX7_copy_175 (by decide) (by unfold in32; omega) (fun c175 => ?_) (fun c175 => ?_)
                            · refine k_iload hE dX7_copy_188 7 rfl ?_
                              exact J190 _ (by omega)
                            · refine k_iload hE dX7_copy_178 5 rfl ?_
                              refine k_iconst hE dX7_copy_180 ?_
                              refine k_isub hE dX7_copy_181 ?_
                              refine k_iload hE dX7_copy_182 7 rfl ?_
                              refine k_isub hE dX7_copy_184 ?_
                              refine k_goto hE 190 dX7_copy_185 (by decide) ?_
                              exact J190 _ (by omega)
                      exact L166 61 ((uv st.1 9 0, st.2)) 0 (by omega) (by omega) rfl (fun a _ => rfl) (fun t ht => by omega) (fun t _ => rfl)
                    refine k_iload_n hE dX7_copy_150 2 rfl rfl ?_
                    refine k_iload hE dX7_copy_151 4 rfl ?_
                    refine k_icmp_ge hE 160 dX7_copy_153 (by decide) (by unfold in32; omega) (by unfold in32; omega) (fun c153 => ?_) (fun c153 => ?_)
                    · refine k_iconst hE dX7_copy_160 ?_
                      refine k_lo [0, 1, 2, 3, 4, 5] (lo' := [(0, .ref (ad 0)), (1, .int (iI k)), (2, .int (iI i)), (3, .int (iI o)), (4, .int (iI j)), (5, .int (iI n))]) rfl ?_
                      exact J161 _ (by omega)
                    · refine k_iconst hE dX7_copy_156 ?_
                      refine k_goto hE 161 dX7_copy_157 (by decide) ?_
                      refine k_lo [0, 1, 2, 3, 4, 5] (lo' := [(0, .ref (ad 0)), (1, .int (iI k)), (2, .int (iI i)), (3, .int (iI o)), (4, .int (iI j)), (5, .int (iI n))]) rfl ?_
                      exact J161 _ (by omega)
                  · refine k_aload_n hE dX7_copy_144 0 rfl rfl ?_
                    refine k_iconst hE dX7_copy_145 ?_
                    refine k_callV hE (c_X7_fails ((uv st.1 9 0, st.2)) 3) mf_X7_fails ml_X7_92 0 rfl rfl rfl rfl ⟨rfl, rfl, Nat.le_of_ble_eq_true rfl, Nat.le_of_ble_eq_true rfl⟩ [] (Nat.le_of_ble_eq_true rfl) dX7_copy_146 rfl (fun rv u hp => ?_)
                    obtain ⟨hv146, hu146⟩ := hp
                    refine k_sk (sk' := [.int (iI (-10 - 3))]) (by rw [hv146]; rfl) ?_
                    refine k_st ((uv (uv st.1 9 0) 9 3, st.2)) hu146 ?_
                    exact k_iret hR dX7_copy_149 rfl ⟨_, _, rfl, rfl, Or.inr (Or.inr (Or.inr (Or.inl ⟨by omega, by omega, by omega, by omega, rfl, rfl⟩)))⟩
            refine k_iload_n hE dX7_copy_70 2 rfl rfl ?_
            refine k_if_lt hE 109 dX7_copy_71 (by decide) (by unfold in32; omega) (fun c71 => ?_) (fun c71 => ?_)
            · refine k_iconst hE dX7_copy_109 ?_
              exact J110 _ (by omega)
            · refine k_iload hE dX7_copy_74 4 rfl ?_
              refine k_if_lt hE 109 dX7_copy_76 (by decide) (by unfold in32; omega) (fun c76 => ?_) (fun c76 => ?_)
              · refine k_iconst hE dX7_copy_109 ?_
                exact J110 _ (by omega)
              · refine k_iload hE dX7_copy_79 5 rfl ?_
                refine k_if_lt hE 109 dX7_copy_81 (by decide) (by unfold in32; omega) (fun c81 => ?_) (fun c81 => ?_)
                · refine k_iconst hE dX7_copy_109 ?_
                  exact J110 _ (by omega)
                · refine k_iload_n hE dX7_copy_84 2 rfl rfl ?_
                  refine k_aload_n hE dX7_copy_85 0 rfl rfl ?_
                  refine m_get_sheetLong hE fl_X7_13 dX7_copy_86 ?_
                  refine k_iload_n hE dX7_copy_89 1 rfl rfl ?_
                  refine m_ld_sheetLong hE (z := st.2 8 k) (by omega) (by omega) rfl dX7_copy_90 ?_
                  refine k_icmp_gt hE 109 dX7_copy_91 (by decide) (by unfold in32; omega) (by unfold in32; omega) (fun c91 => ?_) (fun c91 => ?_)
                  · refine k_iconst hE dX7_copy_109 ?_
                    exact J110 _ (by omega)
                  · refine k_iload hE dX7_copy_94 4 rfl ?_
                    refine k_aload_n hE dX7_copy_96 0 rfl rfl ?_
                    refine m_get_sheetLong hE fl_X7_13 dX7_copy_97 ?_
                    refine k_iload_n hE dX7_copy_100 3 rfl rfl ?_
                    refine m_ld_sheetLong hE (z := st.2 8 o) (by omega) (by omega) rfl dX7_copy_101 ?_
                    refine k_icmp_gt hE 109 dX7_copy_102 (by decide) (by unfold in32; omega) (by unfold in32; omega) (fun c102 => ?_) (fun c102 => ?_)
                    · refine k_iconst hE dX7_copy_109 ?_
                      exact J110 _ (by omega)
                    · refine k_iconst hE dX7_copy_105 ?_
                      refine k_goto hE 110 dX7_copy_106 (by decide) ?_
                      exact J110 _ (by omega)
          · refine k_aload_n hE dX7_copy_64 0 rfl rfl ?_
            refine k_iconst hE dX7_copy_65 ?_
            refine k_callV hE (c_X7_fails ((uv st.1 9 0, st.2)) 2) mf_X7_fails ml_X7_92 0 rfl rfl rfl rfl ⟨rfl, rfl, Nat.le_of_ble_eq_true rfl, Nat.le_of_ble_eq_true rfl⟩ [] (Nat.le_of_ble_eq_true rfl) dX7_copy_66 rfl (fun rv u hp => ?_)
            obtain ⟨hv66, hu66⟩ := hp
            refine k_sk (sk' := [.int (iI (-10 - 2))]) (by rw [hv66]; rfl) ?_
            refine k_st ((uv (uv st.1 9 0) 9 2, st.2)) hu66 ?_
            exact k_iret hR dX7_copy_69 rfl ⟨_, _, rfl, rfl, Or.inr (Or.inr (Or.inl ⟨by omega, by omega, by omega, rfl, rfl⟩))⟩
        · refine k_aload_n hE dX7_copy_43 0 rfl rfl ?_
          refine k_iconst hE dX7_copy_44 ?_
          refine k_callV hE (c_X7_fails ((uv st.1 9 0, st.2)) 1) mf_X7_fails ml_X7_92 0 rfl rfl rfl rfl ⟨rfl, rfl, Nat.le_of_ble_eq_true rfl, Nat.le_of_ble_eq_true rfl⟩ [] (Nat.le_of_ble_eq_true rfl) dX7_copy_45 rfl (fun rv u hp => ?_)
          obtain ⟨hv45, hu45⟩ := hp
          refine k_sk (sk' := [.int (iI (-10 - 1))]) (by rw [hv45]; rfl) ?_
          refine k_st ((uv (uv st.1 9 0) 9 1, st.2)) hu45 ?_
          exact k_iret hR dX7_copy_48 rfl ⟨_, _, rfl, rfl, Or.inr (Or.inl ⟨by omega, by omega, rfl, rfl⟩)⟩
    · refine k_iconst hE dX7_copy_19 ?_
      exact k_iret hR dX7_copy_20 rfl ⟨_, _, rfl, rfl, Or.inl ⟨by omega, rfl, rfl⟩⟩

set_option maxHeartbeats 4000000 in
set_option maxRecDepth 100000 in
theorem c_X7_against {ad : Nat → Nat} {D : va_G} {cI cZ : ClassId} (st : Sg) (k : Int) (l : Int) (i : Int) (n : Int) (hS : SHm st) (i_k : -2147483648 ≤ k ∧ k < 2147483648) (i_l : -2147483648 ≤ l ∧ l < 2147483648) (i_i : -2147483648 ≤ i ∧ i < 2147483648) (i_n : -2147483648 ≤ n ∧ n < 2147483648) (hk4 : 0 ≤ k ∧ k < 4) : MC (mw ad D cI cZ) yX7_against cX7_against 5 (some .int) { frames := 0, cells := 0, slots := 0, locals := 0 } [.ref (ad 0), .int (iI k), .int (iI l), .int (iI i), .int (iI n)] st (fun rv u => rv = some (.int (iI (AGf st k l i n))) ∧ u = st) := by
  refine MC_intro RX7 (by decide) rfl (Nat.le_of_ble_eq_true rfl) ?_
  intro G H0 m hE hR
  refine k_lo [0, 1, 2, 3, 4] (lo' := [(0, .ref (ad 0)), (1, .int (iI k)), (2, .int (iI l)), (3, .int (iI i)), (4, .int (iI n))]) rfl ?_
  have hk := hS.1 k (by omega) (by omega)
  refine k_aload_n hE dX7_against_0 0 rfl rfl ?_
  refine m_get_sorts hE fl_X7_9 dX7_against_1 ?_
  refine k_iload_n hE dX7_against_4 1 rfl rfl ?_
  refine m_ld_sorts hE (z := st.2 9 k) (by omega) (by omega) rfl dX7_against_5 ?_
  refine k_bipush hE dX7_against_6 rfl ?_
  refine k_icmp_eq hE 23 dX7_against_8 (by decide) (by unfold in32; omega) (by unfold in32; omega) (fun c8 => ?_) (fun c8 => ?_)
  · refine k_aload_n hE dX7_against_23 0 rfl rfl ?_
    refine m_get_sorts hE fl_X7_9 dX7_against_24 ?_
    refine k_iload_n hE dX7_against_27 1 rfl rfl ?_
    refine m_ld_sorts hE (z := st.2 9 k) (by omega) (by omega) rfl dX7_against_28 ?_
    refine k_bipush hE dX7_against_29 rfl ?_
    refine k_icmp_ne hE 36 dX7_against_31 (by decide) (by unfold in32; omega) (by unfold in32; omega) (fun c31 => ?_) (fun c31 => ?_)
    · refine k_iload hE dX7_against_36 4 rfl ?_
      refine k_if_ge hE 43 dX7_against_38 (by decide) (by unfold in32; omega) (fun c38 => ?_) (fun c38 => ?_)
      · refine k_iload_n hE dX7_against_43 3 rfl rfl ?_
        refine k_if_lt hE 70 dX7_against_44 (by decide) (by unfold in32; omega) (fun c44 => ?_) (fun c44 => ?_)
        · refine k_iconst hE dX7_against_70 ?_
          refine k_goto hE 75 dX7_against_71 (by decide) ?_
          exact k_iret hR dX7_against_75 rfl ⟨ret_i (by unfold AGf; (repeat (first | omega | split))), rfl⟩
        · refine k_iload_n hE dX7_against_47 3 rfl rfl ?_
          refine k_aload_n hE dX7_against_48 0 rfl rfl ?_
          refine m_get_sheetLong hE fl_X7_13 dX7_against_49 ?_
          refine k_iload_n hE dX7_against_52 1 rfl rfl ?_
          refine m_ld_sheetLong hE (z := st.2 8 k) (by omega) (by omega) rfl dX7_against_53 ?_
          refine k_icmp_gt hE 70 dX7_against_54 (by decide) (by unfold in32; omega) (by unfold in32; omega) (fun c54 => ?_) (fun c54 => ?_)
          · refine k_iconst hE dX7_against_70 ?_
            refine k_goto hE 75 dX7_against_71 (by decide) ?_
            exact k_iret hR dX7_against_75 rfl ⟨ret_i (by unfold AGf; (repeat (first | omega | split))), rfl⟩
          · refine k_iload hE dX7_against_57 4 rfl ?_
            refine k_aload_n hE dX7_against_59 0 rfl rfl ?_
            refine m_get_sheetLong hE fl_X7_13 dX7_against_60 ?_
            refine k_iload_n hE dX7_against_63 1 rfl rfl ?_
            refine m_ld_sheetLong hE (z := st.2 8 k) (by omega) (by omega) rfl dX7_against_64 ?_
            refine k_iload_n hE dX7_against_65 3 rfl rfl ?_
            refine k_isub hE dX7_against_66 ?_
            refine k_icmp_le hE 74 dX7_against_67 (by decide) (by unfold in32; omega) (by unfold in32; omega) (fun c67 => ?_) (fun c67 => ?_)
            · refine k_iconst hE dX7_against_74 ?_
              exact k_iret hR dX7_against_75 rfl ⟨ret_i (by unfold AGf; (repeat (first | omega | split))), rfl⟩
            · refine k_iconst hE dX7_against_70 ?_
              refine k_goto hE 75 dX7_against_71 (by decide) ?_
              exact k_iret hR dX7_against_75 rfl ⟨ret_i (by unfold AGf; (repeat (first | omega | split))), rfl⟩
      · refine k_iconst hE dX7_against_41 ?_
        exact k_iret hR dX7_against_42 rfl ⟨ret_i (by unfold AGf; (repeat (first | omega | split))), rfl⟩
    · refine k_iconst hE dX7_against_34 ?_
      exact k_iret hR dX7_against_35 rfl ⟨ret_i (by unfold AGf; (repeat (first | omega | split))), rfl⟩
  · refine k_aload_n hE dX7_against_11 0 rfl rfl ?_
    refine m_get_sorts hE fl_X7_9 dX7_against_12 ?_
    refine k_iload_n hE dX7_against_15 1 rfl rfl ?_
    refine m_ld_sorts hE (z := st.2 9 k) (by omega) (by omega) rfl dX7_against_16 ?_
    refine k_iload_n hE dX7_against_17 2 rfl rfl ?_
    refine k_icmp_eq hE 23 dX7_against_18 (by decide) (by unfold in32; omega) (by unfold in32; omega) (fun c18 => ?_) (fun c18 => ?_)
    · refine k_aload_n hE dX7_against_23 0 rfl rfl ?_
      refine m_get_sorts hE fl_X7_9 dX7_against_24 ?_
      refine k_iload_n hE dX7_against_27 1 rfl rfl ?_
      refine m_ld_sorts hE (z := st.2 9 k) (by omega) (by omega) rfl dX7_against_28 ?_
      refine k_bipush hE dX7_against_29 rfl ?_
      refine k_icmp_ne hE 36 dX7_against_31 (by decide) (by unfold in32; omega) (by unfold in32; omega) (fun c31 => ?_) (fun c31 => ?_)
      · refine k_iload hE dX7_against_36 4 rfl ?_
        refine k_if_ge hE 43 dX7_against_38 (by decide) (by unfold in32; omega) (fun c38 => ?_) (fun c38 => ?_)
        · refine k_iload_n hE dX7_against_43 3 rfl rfl ?_
          refine k_if_lt hE 70 dX7_against_44 (by decide) (by unfold in32; omega) (fun c44 => ?_) (fun c44 => ?_)
          · refine k_iconst hE dX7_against_70 ?_
            refine k_goto hE 75 dX7_against_71 (by decide) ?_
            exact k_iret hR dX7_against_75 rfl ⟨ret_i (by unfold AGf; (repeat (first | omega | split))), rfl⟩
          · refine k_iload_n hE dX7_against_47 3 rfl rfl ?_
            refine k_aload_n hE dX7_against_48 0 rfl rfl ?_
            refine m_get_sheetLong hE fl_X7_13 dX7_against_49 ?_
            refine k_iload_n hE dX7_against_52 1 rfl rfl ?_
            refine m_ld_sheetLong hE (z := st.2 8 k) (by omega) (by omega) rfl dX7_against_53 ?_
            refine k_icmp_gt hE 70 dX7_against_54 (by decide) (by unfold in32; omega) (by unfold in32; omega) (fun c54 => ?_) (fun c54 => ?_)
            · refine k_iconst hE dX7_against_70 ?_
              refine k_goto hE 75 dX7_against_71 (by decide) ?_
              exact k_iret hR dX7_against_75 rfl ⟨ret_i (by unfold AGf; (repeat (first | omega | split))), rfl⟩
            · refine k_iload hE dX7_against_57 4 rfl ?_
              refine k_aload_n hE dX7_against_59 0 rfl rfl ?_
              refine m_get_sheetLong hE fl_X7_13 dX7_against_60 ?_
              refine k_iload_n hE dX7_against_63 1 rfl rfl ?_
              refine m_ld_sheetLong hE (z := st.2 8 k) (by omega) (by omega) rfl dX7_against_64 ?_
              refine k_iload_n hE dX7_against_65 3 rfl rfl ?_
              refine k_isub hE dX7_against_66 ?_
              refine k_icmp_le hE 74 dX7_against_67 (by decide) (by unfold in32; omega) (by unfold in32; omega) (fun c67 => ?_) (fun c67 => ?_)
              · refine k_iconst hE dX7_against_74 ?_
                exact k_iret hR dX7_against_75 rfl ⟨ret_i (by unfold AGf; (repeat (first | omega | split))), rfl⟩
              · refine k_iconst hE dX7_against_70 ?_
                refine k_goto hE 75 dX7_against_71 (by decide) ?_
                exact k_iret hR dX7_against_75 rfl ⟨ret_i (by unfold AGf; (repeat (first | omega | split))), rfl⟩
        · refine k_iconst hE dX7_against_41 ?_
          exact k_iret hR dX7_against_42 rfl ⟨ret_i (by unfold AGf; (repeat (first | omega | split))), rfl⟩
      · refine k_iconst hE dX7_against_34 ?_
        exact k_iret hR dX7_against_35 rfl ⟨ret_i (by unfold AGf; (repeat (first | omega | split))), rfl⟩
    · refine k_iconst hE dX7_against_21 ?_
      exact k_iret hR dX7_against_22 rfl ⟨ret_i (by unfold AGf; (repeat (first | omega | split))), rfl⟩
