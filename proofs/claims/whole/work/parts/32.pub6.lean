theorem ml_acp : Cond.methodLink RX6 204 arraycopyName ∈ lw_gt := gt_mem (by decide +kernel) rfl

/-- the fault of a call of yard -/
def FYf (st : Sg) (k l i n : Int) : Int := (if st.2 7 k = -1 then 1 else if st.2 7 k = l then (if n < 0 then 4 else if (0 ≤ i ∧ i ≤ st.2 8 k ∧ 0 ≤ n ∧ n ≤ st.2 8 k - i) then 0 else 3) else 2)

set_option maxHeartbeats 4000000 in
set_option maxRecDepth 100000 in
theorem c_X6_yard {ad : Nat → Nat} {ta sa ca : Int → Nat} {D : va_G} {cI cT cS : ClassId} (st : Sg) (Y : Sg) (k : Int) (l : Int) (i : Int) (n : Int) (hA : Ag st Y) (hI : Inv Y) (hS : SHx st) (i_k : -2147483648 ≤ k ∧ k < 2147483648) (i_l : -2147483648 ≤ l ∧ l < 2147483648) (i_i : -2147483648 ≤ i ∧ i < 2147483648) (i_n : -2147483648 ≤ n ∧ n < 2147483648) : MC (xw ad ta sa ca D cI cT cS) yX6_yard cX6_yard 8 (some .int) { frames := 4, cells := 0, slots := 0, locals := 86 } [.ref (ad 0), .int (iI k), .int (iI l), .int (iI i), .int (iI n)] st (fun rv u => ∃ z : Int, ∃ S : Sg, rv = some (.int (iI (z))) ∧ u = S ∧ (((k < 0 ∨ 3 < k) ∧ z = -1 ∧ S = (uv st.1 9 0, st.2)) ∨ (¬ (k < 0 ∨ 3 < k) ∧ (l < 0 ∨ 2 < l) ∧ z = -2 ∧ S = (uv st.1 9 0, st.2)) ∨ (¬ (k < 0 ∨ 3 < k) ∧ ¬ (l < 0 ∨ 2 < l) ∧ (FYf st k l i n) ≠ 0 ∧ z = -10 - (FYf st k l i n) ∧ S = (uv (uv st.1 9 0) 9 (FYf st k l i n), st.2)) ∨ (¬ (k < 0 ∨ 3 < k) ∧ ¬ (l < 0 ∨ 2 < l) ∧ (FYf st k l i n) = 0 ∧ (∃ p : Int, 0 ≤ p ∧ FF (fun p => st.2 (20 + Int.toNat k) (i + p)) n p ∧ z = -100 - p) ∧ S = (uv st.1 9 0, st.2)) ∨ (¬ (k < 0 ∨ 3 < k) ∧ ¬ (l < 0 ∨ 2 < l) ∧ (FYf st k l i n) = 0 ∧ FF (fun p => st.2 (20 + Int.toNat k) (i + p)) n (-1) ∧ z = (n - 4) / 5 ∧ (S.1 = uv (uv (uv (uv (uv (uv (uv (uv (uv st.1 9 0) 1 (10 * (st.2 (20 + Int.toNat k) (i + 1) - 48) + (st.2 (20 + Int.toNat k) (i + 2) - 48))) 2 (st.2 (20 + Int.toNat k) (i + 3) - 48)) 0 ((n - 4) / 5)) 3 0) 4 0) 5 0) 6 0) 7 0 ∧ (∀ a, 4 < a → S.2 a = st.2 a) ∧ S.2 0 = fillr (st.2 0) ((n - 4) / 5) (fun f => KDc (st.2 (20 + Int.toNat k) (i + 4 + f * 5 + 1))) ∧ S.2 1 = fillr (st.2 1) ((n - 4) / 5) (fun f => st.2 (20 + Int.toNat k) (i + 4 + f * 5 + 2) - 48) ∧ S.2 2 = fillr (st.2 2) ((n - 4) / 5) (fun f => st.2 (20 + Int.toNat k) (i + 4 + f * 5 + 3) - 48) ∧ S.2 3 = fillr (st.2 3) ((n - 4) / 5) (fun f => st.2 (20 + Int.toNat k) (i + 4 + f * 5 + 4) - 48) ∧ S.2 4 = fillr (st.2 4) 10 (fun _ => 0))))) := by
  refine MC_intro RX6 (by decide) rfl (Nat.le_of_ble_eq_true rfl) ?_
  intro G H0 m hE hR
  refine k_lo [0, 1, 2, 3, 4] (lo' := [(0, .ref (ad 0)), (1, .int (iI k)), (2, .int (iI l)), (3, .int (iI i)), (4, .int (iI n))]) rfl ?_
  obtain ⟨hi0, hi1, hi2, hi3, hi4, hi5, hi6, hi7, hit, hir, him, hin⟩ := id hI
  refine k_aload_n hE dX6_yard_0 0 rfl rfl ?_
  refine k_iconst hE dX6_yard_1 ?_
  refine x_put_X6_lastFault hE fl_X6_41 dX6_yard_2 ?_
  refine k_st ((uv st.1 9 0, st.2)) rfl ?_
  refine k_iload_n hE dX6_yard_5 1 rfl rfl ?_
  refine k_callS hE (c_X6_noSheet ((uv st.1 9 0, st.2)) k (by omega)) ms_X6_noSheet ml_X6_45 rfl ⟨rfl, rfl, Nat.le_of_ble_eq_true rfl, Nat.le_of_ble_eq_true rfl⟩ [] (Nat.le_of_ble_eq_true rfl) dX6_yard_6 rfl (fun rv u hp => ?_)
  obtain ⟨z1, hv6, hu6, hz_6⟩ := hp
  try dsimp only at hz_6
  refine k_sk (sk' := [.int (iI z1)]) (by rw [hv6]; rfl) ?_
  refine k_st ((uv st.1 9 0, st.2)) hu6 ?_
  refine k_if_eq hE 14 dX6_yard_9 (by decide) (by unfold in32; omega) (fun c9 => ?_) (fun c9 => ?_)
  · refine k_iload_n hE dX6_yard_14 2 rfl rfl ?_
    refine k_callS hE (c_X6_noLane ((uv st.1 9 0, st.2)) l (by omega)) ms_X6_noLane ml_X6_49 rfl ⟨rfl, rfl, Nat.le_of_ble_eq_true rfl, Nat.le_of_ble_eq_true rfl⟩ [] (Nat.le_of_ble_eq_true rfl) dX6_yard_15 rfl (fun rv u hp => ?_)
    obtain ⟨z2, hv15, hu15, hz_15⟩ := hp
    try dsimp only at hz_15
    refine k_sk (sk' := [.int (iI z2)]) (by rw [hv15]; rfl) ?_
    refine k_st ((uv st.1 9 0, st.2)) hu15 ?_
    refine k_if_eq hE 24 dX6_yard_18 (by decide) (by unfold in32; omega) (fun c18 => ?_) (fun c18 => ?_)
    · have hk := hS.1 k (by omega) (by omega)
      refine k_aload_n hE dX6_yard_24 0 rfl rfl ?_
      refine x_get_X6_sheets hE fl_X6_36 dX6_yard_25 ?_
      refine k_iload_n hE dX6_yard_28 1 rfl rfl ?_
      refine x_ld_sheets hE (i := k) (by omega) (by omega) dX6_yard_29 ?_
      refine k_astore hE dX6_yard_30 [1, 2, 3, 4, 5, 0] (Nat.le_of_ble_eq_true rfl) (lo' := [(0, .ref (ad 0)), (1, .int (iI k)), (2, .int (iI l)), (3, .int (iI i)), (4, .int (iI n)), (5, .ref (sa k))]) rfl ?_
      refine k_aload hE dX6_yard_32 5 rfl ?_
      refine k_iload_n hE dX6_yard_34 2 rfl rfl ?_
      refine k_callV hE (c_X2_faultAsLane ((uv st.1 9 0, st.2)) k l (by omega) (by omega) (by omega) hk.1) mf_X2_faultAsLane ml_X6_52 (19 + Int.toNat k) (xW_sheet (by omega) (by omega)) rfl rfl rfl ⟨rfl, rfl, Nat.le_of_ble_eq_true rfl, Nat.le_of_ble_eq_true rfl⟩ [] (Nat.le_of_ble_eq_true rfl) dX6_yard_35 rfl (fun rv u hp => ?_)
      obtain ⟨hv35, hu35⟩ := hp
      refine k_sk (sk' := [.int (iI (if st.2 7 k = -1 then 1 else if st.2 7 k = l then 0 else 2))]) (by rw [hv35]; rfl) ?_
      refine k_st ((uv st.1 9 0, st.2)) hu35 ?_
      refine k_istore hE dX6_yard_38 [1, 2, 3, 4, 5, 6, 0] (Nat.le_of_ble_eq_true rfl) (lo' := [(0, .ref (ad 0)), (1, .int (iI k)), (2, .int (iI l)), (3, .int (iI i)), (4, .int (iI n)), (5, .ref (sa k)), (6, .int (iI (if st.2 7 k = -1 then 1 else if st.2 7 k = l then 0 else 2)))]) rfl ?_
      have rf : 0 ≤ (if st.2 7 k = -1 then (1 : Int) else if st.2 7 k = l then 0 else 2) ∧ (if st.2 7 k = -1 then (1 : Int) else if st.2 7 k = l then 0 else 2) ≤ 2 := by (repeat (first | omega | split))
      refine k_iload hE dX6_yard_40 6 rfl ?_
      refine k_if_ne hE 53 dX6_yard_42 (by decide) (by unfold in32; omega) (fun c42 => ?_) (fun c42 => ?_)
      · refine k_iload hE dX6_yard_53 6 rfl ?_
        refine k_if_ne hE 72 dX6_yard_55 (by decide) (by unfold in32; omega) (fun c55 => ?_) (fun c55 => ?_)
        · refine k_iload hE dX6_yard_72 6 rfl ?_
          refine k_if_eq hE 84 dX6_yard_74 (by decide) (by unfold in32; omega) (fun c74 => ?_) (fun c74 => ?_)
          · have fy : (FYf st k l i n) = 0 := by unfold FYf; (repeat (first | omega | split))
            have hin : (0 ≤ i ∧ i ≤ st.2 8 k ∧ 0 ≤ n ∧ n ≤ st.2 8 k - i) := by omega
            have hc0 : ∀ p : Int, 0 ≤ p → p < n → -2147483648 ≤ st.2 (20 + Int.toNat k) (i + p) ∧ st.2 (20 + Int.toNat k) (i + p) < 2147483648 := fun p p0 p1 => hS.2 k (i + p) (by omega) (by omega) (by omega) (by omega)
            refine k_aload hE dX6_yard_84 5 rfl ?_
            refine k_iload_n hE dX6_yard_86 3 rfl rfl ?_
            refine k_iload hE dX6_yard_87 4 rfl ?_
            refine k_callS hE (c_X4_firstFault ((uv st.1 9 0, st.2)) k i n (by omega) (by omega) (by omega) hc0) ms_X4_firstFault ml_X6_63 rfl ⟨rfl, rfl, Nat.le_of_ble_eq_true rfl, Nat.le_of_ble_eq_true rfl⟩ [] (Nat.le_of_ble_eq_true rfl) dX6_yard_89 rfl (fun rv u hp => ?_)
            obtain ⟨zf, hv89, hu89, hz_89, hr_89⟩ := hp
            try dsimp only at hz_89 hr_89
            refine k_sk (sk' := [.int (iI zf)]) (by rw [hv89]; rfl) ?_
            refine k_st ((uv st.1 9 0, st.2)) hu89 ?_
            refine k_istore hE dX6_yard_92 [1, 2, 3, 4, 5, 6, 7, 0] (Nat.le_of_ble_eq_true rfl) (lo' := [(0, .ref (ad 0)), (1, .int (iI k)), (2, .int (iI l)), (3, .int (iI i)), (4, .int (iI n)), (5, .ref (sa k)), (6, .int (iI (if st.2 7 k = -1 then 1 else if st.2 7 k = l then 0 else 2))), (7, .int (iI zf))]) rfl ?_
            refine k_iload hE dX6_yard_94 7 rfl ?_
            refine k_if_lt hE 105 dX6_yard_96 (by decide) (by unfold in32; omega) (fun c96 => ?_) (fun c96 => ?_)
            · have em : zf = -1 := by omega
              rw [em] at hz_89
              have hgw : (∀ j : Int, 0 ≤ j → j < n → GW j (st.2 (20 + Int.toNat k) (i + j))) ∧ 4 < n ∧ (n - 4) % 5 = 0 := by
                rcases hz_89 with ⟨p, p0, p1, p2, p3, p4, p5⟩ | ⟨a1, a2, a3, a4, a5⟩ | ⟨a1, a2, a3, a4⟩ | ⟨a1, a2, a3, a4, a5⟩
                · omega
                · omega
                · omega
                · exact ⟨a1, a3, a4⟩
              have h34 := FF_34 (c := fun p => st.2 (20 + Int.toNat k) (i + p)) hgw.1
              refine k_aload_n hE dX6_yard_105 0 rfl rfl ?_
              refine x_get_X6_yard hE fl_X6_12 dX6_yard_106 ?_
              refine k_aload hE dX6_yard_109 5 rfl ?_
              refine k_iload_n hE dX6_yard_111 3 rfl rfl ?_
              refine k_iload hE dX6_yard_112 4 rfl ?_
              refine k_callV hE (c_X5_readFrom ((uv st.1 9 0, st.2)) k i n (by omega) (by omega) (by omega) hgw.2.2 hc0) mf_X5_readFrom ml_X6_69 1 rfl rfl rfl rfl ⟨rfl, rfl, Nat.le_of_ble_eq_true rfl, Nat.le_of_ble_eq_true rfl⟩ [] (Nat.le_of_ble_eq_true rfl) dX6_yard_114 rfl (fun rv u hp => ?_)
              obtain ⟨S1, hv114, hu114, e1_114, e2_114, f0_114, f1_114, f2_114, f3_114, f4_114⟩ := hp
              try dsimp only at e1_114 e2_114 f0_114 f1_114 f2_114 f3_114 f4_114
              refine k_sk (sk' := []) (by rw [hv114]; rfl) ?_
              refine k_st S1 hu114 ?_
              refine k_aload_n hE dX6_yard_117 0 rfl rfl ?_
              refine x_get_X6_marks hE fl_X6_30 dX6_yard_118 ?_
              refine k_iconst hE dX6_yard_121 ?_
              refine x_put_X1_count hE fl_X6_73 dX6_yard_122 ?_
              refine k_st ((uv S1.1 7 0, S1.2)) rfl ?_
              refine k_aload_n hE dX6_yard_125 0 rfl rfl ?_
              refine x_get_X6_yard hE fl_X6_12 dX6_yard_126 ?_
              refine x_get_X5_tapCount hE (z := (n - 4) / 5) (by show uv S1.1 7 0 0 = _; rw [uv_n _ _ (by decide), e1_114]; rfl) fl_X6_76 dX6_yard_129 ?_
              exact k_iret hR dX6_yard_132 rfl ⟨_, _, rfl, rfl, Or.inr (Or.inr (Or.inr (Or.inr ⟨by omega, by omega, fy, hz_89, rfl, by show uv S1.1 7 0 = _; rw [e1_114], e2_114, f0_114, f1_114, f2_114, f3_114, f4_114⟩)))⟩
            · refine k_bipush hE dX6_yard_99 rfl ?_
              refine k_iload hE dX6_yard_101 7 rfl ?_
              refine k_isub hE dX6_yard_103 ?_
              exact k_iret hR dX6_yard_104 rfl ⟨_, _, rfl, rfl, Or.inr (Or.inr (Or.inr (Or.inl ⟨by omega, by omega, fy, ⟨zf, by omega, hz_89, rfl⟩, rfl⟩)))⟩
          · refine k_aload_n hE dX6_yard_77 0 rfl rfl ?_
            refine k_iload hE dX6_yard_78 6 rfl ?_
            refine k_callV hE (c_X6_failBy ((uv st.1 9 0, st.2)) (if st.2 7 k = -1 then 1 else if st.2 7 k = l then 0 else 2)) mf_X6_failBy ml_X6_60 0 rfl rfl rfl rfl ⟨rfl, rfl, Nat.le_of_ble_eq_true rfl, Nat.le_of_ble_eq_true rfl⟩ [] (Nat.le_of_ble_eq_true rfl) dX6_yard_80 rfl (fun rv u hp => ?_)
            obtain ⟨hv80, hu80⟩ := hp
            refine k_sk (sk' := [.int (iI (-10 - (if st.2 7 k = -1 then 1 else if st.2 7 k = l then 0 else 2)))]) (by rw [hv80]; rfl) ?_
            refine k_st ((uv (uv st.1 9 0) 9 ((if st.2 7 k = -1 then 1 else if st.2 7 k = l then 0 else 2)), st.2)) hu80 ?_
            refine k_iret hR dX6_yard_83 rfl ?_
            have fe : (if st.2 7 k = -1 then 1 else if st.2 7 k = l then 0 else 2) = (FYf st k l i n) := by unfold FYf; (repeat (first | omega | split))
            refine ⟨_, _, rfl, rfl, Or.inr (Or.inr (Or.inl ⟨by omega, by omega, by rw [← fe]; omega, ?_, ?_⟩))⟩
            · rw [← fe]
            · rw [← fe]
        · refine k_aload hE dX6_yard_58 5 rfl ?_
          refine k_iload_n hE dX6_yard_60 3 rfl rfl ?_
          refine k_iload hE dX6_yard_61 4 rfl ?_
          refine k_callV hE (c_X2_hasCells ((uv st.1 9 0, st.2)) k i n (by omega) (by omega) (by omega) (by omega) hk.2) mf_X2_hasCells ml_X6_56 (19 + Int.toNat k) (xW_sheet (by omega) (by omega)) rfl rfl rfl ⟨rfl, rfl, Nat.le_of_ble_eq_true rfl, Nat.le_of_ble_eq_true rfl⟩ [] (Nat.le_of_ble_eq_true rfl) dX6_yard_63 rfl (fun rv u hp => ?_)
          obtain ⟨z3, hv63, hu63, hz_63⟩ := hp
          try dsimp only at hz_63
          refine k_sk (sk' := [.int (iI z3)]) (by rw [hv63]; rfl) ?_
          refine k_st ((uv st.1 9 0, st.2)) hu63 ?_
          refine k_if_ne hE 72 dX6_yard_66 (by decide) (by unfold in32; omega) (fun c66 => ?_) (fun c66 => ?_)
          · refine k_iload hE dX6_yard_72 6 rfl ?_
            refine k_if_eq hE 84 dX6_yard_74 (by decide) (by unfold in32; omega) (fun c74 => ?_) (fun c74 => ?_)
            · have fy : (FYf st k l i n) = 0 := by unfold FYf; (repeat (first | omega | split))
              have hin : (0 ≤ i ∧ i ≤ st.2 8 k ∧ 0 ≤ n ∧ n ≤ st.2 8 k - i) := by omega
              have hc0 : ∀ p : Int, 0 ≤ p → p < n → -2147483648 ≤ st.2 (20 + Int.toNat k) (i + p) ∧ st.2 (20 + Int.toNat k) (i + p) < 2147483648 := fun p p0 p1 => hS.2 k (i + p) (by omega) (by omega) (by omega) (by omega)
              refine k_aload hE dX6_yard_84 5 rfl ?_
              refine k_iload_n hE dX6_yard_86 3 rfl rfl ?_
              refine k_iload hE dX6_yard_87 4 rfl ?_
              refine k_callS hE (c_X4_firstFault ((uv st.1 9 0, st.2)) k i n (by omega) (by omega) (by omega) hc0) ms_X4_firstFault ml_X6_63 rfl ⟨rfl, rfl, Nat.le_of_ble_eq_true rfl, Nat.le_of_ble_eq_true rfl⟩ [] (Nat.le_of_ble_eq_true rfl) dX6_yard_89 rfl (fun rv u hp => ?_)
              obtain ⟨zf, hv89, hu89, hz_89, hr_89⟩ := hp
              try dsimp only at hz_89 hr_89
              refine k_sk (sk' := [.int (iI zf)]) (by rw [hv89]; rfl) ?_
              refine k_st ((uv st.1 9 0, st.2)) hu89 ?_
              refine k_istore hE dX6_yard_92 [1, 2, 3, 4, 5, 6, 7, 0] (Nat.le_of_ble_eq_true rfl) (lo' := [(0, .ref (ad 0)), (1, .int (iI k)), (2, .int (iI l)), (3, .int (iI i)), (4, .int (iI n)), (5, .ref (sa k)), (6, .int (iI (if st.2 7 k = -1 then 1 else if st.2 7 k = l then 0 else 2))), (7, .int (iI zf))]) rfl ?_
              refine k_iload hE dX6_yard_94 7 rfl ?_
              refine k_if_lt hE 105 dX6_yard_96 (by decide) (by unfold in32; omega) (fun c96 => ?_) (fun c96 => ?_)
              · have em : zf = -1 := by omega
                rw [em] at hz_89
                have hgw : (∀ j : Int, 0 ≤ j → j < n → GW j (st.2 (20 + Int.toNat k) (i + j))) ∧ 4 < n ∧ (n - 4) % 5 = 0 := by
                  rcases hz_89 with ⟨p, p0, p1, p2, p3, p4, p5⟩ | ⟨a1, a2, a3, a4, a5⟩ | ⟨a1, a2, a3, a4⟩ | ⟨a1, a2, a3, a4, a5⟩
                  · omega
                  · omega
                  · omega
                  · exact ⟨a1, a3, a4⟩
                have h34 := FF_34 (c := fun p => st.2 (20 + Int.toNat k) (i + p)) hgw.1
                refine k_aload_n hE dX6_yard_105 0 rfl rfl ?_
                refine x_get_X6_yard hE fl_X6_12 dX6_yard_106 ?_
                refine k_aload hE dX6_yard_109 5 rfl ?_
                refine k_iload_n hE dX6_yard_111 3 rfl rfl ?_
                refine k_iload hE dX6_yard_112 4 rfl ?_
                refine k_callV hE (c_X5_readFrom ((uv st.1 9 0, st.2)) k i n (by omega) (by omega) (by omega) hgw.2.2 hc0) mf_X5_readFrom ml_X6_69 1 rfl rfl rfl rfl ⟨rfl, rfl, Nat.le_of_ble_eq_true rfl, Nat.le_of_ble_eq_true rfl⟩ [] (Nat.le_of_ble_eq_true rfl) dX6_yard_114 rfl (fun rv u hp => ?_)
                obtain ⟨S1, hv114, hu114, e1_114, e2_114, f0_114, f1_114, f2_114, f3_114, f4_114⟩ := hp
                try dsimp only at e1_114 e2_114 f0_114 f1_114 f2_114 f3_114 f4_114
                refine k_sk (sk' := []) (by rw [hv114]; rfl) ?_
                refine k_st S1 hu114 ?_
                refine k_aload_n hE dX6_yard_117 0 rfl rfl ?_
                refine x_get_X6_marks hE fl_X6_30 dX6_yard_118 ?_
                refine k_iconst hE dX6_yard_121 ?_
                refine x_put_X1_count hE fl_X6_73 dX6_yard_122 ?_
                refine k_st ((uv S1.1 7 0, S1.2)) rfl ?_
                refine k_aload_n hE dX6_yard_125 0 rfl rfl ?_
                refine x_get_X6_yard hE fl_X6_12 dX6_yard_126 ?_
                refine x_get_X5_tapCount hE (z := (n - 4) / 5) (by show uv S1.1 7 0 0 = _; rw [uv_n _ _ (by decide), e1_114]; rfl) fl_X6_76 dX6_yard_129 ?_
                exact k_iret hR dX6_yard_132 rfl ⟨_, _, rfl, rfl, Or.inr (Or.inr (Or.inr (Or.inr ⟨by omega, by omega, fy, hz_89, rfl, by show uv S1.1 7 0 = _; rw [e1_114], e2_114, f0_114, f1_114, f2_114, f3_114, f4_114⟩)))⟩
              · refine k_bipush hE dX6_yard_99 rfl ?_
                refine k_iload hE dX6_yard_101 7 rfl ?_
                refine k_isub hE dX6_yard_103 ?_
                exact k_iret hR dX6_yard_104 rfl ⟨_, _, rfl, rfl, Or.inr (Or.inr (Or.inr (Or.inl ⟨by omega, by omega, fy, ⟨zf, by omega, hz_89, rfl⟩, rfl⟩)))⟩
            · refine k_aload_n hE dX6_yard_77 0 rfl rfl ?_
              refine k_iload hE dX6_yard_78 6 rfl ?_
              refine k_callV hE (c_X6_failBy ((uv st.1 9 0, st.2)) (if st.2 7 k = -1 then 1 else if st.2 7 k = l then 0 else 2)) mf_X6_failBy ml_X6_60 0 rfl rfl rfl rfl ⟨rfl, rfl, Nat.le_of_ble_eq_true rfl, Nat.le_of_ble_eq_true rfl⟩ [] (Nat.le_of_ble_eq_true rfl) dX6_yard_80 rfl (fun rv u hp => ?_)
              obtain ⟨hv80, hu80⟩ := hp
              refine k_sk (sk' := [.int (iI (-10 - (if st.2 7 k = -1 then 1 else if st.2 7 k = l then 0 else 2)))]) (by rw [hv80]; rfl) ?_
              refine k_st ((uv (uv st.1 9 0) 9 ((if st.2 7 k = -1 then 1 else if st.2 7 k = l then 0 else 2)), st.2)) hu80 ?_
              refine k_iret hR dX6_yard_83 rfl ?_
              have fe : (if st.2 7 k = -1 then 1 else if st.2 7 k = l then 0 else 2) = (FYf st k l i n) := by unfold FYf; (repeat (first | omega | split))
              refine ⟨_, _, rfl, rfl, Or.inr (Or.inr (Or.inl ⟨by omega, by omega, by rw [← fe]; omega, ?_, ?_⟩))⟩
              · rw [← fe]
              · rw [← fe]
          · refine k_iconst hE dX6_yard_69 ?_
            refine k_istore hE dX6_yard_70 [1, 2, 3, 4, 5, 6, 0] (Nat.le_of_ble_eq_true rfl) (lo' := [(0, .ref (ad 0)), (1, .int (iI k)), (2, .int (iI l)), (3, .int (iI i)), (4, .int (iI n)), (5, .ref (sa k)), (6, .int (iI 3))]) rfl ?_
            refine k_iload hE dX6_yard_72 6 rfl ?_
            refine k_if_eq hE 84 dX6_yard_74 (by decide) (by unfold in32; omega) (fun c74 => ?_) (fun c74 => ?_)
            · have fy : (FYf st k l i n) = 0 := by unfold FYf; (repeat (first | omega | split))
              have hin : (0 ≤ i ∧ i ≤ st.2 8 k ∧ 0 ≤ n ∧ n ≤ st.2 8 k - i) := by omega
              have hc0 : ∀ p : Int, 0 ≤ p → p < n → -2147483648 ≤ st.2 (20 + Int.toNat k) (i + p) ∧ st.2 (20 + Int.toNat k) (i + p) < 2147483648 := fun p p0 p1 => hS.2 k (i + p) (by omega) (by omega) (by omega) (by omega)
              refine k_aload hE dX6_yard_84 5 rfl ?_
              refine k_iload_n hE dX6_yard_86 3 rfl rfl ?_
              refine k_iload hE dX6_yard_87 4 rfl ?_
              refine k_callS hE (c_X4_firstFault ((uv st.1 9 0, st.2)) k i n (by omega) (by omega) (by omega) hc0) ms_X4_firstFault ml_X6_63 rfl ⟨rfl, rfl, Nat.le_of_ble_eq_true rfl, Nat.le_of_ble_eq_true rfl⟩ [] (Nat.le_of_ble_eq_true rfl) dX6_yard_89 rfl (fun rv u hp => ?_)
              obtain ⟨zf, hv89, hu89, hz_89, hr_89⟩ := hp
              try dsimp only at hz_89 hr_89
              refine k_sk (sk' := [.int (iI zf)]) (by rw [hv89]; rfl) ?_
              refine k_st ((uv st.1 9 0, st.2)) hu89 ?_
              refine k_istore hE dX6_yard_92 [1, 2, 3, 4, 5, 6, 7, 0] (Nat.le_of_ble_eq_true rfl) (lo' := [(0, .ref (ad 0)), (1, .int (iI k)), (2, .int (iI l)), (3, .int (iI i)), (4, .int (iI n)), (5, .ref (sa k)), (6, .int (iI 3)), (7, .int (iI zf))]) rfl ?_
              refine k_iload hE dX6_yard_94 7 rfl ?_
              refine k_if_lt hE 105 dX6_yard_96 (by decide) (by unfold in32; omega) (fun c96 => ?_) (fun c96 => ?_)
              · have em : zf = -1 := by omega
                rw [em] at hz_89
                have hgw : (∀ j : Int, 0 ≤ j → j < n → GW j (st.2 (20 + Int.toNat k) (i + j))) ∧ 4 < n ∧ (n - 4) % 5 = 0 := by
                  rcases hz_89 with ⟨p, p0, p1, p2, p3, p4, p5⟩ | ⟨a1, a2, a3, a4, a5⟩ | ⟨a1, a2, a3, a4⟩ | ⟨a1, a2, a3, a4, a5⟩
                  · omega
                  · omega
                  · omega
                  · exact ⟨a1, a3, a4⟩
                have h34 := FF_34 (c := fun p => st.2 (20 + Int.toNat k) (i + p)) hgw.1
                refine k_aload_n hE dX6_yard_105 0 rfl rfl ?_
                refine x_get_X6_yard hE fl_X6_12 dX6_yard_106 ?_
                refine k_aload hE dX6_yard_109 5 rfl ?_
                refine k_iload_n hE dX6_yard_111 3 rfl rfl ?_
                refine k_iload hE dX6_yard_112 4 rfl ?_
                refine k_callV hE (c_X5_readFrom ((uv st.1 9 0, st.2)) k i n (by omega) (by omega) (by omega) hgw.2.2 hc0) mf_X5_readFrom ml_X6_69 1 rfl rfl rfl rfl ⟨rfl, rfl, Nat.le_of_ble_eq_true rfl, Nat.le_of_ble_eq_true rfl⟩ [] (Nat.le_of_ble_eq_true rfl) dX6_yard_114 rfl (fun rv u hp => ?_)
                obtain ⟨S1, hv114, hu114, e1_114, e2_114, f0_114, f1_114, f2_114, f3_114, f4_114⟩ := hp
                try dsimp only at e1_114 e2_114 f0_114 f1_114 f2_114 f3_114 f4_114
                refine k_sk (sk' := []) (by rw [hv114]; rfl) ?_
                refine k_st S1 hu114 ?_
                refine k_aload_n hE dX6_yard_117 0 rfl rfl ?_
                refine x_get_X6_marks hE fl_X6_30 dX6_yard_118 ?_
                refine k_iconst hE dX6_yard_121 ?_
                refine x_put_X1_count hE fl_X6_73 dX6_yard_122 ?_
                refine k_st ((uv S1.1 7 0, S1.2)) rfl ?_
                refine k_aload_n hE dX6_yard_125 0 rfl rfl ?_
                refine x_get_X6_yard hE fl_X6_12 dX6_yard_126 ?_
                refine x_get_X5_tapCount hE (z := (n - 4) / 5) (by show uv S1.1 7 0 0 = _; rw [uv_n _ _ (by decide), e1_114]; rfl) fl_X6_76 dX6_yard_129 ?_
                exact k_iret hR dX6_yard_132 rfl ⟨_, _, rfl, rfl, Or.inr (Or.inr (Or.inr (Or.inr ⟨by omega, by omega, fy, hz_89, rfl, by show uv S1.1 7 0 = _; rw [e1_114], e2_114, f0_114, f1_114, f2_114, f3_114, f4_114⟩)))⟩
              · refine k_bipush hE dX6_yard_99 rfl ?_
                refine k_iload hE dX6_yard_101 7 rfl ?_
                refine k_isub hE dX6_yard_103 ?_
                exact k_iret hR dX6_yard_104 rfl ⟨_, _, rfl, rfl, Or.inr (Or.inr (Or.inr (Or.inl ⟨by omega, by omega, fy, ⟨zf, by omega, hz_89, rfl⟩, rfl⟩)))⟩
            · refine k_aload_n hE dX6_yard_77 0 rfl rfl ?_
              refine k_iload hE dX6_yard_78 6 rfl ?_
              refine k_callV hE (c_X6_failBy ((uv st.1 9 0, st.2)) 3) mf_X6_failBy ml_X6_60 0 rfl rfl rfl rfl ⟨rfl, rfl, Nat.le_of_ble_eq_true rfl, Nat.le_of_ble_eq_true rfl⟩ [] (Nat.le_of_ble_eq_true rfl) dX6_yard_80 rfl (fun rv u hp => ?_)
              obtain ⟨hv80, hu80⟩ := hp
              refine k_sk (sk' := [.int (iI (-10 - 3))]) (by rw [hv80]; rfl) ?_
              refine k_st ((uv (uv st.1 9 0) 9 3, st.2)) hu80 ?_
              refine k_iret hR dX6_yard_83 rfl ?_
              have fe : 3 = (FYf st k l i n) := by unfold FYf; (repeat (first | omega | split))
              refine ⟨_, _, rfl, rfl, Or.inr (Or.inr (Or.inl ⟨by omega, by omega, by rw [← fe]; omega, ?_, ?_⟩))⟩
              · rw [← fe]
              · rw [← fe]
      · refine k_iload hE dX6_yard_45 4 rfl ?_
        refine k_if_ge hE 53 dX6_yard_47 (by decide) (by unfold in32; omega) (fun c47 => ?_) (fun c47 => ?_)
        · refine k_iload hE dX6_yard_53 6 rfl ?_
          refine k_if_ne hE 72 dX6_yard_55 (by decide) (by unfold in32; omega) (fun c55 => ?_) (fun c55 => ?_)
          · refine k_iload hE dX6_yard_72 6 rfl ?_
            refine k_if_eq hE 84 dX6_yard_74 (by decide) (by unfold in32; omega) (fun c74 => ?_) (fun c74 => ?_)
            · have fy : (FYf st k l i n) = 0 := by unfold FYf; (repeat (first | omega | split))
              have hin : (0 ≤ i ∧ i ≤ st.2 8 k ∧ 0 ≤ n ∧ n ≤ st.2 8 k - i) := by omega
              have hc0 : ∀ p : Int, 0 ≤ p → p < n → -2147483648 ≤ st.2 (20 + Int.toNat k) (i + p) ∧ st.2 (20 + Int.toNat k) (i + p) < 2147483648 := fun p p0 p1 => hS.2 k (i + p) (by omega) (by omega) (by omega) (by omega)
              refine k_aload hE dX6_yard_84 5 rfl ?_
              refine k_iload_n hE dX6_yard_86 3 rfl rfl ?_
              refine k_iload hE dX6_yard_87 4 rfl ?_
              refine k_callS hE (c_X4_firstFault ((uv st.1 9 0, st.2)) k i n (by omega) (by omega) (by omega) hc0) ms_X4_firstFault ml_X6_63 rfl ⟨rfl, rfl, Nat.le_of_ble_eq_true rfl, Nat.le_of_ble_eq_true rfl⟩ [] (Nat.le_of_ble_eq_true rfl) dX6_yard_89 rfl (fun rv u hp => ?_)
              obtain ⟨zf, hv89, hu89, hz_89, hr_89⟩ := hp
              try dsimp only at hz_89 hr_89
              refine k_sk (sk' := [.int (iI zf)]) (by rw [hv89]; rfl) ?_
              refine k_st ((uv st.1 9 0, st.2)) hu89 ?_
              refine k_istore hE dX6_yard_92 [1, 2, 3, 4, 5, 6, 7, 0] (Nat.le_of_ble_eq_true rfl) (lo' := [(0, .ref (ad 0)), (1, .int (iI k)), (2, .int (iI l)), (3, .int (iI i)), (4, .int (iI n)), (5, .ref (sa k)), (6, .int (iI (if st.2 7 k = -1 then 1 else if st.2 7 k = l then 0 else 2))), (7, .int (iI zf))]) rfl ?_
              refine k_iload hE dX6_yard_94 7 rfl ?_
              refine k_if_lt hE 105 dX6_yard_96 (by decide) (by unfold in32; omega) (fun c96 => ?_) (fun c96 => ?_)
              · have em : zf = -1 := by omega
                rw [em] at hz_89
                have hgw : (∀ j : Int, 0 ≤ j → j < n → GW j (st.2 (20 + Int.toNat k) (i + j))) ∧ 4 < n ∧ (n - 4) % 5 = 0 := by
                  rcases hz_89 with ⟨p, p0, p1, p2, p3, p4, p5⟩ | ⟨a1, a2, a3, a4, a5⟩ | ⟨a1, a2, a3, a4⟩ | ⟨a1, a2, a3, a4, a5⟩
                  · omega
                  · omega
                  · omega
                  · exact ⟨a1, a3, a4⟩
                have h34 := FF_34 (c := fun p => st.2 (20 + Int.toNat k) (i + p)) hgw.1
                refine k_aload_n hE dX6_yard_105 0 rfl rfl ?_
                refine x_get_X6_yard hE fl_X6_12 dX6_yard_106 ?_
                refine k_aload hE dX6_yard_109 5 rfl ?_
                refine k_iload_n hE dX6_yard_111 3 rfl rfl ?_
                refine k_iload hE dX6_yard_112 4 rfl ?_
                refine k_callV hE (c_X5_readFrom ((uv st.1 9 0, st.2)) k i n (by omega) (by omega) (by omega) hgw.2.2 hc0) mf_X5_readFrom ml_X6_69 1 rfl rfl rfl rfl ⟨rfl, rfl, Nat.le_of_ble_eq_true rfl, Nat.le_of_ble_eq_true rfl⟩ [] (Nat.le_of_ble_eq_true rfl) dX6_yard_114 rfl (fun rv u hp => ?_)
                obtain ⟨S1, hv114, hu114, e1_114, e2_114, f0_114, f1_114, f2_114, f3_114, f4_114⟩ := hp
                try dsimp only at e1_114 e2_114 f0_114 f1_114 f2_114 f3_114 f4_114
                refine k_sk (sk' := []) (by rw [hv114]; rfl) ?_
                refine k_st S1 hu114 ?_
                refine k_aload_n hE dX6_yard_117 0 rfl rfl ?_
                refine x_get_X6_marks hE fl_X6_30 dX6_yard_118 ?_
                refine k_iconst hE dX6_yard_121 ?_
                refine x_put_X1_count hE fl_X6_73 dX6_yard_122 ?_
                refine k_st ((uv S1.1 7 0, S1.2)) rfl ?_
                refine k_aload_n hE dX6_yard_125 0 rfl rfl ?_
                refine x_get_X6_yard hE fl_X6_12 dX6_yard_126 ?_
                refine x_get_X5_tapCount hE (z := (n - 4) / 5) (by show uv S1.1 7 0 0 = _; rw [uv_n _ _ (by decide), e1_114]; rfl) fl_X6_76 dX6_yard_129 ?_
                exact k_iret hR dX6_yard_132 rfl ⟨_, _, rfl, rfl, Or.inr (Or.inr (Or.inr (Or.inr ⟨by omega, by omega, fy, hz_89, rfl, by show uv S1.1 7 0 = _; rw [e1_114], e2_114, f0_114, f1_114, f2_114, f3_114, f4_114⟩)))⟩
              · refine k_bipush hE dX6_yard_99 rfl ?_
                refine k_iload hE dX6_yard_101 7 rfl ?_
                refine k_isub hE dX6_yard_103 ?_
                exact k_iret hR dX6_yard_104 rfl ⟨_, _, rfl, rfl, Or.inr (Or.inr (Or.inr (Or.inl ⟨by omega, by omega, fy, ⟨zf, by omega, hz_89, rfl⟩, rfl⟩)))⟩
            · refine k_aload_n hE dX6_yard_77 0 rfl rfl ?_
              refine k_iload hE dX6_yard_78 6 rfl ?_
              refine k_callV hE (c_X6_failBy ((uv st.1 9 0, st.2)) (if st.2 7 k = -1 then 1 else if st.2 7 k = l then 0 else 2)) mf_X6_failBy ml_X6_60 0 rfl rfl rfl rfl ⟨rfl, rfl, Nat.le_of_ble_eq_true rfl, Nat.le_of_ble_eq_true rfl⟩ [] (Nat.le_of_ble_eq_true rfl) dX6_yard_80 rfl (fun rv u hp => ?_)
              obtain ⟨hv80, hu80⟩ := hp
              refine k_sk (sk' := [.int (iI (-10 - (if st.2 7 k = -1 then 1 else if st.2 7 k = l then 0 else 2)))]) (by rw [hv80]; rfl) ?_
              refine k_st ((uv (uv st.1 9 0) 9 ((if st.2 7 k = -1 then 1 else if st.2 7 k = l then 0 else 2)), st.2)) hu80 ?_
              refine k_iret hR dX6_yard_83 rfl ?_
              have fe : (if st.2 7 k = -1 then 1 else if st.2 7 k = l then 0 else 2) = (FYf st k l i n) := by unfold FYf; (repeat (first | omega | split))
              refine ⟨_, _, rfl, rfl, Or.inr (Or.inr (Or.inl ⟨by omega, by omega, by rw [← fe]; omega, ?_, ?_⟩))⟩
              · rw [← fe]
              · rw [← fe]
          · refine k_aload hE dX6_yard_58 5 rfl ?_
            refine k_iload_n hE dX6_yard_60 3 rfl rfl ?_
            refine k_iload hE dX6_yard_61 4 rfl ?_
            refine k_callV hE (c_X2_hasCells ((uv st.1 9 0, st.2)) k i n (by omega) (by omega) (by omega) (by omega) hk.2) mf_X2_hasCells ml_X6_56 (19 + Int.toNat k) (xW_sheet (by omega) (by omega)) rfl rfl rfl ⟨rfl, rfl, Nat.le_of_ble_eq_true rfl, Nat.le_of_ble_eq_true rfl⟩ [] (Nat.le_of_ble_eq_true rfl) dX6_yard_63 rfl (fun rv u hp => ?_)
            obtain ⟨z4, hv63, hu63, hz_63⟩ := hp
            try dsimp only at hz_63
            refine k_sk (sk' := [.int (iI z4)]) (by rw [hv63]; rfl) ?_
            refine k_st ((uv st.1 9 0, st.2)) hu63 ?_
            refine k_if_ne hE 72 dX6_yard_66 (by decide) (by unfold in32; omega) (fun c66 => ?_) (fun c66 => ?_)
            · refine k_iload hE dX6_yard_72 6 rfl ?_
              refine k_if_eq hE 84 dX6_yard_74 (by decide) (by unfold in32; omega) (fun c74 => ?_) (fun c74 => ?_)
              · have fy : (FYf st k l i n) = 0 := by unfold FYf; (repeat (first | omega | split))
                have hin : (0 ≤ i ∧ i ≤ st.2 8 k ∧ 0 ≤ n ∧ n ≤ st.2 8 k - i) := by omega
                have hc0 : ∀ p : Int, 0 ≤ p → p < n → -2147483648 ≤ st.2 (20 + Int.toNat k) (i + p) ∧ st.2 (20 + Int.toNat k) (i + p) < 2147483648 := fun p p0 p1 => hS.2 k (i + p) (by omega) (by omega) (by omega) (by omega)
                refine k_aload hE dX6_yard_84 5 rfl ?_
                refine k_iload_n hE dX6_yard_86 3 rfl rfl ?_
                refine k_iload hE dX6_yard_87 4 rfl ?_
                refine k_callS hE (c_X4_firstFault ((uv st.1 9 0, st.2)) k i n (by omega) (by omega) (by omega) hc0) ms_X4_firstFault ml_X6_63 rfl ⟨rfl, rfl, Nat.le_of_ble_eq_true rfl, Nat.le_of_ble_eq_true rfl⟩ [] (Nat.le_of_ble_eq_true rfl) dX6_yard_89 rfl (fun rv u hp => ?_)
                obtain ⟨zf, hv89, hu89, hz_89, hr_89⟩ := hp
                try dsimp only at hz_89 hr_89
                refine k_sk (sk' := [.int (iI zf)]) (by rw [hv89]; rfl) ?_
                refine k_st ((uv st.1 9 0, st.2)) hu89 ?_
                refine k_istore hE dX6_yard_92 [1, 2, 3, 4, 5, 6, 7, 0] (Nat.le_of_ble_eq_true rfl) (lo' := [(0, .ref (ad 0)), (1, .int (iI k)), (2, .int (iI l)), (3, .int (iI i)), (4, .int (iI n)), (5, .ref (sa k)), (6, .int (iI (if st.2 7 k = -1 then 1 else if st.2 7 k = l then 0 else 2))), (7, .int (iI zf))]) rfl ?_
                refine k_iload hE dX6_yard_94 7 rfl ?_
                refine k_if_lt hE 105 dX6_yard_96 (by decide) (by unfold in32; omega) (fun c96 => ?_) (fun c96 => ?_)
                · have em : zf = -1 := by omega
                  rw [em] at hz_89
                  have hgw : (∀ j : Int, 0 ≤ j → j < n → GW j (st.2 (20 + Int.toNat k) (i + j))) ∧ 4 < n ∧ (n - 4) % 5 = 0 := by
                    rcases hz_89 with ⟨p, p0, p1, p2, p3, p4, p5⟩ | ⟨a1, a2, a3, a4, a5⟩ | ⟨a1, a2, a3, a4⟩ | ⟨a1, a2, a3, a4, a5⟩
                    · omega
                    · omega
                    · omega
                    · exact ⟨a1, a3, a4⟩
                  have h34 := FF_34 (c := fun p => st.2 (20 + Int.toNat k) (i + p)) hgw.1
                  refine k_aload_n hE dX6_yard_105 0 rfl rfl ?_
                  refine x_get_X6_yard hE fl_X6_12 dX6_yard_106 ?_
                  refine k_aload hE dX6_yard_109 5 rfl ?_
                  refine k_iload_n hE dX6_yard_111 3 rfl rfl ?_
                  refine k_iload hE dX6_yard_112 4 rfl ?_
                  refine k_callV hE (c_X5_readFrom ((uv st.1 9 0, st.2)) k i n (by omega) (by omega) (by omega) hgw.2.2 hc0) mf_X5_readFrom ml_X6_69 1 rfl rfl rfl rfl ⟨rfl, rfl, Nat.le_of_ble_eq_true rfl, Nat.le_of_ble_eq_true rfl⟩ [] (Nat.le_of_ble_eq_true rfl) dX6_yard_114 rfl (fun rv u hp => ?_)
                  obtain ⟨S1, hv114, hu114, e1_114, e2_114, f0_114, f1_114, f2_114, f3_114, f4_114⟩ := hp
                  try dsimp only at e1_114 e2_114 f0_114 f1_114 f2_114 f3_114 f4_114
                  refine k_sk (sk' := []) (by rw [hv114]; rfl) ?_
                  refine k_st S1 hu114 ?_
                  refine k_aload_n hE dX6_yard_117 0 rfl rfl ?_
                  refine x_get_X6_marks hE fl_X6_30 dX6_yard_118 ?_
                  refine k_iconst hE dX6_yard_121 ?_
                  refine x_put_X1_count hE fl_X6_73 dX6_yard_122 ?_
                  refine k_st ((uv S1.1 7 0, S1.2)) rfl ?_
                  refine k_aload_n hE dX6_yard_125 0 rfl rfl ?_
                  refine x_get_X6_yard hE fl_X6_12 dX6_yard_126 ?_
                  refine x_get_X5_tapCount hE (z := (n - 4) / 5) (by show uv S1.1 7 0 0 = _; rw [uv_n _ _ (by decide), e1_114]; rfl) fl_X6_76 dX6_yard_129 ?_
                  exact k_iret hR dX6_yard_132 rfl ⟨_, _, rfl, rfl, Or.inr (Or.inr (Or.inr (Or.inr ⟨by omega, by omega, fy, hz_89, rfl, by show uv S1.1 7 0 = _; rw [e1_114], e2_114, f0_114, f1_114, f2_114, f3_114, f4_114⟩)))⟩
                · refine k_bipush hE dX6_yard_99 rfl ?_
                  refine k_iload hE dX6_yard_101 7 rfl ?_
                  refine k_isub hE dX6_yard_103 ?_
                  exact k_iret hR dX6_yard_104 rfl ⟨_, _, rfl, rfl, Or.inr (Or.inr (Or.inr (Or.inl ⟨by omega, by omega, fy, ⟨zf, by omega, hz_89, rfl⟩, rfl⟩)))⟩
              · refine k_aload_n hE dX6_yard_77 0 rfl rfl ?_
                refine k_iload hE dX6_yard_78 6 rfl ?_
                refine k_callV hE (c_X6_failBy ((uv st.1 9 0, st.2)) (if st.2 7 k = -1 then 1 else if st.2 7 k = l then 0 else 2)) mf_X6_failBy ml_X6_60 0 rfl rfl rfl rfl ⟨rfl, rfl, Nat.le_of_ble_eq_true rfl, Nat.le_of_ble_eq_true rfl⟩ [] (Nat.le_of_ble_eq_true rfl) dX6_yard_80 rfl (fun rv u hp => ?_)
                obtain ⟨hv80, hu80⟩ := hp
                refine k_sk (sk' := [.int (iI (-10 - (if st.2 7 k = -1 then 1 else if st.2 7 k = l then 0 else 2)))]) (by rw [hv80]; rfl) ?_
                refine k_st ((uv (uv st.1 9 0) 9 ((if st.2 7 k = -1 then 1 else if st.2 7 k = l then 0 else 2)), st.2)) hu80 ?_
                refine k_iret hR dX6_yard_83 rfl ?_
                have fe : (if st.2 7 k = -1 then 1 else if st.2 7 k = l then 0 else 2) = (FYf st k l i n) := by unfold FYf; (repeat (first | omega | split))
                refine ⟨_, _, rfl, rfl, Or.inr (Or.inr (Or.inl ⟨by omega, by omega, by rw [← fe]; omega, ?_, ?_⟩))⟩
                · rw [← fe]
                · rw [← fe]
            · refine k_iconst hE dX6_yard_69 ?_
              refine k_istore hE dX6_yard_70 [1, 2, 3, 4, 5, 6, 0] (Nat.le_of_ble_eq_true rfl) (lo' := [(0, .ref (ad 0)), (1, .int (iI k)), (2, .int (iI l)), (3, .int (iI i)), (4, .int (iI n)), (5, .ref (sa k)), (6, .int (iI 3))]) rfl ?_
              refine k_iload hE dX6_yard_72 6 rfl ?_
              refine k_if_eq hE 84 dX6_yard_74 (by decide) (by unfold in32; omega) (fun c74 => ?_) (fun c74 => ?_)
              · have fy : (FYf st k l i n) = 0 := by unfold FYf; (repeat (first | omega | split))
                have hin : (0 ≤ i ∧ i ≤ st.2 8 k ∧ 0 ≤ n ∧ n ≤ st.2 8 k - i) := by omega
                have hc0 : ∀ p : Int, 0 ≤ p → p < n → -2147483648 ≤ st.2 (20 + Int.toNat k) (i + p) ∧ st.2 (20 + Int.toNat k) (i + p) < 2147483648 := fun p p0 p1 => hS.2 k (i + p) (by omega) (by omega) (by omega) (by omega)
                refine k_aload hE dX6_yard_84 5 rfl ?_
                refine k_iload_n hE dX6_yard_86 3 rfl rfl ?_
                refine k_iload hE dX6_yard_87 4 rfl ?_
                refine k_callS hE (c_X4_firstFault ((uv st.1 9 0, st.2)) k i n (by omega) (by omega) (by omega) hc0) ms_X4_firstFault ml_X6_63 rfl ⟨rfl, rfl, Nat.le_of_ble_eq_true rfl, Nat.le_of_ble_eq_true rfl⟩ [] (Nat.le_of_ble_eq_true rfl) dX6_yard_89 rfl (fun rv u hp => ?_)
                obtain ⟨zf, hv89, hu89, hz_89, hr_89⟩ := hp
                try dsimp only at hz_89 hr_89
                refine k_sk (sk' := [.int (iI zf)]) (by rw [hv89]; rfl) ?_
                refine k_st ((uv st.1 9 0, st.2)) hu89 ?_
                refine k_istore hE dX6_yard_92 [1, 2, 3, 4, 5, 6, 7, 0] (Nat.le_of_ble_eq_true rfl) (lo' := [(0, .ref (ad 0)), (1, .int (iI k)), (2, .int (iI l)), (3, .int (iI i)), (4, .int (iI n)), (5, .ref (sa k)), (6, .int (iI 3)), (7, .int (iI zf))]) rfl ?_
                refine k_iload hE dX6_yard_94 7 rfl ?_
                refine k_if_lt hE 105 dX6_yard_96 (by decide) (by unfold in32; omega) (fun c96 => ?_) (fun c96 => ?_)
                · have em : zf = -1 := by omega
                  rw [em] at hz_89
                  have hgw : (∀ j : Int, 0 ≤ j → j < n → GW j (st.2 (20 + Int.toNat k) (i + j))) ∧ 4 < n ∧ (n - 4) % 5 = 0 := by
                    rcases hz_89 with ⟨p, p0, p1, p2, p3, p4, p5⟩ | ⟨a1, a2, a3, a4, a5⟩ | ⟨a1, a2, a3, a4⟩ | ⟨a1, a2, a3, a4, a5⟩
                    · omega
                    · omega
                    · omega
                    · exact ⟨a1, a3, a4⟩
                  have h34 := FF_34 (c := fun p => st.2 (20 + Int.toNat k) (i + p)) hgw.1
                  refine k_aload_n hE dX6_yard_105 0 rfl rfl ?_
                  refine x_get_X6_yard hE fl_X6_12 dX6_yard_106 ?_
                  refine k_aload hE dX6_yard_109 5 rfl ?_
                  refine k_iload_n hE dX6_yard_111 3 rfl rfl ?_
                  refine k_iload hE dX6_yard_112 4 rfl ?_
                  refine k_callV hE (c_X5_readFrom ((uv st.1 9 0, st.2)) k i n (by omega) (by omega) (by omega) hgw.2.2 hc0) mf_X5_readFrom ml_X6_69 1 rfl rfl rfl rfl ⟨rfl, rfl, Nat.le_of_ble_eq_true rfl, Nat.le_of_ble_eq_true rfl⟩ [] (Nat.le_of_ble_eq_true rfl) dX6_yard_114 rfl (fun rv u hp => ?_)
                  obtain ⟨S1, hv114, hu114, e1_114, e2_114, f0_114, f1_114, f2_114, f3_114, f4_114⟩ := hp
                  try dsimp only at e1_114 e2_114 f0_114 f1_114 f2_114 f3_114 f4_114
                  refine k_sk (sk' := []) (by rw [hv114]; rfl) ?_
                  refine k_st S1 hu114 ?_
                  refine k_aload_n hE dX6_yard_117 0 rfl rfl ?_
                  refine x_get_X6_marks hE fl_X6_30 dX6_yard_118 ?_
                  refine k_iconst hE dX6_yard_121 ?_
                  refine x_put_X1_count hE fl_X6_73 dX6_yard_122 ?_
                  refine k_st ((uv S1.1 7 0, S1.2)) rfl ?_
                  refine k_aload_n hE dX6_yard_125 0 rfl rfl ?_
                  refine x_get_X6_yard hE fl_X6_12 dX6_yard_126 ?_
                  refine x_get_X5_tapCount hE (z := (n - 4) / 5) (by show uv S1.1 7 0 0 = _; rw [uv_n _ _ (by decide), e1_114]; rfl) fl_X6_76 dX6_yard_129 ?_
                  exact k_iret hR dX6_yard_132 rfl ⟨_, _, rfl, rfl, Or.inr (Or.inr (Or.inr (Or.inr ⟨by omega, by omega, fy, hz_89, rfl, by show uv S1.1 7 0 = _; rw [e1_114], e2_114, f0_114, f1_114, f2_114, f3_114, f4_114⟩)))⟩
                · refine k_bipush hE dX6_yard_99 rfl ?_
                  refine k_iload hE dX6_yard_101 7 rfl ?_
                  refine k_isub hE dX6_yard_103 ?_
                  exact k_iret hR dX6_yard_104 rfl ⟨_, _, rfl, rfl, Or.inr (Or.inr (Or.inr (Or.inl ⟨by omega, by omega, fy, ⟨zf, by omega, hz_89, rfl⟩, rfl⟩)))⟩
              · refine k_aload_n hE dX6_yard_77 0 rfl rfl ?_
                refine k_iload hE dX6_yard_78 6 rfl ?_
                refine k_callV hE (c_X6_failBy ((uv st.1 9 0, st.2)) 3) mf_X6_failBy ml_X6_60 0 rfl rfl rfl rfl ⟨rfl, rfl, Nat.le_of_ble_eq_true rfl, Nat.le_of_ble_eq_true rfl⟩ [] (Nat.le_of_ble_eq_true rfl) dX6_yard_80 rfl (fun rv u hp => ?_)
                obtain ⟨hv80, hu80⟩ := hp
                refine k_sk (sk' := [.int (iI (-10 - 3))]) (by rw [hv80]; rfl) ?_
                refine k_st ((uv (uv st.1 9 0) 9 3, st.2)) hu80 ?_
                refine k_iret hR dX6_yard_83 rfl ?_
                have fe : 3 = (FYf st k l i n) := by unfold FYf; (repeat (first | omega | split))
                refine ⟨_, _, rfl, rfl, Or.inr (Or.inr (Or.inl ⟨by omega, by omega, by rw [← fe]; omega, ?_, ?_⟩))⟩
                · rw [← fe]
                · rw [← fe]
        · refine k_iconst hE dX6_yard_50 ?_
          refine k_istore hE dX6_yard_51 [1, 2, 3, 4, 5, 6, 0] (Nat.le_of_ble_eq_true rfl) (lo' := [(0, .ref (ad 0)), (1, .int (iI k)), (2, .int (iI l)), (3, .int (iI i)), (4, .int (iI n)), (5, .ref (sa k)), (6, .int (iI 4))]) rfl ?_
          refine k_iload hE dX6_yard_53 6 rfl ?_
          refine k_if_ne hE 72 dX6_yard_55 (by decide) (by unfold in32; omega) (fun c55 => ?_) (fun c55 => ?_)
          · refine k_iload hE dX6_yard_72 6 rfl ?_
            refine k_if_eq hE 84 dX6_yard_74 (by decide) (by unfold in32; omega) (fun c74 => ?_) (fun c74 => ?_)
            · have fy : (FYf st k l i n) = 0 := by unfold FYf; (repeat (first | omega | split))
              have hin : (0 ≤ i ∧ i ≤ st.2 8 k ∧ 0 ≤ n ∧ n ≤ st.2 8 k - i) := by omega
              have hc0 : ∀ p : Int, 0 ≤ p → p < n → -2147483648 ≤ st.2 (20 + Int.toNat k) (i + p) ∧ st.2 (20 + Int.toNat k) (i + p) < 2147483648 := fun p p0 p1 => hS.2 k (i + p) (by omega) (by omega) (by omega) (by omega)
              refine k_aload hE dX6_yard_84 5 rfl ?_
              refine k_iload_n hE dX6_yard_86 3 rfl rfl ?_
              refine k_iload hE dX6_yard_87 4 rfl ?_
              refine k_callS hE (c_X4_firstFault ((uv st.1 9 0, st.2)) k i n (by omega) (by omega) (by omega) hc0) ms_X4_firstFault ml_X6_63 rfl ⟨rfl, rfl, Nat.le_of_ble_eq_true rfl, Nat.le_of_ble_eq_true rfl⟩ [] (Nat.le_of_ble_eq_true rfl) dX6_yard_89 rfl (fun rv u hp => ?_)
              obtain ⟨zf, hv89, hu89, hz_89, hr_89⟩ := hp
              try dsimp only at hz_89 hr_89
              refine k_sk (sk' := [.int (iI zf)]) (by rw [hv89]; rfl) ?_
              refine k_st ((uv st.1 9 0, st.2)) hu89 ?_
              refine k_istore hE dX6_yard_92 [1, 2, 3, 4, 5, 6, 7, 0] (Nat.le_of_ble_eq_true rfl) (lo' := [(0, .ref (ad 0)), (1, .int (iI k)), (2, .int (iI l)), (3, .int (iI i)), (4, .int (iI n)), (5, .ref (sa k)), (6, .int (iI 4)), (7, .int (iI zf))]) rfl ?_
              refine k_iload hE dX6_yard_94 7 rfl ?_
              refine k_if_lt hE 105 dX6_yard_96 (by decide) (by unfold in32; omega) (fun c96 => ?_) (fun c96 => ?_)
              · have em : zf = -1 := by omega
                rw [em] at hz_89
                have hgw : (∀ j : Int, 0 ≤ j → j < n → GW j (st.2 (20 + Int.toNat k) (i + j))) ∧ 4 < n ∧ (n - 4) % 5 = 0 := by
                  rcases hz_89 with ⟨p, p0, p1, p2, p3, p4, p5⟩ | ⟨a1, a2, a3, a4, a5⟩ | ⟨a1, a2, a3, a4⟩ | ⟨a1, a2, a3, a4, a5⟩
                  · omega
                  · omega
                  · omega
                  · exact ⟨a1, a3, a4⟩
                have h34 := FF_34 (c := fun p => st.2 (20 + Int.toNat k) (i + p)) hgw.1
                refine k_aload_n hE dX6_yard_105 0 rfl rfl ?_
                refine x_get_X6_yard hE fl_X6_12 dX6_yard_106 ?_
                refine k_aload hE dX6_yard_109 5 rfl ?_
                refine k_iload_n hE dX6_yard_111 3 rfl rfl ?_
                refine k_iload hE dX6_yard_112 4 rfl ?_
                refine k_callV hE (c_X5_readFrom ((uv st.1 9 0, st.2)) k i n (by omega) (by omega) (by omega) hgw.2.2 hc0) mf_X5_readFrom ml_X6_69 1 rfl rfl rfl rfl ⟨rfl, rfl, Nat.le_of_ble_eq_true rfl, Nat.le_of_ble_eq_true rfl⟩ [] (Nat.le_of_ble_eq_true rfl) dX6_yard_114 rfl (fun rv u hp => ?_)
                obtain ⟨S1, hv114, hu114, e1_114, e2_114, f0_114, f1_114, f2_114, f3_114, f4_114⟩ := hp
                try dsimp only at e1_114 e2_114 f0_114 f1_114 f2_114 f3_114 f4_114
                refine k_sk (sk' := []) (by rw [hv114]; rfl) ?_
                refine k_st S1 hu114 ?_
                refine k_aload_n hE dX6_yard_117 0 rfl rfl ?_
                refine x_get_X6_marks hE fl_X6_30 dX6_yard_118 ?_
                refine k_iconst hE dX6_yard_121 ?_
                refine x_put_X1_count hE fl_X6_73 dX6_yard_122 ?_
                refine k_st ((uv S1.1 7 0, S1.2)) rfl ?_
                refine k_aload_n hE dX6_yard_125 0 rfl rfl ?_
                refine x_get_X6_yard hE fl_X6_12 dX6_yard_126 ?_
                refine x_get_X5_tapCount hE (z := (n - 4) / 5) (by show uv S1.1 7 0 0 = _; rw [uv_n _ _ (by decide), e1_114]; rfl) fl_X6_76 dX6_yard_129 ?_
                exact k_iret hR dX6_yard_132 rfl ⟨_, _, rfl, rfl, Or.inr (Or.inr (Or.inr (Or.inr ⟨by omega, by omega, fy, hz_89, rfl, by show uv S1.1 7 0 = _; rw [e1_114], e2_114, f0_114, f1_114, f2_114, f3_114, f4_114⟩)))⟩
              · refine k_bipush hE dX6_yard_99 rfl ?_
                refine k_iload hE dX6_yard_101 7 rfl ?_
                refine k_isub hE dX6_yard_103 ?_
                exact k_iret hR dX6_yard_104 rfl ⟨_, _, rfl, rfl, Or.inr (Or.inr (Or.inr (Or.inl ⟨by omega, by omega, fy, ⟨zf, by omega, hz_89, rfl⟩, rfl⟩)))⟩
            · refine k_aload_n hE dX6_yard_77 0 rfl rfl ?_
              refine k_iload hE dX6_yard_78 6 rfl ?_
              refine k_callV hE (c_X6_failBy ((uv st.1 9 0, st.2)) 4) mf_X6_failBy ml_X6_60 0 rfl rfl rfl rfl ⟨rfl, rfl, Nat.le_of_ble_eq_true rfl, Nat.le_of_ble_eq_true rfl⟩ [] (Nat.le_of_ble_eq_true rfl) dX6_yard_80 rfl (fun rv u hp => ?_)
              obtain ⟨hv80, hu80⟩ := hp
              refine k_sk (sk' := [.int (iI (-10 - 4))]) (by rw [hv80]; rfl) ?_
              refine k_st ((uv (uv st.1 9 0) 9 4, st.2)) hu80 ?_
              refine k_iret hR dX6_yard_83 rfl ?_
              have fe : 4 = (FYf st k l i n) := by unfold FYf; (repeat (first | omega | split))
              refine ⟨_, _, rfl, rfl, Or.inr (Or.inr (Or.inl ⟨by omega, by omega, by rw [← fe]; omega, ?_, ?_⟩))⟩
              · rw [← fe]
              · rw [← fe]
          · refine k_aload hE dX6_yard_58 5 rfl ?_
            refine k_iload_n hE dX6_yard_60 3 rfl rfl ?_
            refine k_iload hE dX6_yard_61 4 rfl ?_
            refine k_callV hE (c_X2_hasCells ((uv st.1 9 0, st.2)) k i n (by omega) (by omega) (by omega) (by omega) hk.2) mf_X2_hasCells ml_X6_56 (19 + Int.toNat k) (xW_sheet (by omega) (by omega)) rfl rfl rfl ⟨rfl, rfl, Nat.le_of_ble_eq_true rfl, Nat.le_of_ble_eq_true rfl⟩ [] (Nat.le_of_ble_eq_true rfl) dX6_yard_63 rfl (fun rv u hp => ?_)
            obtain ⟨z5, hv63, hu63, hz_63⟩ := hp
            try dsimp only at hz_63
            refine k_sk (sk' := [.int (iI z5)]) (by rw [hv63]; rfl) ?_
            refine k_st ((uv st.1 9 0, st.2)) hu63 ?_
            refine k_if_ne hE 72 dX6_yard_66 (by decide) (by unfold in32; omega) (fun c66 => ?_) (fun c66 => ?_)
            · refine k_iload hE dX6_yard_72 6 rfl ?_
              refine k_if_eq hE 84 dX6_yard_74 (by decide) (by unfold in32; omega) (fun c74 => ?_) (fun c74 => ?_)
              · have fy : (FYf st k l i n) = 0 := by unfold FYf; (repeat (first | omega | split))
                have hin : (0 ≤ i ∧ i ≤ st.2 8 k ∧ 0 ≤ n ∧ n ≤ st.2 8 k - i) := by omega
                have hc0 : ∀ p : Int, 0 ≤ p → p < n → -2147483648 ≤ st.2 (20 + Int.toNat k) (i + p) ∧ st.2 (20 + Int.toNat k) (i + p) < 2147483648 := fun p p0 p1 => hS.2 k (i + p) (by omega) (by omega) (by omega) (by omega)
                refine k_aload hE dX6_yard_84 5 rfl ?_
                refine k_iload_n hE dX6_yard_86 3 rfl rfl ?_
                refine k_iload hE dX6_yard_87 4 rfl ?_
                refine k_callS hE (c_X4_firstFault ((uv st.1 9 0, st.2)) k i n (by omega) (by omega) (by omega) hc0) ms_X4_firstFault ml_X6_63 rfl ⟨rfl, rfl, Nat.le_of_ble_eq_true rfl, Nat.le_of_ble_eq_true rfl⟩ [] (Nat.le_of_ble_eq_true rfl) dX6_yard_89 rfl (fun rv u hp => ?_)
                obtain ⟨zf, hv89, hu89, hz_89, hr_89⟩ := hp
                try dsimp only at hz_89 hr_89
                refine k_sk (sk' := [.int (iI zf)]) (by rw [hv89]; rfl) ?_
                refine k_st ((uv st.1 9 0, st.2)) hu89 ?_
                refine k_istore hE dX6_yard_92 [1, 2, 3, 4, 5, 6, 7, 0] (Nat.le_of_ble_eq_true rfl) (lo' := [(0, .ref (ad 0)), (1, .int (iI k)), (2, .int (iI l)), (3, .int (iI i)), (4, .int (iI n)), (5, .ref (sa k)), (6, .int (iI 4)), (7, .int (iI zf))]) rfl ?_
                refine k_iload hE dX6_yard_94 7 rfl ?_
                refine k_if_lt hE 105 dX6_yard_96 (by decide) (by unfold in32; omega) (fun c96 => ?_) (fun c96 => ?_)
                · have em : zf = -1 := by omega
                  rw [em] at hz_89
                  have hgw : (∀ j : Int, 0 ≤ j → j < n → GW j (st.2 (20 + Int.toNat k) (i + j))) ∧ 4 < n ∧ (n - 4) % 5 = 0 := by
                    rcases hz_89 with ⟨p, p0, p1, p2, p3, p4, p5⟩ | ⟨a1, a2, a3, a4, a5⟩ | ⟨a1, a2, a3, a4⟩ | ⟨a1, a2, a3, a4, a5⟩
                    · omega
                    · omega
                    · omega
                    · exact ⟨a1, a3, a4⟩
                  have h34 := FF_34 (c := fun p => st.2 (20 + Int.toNat k) (i + p)) hgw.1
                  refine k_aload_n hE dX6_yard_105 0 rfl rfl ?_
                  refine x_get_X6_yard hE fl_X6_12 dX6_yard_106 ?_
                  refine k_aload hE dX6_yard_109 5 rfl ?_
                  refine k_iload_n hE dX6_yard_111 3 rfl rfl ?_
                  refine k_iload hE dX6_yard_112 4 rfl ?_
                  refine k_callV hE (c_X5_readFrom ((uv st.1 9 0, st.2)) k i n (by omega) (by omega) (by omega) hgw.2.2 hc0) mf_X5_readFrom ml_X6_69 1 rfl rfl rfl rfl ⟨rfl, rfl, Nat.le_of_ble_eq_true rfl, Nat.le_of_ble_eq_true rfl⟩ [] (Nat.le_of_ble_eq_true rfl) dX6_yard_114 rfl (fun rv u hp => ?_)
                  obtain ⟨S1, hv114, hu114, e1_114, e2_114, f0_114, f1_114, f2_114, f3_114, f4_114⟩ := hp
                  try dsimp only at e1_114 e2_114 f0_114 f1_114 f2_114 f3_114 f4_114
                  refine k_sk (sk' := []) (by rw [hv114]; rfl) ?_
                  refine k_st S1 hu114 ?_
                  refine k_aload_n hE dX6_yard_117 0 rfl rfl ?_
                  refine x_get_X6_marks hE fl_X6_30 dX6_yard_118 ?_
                  refine k_iconst hE dX6_yard_121 ?_
                  refine x_put_X1_count hE fl_X6_73 dX6_yard_122 ?_
                  refine k_st ((uv S1.1 7 0, S1.2)) rfl ?_
                  refine k_aload_n hE dX6_yard_125 0 rfl rfl ?_
                  refine x_get_X6_yard hE fl_X6_12 dX6_yard_126 ?_
                  refine x_get_X5_tapCount hE (z := (n - 4) / 5) (by show uv S1.1 7 0 0 = _; rw [uv_n _ _ (by decide), e1_114]; rfl) fl_X6_76 dX6_yard_129 ?_
                  exact k_iret hR dX6_yard_132 rfl ⟨_, _, rfl, rfl, Or.inr (Or.inr (Or.inr (Or.inr ⟨by omega, by omega, fy, hz_89, rfl, by show uv S1.1 7 0 = _; rw [e1_114], e2_114, f0_114, f1_114, f2_114, f3_114, f4_114⟩)))⟩
                · refine k_bipush hE dX6_yard_99 rfl ?_
                  refine k_iload hE dX6_yard_101 7 rfl ?_
                  refine k_isub hE dX6_yard_103 ?_
                  exact k_iret hR dX6_yard_104 rfl ⟨_, _, rfl, rfl, Or.inr (Or.inr (Or.inr (Or.inl ⟨by omega, by omega, fy, ⟨zf, by omega, hz_89, rfl⟩, rfl⟩)))⟩
              · refine k_aload_n hE dX6_yard_77 0 rfl rfl ?_
                refine k_iload hE dX6_yard_78 6 rfl ?_
                refine k_callV hE (c_X6_failBy ((uv st.1 9 0, st.2)) 4) mf_X6_failBy ml_X6_60 0 rfl rfl rfl rfl ⟨rfl, rfl, Nat.le_of_ble_eq_true rfl, Nat.le_of_ble_eq_true rfl⟩ [] (Nat.le_of_ble_eq_true rfl) dX6_yard_80 rfl (fun rv u hp => ?_)
                obtain ⟨hv80, hu80⟩ := hp
                refine k_sk (sk' := [.int (iI (-10 - 4))]) (by rw [hv80]; rfl) ?_
                refine k_st ((uv (uv st.1 9 0) 9 4, st.2)) hu80 ?_
                refine k_iret hR dX6_yard_83 rfl ?_
                have fe : 4 = (FYf st k l i n) := by unfold FYf; (repeat (first | omega | split))
                refine ⟨_, _, rfl, rfl, Or.inr (Or.inr (Or.inl ⟨by omega, by omega, by rw [← fe]; omega, ?_, ?_⟩))⟩
                · rw [← fe]
                · rw [← fe]
            · refine k_iconst hE dX6_yard_69 ?_
              refine k_istore hE dX6_yard_70 [1, 2, 3, 4, 5, 6, 0] (Nat.le_of_ble_eq_true rfl) (lo' := [(0, .ref (ad 0)), (1, .int (iI k)), (2, .int (iI l)), (3, .int (iI i)), (4, .int (iI n)), (5, .ref (sa k)), (6, .int (iI 3))]) rfl ?_
              refine k_iload hE dX6_yard_72 6 rfl ?_
              refine k_if_eq hE 84 dX6_yard_74 (by decide) (by unfold in32; omega) (fun c74 => ?_) (fun c74 => ?_)
              · have fy : (FYf st k l i n) = 0 := by unfold FYf; (repeat (first | omega | split))
                have hin : (0 ≤ i ∧ i ≤ st.2 8 k ∧ 0 ≤ n ∧ n ≤ st.2 8 k - i) := by omega
                have hc0 : ∀ p : Int, 0 ≤ p → p < n → -2147483648 ≤ st.2 (20 + Int.toNat k) (i + p) ∧ st.2 (20 + Int.toNat k) (i + p) < 2147483648 := fun p p0 p1 => hS.2 k (i + p) (by omega) (by omega) (by omega) (by omega)
                refine k_aload hE dX6_yard_84 5 rfl ?_
                refine k_iload_n hE dX6_yard_86 3 rfl rfl ?_
                refine k_iload hE dX6_yard_87 4 rfl ?_
                refine k_callS hE (c_X4_firstFault ((uv st.1 9 0, st.2)) k i n (by omega) (by omega) (by omega) hc0) ms_X4_firstFault ml_X6_63 rfl ⟨rfl, rfl, Nat.le_of_ble_eq_true rfl, Nat.le_of_ble_eq_true rfl⟩ [] (Nat.le_of_ble_eq_true rfl) dX6_yard_89 rfl (fun rv u hp => ?_)
                obtain ⟨zf, hv89, hu89, hz_89, hr_89⟩ := hp
                try dsimp only at hz_89 hr_89
                refine k_sk (sk' := [.int (iI zf)]) (by rw [hv89]; rfl) ?_
                refine k_st ((uv st.1 9 0, st.2)) hu89 ?_
                refine k_istore hE dX6_yard_92 [1, 2, 3, 4, 5, 6, 7, 0] (Nat.le_of_ble_eq_true rfl) (lo' := [(0, .ref (ad 0)), (1, .int (iI k)), (2, .int (iI l)), (3, .int (iI i)), (4, .int (iI n)), (5, .ref (sa k)), (6, .int (iI 3)), (7, .int (iI zf))]) rfl ?_
                refine k_iload hE dX6_yard_94 7 rfl ?_
                refine k_if_lt hE 105 dX6_yard_96 (by decide) (by unfold in32; omega) (fun c96 => ?_) (fun c96 => ?_)
                · have em : zf = -1 := by omega
                  rw [em] at hz_89
                  have hgw : (∀ j : Int, 0 ≤ j → j < n → GW j (st.2 (20 + Int.toNat k) (i + j))) ∧ 4 < n ∧ (n - 4) % 5 = 0 := by
                    rcases hz_89 with ⟨p, p0, p1, p2, p3, p4, p5⟩ | ⟨a1, a2, a3, a4, a5⟩ | ⟨a1, a2, a3, a4⟩ | ⟨a1, a2, a3, a4, a5⟩
                    · omega
                    · omega
                    · omega
                    · exact ⟨a1, a3, a4⟩
                  have h34 := FF_34 (c := fun p => st.2 (20 + Int.toNat k) (i + p)) hgw.1
                  refine k_aload_n hE dX6_yard_105 0 rfl rfl ?_
                  refine x_get_X6_yard hE fl_X6_12 dX6_yard_106 ?_
                  refine k_aload hE dX6_yard_109 5 rfl ?_
                  refine k_iload_n hE dX6_yard_111 3 rfl rfl ?_
                  refine k_iload hE dX6_yard_112 4 rfl ?_
                  refine k_callV hE (c_X5_readFrom ((uv st.1 9 0, st.2)) k i n (by omega) (by omega) (by omega) hgw.2.2 hc0) mf_X5_readFrom ml_X6_69 1 rfl rfl rfl rfl ⟨rfl, rfl, Nat.le_of_ble_eq_true rfl, Nat.le_of_ble_eq_true rfl⟩ [] (Nat.le_of_ble_eq_true rfl) dX6_yard_114 rfl (fun rv u hp => ?_)
                  obtain ⟨S1, hv114, hu114, e1_114, e2_114, f0_114, f1_114, f2_114, f3_114, f4_114⟩ := hp
                  try dsimp only at e1_114 e2_114 f0_114 f1_114 f2_114 f3_114 f4_114
                  refine k_sk (sk' := []) (by rw [hv114]; rfl) ?_
                  refine k_st S1 hu114 ?_
                  refine k_aload_n hE dX6_yard_117 0 rfl rfl ?_
                  refine x_get_X6_marks hE fl_X6_30 dX6_yard_118 ?_
                  refine k_iconst hE dX6_yard_121 ?_
                  refine x_put_X1_count hE fl_X6_73 dX6_yard_122 ?_
                  refine k_st ((uv S1.1 7 0, S1.2)) rfl ?_
                  refine k_aload_n hE dX6_yard_125 0 rfl rfl ?_
                  refine x_get_X6_yard hE fl_X6_12 dX6_yard_126 ?_
                  refine x_get_X5_tapCount hE (z := (n - 4) / 5) (by show uv S1.1 7 0 0 = _; rw [uv_n _ _ (by decide), e1_114]; rfl) fl_X6_76 dX6_yard_129 ?_
                  exact k_iret hR dX6_yard_132 rfl ⟨_, _, rfl, rfl, Or.inr (Or.inr (Or.inr (Or.inr ⟨by omega, by omega, fy, hz_89, rfl, by show uv S1.1 7 0 = _; rw [e1_114], e2_114, f0_114, f1_114, f2_114, f3_114, f4_114⟩)))⟩
                · refine k_bipush hE dX6_yard_99 rfl ?_
                  refine k_iload hE dX6_yard_101 7 rfl ?_
                  refine k_isub hE dX6_yard_103 ?_
                  exact k_iret hR dX6_yard_104 rfl ⟨_, _, rfl, rfl, Or.inr (Or.inr (Or.inr (Or.inl ⟨by omega, by omega, fy, ⟨zf, by omega, hz_89, rfl⟩, rfl⟩)))⟩
              · refine k_aload_n hE dX6_yard_77 0 rfl rfl ?_
                refine k_iload hE dX6_yard_78 6 rfl ?_
                refine k_callV hE (c_X6_failBy ((uv st.1 9 0, st.2)) 3) mf_X6_failBy ml_X6_60 0 rfl rfl rfl rfl ⟨rfl, rfl, Nat.le_of_ble_eq_true rfl, Nat.le_of_ble_eq_true rfl⟩ [] (Nat.le_of_ble_eq_true rfl) dX6_yard_80 rfl (fun rv u hp => ?_)
                obtain ⟨hv80, hu80⟩ := hp
                refine k_sk (sk' := [.int (iI (-10 - 3))]) (by rw [hv80]; rfl) ?_
                refine k_st ((uv (uv st.1 9 0) 9 3, st.2)) hu80 ?_
                refine k_iret hR dX6_yard_83 rfl ?_
                have fe : 3 = (FYf st k l i n) := by unfold FYf; (repeat (first | omega | split))
                refine ⟨_, _, rfl, rfl, Or.inr (Or.inr (Or.inl ⟨by omega, by omega, by rw [← fe]; omega, ?_, ?_⟩))⟩
                · rw [← fe]
                · rw [← fe]
    · refine k_bipush hE dX6_yard_21 rfl ?_
      exact k_iret hR dX6_yard_23 rfl ⟨_, _, rfl, rfl, Or.inr (Or.inl ⟨by omega, by omega, rfl, rfl⟩)⟩
  · refine k_iconst hE dX6_yard_12 ?_
    exact k_iret hR dX6_yard_13 rfl ⟨_, _, rfl, rfl, Or.inl ⟨by omega, rfl, rfl⟩⟩

set_option maxHeartbeats 4000000 in
set_option maxRecDepth 100000 in
theorem c_X6_copy {ad : Nat → Nat} {ta sa ca : Int → Nat} {D : va_G} {cI cT cS : ClassId} (st : Sg) (Y : Sg) (k : Int) (i : Int) (o : Int) (j : Int) (n : Int) (hA : Ag st Y) (hI : Inv Y) (hS : SHx st) (i_k : -2147483648 ≤ k ∧ k < 2147483648) (i_i : -2147483648 ≤ i ∧ i < 2147483648) (i_o : -2147483648 ≤ o ∧ o < 2147483648) (i_j : -2147483648 ≤ j ∧ j < 2147483648) (i_n : -2147483648 ≤ n ∧ n < 2147483648) : MC (xw ad ta sa ca D cI cT cS) yX6_copy cX6_copy 8 (some .int) { frames := 2, cells := 0, slots := 0, locals := 60 } [.ref (ad 0), .int (iI k), .int (iI i), .int (iI o), .int (iI j), .int (iI n)] st (fun rv u => ∃ z : Int, ∃ S : Sg, rv = some (.int (iI (z))) ∧ u = S ∧ ((((k < 0 ∨ 3 < k) ∨ (o < 0 ∨ 3 < o)) ∧ z = -1 ∧ S = (uv st.1 9 0, st.2)) ∨ (¬ ((k < 0 ∨ 3 < k) ∨ (o < 0 ∨ 3 < o)) ∧ (st.2 7 k = -1 ∨ st.2 7 o = -1) ∧ z = -11 ∧ S = (uv (uv st.1 9 0) 9 1, st.2)) ∨ (¬ ((k < 0 ∨ 3 < k) ∨ (o < 0 ∨ 3 < o)) ∧ ¬ (st.2 7 k = -1 ∨ st.2 7 o = -1) ∧ st.2 7 k ≠ st.2 7 o ∧ z = -12 ∧ S = (uv (uv st.1 9 0) 9 2, st.2)) ∨ (¬ ((k < 0 ∨ 3 < k) ∨ (o < 0 ∨ 3 < o)) ∧ ¬ (st.2 7 k = -1 ∨ st.2 7 o = -1) ∧ st.2 7 k = st.2 7 o ∧ ¬ ((0 ≤ i ∧ i ≤ st.2 8 k ∧ 0 ≤ n ∧ n ≤ st.2 8 k - i) ∧ (0 ≤ j ∧ j ≤ st.2 8 o ∧ 0 ≤ n ∧ n ≤ st.2 8 o - j)) ∧ z = -13 ∧ S = (uv (uv st.1 9 0) 9 3, st.2)) ∨ (¬ ((k < 0 ∨ 3 < k) ∨ (o < 0 ∨ 3 < o)) ∧ ¬ (st.2 7 k = -1 ∨ st.2 7 o = -1) ∧ st.2 7 k = st.2 7 o ∧ ((0 ≤ i ∧ i ≤ st.2 8 k ∧ 0 ≤ n ∧ n ≤ st.2 8 k - i) ∧ (0 ≤ j ∧ j ≤ st.2 8 o ∧ 0 ≤ n ∧ n ≤ st.2 8 o - j)) ∧ z = n ∧ S = (uv st.1 9 0, us st.2 (20 + Int.toNat o) (cpI (st.2 (20 + Int.toNat k)) (st.2 (20 + Int.toNat o)) i j n))))) := by
  refine MC_intro RX6 (by decide) rfl (Nat.le_of_ble_eq_true rfl) ?_
  intro G H0 m hE hR
  refine k_lo [0, 1, 2, 3, 4, 5] (lo' := [(0, .ref (ad 0)), (1, .int (iI k)), (2, .int (iI i)), (3, .int (iI o)), (4, .int (iI j)), (5, .int (iI n))]) rfl ?_
  obtain ⟨hi0, hi1, hi2, hi3, hi4, hi5, hi6, hi7, hit, hir, him, hin⟩ := id hI
  refine k_aload_n hE dX6_copy_0 0 rfl rfl ?_
  refine k_iconst hE dX6_copy_1 ?_
  refine x_put_X6_lastFault hE fl_X6_41 dX6_copy_2 ?_
  refine k_st ((uv st.1 9 0, st.2)) rfl ?_
  refine k_iload_n hE dX6_copy_5 1 rfl rfl ?_
  refine k_callS hE (c_X6_noSheet ((uv st.1 9 0, st.2)) k (by omega)) ms_X6_noSheet ml_X6_45 rfl ⟨rfl, rfl, Nat.le_of_ble_eq_true rfl, Nat.le_of_ble_eq_true rfl⟩ [] (Nat.le_of_ble_eq_true rfl) dX6_copy_6 rfl (fun rv u hp => ?_)
  obtain ⟨z1, hv6, hu6, hz_6⟩ := hp
  try dsimp only at hz_6
  refine k_sk (sk' := [.int (iI z1)]) (by rw [hv6]; rfl) ?_
  refine k_st ((uv st.1 9 0, st.2)) hu6 ?_
  refine k_if_ne hE 19 dX6_copy_9 (by decide) (by unfold in32; omega) (fun c9 => ?_) (fun c9 => ?_)
  · refine k_iconst hE dX6_copy_19 ?_
    exact k_iret hR dX6_copy_20 rfl ⟨_, _, rfl, rfl, Or.inl ⟨by omega, rfl, rfl⟩⟩
  · refine k_iload_n hE dX6_copy_12 3 rfl rfl ?_
    refine k_callS hE (c_X6_noSheet ((uv st.1 9 0, st.2)) o (by omega)) ms_X6_noSheet ml_X6_45 rfl ⟨rfl, rfl, Nat.le_of_ble_eq_true rfl, Nat.le_of_ble_eq_true rfl⟩ [] (Nat.le_of_ble_eq_true rfl) dX6_copy_13 rfl (fun rv u hp => ?_)
    obtain ⟨z2, hv13, hu13, hz_13⟩ := hp
    try dsimp only at hz_13
    refine k_sk (sk' := [.int (iI z2)]) (by rw [hv13]; rfl) ?_
    refine k_st ((uv st.1 9 0, st.2)) hu13 ?_
    refine k_if_eq hE 21 dX6_copy_16 (by decide) (by unfold in32; omega) (fun c16 => ?_) (fun c16 => ?_)
    · have hk := hS.1 k (by omega) (by omega)
      have ho := hS.1 o (by omega) (by omega)
      refine k_aload_n hE dX6_copy_21 0 rfl rfl ?_
      refine x_get_X6_sheets hE fl_X6_36 dX6_copy_22 ?_
      refine k_iload_n hE dX6_copy_25 1 rfl rfl ?_
      refine x_ld_sheets hE (i := k) (by omega) (by omega) dX6_copy_26 ?_
      refine k_astore hE dX6_copy_27 [1, 2, 3, 4, 5, 6, 0] (Nat.le_of_ble_eq_true rfl) (lo' := [(0, .ref (ad 0)), (1, .int (iI k)), (2, .int (iI i)), (3, .int (iI o)), (4, .int (iI j)), (5, .int (iI n)), (6, .ref (sa k))]) rfl ?_
      refine k_aload_n hE dX6_copy_29 0 rfl rfl ?_
      refine x_get_X6_sheets hE fl_X6_36 dX6_copy_30 ?_
      refine k_iload_n hE dX6_copy_33 3 rfl rfl ?_
      refine x_ld_sheets hE (i := o) (by omega) (by omega) dX6_copy_34 ?_
      refine k_astore hE dX6_copy_35 [1, 2, 3, 4, 5, 6, 7, 0] (Nat.le_of_ble_eq_true rfl) (lo' := [(0, .ref (ad 0)), (1, .int (iI k)), (2, .int (iI i)), (3, .int (iI o)), (4, .int (iI j)), (5, .int (iI n)), (6, .ref (sa k)), (7, .ref (sa o))]) rfl ?_
      refine k_aload hE dX6_copy_37 6 rfl ?_
      refine x_get_X2_lane hE (z := st.2 7 k) (by omega) (by omega) rfl fl_X6_195 dX6_copy_39 ?_
      refine k_iconst hE dX6_copy_42 ?_
      refine k_icmp_eq hE 55 dX6_copy_43 (by decide) (by unfold in32; omega) (by unfold in32; omega) (fun c43 => ?_) (fun c43 => ?_)
      · refine k_aload_n hE dX6_copy_55 0 rfl rfl ?_
        refine k_iconst hE dX6_copy_56 ?_
        refine k_callV hE (c_X6_failBy ((uv st.1 9 0, st.2)) 1) mf_X6_failBy ml_X6_60 0 rfl rfl rfl rfl ⟨rfl, rfl, Nat.le_of_ble_eq_true rfl, Nat.le_of_ble_eq_true rfl⟩ [] (Nat.le_of_ble_eq_true rfl) dX6_copy_57 rfl (fun rv u hp => ?_)
        obtain ⟨hv57, hu57⟩ := hp
        refine k_sk (sk' := [.int (iI (-10 - 1))]) (by rw [hv57]; rfl) ?_
        refine k_st ((uv (uv st.1 9 0) 9 1, st.2)) hu57 ?_
        exact k_iret hR dX6_copy_60 rfl ⟨_, _, rfl, rfl, Or.inr (Or.inl ⟨by omega, by omega, rfl, rfl⟩)⟩
      · refine k_aload hE dX6_copy_46 7 rfl ?_
        refine x_get_X2_lane hE (z := st.2 7 o) (by omega) (by omega) rfl fl_X6_195 dX6_copy_48 ?_
        refine k_iconst hE dX6_copy_51 ?_
        refine k_icmp_ne hE 61 dX6_copy_52 (by decide) (by unfold in32; omega) (by unfold in32; omega) (fun c52 => ?_) (fun c52 => ?_)
        · refine k_aload hE dX6_copy_61 6 rfl ?_
          refine x_get_X2_lane hE (z := st.2 7 k) (by omega) (by omega) rfl fl_X6_195 dX6_copy_63 ?_
          refine k_aload hE dX6_copy_66 7 rfl ?_
          refine x_get_X2_lane hE (z := st.2 7 o) (by omega) (by omega) rfl fl_X6_195 dX6_copy_68 ?_
          refine k_icmp_eq hE 80 dX6_copy_71 (by decide) (by unfold in32; omega) (by unfold in32; omega) (fun c71 => ?_) (fun c71 => ?_)
          · refine k_aload hE dX6_copy_80 6 rfl ?_
            refine k_iload_n hE dX6_copy_82 2 rfl rfl ?_
            refine k_iload hE dX6_copy_83 5 rfl ?_
            refine k_callV hE (c_X2_hasCells ((uv st.1 9 0, st.2)) k i n (by omega) (by omega) (by omega) (by omega) hk.2) mf_X2_hasCells ml_X6_56 (19 + Int.toNat k) (xW_sheet (by omega) (by omega)) rfl rfl rfl ⟨rfl, rfl, Nat.le_of_ble_eq_true rfl, Nat.le_of_ble_eq_true rfl⟩ [] (Nat.le_of_ble_eq_true rfl) dX6_copy_85 rfl (fun rv u hp => ?_)
            obtain ⟨z3, hv85, hu85, hz_85⟩ := hp
            try dsimp only at hz_85
            refine k_sk (sk' := [.int (iI z3)]) (by rw [hv85]; rfl) ?_
            refine k_st ((uv st.1 9 0, st.2)) hu85 ?_
            refine k_if_eq hE 103 dX6_copy_88 (by decide) (by unfold in32; omega) (fun c88 => ?_) (fun c88 => ?_)
            · refine k_aload_n hE dX6_copy_103 0 rfl rfl ?_
              refine k_iconst hE dX6_copy_104 ?_
              refine k_callV hE (c_X6_failBy ((uv st.1 9 0, st.2)) 3) mf_X6_failBy ml_X6_60 0 rfl rfl rfl rfl ⟨rfl, rfl, Nat.le_of_ble_eq_true rfl, Nat.le_of_ble_eq_true rfl⟩ [] (Nat.le_of_ble_eq_true rfl) dX6_copy_105 rfl (fun rv u hp => ?_)
              obtain ⟨hv105, hu105⟩ := hp
              refine k_sk (sk' := [.int (iI (-10 - 3))]) (by rw [hv105]; rfl) ?_
              refine k_st ((uv (uv st.1 9 0) 9 3, st.2)) hu105 ?_
              exact k_iret hR dX6_copy_108 rfl ⟨_, _, rfl, rfl, Or.inr (Or.inr (Or.inr (Or.inl ⟨by omega, by omega, by omega, by omega, rfl, rfl⟩)))⟩
            · refine k_aload hE dX6_copy_91 7 rfl ?_
              refine k_iload hE dX6_copy_93 4 rfl ?_
              refine k_iload hE dX6_copy_95 5 rfl ?_
              refine k_callV hE (c_X2_hasCells ((uv st.1 9 0, st.2)) o j n (by omega) (by omega) (by omega) (by omega) ho.2) mf_X2_hasCells ml_X6_56 (19 + Int.toNat o) (xW_sheet (by omega) (by omega)) rfl rfl rfl ⟨rfl, rfl, Nat.le_of_ble_eq_true rfl, Nat.le_of_ble_eq_true rfl⟩ [] (Nat.le_of_ble_eq_true rfl) dX6_copy_97 rfl (fun rv u hp => ?_)
              obtain ⟨z4, hv97, hu97, hz_97⟩ := hp
              try dsimp only at hz_97
              refine k_sk (sk' := [.int (iI z4)]) (by rw [hv97]; rfl) ?_
              refine k_st ((uv st.1 9 0, st.2)) hu97 ?_
              refine k_if_ne hE 109 dX6_copy_100 (by decide) (by unfold in32; omega) (fun c100 => ?_) (fun c100 => ?_)
              · refine k_aload hE dX6_copy_109 6 rfl ?_
                refine x_get_X2_cells hE (by omega) (by omega) fl_X6_198 dX6_copy_111 ?_
                refine k_iload_n hE dX6_copy_114 2 rfl rfl ?_
                refine k_aload hE dX6_copy_115 7 rfl ?_
                refine x_get_X2_cells hE (by omega) (by omega) fl_X6_198 dX6_copy_117 ?_
                refine k_iload hE dX6_copy_120 4 rfl ?_
                refine k_iload hE dX6_copy_122 5 rfl ?_
                refine x_acopy hE (k := k) (o := o) (by omega) (by omega) (by omega) (by omega) (by omega) (by omega) (by omega) ml_acp dX6_copy_124 (Nat.le_of_ble_eq_true rfl) (by decide) ?_
                refine k_nm (fun S2 eS2 => ?_)
                refine k_iload hE dX6_copy_127 5 rfl ?_
                exact k_iret hR dX6_copy_129 rfl ⟨_, _, rfl, rfl, Or.inr (Or.inr (Or.inr (Or.inr ⟨by omega, by omega, by omega, by omega, rfl, eS2⟩)))⟩
              · refine k_aload_n hE dX6_copy_103 0 rfl rfl ?_
                refine k_iconst hE dX6_copy_104 ?_
                refine k_callV hE (c_X6_failBy ((uv st.1 9 0, st.2)) 3) mf_X6_failBy ml_X6_60 0 rfl rfl rfl rfl ⟨rfl, rfl, Nat.le_of_ble_eq_true rfl, Nat.le_of_ble_eq_true rfl⟩ [] (Nat.le_of_ble_eq_true rfl) dX6_copy_105 rfl (fun rv u hp => ?_)
                obtain ⟨hv105, hu105⟩ := hp
                refine k_sk (sk' := [.int (iI (-10 - 3))]) (by rw [hv105]; rfl) ?_
                refine k_st ((uv (uv st.1 9 0) 9 3, st.2)) hu105 ?_
                exact k_iret hR dX6_copy_108 rfl ⟨_, _, rfl, rfl, Or.inr (Or.inr (Or.inr (Or.inl ⟨by omega, by omega, by omega, by omega, rfl, rfl⟩)))⟩
          · refine k_aload_n hE dX6_copy_74 0 rfl rfl ?_
            refine k_iconst hE dX6_copy_75 ?_
            refine k_callV hE (c_X6_failBy ((uv st.1 9 0, st.2)) 2) mf_X6_failBy ml_X6_60 0 rfl rfl rfl rfl ⟨rfl, rfl, Nat.le_of_ble_eq_true rfl, Nat.le_of_ble_eq_true rfl⟩ [] (Nat.le_of_ble_eq_true rfl) dX6_copy_76 rfl (fun rv u hp => ?_)
            obtain ⟨hv76, hu76⟩ := hp
            refine k_sk (sk' := [.int (iI (-10 - 2))]) (by rw [hv76]; rfl) ?_
            refine k_st ((uv (uv st.1 9 0) 9 2, st.2)) hu76 ?_
            exact k_iret hR dX6_copy_79 rfl ⟨_, _, rfl, rfl, Or.inr (Or.inr (Or.inl ⟨by omega, by omega, by omega, rfl, rfl⟩))⟩
        · refine k_aload_n hE dX6_copy_55 0 rfl rfl ?_
          refine k_iconst hE dX6_copy_56 ?_
          refine k_callV hE (c_X6_failBy ((uv st.1 9 0, st.2)) 1) mf_X6_failBy ml_X6_60 0 rfl rfl rfl rfl ⟨rfl, rfl, Nat.le_of_ble_eq_true rfl, Nat.le_of_ble_eq_true rfl⟩ [] (Nat.le_of_ble_eq_true rfl) dX6_copy_57 rfl (fun rv u hp => ?_)
          obtain ⟨hv57, hu57⟩ := hp
          refine k_sk (sk' := [.int (iI (-10 - 1))]) (by rw [hv57]; rfl) ?_
          refine k_st ((uv (uv st.1 9 0) 9 1, st.2)) hu57 ?_
          exact k_iret hR dX6_copy_60 rfl ⟨_, _, rfl, rfl, Or.inr (Or.inl ⟨by omega, by omega, rfl, rfl⟩)⟩
    · refine k_iconst hE dX6_copy_19 ?_
      exact k_iret hR dX6_copy_20 rfl ⟨_, _, rfl, rfl, Or.inl ⟨by omega, rfl, rfl⟩⟩
