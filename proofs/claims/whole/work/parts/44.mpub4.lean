set_option maxHeartbeats 4000000 in
set_option maxRecDepth 100000 in
theorem c_X7_areSo {ad : Nat → Nat} {D : va_G} {cI cZ : ClassId} (st : Sg) (Y : Sg) (q : Int) (hA : AgD st Y) (hI : Inv Y) (hj : (st.1 15 = 1 ∧ q = 3) ∨ (st.1 15 = 0 ∧ q = st.1 4 ∧ 0 ≤ q ∧ q ≤ 2)) (hlw : 0 ≤ st.1 4 ∧ st.1 4 ≤ 2) (hw0 : 0 ≤ st.1 3 ∧ st.1 3 ≤ Y.1 1) (hrn : ∀ d : Int, 0 ≤ d → d < 10 → 0 ≤ st.2 4 d ∧ st.2 4 d ≤ 99) (ht : 0 ≤ st.1 16 → 0 ≤ st.1 17 ∧ st.1 17 < 6 ∧ 1 ≤ st.1 18 ∧ st.1 18 ≤ 9) (htd : -9 ≤ st.1 16 ∧ st.1 16 ≤ 9) : MC (mw ad D cI cZ) yX7_areSo cX7_areSo 2 (some .boolean) { frames := 5, cells := 0, slots := 0, locals := 112 } [.ref (ad 0)] st (fun rv u => ∃ z : Int, ∃ S : Sg, rv = some (.int (iI (z))) ∧ u = S ∧ ((z = 1 ∧ MH Y (lvT Y q (st.1 3) (st.2 4) (st.1 16) (st.1 18) (st.1 17))) ∨ (z = 0 ∧ ¬ MH Y (lvT Y q (st.1 3) (st.2 4) (st.1 16) (st.1 18) (st.1 17)))) ∧ (MX st S) ∧ ((S.1 19 = 1 ∧ (0 ≤ st.1 16 ∧ st.1 16 < 10 ∧ st.1 18 ≤ GV Y (st.1 17) (dW Y q (lvT Y q (st.1 3) (st.2 4) (st.1 16) (st.1 18) (st.1 17) (st.1 16).toNat) (st.2 4 (st.1 16))))) ∨ (S.1 19 = 0 ∧ ¬ (0 ≤ st.1 16 ∧ st.1 16 < 10 ∧ st.1 18 ≤ GV Y (st.1 17) (dW Y q (lvT Y q (st.1 3) (st.2 4) (st.1 16) (st.1 18) (st.1 17) (st.1 16).toNat) (st.2 4 (st.1 16))))))) := by
  refine MC_intro RX7 (by decide) rfl (Nat.le_of_ble_eq_true rfl) ?_
  intro G H0 m hE hR
  refine k_lo [0] (lo' := [(0, .ref (ad 0))]) rfl ?_
  obtain ⟨hi0, hi1, hi2, hi3, hi4, hi5, hi6, hi7, hit, hir, him, hin⟩ := id hI
  refine k_aload_n hE dX7_areSo_0 0 rfl rfl ?_
  refine k_bipush hE dX7_areSo_1 rfl ?_
  refine k_callV hE (c_X7_goDays st Y 10 q hA hI (by omega) hj hlw hw0 hrn ht htd) mf_X7_goDays ml_X7_189 0 rfl rfl rfl rfl ⟨rfl, rfl, Nat.le_of_ble_eq_true rfl, Nat.le_of_ble_eq_true rfl⟩ [] (Nat.le_of_ble_eq_true rfl) dX7_areSo_3 rfl (fun rv u hp => ?_)
  obtain ⟨S1, hv3, hu3, hx_3, er_3, dg_3⟩ := hp
  refine k_sk (sk' := []) (by rw [hv3]; rfl) ?_
  refine k_st S1 hu3 ?_
  have hB := hx_3.agd hA
  refine k_iconst hE dX7_areSo_6 ?_
  refine k_istore_n hE dX7_areSo_7 [1, 0] rfl (Nat.le_of_ble_eq_true rfl) (lo' := [(0, .ref (ad 0)), (1, .int (iI 0))]) rfl ?_
  have L8 : ∀ (fu8 : Nat) (k : Int), (0 ≤ k ∧ k ≤ Y.1 7) → (Y.1 7 - k < fu8) → (∀ j : Int, 0 ≤ j → j < k → lvT Y q (st.1 3) (st.2 4) (st.1 16) (st.1 18) (st.1 17) (Y.2 5 j).toNat = Y.2 6 j) → KW (mw ad D cI cZ) G H0 m 2 S1 8 [(0, .ref (ad 0)), (1, .int (iI k))] [] := by
    intro fu8
    induction fu8 with
    | zero =>
      intro k q0 q1 q2
      omega
    | succ fu8 ih8 =>
      intro k q0 q1 q2
      refine k_iload_n hE dX7_areSo_8 1 rfl rfl ?_
      refine k_aload_n hE dX7_areSo_9 0 rfl rfl ?_
      refine m_get_marks hE (z := Y.1 7) (hB.1 7 (by decide)) fl_X7_129 dX7_areSo_10 ?_
      refine k_icmp_ge hE 44 dX7_areSo_13 (by decide) (by unfold in32; omega) (by unfold in32; omega) (fun c13 => ?_) (fun c13 => ?_)
      · refine k_iconst hE dX7_areSo_44 ?_
        exact k_zret hR dX7_areSo_45 rfl (nar_b (by omega)) ⟨_, S1, rfl, rfl, Or.inl ⟨rfl, fun j j0 j1 => q2 j j0 (by omega)⟩, hx_3, dg_3⟩
      · have hk := him k (by omega) (by omega)
        have hlv := er_3.1 (Y.2 5 k).toNat (by omega)
        rw [Int.toNat_of_nonneg hk.1.1] at hlv
        refine k_aload_n hE dX7_areSo_16 0 rfl rfl ?_
        refine m_get_levels hE fl_X7_40 dX7_areSo_17 ?_
        refine k_aload_n hE dX7_areSo_20 0 rfl rfl ?_
        refine m_get_markDay hE fl_X7_63 dX7_areSo_21 ?_
        refine k_iload_n hE dX7_areSo_24 1 rfl rfl ?_
        refine m_ld_markDay hE (z := Y.2 5 k) (by omega) (by omega) (congrFun (hB.2 5 (by decide)) k) dX7_areSo_25 ?_
        refine m_ld_levels hE (z := lvT Y q (st.1 3) (st.2 4) (st.1 16) (st.1 18) (st.1 17) (Y.2 5 k).toNat) (by omega) (by omega) hlv.1 dX7_areSo_26 ?_
        refine k_aload_n hE dX7_areSo_27 0 rfl rfl ?_
        refine m_get_markLevel hE fl_X7_66 dX7_areSo_28 ?_
        refine k_iload_n hE dX7_areSo_31 1 rfl rfl ?_
        refine m_ld_markLevel hE (z := Y.2 6 k) (by omega) (by omega) (congrFun (hB.2 6 (by decide)) k) dX7_areSo_32 ?_
        refine k_icmp_eq hE 38 dX7_areSo_33 (by decide) (by unfold in32; omega) (by unfold in32; omega) (fun c33 => ?_) (fun c33 => ?_)
        · refine k_iinc hE dX7_areSo_38 1 [1, 0] rfl (Nat.le_of_ble_eq_true rfl) (lo' := [(0, .ref (ad 0)), (1, .int (iI (k + 1)))]) rfl ?_
          refine k_goto hE 8 dX7_areSo_41 (by decide) ?_
          exact ih8 _ (by omega) (by omega) (fun j j0 j1 => by
            by_cases e : j = k
            · rw [e]; omega
            · exact q2 j j0 (by omega))
        · refine k_iconst hE dX7_areSo_36 ?_
          exact k_zret hR dX7_areSo_37 rfl (nar_b (by omega)) ⟨_, S1, rfl, rfl, Or.inr ⟨rfl, fun h => by have h5 := h k (by omega) (by omega); omega⟩, hx_3, dg_3⟩
  exact L8 9 0 (by omega) (by omega) (fun j j0 j1 => by omega)

set_option maxHeartbeats 4000000 in
set_option maxRecDepth 100000 in
theorem c_X7_rains {ad : Nat → Nat} {D : va_G} {cI cZ : ClassId} (st : Sg) (Y : Sg) (d : Int) (k : Int) (hA : Ag st Y) (hI : Inv Y) (hm : st.1 15 = 0 ∧ st.1 16 = -9) (i_d : -2147483648 ≤ d ∧ d < 2147483648) (i_k : -2147483648 ≤ k ∧ k < 2147483648) : MC (mw ad D cI cZ) yX7_rains cX7_rains 8 (some .int) { frames := 6, cells := 0, slots := 0, locals := 133 } [.ref (ad 0), .int (iI d), .int (iI k)] st (fun rv u => ∃ z : Int, ∃ S : Sg, rv = some (.int (iI (z))) ∧ u = S ∧ (RN Y d k z) ∧ (MY st S)) := by
  refine MC_intro RX7 (by decide) rfl (Nat.le_of_ble_eq_true rfl) ?_
  intro G H0 m hE hR
  refine k_lo [0, 1, 2] (lo' := [(0, .ref (ad 0)), (1, .int (iI d)), (2, .int (iI k))]) rfl ?_
  obtain ⟨hi0, hi1, hi2, hi3, hi4, hi5, hi6, hi7, hit, hir, him, hin⟩ := id hI
  have a3 := hA.1 3 (by decide)
  have a4 := hA.1 4 (by decide)
  refine k_iload_n hE dX7_rains_0 1 rfl rfl ?_
  refine k_callS hE (c_X7_isDay st d (by omega)) ms_X7_isDay ml_X7_145 rfl ⟨rfl, rfl, Nat.le_of_ble_eq_true rfl, Nat.le_of_ble_eq_true rfl⟩ [] (Nat.le_of_ble_eq_true rfl) dX7_rains_1 rfl (fun rv u hp => ?_)
  obtain ⟨z1, hv1, hu1, hz_1⟩ := hp
  refine k_sk (sk' := [.int (iI z1)]) (by rw [hv1]; rfl) ?_
  refine k_st st hu1 ?_
  refine k_if_eq hE 12 dX7_rains_4 (by decide) (by unfold in32; omega) (fun c4 => ?_) (fun c4 => ?_)
  · refine k_iconst hE dX7_rains_12 ?_
    exact k_iret hR dX7_rains_13 rfl ⟨_, st, rfl, rfl, Or.inl ⟨by omega, rfl⟩, (MX.refl st).y⟩
  · refine k_iload_n hE dX7_rains_7 2 rfl rfl ?_
    refine k_iconst hE dX7_rains_8 ?_
    refine k_icmp_ge hE 14 dX7_rains_9 (by decide) (by unfold in32; omega) (by unfold in32; omega) (fun c9 => ?_) (fun c9 => ?_)
    · refine k_aload_n hE dX7_rains_14 0 rfl rfl ?_
      refine m_get_taps hE (z := Y.1 0) (hA.1 0 (by decide)) fl_X7_78 dX7_rains_15 ?_
      refine k_if_ne hE 24 dX7_rains_18 (by decide) (by unfold in32; omega) (fun c18 => ?_) (fun c18 => ?_)
      · have w1 : ¬ ((d < 0 ∨ 9 < d) ∨ k < -1) := by omega
        have w2 : Y.1 0 ≠ 0 := by omega
        refine k_aload_n hE dX7_rains_24 0 rfl rfl ?_
        refine m_get_rainOf hE fl_X7_31 dX7_rains_25 ?_
        refine k_iload_n hE dX7_rains_28 1 rfl rfl ?_
        refine m_ld_rainOf hE (z := Y.2 4 d) (by omega) (by omega) (congrFun (hA.2 4 (by decide)) d) dX7_rains_29 ?_
        refine k_istore_n hE dX7_rains_30 [1, 2, 3, 0] rfl (Nat.le_of_ble_eq_true rfl) (lo' := [(0, .ref (ad 0)), (1, .int (iI d)), (2, .int (iI k)), (3, .int (iI (Y.2 4 d)))]) rfl ?_
        refine k_iconst hE dX7_rains_31 ?_
        refine k_istore hE dX7_rains_32 [1, 2, 3, 4, 0] (Nat.le_of_ble_eq_true rfl) (lo' := [(0, .ref (ad 0)), (1, .int (iI d)), (2, .int (iI k)), (3, .int (iI (Y.2 4 d))), (4, .int (iI 0))]) rfl ?_
        refine k_bipush hE dX7_rains_34 rfl ?_
        refine k_istore hE dX7_rains_36 [1, 2, 3, 4, 5, 0] (Nat.le_of_ble_eq_true rfl) (lo' := [(0, .ref (ad 0)), (1, .int (iI d)), (2, .int (iI k)), (3, .int (iI (Y.2 4 d))), (4, .int (iI 0)), (5, .int (iI (-9)))]) rfl ?_
        refine k_iconst hE dX7_rains_38 ?_
        refine k_istore hE dX7_rains_39 [1, 2, 3, 4, 5, 6, 0] (Nat.le_of_ble_eq_true rfl) (lo' := [(0, .ref (ad 0)), (1, .int (iI d)), (2, .int (iI k)), (3, .int (iI (Y.2 4 d))), (4, .int (iI 0)), (5, .int (iI (-9))), (6, .int (iI 0))]) rfl ?_
        have L41 : ∀ (fu41 : Nat) (S : Sg) (c : Int) (is : Int) (v : Nat), ((v : Int) ≤ 100) → (100 - (v : Int) < fu41) → (∀ i, i ≠ 14 → i ≠ 19 → S.1 i = st.1 i) → (∀ a, a ≠ 4 → (a < 12 ∨ a = 13 ∨ 17 < a) → S.2 a = st.2 a) → (∀ j : Int, j ≠ d → S.2 4 j = Y.2 4 j) → (c = CT (RNp Y d) v) → (0 ≤ k → (c ≤ k ∧ is = -9) ∨ (k < c ∧ ∃ u : Nat, u < v ∧ RNp Y d u ∧ CT (RNp Y d) u = k ∧ is = u)) → KW (mw ad D cI cZ) G H0 m 8 S 41 [(0, .ref (ad 0)), (1, .int (iI d)), (2, .int (iI k)), (3, .int (iI (Y.2 4 d))), (4, .int (iI c)), (5, .int (iI is)), (6, .int (iI ((v : Int))))] [] := by
          intro fu41
          induction fu41 with
          | zero =>
            intro S c is v q0 q1 e1 e2 e3 ec hk
            omega
          | succ fu41 ih41 =>
            intro S c is v q0 q1 e1 e2 e3 ec hk
            have rc := CT_rng (RNp Y d) v
            refine k_iload hE dX7_rains_41 6 rfl ?_
            refine k_bipush hE dX7_rains_43 rfl ?_
            refine k_icmp_gt hE 103 dX7_rains_45 (by decide) (by unfold in32; omega) (by unfold in32; omega) (fun c45 => ?_) (fun c45 => ?_)
            · refine k_aload_n hE dX7_rains_103 0 rfl rfl ?_
              refine m_get_rainOf hE fl_X7_31 dX7_rains_104 ?_
              refine k_iload_n hE dX7_rains_107 1 rfl rfl ?_
              refine k_iload_n hE dX7_rains_108 3 rfl rfl ?_
              refine m_st_rainOf hE (by omega) (by omega) dX7_rains_109 ?_
              refine k_st ((S.1, ur S.2 4 d (Y.2 4 d))) rfl ?_
              refine k_iload_n hE dX7_rains_110 2 rfl rfl ?_
              refine k_iconst hE dX7_rains_111 ?_
              refine k_icmp_ne hE 120 dX7_rains_112 (by decide) (by unfold in32; omega) (by unfold in32; omega) (fun c112 => ?_) (fun c112 => ?_)
              · refine k_iload hE dX7_rains_120 5 rfl ?_
                refine k_iret hR dX7_rains_122 rfl ?_
                have e100 : v = 100 := by omega
                rw [e100] at ec hk
                have hx9 : MY st (S.1, ur S.2 4 d (Y.2 4 d)) := ⟨fun i h1 _ _ h4 => e1 i h1 h4, fun a ha => by
                  show ur S.2 4 d (Y.2 4 d) a = _
                  by_cases e : a = 4
                  · rw [e]; funext j; rw [ur_c]
                    by_cases ej : j = d
                    · rw [if_pos ej, ej]; exact (congrFun (hA.2 4 (by decide)) d).symm
                    · rw [if_neg ej, e3 j ej]; exact (congrFun (hA.2 4 (by decide)) j).symm
                  · rw [ur_n _ _ _ e]; exact e2 a e (by omega)⟩
                first
                  | exact ⟨_, _, rfl, rfl, Or.inr (Or.inr ⟨w1, w2, Or.inl ⟨by omega, ec⟩⟩), hx9⟩
                  | (refine ⟨is, _, rfl, rfl, Or.inr (Or.inr ⟨w1, w2, Or.inr ⟨by omega, ?_⟩⟩), hx9⟩
                     rcases hk (by omega) with h5 | ⟨h5, u, u1, u2, u3, u4⟩
                     · exact Or.inr ⟨by omega, h5.2⟩
                     · exact Or.inl ⟨u, u1, u2, u3, u4⟩)
              · refine k_iload hE dX7_rains_115 4 rfl ?_
                refine k_goto hE 122 dX7_rains_117 (by decide) ?_
                refine k_iret hR dX7_rains_122 rfl ?_
                have e100 : v = 100 := by omega
                rw [e100] at ec hk
                have hx9 : MY st (S.1, ur S.2 4 d (Y.2 4 d)) := ⟨fun i h1 _ _ h4 => e1 i h1 h4, fun a ha => by
                  show ur S.2 4 d (Y.2 4 d) a = _
                  by_cases e : a = 4
                  · rw [e]; funext j; rw [ur_c]
                    by_cases ej : j = d
                    · rw [if_pos ej, ej]; exact (congrFun (hA.2 4 (by decide)) d).symm
                    · rw [if_neg ej, e3 j ej]; exact (congrFun (hA.2 4 (by decide)) j).symm
                  · rw [ur_n _ _ _ e]; exact e2 a e (by omega)⟩
                first
                  | exact ⟨_, _, rfl, rfl, Or.inr (Or.inr ⟨w1, w2, Or.inl ⟨by omega, ec⟩⟩), hx9⟩
                  | (refine ⟨is, _, rfl, rfl, Or.inr (Or.inr ⟨w1, w2, Or.inr ⟨by omega, ?_⟩⟩), hx9⟩
                     rcases hk (by omega) with h5 | ⟨h5, u, u1, u2, u3, u4⟩
                     · exact Or.inr ⟨by omega, h5.2⟩
                     · exact Or.inl ⟨u, u1, u2, u3, u4⟩)
            · refine k_aload_n hE dX7_rains_48 0 rfl rfl ?_
              refine m_get_rainOf hE fl_X7_31 dX7_rains_49 ?_
              refine k_iload_n hE dX7_rains_52 1 rfl rfl ?_
              refine k_iload hE dX7_rains_53 6 rfl ?_
              refine m_st_rainOf hE (by omega) (by omega) dX7_rains_55 ?_
              refine k_st ((S.1, ur S.2 4 d ((v : Int)))) rfl ?_
              refine k_nm (fun S3 eS3 => ?_)
              have hA3 : AgD S3 Y := by
                rw [eS3]
                exact ⟨fun i hi => by
                  simp only [List.mem_cons, List.mem_nil_iff, or_false] at hi
                  show S.1 i = _
                  rw [e1 i (by omega) (by omega)]
                  exact hA.1 i (by omega), fun a ha => by
                  simp only [List.mem_cons, List.mem_nil_iff, or_false] at ha
                  show ur S.2 4 _ _ a = _
                  rw [ur_n _ _ _ (by omega), e2 a (by omega) (by omega)]
                  exact hA.2 a (by omega)⟩
              have x3 : S3.1 3 = Y.1 3 := by rw [eS3]; exact (e1 3 (by decide) (by decide)).trans a3
              have x4 : S3.1 4 = Y.1 4 := by rw [eS3]; exact (e1 4 (by decide) (by decide)).trans a4
              have x15 : S3.1 15 = st.1 15 := by rw [eS3]; exact e1 15 (by decide) (by decide)
              have x16 : S3.1 16 = st.1 16 := by rw [eS3]; exact e1 16 (by decide) (by decide)
              have xr : S3.2 4 = upI (Y.2 4) d v := by rw [eS3]; exact ur_upI e3
              refine k_aload_n hE dX7_rains_56 0 rfl rfl ?_
              refine k_callV hE (c_X7_areSo S3 Y (Y.1 4) hA3 hI (by omega) (by omega) (by omega) (fun j j0 j1 => by rw [xr]; unfold upI; split <;> first | omega | exact hir j j0 j1) (by omega) (by omega)) mf_X7_areSo ml_X7_209 0 rfl rfl rfl rfl ⟨rfl, rfl, Nat.le_of_ble_eq_true rfl, Nat.le_of_ble_eq_true rfl⟩ [] (Nat.le_of_ble_eq_true rfl) dX7_rains_57 rfl (fun rv u hp => ?_)
              obtain ⟨zz, S1, hv57, hu57, hz_57, hx_57, dg_57⟩ := hp
              refine k_sk (sk' := [.int (iI zz)]) (by rw [hv57]; rfl) ?_
              refine k_st S1 hu57 ?_
              have hP : zz = 1 ↔ RNp Y d v := by
                have hc : MH Y (lvT Y (Y.1 4) (S3.1 3) (S3.2 4) (S3.1 16) (S3.1 18) (S3.1 17)) ↔ RNp Y d v := by
                  rw [x3, xr]
                  exact MH_cong (fun k => lvT_lev (Or.inl (by omega)))
                rcases hz_57 with h5 | h5
                · exact ⟨fun _ => hc.mp h5.2, fun _ => h5.1⟩
                · exact ⟨fun h6 => by omega, fun h6 => absurd (hc.mpr h6) h5.2⟩
              refine k_istore hE dX7_rains_60 [1, 2, 3, 4, 5, 6, 7, 0] (Nat.le_of_ble_eq_true rfl) (lo' := [(0, .ref (ad 0)), (1, .int (iI d)), (2, .int (iI k)), (3, .int (iI (Y.2 4 d))), (4, .int (iI c)), (5, .int (iI is)), (6, .int (iI ((v : Int)))), (7, .int (iI zz))]) rfl ?_
              refine k_iload hE dX7_rains_62 7 rfl ?_
              refine k_if_eq hE 78 dX7_rains_64 (by decide) (by unfold in32; omega) (fun c64 => ?_) (fun c64 => ?_)
              · refine k_iload hE dX7_rains_78 5 rfl ?_
                refine k_istore hE dX7_rains_80 [1, 2, 3, 4, 5, 0, 6, 7] (Nat.le_of_ble_eq_true rfl) (lo' := [(0, .ref (ad 0)), (1, .int (iI d)), (2, .int (iI k)), (3, .int (iI (Y.2 4 d))), (4, .int (iI c)), (5, .int (iI is)), (6, .int (iI ((v : Int)))), (7, .int (iI zz))]) rfl ?_
                refine k_iload hE dX7_rains_82 4 rfl ?_
                refine k_iload hE dX7_rains_84 7 rfl ?_
                refine k_if_eq hE 93 dX7_rains_86 (by decide) (by unfold in32; omega) (fun c86 => ?_) (fun c86 => ?_)
                · refine k_iconst hE dX7_rains_93 ?_
                  refine k_iadd hE dX7_rains_94 ?_
                  refine k_istore hE dX7_rains_95 [1, 2, 3, 4, 0, 5, 6, 7] (Nat.le_of_ble_eq_true rfl) (lo' := [(0, .ref (ad 0)), (1, .int (iI d)), (2, .int (iI k)), (3, .int (iI (Y.2 4 d))), (4, .int (iI (c + 0))), (5, .int (iI is)), (6, .int (iI ((v : Int)))), (7, .int (iI zz))]) rfl ?_
                  refine k_iinc hE dX7_rains_97 6 [1, 2, 3, 4, 5, 6, 0, 7] rfl (Nat.le_of_ble_eq_true rfl) (lo' := [(0, .ref (ad 0)), (1, .int (iI d)), (2, .int (iI k)), (3, .int (iI (Y.2 4 d))), (4, .int (iI (c + 0))), (5, .int (iI is)), (6, .int (iI (((v : Int)) + 1))), (7, .int (iI zz))]) rfl ?_
                  refine k_goto hE 41 dX7_rains_100 (by decide) ?_
                  refine k_lo [0, 1, 2, 3, 4, 5, 6] (lo' := [(0, .ref (ad 0)), (1, .int (iI d)), (2, .int (iI k)), (3, .int (iI (Y.2 4 d))), (4, .int (iI (c + 0))), (5, .int (iI is)), (6, .int (iI (((v : Int)) + 1)))]) rfl ?_
                  have f1 : ∀ i, i ≠ 14 → i ≠ 19 → S1.1 i = st.1 i := fun i h1 h2 => by rw [hx_57.1 i h1 h2, eS3]; exact e1 i h1 h2
                  have f2 : ∀ a, a ≠ 4 → (a < 12 ∨ a = 13 ∨ 17 < a) → S1.2 a = st.2 a := fun a h1 h2 => by rw [hx_57.2 a h2, eS3]; show ur S.2 4 _ _ a = _; rw [ur_n _ _ _ h1]; exact e2 a h1 h2
                  have f3 : ∀ j : Int, j ≠ d → S1.2 4 j = Y.2 4 j := fun j hj => by rw [hx_57.2 4 (by decide), eS3]; show ur S.2 4 _ _ 4 j = _; rw [ur_o _ _ _ hj]; exact e3 j hj
                  refine ih41 S1 _ _ (v + 1) (by omega) (by omega) f1 f2 f3 ?_ (fun hk0 => ?_)
                  · first
                      | (exfalso; omega)
                      | (rw [CT_y (P := RNp Y d) (k := v) (hP.mp (by omega)), ← ec])
                      | (rw [CT_n (P := RNp Y d) (k := v) (fun h5 => absurd (hP.mpr h5) (by omega)), ← ec]; omega)
                  · rcases hk hk0 with h5 | ⟨h5, u, u1, u2, u3, u4⟩
                    · first
                        | exact Or.inl ⟨by omega, by omega⟩
                        | exact Or.inr ⟨by omega, v, by omega, hP.mp (by omega), by omega, rfl⟩
                    · first
                        | exact Or.inr ⟨by omega, u, by omega, u2, u3, u4⟩
                        | (exfalso; omega)
                · refine k_iconst hE dX7_rains_89 ?_
                  refine k_goto hE 94 dX7_rains_90 (by decide) ?_
                  refine k_iadd hE dX7_rains_94 ?_
                  refine k_istore hE dX7_rains_95 [1, 2, 3, 4, 0, 5, 6, 7] (Nat.le_of_ble_eq_true rfl) (lo' := [(0, .ref (ad 0)), (1, .int (iI d)), (2, .int (iI k)), (3, .int (iI (Y.2 4 d))), (4, .int (iI (c + 1))), (5, .int (iI is)), (6, .int (iI ((v : Int)))), (7, .int (iI zz))]) rfl ?_
                  refine k_iinc hE dX7_rains_97 6 [1, 2, 3, 4, 5, 6, 0, 7] rfl (Nat.le_of_ble_eq_true rfl) (lo' := [(0, .ref (ad 0)), (1, .int (iI d)), (2, .int (iI k)), (3, .int (iI (Y.2 4 d))), (4, .int (iI (c + 1))), (5, .int (iI is)), (6, .int (iI (((v : Int)) + 1))), (7, .int (iI zz))]) rfl ?_
                  refine k_goto hE 41 dX7_rains_100 (by decide) ?_
                  refine k_lo [0, 1, 2, 3, 4, 5, 6] (lo' := [(0, .ref (ad 0)), (1, .int (iI d)), (2, .int (iI k)), (3, .int (iI (Y.2 4 d))), (4, .int (iI (c + 1))), (5, .int (iI is)), (6, .int (iI (((v : Int)) + 1)))]) rfl ?_
                  have f1 : ∀ i, i ≠ 14 → i ≠ 19 → S1.1 i = st.1 i := fun i h1 h2 => by rw [hx_57.1 i h1 h2, eS3]; exact e1 i h1 h2
                  have f2 : ∀ a, a ≠ 4 → (a < 12 ∨ a = 13 ∨ 17 < a) → S1.2 a = st.2 a := fun a h1 h2 => by rw [hx_57.2 a h2, eS3]; show ur S.2 4 _ _ a = _; rw [ur_n _ _ _ h1]; exact e2 a h1 h2
                  have f3 : ∀ j : Int, j ≠ d → S1.2 4 j = Y.2 4 j := fun j hj => by rw [hx_57.2 4 (by decide), eS3]; show ur S.2 4 _ _ 4 j = _; rw [ur_o _ _ _ hj]; exact e3 j hj
                  refine ih41 S1 _ _ (v + 1) (by omega) (by omega) f1 f2 f3 ?_ (fun hk0 => ?_)
                  · first
                      | (exfalso; omega)
                      | (rw [CT_y (P := RNp Y d) (k := v) (hP.mp (by omega)), ← ec])
                      | (rw [CT_n (P := RNp Y d) (k := v) (fun h5 => absurd (hP.mpr h5) (by omega)), ← ec]; omega)
                  · rcases hk hk0 with h5 | ⟨h5, u, u1, u2, u3, u4⟩
                    · first
                        | exact Or.inl ⟨by omega, by omega⟩
                        | exact Or.inr ⟨by omega, v, by omega, hP.mp (by omega), by omega, rfl⟩
                    · first
                        | exact Or.inr ⟨by omega, u, by omega, u2, u3, u4⟩
                        | (exfalso; omega)
              · refine k_iload hE dX7_rains_67 4 rfl ?_
                refine k_iload_n hE dX7_rains_69 2 rfl rfl ?_
                refine k_icmp_ne hE 78 dX7_rains_70 (by decide) (by unfold in32; omega) (by unfold in32; omega) (fun c70 => ?_) (fun c70 => ?_)
                · refine k_iload hE dX7_rains_78 5 rfl ?_
                  refine k_istore hE dX7_rains_80 [1, 2, 3, 4, 5, 0, 6, 7] (Nat.le_of_ble_eq_true rfl) (lo' := [(0, .ref (ad 0)), (1, .int (iI d)), (2, .int (iI k)), (3, .int (iI (Y.2 4 d))), (4, .int (iI c)), (5, .int (iI is)), (6, .int (iI ((v : Int)))), (7, .int (iI zz))]) rfl ?_
                  refine k_iload hE dX7_rains_82 4 rfl ?_
                  refine k_iload hE dX7_rains_84 7 rfl ?_
                  refine k_if_eq hE 93 dX7_rains_86 (by decide) (by unfold in32; omega) (fun c86 => ?_) (fun c86 => ?_)
                  · refine k_iconst hE dX7_rains_93 ?_
                    refine k_iadd hE dX7_rains_94 ?_
                    refine k_istore hE dX7_rains_95 [1, 2, 3, 4, 0, 5, 6, 7] (Nat.le_of_ble_eq_true rfl) (lo' := [(0, .ref (ad 0)), (1, .int (iI d)), (2, .int (iI k)), (3, .int (iI (Y.2 4 d))), (4, .int (iI (c + 0))), (5, .int (iI is)), (6, .int (iI ((v : Int)))), (7, .int (iI zz))]) rfl ?_
                    refine k_iinc hE dX7_rains_97 6 [1, 2, 3, 4, 5, 6, 0, 7] rfl (Nat.le_of_ble_eq_true rfl) (lo' := [(0, .ref (ad 0)), (1, .int (iI d)), (2, .int (iI k)), (3, .int (iI (Y.2 4 d))), (4, .int (iI (c + 0))), (5, .int (iI is)), (6, .int (iI (((v : Int)) + 1))), (7, .int (iI zz))]) rfl ?_
                    refine k_goto hE 41 dX7_rains_100 (by decide) ?_
                    refine k_lo [0, 1, 2, 3, 4, 5, 6] (lo' := [(0, .ref (ad 0)), (1, .int (iI d)), (2, .int (iI k)), (3, .int (iI (Y.2 4 d))), (4, .int (iI (c + 0))), (5, .int (iI is)), (6, .int (iI (((v : Int)) + 1)))]) rfl ?_
                    have f1 : ∀ i, i ≠ 14 → i ≠ 19 → S1.1 i = st.1 i := fun i h1 h2 => by rw [hx_57.1 i h1 h2, eS3]; exact e1 i h1 h2
                    have f2 : ∀ a, a ≠ 4 → (a < 12 ∨ a = 13 ∨ 17 < a) → S1.2 a = st.2 a := fun a h1 h2 => by rw [hx_57.2 a h2, eS3]; show ur S.2 4 _ _ a = _; rw [ur_n _ _ _ h1]; exact e2 a h1 h2
                    have f3 : ∀ j : Int, j ≠ d → S1.2 4 j = Y.2 4 j := fun j hj => by rw [hx_57.2 4 (by decide), eS3]; show ur S.2 4 _ _ 4 j = _; rw [ur_o _ _ _ hj]; exact e3 j hj
                    refine ih41 S1 _ _ (v + 1) (by omega) (by omega) f1 f2 f3 ?_ (fun hk0 => ?_)
                    · first
                        | (exfalso; omega)
                        | (rw [CT_y (P := RNp Y d) (k := v) (hP.mp (by omega)), ← ec])
                        | (rw [CT_n (P := RNp Y d) (k := v) (fun h5 => absurd (hP.mpr h5) (by omega)), ← ec]; omega)
                    · rcases hk hk0 with h5 | ⟨h5, u, u1, u2, u3, u4⟩
                      · first
                          | exact Or.inl ⟨by omega, by omega⟩
                          | exact Or.inr ⟨by omega, v, by omega, hP.mp (by omega), by omega, rfl⟩
                      · first
                          | exact Or.inr ⟨by omega, u, by omega, u2, u3, u4⟩
                          | (exfalso; omega)
                  · refine k_iconst hE dX7_rains_89 ?_
                    refine k_goto hE 94 dX7_rains_90 (by decide) ?_
                    refine k_iadd hE dX7_rains_94 ?_
                    refine k_istore hE dX7_rains_95 [1, 2, 3, 4, 0, 5, 6, 7] (Nat.le_of_ble_eq_true rfl) (lo' := [(0, .ref (ad 0)), (1, .int (iI d)), (2, .int (iI k)), (3, .int (iI (Y.2 4 d))), (4, .int (iI (c + 1))), (5, .int (iI is)), (6, .int (iI ((v : Int)))), (7, .int (iI zz))]) rfl ?_
                    refine k_iinc hE dX7_rains_97 6 [1, 2, 3, 4, 5, 6, 0, 7] rfl (Nat.le_of_ble_eq_true rfl) (lo' := [(0, .ref (ad 0)), (1, .int (iI d)), (2, .int (iI k)), (3, .int (iI (Y.2 4 d))), (4, .int (iI (c + 1))), (5, .int (iI is)), (6, .int (iI (((v : Int)) + 1))), (7, .int (iI zz))]) rfl ?_
                    refine k_goto hE 41 dX7_rains_100 (by decide) ?_
                    refine k_lo [0, 1, 2, 3, 4, 5, 6] (lo' := [(0, .ref (ad 0)), (1, .int (iI d)), (2, .int (iI k)), (3, .int (iI (Y.2 4 d))), (4, .int (iI (c + 1))), (5, .int (iI is)), (6, .int (iI (((v : Int)) + 1)))]) rfl ?_
                    have f1 : ∀ i, i ≠ 14 → i ≠ 19 → S1.1 i = st.1 i := fun i h1 h2 => by rw [hx_57.1 i h1 h2, eS3]; exact e1 i h1 h2
                    have f2 : ∀ a, a ≠ 4 → (a < 12 ∨ a = 13 ∨ 17 < a) → S1.2 a = st.2 a := fun a h1 h2 => by rw [hx_57.2 a h2, eS3]; show ur S.2 4 _ _ a = _; rw [ur_n _ _ _ h1]; exact e2 a h1 h2
                    have f3 : ∀ j : Int, j ≠ d → S1.2 4 j = Y.2 4 j := fun j hj => by rw [hx_57.2 4 (by decide), eS3]; show ur S.2 4 _ _ 4 j = _; rw [ur_o _ _ _ hj]; exact e3 j hj
                    refine ih41 S1 _ _ (v + 1) (by omega) (by omega) f1 f2 f3 ?_ (fun hk0 => ?_)
                    · first
                        | (exfalso; omega)
                        | (rw [CT_y (P := RNp Y d) (k := v) (hP.mp (by omega)), ← ec])
                        | (rw [CT_n (P := RNp Y d) (k := v) (fun h5 => absurd (hP.mpr h5) (by omega)), ← ec]; omega)
                    · rcases hk hk0 with h5 | ⟨h5, u, u1, u2, u3, u4⟩
                      · first
                          | exact Or.inl ⟨by omega, by omega⟩
                          | exact Or.inr ⟨by omega, v, by omega, hP.mp (by omega), by omega, rfl⟩
                      · first
                          | exact Or.inr ⟨by omega, u, by omega, u2, u3, u4⟩
                          | (exfalso; omega)
                · refine k_iload hE dX7_rains_73 6 rfl ?_
                  refine k_goto hE 80 dX7_rains_75 (by decide) ?_
                  refine k_istore hE dX7_rains_80 [1, 2, 3, 4, 5, 0, 6, 7] (Nat.le_of_ble_eq_true rfl) (lo' := [(0, .ref (ad 0)), (1, .int (iI d)), (2, .int (iI k)), (3, .int (iI (Y.2 4 d))), (4, .int (iI c)), (5, .int (iI ((v : Int)))), (6, .int (iI ((v : Int)))), (7, .int (iI zz))]) rfl ?_
                  refine k_iload hE dX7_rains_82 4 rfl ?_
                  refine k_iload hE dX7_rains_84 7 rfl ?_
                  refine k_if_eq hE 93 dX7_rains_86 (by decide) (by unfold in32; omega) (fun c86 => ?_) (fun c86 => ?_)
                  · refine k_iconst hE dX7_rains_93 ?_
                    refine k_iadd hE dX7_rains_94 ?_
                    refine k_istore hE dX7_rains_95 [1, 2, 3, 4, 0, 5, 6, 7] (Nat.le_of_ble_eq_true rfl) (lo' := [(0, .ref (ad 0)), (1, .int (iI d)), (2, .int (iI k)), (3, .int (iI (Y.2 4 d))), (4, .int (iI (c + 0))), (5, .int (iI ((v : Int)))), (6, .int (iI ((v : Int)))), (7, .int (iI zz))]) rfl ?_
                    refine k_iinc hE dX7_rains_97 6 [1, 2, 3, 4, 5, 6, 0, 7] rfl (Nat.le_of_ble_eq_true rfl) (lo' := [(0, .ref (ad 0)), (1, .int (iI d)), (2, .int (iI k)), (3, .int (iI (Y.2 4 d))), (4, .int (iI (c + 0))), (5, .int (iI ((v : Int)))), (6, .int (iI (((v : Int)) + 1))), (7, .int (iI zz))]) rfl ?_
                    refine k_goto hE 41 dX7_rains_100 (by decide) ?_
                    refine k_lo [0, 1, 2, 3, 4, 5, 6] (lo' := [(0, .ref (ad 0)), (1, .int (iI d)), (2, .int (iI k)), (3, .int (iI (Y.2 4 d))), (4, .int (iI (c + 0))), (5, .int (iI ((v : Int)))), (6, .int (iI (((v : Int)) + 1)))]) rfl ?_
                    have f1 : ∀ i, i ≠ 14 → i ≠ 19 → S1.1 i = st.1 i := fun i h1 h2 => by rw [hx_57.1 i h1 h2, eS3]; exact e1 i h1 h2
                    have f2 : ∀ a, a ≠ 4 → (a < 12 ∨ a = 13 ∨ 17 < a) → S1.2 a = st.2 a := fun a h1 h2 => by rw [hx_57.2 a h2, eS3]; show ur S.2 4 _ _ a = _; rw [ur_n _ _ _ h1]; exact e2 a h1 h2
                    have f3 : ∀ j : Int, j ≠ d → S1.2 4 j = Y.2 4 j := fun j hj => by rw [hx_57.2 4 (by decide), eS3]; show ur S.2 4 _ _ 4 j = _; rw [ur_o _ _ _ hj]; exact e3 j hj
                    refine ih41 S1 _ _ (v + 1) (by omega) (by omega) f1 f2 f3 ?_ (fun hk0 => ?_)
                    · first
                        | (exfalso; omega)
                        | (rw [CT_y (P := RNp Y d) (k := v) (hP.mp (by omega)), ← ec])
                        | (rw [CT_n (P := RNp Y d) (k := v) (fun h5 => absurd (hP.mpr h5) (by omega)), ← ec]; omega)
                    · rcases hk hk0 with h5 | ⟨h5, u, u1, u2, u3, u4⟩
                      · first
                          | exact Or.inl ⟨by omega, by omega⟩
                          | exact Or.inr ⟨by omega, v, by omega, hP.mp (by omega), by omega, rfl⟩
                      · first
                          | exact Or.inr ⟨by omega, u, by omega, u2, u3, u4⟩
                          | (exfalso; omega)
                  · refine k_iconst hE dX7_rains_89 ?_
                    refine k_goto hE 94 dX7_rains_90 (by decide) ?_
                    refine k_iadd hE dX7_rains_94 ?_
                    refine k_istore hE dX7_rains_95 [1, 2, 3, 4, 0, 5, 6, 7] (Nat.le_of_ble_eq_true rfl) (lo' := [(0, .ref (ad 0)), (1, .int (iI d)), (2, .int (iI k)), (3, .int (iI (Y.2 4 d))), (4, .int (iI (c + 1))), (5, .int (iI ((v : Int)))), (6, .int (iI ((v : Int)))), (7, .int (iI zz))]) rfl ?_
                    refine k_iinc hE dX7_rains_97 6 [1, 2, 3, 4, 5, 6, 0, 7] rfl (Nat.le_of_ble_eq_true rfl) (lo' := [(0, .ref (ad 0)), (1, .int (iI d)), (2, .int (iI k)), (3, .int (iI (Y.2 4 d))), (4, .int (iI (c + 1))), (5, .int (iI ((v : Int)))), (6, .int (iI (((v : Int)) + 1))), (7, .int (iI zz))]) rfl ?_
                    refine k_goto hE 41 dX7_rains_100 (by decide) ?_
                    refine k_lo [0, 1, 2, 3, 4, 5, 6] (lo' := [(0, .ref (ad 0)), (1, .int (iI d)), (2, .int (iI k)), (3, .int (iI (Y.2 4 d))), (4, .int (iI (c + 1))), (5, .int (iI ((v : Int)))), (6, .int (iI (((v : Int)) + 1)))]) rfl ?_
                    have f1 : ∀ i, i ≠ 14 → i ≠ 19 → S1.1 i = st.1 i := fun i h1 h2 => by rw [hx_57.1 i h1 h2, eS3]; exact e1 i h1 h2
                    have f2 : ∀ a, a ≠ 4 → (a < 12 ∨ a = 13 ∨ 17 < a) → S1.2 a = st.2 a := fun a h1 h2 => by rw [hx_57.2 a h2, eS3]; show ur S.2 4 _ _ a = _; rw [ur_n _ _ _ h1]; exact e2 a h1 h2
                    have f3 : ∀ j : Int, j ≠ d → S1.2 4 j = Y.2 4 j := fun j hj => by rw [hx_57.2 4 (by decide), eS3]; show ur S.2 4 _ _ 4 j = _; rw [ur_o _ _ _ hj]; exact e3 j hj
                    refine ih41 S1 _ _ (v + 1) (by omega) (by omega) f1 f2 f3 ?_ (fun hk0 => ?_)
                    · first
                        | (exfalso; omega)
                        | (rw [CT_y (P := RNp Y d) (k := v) (hP.mp (by omega)), ← ec])
                        | (rw [CT_n (P := RNp Y d) (k := v) (fun h5 => absurd (hP.mpr h5) (by omega)), ← ec]; omega)
                    · rcases hk hk0 with h5 | ⟨h5, u, u1, u2, u3, u4⟩
                      · first
                          | exact Or.inl ⟨by omega, by omega⟩
                          | exact Or.inr ⟨by omega, v, by omega, hP.mp (by omega), by omega, rfl⟩
                      · first
                          | exact Or.inr ⟨by omega, u, by omega, u2, u3, u4⟩
                          | (exfalso; omega)
        exact L41 101 st 0 (-9) 0 (by omega) (by omega) (fun i _ _ => rfl) (fun a _ _ => rfl) (fun j _ => congrFun (hA.2 4 (by decide)) j) rfl (fun h => Or.inl ⟨h, rfl⟩)
      · refine k_bipush hE dX7_rains_21 rfl ?_
        exact k_iret hR dX7_rains_23 rfl ⟨_, st, rfl, rfl, Or.inr (Or.inl ⟨by omega, by omega, rfl⟩), (MX.refl st).y⟩
    · refine k_iconst hE dX7_rains_12 ?_
      exact k_iret hR dX7_rains_13 rfl ⟨_, st, rfl, rfl, Or.inl ⟨by omega, rfl⟩, (MX.refl st).y⟩

set_option maxHeartbeats 4000000 in
set_option maxRecDepth 100000 in
theorem c_X7_thief {ad : Nat → Nat} {D : va_G} {cI cZ : ClassId} (st : Sg) (Y : Sg) (d : Int) (v : Int) (hA : Ag st Y) (hI : Inv Y) (hm : st.1 15 = 0 ∧ st.1 16 = -9) (i_d : -2147483648 ≤ d ∧ d < 2147483648) (i_v : -2147483648 ≤ v ∧ v < 2147483648) : MC (mw ad D cI cZ) yX7_thief cX7_thief 5 (some .int) { frames := 6, cells := 0, slots := 0, locals := 133 } [.ref (ad 0), .int (iI d), .int (iI v)] st (fun rv u => ∃ z : Int, ∃ S : Sg, rv = some (.int (iI (z))) ∧ u = S ∧ (TH Y d v z) ∧ (MY st S)) := by
  refine MC_intro RX7 (by decide) rfl (Nat.le_of_ble_eq_true rfl) ?_
  intro G H0 m hE hR
  refine k_lo [0, 1, 2] (lo' := [(0, .ref (ad 0)), (1, .int (iI d)), (2, .int (iI v))]) rfl ?_
  obtain ⟨hi0, hi1, hi2, hi3, hi4, hi5, hi6, hi7, hit, hir, him, hin⟩ := id hI
  have a3 := hA.1 3 (by decide)
  have a4 := hA.1 4 (by decide)
  refine k_iload_n hE dX7_thief_0 1 rfl rfl ?_
  refine k_callS hE (c_X7_isDay st d (by omega)) ms_X7_isDay ml_X7_145 rfl ⟨rfl, rfl, Nat.le_of_ble_eq_true rfl, Nat.le_of_ble_eq_true rfl⟩ [] (Nat.le_of_ble_eq_true rfl) dX7_thief_1 rfl (fun rv u hp => ?_)
  obtain ⟨z1, hv1, hu1, hz_1⟩ := hp
  refine k_sk (sk' := [.int (iI z1)]) (by rw [hv1]; rfl) ?_
  refine k_st st hu1 ?_
  refine k_if_ne hE 9 dX7_thief_4 (by decide) (by unfold in32; omega) (fun c4 => ?_) (fun c4 => ?_)
  · refine k_iload_n hE dX7_thief_9 2 rfl rfl ?_
    refine k_iconst hE dX7_thief_10 ?_
    refine k_bipush hE dX7_thief_11 rfl ?_
    refine k_callS hE (c_X7_within st v 1 9 (by omega) (by omega) (by omega)) ms_X7_within ml_X7_74 rfl ⟨rfl, rfl, Nat.le_of_ble_eq_true rfl, Nat.le_of_ble_eq_true rfl⟩ [] (Nat.le_of_ble_eq_true rfl) dX7_thief_13 rfl (fun rv u hp => ?_)
    obtain ⟨z2, hv13, hu13, hz_13⟩ := hp
    refine k_sk (sk' := [.int (iI z2)]) (by rw [hv13]; rfl) ?_
    refine k_st st hu13 ?_
    refine k_if_ne hE 22 dX7_thief_16 (by decide) (by unfold in32; omega) (fun c16 => ?_) (fun c16 => ?_)
    · refine k_aload_n hE dX7_thief_22 0 rfl rfl ?_
      refine m_get_taps hE (z := Y.1 0) (hA.1 0 (by decide)) fl_X7_78 dX7_thief_23 ?_
      refine k_if_ne hE 32 dX7_thief_26 (by decide) (by unfold in32; omega) (fun c26 => ?_) (fun c26 => ?_)
      · have w1 : ¬ (d < 0 ∨ 9 < d) := by omega
        have w2 : ¬ (v < 1 ∨ 9 < v) := by omega
        have w3 : Y.1 0 ≠ 0 := by omega
        refine k_iconst hE dX7_thief_32 ?_
        refine k_istore_n hE dX7_thief_33 [1, 2, 3, 0] rfl (Nat.le_of_ble_eq_true rfl) (lo' := [(0, .ref (ad 0)), (1, .int (iI d)), (2, .int (iI v)), (3, .int (iI 0))]) rfl ?_
        refine k_aload_n hE dX7_thief_34 0 rfl rfl ?_
        refine k_iload_n hE dX7_thief_35 1 rfl rfl ?_
        refine m_put_thiefDay hE fl_X7_56 dX7_thief_36 ?_
        refine k_st ((uv st.1 16 d, st.2)) rfl ?_
        refine k_aload_n hE dX7_thief_39 0 rfl rfl ?_
        refine k_iload_n hE dX7_thief_40 2 rfl rfl ?_
        refine m_put_thiefMuch hE fl_X7_179 dX7_thief_41 ?_
        refine k_st ((uv (uv st.1 16 d) 18 v, st.2)) rfl ?_
        refine k_aload_n hE dX7_thief_44 0 rfl rfl ?_
        refine k_iconst hE dX7_thief_45 ?_
        refine m_put_thiefTap hE fl_X7_176 dX7_thief_46 ?_
        refine k_st ((uv (uv (uv st.1 16 d) 18 v) 17 0, st.2)) rfl ?_
        have L49 : ∀ (fu49 : Nat) (S : Sg) (s : Int) (f : Nat), ((f : Int) ≤ Y.1 0) → (Y.1 0 - f < fu49) → (S.1 16 = d) → (S.1 17 = f) → (S.1 18 = v) → (∀ i, i ≠ 14 → i ≠ 16 → i ≠ 17 → i ≠ 18 → i ≠ 19 → S.1 i = st.1 i) → (∀ a, (a < 12 ∨ a = 13 ∨ 17 < a) → S.2 a = st.2 a) → (s = TFs (THp Y d v) f) → (-2147483648 ≤ s ∧ s < 2147483648) → KW (mw ad D cI cZ) G H0 m 5 S 49 [(0, .ref (ad 0)), (1, .int (iI d)), (2, .int (iI v)), (3, .int (iI s))] [] := by
          intro fu49
          induction fu49 with
          | zero =>
            intro S s f q0 q1 t16 t17 t18 e1 e2 es hs
            omega
          | succ fu49 ih49 =>
            intro S s f q0 q1 t16 t17 t18 e1 e2 es hs
            have hAS : Ag S Y := ⟨fun i hi => (e1 i (by omega) (by omega) (by omega) (by omega) (by omega)).trans (hA.1 i hi), fun a ha => (e2 a (by omega)).trans (hA.2 a ha)⟩
            have b3 := hAS.1 3 (by decide)
            have b4 := hAS.1 4 (by decide)
            have b15 := e1 15 (by decide) (by decide) (by decide) (by decide) (by decide)
            have br := hAS.2 4 (by decide)
            refine k_aload_n hE dX7_thief_49 0 rfl rfl ?_
            refine m_get_thiefTap hE (z := (f : Int)) t17 fl_X7_176 dX7_thief_50 ?_
            refine k_aload_n hE dX7_thief_53 0 rfl rfl ?_
            refine m_get_taps hE (z := Y.1 0) (hAS.1 0 (by decide)) fl_X7_78 dX7_thief_54 ?_
            refine k_icmp_ge hE 104 dX7_thief_57 (by decide) (by unfold in32; omega) (by unfold in32; omega) (fun c57 => ?_) (fun c57 => ?_)
            · refine k_aload_n hE dX7_thief_104 0 rfl rfl ?_
              refine k_bipush hE dX7_thief_105 rfl ?_
              refine m_put_thiefDay hE fl_X7_56 dX7_thief_107 ?_
              refine k_st ((uv S.1 16 (-9), S.2)) rfl ?_
              refine k_iload_n hE dX7_thief_110 3 rfl rfl ?_
              refine k_iret hR dX7_thief_111 rfl ?_
              have ef : (Y.1 0).toNat = f := by omega
              refine ⟨s, _, rfl, rfl, Or.inr (Or.inr (Or.inr ⟨w1, w2, w3, by rw [ef]; exact es⟩)), ⟨fun i h1 h2 h3 h4 => ?_, fun a ha => e2 a (by omega)⟩⟩
              show uv S.1 16 (-9) i = _
              by_cases e : i = 16
              · rw [e, uv_s, hm.2]
              · rw [uv_n _ _ e]; exact e1 i h1 e h2 h3 h4
            · refine k_aload_n hE dX7_thief_60 0 rfl rfl ?_
              refine k_callV hE (c_X7_areSo S Y (Y.1 4) hAS.d hI (by omega) (by omega) (by omega) (fun j j0 j1 => by rw [br]; exact hir j j0 j1) (by omega) (by omega)) mf_X7_areSo ml_X7_209 0 rfl rfl rfl rfl ⟨rfl, rfl, Nat.le_of_ble_eq_true rfl, Nat.le_of_ble_eq_true rfl⟩ [] (Nat.le_of_ble_eq_true rfl) dX7_thief_61 rfl (fun rv u hp => ?_)
              obtain ⟨zz, S1, hv61, hu61, hz_61, hx_61, dg_61⟩ := hp
              refine k_sk (sk' := [.int (iI zz)]) (by rw [hv61]; rfl) ?_
              refine k_st S1 hu61 ?_
              have hB := hx_61.ag hAS
              have u17 : S1.1 17 = (f : Int) := (hx_61.1 17 (by decide) (by decide)).trans t17
              rw [b3, br, t16, t17, t18] at hz_61 dg_61
              have eL : lvT Y (Y.1 4) (Y.1 3) (Y.2 4) d v f d.toNat = lev Y (Y.1 4) (Y.1 3) (Y.2 4) d.toNat := lvT_lev (Or.inr (by omega))
              have eD : dW Y (Y.1 4) (lev Y (Y.1 4) (Y.1 3) (Y.2 4) d.toNat) (Y.2 4 d) = lev Y (Y.1 4) (Y.1 3) (Y.2 4) (d + 1).toNat := by
                rw [show (d + 1).toNat = d.toNat + 1 by omega, lev, Int.toNat_of_nonneg (by omega)]
              rw [eL, eD] at dg_61
              have r19 : 0 ≤ S1.1 19 ∧ S1.1 19 ≤ 1 := by rcases dg_61 with h5 | h5 <;> omega
              have hP : (zz = 1 ∧ S1.1 19 = 1) ↔ THp Y d v f := by
                have hL : v ≤ GV Y f (lev Y (Y.1 4) (Y.1 3) (Y.2 4) (d + 1).toNat) → (MH Y (lvT Y (Y.1 4) (Y.1 3) (Y.2 4) d v f) ↔ MH Y (LVf Y (Y.1 4) (Y.2 4) d (LTh Y d v))) := fun h5 => MH_cong (lvT_LVf (by omega) (by rw [eD]; exact h5) (fun j j0 j1 => by unfold LTh; rw [if_neg (by omega)]) (by unfold LTh; rw [if_pos rfl, eD]))
                constructor
                · intro h5
                  have h6 : v ≤ GV Y f (lev Y (Y.1 4) (Y.1 3) (Y.2 4) (d + 1).toNat) := by
                    rcases dg_61 with h7 | h7
                    · exact h7.2.2.2
                    · omega
                  refine ⟨h6, (hL h6).mp ?_⟩
                  rcases hz_61 with h7 | h7
                  · exact h7.2
                  · omega
                · intro h5
                  refine ⟨?_, ?_⟩
                  · rcases hz_61 with h7 | h7
                    · exact h7.1
                    · exact absurd ((hL h5.1).mpr h5.2) h7.2
                  · rcases dg_61 with h7 | h7
                    · exact h7.1
                    · exact absurd ⟨by omega, by omega, h5.1⟩ h7.2
              refine k_istore hE dX7_thief_64 [1, 2, 3, 4, 0] (Nat.le_of_ble_eq_true rfl) (lo' := [(0, .ref (ad 0)), (1, .int (iI d)), (2, .int (iI v)), (3, .int (iI s)), (4, .int (iI zz))]) rfl ?_
              refine k_iload_n hE dX7_thief_66 3 rfl rfl ?_
              refine k_iload hE dX7_thief_67 4 rfl ?_
              refine k_if_eq hE 88 dX7_thief_69 (by decide) (by unfold in32; omega) (fun c69 => ?_) (fun c69 => ?_)
              · refine k_iconst hE dX7_thief_88 ?_
                refine k_ior hE dX7_thief_89 ?_
                refine k_istore_n hE dX7_thief_90 [1, 2, 3, 0, 4] rfl (Nat.le_of_ble_eq_true rfl) (lo' := [(0, .ref (ad 0)), (1, .int (iI d)), (2, .int (iI v)), (3, .int (iI (zor s 0))), (4, .int (iI zz))]) rfl ?_
                refine k_aload_n hE dX7_thief_91 0 rfl rfl ?_
                refine k_dup hE dX7_thief_92 rfl ?_
                refine m_get_thiefTap hE (z := (f : Int)) u17 fl_X7_176 dX7_thief_93 ?_
                refine k_iconst hE dX7_thief_96 ?_
                refine k_iadd hE dX7_thief_97 ?_
                refine m_put_thiefTap hE fl_X7_176 dX7_thief_98 ?_
                refine k_st ((uv S1.1 17 (((f : Int)) + 1), S1.2)) rfl ?_
                refine k_goto hE 49 dX7_thief_101 (by decide) ?_
                refine k_lo [0, 1, 2, 3] (lo' := [(0, .ref (ad 0)), (1, .int (iI d)), (2, .int (iI v)), (3, .int (iI (zor s 0)))]) rfl ?_
                have g1 : ∀ i, i ≠ 14 → i ≠ 16 → i ≠ 17 → i ≠ 18 → i ≠ 19 → uv S1.1 17 ((f : Int) + 1) i = st.1 i := fun i h1 h2 h3 h4 h5 => by rw [uv_n _ _ h3, hx_61.1 i h1 h5]; exact e1 i h1 h2 h3 h4 h5
                have g2 : ∀ a, (a < 12 ∨ a = 13 ∨ 17 < a) → S1.2 a = st.2 a := fun a ha => (hx_61.2 a ha).trans (e2 a ha)
                have g16 : uv S1.1 17 ((f : Int) + 1) 16 = d := by rw [uv_n _ _ (by decide), hx_61.1 16 (by decide) (by decide)]; exact t16
                have g17 : uv S1.1 17 ((f : Int) + 1) 17 = ((f + 1 : Nat) : Int) := by rw [uv_s]; rfl
                have g18 : uv S1.1 17 ((f : Int) + 1) 18 = v := by rw [uv_n _ _ (by decide), hx_61.1 18 (by decide) (by decide)]; exact t18
                first
                  | (refine ih49 ((uv S1.1 17 (((f : Int)) + 1), S1.2)) _ (f + 1) (by omega) (by omega) g16 g17 g18 g1 g2 ?_ (zor_in _ _)
                     rw [TFs_y (P := THp Y d v) (k := f) (hP.mp ⟨by omega, by omega⟩), ← es])
                  | (have ez : zor s 0 = s := zor0 hs
                     refine ih49 ((uv S1.1 17 (((f : Int)) + 1), S1.2)) _ (f + 1) (by omega) (by omega) g16 g17 g18 g1 g2 ?_ (by rw [ez]; exact hs)
                     rw [ez, TFs_n (P := THp Y d v) (k := f) (fun h5 => by have h6 := hP.mpr h5; omega)]; exact es)
              · refine k_aload_n hE dX7_thief_72 0 rfl rfl ?_
                refine m_get_didGive hE (z := S1.1 19) rfl fl_X7_182 dX7_thief_73 ?_
                refine k_if_eq hE 88 dX7_thief_76 (by decide) (by unfold in32; omega) (fun c76 => ?_) (fun c76 => ?_)
                · refine k_iconst hE dX7_thief_88 ?_
                  refine k_ior hE dX7_thief_89 ?_
                  refine k_istore_n hE dX7_thief_90 [1, 2, 3, 0, 4] rfl (Nat.le_of_ble_eq_true rfl) (lo' := [(0, .ref (ad 0)), (1, .int (iI d)), (2, .int (iI v)), (3, .int (iI (zor s 0))), (4, .int (iI zz))]) rfl ?_
                  refine k_aload_n hE dX7_thief_91 0 rfl rfl ?_
                  refine k_dup hE dX7_thief_92 rfl ?_
                  refine m_get_thiefTap hE (z := (f : Int)) u17 fl_X7_176 dX7_thief_93 ?_
                  refine k_iconst hE dX7_thief_96 ?_
                  refine k_iadd hE dX7_thief_97 ?_
                  refine m_put_thiefTap hE fl_X7_176 dX7_thief_98 ?_
                  refine k_st ((uv S1.1 17 (((f : Int)) + 1), S1.2)) rfl ?_
                  refine k_goto hE 49 dX7_thief_101 (by decide) ?_
                  refine k_lo [0, 1, 2, 3] (lo' := [(0, .ref (ad 0)), (1, .int (iI d)), (2, .int (iI v)), (3, .int (iI (zor s 0)))]) rfl ?_
                  have g1 : ∀ i, i ≠ 14 → i ≠ 16 → i ≠ 17 → i ≠ 18 → i ≠ 19 → uv S1.1 17 ((f : Int) + 1) i = st.1 i := fun i h1 h2 h3 h4 h5 => by rw [uv_n _ _ h3, hx_61.1 i h1 h5]; exact e1 i h1 h2 h3 h4 h5
                  have g2 : ∀ a, (a < 12 ∨ a = 13 ∨ 17 < a) → S1.2 a = st.2 a := fun a ha => (hx_61.2 a ha).trans (e2 a ha)
                  have g16 : uv S1.1 17 ((f : Int) + 1) 16 = d := by rw [uv_n _ _ (by decide), hx_61.1 16 (by decide) (by decide)]; exact t16
                  have g17 : uv S1.1 17 ((f : Int) + 1) 17 = ((f + 1 : Nat) : Int) := by rw [uv_s]; rfl
                  have g18 : uv S1.1 17 ((f : Int) + 1) 18 = v := by rw [uv_n _ _ (by decide), hx_61.1 18 (by decide) (by decide)]; exact t18
                  first
                    | (refine ih49 ((uv S1.1 17 (((f : Int)) + 1), S1.2)) _ (f + 1) (by omega) (by omega) g16 g17 g18 g1 g2 ?_ (zor_in _ _)
                       rw [TFs_y (P := THp Y d v) (k := f) (hP.mp ⟨by omega, by omega⟩), ← es])
                    | (have ez : zor s 0 = s := zor0 hs
                       refine ih49 ((uv S1.1 17 (((f : Int)) + 1), S1.2)) _ (f + 1) (by omega) (by omega) g16 g17 g18 g1 g2 ?_ (by rw [ez]; exact hs)
                       rw [ez, TFs_n (P := THp Y d v) (k := f) (fun h5 => by have h6 := hP.mpr h5; omega)]; exact es)
                · refine k_iconst hE dX7_thief_79 ?_
                  refine k_aload_n hE dX7_thief_80 0 rfl rfl ?_
                  refine m_get_thiefTap hE (z := (f : Int)) u17 fl_X7_176 dX7_thief_81 ?_
                  refine k_ishl hE dX7_thief_84 ?_
                  refine k_goto hE 89 dX7_thief_85 (by decide) ?_
                  refine k_ior hE dX7_thief_89 ?_
                  refine k_istore_n hE dX7_thief_90 [1, 2, 3, 0, 4] rfl (Nat.le_of_ble_eq_true rfl) (lo' := [(0, .ref (ad 0)), (1, .int (iI d)), (2, .int (iI v)), (3, .int (iI (zor s (zshl 1 ((f : Int)))))), (4, .int (iI zz))]) rfl ?_
                  refine k_aload_n hE dX7_thief_91 0 rfl rfl ?_
                  refine k_dup hE dX7_thief_92 rfl ?_
                  refine m_get_thiefTap hE (z := (f : Int)) u17 fl_X7_176 dX7_thief_93 ?_
                  refine k_iconst hE dX7_thief_96 ?_
                  refine k_iadd hE dX7_thief_97 ?_
                  refine m_put_thiefTap hE fl_X7_176 dX7_thief_98 ?_
                  refine k_st ((uv S1.1 17 (((f : Int)) + 1), S1.2)) rfl ?_
                  refine k_goto hE 49 dX7_thief_101 (by decide) ?_
                  refine k_lo [0, 1, 2, 3] (lo' := [(0, .ref (ad 0)), (1, .int (iI d)), (2, .int (iI v)), (3, .int (iI (zor s (zshl 1 ((f : Int))))))]) rfl ?_
                  have g1 : ∀ i, i ≠ 14 → i ≠ 16 → i ≠ 17 → i ≠ 18 → i ≠ 19 → uv S1.1 17 ((f : Int) + 1) i = st.1 i := fun i h1 h2 h3 h4 h5 => by rw [uv_n _ _ h3, hx_61.1 i h1 h5]; exact e1 i h1 h2 h3 h4 h5
                  have g2 : ∀ a, (a < 12 ∨ a = 13 ∨ 17 < a) → S1.2 a = st.2 a := fun a ha => (hx_61.2 a ha).trans (e2 a ha)
                  have g16 : uv S1.1 17 ((f : Int) + 1) 16 = d := by rw [uv_n _ _ (by decide), hx_61.1 16 (by decide) (by decide)]; exact t16
                  have g17 : uv S1.1 17 ((f : Int) + 1) 17 = ((f + 1 : Nat) : Int) := by rw [uv_s]; rfl
                  have g18 : uv S1.1 17 ((f : Int) + 1) 18 = v := by rw [uv_n _ _ (by decide), hx_61.1 18 (by decide) (by decide)]; exact t18
                  first
                    | (refine ih49 ((uv S1.1 17 (((f : Int)) + 1), S1.2)) _ (f + 1) (by omega) (by omega) g16 g17 g18 g1 g2 ?_ (zor_in _ _)
                       rw [TFs_y (P := THp Y d v) (k := f) (hP.mp ⟨by omega, by omega⟩), ← es])
                    | (have ez : zor s 0 = s := zor0 hs
                       refine ih49 ((uv S1.1 17 (((f : Int)) + 1), S1.2)) _ (f + 1) (by omega) (by omega) g16 g17 g18 g1 g2 ?_ (by rw [ez]; exact hs)
                       rw [ez, TFs_n (P := THp Y d v) (k := f) (fun h5 => by have h6 := hP.mpr h5; omega)]; exact es)
        exact L49 7 ((uv (uv (uv st.1 16 d) 18 v) 17 0, st.2)) 0 0 (by omega) (by omega) rfl rfl rfl (fun i h1 h2 h3 h4 h5 => by show uv (uv (uv st.1 16 _) 18 _) 17 _ i = _; rw [uv_n _ _ h3, uv_n _ _ h4, uv_n _ _ h2]) (fun a _ => rfl) rfl (by omega)
      · refine k_bipush hE dX7_thief_29 rfl ?_
        exact k_iret hR dX7_thief_31 rfl ⟨_, st, rfl, rfl, Or.inr (Or.inr (Or.inl ⟨by omega, by omega, by omega, rfl⟩)), (MX.refl st).y⟩
    · refine k_bipush hE dX7_thief_19 rfl ?_
      exact k_iret hR dX7_thief_21 rfl ⟨_, st, rfl, rfl, Or.inr (Or.inl ⟨by omega, by omega, rfl⟩), (MX.refl st).y⟩
  · refine k_iconst hE dX7_thief_7 ?_
    exact k_iret hR dX7_thief_8 rfl ⟨_, st, rfl, rfl, Or.inl ⟨by omega, rfl⟩, (MX.refl st).y⟩
