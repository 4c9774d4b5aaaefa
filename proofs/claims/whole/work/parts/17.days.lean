set_option maxHeartbeats 4000000 in
set_option maxRecDepth 100000 in
theorem c_X0_drawByTurns {ad : Nat → Nat} {ta sa ca : Int → Nat} {D : va_G} {cI cT cS : ClassId} (st : Sg) (Y : Sg) (d : Int) (w : Int) (hA : Ag st Y) (hI : Inv Y) (hd : 0 ≤ d ∧ d < 10) (hw : 0 ≤ w ∧ w ≤ 99) (hz : ∀ f : Int, 0 ≤ f → f < Y.1 0 → st.2 11 (d * 6 + f) = 0) : MC (xw ad ta sa ca D cI cT cS) yX0_drawByTurns cX0_drawByTurns 10 (some .int) { frames := 2, cells := 0, slots := 0, locals := 48 } [.ref (ad 4), .int (iI d), .int (iI w)] st (fun rv u => ∃ t : Int, ∃ S : Sg, rv = some (.int (iI (t))) ∧ u = S ∧ (S.1 = st.1) ∧ (∀ a, a ≠ 11 → S.2 a = st.2 a) ∧ (∀ j : Int, ¬ (d * 6 ≤ j ∧ j < d * 6 + 6) → S.2 11 j = st.2 11 j) ∧ (t = (TR Y w 100).1) ∧ (∀ f : Int, 0 ≤ f → f < Y.1 0 → S.2 11 (d * 6 + f) = (TR Y w 100).2 f)) := by
  refine MC_intro RX0 (by decide) rfl (Nat.le_of_ble_eq_true rfl) ?_
  intro G H0 m hE hR
  refine k_lo [0, 1, 2] (lo' := [(0, .ref (ad 4)), (1, .int (iI d)), (2, .int (iI w))]) rfl ?_
  obtain ⟨hi0, hi1, hi2, hi3, hi4, hi5, hi6, hi7, hit, hir, him, hin⟩ := id hI
  refine k_iconst hE dX0_drawByTurns_0 ?_
  refine k_istore_n hE dX0_drawByTurns_1 [1, 2, 3, 0] rfl (Nat.le_of_ble_eq_true rfl) (lo' := [(0, .ref (ad 4)), (1, .int (iI d)), (2, .int (iI w)), (3, .int (iI 0))]) rfl ?_
  refine k_iconst hE dX0_drawByTurns_2 ?_
  refine k_istore hE dX0_drawByTurns_3 [1, 2, 3, 4, 0] (Nat.le_of_ble_eq_true rfl) (lo' := [(0, .ref (ad 4)), (1, .int (iI d)), (2, .int (iI w)), (3, .int (iI 0)), (4, .int (iI 1))]) rfl ?_
  refine k_iconst hE dX0_drawByTurns_5 ?_
  refine k_istore hE dX0_drawByTurns_6 [1, 2, 3, 4, 5, 0] (Nat.le_of_ble_eq_true rfl) (lo' := [(0, .ref (ad 4)), (1, .int (iI d)), (2, .int (iI w)), (3, .int (iI 0)), (4, .int (iI 1)), (5, .int (iI 0))]) rfl ?_
  have L8 : ∀ (fu8 : Nat) (S : Sg) (all : Int) (sd : Int) (j : Nat), ((j : Int) ≤ 100) → (100 - (j : Int) < fu8) → (S.1 = st.1) → (∀ a, a ≠ 11 → S.2 a = st.2 a) → (∀ j : Int, ¬ (d * 6 ≤ j ∧ j < d * 6 + 6) → S.2 11 j = st.2 11 j) → (all = (TR Y w j).1) → (∀ f : Int, 0 ≤ f → f < Y.1 0 → S.2 11 (d * 6 + f) = (TR Y w j).2 f) → (sd = 1 ∨ (sd = 0 ∧ TR Y w 100 = TR Y w j)) → KW (xw ad ta sa ca D cI cT cS) G H0 m 10 S 8 [(0, .ref (ad 4)), (1, .int (iI d)), (2, .int (iI w)), (3, .int (iI all)), (4, .int (iI sd)), (5, .int (iI ((j : Int))))] [] := by
    intro fu8
    induction fu8 with
    | zero =>
      intro S all sd j q0 q1 e1 e2 e3 ea eg es
      omega
    | succ fu8 ih8 =>
      intro S all sd j q0 q1 e1 e2 e3 ea eg es
      have hAS : Ag S Y := ⟨fun i hi => by rw [e1]; exact hA.1 i hi, fun a ha => by rw [e2 a (by omega)]; exact hA.2 a ha⟩
      have hT := TR_I hI hw.1 j
      have hT1 := hT.1
      refine k_iload hE dX0_drawByTurns_8 5 rfl ?_
      refine k_bipush hE dX0_drawByTurns_10 rfl ?_
      refine k_icmp_gt hE 113 dX0_drawByTurns_12 (by decide) (by unfold in32; omega) (by unfold in32; omega) (fun c12 => ?_) (fun c12 => ?_)
      · refine k_iload_n hE dX0_drawByTurns_113 3 rfl rfl ?_
        refine k_iret hR dX0_drawByTurns_114 rfl ?_
        have eT : TR Y w 100 = TR Y w j := by
          by_cases h : j = 100
          · rw [h]
          · rcases es with es | es
            · omega
            · exact es.2
        exact ⟨_, _, rfl, rfl, e1, e2, e3, by rw [eT]; exact ea, fun f f0 f1 => by rw [eT]; exact eg f f0 f1⟩
      · refine k_iload hE dX0_drawByTurns_15 4 rfl ?_
        refine k_if_eq hE 113 dX0_drawByTurns_17 (by decide) (by unfold in32; omega) (fun c17 => ?_) (fun c17 => ?_)
        · refine k_iload_n hE dX0_drawByTurns_113 3 rfl rfl ?_
          refine k_iret hR dX0_drawByTurns_114 rfl ?_
          have eT : TR Y w 100 = TR Y w j := by
            by_cases h : j = 100
            · rw [h]
            · rcases es with es | es
              · omega
              · exact es.2
          exact ⟨_, _, rfl, rfl, e1, e2, e3, by rw [eT]; exact ea, fun f f0 f1 => by rw [eT]; exact eg f f0 f1⟩
        · refine k_iload_n hE dX0_drawByTurns_20 3 rfl rfl ?_
          refine k_istore hE dX0_drawByTurns_21 [1, 2, 3, 4, 5, 6, 0] (Nat.le_of_ble_eq_true rfl) (lo' := [(0, .ref (ad 4)), (1, .int (iI d)), (2, .int (iI w)), (3, .int (iI all)), (4, .int (iI sd)), (5, .int (iI ((j : Int)))), (6, .int (iI all))]) rfl ?_
          refine k_iconst hE dX0_drawByTurns_23 ?_
          refine k_istore hE dX0_drawByTurns_24 [1, 2, 3, 4, 5, 6, 7, 0] (Nat.le_of_ble_eq_true rfl) (lo' := [(0, .ref (ad 4)), (1, .int (iI d)), (2, .int (iI w)), (3, .int (iI all)), (4, .int (iI sd)), (5, .int (iI ((j : Int)))), (6, .int (iI all)), (7, .int (iI 0))]) rfl ?_
          have L26 : ∀ (fu26 : Nat) (S2 : Sg) (all2 : Int) (f : Nat), ((f : Int) ≤ Y.1 0) → (Y.1 0 - f < fu26) → (S2.1 = st.1) → (∀ a, a ≠ 11 → S2.2 a = st.2 a) → (∀ j : Int, ¬ (d * 6 ≤ j ∧ j < d * 6 + 6) → S2.2 11 j = st.2 11 j) → (all2 = (TRd Y w f (TR Y w j)).1) → (∀ i : Int, 0 ≤ i → i < Y.1 0 → S2.2 11 (d * 6 + i) = (TRd Y w f (TR Y w j)).2 i) → KW (xw ad ta sa ca D cI cT cS) G H0 m 10 S2 26 [(0, .ref (ad 4)), (1, .int (iI d)), (2, .int (iI w)), (3, .int (iI all2)), (4, .int (iI sd)), (5, .int (iI ((j : Int)))), (6, .int (iI all)), (7, .int (iI ((f : Int))))] [] := by
            intro fu26
            induction fu26 with
            | zero =>
              intro S2 all2 f p0 p1 g1 g2 g3 ga gg
              omega
            | succ fu26 ih26 =>
              intro S2 all2 f p0 p1 g1 g2 g3 ga gg
              have hAS2 : Ag S2 Y := ⟨fun i hi => by rw [g1]; exact hA.1 i hi, fun a ha => by rw [g2 a (by omega)]; exact hA.2 a ha⟩
              have hT2 := (TRd_I hI hT (k := f) (by omega)).1
              have hT3 := hT2.1
              refine k_iload hE dX0_drawByTurns_26 7 rfl ?_
              refine k_aload_n hE dX0_drawByTurns_28 0 rfl rfl ?_
              refine x_get_X0_yard hE fl_X0_24 dX0_drawByTurns_29 ?_
              refine x_get_X5_tapCount hE (z := Y.1 0) (hAS2.1 0 (by decide)) fl_X0_32 dX0_drawByTurns_32 ?_
              refine k_icmp_ge hE 94 dX0_drawByTurns_35 (by decide) (by unfold in32; omega) (by unfold in32; omega) (fun c35 => ?_) (fun c35 => ?_)
              · have ef : f = (Y.1 0).toNat := by omega
                have ga2 : all2 = (TR Y w (j + 1)).1 := by rw [ga, ef]; rfl
                have gg2 : ∀ i : Int, 0 ≤ i → i < Y.1 0 → S2.2 11 (d * 6 + i) = (TR Y w (j + 1)).2 i := fun i i0 i1 => by rw [gg i i0 i1, ef]; rfl
                have mono : (TR Y w j).1 ≤ (TR Y w (j + 1)).1 := (TRd_I hI hT (k := (Y.1 0).toNat) (by omega)).2
                refine k_iload_n hE dX0_drawByTurns_94 3 rfl rfl ?_
                refine k_iload hE dX0_drawByTurns_95 6 rfl ?_
                refine k_icmp_le hE 104 dX0_drawByTurns_97 (by decide) (by unfold in32; omega) (by unfold in32; omega) (fun c97 => ?_) (fun c97 => ?_)
                · refine k_iconst hE dX0_drawByTurns_104 ?_
                  refine k_istore hE dX0_drawByTurns_105 [1, 2, 3, 4, 0, 5, 6, 7] (Nat.le_of_ble_eq_true rfl) (lo' := [(0, .ref (ad 4)), (1, .int (iI d)), (2, .int (iI w)), (3, .int (iI all2)), (4, .int (iI 0)), (5, .int (iI ((j : Int)))), (6, .int (iI all)), (7, .int (iI ((f : Int))))]) rfl ?_
                  refine k_iinc hE dX0_drawByTurns_107 5 [1, 2, 3, 4, 5, 0, 6, 7] rfl (Nat.le_of_ble_eq_true rfl) (lo' := [(0, .ref (ad 4)), (1, .int (iI d)), (2, .int (iI w)), (3, .int (iI all2)), (4, .int (iI 0)), (5, .int (iI (((j : Int)) + 1))), (6, .int (iI all)), (7, .int (iI ((f : Int))))]) rfl ?_
                  refine k_goto hE 8 dX0_drawByTurns_110 (by decide) ?_
                  refine k_lo [0, 1, 2, 3, 4, 5] (lo' := [(0, .ref (ad 4)), (1, .int (iI d)), (2, .int (iI w)), (3, .int (iI all2)), (4, .int (iI 0)), (5, .int (iI (((j : Int)) + 1)))]) rfl ?_
                  refine ih8 S2 _ _ (j + 1) (by omega) (by omega) g1 g2 g3 ga2 gg2 ?_
                  first
                    | exact Or.inl rfl
                    | (refine Or.inr ⟨rfl, ?_⟩
                       have e := TR_stop hI hw.1 (n := j) (by rw [← ga2, ← ea]; omega)
                       rw [TR_fix e 100 (by omega), e])
                · refine k_iconst hE dX0_drawByTurns_100 ?_
                  refine k_goto hE 105 dX0_drawByTurns_101 (by decide) ?_
                  refine k_istore hE dX0_drawByTurns_105 [1, 2, 3, 4, 0, 5, 6, 7] (Nat.le_of_ble_eq_true rfl) (lo' := [(0, .ref (ad 4)), (1, .int (iI d)), (2, .int (iI w)), (3, .int (iI all2)), (4, .int (iI 1)), (5, .int (iI ((j : Int)))), (6, .int (iI all)), (7, .int (iI ((f : Int))))]) rfl ?_
                  refine k_iinc hE dX0_drawByTurns_107 5 [1, 2, 3, 4, 5, 0, 6, 7] rfl (Nat.le_of_ble_eq_true rfl) (lo' := [(0, .ref (ad 4)), (1, .int (iI d)), (2, .int (iI w)), (3, .int (iI all2)), (4, .int (iI 1)), (5, .int (iI (((j : Int)) + 1))), (6, .int (iI all)), (7, .int (iI ((f : Int))))]) rfl ?_
                  refine k_goto hE 8 dX0_drawByTurns_110 (by decide) ?_
                  refine k_lo [0, 1, 2, 3, 4, 5] (lo' := [(0, .ref (ad 4)), (1, .int (iI d)), (2, .int (iI w)), (3, .int (iI all2)), (4, .int (iI 1)), (5, .int (iI (((j : Int)) + 1)))]) rfl ?_
                  refine ih8 S2 _ _ (j + 1) (by omega) (by omega) g1 g2 g3 ga2 gg2 ?_
                  first
                    | exact Or.inl rfl
                    | (refine Or.inr ⟨rfl, ?_⟩
                       have e := TR_stop hI hw.1 (n := j) (by rw [← ga2, ← ea]; omega)
                       rw [TR_fix e 100 (by omega), e])
              · have hgf := gg f (by omega) (by omega)
                have hp := hT2.2 f (by omega) (by omega)
                have hf := hit f (by omega) (by omega)
                have hn := WN_rng hI (f := (f : Int)) (by omega) (by omega)
                refine k_aload_n hE dX0_drawByTurns_38 0 rfl rfl ?_
                refine x_get_X0_yard hE fl_X0_24 dX0_drawByTurns_39 ?_
                refine x_get_X5_taps hE fl_X0_41 dX0_drawByTurns_42 ?_
                refine k_iload hE dX0_drawByTurns_45 7 rfl ?_
                refine x_ld_taps hE (i := (f : Int)) (by omega) (by omega) dX0_drawByTurns_47 ?_
                refine k_astore hE dX0_drawByTurns_48 [1, 2, 3, 4, 5, 6, 7, 8, 0] (Nat.le_of_ble_eq_true rfl) (lo' := [(0, .ref (ad 4)), (1, .int (iI d)), (2, .int (iI w)), (3, .int (iI all2)), (4, .int (iI sd)), (5, .int (iI ((j : Int)))), (6, .int (iI all)), (7, .int (iI ((f : Int)))), (8, .ref (ta ((f : Int))))]) rfl ?_
                refine k_aload hE dX0_drawByTurns_50 8 rfl ?_
                refine x_get_X3_speed hE (z := Y.2 3 (((f : Int)))) (by omega) (by omega) (congrFun (hAS2.2 3 (by decide)) (((f : Int)))) fl_X0_87 dX0_drawByTurns_52 ?_
                refine k_aload hE dX0_drawByTurns_55 8 rfl ?_
                refine k_callV hE (c_X3_wants S2 Y ((f : Int)) hAS2 hI (by omega) (by omega)) mf_X3_wants ml_X0_79 (13 + Int.toNat ((f : Int))) (xW_tap (by omega) (by omega)) rfl rfl rfl ⟨rfl, rfl, Nat.le_of_ble_eq_true rfl, Nat.le_of_ble_eq_true rfl⟩ [.int (iI (Y.2 3 (((f : Int)))))] (Nat.le_of_ble_eq_true rfl) dX0_drawByTurns_57 rfl (fun rv u hp => ?_)
                obtain ⟨hv57, hu57⟩ := hp
                refine k_sk (sk' := [.int (iI (WN Y ((f : Int)))), .int (iI (Y.2 3 (((f : Int)))))]) (by rw [hv57]; rfl) ?_
                refine k_st S2 hu57 ?_
                refine k_aload_n hE dX0_drawByTurns_60 0 rfl rfl ?_
                refine k_iload hE dX0_drawByTurns_61 7 rfl ?_
                refine k_iload_n hE dX0_drawByTurns_63 1 rfl rfl ?_
                refine k_callV hE (c_X0_drawnBy S2 ((f : Int)) d (by omega) (by omega) (by omega)) mf_X0_drawnBy ml_X0_90 4 rfl rfl rfl rfl ⟨rfl, rfl, Nat.le_of_ble_eq_true rfl, Nat.le_of_ble_eq_true rfl⟩ [.int (iI (WN Y ((f : Int)))), .int (iI (Y.2 3 (((f : Int)))))] (Nat.le_of_ble_eq_true rfl) dX0_drawByTurns_64 rfl (fun rv u hp => ?_)
                obtain ⟨hv64, hu64⟩ := hp
                refine k_sk (sk' := [.int (iI (S2.2 11 (d * 6 + ((f : Int))))), .int (iI (WN Y ((f : Int)))), .int (iI (Y.2 3 (((f : Int)))))]) (by rw [hv64]; rfl) ?_
                refine k_st S2 hu64 ?_
                refine k_isub hE dX0_drawByTurns_67 ?_
                refine k_min hE ml_X0_93 dX0_drawByTurns_68 (by unfold in32; omega) (by unfold in32; omega) (Nat.le_of_ble_eq_true rfl) (Nat.le_of_ble_eq_true rfl) ?_
                refine k_istore hE dX0_drawByTurns_71 [1, 2, 3, 4, 5, 6, 7, 8, 9, 0] (Nat.le_of_ble_eq_true rfl) (lo' := [(0, .ref (ad 4)), (1, .int (iI d)), (2, .int (iI w)), (3, .int (iI all2)), (4, .int (iI sd)), (5, .int (iI ((j : Int)))), (6, .int (iI all)), (7, .int (iI ((f : Int)))), (8, .ref (ta ((f : Int)))), (9, .int (iI (min (Y.2 3 (((f : Int)))) ((WN Y ((f : Int))) - (S2.2 11 (d * 6 + ((f : Int))))))))]) rfl ?_
                refine k_iload_n hE dX0_drawByTurns_73 3 rfl rfl ?_
                refine k_aload_n hE dX0_drawByTurns_74 0 rfl rfl ?_
                refine k_iload hE dX0_drawByTurns_75 7 rfl ?_
                refine k_iload_n hE dX0_drawByTurns_77 1 rfl rfl ?_
                refine k_iload hE dX0_drawByTurns_78 9 rfl ?_
                refine k_iload_n hE dX0_drawByTurns_80 2 rfl rfl ?_
                refine k_iload_n hE dX0_drawByTurns_81 3 rfl rfl ?_
                refine k_isub hE dX0_drawByTurns_82 ?_
                refine k_callV hE (c_X0_draw S2 Y ((f : Int)) d (min (Y.2 3 (((f : Int)))) ((WN Y ((f : Int))) - (S2.2 11 (d * 6 + ((f : Int)))))) (w - all2) hAS2 hI (by omega) (by omega) (by omega) (by omega) (by omega)) mf_X0_draw ml_X0_83 4 rfl rfl rfl rfl ⟨rfl, rfl, Nat.le_of_ble_eq_true rfl, Nat.le_of_ble_eq_true rfl⟩ [.int (iI all2)] (Nat.le_of_ble_eq_true rfl) dX0_drawByTurns_83 rfl (fun rv u hp => ?_)
                obtain ⟨hv83, hu83⟩ := hp
                refine k_sk (sk' := [.int (iI (min (min (Y.2 3 (((f : Int)))) ((WN Y ((f : Int))) - (S2.2 11 (d * 6 + ((f : Int)))))) (GV Y ((f : Int)) (w - all2)))), .int (iI all2)]) (by rw [hv83]; rfl) ?_
                refine k_st ((S2.1, ur S2.2 11 (d * 6 + ((f : Int))) (S2.2 11 (d * 6 + ((f : Int))) + min (min (Y.2 3 (((f : Int)))) ((WN Y ((f : Int))) - (S2.2 11 (d * 6 + ((f : Int)))))) (GV Y ((f : Int)) (w - all2))))) hu83 ?_
                refine k_iadd hE dX0_drawByTurns_86 ?_
                refine k_istore_n hE dX0_drawByTurns_87 [1, 2, 3, 0, 4, 5, 6, 7, 8, 9] rfl (Nat.le_of_ble_eq_true rfl) (lo' := [(0, .ref (ad 4)), (1, .int (iI d)), (2, .int (iI w)), (3, .int (iI (all2 + (min (min (Y.2 3 (((f : Int)))) ((WN Y ((f : Int))) - (S2.2 11 (d * 6 + ((f : Int)))))) (GV Y ((f : Int)) (w - all2)))))), (4, .int (iI sd)), (5, .int (iI ((j : Int)))), (6, .int (iI all)), (7, .int (iI ((f : Int)))), (8, .ref (ta ((f : Int)))), (9, .int (iI (min (Y.2 3 (((f : Int)))) ((WN Y ((f : Int))) - (S2.2 11 (d * 6 + ((f : Int))))))))]) rfl ?_
                refine k_iinc hE dX0_drawByTurns_88 7 [1, 2, 3, 4, 5, 6, 7, 0, 8, 9] rfl (Nat.le_of_ble_eq_true rfl) (lo' := [(0, .ref (ad 4)), (1, .int (iI d)), (2, .int (iI w)), (3, .int (iI (all2 + (min (min (Y.2 3 (((f : Int)))) ((WN Y ((f : Int))) - (S2.2 11 (d * 6 + ((f : Int)))))) (GV Y ((f : Int)) (w - all2)))))), (4, .int (iI sd)), (5, .int (iI ((j : Int)))), (6, .int (iI all)), (7, .int (iI (((f : Int)) + 1))), (8, .ref (ta ((f : Int)))), (9, .int (iI (min (Y.2 3 (((f : Int)))) ((WN Y ((f : Int))) - (S2.2 11 (d * 6 + ((f : Int))))))))]) rfl ?_
                refine k_goto hE 26 dX0_drawByTurns_91 (by decide) ?_
                refine k_lo [0, 1, 2, 3, 4, 5, 6, 7] (lo' := [(0, .ref (ad 4)), (1, .int (iI d)), (2, .int (iI w)), (3, .int (iI (all2 + (min (min (Y.2 3 (((f : Int)))) ((WN Y ((f : Int))) - (S2.2 11 (d * 6 + ((f : Int)))))) (GV Y ((f : Int)) (w - all2)))))), (4, .int (iI sd)), (5, .int (iI ((j : Int)))), (6, .int (iI all)), (7, .int (iI (((f : Int)) + 1)))]) rfl ?_
                refine ih26 ((S2.1, ur S2.2 11 (d * 6 + ((f : Int))) (S2.2 11 (d * 6 + ((f : Int))) + min (min (Y.2 3 (((f : Int)))) ((WN Y ((f : Int))) - (S2.2 11 (d * 6 + ((f : Int)))))) (GV Y ((f : Int)) (w - all2))))) _ (f + 1) (by omega) (by omega) g1 (fun a ha => by show ur S2.2 11 _ _ a = _; rw [ur_n _ _ _ ha]; exact g2 a ha) (fun j hj => by show ur S2.2 11 _ _ 11 j = _; rw [ur_o _ _ _ (by omega)]; exact g3 j hj) ?_ (fun i i0 i1 => ?_)
                · show _ = (TS Y w f (TRd Y w f (TR Y w j))).1
                  unfold TS
                  rw [hgf, ga]
                · show ur S2.2 11 _ _ 11 _ = (TS Y w f (TRd Y w f (TR Y w j))).2 i
                  rw [ur_c]
                  unfold TS
                  by_cases e : i = (f : Int)
                  · rw [e, if_pos rfl]
                    dsimp only
                    rw [if_pos rfl, hgf, ga]
                  · rw [if_neg (by omega)]
                    dsimp only
                    rw [if_neg e]
                    exact gg i i0 i1
          exact L26 7 S all 0 (by omega) (by omega) e1 e2 e3 ea eg
  exact L8 102 st 0 1 0 (by omega) (by omega) rfl (fun a _ => rfl) (fun j _ => rfl) rfl (fun f f0 f1 => hz f f0 f1) (Or.inl rfl)

set_option maxHeartbeats 4000000 in
set_option maxRecDepth 100000 in
theorem c_X0_drawsBefore {ad : Nat → Nat} {ta sa ca : Int → Nat} {D : va_G} {cI cT cS : ClassId} (st : Sg) (Y : Sg) (f : Int) (g : Int) (q : Int) (hA : Ag st Y) (hI : Inv Y) (h0 : 0 ≤ f ∧ f < 6) (h1 : 0 ≤ g ∧ g < 6) (hq : st.1 10 = q) (hq3 : 0 ≤ q ∧ q ≤ 3) : MC (xw ad ta sa ca D cI cT cS) yX0_drawsBefore cX0_drawsBefore 5 (some .boolean) { frames := 0, cells := 0, slots := 0, locals := 0 } [.ref (ad 4), .int (iI f), .int (iI g)] st (fun rv u => ∃ z : Int, rv = some (.int (iI (z))) ∧ u = st ∧ ((z = 1 ∧ (KY Y q f < KY Y q g)) ∨ (z = 0 ∧ ¬ (KY Y q f < KY Y q g)))) := by
  refine MC_intro RX0 (by decide) rfl (Nat.le_of_ble_eq_true rfl) ?_
  intro G H0 m hE hR
  refine k_lo [0, 1, 2] (lo' := [(0, .ref (ad 4)), (1, .int (iI f)), (2, .int (iI g))]) rfl ?_
  obtain ⟨hi0, hi1, hi2, hi3, hi4, hi5, hi6, hi7, hit, hir, him, hin⟩ := id hI
  have hf := hit f h0.1 h0.2
  have hg := hit g h1.1 h1.2
  refine k_aload_n hE dX0_drawsBefore_0 0 rfl rfl ?_
  refine x_get_X0_yard hE fl_X0_24 dX0_drawsBefore_1 ?_
  refine x_get_X5_taps hE fl_X0_41 dX0_drawsBefore_4 ?_
  refine k_iload_n hE dX0_drawsBefore_7 1 rfl rfl ?_
  refine x_ld_taps hE (i := f) (by omega) (by omega) dX0_drawsBefore_8 ?_
  refine x_get_X3_height hE (z := Y.2 1 f) (by omega) (by omega) (congrFun (hA.2 1 (by decide)) f) fl_X0_45 dX0_drawsBefore_9 ?_
  refine k_istore_n hE dX0_drawsBefore_12 [1, 2, 3, 0] rfl (Nat.le_of_ble_eq_true rfl) (lo' := [(0, .ref (ad 4)), (1, .int (iI f)), (2, .int (iI g)), (3, .int (iI (Y.2 1 f)))]) rfl ?_
  refine k_aload_n hE dX0_drawsBefore_13 0 rfl rfl ?_
  refine x_get_X0_yard hE fl_X0_24 dX0_drawsBefore_14 ?_
  refine x_get_X5_taps hE fl_X0_41 dX0_drawsBefore_17 ?_
  refine k_iload_n hE dX0_drawsBefore_20 2 rfl rfl ?_
  refine x_ld_taps hE (i := g) (by omega) (by omega) dX0_drawsBefore_21 ?_
  refine x_get_X3_height hE (z := Y.2 1 g) (by omega) (by omega) (congrFun (hA.2 1 (by decide)) g) fl_X0_45 dX0_drawsBefore_22 ?_
  refine k_istore hE dX0_drawsBefore_25 [1, 2, 3, 4, 0] (Nat.le_of_ble_eq_true rfl) (lo' := [(0, .ref (ad 4)), (1, .int (iI f)), (2, .int (iI g)), (3, .int (iI (Y.2 1 f))), (4, .int (iI (Y.2 1 g)))]) rfl ?_
  refine k_aload_n hE dX0_drawsBefore_27 0 rfl rfl ?_
  refine x_get_X0_rule hE (z := q) hq fl_X0_28 dX0_drawsBefore_28 ?_
  refine k_iconst hE dX0_drawsBefore_31 ?_
  refine k_icmp_ne hE 49 dX0_drawsBefore_32 (by decide) (by unfold in32; omega) (by unfold in32; omega) (fun c32 => ?_) (fun c32 => ?_)
  · refine k_iload_n hE dX0_drawsBefore_49 3 rfl rfl ?_
    refine k_iload hE dX0_drawsBefore_50 4 rfl ?_
    refine k_icmp_le hE 59 dX0_drawsBefore_52 (by decide) (by unfold in32; omega) (by unfold in32; omega) (fun c52 => ?_) (fun c52 => ?_)
    · refine k_iconst hE dX0_drawsBefore_59 ?_
      refine k_zret hR dX0_drawsBefore_60 rfl (nar_b (by omega)) ?_
      refine ⟨_, rfl, rfl, ?_⟩
      by_cases e : q = 1
      · unfold KY; rw [if_pos e, if_pos e]; omega
      · unfold KY; rw [if_neg e, if_neg e]; omega
    · refine k_iconst hE dX0_drawsBefore_55 ?_
      refine k_goto hE 60 dX0_drawsBefore_56 (by decide) ?_
      refine k_zret hR dX0_drawsBefore_60 rfl (nar_b (by omega)) ?_
      refine ⟨_, rfl, rfl, ?_⟩
      by_cases e : q = 1
      · unfold KY; rw [if_pos e, if_pos e]; omega
      · unfold KY; rw [if_neg e, if_neg e]; omega
  · refine k_iload_n hE dX0_drawsBefore_35 3 rfl rfl ?_
    refine k_iload hE dX0_drawsBefore_36 4 rfl ?_
    refine k_icmp_ge hE 45 dX0_drawsBefore_38 (by decide) (by unfold in32; omega) (by unfold in32; omega) (fun c38 => ?_) (fun c38 => ?_)
    · refine k_iconst hE dX0_drawsBefore_45 ?_
      refine k_goto hE 60 dX0_drawsBefore_46 (by decide) ?_
      refine k_zret hR dX0_drawsBefore_60 rfl (nar_b (by omega)) ?_
      refine ⟨_, rfl, rfl, ?_⟩
      by_cases e : q = 1
      · unfold KY; rw [if_pos e, if_pos e]; omega
      · unfold KY; rw [if_neg e, if_neg e]; omega
    · refine k_iconst hE dX0_drawsBefore_41 ?_
      refine k_goto hE 60 dX0_drawsBefore_42 (by decide) ?_
      refine k_zret hR dX0_drawsBefore_60 rfl (nar_b (by omega)) ?_
      refine ⟨_, rfl, rfl, ?_⟩
      by_cases e : q = 1
      · unfold KY; rw [if_pos e, if_pos e]; omega
      · unfold KY; rw [if_neg e, if_neg e]; omega

set_option maxHeartbeats 4000000 in
set_option maxRecDepth 100000 in
theorem c_X0_startWith {ad : Nat → Nat} {ta sa ca : Int → Nat} {D : va_G} {cI cT cS : ClassId} (st : Sg) (Y : Sg) (w : Int) (q : Int) (hA : Ag st Y) (hI : Inv Y) (hq3 : 0 ≤ q ∧ q ≤ 3) : MC (xw ad ta sa ca D cI cT cS) yX0_startWith cX0_startWith 5 none { frames := 1, cells := 0, slots := 0, locals := 24 } [.ref (ad 4), .int (iI w), .int (iI q)] st (fun rv u => ∃ S : Sg, rv = none ∧ u = S ∧ (S.1 = uv st.1 10 q) ∧ (∀ a, a ≠ 12 → S.2 a = ur st.2 9 0 w a) ∧ (OR Y q (S.2 12) (Y.1 0).toNat)) := by
  refine MC_intro RX0 (by decide) rfl (Nat.le_of_ble_eq_true rfl) ?_
  intro G H0 m hE hR
  refine k_lo [0, 1, 2] (lo' := [(0, .ref (ad 4)), (1, .int (iI w)), (2, .int (iI q))]) rfl ?_
  obtain ⟨hi0, hi1, hi2, hi3, hi4, hi5, hi6, hi7, hit, hir, him, hin⟩ := id hI
  refine k_aload_n hE dX0_startWith_0 0 rfl rfl ?_
  refine x_get_X0_levels hE fl_X0_9 dX0_startWith_1 ?_
  refine k_iconst hE dX0_startWith_4 ?_
  refine k_iload_n hE dX0_startWith_5 1 rfl rfl ?_
  refine x_st_levels hE (by omega) (by omega) dX0_startWith_6 ?_
  refine k_st ((st.1, ur st.2 9 0 w)) rfl ?_
  refine k_aload_n hE dX0_startWith_7 0 rfl rfl ?_
  refine k_iload_n hE dX0_startWith_8 2 rfl rfl ?_
  refine x_put_X0_rule hE fl_X0_28 dX0_startWith_9 ?_
  refine k_st ((uv st.1 10 q, ur st.2 9 0 w)) rfl ?_
  refine k_iconst hE dX0_startWith_12 ?_
  refine k_istore_n hE dX0_startWith_13 [1, 2, 3, 0] rfl (Nat.le_of_ble_eq_true rfl) (lo' := [(0, .ref (ad 4)), (1, .int (iI w)), (2, .int (iI q)), (3, .int (iI 0))]) rfl ?_
  have L14 : ∀ (fu14 : Nat) (S : Sg) (f : Int), (0 ≤ f ∧ f ≤ Y.1 0) → (Y.1 0 - f < fu14) → (S.1 = uv st.1 10 q) → (∀ a, a ≠ 12 → S.2 a = ur st.2 9 0 w a) → (ORp Y q (S.2 12) f) → KW (xw ad ta sa ca D cI cT cS) G H0 m 5 S 14 [(0, .ref (ad 4)), (1, .int (iI w)), (2, .int (iI q)), (3, .int (iI f))] [] := by
    intro fu14
    induction fu14 with
    | zero =>
      intro S f q0 q1 e1 e2 eo
      omega
    | succ fu14 ih14 =>
      intro S f q0 q1 e1 e2 eo
      have hAS : Ag S Y := ⟨fun i hi => by rw [e1, uv_n _ _ (by omega)]; exact hA.1 i hi, fun a ha => by rw [e2 a (by omega), ur_n _ _ _ (by omega)]; exact hA.2 a ha⟩
      refine k_iload_n hE dX0_startWith_14 3 rfl rfl ?_
      refine k_aload_n hE dX0_startWith_15 0 rfl rfl ?_
      refine x_get_X0_yard hE fl_X0_24 dX0_startWith_16 ?_
      refine x_get_X5_tapCount hE (z := Y.1 0) (hAS.1 0 (by decide)) fl_X0_32 dX0_startWith_19 ?_
      refine k_icmp_ge hE 86 dX0_startWith_22 (by decide) (by unfold in32; omega) (by unfold in32; omega) (fun c22 => ?_) (fun c22 => ?_)
      · refine k_vret hR dX0_startWith_86 rfl ?_
        have ef : f = Y.1 0 := by omega
        exact ⟨_, rfl, rfl, e1, e2, ORp_OR (by rw [← ef]; exact eo)⟩
      · refine k_iload_n hE dX0_startWith_25 3 rfl rfl ?_
        refine k_istore hE dX0_startWith_26 [1, 2, 3, 4, 0] (Nat.le_of_ble_eq_true rfl) (lo' := [(0, .ref (ad 4)), (1, .int (iI w)), (2, .int (iI q)), (3, .int (iI f)), (4, .int (iI f))]) rfl ?_
        have L28 : ∀ (fu28 : Nat) (S2 : Sg) (p : Int), (0 ≤ p ∧ p ≤ f) → (p < fu28) → (S2.1 = uv st.1 10 q) → (∀ a, a ≠ 12 → S2.2 a = ur st.2 9 0 w a) → (∀ i : Int, 0 ≤ i → i < p → S2.2 12 i = S.2 12 i) → (∀ i : Int, p ≤ i → i < f → S2.2 12 (i + 1) = S.2 12 i) → (∀ i : Int, p ≤ i → i < f → BF Y q f (S.2 12 i)) → KW (xw ad ta sa ca D cI cT cS) G H0 m 5 S2 28 [(0, .ref (ad 4)), (1, .int (iI w)), (2, .int (iI q)), (3, .int (iI f)), (4, .int (iI p))] [] := by
          intro fu28
          induction fu28 with
          | zero =>
            intro S2 p p0 p1 g1 g2 h1 h2 h3
            omega
          | succ fu28 ih28 =>
            intro S2 p p0 p1 g1 g2 h1 h2 h3
            have hAS2 : Ag S2 Y := ⟨fun i hi => by rw [g1, uv_n _ _ (by omega)]; exact hA.1 i hi, fun a ha => by rw [g2 a (by omega), ur_n _ _ _ (by omega)]; exact hA.2 a ha⟩
            refine k_iload hE dX0_startWith_28 4 rfl ?_
            refine k_if_le hE 72 dX0_startWith_30 (by decide) (by unfold in32; omega) (fun c30 => ?_) (fun c30 => ?_)
            · refine k_aload_n hE dX0_startWith_72 0 rfl rfl ?_
              refine x_get_X0_order hE fl_X0_21 dX0_startWith_73 ?_
              refine k_iload hE dX0_startWith_76 4 rfl ?_
              refine k_iload_n hE dX0_startWith_78 3 rfl rfl ?_
              refine x_st_order hE (by omega) (by omega) dX0_startWith_79 ?_
              refine k_st ((S2.1, ur S2.2 12 p f)) rfl ?_
              refine k_iinc hE dX0_startWith_80 3 [1, 2, 3, 0, 4] rfl (Nat.le_of_ble_eq_true rfl) (lo' := [(0, .ref (ad 4)), (1, .int (iI w)), (2, .int (iI q)), (3, .int (iI (f + 1))), (4, .int (iI p))]) rfl ?_
              refine k_goto hE 14 dX0_startWith_83 (by decide) ?_
              refine k_lo [0, 1, 2, 3] (lo' := [(0, .ref (ad 4)), (1, .int (iI w)), (2, .int (iI q)), (3, .int (iI (f + 1)))]) rfl ?_
              refine ih14 ((S2.1, ur S2.2 12 p f)) _ (by omega) (by omega) g1 (fun a ha => by show ur S2.2 12 p f a = _; rw [ur_n _ _ _ ha]; exact g2 a ha) ?_
              refine ORp_ins eo p0 (fun i i0 i1 => ?_) (fun i i0 i1 => ?_) h3 ?_ ?_
              · show ur S2.2 12 p f 12 i = _
                rw [ur_o _ _ _ (by omega)]; exact h1 i i0 i1
              · show ur S2.2 12 p f 12 (i + 1) = _
                rw [ur_o _ _ _ (by omega)]; exact h2 i i0 i1
              · first
                  | exact Or.inl (by omega)
                  | (refine Or.inr ?_
                     have hr := eo.1 (p - 1) (by omega) (by omega)
                     unfold BF
                     omega)
              · show ur S2.2 12 p f 12 p = f
                exact ur_s _ _ _ _
            · have hr := eo.1 (p - 1) (by omega) (by omega)
              refine k_aload_n hE dX0_startWith_33 0 rfl rfl ?_
              refine k_iload_n hE dX0_startWith_34 3 rfl rfl ?_
              refine k_aload_n hE dX0_startWith_35 0 rfl rfl ?_
              refine x_get_X0_order hE fl_X0_21 dX0_startWith_36 ?_
              refine k_iload hE dX0_startWith_39 4 rfl ?_
              refine k_iconst hE dX0_startWith_41 ?_
              refine k_isub hE dX0_startWith_42 ?_
              refine x_ld_order hE (z := S.2 12 (p - 1)) (by omega) (by omega) (h1 (p - 1) (by omega) (by omega)) dX0_startWith_43 ?_
              refine k_callV hE (c_X0_drawsBefore S2 Y f (S.2 12 (p - 1)) q hAS2 hI (by omega) (by omega) (by rw [g1]; exact uv_s _ _ _) (by omega)) mf_X0_drawsBefore ml_X0_37 4 rfl rfl rfl rfl ⟨rfl, rfl, Nat.le_of_ble_eq_true rfl, Nat.le_of_ble_eq_true rfl⟩ [] (Nat.le_of_ble_eq_true rfl) dX0_startWith_44 rfl (fun rv u hp => ?_)
              obtain ⟨z1, hv44, hu44, hz_44⟩ := hp
              refine k_sk (sk' := [.int (iI z1)]) (by rw [hv44]; rfl) ?_
              refine k_st S2 hu44 ?_
              refine k_if_eq hE 72 dX0_startWith_47 (by decide) (by unfold in32; omega) (fun c47 => ?_) (fun c47 => ?_)
              · refine k_aload_n hE dX0_startWith_72 0 rfl rfl ?_
                refine x_get_X0_order hE fl_X0_21 dX0_startWith_73 ?_
                refine k_iload hE dX0_startWith_76 4 rfl ?_
                refine k_iload_n hE dX0_startWith_78 3 rfl rfl ?_
                refine x_st_order hE (by omega) (by omega) dX0_startWith_79 ?_
                refine k_st ((S2.1, ur S2.2 12 p f)) rfl ?_
                refine k_iinc hE dX0_startWith_80 3 [1, 2, 3, 0, 4] rfl (Nat.le_of_ble_eq_true rfl) (lo' := [(0, .ref (ad 4)), (1, .int (iI w)), (2, .int (iI q)), (3, .int (iI (f + 1))), (4, .int (iI p))]) rfl ?_
                refine k_goto hE 14 dX0_startWith_83 (by decide) ?_
                refine k_lo [0, 1, 2, 3] (lo' := [(0, .ref (ad 4)), (1, .int (iI w)), (2, .int (iI q)), (3, .int (iI (f + 1)))]) rfl ?_
                refine ih14 ((S2.1, ur S2.2 12 p f)) _ (by omega) (by omega) g1 (fun a ha => by show ur S2.2 12 p f a = _; rw [ur_n _ _ _ ha]; exact g2 a ha) ?_
                refine ORp_ins eo p0 (fun i i0 i1 => ?_) (fun i i0 i1 => ?_) h3 ?_ ?_
                · show ur S2.2 12 p f 12 i = _
                  rw [ur_o _ _ _ (by omega)]; exact h1 i i0 i1
                · show ur S2.2 12 p f 12 (i + 1) = _
                  rw [ur_o _ _ _ (by omega)]; exact h2 i i0 i1
                · first
                    | exact Or.inl (by omega)
                    | (refine Or.inr ?_
                       have hr := eo.1 (p - 1) (by omega) (by omega)
                       unfold BF
                       omega)
                · show ur S2.2 12 p f 12 p = f
                  exact ur_s _ _ _ _
              · refine k_aload_n hE dX0_startWith_50 0 rfl rfl ?_
                refine x_get_X0_order hE fl_X0_21 dX0_startWith_51 ?_
                refine k_iload hE dX0_startWith_54 4 rfl ?_
                refine k_aload_n hE dX0_startWith_56 0 rfl rfl ?_
                refine x_get_X0_order hE fl_X0_21 dX0_startWith_57 ?_
                refine k_iload hE dX0_startWith_60 4 rfl ?_
                refine k_iconst hE dX0_startWith_62 ?_
                refine k_isub hE dX0_startWith_63 ?_
                refine x_ld_order hE (z := S.2 12 (p - 1)) (by omega) (by omega) (h1 (p - 1) (by omega) (by omega)) dX0_startWith_64 ?_
                refine x_st_order hE (by omega) (by omega) dX0_startWith_65 ?_
                refine k_st ((S2.1, ur S2.2 12 p (S.2 12 (p - 1)))) rfl ?_
                refine k_iinc hE dX0_startWith_66 4 [1, 2, 3, 4, 0] rfl (Nat.le_of_ble_eq_true rfl) (lo' := [(0, .ref (ad 4)), (1, .int (iI w)), (2, .int (iI q)), (3, .int (iI f)), (4, .int (iI (p + (-1))))]) rfl ?_
                refine k_goto hE 28 dX0_startWith_69 (by decide) ?_
                refine ih28 ((S2.1, ur S2.2 12 p (S.2 12 (p - 1)))) _ (by omega) (by omega) g1 (fun a ha => by show ur S2.2 12 _ _ a = _; rw [ur_n _ _ _ ha]; exact g2 a ha) (fun i i0 i1 => ?_) (fun i i0 i1 => ?_) (fun i i0 i1 => ?_)
                · show ur S2.2 12 _ _ 12 i = _
                  rw [ur_o _ _ _ (by omega)]; exact h1 i i0 (by omega)
                · show ur S2.2 12 _ _ 12 (i + 1) = _
                  by_cases e : i = p - 1
                  · rw [e, show p - 1 + 1 = p by omega, ur_s]
                  · rw [ur_o _ _ _ (by omega)]; exact h2 i (by omega) i1
                · by_cases e : i = p - 1
                  · have hr := eo.1 (p - 1) (by omega) (by omega)
                    rw [e]; unfold BF; omega
                  · exact h3 i (by omega) i1
        exact L28 7 S f (by omega) (by omega) e1 e2 (fun i _ _ => rfl) (fun i i0 i1 => by omega) (fun i i0 i1 => by omega)
  exact L14 7 ((uv st.1 10 q, ur st.2 9 0 w)) 0 (by omega) (by omega) rfl (fun a _ => rfl) ⟨fun i i0 i1 => by omega, fun i j i0 ij j1 => by omega, fun g g0 g1 => by omega⟩
