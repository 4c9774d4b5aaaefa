set_option maxHeartbeats 4000000 in
set_option maxRecDepth 100000 in
theorem c_X0_drawnBy {ad : Nat → Nat} {ta sa ca : Int → Nat} {D : va_G} {cI cT cS : ClassId} (st : Sg) (f : Int) (d : Int) (h0 : 0 ≤ f) (h1 : f < 6) (hd : 0 ≤ d ∧ d < 10) : MC (xw ad ta sa ca D cI cT cS) yX0_drawnBy cX0_drawnBy 3 (some .int) { frames := 0, cells := 0, slots := 0, locals := 0 } [.ref (ad 4), .int (iI f), .int (iI d)] st (fun rv u => rv = some (.int (iI (st.2 11 (d * 6 + f)))) ∧ u = st) := by
  refine MC_intro RX0 (by decide) rfl (Nat.le_of_ble_eq_true rfl) ?_
  intro G H0 m hE hR
  refine k_lo [0, 1, 2] (lo' := [(0, .ref (ad 4)), (1, .int (iI f)), (2, .int (iI d))]) rfl ?_
  refine k_aload_n hE dX0_drawnBy_0 0 rfl rfl ?_
  refine x_get_X0_drawn hE fl_X0_18 dX0_drawnBy_1 ?_
  refine k_iload_n hE dX0_drawnBy_4 2 rfl rfl ?_
  refine k_bipush hE dX0_drawnBy_5 rfl ?_
  refine k_imul hE dX0_drawnBy_7 ?_
  refine k_iload_n hE dX0_drawnBy_8 1 rfl rfl ?_
  refine k_iadd hE dX0_drawnBy_9 ?_
  refine x_ld_drawn hE (z := st.2 11 ((d * 6) + f)) (by omega) (by omega) rfl dX0_drawnBy_10 ?_
  exact k_iret hR dX0_drawnBy_11 rfl ⟨rfl, rfl⟩

set_option maxHeartbeats 4000000 in
set_option maxRecDepth 100000 in
theorem c_X0_draw {ad : Nat → Nat} {ta sa ca : Int → Nat} {D : va_G} {cI cT cS : ClassId} (st : Sg) (Y : Sg) (f : Int) (d : Int) (x : Int) (w : Int) (hA : Ag st Y) (hI : Inv Y) (h0 : 0 ≤ f) (h1 : f < 6) (hd : 0 ≤ d ∧ d < 10) (hx : -1000 ≤ x ∧ x ≤ 1000) (hw : -1000 ≤ w ∧ w ≤ 1000) : MC (xw ad ta sa ca D cI cT cS) yX0_draw cX0_draw 6 (some .int) { frames := 1, cells := 0, slots := 0, locals := 23 } [.ref (ad 4), .int (iI f), .int (iI d), .int (iI x), .int (iI w)] st (fun rv u => rv = some (.int (iI (min x (GV Y f w)))) ∧ u = (st.1, ur st.2 11 (d * 6 + f) (st.2 11 (d * 6 + f) + min x (GV Y f w)))) := by
  refine MC_intro RX0 (by decide) rfl (Nat.le_of_ble_eq_true rfl) ?_
  intro G H0 m hE hR
  refine k_lo [0, 1, 2, 3, 4] (lo' := [(0, .ref (ad 4)), (1, .int (iI f)), (2, .int (iI d)), (3, .int (iI x)), (4, .int (iI w))]) rfl ?_
  obtain ⟨hi0, hi1, hi2, hi3, hi4, hi5, hi6, hi7, hit, hir, him, hin⟩ := id hI
  have hg : 0 ≤ GV Y f w ∧ GV Y f w ≤ 1000 := by have h2 := hit f h0 h1; have h3 := mul99 h2.2.1 hi2; unfold GV; omega
  refine k_iload_n hE dX0_draw_0 3 rfl rfl ?_
  refine k_aload_n hE dX0_draw_1 0 rfl rfl ?_
  refine x_get_X0_yard hE fl_X0_24 dX0_draw_2 ?_
  refine k_iload_n hE dX0_draw_5 1 rfl rfl ?_
  refine k_iload hE dX0_draw_6 4 rfl ?_
  refine k_callV hE (c_X5_givesAt st Y f w hA hI (by omega) (by omega) (by omega)) mf_X5_givesAt ml_X0_96 1 rfl rfl rfl rfl ⟨rfl, rfl, Nat.le_of_ble_eq_true rfl, Nat.le_of_ble_eq_true rfl⟩ [.int (iI x)] (Nat.le_of_ble_eq_true rfl) dX0_draw_8 rfl (fun rv u hp => ?_)
  obtain ⟨hv8, hu8⟩ := hp
  refine k_sk (sk' := [.int (iI (GV Y f w)), .int (iI x)]) (by rw [hv8]; rfl) ?_
  refine k_st st hu8 ?_
  refine k_min hE ml_X0_93 dX0_draw_11 (by unfold in32; omega) (by unfold in32; omega) (Nat.le_of_ble_eq_true rfl) (Nat.le_of_ble_eq_true rfl) ?_
  refine k_istore hE dX0_draw_14 [1, 2, 3, 4, 5, 0] (Nat.le_of_ble_eq_true rfl) (lo' := [(0, .ref (ad 4)), (1, .int (iI f)), (2, .int (iI d)), (3, .int (iI x)), (4, .int (iI w)), (5, .int (iI (min x (GV Y f w))))]) rfl ?_
  refine k_aload_n hE dX0_draw_16 0 rfl rfl ?_
  refine x_get_X0_drawn hE fl_X0_18 dX0_draw_17 ?_
  refine k_iload_n hE dX0_draw_20 2 rfl rfl ?_
  refine k_bipush hE dX0_draw_21 rfl ?_
  refine k_imul hE dX0_draw_23 ?_
  refine k_iload_n hE dX0_draw_24 1 rfl rfl ?_
  refine k_iadd hE dX0_draw_25 ?_
  refine k_dup2 hE dX0_draw_26 rfl rfl ?_
  refine x_ld_drawn hE (z := st.2 11 ((d * 6) + f)) (by omega) (by omega) rfl dX0_draw_27 ?_
  refine k_iload hE dX0_draw_28 5 rfl ?_
  refine k_iadd hE dX0_draw_30 ?_
  refine x_st_drawn hE (by omega) (by omega) dX0_draw_31 ?_
  refine k_st ((st.1, ur st.2 11 ((d * 6) + f) ((st.2 11 ((d * 6) + f)) + (min x (GV Y f w))))) rfl ?_
  refine k_iload hE dX0_draw_32 5 rfl ?_
  exact k_iret hR dX0_draw_34 rfl ⟨rfl, rfl⟩

set_option maxHeartbeats 4000000 in
set_option maxRecDepth 100000 in
theorem c_X0_drawInOrder {ad : Nat → Nat} {ta sa ca : Int → Nat} {D : va_G} {cI cT cS : ClassId} (st : Sg) (Y : Sg) (d : Int) (w : Int) (q : Int) (hA : Ag st Y) (hI : Inv Y) (hd : 0 ≤ d ∧ d < 10) (hw : 0 ≤ w ∧ w ≤ 99) (hq : st.1 10 = q) (hq3 : 0 ≤ q ∧ q ≤ 3) (hO : OR Y q (st.2 12) (Y.1 0).toNat) (hz : ∀ f : Int, 0 ≤ f → f < Y.1 0 → st.2 11 (d * 6 + f) = 0) : MC (xw ad ta sa ca D cI cT cS) yX0_drawInOrder cX0_drawInOrder 7 (some .int) { frames := 2, cells := 0, slots := 0, locals := 48 } [.ref (ad 4), .int (iI d), .int (iI w)] st (fun rv u => ∃ t : Int, ∃ S : Sg, rv = some (.int (iI (t))) ∧ u = S ∧ (S.1 = st.1) ∧ (∀ a, a ≠ 11 → S.2 a = st.2 a) ∧ (∀ j : Int, ¬ (d * 6 ≤ j ∧ j < d * 6 + 6) → S.2 11 j = st.2 11 j) ∧ (GO Y q w (fun f => S.2 11 (d * 6 + f)) t)) := by
  refine MC_intro RX0 (by decide) rfl (Nat.le_of_ble_eq_true rfl) ?_
  intro G H0 m hE hR
  refine k_lo [0, 1, 2] (lo' := [(0, .ref (ad 4)), (1, .int (iI d)), (2, .int (iI w))]) rfl ?_
  obtain ⟨hi0, hi1, hi2, hi3, hi4, hi5, hi6, hi7, hit, hir, him, hin⟩ := id hI
  refine k_iconst hE dX0_drawInOrder_0 ?_
  refine k_istore_n hE dX0_drawInOrder_1 [1, 2, 3, 0] rfl (Nat.le_of_ble_eq_true rfl) (lo' := [(0, .ref (ad 4)), (1, .int (iI d)), (2, .int (iI w)), (3, .int (iI 0))]) rfl ?_
  refine k_iconst hE dX0_drawInOrder_2 ?_
  refine k_istore hE dX0_drawInOrder_3 [1, 2, 3, 4, 0] (Nat.le_of_ble_eq_true rfl) (lo' := [(0, .ref (ad 4)), (1, .int (iI d)), (2, .int (iI w)), (3, .int (iI 0)), (4, .int (iI 0))]) rfl ?_
  have L5 : ∀ (fu5 : Nat) (S : Sg) (all : Int) (k : Nat), ((k : Int) ≤ Y.1 0) → (Y.1 0 - k < fu5) → (S.1 = st.1) → (∀ a, a ≠ 11 → S.2 a = st.2 a) → (∀ j : Int, ¬ (d * 6 ≤ j ∧ j < d * 6 + 6) → S.2 11 j = st.2 11 j) → (all = DA Y q (st.2 12) w k) → (∀ i : Nat, i < k → S.2 11 (d * 6 + st.2 12 i) = DA Y q (st.2 12) w (i + 1) - DA Y q (st.2 12) w i) → (∀ f : Int, 0 ≤ f → f < Y.1 0 → (∀ i : Nat, i < k → st.2 12 i ≠ f) → S.2 11 (d * 6 + f) = 0) → KW (xw ad ta sa ca D cI cT cS) G H0 m 7 S 5 [(0, .ref (ad 4)), (1, .int (iI d)), (2, .int (iI w)), (3, .int (iI all)), (4, .int (iI ((k : Int))))] [] := by
    intro fu5
    induction fu5 with
    | zero =>
      intro S all k q0 q1 e1 e2 e3 ea e4 e5
      omega
    | succ fu5 ih5 =>
      intro S all k q0 q1 e1 e2 e3 ea e4 e5
      have hAS : Ag S Y := ⟨fun i hi => by rw [e1]; exact hA.1 i hi, fun a ha => by rw [e2 a (by omega)]; exact hA.2 a ha⟩
      have hd0 := DA_rng hI hw.1 (q := q) (o := st.2 12) (k := k) (fun i hi => hO.1 i (by omega))
      refine k_iload hE dX0_drawInOrder_5 4 rfl ?_
      refine k_aload_n hE dX0_drawInOrder_7 0 rfl rfl ?_
      refine x_get_X0_yard hE fl_X0_24 dX0_drawInOrder_8 ?_
      refine x_get_X5_tapCount hE (z := Y.1 0) (hAS.1 0 (by decide)) fl_X0_32 dX0_drawInOrder_11 ?_
      refine k_icmp_ge hE 83 dX0_drawInOrder_14 (by decide) (by unfold in32; omega) (by unfold in32; omega) (fun c14 => ?_) (fun c14 => ?_)
      · refine k_iload_n hE dX0_drawInOrder_83 3 rfl rfl ?_
        refine k_iret hR dX0_drawInOrder_84 rfl ?_
        have ek : k = (Y.1 0).toNat := by omega
        exact ⟨_, _, rfl, rfl, e1, e2, e3, st.2 12, k, by rw [ek]; exact hO, ea, e4⟩
      · have ok := hO.1 k (by omega)
        have hs := WS_rng hI q ok.1 (f := st.2 12 k) (by omega)
        refine k_aload_n hE dX0_drawInOrder_17 0 rfl rfl ?_
        refine x_get_X0_yard hE fl_X0_24 dX0_drawInOrder_18 ?_
        refine x_get_X5_taps hE fl_X0_41 dX0_drawInOrder_21 ?_
        refine k_aload_n hE dX0_drawInOrder_24 0 rfl rfl ?_
        refine x_get_X0_order hE fl_X0_21 dX0_drawInOrder_25 ?_
        refine k_iload hE dX0_drawInOrder_28 4 rfl ?_
        refine x_ld_order hE (z := st.2 12 (k : Int)) (by omega) (by omega) (congrFun (e2 12 (by decide)) _) dX0_drawInOrder_30 ?_
        refine x_ld_taps hE (i := st.2 12 (k : Int)) (by omega) (by omega) dX0_drawInOrder_31 ?_
        refine k_astore hE dX0_drawInOrder_32 [1, 2, 3, 4, 5, 0] (Nat.le_of_ble_eq_true rfl) (lo' := [(0, .ref (ad 4)), (1, .int (iI d)), (2, .int (iI w)), (3, .int (iI all)), (4, .int (iI ((k : Int)))), (5, .ref (ta (st.2 12 (k : Int))))]) rfl ?_
        have J55 : ∀ (z : Int), (z = WS Y q (st.2 12 k)) → KW (xw ad ta sa ca D cI cT cS) G H0 m 7 S 55 [(0, .ref (ad 4)), (1, .int (iI d)), (2, .int (iI w)), (3, .int (iI all)), (4, .int (iI ((k : Int)))), (5, .ref (ta (st.2 12 (k : Int))))] [.int (iI z)] := by
          intro z hz1
          refine k_istore hE dX0_drawInOrder_55 [1, 2, 3, 4, 5, 6, 0] (Nat.le_of_ble_eq_true rfl) (lo' := [(0, .ref (ad 4)), (1, .int (iI d)), (2, .int (iI w)), (3, .int (iI all)), (4, .int (iI ((k : Int)))), (5, .ref (ta (st.2 12 (k : Int)))), (6, .int (iI z))]) rfl ?_
          refine k_iload_n hE dX0_drawInOrder_57 3 rfl rfl ?_
          refine k_aload_n hE dX0_drawInOrder_58 0 rfl rfl ?_
          refine k_aload_n hE dX0_drawInOrder_59 0 rfl rfl ?_
          refine x_get_X0_order hE fl_X0_21 dX0_drawInOrder_60 ?_
          refine k_iload hE dX0_drawInOrder_63 4 rfl ?_
          refine x_ld_order hE (z := st.2 12 (k : Int)) (by omega) (by omega) (congrFun (e2 12 (by decide)) _) dX0_drawInOrder_65 ?_
          refine k_iload_n hE dX0_drawInOrder_66 1 rfl rfl ?_
          refine k_iload hE dX0_drawInOrder_67 6 rfl ?_
          refine k_iload_n hE dX0_drawInOrder_69 2 rfl rfl ?_
          refine k_iload_n hE dX0_drawInOrder_70 3 rfl rfl ?_
          refine k_isub hE dX0_drawInOrder_71 ?_
          refine k_callV hE (c_X0_draw S Y (st.2 12 (k : Int)) d z (w - all) hAS hI (by omega) (by omega) (by omega) (by omega) (by omega)) mf_X0_draw ml_X0_83 4 rfl rfl rfl rfl ⟨rfl, rfl, Nat.le_of_ble_eq_true rfl, Nat.le_of_ble_eq_true rfl⟩ [.int (iI all)] (Nat.le_of_ble_eq_true rfl) dX0_drawInOrder_72 rfl (fun rv u hp => ?_)
          obtain ⟨hv72, hu72⟩ := hp
          refine k_sk (sk' := [.int (iI (min z (GV Y (st.2 12 (k : Int)) (w - all)))), .int (iI all)]) (by rw [hv72]; rfl) ?_
          refine k_st ((S.1, ur S.2 11 (d * 6 + (st.2 12 (k : Int))) (S.2 11 (d * 6 + (st.2 12 (k : Int))) + min z (GV Y (st.2 12 (k : Int)) (w - all))))) hu72 ?_
          refine k_iadd hE dX0_drawInOrder_75 ?_
          refine k_istore_n hE dX0_drawInOrder_76 [1, 2, 3, 0, 4, 5, 6] rfl (Nat.le_of_ble_eq_true rfl) (lo' := [(0, .ref (ad 4)), (1, .int (iI d)), (2, .int (iI w)), (3, .int (iI (all + (min z (GV Y (st.2 12 (k : Int)) (w - all)))))), (4, .int (iI ((k : Int)))), (5, .ref (ta (st.2 12 (k : Int)))), (6, .int (iI z))]) rfl ?_
          refine k_iinc hE dX0_drawInOrder_77 4 [1, 2, 3, 4, 0, 5, 6] rfl (Nat.le_of_ble_eq_true rfl) (lo' := [(0, .ref (ad 4)), (1, .int (iI d)), (2, .int (iI w)), (3, .int (iI (all + (min z (GV Y (st.2 12 (k : Int)) (w - all)))))), (4, .int (iI (((k : Int)) + 1))), (5, .ref (ta (st.2 12 (k : Int)))), (6, .int (iI z))]) rfl ?_
          refine k_goto hE 5 dX0_drawInOrder_80 (by decide) ?_
          refine k_lo [0, 1, 2, 3, 4] (lo' := [(0, .ref (ad 4)), (1, .int (iI d)), (2, .int (iI w)), (3, .int (iI (all + (min z (GV Y (st.2 12 (k : Int)) (w - all)))))), (4, .int (iI (((k : Int)) + 1)))]) rfl ?_
          have ne : ∀ i : Nat, i < k → st.2 12 i ≠ st.2 12 k := fun i hi e => BF_irr Y q (st.2 12 k) (by have b := hO.2.1 i k hi (by omega); rwa [e] at b)
          have z0 := e5 (st.2 12 k) ok.1 ok.2 ne
          refine ih5 ((S.1, ur S.2 11 (d * 6 + (st.2 12 (k : Int))) (S.2 11 (d * 6 + (st.2 12 (k : Int))) + min z (GV Y (st.2 12 (k : Int)) (w - all))))) _ (k + 1) (by omega) (by omega) e1 (fun a ha => by show ur S.2 11 _ _ a = _; rw [ur_n _ _ _ ha]; exact e2 a ha) (fun j hj => by show ur S.2 11 _ _ 11 j = _; rw [ur_o _ _ _ (by omega)]; exact e3 j hj) (by rw [DA, ← ea, ← hz1]) (fun i hi => ?_) (fun f f0 f1 nf => ?_)
          · show ur S.2 11 _ _ 11 _ = _
            rw [ur_c]
            by_cases e : i = k
            · subst e
              rw [if_pos rfl, z0, DA, ← ea, ← hz1]; omega
            · rw [if_neg (by have := ne i (by omega); omega)]
              exact e4 i (by omega)
          · show ur S.2 11 _ _ 11 _ = _
            rw [ur_o _ _ _ (by have := nf k (by omega); omega)]
            exact e5 f f0 f1 (fun i hi => nf i (by omega))
        refine k_aload_n hE dX0_drawInOrder_34 0 rfl rfl ?_
        refine x_get_X0_rule hE (z := q) (by rw [e1]; exact hq) fl_X0_28 dX0_drawInOrder_35 ?_
        refine k_iconst hE dX0_drawInOrder_38 ?_
        refine k_icmp_ne hE 50 dX0_drawInOrder_39 (by decide) (by unfold in32; omega) (by unfold in32; omega) (fun c39 => ?_) (fun c39 => ?_)
        · refine k_aload hE dX0_drawInOrder_50 5 rfl ?_
          refine k_callV hE (c_X3_wants S Y (st.2 12 (k : Int)) hAS hI (by omega) (by omega)) mf_X3_wants ml_X0_79 (13 + Int.toNat (st.2 12 (k : Int))) (xW_tap (by omega) (by omega)) rfl rfl rfl ⟨rfl, rfl, Nat.le_of_ble_eq_true rfl, Nat.le_of_ble_eq_true rfl⟩ [] (Nat.le_of_ble_eq_true rfl) dX0_drawInOrder_52 rfl (fun rv u hp => ?_)
          obtain ⟨hv52, hu52⟩ := hp
          refine k_sk (sk' := [.int (iI (WN Y (st.2 12 (k : Int))))]) (by rw [hv52]; rfl) ?_
          refine k_st S hu52 ?_
          exact J55 _ (by unfold WS; split <;> omega)
        · refine k_aload hE dX0_drawInOrder_42 5 rfl ?_
          refine x_get_X3_need hE (z := Y.2 2 ((st.2 12 (k : Int)))) (by omega) (by omega) (congrFun (hAS.2 2 (by decide)) ((st.2 12 (k : Int)))) fl_X0_76 dX0_drawInOrder_44 ?_
          refine k_goto hE 55 dX0_drawInOrder_47 (by decide) ?_
          exact J55 _ (by unfold WS; split <;> omega)
  exact L5 7 st 0 0 (by omega) (by omega) rfl (fun a _ => rfl) (fun j _ => rfl) rfl (fun i hi => by omega) (fun f f0 f1 _ => hz f f0 f1)
