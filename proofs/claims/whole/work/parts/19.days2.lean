set_option maxHeartbeats 4000000 in
set_option maxRecDepth 100000 in
theorem c_X0_passDay {ad : Nat → Nat} {ta sa ca : Int → Nat} {D : va_G} {cI cT cS : ClassId} (st : Sg) (Y : Sg) (d : Int) (rn : Int) (w : Int) (q : Int) (hA : Ag st Y) (hI : Inv Y) (hd : 0 ≤ d ∧ d < 10) (hr : 0 ≤ rn ∧ rn ≤ 99) (hl : st.2 9 d = w) (hw : 0 ≤ w ∧ w ≤ Y.1 1) (hq : st.1 10 = q) (hq3 : 0 ≤ q ∧ q ≤ 3) (hO : OR Y q (st.2 12) (Y.1 0).toNat) : MC (xw ad ta sa ca D cI cT cS) yX0_passDay cX0_passDay 5 none { frames := 3, cells := 0, slots := 0, locals := 77 } [.ref (ad 4), .int (iI d), .int (iI rn)] st (fun rv u => ∃ S : Sg, rv = none ∧ u = S ∧ (S.1 = st.1) ∧ (∀ a, (a < 9 ∨ 11 < a) → S.2 a = st.2 a) ∧ (∀ j : Int, j ≠ d + 1 → S.2 9 j = st.2 9 j) ∧ (S.2 9 (d + 1) = dW Y q w rn) ∧ (∀ j : Int, j ≠ d → S.2 10 j = st.2 10 j) ∧ (S.2 10 d = max 0 (w + rn - Y.1 1)) ∧ (∀ j : Int, ¬ (d * 6 ≤ j ∧ j < d * 6 + 6) → S.2 11 j = st.2 11 j) ∧ (∀ f : Int, 0 ≤ f → f < Y.1 0 → S.2 11 (d * 6 + f) = dGt Y q w rn f) ∧ (0 ≤ dW Y q w rn ∧ dW Y q w rn ≤ Y.1 1) ∧ (∀ f : Int, 0 ≤ f → f < Y.1 0 → 0 ≤ dGt Y q w rn f ∧ dGt Y q w rn f ≤ 14)) := by
  refine MC_intro RX0 (by decide) rfl (Nat.le_of_ble_eq_true rfl) ?_
  intro G H0 m hE hR
  refine k_lo [0, 1, 2] (lo' := [(0, .ref (ad 4)), (1, .int (iI d)), (2, .int (iI rn))]) rfl ?_
  obtain ⟨hi0, hi1, hi2, hi3, hi4, hi5, hi6, hi7, hit, hir, him, hin⟩ := id hI
  refine k_aload_n hE dX0_passDay_0 0 rfl rfl ?_
  refine x_get_X0_levels hE fl_X0_9 dX0_passDay_1 ?_
  refine k_iload_n hE dX0_passDay_4 1 rfl rfl ?_
  refine x_ld_levels hE (z := w) (by omega) (by omega) hl dX0_passDay_5 ?_
  refine k_iload_n hE dX0_passDay_6 2 rfl rfl ?_
  refine k_iadd hE dX0_passDay_7 ?_
  refine k_istore_n hE dX0_passDay_8 [1, 2, 3, 0] rfl (Nat.le_of_ble_eq_true rfl) (lo' := [(0, .ref (ad 4)), (1, .int (iI d)), (2, .int (iI rn)), (3, .int (iI (w + rn)))]) rfl ?_
  refine k_aload_n hE dX0_passDay_9 0 rfl rfl ?_
  refine x_get_X0_overs hE fl_X0_15 dX0_passDay_10 ?_
  refine k_iload_n hE dX0_passDay_13 1 rfl rfl ?_
  refine k_iconst hE dX0_passDay_14 ?_
  refine k_iload_n hE dX0_passDay_15 3 rfl rfl ?_
  refine k_aload_n hE dX0_passDay_16 0 rfl rfl ?_
  refine x_get_X0_yard hE fl_X0_24 dX0_passDay_17 ?_
  refine x_get_X5_cap hE (z := Y.1 1) (hA.1 1 (by decide)) fl_X0_57 dX0_passDay_20 ?_
  refine k_isub hE dX0_passDay_23 ?_
  refine k_sk (sk' := [.int (iI (w + rn - Y.1 1)), .int (iI 0), .int (iI d), .ref (ad 6)]) (congrArg (fun zz : Int => ([.int (iI zz), .int (iI 0), .int (iI d), .ref (ad 6)] : List Value)) (show ((w + rn) - (Y.1 1)) = (w + rn - Y.1 1) from (by omega))) ?_
  refine k_max hE ml_X0_60 dX0_passDay_24 (by unfold in32; omega) (by unfold in32; omega) (Nat.le_of_ble_eq_true rfl) (Nat.le_of_ble_eq_true rfl) ?_
  refine x_st_overs hE (by omega) (by omega) dX0_passDay_27 ?_
  refine k_st ((st.1, ur st.2 10 d (max 0 (w + rn - Y.1 1)))) rfl ?_
  refine k_iload_n hE dX0_passDay_28 3 rfl rfl ?_
  refine k_aload_n hE dX0_passDay_29 0 rfl rfl ?_
  refine x_get_X0_overs hE fl_X0_15 dX0_passDay_30 ?_
  refine k_iload_n hE dX0_passDay_33 1 rfl rfl ?_
  refine x_ld_overs hE (z := max 0 (w + rn - Y.1 1)) (by omega) (by omega) (show ur st.2 10 d (max 0 (w + rn - Y.1 1)) 10 d = _ from ur_s _ _ _ _) dX0_passDay_34 ?_
  refine k_isub hE dX0_passDay_35 ?_
  refine k_sk (sk' := [.int (iI (min (w + rn) (Y.1 1)))]) (congrArg (fun zz : Int => ([.int (iI zz)] : List Value)) (show ((w + rn) - (max 0 (w + rn - Y.1 1))) = (min (w + rn) (Y.1 1)) from (by omega))) ?_
  refine k_istore_n hE dX0_passDay_36 [1, 2, 3, 0] rfl (Nat.le_of_ble_eq_true rfl) (lo' := [(0, .ref (ad 4)), (1, .int (iI d)), (2, .int (iI rn)), (3, .int (iI (min (w + rn) (Y.1 1))))]) rfl ?_
  refine k_iconst hE dX0_passDay_37 ?_
  refine k_istore hE dX0_passDay_38 [1, 2, 3, 4, 0] (Nat.le_of_ble_eq_true rfl) (lo' := [(0, .ref (ad 4)), (1, .int (iI d)), (2, .int (iI rn)), (3, .int (iI (min (w + rn) (Y.1 1)))), (4, .int (iI 0))]) rfl ?_
  have L40 : ∀ (fu40 : Nat) (S : Sg) (f : Int), (0 ≤ f ∧ f ≤ Y.1 0) → (Y.1 0 - f < fu40) → (S.1 = st.1) → (∀ a, a ≠ 10 → a ≠ 11 → S.2 a = st.2 a) → (∀ j : Int, S.2 10 j = ur st.2 10 d (max 0 (w + rn - Y.1 1)) 10 j) → (∀ j : Int, ¬ (d * 6 ≤ j ∧ j < d * 6 + 6) → S.2 11 j = st.2 11 j) → (∀ i : Int, 0 ≤ i → i < f → S.2 11 (d * 6 + i) = 0) → KW (xw ad ta sa ca D cI cT cS) G H0 m 5 S 40 [(0, .ref (ad 4)), (1, .int (iI d)), (2, .int (iI rn)), (3, .int (iI (min (w + rn) (Y.1 1)))), (4, .int (iI f))] [] := by
    intro fu40
    induction fu40 with
    | zero =>
      intro S f q0 q1 f1 f2 f3 f4 fz
      omega
    | succ fu40 ih40 =>
      intro S f q0 q1 f1 f2 f3 f4 fz
      have hAS : Ag S Y := ⟨fun i hi => by rw [f1]; exact hA.1 i hi, fun a ha => by rw [f2 a (by omega) (by omega)]; exact hA.2 a ha⟩
      refine k_iload hE dX0_passDay_40 4 rfl ?_
      refine k_aload_n hE dX0_passDay_42 0 rfl rfl ?_
      refine x_get_X0_yard hE fl_X0_24 dX0_passDay_43 ?_
      refine x_get_X5_tapCount hE (z := Y.1 0) (hAS.1 0 (by decide)) fl_X0_32 dX0_passDay_46 ?_
      refine k_icmp_ge hE 71 dX0_passDay_49 (by decide) (by unfold in32; omega) (by unfold in32; omega) (fun c49 => ?_) (fun c49 => ?_)
      · have J95 : ∀ (S2 : Sg) (t : Int), (S2.1 = st.1) → (∀ a, a ≠ 10 → a ≠ 11 → S2.2 a = st.2 a) → (∀ j : Int, S2.2 10 j = ur st.2 10 d (max 0 (w + rn - Y.1 1)) 10 j) → (∀ j : Int, ¬ (d * 6 ≤ j ∧ j < d * 6 + 6) → S2.2 11 j = st.2 11 j) → (DG Y q (min (w + rn) (Y.1 1)) (fun f => S2.2 11 (d * 6 + f)) t) → KW (xw ad ta sa ca D cI cT cS) G H0 m 5 S2 95 [(0, .ref (ad 4)), (1, .int (iI d)), (2, .int (iI rn)), (3, .int (iI (min (w + rn) (Y.1 1))))] [.int (iI t), .int (iI (min (w + rn) (Y.1 1)))] := by
          intro S2 t k1 k2 k3 k4 k5
          have hAS2 : Ag S2 Y := ⟨fun i hi => by rw [k1]; exact hA.1 i hi, fun a ha => by rw [k2 a (by omega) (by omega)]; exact hA.2 a ha⟩
          have hr2 := DG_rng hI (by omega) k5
          have hm := mul99 hi5 hi2
          have hlk : 0 ≤ min (Y.1 6) (max 0 ((min (w + rn) (Y.1 1) - t) - Y.1 5 * Y.1 2)) := by omega
          refine k_isub hE dX0_passDay_95 ?_
          refine k_istore_n hE dX0_passDay_96 [1, 2, 3, 0] rfl (Nat.le_of_ble_eq_true rfl) (lo' := [(0, .ref (ad 4)), (1, .int (iI d)), (2, .int (iI rn)), (3, .int (iI ((min (w + rn) (Y.1 1)) - t)))]) rfl ?_
          refine k_aload_n hE dX0_passDay_97 0 rfl rfl ?_
          refine x_get_X0_levels hE fl_X0_9 dX0_passDay_98 ?_
          refine k_iload_n hE dX0_passDay_101 1 rfl rfl ?_
          refine k_iconst hE dX0_passDay_102 ?_
          refine k_iadd hE dX0_passDay_103 ?_
          refine k_iload_n hE dX0_passDay_104 3 rfl rfl ?_
          refine k_aload_n hE dX0_passDay_105 0 rfl rfl ?_
          refine x_get_X0_yard hE fl_X0_24 dX0_passDay_106 ?_
          refine k_iload_n hE dX0_passDay_109 3 rfl rfl ?_
          refine k_callV hE (c_X5_leaksOut S2 Y ((min (w + rn) (Y.1 1)) - t) hAS2 hI (by omega)) mf_X5_leaksOut ml_X0_72 1 rfl rfl rfl rfl ⟨rfl, rfl, Nat.le_of_ble_eq_true rfl, Nat.le_of_ble_eq_true rfl⟩ [.int (iI ((min (w + rn) (Y.1 1)) - t)), .int (iI (d + 1)), .ref (ad 5)] (Nat.le_of_ble_eq_true rfl) dX0_passDay_110 rfl (fun rv u hp => ?_)
          obtain ⟨hv110, hu110⟩ := hp
          refine k_sk (sk' := [.int (iI (min (Y.1 6) (max 0 (((min (w + rn) (Y.1 1)) - t) - Y.1 5 * Y.1 2)))), .int (iI ((min (w + rn) (Y.1 1)) - t)), .int (iI (d + 1)), .ref (ad 5)]) (by rw [hv110]; rfl) ?_
          refine k_st S2 hu110 ?_
          refine k_isub hE dX0_passDay_113 ?_
          refine x_st_levels hE (by omega) (by omega) dX0_passDay_114 ?_
          refine k_st ((S2.1, ur S2.2 9 (d + 1) (((min (w + rn) (Y.1 1)) - t) - (min (Y.1 6) (max 0 (((min (w + rn) (Y.1 1)) - t) - Y.1 5 * Y.1 2)))))) rfl ?_
          refine k_vret hR dX0_passDay_115 rfl ?_
          refine ⟨_, rfl, rfl, k1, fun a ha => ?_, fun j hj => ?_, ?_, fun j hj => ?_, ?_, fun j hj => ?_, fun f f0 f1' => ?_, dW_rng hI (by omega) (by omega) k5, fun f f0 f1' => ?_⟩
          · show ur S2.2 9 _ _ a = _
            rw [ur_n _ _ _ (by omega)]; exact k2 a (by omega) (by omega)
          · show ur S2.2 9 _ _ 9 j = _
            rw [ur_o _ _ _ hj, k2 9 (by decide) (by decide)]
          · show ur S2.2 9 _ _ 9 (d + 1) = _
            rw [ur_s]; unfold dW; rw [← (dgt_eq k5).1]
          · show S2.2 10 j = _
            rw [k3 j, ur_o _ _ _ hj]
          · show S2.2 10 d = _
            rw [k3 d, ur_s]
          · show S2.2 11 j = _
            exact k4 j hj
          · show S2.2 11 _ = _
            exact (dgt_eq k5).2 f f0 f1'
          · have e : S2.2 11 (d * 6 + f) = (dgt Y q (min (w + rn) (Y.1 1))).1 f := (dgt_eq k5).2 f f0 f1'
            have r : 0 ≤ S2.2 11 (d * 6 + f) ∧ S2.2 11 (d * 6 + f) ≤ 14 := hr2.2 f f0 f1'
            unfold dGt; omega
        refine k_iload_n hE dX0_passDay_71 3 rfl rfl ?_
        refine k_aload_n hE dX0_passDay_72 0 rfl rfl ?_
        refine x_get_X0_rule hE (z := q) (by rw [f1]; exact hq) fl_X0_28 dX0_passDay_73 ?_
        refine k_iconst hE dX0_passDay_76 ?_
        refine k_icmp_ne hE 89 dX0_passDay_77 (by decide) (by unfold in32; omega) (by unfold in32; omega) (fun c77 => ?_) (fun c77 => ?_)
        · refine k_aload_n hE dX0_passDay_89 0 rfl rfl ?_
          refine k_iload_n hE dX0_passDay_90 1 rfl rfl ?_
          refine k_iload_n hE dX0_passDay_91 3 rfl rfl ?_
          refine k_callV hE (c_X0_drawInOrder S Y d (min (w + rn) (Y.1 1)) q hAS hI (by omega) (by omega) (by rw [f1]; exact hq) (by omega) (by rw [f2 12 (by decide) (by decide)]; exact hO) (fun i i0 i1 => fz i i0 (by omega))) mf_X0_drawInOrder ml_X0_69 4 rfl rfl rfl rfl ⟨rfl, rfl, Nat.le_of_ble_eq_true rfl, Nat.le_of_ble_eq_true rfl⟩ [.int (iI (min (w + rn) (Y.1 1)))] (Nat.le_of_ble_eq_true rfl) dX0_passDay_92 rfl (fun rv u hp => ?_)
          obtain ⟨t1, S2, hv92, hu92, n1, n2, n3, n4⟩ := hp
          refine k_sk (sk' := [.int (iI t1), .int (iI (min (w + rn) (Y.1 1)))]) (by rw [hv92]; rfl) ?_
          refine k_st S2 hu92 ?_
          have n6 : DG Y q (min (w + rn) (Y.1 1)) (fun f => S2.2 11 (d * 6 + f)) t1 := Or.inr ⟨c77, n4⟩
          refine k_lo [0, 1, 2, 3] (lo' := [(0, .ref (ad 4)), (1, .int (iI d)), (2, .int (iI rn)), (3, .int (iI (min (w + rn) (Y.1 1))))]) rfl ?_
          exact J95 S2 t1 (n1.trans f1) (fun a h1 h2 => (n2 a h2).trans (f2 a h1 h2)) (fun j => by rw [n2 10 (by decide)]; exact f3 j) (fun j hj => (n3 j hj).trans (f4 j hj)) n6
        · refine k_aload_n hE dX0_passDay_80 0 rfl rfl ?_
          refine k_iload_n hE dX0_passDay_81 1 rfl rfl ?_
          refine k_iload_n hE dX0_passDay_82 3 rfl rfl ?_
          refine k_callV hE (c_X0_drawByTurns S Y d (min (w + rn) (Y.1 1)) hAS hI (by omega) (by omega) (fun i i0 i1 => fz i i0 (by omega))) mf_X0_drawByTurns ml_X0_66 4 rfl rfl rfl rfl ⟨rfl, rfl, Nat.le_of_ble_eq_true rfl, Nat.le_of_ble_eq_true rfl⟩ [.int (iI (min (w + rn) (Y.1 1)))] (Nat.le_of_ble_eq_true rfl) dX0_passDay_83 rfl (fun rv u hp => ?_)
          obtain ⟨t3, S4, hv83, hu83, n1, n2, n3, n4, n5⟩ := hp
          refine k_sk (sk' := [.int (iI t3), .int (iI (min (w + rn) (Y.1 1)))]) (by rw [hv83]; rfl) ?_
          refine k_st S4 hu83 ?_
          have n6 : DG Y q (min (w + rn) (Y.1 1)) (fun f => S4.2 11 (d * 6 + f)) t3 := Or.inl ⟨c77, n4, n5⟩
          refine k_goto hE 95 dX0_passDay_86 (by decide) ?_
          refine k_lo [0, 1, 2, 3] (lo' := [(0, .ref (ad 4)), (1, .int (iI d)), (2, .int (iI rn)), (3, .int (iI (min (w + rn) (Y.1 1))))]) rfl ?_
          exact J95 S4 t3 (n1.trans f1) (fun a h1 h2 => (n2 a h2).trans (f2 a h1 h2)) (fun j => by rw [n2 10 (by decide)]; exact f3 j) (fun j hj => (n3 j hj).trans (f4 j hj)) n6
      · refine k_aload_n hE dX0_passDay_52 0 rfl rfl ?_
        refine x_get_X0_drawn hE fl_X0_18 dX0_passDay_53 ?_
        refine k_iload_n hE dX0_passDay_56 1 rfl rfl ?_
        refine k_bipush hE dX0_passDay_57 rfl ?_
        refine k_imul hE dX0_passDay_59 ?_
        refine k_iload hE dX0_passDay_60 4 rfl ?_
        refine k_iadd hE dX0_passDay_62 ?_
        refine k_iconst hE dX0_passDay_63 ?_
        refine x_st_drawn hE (by omega) (by omega) dX0_passDay_64 ?_
        refine k_st ((S.1, ur S.2 11 ((d * 6) + f) 0)) rfl ?_
        refine k_iinc hE dX0_passDay_65 4 [1, 2, 3, 4, 0] rfl (Nat.le_of_ble_eq_true rfl) (lo' := [(0, .ref (ad 4)), (1, .int (iI d)), (2, .int (iI rn)), (3, .int (iI (min (w + rn) (Y.1 1)))), (4, .int (iI (f + 1)))]) rfl ?_
        refine k_goto hE 40 dX0_passDay_68 (by decide) ?_
        refine ih40 ((S.1, ur S.2 11 ((d * 6) + f) 0)) _ (by omega) (by omega) f1 (fun a h1 h2 => by show ur S.2 11 _ _ a = _; rw [ur_n _ _ _ h2]; exact f2 a h1 h2) (fun j => f3 j) (fun j hj => by show ur S.2 11 _ _ 11 j = _; rw [ur_o _ _ _ (by omega)]; exact f4 j hj) (fun i i0 i1 => ?_)
        show ur S.2 11 _ _ 11 _ = 0
        rw [ur_c]
        by_cases e : i = f
        · rw [e, if_pos rfl]
        · rw [if_neg (by omega)]; exact fz i i0 (by omega)
  exact L40 7 ((st.1, ur st.2 10 d (max 0 (w + rn - Y.1 1)))) 0 (by omega) (by omega) rfl (fun a h1 h2 => ur_n _ _ _ h1) (fun j => rfl) (fun j _ => rfl) (fun i i0 i1 => by omega)

set_option maxHeartbeats 4000000 in
set_option maxRecDepth 100000 in
theorem c_X0_passDays {ad : Nat → Nat} {ta sa ca : Int → Nat} {D : va_G} {cI cT cS : ClassId} (st : Sg) (Y : Sg) (a : Int) (n : Int) (w : Int) (q : Int) (hA : Ag st Y) (hI : Inv Y) (ha : a = 0) (hn : 0 ≤ n ∧ n ≤ 10) (hl : st.2 9 0 = w) (hw : 0 ≤ w ∧ w ≤ Y.1 1) (hq : st.1 10 = q) (hq3 : 0 ≤ q ∧ q ≤ 3) (hO : OR Y q (st.2 12) (Y.1 0).toNat) : MC (xw ad ta sa ca D cI cT cS) yX0_passDays cX0_passDays 4 none { frames := 4, cells := 0, slots := 0, locals := 101 } [.ref (ad 4), .int (iI a), .int (iI n)] st (fun rv u => ∃ S : Sg, rv = none ∧ u = S ∧ (S.1 = st.1) ∧ (∀ a, (a < 9 ∨ 11 < a) → S.2 a = st.2 a) ∧ (Ran Y q w (Y.2 4) S.2 n.toNat 9 10 11)) := by
  refine MC_intro RX0 (by decide) rfl (Nat.le_of_ble_eq_true rfl) ?_
  intro G H0 m hE hR
  refine k_lo [0, 1, 2] (lo' := [(0, .ref (ad 4)), (1, .int (iI a)), (2, .int (iI n))]) rfl ?_
  obtain ⟨hi0, hi1, hi2, hi3, hi4, hi5, hi6, hi7, hit, hir, him, hin⟩ := id hI
  refine k_iload_n hE dX0_passDays_0 1 rfl rfl ?_
  refine k_sk (sk' := [.int (iI (((0 : Nat) : Int)))]) (congrArg (fun zz : Int => ([.int (iI zz)] : List Value)) (show (a) = (((0 : Nat) : Int)) from ha)) ?_
  refine k_istore_n hE dX0_passDays_1 [1, 2, 3, 0] rfl (Nat.le_of_ble_eq_true rfl) (lo' := [(0, .ref (ad 4)), (1, .int (iI a)), (2, .int (iI n)), (3, .int (iI (((0 : Nat) : Int))))]) rfl ?_
  have L2 : ∀ (fu2 : Nat) (S : Sg) (k : Nat), ((k : Int) ≤ n) → (n - k < fu2) → (S.1 = st.1) → (∀ a, (a < 9 ∨ 11 < a) → S.2 a = st.2 a) → (Ran Y q w (Y.2 4) S.2 k 9 10 11) → KW (xw ad ta sa ca D cI cT cS) G H0 m 4 S 2 [(0, .ref (ad 4)), (1, .int (iI a)), (2, .int (iI n)), (3, .int (iI ((k : Int))))] [] := by
    intro fu2
    induction fu2 with
    | zero =>
      intro S k q0 q1 e1 e2 er
      omega
    | succ fu2 ih2 =>
      intro S k q0 q1 e1 e2 er
      have hAS : Ag S Y := ⟨fun i hi => by rw [e1]; exact hA.1 i hi, fun a ha => by rw [e2 a (by omega)]; exact hA.2 a ha⟩
      refine k_iload_n hE dX0_passDays_2 3 rfl rfl ?_
      refine k_iload_n hE dX0_passDays_3 2 rfl rfl ?_
      refine k_icmp_ge hE 27 dX0_passDays_4 (by decide) (by unfold in32; omega) (by unfold in32; omega) (fun c4 => ?_) (fun c4 => ?_)
      · refine k_vret hR dX0_passDays_27 rfl ?_
        have ek : n.toNat = k := by omega
        exact ⟨_, rfl, rfl, e1, e2, by rw [ek]; exact er⟩
      · refine k_aload_n hE dX0_passDays_7 0 rfl rfl ?_
        refine k_iload_n hE dX0_passDays_8 3 rfl rfl ?_
        refine k_aload_n hE dX0_passDays_9 0 rfl rfl ?_
        refine x_get_X0_yard hE fl_X0_24 dX0_passDays_10 ?_
        refine x_get_X5_rainOn hE fl_X0_50 dX0_passDays_13 ?_
        refine k_iload_n hE dX0_passDays_16 3 rfl rfl ?_
        refine x_ld_rainOn hE (z := Y.2 4 ((k : Int))) (by omega) (by omega) (congrFun (hAS.2 4 (by decide)) ((k : Int))) dX0_passDays_17 ?_
        refine k_callV hE (c_X0_passDay S Y ((k : Int)) (Y.2 4 ((k : Int))) (lev Y q w (Y.2 4) k) q hAS hI (by omega) (hir k (by omega) (by omega)) (er.1 k (Nat.le_refl k)).1 (er.1 k (Nat.le_refl k)).2 (by rw [e1]; exact hq) (by omega) (by rw [e2 12 (by decide)]; exact hO)) mf_X0_passDay ml_X0_53 4 rfl rfl rfl rfl ⟨rfl, rfl, Nat.le_of_ble_eq_true rfl, Nat.le_of_ble_eq_true rfl⟩ [] (Nat.le_of_ble_eq_true rfl) dX0_passDays_18 rfl (fun rv u hp => ?_)
        obtain ⟨S1, hv18, hu18, e1_18, e2_18, l1_18, l2_18, o1_18, o2_18, g1_18, g2_18, rg_18, gr_18⟩ := hp
        refine k_sk (sk' := []) (by rw [hv18]; rfl) ?_
        refine k_st S1 hu18 ?_
        refine k_iinc hE dX0_passDays_21 3 [1, 2, 3, 0] rfl (Nat.le_of_ble_eq_true rfl) (lo' := [(0, .ref (ad 4)), (1, .int (iI a)), (2, .int (iI n)), (3, .int (iI (((k : Int)) + 1)))]) rfl ?_
        refine k_goto hE 2 dX0_passDays_24 (by decide) ?_
        exact ih2 S1 (k + 1) (by omega) (by omega) (e1_18.trans e1) (fun a ha => (e2_18 a ha).trans (e2 a ha)) (Ran_s er l1_18 l2_18 o1_18 o2_18 g1_18 g2_18 rg_18 gr_18 hi0.2)
  exact L2 11 st 0 (by omega) (by omega) rfl (fun a _ => rfl) (Ran_0 hl hw)
