set_option maxHeartbeats 4000000 in
set_option maxRecDepth 100000 in
theorem c_X6_start {ad : Nat → Nat} {ta sa ca : Int → Nat} {D : va_G} {cI cT cS : ClassId} (st : Sg) (Y : Sg) (n : Int) (hA : Ag st Y) (hI : Inv Y) (i_n : -2147483648 ≤ n ∧ n < 2147483648) : MC (xw ad ta sa ca D cI cT cS) yX6_start cX6_start 3 (some .int) { frames := 5, cells := 0, slots := 0, locals := 125 } [.ref (ad 0), .int (iI n)] st (fun rv u => ∃ z : Int, ∃ S : Sg, rv = some (.int (iI (z))) ∧ u = S ∧ (SA Y n z) ∧ (XS st S)) := by
  refine MC_intro RX6 (by decide) rfl (Nat.le_of_ble_eq_true rfl) ?_
  intro G H0 m hE hR
  refine k_lo [0, 1] (lo' := [(0, .ref (ad 0)), (1, .int (iI n))]) rfl ?_
  obtain ⟨hi0, hi1, hi2, hi3, hi4, hi5, hi6, hi7, hit, hir, him, hin⟩ := id hI
  refine k_iconst hE dX6_start_0 ?_
  refine k_iload_n hE dX6_start_1 1 rfl rfl ?_
  refine k_bipush hE dX6_start_2 rfl ?_
  refine k_callS hE (c_X6_isNot st 0 n 10 (by omega) (by omega) (by omega)) ms_X6_isNot ml_X6_104 rfl ⟨rfl, rfl, Nat.le_of_ble_eq_true rfl, Nat.le_of_ble_eq_true rfl⟩ [] (Nat.le_of_ble_eq_true rfl) dX6_start_4 rfl (fun rv u hp => ?_)
  obtain ⟨z1, hv4, hu4, hz_4⟩ := hp
  refine k_sk (sk' := [.int (iI z1)]) (by rw [hv4]; rfl) ?_
  refine k_st st hu4 ?_
  refine k_if_eq hE 13 dX6_start_7 (by decide) (by unfold in32; omega) (fun c7 => ?_) (fun c7 => ?_)
  · refine k_aload_n hE dX6_start_13 0 rfl rfl ?_
    refine k_callV hE (c_X6_noYard st Y hA hI) mf_X6_noYard ml_X6_108 0 rfl rfl rfl rfl ⟨rfl, rfl, Nat.le_of_ble_eq_true rfl, Nat.le_of_ble_eq_true rfl⟩ [] (Nat.le_of_ble_eq_true rfl) dX6_start_14 rfl (fun rv u hp => ?_)
    obtain ⟨z2, hv14, hu14, hz_14⟩ := hp
    refine k_sk (sk' := [.int (iI z2)]) (by rw [hv14]; rfl) ?_
    refine k_st st hu14 ?_
    refine k_if_eq hE 23 dX6_start_17 (by decide) (by unfold in32; omega) (fun c17 => ?_) (fun c17 => ?_)
    · have w1 : ¬ (n < 0 ∨ 10 < n) := by omega
      have w2 : Y.1 0 ≠ 0 := by omega
      refine k_iconst hE dX6_start_23 ?_
      refine k_istore_n hE dX6_start_24 [1, 2, 0] rfl (Nat.le_of_ble_eq_true rfl) (lo' := [(0, .ref (ad 0)), (1, .int (iI n)), (2, .int (iI 0))]) rfl ?_
      have L25 : ∀ (fu25 : Nat) (S : Sg) (w : Int), (0 ≤ w ∧ w ≤ Y.1 1 + 1) → (Y.1 1 + 1 - w < fu25) → (XS st S) → (∀ v : Int, 0 ≤ v → v < w → ¬ CA Y v n) → KW (xw ad ta sa ca D cI cT cS) G H0 m 3 S 25 [(0, .ref (ad 0)), (1, .int (iI n)), (2, .int (iI w))] [] := by
        intro fu25
        induction fu25 with
        | zero =>
          intro S w q0 q1 hxS qn
          omega
        | succ fu25 ih25 =>
          intro S w q0 q1 hxS qn
          have hAS := hxS.ag hA
          refine k_iload_n hE dX6_start_25 2 rfl rfl ?_
          refine k_aload_n hE dX6_start_26 0 rfl rfl ?_
          refine x_get_X6_yard hE fl_X6_12 dX6_start_27 ?_
          refine x_get_X5_cap hE (z := Y.1 1) (hAS.1 1 (by decide)) fl_X6_112 dX6_start_30 ?_
          refine k_icmp_gt hE 56 dX6_start_33 (by decide) (by unfold in32; omega) (by unfold in32; omega) (fun c33 => ?_) (fun c33 => ?_)
          · refine k_bipush hE dX6_start_56 rfl ?_
            exact k_iret hR dX6_start_58 rfl ⟨-9, S, rfl, rfl, Or.inr (Or.inr ⟨w1, w2, Or.inl ⟨rfl, fun v v0 v1 => qn v v0 (by omega)⟩⟩), hxS⟩
          · refine k_aload_n hE dX6_start_36 0 rfl rfl ?_
            refine x_get_X6_days hE fl_X6_23 dX6_start_37 ?_
            refine k_iload_n hE dX6_start_40 2 rfl rfl ?_
            refine k_iload_n hE dX6_start_41 1 rfl rfl ?_
            refine k_callV hE (c_X0_allHaveNeeds S Y w n hAS hI (by omega) (by omega)) mf_X0_allHaveNeeds ml_X6_154 4 rfl rfl rfl rfl ⟨rfl, rfl, Nat.le_of_ble_eq_true rfl, Nat.le_of_ble_eq_true rfl⟩ [] (Nat.le_of_ble_eq_true rfl) dX6_start_42 rfl (fun rv u hp => ?_)
            obtain ⟨zz, S2, hv42, hu42, hz_42, hx_42⟩ := hp
            refine k_sk (sk' := [.int (iI zz)]) (by rw [hv42]; rfl) ?_
            refine k_st S2 hu42 ?_
            refine k_if_eq hE 50 dX6_start_45 (by decide) (by unfold in32; omega) (fun c45 => ?_) (fun c45 => ?_)
            · refine k_iinc hE dX6_start_50 2 [1, 2, 0] rfl (Nat.le_of_ble_eq_true rfl) (lo' := [(0, .ref (ad 0)), (1, .int (iI n)), (2, .int (iI (w + 1)))]) rfl ?_
              refine k_goto hE 25 dX6_start_53 (by decide) ?_
              refine ih25 S2 _ (by omega) (by omega) (hxS.trans hx_42) (fun v v0 v1 => ?_)
              by_cases e : v = w
              · rw [e]
                rcases hz_42 with h | h
                · omega
                · exact h.2
              · exact qn v v0 (by omega)
            · refine k_iload_n hE dX6_start_48 2 rfl rfl ?_
              refine k_iret hR dX6_start_49 rfl ?_
              refine ⟨w, S2, rfl, rfl, Or.inr (Or.inr ⟨w1, w2, Or.inr ⟨by omega, by omega, ?_, qn⟩⟩), hxS.trans hx_42⟩
              rcases hz_42 with h | h
              · exact h.2
              · omega
      exact L25 102 st 0 (by omega) (by omega) (XS.refl st) (fun v v0 v1 => by omega)
    · refine k_bipush hE dX6_start_20 rfl ?_
      exact k_iret hR dX6_start_22 rfl ⟨_, st, rfl, rfl, Or.inr (Or.inl ⟨by omega, by omega, rfl⟩), XS.refl st⟩
  · refine k_bipush hE dX6_start_10 rfl ?_
    exact k_iret hR dX6_start_12 rfl ⟨_, st, rfl, rfl, Or.inl ⟨by omega, rfl⟩, XS.refl st⟩

set_option maxHeartbeats 4000000 in
set_option maxRecDepth 100000 in
theorem c_X6_best {ad : Nat → Nat} {ta sa ca : Int → Nat} {D : va_G} {cI cT cS : ClassId} (st : Sg) (Y : Sg) (n : Int) (x : Int) (hA : Ag st Y) (hI : Inv Y) (i_n : -2147483648 ≤ n ∧ n < 2147483648) (i_x : -2147483648 ≤ x ∧ x < 2147483648) : MC (xw ad ta sa ca D cI cT cS) yX6_best cX6_best 7 (some .int) { frames := 5, cells := 0, slots := 0, locals := 124 } [.ref (ad 0), .int (iI n), .int (iI x)] st (fun rv u => ∃ z : Int, ∃ S : Sg, rv = some (.int (iI (z))) ∧ u = S ∧ (BE Y n x z) ∧ (XS st S)) := by
  refine MC_intro RX6 (by decide) rfl (Nat.le_of_ble_eq_true rfl) ?_
  intro G H0 m hE hR
  refine k_lo [0, 1, 2] (lo' := [(0, .ref (ad 0)), (1, .int (iI n)), (2, .int (iI x))]) rfl ?_
  obtain ⟨hi0, hi1, hi2, hi3, hi4, hi5, hi6, hi7, hit, hir, him, hin⟩ := id hI
  refine k_iconst hE dX6_best_0 ?_
  refine k_iload_n hE dX6_best_1 1 rfl rfl ?_
  refine k_bipush hE dX6_best_2 rfl ?_
  refine k_callS hE (c_X6_isNot st 0 n 10 (by omega) (by omega) (by omega)) ms_X6_isNot ml_X6_104 rfl ⟨rfl, rfl, Nat.le_of_ble_eq_true rfl, Nat.le_of_ble_eq_true rfl⟩ [] (Nat.le_of_ble_eq_true rfl) dX6_best_4 rfl (fun rv u hp => ?_)
  obtain ⟨z1, hv4, hu4, hz_4⟩ := hp
  refine k_sk (sk' := [.int (iI z1)]) (by rw [hv4]; rfl) ?_
  refine k_st st hu4 ?_
  refine k_if_ne hE 19 dX6_best_7 (by decide) (by unfold in32; omega) (fun c7 => ?_) (fun c7 => ?_)
  · refine k_bipush hE dX6_best_19 rfl ?_
    exact k_iret hR dX6_best_21 rfl ⟨_, st, rfl, rfl, Or.inl ⟨by omega, rfl⟩, XS.refl st⟩
  · refine k_iconst hE dX6_best_10 ?_
    refine k_iload_n hE dX6_best_11 2 rfl rfl ?_
    refine k_iconst hE dX6_best_12 ?_
    refine k_callS hE (c_X6_isNot st 0 x 1 (by omega) (by omega) (by omega)) ms_X6_isNot ml_X6_104 rfl ⟨rfl, rfl, Nat.le_of_ble_eq_true rfl, Nat.le_of_ble_eq_true rfl⟩ [] (Nat.le_of_ble_eq_true rfl) dX6_best_13 rfl (fun rv u hp => ?_)
    obtain ⟨z2, hv13, hu13, hz_13⟩ := hp
    refine k_sk (sk' := [.int (iI z2)]) (by rw [hv13]; rfl) ?_
    refine k_st st hu13 ?_
    refine k_if_eq hE 22 dX6_best_16 (by decide) (by unfold in32; omega) (fun c16 => ?_) (fun c16 => ?_)
    · refine k_aload_n hE dX6_best_22 0 rfl rfl ?_
      refine k_callV hE (c_X6_noYard st Y hA hI) mf_X6_noYard ml_X6_108 0 rfl rfl rfl rfl ⟨rfl, rfl, Nat.le_of_ble_eq_true rfl, Nat.le_of_ble_eq_true rfl⟩ [] (Nat.le_of_ble_eq_true rfl) dX6_best_23 rfl (fun rv u hp => ?_)
      obtain ⟨z3, hv23, hu23, hz_23⟩ := hp
      refine k_sk (sk' := [.int (iI z3)]) (by rw [hv23]; rfl) ?_
      refine k_st st hu23 ?_
      refine k_if_eq hE 32 dX6_best_26 (by decide) (by unfold in32; omega) (fun c26 => ?_) (fun c26 => ?_)
      · have w1 : ¬ ((n < 0 ∨ 10 < n) ∨ (x < 0 ∨ 1 < x)) := by omega
        have w2 : Y.1 0 ≠ 0 := by omega
        refine k_iconst hE dX6_best_32 ?_
        refine k_istore_n hE dX6_best_33 [1, 2, 3, 0] rfl (Nat.le_of_ble_eq_true rfl) (lo' := [(0, .ref (ad 0)), (1, .int (iI n)), (2, .int (iI x)), (3, .int (iI 0))]) rfl ?_
        refine k_iconst hE dX6_best_34 ?_
        refine k_istore hE dX6_best_35 [1, 2, 3, 4, 0] (Nat.le_of_ble_eq_true rfl) (lo' := [(0, .ref (ad 0)), (1, .int (iI n)), (2, .int (iI x)), (3, .int (iI 0)), (4, .int (iI (-1)))]) rfl ?_
        refine k_iconst hE dX6_best_37 ?_
        refine k_istore hE dX6_best_38 [1, 2, 3, 4, 5, 0] (Nat.le_of_ble_eq_true rfl) (lo' := [(0, .ref (ad 0)), (1, .int (iI n)), (2, .int (iI x)), (3, .int (iI 0)), (4, .int (iI (-1))), (5, .int (iI 0))]) rfl ?_
        have L40 : ∀ (fu40 : Nat) (S : Sg) (b : Int) (c : Int) (q : Int), (0 ≤ q ∧ q ≤ 3) → (3 - q < fu40) → (XS st S) → (BLr (NC Y n) q b c) → KW (xw ad ta sa ca D cI cT cS) G H0 m 7 S 40 [(0, .ref (ad 0)), (1, .int (iI n)), (2, .int (iI x)), (3, .int (iI b)), (4, .int (iI c)), (5, .int (iI q))] [] := by
          intro fu40
          induction fu40 with
          | zero =>
            intro S b c q q0 q1 hxS hB
            omega
          | succ fu40 ih40 =>
            intro S b c q q0 q1 hxS hB
            have hAS := hxS.ag hA
            have rN : ∀ p : Int, 0 ≤ NC Y n p ∧ NC Y n p ≤ 6 := fun p => by have r := CT_rng (fun f => NV Y p (Y.1 3) (Y.2 4) n f) (Y.1 0).toNat; unfold NC; omega
            have rc : (-1 ≤ c ∧ c ≤ 6) ∧ (0 ≤ b ∧ b ≤ 2) := by
              have r := rN b
              rcases hB with h | ⟨h1, h2, h3, h4⟩ <;> omega
            refine k_iload hE dX6_best_40 5 rfl ?_
            refine k_iconst hE dX6_best_42 ?_
            refine k_icmp_gt hE 101 dX6_best_43 (by decide) (by unfold in32; omega) (by unfold in32; omega) (fun c43 => ?_) (fun c43 => ?_)
            · refine k_iload_n hE dX6_best_101 2 rfl rfl ?_
              refine k_if_ne hE 109 dX6_best_102 (by decide) (by unfold in32; omega) (fun c102 => ?_) (fun c102 => ?_)
              · refine k_iload hE dX6_best_109 4 rfl ?_
                refine k_iret hR dX6_best_111 rfl ?_
                have eq : q = 3 := by omega
                rw [eq] at hB
                refine ⟨_, S, rfl, rfl, Or.inr (Or.inr ⟨w1, w2, b, c, hB, ?_⟩), hxS⟩
                first
                  | (rw [if_pos (by omega)])
                  | (rw [if_neg (by omega)])
              · refine k_iload_n hE dX6_best_105 3 rfl rfl ?_
                refine k_goto hE 111 dX6_best_106 (by decide) ?_
                refine k_iret hR dX6_best_111 rfl ?_
                have eq : q = 3 := by omega
                rw [eq] at hB
                refine ⟨_, S, rfl, rfl, Or.inr (Or.inr ⟨w1, w2, b, c, hB, ?_⟩), hxS⟩
                first
                  | (rw [if_pos (by omega)])
                  | (rw [if_neg (by omega)])
            · refine k_aload_n hE dX6_best_46 0 rfl rfl ?_
              refine x_get_X6_days hE fl_X6_23 dX6_best_47 ?_
              refine k_aload_n hE dX6_best_50 0 rfl rfl ?_
              refine x_get_X6_yard hE fl_X6_12 dX6_best_51 ?_
              refine x_get_X5_firstWater hE (z := Y.1 3) (hAS.1 3 (by decide)) fl_X6_115 dX6_best_54 ?_
              refine k_iload hE dX6_best_57 5 rfl ?_
              refine k_callV hE (c_X0_startWith S Y (Y.1 3) q hAS hI (by omega)) mf_X0_startWith ml_X6_157 4 rfl rfl rfl rfl ⟨rfl, rfl, Nat.le_of_ble_eq_true rfl, Nat.le_of_ble_eq_true rfl⟩ [] (Nat.le_of_ble_eq_true rfl) dX6_best_59 rfl (fun rv u hp => ?_)
              obtain ⟨S1, hv59, hu59, e1_59, e2_59, e3_59⟩ := hp
              refine k_sk (sk' := []) (by rw [hv59]; rfl) ?_
              refine k_st S1 hu59 ?_
              have hB1 : Ag S1 Y := ⟨fun i hi => by rw [e1_59, uv_n _ _ (by omega)]; exact hAS.1 i hi, fun a ha => by rw [e2_59 a (by omega), ur_n _ _ _ (by omega)]; exact hAS.2 a ha⟩
              refine k_aload_n hE dX6_best_62 0 rfl rfl ?_
              refine x_get_X6_days hE fl_X6_23 dX6_best_63 ?_
              refine k_iconst hE dX6_best_66 ?_
              refine k_iload_n hE dX6_best_67 1 rfl rfl ?_
              refine k_callV hE (c_X0_passDays S1 Y 0 n (Y.1 3) q hB1 hI (by omega) (by omega) (by rw [e2_59 9 (by decide)]; exact ur_s _ _ _ _) hi3 (by rw [e1_59]; exact uv_s _ _ _) (by omega) e3_59) mf_X0_passDays ml_X6_161 4 rfl rfl rfl rfl ⟨rfl, rfl, Nat.le_of_ble_eq_true rfl, Nat.le_of_ble_eq_true rfl⟩ [] (Nat.le_of_ble_eq_true rfl) dX6_best_68 rfl (fun rv u hp => ?_)
              obtain ⟨S2, hv68, hu68, e1_68, e2_68, er_68⟩ := hp
              refine k_sk (sk' := []) (by rw [hv68]; rfl) ?_
              refine k_st S2 hu68 ?_
              have hxT : XS st S2 := hxS.trans ⟨fun i hi => by rw [e1_68, e1_59, uv_n _ _ hi], fun a ha => by rw [e2_68 a (by omega), e2_59 a (by omega), ur_n _ _ _ (by omega)]⟩
              have hB2 : Ag S2 Y := hxT.ag hA
              refine k_aload_n hE dX6_best_71 0 rfl rfl ?_
              refine x_get_X6_days hE fl_X6_23 dX6_best_72 ?_
              refine k_iload_n hE dX6_best_75 1 rfl rfl ?_
              refine k_callV hE (c_X0_countNeverDry S2 Y n hB2 hI (by omega) (fun f f0 f1 k k0 k1 => by have hg := Ran_gD er_68 (f := f) (k := k) f0 f1 k0 (by omega); omega)) mf_X0_countNeverDry ml_X6_164 4 rfl rfl rfl rfl ⟨rfl, rfl, Nat.le_of_ble_eq_true rfl, Nat.le_of_ble_eq_true rfl⟩ [] (Nat.le_of_ble_eq_true rfl) dX6_best_76 rfl (fun rv u hp => ?_)
              obtain ⟨hv76, hu76⟩ := hp
              refine k_sk (sk' := [.int (iI (CT (fun f => ∀ k : Int, 0 ≤ k → k < n → Y.2 2 f ≤ S2.2 11 (k * 6 + f)) (Y.1 0).toNat))]) (by rw [hv76]; rfl) ?_
              refine k_st S2 hu76 ?_
              have rNq := rN q
              have ec : CT (fun f => ∀ k : Int, 0 ≤ k → k < n → Y.2 2 f ≤ S2.2 11 (k * 6 + f)) (Y.1 0).toNat = NC Y n q := CT_cong (fun f f0 f1 => ⟨fun h k k0 k1 => by rw [← (Ran_gD er_68 f0 (by omega) k0 (by omega)).1]; exact h k k0 k1, fun h k k0 k1 => by rw [(Ran_gD er_68 f0 (by omega) k0 (by omega)).1]; exact h k k0 k1⟩)
              refine k_sk (sk' := [.int (iI (NC Y n q))]) (congrArg (fun zz : Int => ([.int (iI zz)] : List Value)) (show (CT (fun f => ∀ k : Int, 0 ≤ k → k < n → Y.2 2 f ≤ S2.2 11 (k * 6 + f)) (Y.1 0).toNat) = (NC Y n q) from ec)) ?_
              refine k_istore hE dX6_best_79 [1, 2, 3, 4, 5, 6, 0] (Nat.le_of_ble_eq_true rfl) (lo' := [(0, .ref (ad 0)), (1, .int (iI n)), (2, .int (iI x)), (3, .int (iI b)), (4, .int (iI c)), (5, .int (iI q)), (6, .int (iI (NC Y n q)))]) rfl ?_
              refine k_iload hE dX6_best_81 6 rfl ?_
              refine k_iload hE dX6_best_83 4 rfl ?_
              refine k_icmp_le hE 95 dX6_best_85 (by decide) (by unfold in32; omega) (by unfold in32; omega) (fun c85 => ?_) (fun c85 => ?_)
              · refine k_iinc hE dX6_best_95 5 [1, 2, 3, 4, 5, 0, 6] rfl (Nat.le_of_ble_eq_true rfl) (lo' := [(0, .ref (ad 0)), (1, .int (iI n)), (2, .int (iI x)), (3, .int (iI b)), (4, .int (iI c)), (5, .int (iI (q + 1))), (6, .int (iI (NC Y n q)))]) rfl ?_
                refine k_goto hE 40 dX6_best_98 (by decide) ?_
                refine k_lo [0, 1, 2, 3, 4, 5] (lo' := [(0, .ref (ad 0)), (1, .int (iI n)), (2, .int (iI x)), (3, .int (iI b)), (4, .int (iI c)), (5, .int (iI (q + 1)))]) rfl ?_
                have hs := BLr_s hB q0.1 (rN q).1
                first
                  | (rw [if_pos (by omega), if_pos (by omega)] at hs
                     exact ih40 S2 _ _ _ (by omega) (by omega) hxT hs)
                  | (rw [if_neg (by omega), if_neg (by omega)] at hs
                     exact ih40 S2 _ _ _ (by omega) (by omega) hxT hs)
              · refine k_iload hE dX6_best_88 6 rfl ?_
                refine k_istore hE dX6_best_90 [1, 2, 3, 4, 0, 5, 6] (Nat.le_of_ble_eq_true rfl) (lo' := [(0, .ref (ad 0)), (1, .int (iI n)), (2, .int (iI x)), (3, .int (iI b)), (4, .int (iI (NC Y n q))), (5, .int (iI q)), (6, .int (iI (NC Y n q)))]) rfl ?_
                refine k_iload hE dX6_best_92 5 rfl ?_
                refine k_istore_n hE dX6_best_94 [1, 2, 3, 0, 4, 5, 6] rfl (Nat.le_of_ble_eq_true rfl) (lo' := [(0, .ref (ad 0)), (1, .int (iI n)), (2, .int (iI x)), (3, .int (iI q)), (4, .int (iI (NC Y n q))), (5, .int (iI q)), (6, .int (iI (NC Y n q)))]) rfl ?_
                refine k_iinc hE dX6_best_95 5 [1, 2, 3, 4, 5, 0, 6] rfl (Nat.le_of_ble_eq_true rfl) (lo' := [(0, .ref (ad 0)), (1, .int (iI n)), (2, .int (iI x)), (3, .int (iI q)), (4, .int (iI (NC Y n q))), (5, .int (iI (q + 1))), (6, .int (iI (NC Y n q)))]) rfl ?_
                refine k_goto hE 40 dX6_best_98 (by decide) ?_
                refine k_lo [0, 1, 2, 3, 4, 5] (lo' := [(0, .ref (ad 0)), (1, .int (iI n)), (2, .int (iI x)), (3, .int (iI q)), (4, .int (iI (NC Y n q))), (5, .int (iI (q + 1)))]) rfl ?_
                have hs := BLr_s hB q0.1 (rN q).1
                first
                  | (rw [if_pos (by omega), if_pos (by omega)] at hs
                     exact ih40 S2 _ _ _ (by omega) (by omega) hxT hs)
                  | (rw [if_neg (by omega), if_neg (by omega)] at hs
                     exact ih40 S2 _ _ _ (by omega) (by omega) hxT hs)
        exact L40 4 st 0 (-1) 0 (by omega) (by omega) (XS.refl st) (Or.inl ⟨rfl, rfl, rfl⟩)
      · refine k_bipush hE dX6_best_29 rfl ?_
        exact k_iret hR dX6_best_31 rfl ⟨_, st, rfl, rfl, Or.inr (Or.inl ⟨by omega, by omega, rfl⟩), XS.refl st⟩
    · refine k_bipush hE dX6_best_19 rfl ?_
      exact k_iret hR dX6_best_21 rfl ⟨_, st, rfl, rfl, Or.inl ⟨by omega, rfl⟩, XS.refl st⟩

set_option maxHeartbeats 4000000 in
set_option maxRecDepth 100000 in
theorem c_X6_highest {ad : Nat → Nat} {ta sa ca : Int → Nat} {D : va_G} {cI cT cS : ClassId} (st : Sg) (Y : Sg) (f : Int) (n : Int) (hA : Ag st Y) (hI : Inv Y) (i_f : -2147483648 ≤ f ∧ f < 2147483648) (i_n : -2147483648 ≤ n ∧ n < 2147483648) : MC (xw ad ta sa ca D cI cT cS) yX6_highest cX6_highest 7 (some .int) { frames := 6, cells := 0, slots := 0, locals := 145 } [.ref (ad 0), .int (iI f), .int (iI n)] st (fun rv u => ∃ z : Int, ∃ S : Sg, rv = some (.int (iI (z))) ∧ u = S ∧ (HI Y f n z) ∧ (XS st S)) := by
  refine MC_intro RX6 (by decide) rfl (Nat.le_of_ble_eq_true rfl) ?_
  intro G H0 m hE hR
  refine k_lo [0, 1, 2] (lo' := [(0, .ref (ad 0)), (1, .int (iI f)), (2, .int (iI n))]) rfl ?_
  obtain ⟨hi0, hi1, hi2, hi3, hi4, hi5, hi6, hi7, hit, hir, him, hin⟩ := id hI
  refine k_aload_n hE dX6_highest_0 0 rfl rfl ?_
  refine k_iload_n hE dX6_highest_1 1 rfl rfl ?_
  refine k_callV hE (c_X6_noTap st Y f hA hI (by omega)) mf_X6_noTap ml_X6_79 0 rfl rfl rfl rfl ⟨rfl, rfl, Nat.le_of_ble_eq_true rfl, Nat.le_of_ble_eq_true rfl⟩ [] (Nat.le_of_ble_eq_true rfl) dX6_highest_2 rfl (fun rv u hp => ?_)
  obtain ⟨z1, hv2, hu2, hz_2⟩ := hp
  refine k_sk (sk' := [.int (iI z1)]) (by rw [hv2]; rfl) ?_
  refine k_st st hu2 ?_
  refine k_if_eq hE 10 dX6_highest_5 (by decide) (by unfold in32; omega) (fun c5 => ?_) (fun c5 => ?_)
  · refine k_iconst hE dX6_highest_10 ?_
    refine k_iload_n hE dX6_highest_11 2 rfl rfl ?_
    refine k_bipush hE dX6_highest_12 rfl ?_
    refine k_callS hE (c_X6_isNot st 0 n 10 (by omega) (by omega) (by omega)) ms_X6_isNot ml_X6_104 rfl ⟨rfl, rfl, Nat.le_of_ble_eq_true rfl, Nat.le_of_ble_eq_true rfl⟩ [] (Nat.le_of_ble_eq_true rfl) dX6_highest_14 rfl (fun rv u hp => ?_)
    obtain ⟨z2, hv14, hu14, hz_14⟩ := hp
    refine k_sk (sk' := [.int (iI z2)]) (by rw [hv14]; rfl) ?_
    refine k_st st hu14 ?_
    refine k_if_eq hE 23 dX6_highest_17 (by decide) (by unfold in32; omega) (fun c17 => ?_) (fun c17 => ?_)
    · have w1 : ¬ (f < 0 ∨ Y.1 0 ≤ f) := by omega
      have w2 : ¬ (n < 0 ∨ 10 < n) := by omega
      refine k_aload_n hE dX6_highest_23 0 rfl rfl ?_
      refine x_get_X6_yard hE fl_X6_12 dX6_highest_24 ?_
      refine x_get_X5_taps hE fl_X6_82 dX6_highest_27 ?_
      refine k_iload_n hE dX6_highest_30 1 rfl rfl ?_
      refine x_ld_taps hE (i := f) (by omega) (by omega) dX6_highest_31 ?_
      refine k_astore_n hE dX6_highest_32 [1, 2, 3, 0] rfl (Nat.le_of_ble_eq_true rfl) (lo' := [(0, .ref (ad 0)), (1, .int (iI f)), (2, .int (iI n)), (3, .ref (ta f))]) rfl ?_
      refine k_aload_n hE dX6_highest_33 3 rfl rfl ?_
      refine x_get_X3_height hE (z := Y.2 1 f) (by omega) (by omega) (congrFun (hA.2 1 (by decide)) f) fl_X6_91 dX6_highest_34 ?_
      refine k_istore hE dX6_highest_37 [1, 2, 3, 4, 0] (Nat.le_of_ble_eq_true rfl) (lo' := [(0, .ref (ad 0)), (1, .int (iI f)), (2, .int (iI n)), (3, .ref (ta f)), (4, .int (iI (Y.2 1 f)))]) rfl ?_
      refine k_bipush hE dX6_highest_39 rfl ?_
      refine k_istore hE dX6_highest_41 [1, 2, 3, 4, 5, 0] (Nat.le_of_ble_eq_true rfl) (lo' := [(0, .ref (ad 0)), (1, .int (iI f)), (2, .int (iI n)), (3, .ref (ta f)), (4, .int (iI (Y.2 1 f))), (5, .int (iI (-9)))]) rfl ?_
      refine k_bipush hE dX6_highest_43 rfl ?_
      refine k_istore hE dX6_highest_45 [1, 2, 3, 4, 5, 6, 0] (Nat.le_of_ble_eq_true rfl) (lo' := [(0, .ref (ad 0)), (1, .int (iI f)), (2, .int (iI n)), (3, .ref (ta f)), (4, .int (iI (Y.2 1 f))), (5, .int (iI (-9))), (6, .int (iI 9))]) rfl ?_
      have L47 : ∀ (fu47 : Nat) (S : Sg) (is : Int) (h : Int), (-1 ≤ h ∧ h ≤ 9) → (h + 1 < fu47) → (∀ i, i ≠ 10 → S.1 i = st.1 i) → (∀ a, a ≠ 1 → (a < 9 ∨ 12 < a) → S.2 a = st.2 a) → (∀ j : Int, j ≠ f → S.2 1 j = st.2 1 j) → ((is = -9 ∧ ∀ g : Int, h < g → g ≤ 9 → ¬ NV (YH Y f g) (Y.1 4) (Y.1 3) (Y.2 4) n f) ∨ (0 ≤ is ∧ is ≤ 9 ∧ is = h + 1 ∧ NV (YH Y f is) (Y.1 4) (Y.1 3) (Y.2 4) n f ∧ ∀ g : Int, is < g → g ≤ 9 → ¬ NV (YH Y f g) (Y.1 4) (Y.1 3) (Y.2 4) n f)) → KW (xw ad ta sa ca D cI cT cS) G H0 m 7 S 47 [(0, .ref (ad 0)), (1, .int (iI f)), (2, .int (iI n)), (3, .ref (ta f)), (4, .int (iI (Y.2 1 f))), (5, .int (iI is)), (6, .int (iI h))] [] := by
        intro fu47
        induction fu47 with
        | zero =>
          intro S is h q0 q1 e1 e2 e3 hs
          omega
        | succ fu47 ih47 =>
          intro S is h q0 q1 e1 e2 e3 hs
          have ris : -9 ≤ is ∧ is ≤ 9 := by rcases hs with h5 | h5 <;> omega
          refine k_iload hE dX6_highest_47 6 rfl ?_
          refine k_if_lt hE 94 dX6_highest_49 (by decide) (by unfold in32; omega) (fun c49 => ?_) (fun c49 => ?_)
          · refine k_aload_n hE dX6_highest_94 3 rfl rfl ?_
            refine k_iload hE dX6_highest_95 4 rfl ?_
            refine x_put_X3_height hE (by omega) (by omega) fl_X6_91 dX6_highest_97 ?_
            refine k_st ((S.1, ur S.2 1 f (Y.2 1 f))) rfl ?_
            refine k_iload hE dX6_highest_100 5 rfl ?_
            refine k_iret hR dX6_highest_102 rfl ?_
            refine ⟨is, _, rfl, rfl, Or.inr (Or.inr ⟨w1, w2, ?_⟩), ⟨e1, fun a ha => ?_⟩⟩
            · rcases hs with h5 | h5
              · exact Or.inl ⟨h5.1, fun g g0 g1 => h5.2 g (by omega) g1⟩
              · exact Or.inr ⟨h5.1, h5.2.1, h5.2.2.2.1, h5.2.2.2.2⟩
            · show ur S.2 1 f (Y.2 1 f) a = st.2 a
              by_cases e : a = 1
              · rw [e]; funext j; rw [ur_c]
                by_cases ej : j = f
                · rw [if_pos ej, ej]; exact (congrFun (hA.2 1 (by decide)) f).symm
                · rw [if_neg ej]; exact e3 j ej
              · rw [ur_n _ _ _ e]; exact e2 a e ha
          · refine k_iload hE dX6_highest_52 5 rfl ?_
            refine k_bipush hE dX6_highest_54 rfl ?_
            refine k_icmp_ne hE 94 dX6_highest_56 (by decide) (by unfold in32; omega) (by unfold in32; omega) (fun c56 => ?_) (fun c56 => ?_)
            · refine k_aload_n hE dX6_highest_94 3 rfl rfl ?_
              refine k_iload hE dX6_highest_95 4 rfl ?_
              refine x_put_X3_height hE (by omega) (by omega) fl_X6_91 dX6_highest_97 ?_
              refine k_st ((S.1, ur S.2 1 f (Y.2 1 f))) rfl ?_
              refine k_iload hE dX6_highest_100 5 rfl ?_
              refine k_iret hR dX6_highest_102 rfl ?_
              refine ⟨is, _, rfl, rfl, Or.inr (Or.inr ⟨w1, w2, ?_⟩), ⟨e1, fun a ha => ?_⟩⟩
              · rcases hs with h5 | h5
                · exact Or.inl ⟨h5.1, fun g g0 g1 => h5.2 g (by omega) g1⟩
                · exact Or.inr ⟨h5.1, h5.2.1, h5.2.2.2.1, h5.2.2.2.2⟩
              · show ur S.2 1 f (Y.2 1 f) a = st.2 a
                by_cases e : a = 1
                · rw [e]; funext j; rw [ur_c]
                  by_cases ej : j = f
                  · rw [if_pos ej, ej]; exact (congrFun (hA.2 1 (by decide)) f).symm
                  · rw [if_neg ej]; exact e3 j ej
                · rw [ur_n _ _ _ e]; exact e2 a e ha
            · refine k_aload_n hE dX6_highest_59 3 rfl rfl ?_
              refine k_iload hE dX6_highest_60 6 rfl ?_
              refine x_put_X3_height hE (by omega) (by omega) fl_X6_91 dX6_highest_62 ?_
              refine k_st ((S.1, ur S.2 1 f h)) rfl ?_
              refine k_nm (fun S3 eS3 => ?_)
              have hA3 : Ag S3 (YH Y f h) := ⟨fun i hi => by rw [eS3]; exact (e1 i (by omega)).trans (hA.1 i hi), fun a ha => by
                rw [eS3]
                show ur S.2 1 f h a = ur Y.2 1 f h a
                by_cases e : a = 1
                · rw [e]; funext j; rw [ur_c, ur_c]
                  by_cases ej : j = f
                  · rw [if_pos ej, if_pos ej]
                  · rw [if_neg ej, if_neg ej, e3 j ej]; exact congrFun (hA.2 1 (by decide)) j
                · rw [ur_n _ _ _ e, ur_n _ _ _ e, e2 a e (by omega)]; exact hA.2 a ha⟩
              have hI3 := YH_Inv hI (f := f) (h := h) (by omega)
              refine k_aload_n hE dX6_highest_65 0 rfl rfl ?_
              refine k_iload_n hE dX6_highest_66 2 rfl rfl ?_
              refine k_callV hE (c_X6_passAsTold S3 (YH Y f h) n hA3 hI3 (by omega)) mf_X6_passAsTold ml_X6_134 0 rfl rfl rfl rfl ⟨rfl, rfl, Nat.le_of_ble_eq_true rfl, Nat.le_of_ble_eq_true rfl⟩ [] (Nat.le_of_ble_eq_true rfl) dX6_highest_67 rfl (fun rv u hp => ?_)
              obtain ⟨S4, hv67, hu67, hx_67, hr_67, hO_67, er_67⟩ := hp
              refine k_sk (sk' := []) (by rw [hv67]; rfl) ?_
              refine k_st S4 hu67 ?_
              have er : Ran (YH Y f h) (Y.1 4) (Y.1 3) (Y.2 4) S4.2 n.toNat 9 10 11 := er_67
              refine k_aload_n hE dX6_highest_70 0 rfl rfl ?_
              refine x_get_X6_days hE fl_X6_23 dX6_highest_71 ?_
              refine k_iload_n hE dX6_highest_74 1 rfl rfl ?_
              refine k_iload_n hE dX6_highest_75 2 rfl rfl ?_
              refine k_callV hE (c_X0_firstDry S4 (YH Y f h) f n (hx_67.ag hA3) hI3 (by omega) (by omega) (by omega) (fun k k0 k1 => by have hg := Ran_gD er_67 (f := f) (k := k) (by omega) (show f < Y.1 0 by omega) (by omega) (by omega); omega)) mf_X0_firstDry ml_X6_151 4 rfl rfl rfl rfl ⟨rfl, rfl, Nat.le_of_ble_eq_true rfl, Nat.le_of_ble_eq_true rfl⟩ [] (Nat.le_of_ble_eq_true rfl) dX6_highest_76 rfl (fun rv u hp => ?_)
              obtain ⟨zz, hv76, hu76, hz_76⟩ := hp
              refine k_sk (sk' := [.int (iI zz)]) (by rw [hv76]; rfl) ?_
              refine k_st S4 hu76 ?_
              have rz : -9 ≤ zz ∧ zz ≤ 10 := by rcases hz_76 with h5 | h5 <;> omega
              have hP : zz = -9 ↔ NV (YH Y f h) (Y.1 4) (Y.1 3) (Y.2 4) n f := (FD_none hz_76).trans ⟨fun h5 k k0 k1 => by rw [← (Ran_gD er (f := f) (by omega) (show f < Y.1 0 by omega) k0 (by omega)).1]; exact h5 k k0 k1, fun h5 k k0 k1 => by show Y.2 2 f ≤ S4.2 11 (k * 6 + f); rw [(Ran_gD er (f := f) (by omega) (show f < Y.1 0 by omega) k0 (by omega)).1]; exact h5 k k0 k1⟩
              refine k_bipush hE dX6_highest_79 rfl ?_
              refine k_icmp_ne hE 88 dX6_highest_81 (by decide) (by unfold in32; omega) (by unfold in32; omega) (fun c81 => ?_) (fun c81 => ?_)
              · refine k_iinc hE dX6_highest_88 6 [1, 2, 3, 4, 5, 6, 0] rfl (Nat.le_of_ble_eq_true rfl) (lo' := [(0, .ref (ad 0)), (1, .int (iI f)), (2, .int (iI n)), (3, .ref (ta f)), (4, .int (iI (Y.2 1 f))), (5, .int (iI is)), (6, .int (iI (h + (-1))))]) rfl ?_
                refine k_goto hE 47 dX6_highest_91 (by decide) ?_
                refine ih47 S4 _ _ (by omega) (by omega) (fun i hi => by rw [hx_67.1 i hi, eS3]; exact e1 i hi) (fun a ha hb => by rw [hx_67.2 a hb, eS3]; show ur S.2 1 f h a = _; rw [ur_n _ _ _ ha]; exact e2 a ha hb) (fun j hj => by rw [hx_67.2 1 (by decide), eS3]; show ur S.2 1 f h 1 j = _; rw [ur_o _ _ _ hj]; exact e3 j hj) ?_
                have hn0 : ∀ g : Int, h < g → g ≤ 9 → ¬ NV (YH Y f g) (Y.1 4) (Y.1 3) (Y.2 4) n f := by
                  rcases hs with h5 | h5
                  · exact h5.2
                  · omega
                first
                  | exact Or.inr ⟨by omega, by omega, by omega, hP.mp (by omega), hn0⟩
                  | (refine Or.inl ⟨by omega, fun g g0 g1 => ?_⟩
                     by_cases e : g = h
                     · rw [e]; exact fun hh => absurd (hP.mpr hh) (by omega)
                     · exact hn0 g (by omega) g1)
              · refine k_iload hE dX6_highest_84 6 rfl ?_
                refine k_istore hE dX6_highest_86 [1, 2, 3, 4, 5, 0, 6] (Nat.le_of_ble_eq_true rfl) (lo' := [(0, .ref (ad 0)), (1, .int (iI f)), (2, .int (iI n)), (3, .ref (ta f)), (4, .int (iI (Y.2 1 f))), (5, .int (iI h)), (6, .int (iI h))]) rfl ?_
                refine k_iinc hE dX6_highest_88 6 [1, 2, 3, 4, 5, 6, 0] rfl (Nat.le_of_ble_eq_true rfl) (lo' := [(0, .ref (ad 0)), (1, .int (iI f)), (2, .int (iI n)), (3, .ref (ta f)), (4, .int (iI (Y.2 1 f))), (5, .int (iI h)), (6, .int (iI (h + (-1))))]) rfl ?_
                refine k_goto hE 47 dX6_highest_91 (by decide) ?_
                refine ih47 S4 _ _ (by omega) (by omega) (fun i hi => by rw [hx_67.1 i hi, eS3]; exact e1 i hi) (fun a ha hb => by rw [hx_67.2 a hb, eS3]; show ur S.2 1 f h a = _; rw [ur_n _ _ _ ha]; exact e2 a ha hb) (fun j hj => by rw [hx_67.2 1 (by decide), eS3]; show ur S.2 1 f h 1 j = _; rw [ur_o _ _ _ hj]; exact e3 j hj) ?_
                have hn0 : ∀ g : Int, h < g → g ≤ 9 → ¬ NV (YH Y f g) (Y.1 4) (Y.1 3) (Y.2 4) n f := by
                  rcases hs with h5 | h5
                  · exact h5.2
                  · omega
                first
                  | exact Or.inr ⟨by omega, by omega, by omega, hP.mp (by omega), hn0⟩
                  | (refine Or.inl ⟨by omega, fun g g0 g1 => ?_⟩
                     by_cases e : g = h
                     · rw [e]; exact fun hh => absurd (hP.mpr hh) (by omega)
                     · exact hn0 g (by omega) g1)
      exact L47 11 st (-9) 9 (by omega) (by omega) (fun i _ => rfl) (fun a _ _ => rfl) (fun j _ => rfl) (Or.inl ⟨rfl, fun g g0 g1 => by omega⟩)
    · refine k_bipush hE dX6_highest_20 rfl ?_
      exact k_iret hR dX6_highest_22 rfl ⟨_, st, rfl, rfl, Or.inr (Or.inl ⟨by omega, by omega, rfl⟩), XS.refl st⟩
  · refine k_iconst hE dX6_highest_8 ?_
    exact k_iret hR dX6_highest_9 rfl ⟨_, st, rfl, rfl, Or.inl ⟨by omega, rfl⟩, XS.refl st⟩

set_option maxHeartbeats 4000000 in
set_option maxRecDepth 100000 in
theorem c_X6_mark {ad : Nat → Nat} {ta sa ca : Int → Nat} {D : va_G} {cI cT cS : ClassId} (st : Sg) (Y : Sg) (d : Int) (v : Int) (hA : Ag st Y) (hI : Inv Y) (i_d : -2147483648 ≤ d ∧ d < 2147483648) (i_v : -2147483648 ≤ v ∧ v < 2147483648) : MC (xw ad ta sa ca D cI cT cS) yX6_mark cX6_mark 3 (some .int) { frames := 1, cells := 0, slots := 0, locals := 23 } [.ref (ad 0), .int (iI d), .int (iI v)] st (fun rv u => ∃ z : Int, ∃ S : Sg, rv = some (.int (iI (z))) ∧ u = S ∧ (((d < 0 ∨ 10 < d) ∧ z = -1 ∧ S = st) ∨ (¬ (d < 0 ∨ 10 < d) ∧ (v < 0 ∨ 99 < v) ∧ z = -2 ∧ S = st) ∨ (¬ (d < 0 ∨ 10 < d) ∧ ¬ (v < 0 ∨ 99 < v) ∧ Y.1 0 = 0 ∧ z = -3 ∧ S = st) ∨ (¬ (d < 0 ∨ 10 < d) ∧ ¬ (v < 0 ∨ 99 < v) ∧ Y.1 0 ≠ 0 ∧ 8 ≤ Y.1 7 ∧ z = -4 ∧ S = st) ∨ (¬ (d < 0 ∨ 10 < d) ∧ ¬ (v < 0 ∨ 99 < v) ∧ Y.1 0 ≠ 0 ∧ ¬ 8 ≤ Y.1 7 ∧ z = Y.1 7 ∧ S = (uv st.1 7 (st.1 7 + 1), ur (ur st.2 5 (st.1 7) d) 6 (st.1 7) v)))) := by
  refine MC_intro RX6 (by decide) rfl (Nat.le_of_ble_eq_true rfl) ?_
  intro G H0 m hE hR
  refine k_lo [0, 1, 2] (lo' := [(0, .ref (ad 0)), (1, .int (iI d)), (2, .int (iI v))]) rfl ?_
  obtain ⟨hi0, hi1, hi2, hi3, hi4, hi5, hi6, hi7, hit, hir, him, hin⟩ := id hI
  refine k_iconst hE dX6_mark_0 ?_
  refine k_iload_n hE dX6_mark_1 1 rfl rfl ?_
  refine k_bipush hE dX6_mark_2 rfl ?_
  refine k_callS hE (c_X6_isNot st 0 d 10 (by omega) (by omega) (by omega)) ms_X6_isNot ml_X6_104 rfl ⟨rfl, rfl, Nat.le_of_ble_eq_true rfl, Nat.le_of_ble_eq_true rfl⟩ [] (Nat.le_of_ble_eq_true rfl) dX6_mark_4 rfl (fun rv u hp => ?_)
  obtain ⟨z1, hv4, hu4, hz_4⟩ := hp
  refine k_sk (sk' := [.int (iI z1)]) (by rw [hv4]; rfl) ?_
  refine k_st st hu4 ?_
  refine k_if_eq hE 12 dX6_mark_7 (by decide) (by unfold in32; omega) (fun c7 => ?_) (fun c7 => ?_)
  · refine k_iconst hE dX6_mark_12 ?_
    refine k_iload_n hE dX6_mark_13 2 rfl rfl ?_
    refine k_bipush hE dX6_mark_14 rfl ?_
    refine k_callS hE (c_X6_isNot st 0 v 99 (by omega) (by omega) (by omega)) ms_X6_isNot ml_X6_104 rfl ⟨rfl, rfl, Nat.le_of_ble_eq_true rfl, Nat.le_of_ble_eq_true rfl⟩ [] (Nat.le_of_ble_eq_true rfl) dX6_mark_16 rfl (fun rv u hp => ?_)
    obtain ⟨z2, hv16, hu16, hz_16⟩ := hp
    refine k_sk (sk' := [.int (iI z2)]) (by rw [hv16]; rfl) ?_
    refine k_st st hu16 ?_
    refine k_if_eq hE 25 dX6_mark_19 (by decide) (by unfold in32; omega) (fun c19 => ?_) (fun c19 => ?_)
    · refine k_aload_n hE dX6_mark_25 0 rfl rfl ?_
      refine k_callV hE (c_X6_noYard st Y hA hI) mf_X6_noYard ml_X6_108 0 rfl rfl rfl rfl ⟨rfl, rfl, Nat.le_of_ble_eq_true rfl, Nat.le_of_ble_eq_true rfl⟩ [] (Nat.le_of_ble_eq_true rfl) dX6_mark_26 rfl (fun rv u hp => ?_)
      obtain ⟨z3, hv26, hu26, hz_26⟩ := hp
      refine k_sk (sk' := [.int (iI z3)]) (by rw [hv26]; rfl) ?_
      refine k_st st hu26 ?_
      refine k_if_eq hE 35 dX6_mark_29 (by decide) (by unfold in32; omega) (fun c29 => ?_) (fun c29 => ?_)
      · refine k_aload_n hE dX6_mark_35 0 rfl rfl ?_
        refine x_get_X6_marks hE fl_X6_30 dX6_mark_36 ?_
        refine x_get_X1_count hE (z := Y.1 7) (hA.1 7 (by decide)) fl_X6_73 dX6_mark_39 ?_
        refine k_bipush hE dX6_mark_42 rfl ?_
        refine k_icmp_lt hE 50 dX6_mark_44 (by decide) (by unfold in32; omega) (by unfold in32; omega) (fun c44 => ?_) (fun c44 => ?_)
        · have hm7 := hA.1 7 (by decide)
          refine k_aload_n hE dX6_mark_50 0 rfl rfl ?_
          refine x_get_X6_marks hE fl_X6_30 dX6_mark_51 ?_
          refine k_iload_n hE dX6_mark_54 1 rfl rfl ?_
          refine k_iload_n hE dX6_mark_55 2 rfl rfl ?_
          refine k_callV hE (c_X1_addOne st d v (by omega)) mf_X1_addOne ml_X6_180 9 rfl rfl rfl rfl ⟨rfl, rfl, Nat.le_of_ble_eq_true rfl, Nat.le_of_ble_eq_true rfl⟩ [] (Nat.le_of_ble_eq_true rfl) dX6_mark_56 rfl (fun rv u hp => ?_)
          obtain ⟨hv56, hu56⟩ := hp
          refine k_sk (sk' := [.int (iI (st.1 7))]) (by rw [hv56]; rfl) ?_
          refine k_st ((uv st.1 7 (st.1 7 + 1), ur (ur st.2 5 (st.1 7) d) 6 (st.1 7) v)) hu56 ?_
          exact k_iret hR dX6_mark_59 rfl ⟨_, _, rfl, rfl, Or.inr (Or.inr (Or.inr (Or.inr ⟨by omega, by omega, by omega, by omega, hm7, rfl⟩)))⟩
        · refine k_bipush hE dX6_mark_47 rfl ?_
          exact k_iret hR dX6_mark_49 rfl ⟨_, _, rfl, rfl, Or.inr (Or.inr (Or.inr (Or.inl ⟨by omega, by omega, by omega, by omega, rfl, rfl⟩)))⟩
      · refine k_bipush hE dX6_mark_32 rfl ?_
        exact k_iret hR dX6_mark_34 rfl ⟨_, _, rfl, rfl, Or.inr (Or.inr (Or.inl ⟨by omega, by omega, by omega, rfl, rfl⟩))⟩
    · refine k_bipush hE dX6_mark_22 rfl ?_
      exact k_iret hR dX6_mark_24 rfl ⟨_, _, rfl, rfl, Or.inr (Or.inl ⟨by omega, by omega, rfl, rfl⟩)⟩
  · refine k_iconst hE dX6_mark_10 ?_
    exact k_iret hR dX6_mark_11 rfl ⟨_, _, rfl, rfl, Or.inl ⟨by omega, rfl, rfl⟩⟩

set_option maxHeartbeats 4000000 in
set_option maxRecDepth 100000 in
theorem c_X6_back {ad : Nat → Nat} {ta sa ca : Int → Nat} {D : va_G} {cI cT cS : ClassId} (st : Sg) (Y : Sg) (k : Int) (hA : Ag st Y) (hI : Inv Y) (i_k : -2147483648 ≤ k ∧ k < 2147483648) : MC (xw ad ta sa ca D cI cT cS) yX6_back cX6_back 2 (some .int) { frames := 1, cells := 0, slots := 0, locals := 22 } [.ref (ad 0), .int (iI k)] st (fun rv u => ∃ z : Int, ∃ S : Sg, rv = some (.int (iI (z))) ∧ u = S ∧ (((k < 0 ∨ Y.1 7 < k) ∧ z = -2 ∧ S = st) ∨ (¬ (k < 0 ∨ Y.1 7 < k) ∧ z = Y.1 7 - k ∧ S = (uv st.1 7 (Y.1 7 - k), st.2)))) := by
  refine MC_intro RX6 (by decide) rfl (Nat.le_of_ble_eq_true rfl) ?_
  intro G H0 m hE hR
  refine k_lo [0, 1] (lo' := [(0, .ref (ad 0)), (1, .int (iI k))]) rfl ?_
  obtain ⟨hi0, hi1, hi2, hi3, hi4, hi5, hi6, hi7, hit, hir, him, hin⟩ := id hI
  refine k_iconst hE dX6_back_0 ?_
  refine k_iload_n hE dX6_back_1 1 rfl rfl ?_
  refine k_aload_n hE dX6_back_2 0 rfl rfl ?_
  refine x_get_X6_marks hE fl_X6_30 dX6_back_3 ?_
  refine x_get_X1_count hE (z := Y.1 7) (hA.1 7 (by decide)) fl_X6_73 dX6_back_6 ?_
  refine k_callS hE (c_X6_isNot st 0 k (Y.1 7) (by omega) (by omega) (by omega)) ms_X6_isNot ml_X6_104 rfl ⟨rfl, rfl, Nat.le_of_ble_eq_true rfl, Nat.le_of_ble_eq_true rfl⟩ [] (Nat.le_of_ble_eq_true rfl) dX6_back_9 rfl (fun rv u hp => ?_)
  obtain ⟨z1, hv9, hu9, hz_9⟩ := hp
  refine k_sk (sk' := [.int (iI z1)]) (by rw [hv9]; rfl) ?_
  refine k_st st hu9 ?_
  refine k_if_eq hE 18 dX6_back_12 (by decide) (by unfold in32; omega) (fun c12 => ?_) (fun c12 => ?_)
  · refine k_aload_n hE dX6_back_18 0 rfl rfl ?_
    refine x_get_X6_marks hE fl_X6_30 dX6_back_19 ?_
    refine k_dup hE dX6_back_22 rfl ?_
    refine x_get_X1_count hE (z := Y.1 7) (hA.1 7 (by decide)) fl_X6_73 dX6_back_23 ?_
    refine k_iload_n hE dX6_back_26 1 rfl rfl ?_
    refine k_isub hE dX6_back_27 ?_
    refine x_put_X1_count hE fl_X6_73 dX6_back_28 ?_
    refine k_st ((uv st.1 7 ((Y.1 7) - k), st.2)) rfl ?_
    refine k_aload_n hE dX6_back_31 0 rfl rfl ?_
    refine x_get_X6_marks hE fl_X6_30 dX6_back_32 ?_
    refine x_get_X1_count hE (z := (Y.1 7) - k) rfl fl_X6_73 dX6_back_35 ?_
    exact k_iret hR dX6_back_38 rfl ⟨_, _, rfl, rfl, Or.inr ⟨by omega, rfl, rfl⟩⟩
  · refine k_bipush hE dX6_back_15 rfl ?_
    exact k_iret hR dX6_back_17 rfl ⟨_, _, rfl, rfl, Or.inl ⟨by omega, rfl, rfl⟩⟩
