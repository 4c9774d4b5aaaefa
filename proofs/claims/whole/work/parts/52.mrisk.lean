set_option maxHeartbeats 4000000 in
set_option maxRecDepth 100000 in
theorem c_X7_risk {ad : Nat → Nat} {D : va_G} {cI cZ : ClassId} (st : Sg) (Y : Sg) (f : Int) (n : Int) (a : Int) (b : Int) (x : Int) (hA : Ag st Y) (hI : Inv Y) (hm : st.1 15 = 0 ∧ st.1 16 = -9) (i_f : -2147483648 ≤ f ∧ f < 2147483648) (i_n : -2147483648 ≤ n ∧ n < 2147483648) (i_a : -2147483648 ≤ a ∧ a < 2147483648) (i_b : -2147483648 ≤ b ∧ b < 2147483648) (i_x : -2147483648 ≤ x ∧ x < 2147483648) : MC (mw ad D cI cZ) yX7_risk cX7_risk 9 (some .long) { frames := 5, cells := 0, slots := 0, locals := 112 } [.ref (ad 0), .int (iI f), .int (iI n), .int (iI a), .int (iI b), .int (iI x)] st (fun rv u => ∃ L : Int64, ∃ S : Sg, rv = some (.long (L)) ∧ u = S ∧ (RK Y f n a b x L) ∧ (MY st S)) := by
  refine MC_intro RX7 (by decide) rfl (Nat.le_of_ble_eq_true rfl) ?_
  intro G H0 m hE hR
  refine k_lo [0, 1, 2, 3, 4, 5] (lo' := [(0, .ref (ad 0)), (1, .int (iI f)), (2, .int (iI n)), (3, .int (iI a)), (4, .int (iI b)), (5, .int (iI x))]) rfl ?_
  obtain ⟨hi0, hi1, hi2, hi3, hi4, hi5, hi6, hi7, hit, hir, him, hin⟩ := id hI
  have a3 := hA.1 3 (by decide)
  have a4 := hA.1 4 (by decide)
  refine k_aload_n hE dX7_risk_0 0 rfl rfl ?_
  refine k_iload_n hE dX7_risk_1 1 rfl rfl ?_
  refine k_callV hE (c_X7_isTap st Y f hA hI (by omega)) mf_X7_isTap ml_X7_139 0 rfl rfl rfl rfl ⟨rfl, rfl, Nat.le_of_ble_eq_true rfl, Nat.le_of_ble_eq_true rfl⟩ [] (Nat.le_of_ble_eq_true rfl) dX7_risk_2 rfl (fun rv u hp => ?_)
  obtain ⟨z1, hv2, hu2, hz_2⟩ := hp
  refine k_sk (sk' := [.int (iI z1)]) (by rw [hv2]; rfl) ?_
  refine k_st st hu2 ?_
  refine k_if_eq hE 49 dX7_risk_5 (by decide) (by unfold in32; omega) (fun c5 => ?_) (fun c5 => ?_)
  · refine k_ldc2 hE cl_X7_72 dX7_risk_49 ?_
    exact k_lret hR dX7_risk_52 rfl ⟨_, st, rfl, rfl, Or.inl ⟨by omega, rfl⟩, (MX.refl st).y⟩
  · refine k_iload_n hE dX7_risk_8 2 rfl rfl ?_
    refine k_iconst hE dX7_risk_9 ?_
    refine k_bipush hE dX7_risk_10 rfl ?_
    refine k_callS hE (c_X7_within st n 0 6 (by omega) (by omega) (by omega)) ms_X7_within ml_X7_74 rfl ⟨rfl, rfl, Nat.le_of_ble_eq_true rfl, Nat.le_of_ble_eq_true rfl⟩ [] (Nat.le_of_ble_eq_true rfl) dX7_risk_12 rfl (fun rv u hp => ?_)
    obtain ⟨z2, hv12, hu12, hz_12⟩ := hp
    refine k_sk (sk' := [.int (iI z2)]) (by rw [hv12]; rfl) ?_
    refine k_st st hu12 ?_
    refine k_if_eq hE 49 dX7_risk_15 (by decide) (by unfold in32; omega) (fun c15 => ?_) (fun c15 => ?_)
    · refine k_ldc2 hE cl_X7_72 dX7_risk_49 ?_
      exact k_lret hR dX7_risk_52 rfl ⟨_, st, rfl, rfl, Or.inl ⟨by omega, rfl⟩, (MX.refl st).y⟩
    · refine k_iload_n hE dX7_risk_18 3 rfl rfl ?_
      refine k_iconst hE dX7_risk_19 ?_
      refine k_bipush hE dX7_risk_20 rfl ?_
      refine k_callS hE (c_X7_within st a 0 99 (by omega) (by omega) (by omega)) ms_X7_within ml_X7_74 rfl ⟨rfl, rfl, Nat.le_of_ble_eq_true rfl, Nat.le_of_ble_eq_true rfl⟩ [] (Nat.le_of_ble_eq_true rfl) dX7_risk_22 rfl (fun rv u hp => ?_)
      obtain ⟨z3, hv22, hu22, hz_22⟩ := hp
      refine k_sk (sk' := [.int (iI z3)]) (by rw [hv22]; rfl) ?_
      refine k_st st hu22 ?_
      refine k_if_eq hE 49 dX7_risk_25 (by decide) (by unfold in32; omega) (fun c25 => ?_) (fun c25 => ?_)
      · refine k_ldc2 hE cl_X7_72 dX7_risk_49 ?_
        exact k_lret hR dX7_risk_52 rfl ⟨_, st, rfl, rfl, Or.inl ⟨by omega, rfl⟩, (MX.refl st).y⟩
      · refine k_iload hE dX7_risk_28 4 rfl ?_
        refine k_iconst hE dX7_risk_30 ?_
        refine k_bipush hE dX7_risk_31 rfl ?_
        refine k_callS hE (c_X7_within st b 0 99 (by omega) (by omega) (by omega)) ms_X7_within ml_X7_74 rfl ⟨rfl, rfl, Nat.le_of_ble_eq_true rfl, Nat.le_of_ble_eq_true rfl⟩ [] (Nat.le_of_ble_eq_true rfl) dX7_risk_33 rfl (fun rv u hp => ?_)
        obtain ⟨z4, hv33, hu33, hz_33⟩ := hp
        refine k_sk (sk' := [.int (iI z4)]) (by rw [hv33]; rfl) ?_
        refine k_st st hu33 ?_
        refine k_if_eq hE 49 dX7_risk_36 (by decide) (by unfold in32; omega) (fun c36 => ?_) (fun c36 => ?_)
        · refine k_ldc2 hE cl_X7_72 dX7_risk_49 ?_
          exact k_lret hR dX7_risk_52 rfl ⟨_, st, rfl, rfl, Or.inl ⟨by omega, rfl⟩, (MX.refl st).y⟩
        · refine k_iload hE dX7_risk_39 5 rfl ?_
          refine k_iconst hE dX7_risk_41 ?_
          refine k_iconst hE dX7_risk_42 ?_
          refine k_callS hE (c_X7_within st x 0 1 (by omega) (by omega) (by omega)) ms_X7_within ml_X7_74 rfl ⟨rfl, rfl, Nat.le_of_ble_eq_true rfl, Nat.le_of_ble_eq_true rfl⟩ [] (Nat.le_of_ble_eq_true rfl) dX7_risk_43 rfl (fun rv u hp => ?_)
          obtain ⟨z5, hv43, hu43, hz_43⟩ := hp
          refine k_sk (sk' := [.int (iI z5)]) (by rw [hv43]; rfl) ?_
          refine k_st st hu43 ?_
          refine k_if_ne hE 53 dX7_risk_46 (by decide) (by unfold in32; omega) (fun c46 => ?_) (fun c46 => ?_)
          · have w1 : ¬ ((f < 0 ∨ Y.1 0 ≤ f) ∨ (n < 0 ∨ 6 < n) ∨ (x < 0 ∨ 1 < x) ∨ (a < 0 ∨ 99 < a) ∨ (b < 0 ∨ 99 < b)) := by omega
            have p6 := pow6 (n := n) (by omega) (by omega)
            have rr : ∀ row k : Int, 0 ≤ RRb a b row k ∧ RRb a b row k ≤ 99 := fun row k => by unfold RRb; split <;> omega
            refine k_iconst hE dX7_risk_53 ?_
            refine k_istore hE dX7_risk_54 [1, 2, 3, 4, 5, 6, 0] (Nat.le_of_ble_eq_true rfl) (lo' := [(0, .ref (ad 0)), (1, .int (iI f)), (2, .int (iI n)), (3, .int (iI a)), (4, .int (iI b)), (5, .int (iI x)), (6, .int (iI 0))]) rfl ?_
            have L56 : ∀ (fu56 : Nat) (S : Sg) (j : Int), (0 ≤ j ∧ j ≤ 10) → (10 - j < fu56) → (S.1 = st.1) → (∀ u : Nat, u ≠ 18 → S.2 u = st.2 u) → (∀ d : Int, 0 ≤ d → d < j → S.2 18 d = Y.2 4 d) → KW (mw ad D cI cZ) G H0 m 9 S 56 [(0, .ref (ad 0)), (1, .int (iI f)), (2, .int (iI n)), (3, .int (iI a)), (4, .int (iI b)), (5, .int (iI x)), (6, .int (iI j))] [] := by
              intro fu56
              induction fu56 with
              | zero =>
                intro S j q0 q1 e1 e2 e3
                omega
              | succ fu56 ih56 =>
                intro S j q0 q1 e1 e2 e3
                refine k_iload hE dX7_risk_56 6 rfl ?_
                refine k_bipush hE dX7_risk_58 rfl ?_
                refine k_icmp_ge hE 83 dX7_risk_60 (by decide) (by unfold in32; omega) (by unfold in32; omega) (fun c60 => ?_) (fun c60 => ?_)
                · refine k_iconst hE dX7_risk_83 ?_
                  refine k_istore hE dX7_risk_84 [1, 2, 3, 4, 5, 6, 0] (Nat.le_of_ble_eq_true rfl) (lo' := [(0, .ref (ad 0)), (1, .int (iI f)), (2, .int (iI n)), (3, .int (iI a)), (4, .int (iI b)), (5, .int (iI x)), (6, .int (iI 0))]) rfl ?_
                  refine k_iconst hE dX7_risk_86 ?_
                  refine k_istore hE dX7_risk_87 [1, 2, 3, 4, 5, 6, 7, 0] (Nat.le_of_ble_eq_true rfl) (lo' := [(0, .ref (ad 0)), (1, .int (iI f)), (2, .int (iI n)), (3, .int (iI a)), (4, .int (iI b)), (5, .int (iI x)), (6, .int (iI 0)), (7, .int (iI 0))]) rfl ?_
                  have L89 : ∀ (fu89 : Nat) (S : Sg) (c : Int) (j : Nat), ((j : Int) ≤ ((2 ^ n.toNat : Nat) : Int)) → (((2 ^ n.toNat : Nat) : Int) - j < fu89) → (∀ i, i ≠ 14 → i ≠ 19 → S.1 i = st.1 i) → (∀ u : Nat, u ≠ 4 → u ≠ 18 → (u < 12 ∨ u = 13 ∨ 17 < u) → S.2 u = st.2 u) → (∀ d : Int, 0 ≤ d → d < 10 → S.2 18 d = Y.2 4 d) → (∀ d : Int, ¬ (0 ≤ d ∧ d < 10) → S.2 4 d = Y.2 4 d) → (∀ d : Int, 0 ≤ d → d < 10 → 0 ≤ S.2 4 d ∧ S.2 4 d ≤ 99) → (c = CT (fun row => ¬ NV Y (Y.1 4) (Y.1 3) (RRb a b row) n f) j) → KW (mw ad D cI cZ) G H0 m 9 S 89 [(0, .ref (ad 0)), (1, .int (iI f)), (2, .int (iI n)), (3, .int (iI a)), (4, .int (iI b)), (5, .int (iI x)), (6, .int (iI c)), (7, .int (iI ((j : Int))))] [] := by
                    intro fu89
                    induction fu89 with
                    | zero =>
                      intro S c j q0 q1 e1 e2 ek er eg ec
                      omega
                    | succ fu89 ih89 =>
                      intro S c j q0 q1 e1 e2 ek er eg ec
                      have rc := CT_rng (fun row => ¬ NV Y (Y.1 4) (Y.1 3) (RRb a b row) n f) j
                      refine k_iload hE dX7_risk_89 7 rfl ?_
                      refine k_iconst hE dX7_risk_91 ?_
                      refine k_iload_n hE dX7_risk_92 2 rfl rfl ?_
                      refine k_ishl hE dX7_risk_93 ?_
                      refine k_sk (sk' := [.int (iI (((2 ^ n.toNat : Nat) : Int))), .int (iI ((j : Int)))]) (congrArg (fun zz : Int => ([.int (iI zz), .int (iI ((j : Int)))] : List Value)) (show (zshl 1 n) = (((2 ^ n.toNat : Nat) : Int)) from (zshl1 (by omega) (by omega)))) ?_
                      refine k_icmp_ge hE 167 dX7_risk_94 (by decide) (by unfold in32; omega) (by unfold in32; omega) (fun c94 => ?_) (fun c94 => ?_)
                      · refine k_iconst hE dX7_risk_167 ?_
                        refine k_istore hE dX7_risk_168 [1, 2, 3, 4, 5, 6, 7, 0] (Nat.le_of_ble_eq_true rfl) (lo' := [(0, .ref (ad 0)), (1, .int (iI f)), (2, .int (iI n)), (3, .int (iI a)), (4, .int (iI b)), (5, .int (iI x)), (6, .int (iI c)), (7, .int (iI 0))]) rfl ?_
                        have L170 : ∀ (fu170 : Nat) (S3 : Sg) (d : Int), (0 ≤ d ∧ d ≤ 10) → (10 - d < fu170) → (S3.1 = S.1) → (∀ u : Nat, u ≠ 4 → S3.2 u = S.2 u) → (∀ t : Int, ¬ (d ≤ t ∧ t < 10) → S3.2 4 t = Y.2 4 t) → KW (mw ad D cI cZ) G H0 m 9 S3 170 [(0, .ref (ad 0)), (1, .int (iI f)), (2, .int (iI n)), (3, .int (iI a)), (4, .int (iI b)), (5, .int (iI x)), (6, .int (iI c)), (7, .int (iI d))] [] := by
                          intro fu170
                          induction fu170 with
                          | zero =>
                            intro S3 d m0 m1 h1 h2 h3
                            omega
                          | succ fu170 ih170 =>
                            intro S3 d m0 m1 h1 h2 h3
                            refine k_iload hE dX7_risk_170 7 rfl ?_
                            refine k_bipush hE dX7_risk_172 rfl ?_
                            refine k_icmp_ge hE 197 dX7_risk_174 (by decide) (by unfold in32; omega) (by unfold in32; omega) (fun c174 => ?_) (fun c174 => ?_)
                            · refine k_iload hE dX7_risk_197 6 rfl ?_
                              refine k_i2l hE dX7_risk_199 (by unfold in32; omega) ?_
                              refine k_lconst1 hE dX7_risk_200 ?_
                              refine k_iload_n hE dX7_risk_201 2 rfl rfl ?_
                              refine k_lshl hE dX7_risk_202 ?_
                              refine k_sk (sk' := [.long (jI (((2 ^ n.toNat : Nat) : Int))), .long (jI c)]) (congrArg (fun zz : Int => ([.long (jI zz), .long (jI c)] : List Value)) (show (zlshl 1 n) = (((2 ^ n.toNat : Nat) : Int)) from (zlshl1 (by omega) (by omega)))) ?_
                              refine k_iload hE dX7_risk_203 5 rfl ?_
                              refine k_callS hE (c_X7_inLeastTerms S3 c (((2 ^ n.toNat : Nat) : Int)) x (by omega) (by omega) (by omega)) ms_X7_inLeastTerms ml_X7_205 rfl ⟨rfl, rfl, Nat.le_of_ble_eq_true rfl, Nat.le_of_ble_eq_true rfl⟩ [] (Nat.le_of_ble_eq_true rfl) dX7_risk_205 rfl (fun rv u hp => ?_)
                              obtain ⟨hv205, hu205⟩ := hp
                              refine k_sk (sk' := [.long (jI (LT c (((2 ^ n.toNat : Nat) : Int)) x))]) (by rw [hv205]; rfl) ?_
                              refine k_st S3 hu205 ?_
                              refine k_lret hR dX7_risk_208 rfl ?_
                              have ej : 2 ^ n.toNat = j := by omega
                              have ed : d = 10 := by omega
                              refine ⟨_, S3, rfl, rfl, Or.inr ⟨w1, ?_⟩, ⟨fun i i1 i2 i3 i4 => by rw [h1]; exact e1 i i1 i4, fun u hu => ?_⟩⟩
                              · unfold RKc
                                rw [ec, ← ej]
                              · by_cases e : u = 4
                                · rw [e]; funext t; rw [h3 t (by omega)]; exact (congrFun (hA.2 4 (by decide)) t).symm
                                · rw [h2 u e]; exact e2 u e (by omega) (by omega)
                            · refine k_aload_n hE dX7_risk_177 0 rfl rfl ?_
                              refine m_get_rainOf hE fl_X7_31 dX7_risk_178 ?_
                              refine k_iload hE dX7_risk_181 7 rfl ?_
                              refine k_aload_n hE dX7_risk_183 0 rfl rfl ?_
                              refine m_get_keptRain hE fl_X7_60 dX7_risk_184 ?_
                              refine k_iload hE dX7_risk_187 7 rfl ?_
                              refine m_ld_keptRain hE (z := Y.2 4 d) (by omega) (by omega) (by rw [h2 18 (by decide)]; exact ek d (by omega) (by omega)) dX7_risk_189 ?_
                              refine m_st_rainOf hE (by omega) (by omega) dX7_risk_190 ?_
                              refine k_st ((S3.1, ur S3.2 4 d (Y.2 4 d))) rfl ?_
                              refine k_iinc hE dX7_risk_191 7 [1, 2, 3, 4, 5, 6, 7, 0] rfl (Nat.le_of_ble_eq_true rfl) (lo' := [(0, .ref (ad 0)), (1, .int (iI f)), (2, .int (iI n)), (3, .int (iI a)), (4, .int (iI b)), (5, .int (iI x)), (6, .int (iI c)), (7, .int (iI (d + 1)))]) rfl ?_
                              refine k_goto hE 170 dX7_risk_194 (by decide) ?_
                              exact ih170 ((S3.1, ur S3.2 4 d (Y.2 4 d))) _ (by omega) (by omega) h1 (fun u hu => by show ur S3.2 4 _ _ u = _; rw [ur_n _ _ _ hu]; exact h2 u hu) (fun t ht => by
                                show ur S3.2 4 _ _ 4 t = _
                                rw [ur_c]
                                by_cases e : t = d
                                · rw [if_pos e, e]
                                · rw [if_neg e]; exact h3 t (by omega))
                        exact L170 11 S 0 (by omega) (by omega) rfl (fun u _ => rfl) er
                      · refine k_iconst hE dX7_risk_97 ?_
                        refine k_istore hE dX7_risk_98 [1, 2, 3, 4, 5, 6, 7, 8, 0] (Nat.le_of_ble_eq_true rfl) (lo' := [(0, .ref (ad 0)), (1, .int (iI f)), (2, .int (iI n)), (3, .int (iI a)), (4, .int (iI b)), (5, .int (iI x)), (6, .int (iI c)), (7, .int (iI ((j : Int)))), (8, .int (iI 0))]) rfl ?_
                        have L100 : ∀ (fu100 : Nat) (S2 : Sg) (k : Nat), ((k : Int) ≤ n) → (n - k < fu100) → (S2.1 = S.1) → (∀ u : Nat, u ≠ 4 → S2.2 u = S.2 u) → (∀ d : Int, ¬ (0 ≤ d ∧ d < 10) → S2.2 4 d = Y.2 4 d) → (∀ d : Int, 0 ≤ d → d < 10 → 0 ≤ S2.2 4 d ∧ S2.2 4 d ≤ 99) → (∀ d : Int, 0 ≤ d → d < k → S2.2 4 d = RRb a b j d) → KW (mw ad D cI cZ) G H0 m 9 S2 100 [(0, .ref (ad 0)), (1, .int (iI f)), (2, .int (iI n)), (3, .int (iI a)), (4, .int (iI b)), (5, .int (iI x)), (6, .int (iI c)), (7, .int (iI ((j : Int)))), (8, .int (iI ((k : Int))))] [] := by
                          intro fu100
                          induction fu100 with
                          | zero =>
                            intro S2 k p0 p1 g1 g2 g3 g4 g5
                            omega
                          | succ fu100 ih100 =>
                            intro S2 k p0 p1 g1 g2 g3 g4 g5
                            refine k_iload hE dX7_risk_100 8 rfl ?_
                            refine k_iload_n hE dX7_risk_102 2 rfl rfl ?_
                            refine k_icmp_ge hE 135 dX7_risk_103 (by decide) (by unfold in32; omega) (by unfold in32; omega) (fun c103 => ?_) (fun c103 => ?_)
                            · have hA2 : AgD S2 Y := ⟨fun i hi => by
                                simp only [List.mem_cons, List.mem_nil_iff, or_false] at hi
                                rw [g1, e1 i (by omega) (by omega)]
                                exact hA.1 i (by omega), fun u hu => by
                                simp only [List.mem_cons, List.mem_nil_iff, or_false] at hu
                                rw [g2 u (by omega), e2 u (by omega) (by omega) (by omega)]
                                exact hA.2 u (by omega)⟩
                              have x3 : S2.1 3 = Y.1 3 := by rw [g1]; exact (e1 3 (by decide) (by decide)).trans a3
                              have x4 : S2.1 4 = Y.1 4 := by rw [g1]; exact (e1 4 (by decide) (by decide)).trans a4
                              have x15 : S2.1 15 = st.1 15 := by rw [g1]; exact e1 15 (by decide) (by decide)
                              have x16 : S2.1 16 = st.1 16 := by rw [g1]; exact e1 16 (by decide) (by decide)
                              refine k_aload_n hE dX7_risk_135 0 rfl rfl ?_
                              refine k_iload_n hE dX7_risk_136 2 rfl rfl ?_
                              refine k_callV hE (c_X7_goDays S2 Y n (Y.1 4) hA2 hI (by omega) (by omega) (by omega) (by omega) g4 (by omega) (by omega)) mf_X7_goDays ml_X7_189 0 rfl rfl rfl rfl ⟨rfl, rfl, Nat.le_of_ble_eq_true rfl, Nat.le_of_ble_eq_true rfl⟩ [] (Nat.le_of_ble_eq_true rfl) dX7_risk_137 rfl (fun rv u hp => ?_)
                              obtain ⟨S4, hv137, hu137, hx_137, er_137, dg_137⟩ := hp
                              refine k_sk (sk' := []) (by rw [hv137]; rfl) ?_
                              refine k_st S4 hu137 ?_
                              have er4 : Ran Y (Y.1 4) (Y.1 3) (S2.2 4) S4.2 n.toNat 12 15 14 := by
                                have h5 := MRn_Ran er_137 (by omega)
                                rw [x3] at h5
                                exact h5
                              have hA4 := hx_137.agd hA2
                              refine k_iload hE dX7_risk_140 6 rfl ?_
                              refine k_aload_n hE dX7_risk_142 0 rfl rfl ?_
                              refine k_iload_n hE dX7_risk_143 1 rfl rfl ?_
                              refine k_iload_n hE dX7_risk_144 2 rfl rfl ?_
                              refine k_callV hE (c_X7_firstDry S4 Y f n hA4 hI (by omega) (by omega) (by omega) (fun i i0 i1 => by have hg := Ran_gD er4 (f := f) (k := i) (by omega) (by omega) i0 (by omega); rw [Int.mul_comm] at hg; omega)) mf_X7_firstDry ml_X7_192 0 rfl rfl rfl rfl ⟨rfl, rfl, Nat.le_of_ble_eq_true rfl, Nat.le_of_ble_eq_true rfl⟩ [.int (iI c)] (Nat.le_of_ble_eq_true rfl) dX7_risk_145 rfl (fun rv u hp => ?_)
                              obtain ⟨zz, hv145, hu145, hz_145⟩ := hp
                              refine k_sk (sk' := [.int (iI zz), .int (iI c)]) (by rw [hv145]; rfl) ?_
                              refine k_st S4 hu145 ?_
                              have rz : -9 ≤ zz ∧ zz ≤ 10 := by rcases hz_145 with h5 | h5 <;> omega
                              have hP : zz = -9 ↔ NV Y (Y.1 4) (Y.1 3) (RRb a b j) n f := ((FD_none hz_145).trans ⟨fun h5 i i0 i1 => by rw [← (Ran_gD er4 (f := f) (by omega) (by omega) i0 (by omega)).1, Int.mul_comm]; exact h5 i i0 i1, fun h5 i i0 i1 => by show Y.2 2 f ≤ S4.2 14 (6 * i + f); rw [Int.mul_comm, (Ran_gD er4 (f := f) (by omega) (by omega) i0 (by omega)).1]; exact h5 i i0 i1⟩).trans (NV_cong (fun d d0 d1 => g5 d d0 (by omega)))
                              refine k_bipush hE dX7_risk_148 rfl ?_
                              refine k_icmp_ne hE 157 dX7_risk_150 (by decide) (by unfold in32; omega) (by unfold in32; omega) (fun c150 => ?_) (fun c150 => ?_)
                              · refine k_iconst hE dX7_risk_157 ?_
                                refine k_iadd hE dX7_risk_158 ?_
                                refine k_istore hE dX7_risk_159 [1, 2, 3, 4, 5, 6, 0, 7, 8] (Nat.le_of_ble_eq_true rfl) (lo' := [(0, .ref (ad 0)), (1, .int (iI f)), (2, .int (iI n)), (3, .int (iI a)), (4, .int (iI b)), (5, .int (iI x)), (6, .int (iI (c + 1))), (7, .int (iI ((j : Int)))), (8, .int (iI ((k : Int))))]) rfl ?_
                                refine k_iinc hE dX7_risk_161 7 [1, 2, 3, 4, 5, 6, 7, 0, 8] rfl (Nat.le_of_ble_eq_true rfl) (lo' := [(0, .ref (ad 0)), (1, .int (iI f)), (2, .int (iI n)), (3, .int (iI a)), (4, .int (iI b)), (5, .int (iI x)), (6, .int (iI (c + 1))), (7, .int (iI (((j : Int)) + 1))), (8, .int (iI ((k : Int))))]) rfl ?_
                                refine k_goto hE 89 dX7_risk_164 (by decide) ?_
                                refine k_lo [0, 1, 2, 3, 4, 5, 6, 7] (lo' := [(0, .ref (ad 0)), (1, .int (iI f)), (2, .int (iI n)), (3, .int (iI a)), (4, .int (iI b)), (5, .int (iI x)), (6, .int (iI (c + 1))), (7, .int (iI (((j : Int)) + 1)))]) rfl ?_
                                refine ih89 S4 _ (j + 1) (by omega) (by omega) (fun i h1 h2 => by rw [hx_137.1 i h1 h2, g1]; exact e1 i h1 h2) (fun u h1 h2 h3 => by rw [hx_137.2 u h3, g2 u h1]; exact e2 u h1 h2 h3) (fun d d0 d1 => by rw [hx_137.2 18 (by decide), g2 18 (by decide)]; exact ek d d0 d1) (fun d hd => by rw [hx_137.2 4 (by decide)]; exact g3 d hd) (fun d d0 d1 => by rw [hx_137.2 4 (by decide)]; exact g4 d d0 d1) ?_
                                first
                                  | (rw [CT_y (P := fun row => ¬ NV Y (Y.1 4) (Y.1 3) (RRb a b row) n f) (k := j) (fun h5 => absurd (hP.mpr h5) (by omega)), ← ec])
                                  | (rw [CT_n (P := fun row => ¬ NV Y (Y.1 4) (Y.1 3) (RRb a b row) n f) (k := j) (fun h5 => h5 (hP.mp (by omega))), ← ec]; omega)
                              · refine k_iconst hE dX7_risk_153 ?_
                                refine k_goto hE 158 dX7_risk_154 (by decide) ?_
                                refine k_iadd hE dX7_risk_158 ?_
                                refine k_istore hE dX7_risk_159 [1, 2, 3, 4, 5, 6, 0, 7, 8] (Nat.le_of_ble_eq_true rfl) (lo' := [(0, .ref (ad 0)), (1, .int (iI f)), (2, .int (iI n)), (3, .int (iI a)), (4, .int (iI b)), (5, .int (iI x)), (6, .int (iI (c + 0))), (7, .int (iI ((j : Int)))), (8, .int (iI ((k : Int))))]) rfl ?_
                                refine k_iinc hE dX7_risk_161 7 [1, 2, 3, 4, 5, 6, 7, 0, 8] rfl (Nat.le_of_ble_eq_true rfl) (lo' := [(0, .ref (ad 0)), (1, .int (iI f)), (2, .int (iI n)), (3, .int (iI a)), (4, .int (iI b)), (5, .int (iI x)), (6, .int (iI (c + 0))), (7, .int (iI (((j : Int)) + 1))), (8, .int (iI ((k : Int))))]) rfl ?_
                                refine k_goto hE 89 dX7_risk_164 (by decide) ?_
                                refine k_lo [0, 1, 2, 3, 4, 5, 6, 7] (lo' := [(0, .ref (ad 0)), (1, .int (iI f)), (2, .int (iI n)), (3, .int (iI a)), (4, .int (iI b)), (5, .int (iI x)), (6, .int (iI (c + 0))), (7, .int (iI (((j : Int)) + 1)))]) rfl ?_
                                refine ih89 S4 _ (j + 1) (by omega) (by omega) (fun i h1 h2 => by rw [hx_137.1 i h1 h2, g1]; exact e1 i h1 h2) (fun u h1 h2 h3 => by rw [hx_137.2 u h3, g2 u h1]; exact e2 u h1 h2 h3) (fun d d0 d1 => by rw [hx_137.2 18 (by decide), g2 18 (by decide)]; exact ek d d0 d1) (fun d hd => by rw [hx_137.2 4 (by decide)]; exact g3 d hd) (fun d d0 d1 => by rw [hx_137.2 4 (by decide)]; exact g4 d d0 d1) ?_
                                first
                                  | (rw [CT_y (P := fun row => ¬ NV Y (Y.1 4) (Y.1 3) (RRb a b row) n f) (k := j) (fun h5 => absurd (hP.mpr h5) (by omega)), ← ec])
                                  | (rw [CT_n (P := fun row => ¬ NV Y (Y.1 4) (Y.1 3) (RRb a b row) n f) (k := j) (fun h5 => h5 (hP.mp (by omega))), ← ec]; omega)
                            · refine k_aload_n hE dX7_risk_106 0 rfl rfl ?_
                              refine m_get_rainOf hE fl_X7_31 dX7_risk_107 ?_
                              refine k_iload hE dX7_risk_110 8 rfl ?_
                              refine k_iload hE dX7_risk_112 7 rfl ?_
                              refine k_iload hE dX7_risk_114 8 rfl ?_
                              refine k_ishr hE dX7_risk_116 ?_
                              refine k_iconst hE dX7_risk_117 ?_
                              refine k_iand hE dX7_risk_118 ?_
                              have J128 : ∀ (tt : Nat), (tt = 0) → KW (mw ad D cI cZ) G H0 m 9 S2 128 [(0, .ref (ad 0)), (1, .int (iI f)), (2, .int (iI n)), (3, .int (iI a)), (4, .int (iI b)), (5, .int (iI x)), (6, .int (iI c)), (7, .int (iI ((j : Int)))), (8, .int (iI ((k : Int))))] [.int (iI (RRb a b (j : Int) (k : Int))), .int (iI ((k : Int))), .ref (ad 8)] := by
                                intro tt ht
                                refine m_st_rainOf hE (by omega) (by omega) dX7_risk_128 ?_
                                refine k_st ((S2.1, ur S2.2 4 ((k : Int)) (RRb a b (j : Int) (k : Int)))) rfl ?_
                                refine k_iinc hE dX7_risk_129 8 [1, 2, 3, 4, 5, 6, 7, 8, 0] rfl (Nat.le_of_ble_eq_true rfl) (lo' := [(0, .ref (ad 0)), (1, .int (iI f)), (2, .int (iI n)), (3, .int (iI a)), (4, .int (iI b)), (5, .int (iI x)), (6, .int (iI c)), (7, .int (iI ((j : Int)))), (8, .int (iI (((k : Int)) + 1)))]) rfl ?_
                                refine k_goto hE 100 dX7_risk_132 (by decide) ?_
                                exact ih100 ((S2.1, ur S2.2 4 ((k : Int)) (RRb a b (j : Int) (k : Int)))) (k + 1) (by omega) (by omega) g1 (fun u hu => by show ur S2.2 4 _ _ u = _; rw [ur_n _ _ _ hu]; exact g2 u hu) (fun d hd => by show ur S2.2 4 _ _ 4 d = _; rw [ur_o _ _ _ (by omega)]; exact g3 d hd) (fun d d0 d1 => by
                                  show 0 ≤ ur S2.2 4 _ _ 4 d ∧ ur S2.2 4 _ _ 4 d ≤ 99
                                  rw [ur_c]
                                  by_cases e : d = (k : Int)
                                  · rw [if_pos e]; exact rr _ _
                                  · rw [if_neg e]; exact g4 d d0 d1) (fun d d0 d1 => by
                                  show ur S2.2 4 _ _ 4 d = _
                                  rw [ur_c]
                                  by_cases e : d = (k : Int)
                                  · rw [if_pos e, e]
                                  · rw [if_neg e]; exact g5 d d0 (by omega))
                              refine k_if_ne hE 126 dX7_risk_119 (by decide) (zand_in _ _) (fun c119 => ?_) (fun c119 => ?_)
                              · refine k_iload hE dX7_risk_126 4 rfl ?_
                                refine k_sk (sk' := [.int (iI (RRb a b (j : Int) (k : Int))), .int (iI (k : Int)), .ref (ad 8)]) (congrArg (fun zz : Int => ([.int (iI zz), .int (iI (k : Int)), .ref (ad 8)] : List Value)) (show b = RRb a b (j : Int) (k : Int) from by unfold RRb; split <;> omega)) ?_
                                exact J128 0 rfl
                              · refine k_iload_n hE dX7_risk_122 3 rfl rfl ?_
                                refine k_goto hE 128 dX7_risk_123 (by decide) ?_
                                refine k_sk (sk' := [.int (iI (RRb a b (j : Int) (k : Int))), .int (iI (k : Int)), .ref (ad 8)]) (congrArg (fun zz : Int => ([.int (iI zz), .int (iI (k : Int)), .ref (ad 8)] : List Value)) (show a = RRb a b (j : Int) (k : Int) from by unfold RRb; split <;> omega)) ?_
                                exact J128 0 rfl
                        exact L100 7 S 0 (by omega) (by omega) rfl (fun u _ => rfl) er eg (fun d d0 d1 => by omega)
                  exact L89 66 S 0 0 (by omega) (by omega) (fun i _ _ => by rw [e1]) (fun u _ h2 _ => e2 u h2) (fun d d0 d1 => e3 d d0 (by omega)) (fun d _ => by rw [e2 4 (by decide)]; exact congrFun (hA.2 4 (by decide)) d) (fun d d0 d1 => by rw [e2 4 (by decide), hA.2 4 (by decide)]; exact hir d d0 d1) rfl
                · refine k_aload_n hE dX7_risk_63 0 rfl rfl ?_
                  refine m_get_keptRain hE fl_X7_60 dX7_risk_64 ?_
                  refine k_iload hE dX7_risk_67 6 rfl ?_
                  refine k_aload_n hE dX7_risk_69 0 rfl rfl ?_
                  refine m_get_rainOf hE fl_X7_31 dX7_risk_70 ?_
                  refine k_iload hE dX7_risk_73 6 rfl ?_
                  refine m_ld_rainOf hE (z := Y.2 4 j) (by omega) (by omega) (by rw [e2 4 (by decide)]; exact congrFun (hA.2 4 (by decide)) j) dX7_risk_75 ?_
                  refine m_st_keptRain hE (by omega) (by omega) dX7_risk_76 ?_
                  refine k_st ((S.1, ur S.2 18 j (Y.2 4 j))) rfl ?_
                  refine k_iinc hE dX7_risk_77 6 [1, 2, 3, 4, 5, 6, 0] rfl (Nat.le_of_ble_eq_true rfl) (lo' := [(0, .ref (ad 0)), (1, .int (iI f)), (2, .int (iI n)), (3, .int (iI a)), (4, .int (iI b)), (5, .int (iI x)), (6, .int (iI (j + 1)))]) rfl ?_
                  refine k_goto hE 56 dX7_risk_80 (by decide) ?_
                  exact ih56 ((S.1, ur S.2 18 j (Y.2 4 j))) _ (by omega) (by omega) e1 (fun u hu => by show ur S.2 18 _ _ u = _; rw [ur_n _ _ _ hu]; exact e2 u hu) (fun d d0 d1 => by show ur S.2 18 _ _ 18 d = _; rw [ur_c]; split <;> first | (rename_i h; rw [h]) | exact e3 d d0 (by omega))
            exact L56 11 st 0 (by omega) (by omega) rfl (fun u _ => rfl) (fun d d0 d1 => by omega)
          · refine k_ldc2 hE cl_X7_72 dX7_risk_49 ?_
            exact k_lret hR dX7_risk_52 rfl ⟨_, st, rfl, rfl, Or.inl ⟨by omega, rfl⟩, (MX.refl st).y⟩
