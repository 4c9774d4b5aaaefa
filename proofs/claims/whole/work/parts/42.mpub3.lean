set_option maxHeartbeats 4000000 in
set_option maxRecDepth 100000 in
theorem c_X7_highest {ad : Nat → Nat} {D : va_G} {cI cZ : ClassId} (st : Sg) (Y : Sg) (f : Int) (n : Int) (hA : Ag st Y) (hI : Inv Y) (hm : st.1 15 = 0 ∧ st.1 16 = -9) (i_f : -2147483648 ≤ f ∧ f < 2147483648) (i_n : -2147483648 ≤ n ∧ n < 2147483648) : MC (mw ad D cI cZ) yX7_highest cX7_highest 6 (some .int) { frames := 5, cells := 0, slots := 0, locals := 112 } [.ref (ad 0), .int (iI f), .int (iI n)] st (fun rv u => ∃ z : Int, ∃ S : Sg, rv = some (.int (iI (z))) ∧ u = S ∧ (HI Y f n z) ∧ (MX st S)) := by
  refine MC_intro RX7 (by decide) rfl (Nat.le_of_ble_eq_true rfl) ?_
  intro G H0 m hE hR
  refine k_lo [0, 1, 2] (lo' := [(0, .ref (ad 0)), (1, .int (iI f)), (2, .int (iI n))]) rfl ?_
  obtain ⟨hi0, hi1, hi2, hi3, hi4, hi5, hi6, hi7, hit, hir, him, hin⟩ := id hI
  have a3 := hA.1 3 (by decide)
  have a4 := hA.1 4 (by decide)
  refine k_aload_n hE dX7_highest_0 0 rfl rfl ?_
  refine k_iload_n hE dX7_highest_1 1 rfl rfl ?_
  refine k_callV hE (c_X7_isTap st Y f hA hI (by omega)) mf_X7_isTap ml_X7_139 0 rfl rfl rfl rfl ⟨rfl, rfl, Nat.le_of_ble_eq_true rfl, Nat.le_of_ble_eq_true rfl⟩ [] (Nat.le_of_ble_eq_true rfl) dX7_highest_2 rfl (fun rv u hp => ?_)
  obtain ⟨z1, hv2, hu2, hz_2⟩ := hp
  refine k_sk (sk' := [.int (iI z1)]) (by rw [hv2]; rfl) ?_
  refine k_st st hu2 ?_
  refine k_if_ne hE 10 dX7_highest_5 (by decide) (by unfold in32; omega) (fun c5 => ?_) (fun c5 => ?_)
  · refine k_iload_n hE dX7_highest_10 2 rfl rfl ?_
    refine k_iconst hE dX7_highest_11 ?_
    refine k_bipush hE dX7_highest_12 rfl ?_
    refine k_callS hE (c_X7_within st n 0 10 (by omega) (by omega) (by omega)) ms_X7_within ml_X7_74 rfl ⟨rfl, rfl, Nat.le_of_ble_eq_true rfl, Nat.le_of_ble_eq_true rfl⟩ [] (Nat.le_of_ble_eq_true rfl) dX7_highest_14 rfl (fun rv u hp => ?_)
    obtain ⟨z2, hv14, hu14, hz_14⟩ := hp
    refine k_sk (sk' := [.int (iI z2)]) (by rw [hv14]; rfl) ?_
    refine k_st st hu14 ?_
    refine k_if_ne hE 23 dX7_highest_17 (by decide) (by unfold in32; omega) (fun c17 => ?_) (fun c17 => ?_)
    · have w1 : ¬ (f < 0 ∨ Y.1 0 ≤ f) := by omega
      have w2 : ¬ (n < 0 ∨ 10 < n) := by omega
      refine k_aload_n hE dX7_highest_23 0 rfl rfl ?_
      refine m_get_height hE fl_X7_22 dX7_highest_24 ?_
      refine k_iload_n hE dX7_highest_27 1 rfl rfl ?_
      refine m_ld_height hE (z := Y.2 1 f) (by omega) (by omega) (congrFun (hA.2 1 (by decide)) f) dX7_highest_28 ?_
      refine k_istore_n hE dX7_highest_29 [1, 2, 3, 0] rfl (Nat.le_of_ble_eq_true rfl) (lo' := [(0, .ref (ad 0)), (1, .int (iI f)), (2, .int (iI n)), (3, .int (iI (Y.2 1 f)))]) rfl ?_
      refine k_bipush hE dX7_highest_30 rfl ?_
      refine k_istore hE dX7_highest_32 [1, 2, 3, 4, 0] (Nat.le_of_ble_eq_true rfl) (lo' := [(0, .ref (ad 0)), (1, .int (iI f)), (2, .int (iI n)), (3, .int (iI (Y.2 1 f))), (4, .int (iI (-9)))]) rfl ?_
      refine k_iconst hE dX7_highest_34 ?_
      refine k_istore hE dX7_highest_35 [1, 2, 3, 4, 5, 0] (Nat.le_of_ble_eq_true rfl) (lo' := [(0, .ref (ad 0)), (1, .int (iI f)), (2, .int (iI n)), (3, .int (iI (Y.2 1 f))), (4, .int (iI (-9))), (5, .int (iI 0))]) rfl ?_
      have L37 : ∀ (fu37 : Nat) (S : Sg) (is : Int) (h : Int), (0 ≤ h ∧ h ≤ 10) → (10 - h < fu37) → (∀ i, i ≠ 14 → i ≠ 19 → S.1 i = st.1 i) → (∀ a, a ≠ 1 → (a < 12 ∨ a = 13 ∨ 17 < a) → S.2 a = st.2 a) → (∀ j : Int, j ≠ f → S.2 1 j = st.2 1 j) → ((is = -9 ∧ ∀ g : Int, 0 ≤ g → g < h → ¬ NV (YH Y f g) (Y.1 4) (Y.1 3) (Y.2 4) n f) ∨ (0 ≤ is ∧ is < h ∧ NV (YH Y f is) (Y.1 4) (Y.1 3) (Y.2 4) n f ∧ ∀ g : Int, is < g → g < h → ¬ NV (YH Y f g) (Y.1 4) (Y.1 3) (Y.2 4) n f)) → KW (mw ad D cI cZ) G H0 m 6 S 37 [(0, .ref (ad 0)), (1, .int (iI f)), (2, .int (iI n)), (3, .int (iI (Y.2 1 f))), (4, .int (iI is)), (5, .int (iI h))] [] := by
        intro fu37
        induction fu37 with
        | zero =>
          intro S is h q0 q1 e1 e2 e3 hs
          omega
        | succ fu37 ih37 =>
          intro S is h q0 q1 e1 e2 e3 hs
          refine k_iload hE dX7_highest_37 5 rfl ?_
          refine k_bipush hE dX7_highest_39 rfl ?_
          refine k_icmp_gt hE 83 dX7_highest_41 (by decide) (by unfold in32; omega) (by unfold in32; omega) (fun c41 => ?_) (fun c41 => ?_)
          · refine k_aload_n hE dX7_highest_83 0 rfl rfl ?_
            refine m_get_height hE fl_X7_22 dX7_highest_84 ?_
            refine k_iload_n hE dX7_highest_87 1 rfl rfl ?_
            refine k_iload_n hE dX7_highest_88 3 rfl rfl ?_
            refine m_st_height hE (by omega) (by omega) dX7_highest_89 ?_
            refine k_st ((S.1, ur S.2 1 f (Y.2 1 f))) rfl ?_
            refine k_iload hE dX7_highest_90 4 rfl ?_
            refine k_iret hR dX7_highest_92 rfl ?_
            refine ⟨is, _, rfl, rfl, Or.inr (Or.inr ⟨w1, w2, ?_⟩), ⟨e1, fun a ha => ?_⟩⟩
            · rcases hs with ⟨a, b⟩ | ⟨a, b, c, d⟩
              · exact Or.inl ⟨a, fun g g0 g1 => b g g0 (by omega)⟩
              · exact Or.inr ⟨a, by omega, c, fun g g0 g1 => d g g0 (by omega)⟩
            · show ur S.2 1 f (Y.2 1 f) a = st.2 a
              by_cases e : a = 1
              · rw [e]; funext j; rw [ur_c]
                by_cases ej : j = f
                · rw [if_pos ej, ej]; exact (congrFun (hA.2 1 (by decide)) f).symm
                · rw [if_neg ej]; exact e3 j ej
              · rw [ur_n _ _ _ e]; exact e2 a e ha
          · refine k_aload_n hE dX7_highest_44 0 rfl rfl ?_
            refine m_get_height hE fl_X7_22 dX7_highest_45 ?_
            refine k_iload_n hE dX7_highest_48 1 rfl rfl ?_
            refine k_iload hE dX7_highest_49 5 rfl ?_
            refine m_st_height hE (by omega) (by omega) dX7_highest_51 ?_
            refine k_st ((S.1, ur S.2 1 f h)) rfl ?_
            refine k_nm (fun S3 eS3 => ?_)
            have hA3 : Ag S3 (YH Y f h) := ⟨fun i hi => by rw [eS3]; exact (e1 i (by omega) (by omega)).trans (hA.1 i hi), fun a ha => by
              rw [eS3]
              show ur S.2 1 f h a = ur Y.2 1 f h a
              by_cases e : a = 1
              · rw [e]; funext j; rw [ur_c, ur_c]
                by_cases ej : j = f
                · rw [if_pos ej, if_pos ej]
                · rw [if_neg ej, if_neg ej, e3 j ej]; exact congrFun (hA.2 1 (by decide)) j
              · rw [ur_n _ _ _ e, ur_n _ _ _ e, e2 a e (by omega)]; exact hA.2 a ha⟩
            have hI3 := YH_Inv hI (f := f) (h := h) (by omega)
            have x3 : S3.1 3 = Y.1 3 := hA3.1 3 (by decide)
            have x4 : S3.1 4 = Y.1 4 := hA3.1 4 (by decide)
            have xr : S3.2 4 = Y.2 4 := hA3.2 4 (by decide)
            have x15 : S3.1 15 = st.1 15 := by rw [eS3]; exact e1 15 (by decide) (by decide)
            have x16 : S3.1 16 = st.1 16 := by rw [eS3]; exact e1 16 (by decide) (by decide)
            refine k_aload_n hE dX7_highest_52 0 rfl rfl ?_
            refine k_iload_n hE dX7_highest_53 2 rfl rfl ?_
            refine k_callV hE (c_X7_goDays S3 (YH Y f h) n (Y.1 4) hA3.d hI3 (by omega) (by omega) (by omega) (show 0 ≤ S3.1 3 ∧ S3.1 3 ≤ Y.1 1 by omega) (fun d d0 d1 => by rw [xr]; exact hir d d0 d1) (by omega) (by omega)) mf_X7_goDays ml_X7_189 0 rfl rfl rfl rfl ⟨rfl, rfl, Nat.le_of_ble_eq_true rfl, Nat.le_of_ble_eq_true rfl⟩ [] (Nat.le_of_ble_eq_true rfl) dX7_highest_54 rfl (fun rv u hp => ?_)
            obtain ⟨S4, hv54, hu54, hx_54, er_54, dg_54⟩ := hp
            refine k_sk (sk' := []) (by rw [hv54]; rfl) ?_
            refine k_st S4 hu54 ?_
            have er : Ran (YH Y f h) (Y.1 4) (Y.1 3) (Y.2 4) S4.2 n.toNat 12 15 14 := by
              have h5 := MRn_Ran er_54 (by omega)
              rw [x3, xr] at h5
              exact h5
            refine k_aload_n hE dX7_highest_57 0 rfl rfl ?_
            refine k_iload_n hE dX7_highest_58 1 rfl rfl ?_
            refine k_iload_n hE dX7_highest_59 2 rfl rfl ?_
            refine k_callV hE (c_X7_firstDry S4 (YH Y f h) f n (hx_54.agd hA3.d) hI3 (by omega) (by omega) (by omega) (fun k k0 k1 => by have hg := Ran_gD er (f := f) (k := k) (by omega) (show f < Y.1 0 by omega) (by omega) (by omega); rw [Int.mul_comm] at hg; omega)) mf_X7_firstDry ml_X7_192 0 rfl rfl rfl rfl ⟨rfl, rfl, Nat.le_of_ble_eq_true rfl, Nat.le_of_ble_eq_true rfl⟩ [] (Nat.le_of_ble_eq_true rfl) dX7_highest_60 rfl (fun rv u hp => ?_)
            obtain ⟨zz, hv60, hu60, hz_60⟩ := hp
            refine k_sk (sk' := [.int (iI zz)]) (by rw [hv60]; rfl) ?_
            refine k_st S4 hu60 ?_
            have rz : -9 ≤ zz ∧ zz ≤ 10 := by rcases hz_60 with h5 | h5 <;> omega
            have hP : zz = -9 ↔ NV (YH Y f h) (Y.1 4) (Y.1 3) (Y.2 4) n f := (FD_none hz_60).trans ⟨fun h5 k k0 k1 => by rw [← (Ran_gD er (f := f) (by omega) (show f < Y.1 0 by omega) k0 (by omega)).1, Int.mul_comm]; exact h5 k k0 k1, fun h5 k k0 k1 => by show Y.2 2 f ≤ S4.2 14 (6 * k + f); rw [Int.mul_comm, (Ran_gD er (f := f) (by omega) (show f < Y.1 0 by omega) k0 (by omega)).1]; exact h5 k k0 k1⟩
            refine k_bipush hE dX7_highest_63 rfl ?_
            refine k_icmp_ne hE 73 dX7_highest_65 (by decide) (by unfold in32; omega) (by unfold in32; omega) (fun c65 => ?_) (fun c65 => ?_)
            · refine k_iload hE dX7_highest_73 4 rfl ?_
              refine k_istore hE dX7_highest_75 [1, 2, 3, 4, 0, 5] (Nat.le_of_ble_eq_true rfl) (lo' := [(0, .ref (ad 0)), (1, .int (iI f)), (2, .int (iI n)), (3, .int (iI (Y.2 1 f))), (4, .int (iI is)), (5, .int (iI h))]) rfl ?_
              refine k_iinc hE dX7_highest_77 5 [1, 2, 3, 4, 5, 0] rfl (Nat.le_of_ble_eq_true rfl) (lo' := [(0, .ref (ad 0)), (1, .int (iI f)), (2, .int (iI n)), (3, .int (iI (Y.2 1 f))), (4, .int (iI is)), (5, .int (iI (h + 1)))]) rfl ?_
              refine k_goto hE 37 dX7_highest_80 (by decide) ?_
              refine ih37 S4 _ _ (by omega) (by omega) (fun i h1 h2 => by rw [hx_54.1 i h1 h2, eS3]; exact e1 i h1 h2) (fun a ha hb => by rw [hx_54.2 a hb, eS3]; show ur S.2 1 f h a = _; rw [ur_n _ _ _ ha]; exact e2 a ha hb) (fun j hj => by rw [hx_54.2 1 (by decide), eS3]; show ur S.2 1 f h 1 j = _; rw [ur_o _ _ _ hj]; exact e3 j hj) ?_
              first
                | exact Or.inr ⟨by omega, by omega, hP.mp (by omega), fun g g0 g1 => by omega⟩
                | (have hnv : ¬ NV (YH Y f h) (Y.1 4) (Y.1 3) (Y.2 4) n f := fun hh => absurd (hP.mpr hh) (by omega)
                   rcases hs with ⟨a, b⟩ | ⟨a, b, c, d⟩
                   · refine Or.inl ⟨a, fun g g0 g1 => ?_⟩
                     by_cases e : g = h
                     · rw [e]; exact hnv
                     · exact b g g0 (by omega)
                   · refine Or.inr ⟨a, by omega, c, fun g g0 g1 => ?_⟩
                     by_cases e : g = h
                     · rw [e]; exact hnv
                     · exact d g g0 (by omega))
            · refine k_iload hE dX7_highest_68 5 rfl ?_
              refine k_goto hE 75 dX7_highest_70 (by decide) ?_
              refine k_istore hE dX7_highest_75 [1, 2, 3, 4, 0, 5] (Nat.le_of_ble_eq_true rfl) (lo' := [(0, .ref (ad 0)), (1, .int (iI f)), (2, .int (iI n)), (3, .int (iI (Y.2 1 f))), (4, .int (iI h)), (5, .int (iI h))]) rfl ?_
              refine k_iinc hE dX7_highest_77 5 [1, 2, 3, 4, 5, 0] rfl (Nat.le_of_ble_eq_true rfl) (lo' := [(0, .ref (ad 0)), (1, .int (iI f)), (2, .int (iI n)), (3, .int (iI (Y.2 1 f))), (4, .int (iI h)), (5, .int (iI (h + 1)))]) rfl ?_
              refine k_goto hE 37 dX7_highest_80 (by decide) ?_
              refine ih37 S4 _ _ (by omega) (by omega) (fun i h1 h2 => by rw [hx_54.1 i h1 h2, eS3]; exact e1 i h1 h2) (fun a ha hb => by rw [hx_54.2 a hb, eS3]; show ur S.2 1 f h a = _; rw [ur_n _ _ _ ha]; exact e2 a ha hb) (fun j hj => by rw [hx_54.2 1 (by decide), eS3]; show ur S.2 1 f h 1 j = _; rw [ur_o _ _ _ hj]; exact e3 j hj) ?_
              first
                | exact Or.inr ⟨by omega, by omega, hP.mp (by omega), fun g g0 g1 => by omega⟩
                | (have hnv : ¬ NV (YH Y f h) (Y.1 4) (Y.1 3) (Y.2 4) n f := fun hh => absurd (hP.mpr hh) (by omega)
                   rcases hs with ⟨a, b⟩ | ⟨a, b, c, d⟩
                   · refine Or.inl ⟨a, fun g g0 g1 => ?_⟩
                     by_cases e : g = h
                     · rw [e]; exact hnv
                     · exact b g g0 (by omega)
                   · refine Or.inr ⟨a, by omega, c, fun g g0 g1 => ?_⟩
                     by_cases e : g = h
                     · rw [e]; exact hnv
                     · exact d g g0 (by omega))
      exact L37 11 st (-9) 0 (by omega) (by omega) (fun i _ _ => rfl) (fun a _ _ => rfl) (fun j _ => rfl) (Or.inl ⟨rfl, fun g g0 g1 => by omega⟩)
    · refine k_bipush hE dX7_highest_20 rfl ?_
      exact k_iret hR dX7_highest_22 rfl ⟨_, st, rfl, rfl, Or.inr (Or.inl ⟨by omega, by omega, rfl⟩), MX.refl st⟩
  · refine k_iconst hE dX7_highest_8 ?_
    exact k_iret hR dX7_highest_9 rfl ⟨_, st, rfl, rfl, Or.inl ⟨by omega, rfl⟩, MX.refl st⟩

set_option maxHeartbeats 4000000 in
set_option maxRecDepth 100000 in
theorem c_X7_inLeastTerms {ad : Nat → Nat} {D : va_G} {cI cZ : ClassId} (st : Sg) (g : Int) (d : Int) (x : Int) (hu : 0 ≤ g ∧ g ≤ 1000) (hd : 1 ≤ d ∧ d ≤ 90) (i_x : -2147483648 ≤ x ∧ x < 2147483648) : MC (mw ad D cI cZ) yX7_inLeastTerms cX7_inLeastTerms 11 (some .long) { frames := 0, cells := 0, slots := 0, locals := 0 } [.long (jI g), .long (jI d), .int (iI x)] st (fun rv u => rv = some (.long (jI (LT g d x))) ∧ u = st) := by
  refine MC_intro RX7 (by decide) rfl (Nat.le_of_ble_eq_true rfl) ?_
  intro G H0 m hE hR
  refine k_lo [0, 1, 2] (lo' := [(0, .long (jI g)), (2, .long (jI d)), (4, .int (iI x))]) rfl ?_
  refine k_lload_n hE dX7_inLeastTerms_0 0 rfl rfl ?_
  refine k_sk (sk' := [.long (jI ((g.toNat : Int)))]) (congrArg (fun zz : Int => ([.long (jI zz)] : List Value)) (show (g) = ((g.toNat : Int)) from (by omega))) ?_
  refine k_lstore hE dX7_inLeastTerms_1 [1, 2, 3, 0] (Nat.le_of_ble_eq_true rfl) (lo' := [(0, .long (jI g)), (2, .long (jI d)), (4, .int (iI x)), (5, .long (jI ((g.toNat : Int))))]) rfl ?_
  refine k_lload_n hE dX7_inLeastTerms_3 1 rfl rfl ?_
  refine k_sk (sk' := [.long (jI ((d.toNat : Int)))]) (congrArg (fun zz : Int => ([.long (jI zz)] : List Value)) (show (d) = ((d.toNat : Int)) from (by omega))) ?_
  refine k_lstore hE dX7_inLeastTerms_4 [1, 2, 3, 4, 0] (Nat.le_of_ble_eq_true rfl) (lo' := [(0, .long (jI g)), (2, .long (jI d)), (4, .int (iI x)), (5, .long (jI ((g.toNat : Int)))), (7, .long (jI ((d.toNat : Int))))]) rfl ?_
  have L6 : ∀ (fu6 : Nat) (c : Nat) (r : Nat), (r < fu6) → (Nat.gcd c r = Nat.gcd g.toNat d.toNat) → (c ≤ 1000 ∧ r ≤ 1000) → KW (mw ad D cI cZ) G H0 m 11 st 6 [(0, .long (jI g)), (2, .long (jI d)), (4, .int (iI x)), (5, .long (jI ((c : Int)))), (7, .long (jI ((r : Int))))] [] := by
    intro fu6
    induction fu6 with
    | zero =>
      intro c r q1 hg hc
      omega
    | succ fu6 ih6 =>
      intro c r q1 hg hc
      refine k_lload hE dX7_inLeastTerms_6 4 rfl ?_
      refine k_lconst0 hE dX7_inLeastTerms_8 ?_
      refine k_lcmp hE dX7_inLeastTerms_9 (by unfold in62; omega) (by unfold in62; omega) (fun z1 hz1 => ?_)
      refine k_if_eq hE 31 dX7_inLeastTerms_10 (by decide) (by unfold in32; omega) (fun c10 => ?_) (fun c10 => ?_)
      · have hs0 : r = 0 := by omega
        have ec : c = Nat.gcd g.toNat d.toNat := by rw [← hg, hs0, Nat.gcd_zero_right]
        have gp : 0 < Nat.gcd g.toNat d.toNat := Nat.gcd_pos_of_pos_right _ (by omega)
        refine k_iload hE dX7_inLeastTerms_31 2 rfl ?_
        refine k_if_ne hE 43 dX7_inLeastTerms_33 (by decide) (by unfold in32; omega) (fun c33 => ?_) (fun c33 => ?_)
        · refine k_lload_n hE dX7_inLeastTerms_43 1 rfl rfl ?_
          refine k_lload hE dX7_inLeastTerms_44 3 rfl ?_
          refine k_ldivN hE dX7_inLeastTerms_46 (by unfold in62; omega) (by unfold in62; omega) (by omega) (by omega) ?_
          refine k_lret hR dX7_inLeastTerms_47 rfl ?_
          refine ⟨ret_l ?_, rfl⟩
          unfold LT
          rw [← ec]
          first
            | (rw [if_pos (by omega)])
            | (rw [if_neg (by omega)])
        · refine k_lload_n hE dX7_inLeastTerms_36 0 rfl rfl ?_
          refine k_lload hE dX7_inLeastTerms_37 3 rfl ?_
          refine k_ldivN hE dX7_inLeastTerms_39 (by unfold in62; omega) (by unfold in62; omega) (by omega) (by omega) ?_
          refine k_goto hE 47 dX7_inLeastTerms_40 (by decide) ?_
          refine k_lret hR dX7_inLeastTerms_47 rfl ?_
          refine ⟨ret_l ?_, rfl⟩
          unfold LT
          rw [← ec]
          first
            | (rw [if_pos (by omega)])
            | (rw [if_neg (by omega)])
      · refine k_lload hE dX7_inLeastTerms_13 3 rfl ?_
        refine k_lload hE dX7_inLeastTerms_15 4 rfl ?_
        refine k_lremN hE dX7_inLeastTerms_17 (by unfold in62; omega) (by unfold in62; omega) (by omega) (by omega) ?_
        refine k_sk (sk' := [.long (jI (((c % r : Nat) : Int)))]) (congrArg (fun zz : Int => ([.long (jI zz)] : List Value)) (show (((c : Int)) % ((r : Int))) = (((c % r : Nat) : Int)) from rfl)) ?_
        refine k_lstore hE dX7_inLeastTerms_18 [1, 2, 3, 4, 5, 0] (Nat.le_of_ble_eq_true rfl) (lo' := [(0, .long (jI g)), (2, .long (jI d)), (4, .int (iI x)), (5, .long (jI ((c : Int)))), (7, .long (jI ((r : Int)))), (9, .long (jI (((c % r : Nat) : Int))))]) rfl ?_
        refine k_lload hE dX7_inLeastTerms_20 4 rfl ?_
        refine k_lstore hE dX7_inLeastTerms_22 [1, 2, 3, 0, 4, 5] (Nat.le_of_ble_eq_true rfl) (lo' := [(0, .long (jI g)), (2, .long (jI d)), (4, .int (iI x)), (5, .long (jI ((r : Int)))), (7, .long (jI ((r : Int)))), (9, .long (jI (((c % r : Nat) : Int))))]) rfl ?_
        refine k_lload hE dX7_inLeastTerms_24 5 rfl ?_
        refine k_lstore hE dX7_inLeastTerms_26 [1, 2, 3, 4, 0, 5] (Nat.le_of_ble_eq_true rfl) (lo' := [(0, .long (jI g)), (2, .long (jI d)), (4, .int (iI x)), (5, .long (jI ((r : Int)))), (7, .long (jI (((c % r : Nat) : Int)))), (9, .long (jI (((c % r : Nat) : Int))))]) rfl ?_
        refine k_goto hE 6 dX7_inLeastTerms_28 (by decide) ?_
        refine k_lo [0, 1, 2, 3, 4] (lo' := [(0, .long (jI g)), (2, .long (jI d)), (4, .int (iI x)), (5, .long (jI ((r : Int)))), (7, .long (jI (((c % r : Nat) : Int))))]) rfl ?_
        have m1 := Nat.mod_lt c (y := r) (by omega)
        exact ih6 r (c % r) (by omega) (by rw [Nat.gcd_comm, ← Nat.gcd_rec, Nat.gcd_comm]; exact hg) (by omega)
  exact L6 1002 _ _ (by omega) rfl (by omega)

set_option maxHeartbeats 4000000 in
set_option maxRecDepth 100000 in
theorem c_X7_worst {ad : Nat → Nat} {D : va_G} {cI cZ : ClassId} (st : Sg) (Y : Sg) (n : Int) (x : Int) (hA : Ag st Y) (hI : Inv Y) (hm : st.1 15 = 0 ∧ st.1 16 = -9) (i_n : -2147483648 ≤ n ∧ n < 2147483648) (i_x : -2147483648 ≤ x ∧ x < 2147483648) : MC (mw ad D cI cZ) yX7_worst cX7_worst 12 (some .long) { frames := 5, cells := 0, slots := 0, locals := 112 } [.ref (ad 0), .int (iI n), .int (iI x)] st (fun rv u => ∃ L : Int64, ∃ S : Sg, rv = some (.long (L)) ∧ u = S ∧ (WO Y n x L) ∧ (MX st S)) := by
  refine MC_intro RX7 (by decide) rfl (Nat.le_of_ble_eq_true rfl) ?_
  intro G H0 m hE hR
  refine k_lo [0, 1, 2] (lo' := [(0, .ref (ad 0)), (1, .int (iI n)), (2, .int (iI x))]) rfl ?_
  obtain ⟨hi0, hi1, hi2, hi3, hi4, hi5, hi6, hi7, hit, hir, him, hin⟩ := id hI
  have a3 := hA.1 3 (by decide)
  have a4 := hA.1 4 (by decide)
  refine k_iload_n hE dX7_worst_0 1 rfl rfl ?_
  refine k_iconst hE dX7_worst_1 ?_
  refine k_bipush hE dX7_worst_2 rfl ?_
  refine k_callS hE (c_X7_within st n 1 10 (by omega) (by omega) (by omega)) ms_X7_within ml_X7_74 rfl ⟨rfl, rfl, Nat.le_of_ble_eq_true rfl, Nat.le_of_ble_eq_true rfl⟩ [] (Nat.le_of_ble_eq_true rfl) dX7_worst_4 rfl (fun rv u hp => ?_)
  obtain ⟨z1, hv4, hu4, hz_4⟩ := hp
  refine k_sk (sk' := [.int (iI z1)]) (by rw [hv4]; rfl) ?_
  refine k_st st hu4 ?_
  refine k_if_eq hE 26 dX7_worst_7 (by decide) (by unfold in32; omega) (fun c7 => ?_) (fun c7 => ?_)
  · refine k_ldc2 hE cl_X7_72 dX7_worst_26 ?_
    exact k_lret hR dX7_worst_29 rfl ⟨_, st, rfl, rfl, Or.inl ⟨by omega, rfl⟩, MX.refl st⟩
  · refine k_iload_n hE dX7_worst_10 2 rfl rfl ?_
    refine k_iconst hE dX7_worst_11 ?_
    refine k_iconst hE dX7_worst_12 ?_
    refine k_callS hE (c_X7_within st x 0 1 (by omega) (by omega) (by omega)) ms_X7_within ml_X7_74 rfl ⟨rfl, rfl, Nat.le_of_ble_eq_true rfl, Nat.le_of_ble_eq_true rfl⟩ [] (Nat.le_of_ble_eq_true rfl) dX7_worst_13 rfl (fun rv u hp => ?_)
    obtain ⟨z2, hv13, hu13, hz_13⟩ := hp
    refine k_sk (sk' := [.int (iI z2)]) (by rw [hv13]; rfl) ?_
    refine k_st st hu13 ?_
    refine k_if_eq hE 26 dX7_worst_16 (by decide) (by unfold in32; omega) (fun c16 => ?_) (fun c16 => ?_)
    · refine k_ldc2 hE cl_X7_72 dX7_worst_26 ?_
      exact k_lret hR dX7_worst_29 rfl ⟨_, st, rfl, rfl, Or.inl ⟨by omega, rfl⟩, MX.refl st⟩
    · refine k_aload_n hE dX7_worst_19 0 rfl rfl ?_
      refine m_get_taps hE (z := Y.1 0) (hA.1 0 (by decide)) fl_X7_78 dX7_worst_20 ?_
      refine k_if_ne hE 30 dX7_worst_23 (by decide) (by unfold in32; omega) (fun c23 => ?_) (fun c23 => ?_)
      · have w1 : ¬ ((n < 1 ∨ 10 < n) ∨ (x < 0 ∨ 1 < x) ∨ Y.1 0 = 0) := by omega
        refine k_aload_n hE dX7_worst_30 0 rfl rfl ?_
        refine k_iload_n hE dX7_worst_31 1 rfl rfl ?_
        refine k_callV hE (c_X7_goDays st Y n (Y.1 4) hA.d hI (by omega) (by omega) (by omega) (by omega) (fun d d0 d1 => by rw [hA.2 4 (by decide)]; exact hir d d0 d1) (by omega) (by omega)) mf_X7_goDays ml_X7_189 0 rfl rfl rfl rfl ⟨rfl, rfl, Nat.le_of_ble_eq_true rfl, Nat.le_of_ble_eq_true rfl⟩ [] (Nat.le_of_ble_eq_true rfl) dX7_worst_32 rfl (fun rv u hp => ?_)
        obtain ⟨S1, hv32, hu32, hx_32, er_32, dg_32⟩ := hp
        refine k_sk (sk' := []) (by rw [hv32]; rfl) ?_
        refine k_st S1 hu32 ?_
        have er : Ran Y (Y.1 4) (Y.1 3) (Y.2 4) S1.2 (n : Int).toNat 12 15 14 := by
          have h5 := MRn_Ran er_32 (by omega)
          rw [a3, hA.2 4 (by decide)] at h5
          exact h5
        have hB : Ag S1 Y := hx_32.ag hA
        have hs : ∀ f : Int, 0 ≤ f → f < Y.1 0 → 0 ≤ WSm Y n f ∧ WSm Y n f ≤ 140 := fun f f0 f1 => by have h5 := SM_rng (g := fun k => gD Y (Y.1 4) (Y.1 3) (Y.2 4) f k) (b := 14) (by omega) (k := n.toNat) (fun k k0 k1 => (Ran_gD er f0 f1 k0 (by omega)).2); unfold WSm; omega
        have hnd : ∀ f : Int, 0 ≤ f → f < Y.1 0 → 1 ≤ WNd Y n f ∧ WNd Y n f ≤ 90 := fun f f0 f1 => by have h5 := hin f f0 f1; have h6 := hit f f0 (by omega); have h7 := mulB (a := Y.2 2 f) (A := 9) (by omega) (b := n) (B := 10) (by omega); have h8 := Int.mul_le_mul h5.1 (show (1 : Int) ≤ n by omega) (by omega) (by omega); unfold WNd; omega
        refine k_lconst0 hE dX7_worst_35 ?_
        refine k_lstore_n hE dX7_worst_36 [1, 2, 3, 0] rfl (Nat.le_of_ble_eq_true rfl) (lo' := [(0, .ref (ad 0)), (1, .int (iI n)), (2, .int (iI x)), (3, .long (jI 0))]) rfl ?_
        refine k_lconst0 hE dX7_worst_37 ?_
        refine k_lstore hE dX7_worst_38 [1, 2, 3, 4, 0] (Nat.le_of_ble_eq_true rfl) (lo' := [(0, .ref (ad 0)), (1, .int (iI n)), (2, .int (iI x)), (3, .long (jI 0)), (5, .long (jI 0))]) rfl ?_
        refine k_iconst hE dX7_worst_40 ?_
        refine k_istore hE dX7_worst_41 [1, 2, 3, 4, 5, 0] (Nat.le_of_ble_eq_true rfl) (lo' := [(0, .ref (ad 0)), (1, .int (iI n)), (2, .int (iI x)), (3, .long (jI 0)), (5, .long (jI 0)), (7, .int (iI 0))]) rfl ?_
        have L43 : ∀ (fu43 : Nat) (p : Int) (d : Int) (f : Nat), ((f : Int) ≤ Y.1 0) → (Y.1 0 - f < fu43) → (p = (WFo (WSm Y n) (WNd Y n) f).1) → (d = (WFo (WSm Y n) (WNd Y n) f).2) → KW (mw ad D cI cZ) G H0 m 12 S1 43 [(0, .ref (ad 0)), (1, .int (iI n)), (2, .int (iI x)), (3, .long (jI p)), (5, .long (jI d)), (7, .int (iI ((f : Int))))] [] := by
          intro fu43
          induction fu43 with
          | zero =>
            intro p d f q0 q1 eu ed
            omega
          | succ fu43 ih43 =>
            intro p d f q0 q1 eu ed
            have rg : (0 ≤ p ∧ p ≤ 140) ∧ (0 ≤ d ∧ d ≤ 90) := by
              by_cases e : f = 0
              · rw [eu, ed, e]; show ((0 : Int) ≤ 0 ∧ (0 : Int) ≤ 140) ∧ (0 : Int) ≤ 0 ∧ (0 : Int) ≤ 90; omega
              · have h5 := WFo_rng hs hnd (f - 1) (by omega)
                rw [show f - 1 + 1 = f by omega, ← eu, ← ed] at h5
                omega
            refine k_iload hE dX7_worst_43 5 rfl ?_
            refine k_aload_n hE dX7_worst_45 0 rfl rfl ?_
            refine m_get_taps hE (z := Y.1 0) (hB.1 0 (by decide)) fl_X7_78 dX7_worst_46 ?_
            refine k_icmp_ge hE 135 dX7_worst_49 (by decide) (by unfold in32; omega) (by unfold in32; omega) (fun c49 => ?_) (fun c49 => ?_)
            · have ef : (Y.1 0).toNat = f := by omega
              refine k_lload_n hE dX7_worst_135 3 rfl rfl ?_
              refine k_lload hE dX7_worst_136 4 rfl ?_
              refine k_iload_n hE dX7_worst_138 2 rfl rfl ?_
              refine k_callS hE (c_X7_inLeastTerms S1 p d x (by omega) (by have h5 := WFo_rng hs hnd (f - 1) (by omega); rw [show f - 1 + 1 = f by omega, ← eu, ← ed] at h5; omega) (by omega)) ms_X7_inLeastTerms ml_X7_205 rfl ⟨rfl, rfl, Nat.le_of_ble_eq_true rfl, Nat.le_of_ble_eq_true rfl⟩ [] (Nat.le_of_ble_eq_true rfl) dX7_worst_139 rfl (fun rv u hp => ?_)
              obtain ⟨hv139, hu139⟩ := hp
              refine k_sk (sk' := [.long (jI (LT p d x))]) (by rw [hv139]; rfl) ?_
              refine k_st S1 hu139 ?_
              exact k_lret hR dX7_worst_142 rfl ⟨_, S1, rfl, rfl, Or.inr ⟨w1, by rw [ef, ← eu, ← ed]⟩, hx_32⟩
            · have sf := hs f (by omega) (by omega)
              have nf := hnd f (by omega) (by omega)
              have m1 := mulB sf (B := 90) (b := d) (by omega)
              have m2 := mulB (a := p) (A := 140) (by omega) (b := WNd Y n f) (B := 90) (by omega)
              have hff := hit f (by omega) (by omega)
              refine k_lconst0 hE dX7_worst_52 ?_
              refine k_lstore hE dX7_worst_53 [1, 2, 3, 4, 5, 6, 0] (Nat.le_of_ble_eq_true rfl) (lo' := [(0, .ref (ad 0)), (1, .int (iI n)), (2, .int (iI x)), (3, .long (jI p)), (5, .long (jI d)), (7, .int (iI ((f : Int)))), (8, .long (jI 0))]) rfl ?_
              refine k_iconst hE dX7_worst_55 ?_
              refine k_istore hE dX7_worst_56 [1, 2, 3, 4, 5, 6, 7, 0] (Nat.le_of_ble_eq_true rfl) (lo' := [(0, .ref (ad 0)), (1, .int (iI n)), (2, .int (iI x)), (3, .long (jI p)), (5, .long (jI d)), (7, .int (iI ((f : Int)))), (8, .long (jI 0)), (10, .int (iI 0))]) rfl ?_
              have L58 : ∀ (fu58 : Nat) (c : Int) (k : Nat), ((k : Int) ≤ n) → (n - k < fu58) → (c = SM (fun k => gD Y (Y.1 4) (Y.1 3) (Y.2 4) f k) k) → KW (mw ad D cI cZ) G H0 m 12 S1 58 [(0, .ref (ad 0)), (1, .int (iI n)), (2, .int (iI x)), (3, .long (jI p)), (5, .long (jI d)), (7, .int (iI ((f : Int)))), (8, .long (jI c)), (10, .int (iI ((k : Int))))] [] := by
                intro fu58
                induction fu58 with
                | zero =>
                  intro c k p0 p1 qc
                  omega
                | succ fu58 ih58 =>
                  intro c k p0 p1 qc
                  refine k_iload hE dX7_worst_58 7 rfl ?_
                  refine k_iload_n hE dX7_worst_60 1 rfl rfl ?_
                  refine k_icmp_ge hE 89 dX7_worst_61 (by decide) (by unfold in32; omega) (by unfold in32; omega) (fun c61 => ?_) (fun c61 => ?_)
                  · have ek : n.toNat = k := by omega
                    have ecs : c = WSm Y n f := by unfold WSm; rw [ek]; exact qc
                    refine k_iload_n hE dX7_worst_89 1 rfl rfl ?_
                    refine k_i2l hE dX7_worst_90 (by unfold in32; omega) ?_
                    refine k_aload_n hE dX7_worst_91 0 rfl rfl ?_
                    refine m_get_need hE fl_X7_25 dX7_worst_92 ?_
                    refine k_iload hE dX7_worst_95 5 rfl ?_
                    refine m_ld_need hE (z := Y.2 2 ((f : Int))) (by omega) (by omega) (congrFun (hB.2 2 (by decide)) ((f : Int))) dX7_worst_97 ?_
                    refine k_i2l hE dX7_worst_98 (by unfold in32; omega) ?_
                    refine k_lmul hE dX7_worst_99 ?_
                    refine k_sk (sk' := [.long (jI (WNd Y n f))]) (congrArg (fun zz : Int => ([.long (jI zz)] : List Value)) (show (n * (Y.2 2 ((f : Int)))) = (WNd Y n f) from (Int.mul_comm _ _))) ?_
                    refine k_lstore hE dX7_worst_100 [1, 2, 3, 4, 5, 6, 7, 0] (Nat.le_of_ble_eq_true rfl) (lo' := [(0, .ref (ad 0)), (1, .int (iI n)), (2, .int (iI x)), (3, .long (jI p)), (5, .long (jI d)), (7, .int (iI ((f : Int)))), (8, .long (jI c)), (10, .long (jI (WNd Y n f)))]) rfl ?_
                    refine k_lload hE dX7_worst_102 4 rfl ?_
                    refine k_lconst0 hE dX7_worst_104 ?_
                    refine k_lcmp hE dX7_worst_105 (by unfold in62; omega) (by unfold in62; omega) (fun z3 hz3 => ?_)
                    refine k_if_eq hE 122 dX7_worst_106 (by decide) (by unfold in32; omega) (fun c106 => ?_) (fun c106 => ?_)
                    · refine k_lload hE dX7_worst_122 6 rfl ?_
                      refine k_lstore_n hE dX7_worst_124 [1, 2, 3, 0, 4, 5, 6, 7] rfl (Nat.le_of_ble_eq_true rfl) (lo' := [(0, .ref (ad 0)), (1, .int (iI n)), (2, .int (iI x)), (3, .long (jI c)), (5, .long (jI d)), (7, .int (iI ((f : Int)))), (8, .long (jI c)), (10, .long (jI (WNd Y n f)))]) rfl ?_
                      refine k_lload hE dX7_worst_125 7 rfl ?_
                      refine k_lstore hE dX7_worst_127 [1, 2, 3, 4, 0, 5, 6, 7] (Nat.le_of_ble_eq_true rfl) (lo' := [(0, .ref (ad 0)), (1, .int (iI n)), (2, .int (iI x)), (3, .long (jI c)), (5, .long (jI (WNd Y n f))), (7, .int (iI ((f : Int)))), (8, .long (jI c)), (10, .long (jI (WNd Y n f)))]) rfl ?_
                      refine k_iinc hE dX7_worst_129 5 [1, 2, 3, 4, 5, 0, 6, 7] rfl (Nat.le_of_ble_eq_true rfl) (lo' := [(0, .ref (ad 0)), (1, .int (iI n)), (2, .int (iI x)), (3, .long (jI c)), (5, .long (jI (WNd Y n f))), (7, .int (iI (((f : Int)) + 1))), (8, .long (jI c)), (10, .long (jI (WNd Y n f)))]) rfl ?_
                      refine k_goto hE 43 dX7_worst_132 (by decide) ?_
                      refine k_lo [0, 1, 2, 3, 4, 5] (lo' := [(0, .ref (ad 0)), (1, .int (iI n)), (2, .int (iI x)), (3, .long (jI c)), (5, .long (jI (WNd Y n f))), (7, .int (iI (((f : Int)) + 1)))]) rfl ?_
                      refine ih43 _ _ (f + 1) (by omega) (by omega) ?_ ?_
                      · rw [WFo, ← eu, ← ed, ← ecs]
                        first
                          | rw [if_pos (by omega)]
                          | (rw [if_neg (by omega)]; exact eu)
                      · rw [WFo, ← eu, ← ed, ← ecs]
                        first
                          | rw [if_pos (by omega)]
                          | (rw [if_neg (by omega)]; exact ed)
                    · refine k_lload hE dX7_worst_109 6 rfl ?_
                      refine k_lload hE dX7_worst_111 4 rfl ?_
                      refine k_lmul hE dX7_worst_113 ?_
                      refine k_lload_n hE dX7_worst_114 3 rfl rfl ?_
                      refine k_lload hE dX7_worst_115 7 rfl ?_
                      refine k_lmul hE dX7_worst_117 ?_
                      refine k_lcmp hE dX7_worst_118 (by unfold in62; rw [ecs]; omega) (by unfold in62; omega) (fun z4 hz4 => ?_)
                      refine k_if_ge hE 129 dX7_worst_119 (by decide) (by unfold in32; omega) (fun c119 => ?_) (fun c119 => ?_)
                      · refine k_iinc hE dX7_worst_129 5 [1, 2, 3, 4, 5, 0, 6, 7] rfl (Nat.le_of_ble_eq_true rfl) (lo' := [(0, .ref (ad 0)), (1, .int (iI n)), (2, .int (iI x)), (3, .long (jI p)), (5, .long (jI d)), (7, .int (iI (((f : Int)) + 1))), (8, .long (jI c)), (10, .long (jI (WNd Y n f)))]) rfl ?_
                        refine k_goto hE 43 dX7_worst_132 (by decide) ?_
                        refine k_lo [0, 1, 2, 3, 4, 5] (lo' := [(0, .ref (ad 0)), (1, .int (iI n)), (2, .int (iI x)), (3, .long (jI p)), (5, .long (jI d)), (7, .int (iI (((f : Int)) + 1)))]) rfl ?_
                        refine ih43 _ _ (f + 1) (by omega) (by omega) ?_ ?_
                        · rw [WFo, ← eu, ← ed, ← ecs]
                          first
                            | rw [if_pos (by omega)]
                            | (rw [if_neg (by omega)]; exact eu)
                        · rw [WFo, ← eu, ← ed, ← ecs]
                          first
                            | rw [if_pos (by omega)]
                            | (rw [if_neg (by omega)]; exact ed)
                      · refine k_lload hE dX7_worst_122 6 rfl ?_
                        refine k_lstore_n hE dX7_worst_124 [1, 2, 3, 0, 4, 5, 6, 7] rfl (Nat.le_of_ble_eq_true rfl) (lo' := [(0, .ref (ad 0)), (1, .int (iI n)), (2, .int (iI x)), (3, .long (jI c)), (5, .long (jI d)), (7, .int (iI ((f : Int)))), (8, .long (jI c)), (10, .long (jI (WNd Y n f)))]) rfl ?_
                        refine k_lload hE dX7_worst_125 7 rfl ?_
                        refine k_lstore hE dX7_worst_127 [1, 2, 3, 4, 0, 5, 6, 7] (Nat.le_of_ble_eq_true rfl) (lo' := [(0, .ref (ad 0)), (1, .int (iI n)), (2, .int (iI x)), (3, .long (jI c)), (5, .long (jI (WNd Y n f))), (7, .int (iI ((f : Int)))), (8, .long (jI c)), (10, .long (jI (WNd Y n f)))]) rfl ?_
                        refine k_iinc hE dX7_worst_129 5 [1, 2, 3, 4, 5, 0, 6, 7] rfl (Nat.le_of_ble_eq_true rfl) (lo' := [(0, .ref (ad 0)), (1, .int (iI n)), (2, .int (iI x)), (3, .long (jI c)), (5, .long (jI (WNd Y n f))), (7, .int (iI (((f : Int)) + 1))), (8, .long (jI c)), (10, .long (jI (WNd Y n f)))]) rfl ?_
                        refine k_goto hE 43 dX7_worst_132 (by decide) ?_
                        refine k_lo [0, 1, 2, 3, 4, 5] (lo' := [(0, .ref (ad 0)), (1, .int (iI n)), (2, .int (iI x)), (3, .long (jI c)), (5, .long (jI (WNd Y n f))), (7, .int (iI (((f : Int)) + 1)))]) rfl ?_
                        refine ih43 _ _ (f + 1) (by omega) (by omega) ?_ ?_
                        · rw [WFo, ← eu, ← ed, ← ecs]
                          first
                            | rw [if_pos (by omega)]
                            | (rw [if_neg (by omega)]; exact eu)
                        · rw [WFo, ← eu, ← ed, ← ecs]
                          first
                            | rw [if_pos (by omega)]
                            | (rw [if_neg (by omega)]; exact ed)
                  · have hgk := Ran_gD er (f := (f : Int)) (k := (k : Int)) (by omega) (by omega) (by omega) (by omega)
                    rw [Int.mul_comm] at hgk
                    refine k_lload hE dX7_worst_64 6 rfl ?_
                    refine k_aload_n hE dX7_worst_66 0 rfl rfl ?_
                    refine m_get_gotOn hE fl_X7_43 dX7_worst_67 ?_
                    refine k_bipush hE dX7_worst_70 rfl ?_
                    refine k_iload hE dX7_worst_72 7 rfl ?_
                    refine k_imul hE dX7_worst_74 ?_
                    refine k_iload hE dX7_worst_75 5 rfl ?_
                    refine k_iadd hE dX7_worst_77 ?_
                    refine m_ld_gotOn hE (z := gD Y (Y.1 4) (Y.1 3) (Y.2 4) (f : Int) (k : Int)) (by omega) (by omega) hgk.1 dX7_worst_78 ?_
                    refine k_i2l hE dX7_worst_79 (by unfold in32; omega) ?_
                    refine k_ladd hE dX7_worst_80 ?_
                    refine k_lstore hE dX7_worst_81 [1, 2, 3, 4, 5, 6, 0, 7] (Nat.le_of_ble_eq_true rfl) (lo' := [(0, .ref (ad 0)), (1, .int (iI n)), (2, .int (iI x)), (3, .long (jI p)), (5, .long (jI d)), (7, .int (iI ((f : Int)))), (8, .long (jI (c + (gD Y (Y.1 4) (Y.1 3) (Y.2 4) (f : Int) (k : Int))))), (10, .int (iI ((k : Int))))]) rfl ?_
                    refine k_iinc hE dX7_worst_83 7 [1, 2, 3, 4, 5, 6, 7, 0] rfl (Nat.le_of_ble_eq_true rfl) (lo' := [(0, .ref (ad 0)), (1, .int (iI n)), (2, .int (iI x)), (3, .long (jI p)), (5, .long (jI d)), (7, .int (iI ((f : Int)))), (8, .long (jI (c + (gD Y (Y.1 4) (Y.1 3) (Y.2 4) (f : Int) (k : Int))))), (10, .int (iI (((k : Int)) + 1)))]) rfl ?_
                    refine k_goto hE 58 dX7_worst_86 (by decide) ?_
                    exact ih58 _ (k + 1) (by omega) (by omega) (by rw [SM, ← qc])
              exact L58 11 0 0 (by omega) (by omega) rfl
        exact L43 8 0 0 0 (by omega) (by omega) rfl rfl
      · refine k_ldc2 hE cl_X7_72 dX7_worst_26 ?_
        exact k_lret hR dX7_worst_29 rfl ⟨_, st, rfl, rfl, Or.inl ⟨by omega, rfl⟩, MX.refl st⟩

set_option maxHeartbeats 4000000 in
set_option maxRecDepth 100000 in
theorem c_X7_mark {ad : Nat → Nat} {D : va_G} {cI cZ : ClassId} (st : Sg) (Y : Sg) (d : Int) (v : Int) (hA : Ag st Y) (hI : Inv Y) (hm : st.1 15 = 0 ∧ st.1 16 = -9) (i_d : -2147483648 ≤ d ∧ d < 2147483648) (i_v : -2147483648 ≤ v ∧ v < 2147483648) : MC (mw ad D cI cZ) yX7_mark cX7_mark 3 (some .int) { frames := 1, cells := 0, slots := 0, locals := 22 } [.ref (ad 0), .int (iI d), .int (iI v)] st (fun rv u => ∃ z : Int, ∃ S : Sg, rv = some (.int (iI (z))) ∧ u = S ∧ (((d < 0 ∨ 10 < d) ∧ z = -1 ∧ S = st) ∨ (¬ (d < 0 ∨ 10 < d) ∧ (v < 0 ∨ 99 < v) ∧ z = -2 ∧ S = st) ∨ (¬ (d < 0 ∨ 10 < d) ∧ ¬ (v < 0 ∨ 99 < v) ∧ Y.1 0 = 0 ∧ z = -3 ∧ S = st) ∨ (¬ (d < 0 ∨ 10 < d) ∧ ¬ (v < 0 ∨ 99 < v) ∧ Y.1 0 ≠ 0 ∧ 8 ≤ Y.1 7 ∧ z = -4 ∧ S = st) ∨ (¬ (d < 0 ∨ 10 < d) ∧ ¬ (v < 0 ∨ 99 < v) ∧ Y.1 0 ≠ 0 ∧ ¬ 8 ≤ Y.1 7 ∧ z = Y.1 7 ∧ S = (uv st.1 7 (Y.1 7 + 1), ur (ur st.2 5 (Y.1 7) d) 6 (Y.1 7) v)))) := by
  refine MC_intro RX7 (by decide) rfl (Nat.le_of_ble_eq_true rfl) ?_
  intro G H0 m hE hR
  refine k_lo [0, 1, 2] (lo' := [(0, .ref (ad 0)), (1, .int (iI d)), (2, .int (iI v))]) rfl ?_
  obtain ⟨hi0, hi1, hi2, hi3, hi4, hi5, hi6, hi7, hit, hir, him, hin⟩ := id hI
  have a3 := hA.1 3 (by decide)
  have a4 := hA.1 4 (by decide)
  refine k_iload_n hE dX7_mark_0 1 rfl rfl ?_
  refine k_iconst hE dX7_mark_1 ?_
  refine k_bipush hE dX7_mark_2 rfl ?_
  refine k_callS hE (c_X7_within st d 0 10 (by omega) (by omega) (by omega)) ms_X7_within ml_X7_74 rfl ⟨rfl, rfl, Nat.le_of_ble_eq_true rfl, Nat.le_of_ble_eq_true rfl⟩ [] (Nat.le_of_ble_eq_true rfl) dX7_mark_4 rfl (fun rv u hp => ?_)
  obtain ⟨z1, hv4, hu4, hz_4⟩ := hp
  refine k_sk (sk' := [.int (iI z1)]) (by rw [hv4]; rfl) ?_
  refine k_st st hu4 ?_
  refine k_if_ne hE 12 dX7_mark_7 (by decide) (by unfold in32; omega) (fun c7 => ?_) (fun c7 => ?_)
  · refine k_iload_n hE dX7_mark_12 2 rfl rfl ?_
    refine k_iconst hE dX7_mark_13 ?_
    refine k_bipush hE dX7_mark_14 rfl ?_
    refine k_callS hE (c_X7_within st v 0 99 (by omega) (by omega) (by omega)) ms_X7_within ml_X7_74 rfl ⟨rfl, rfl, Nat.le_of_ble_eq_true rfl, Nat.le_of_ble_eq_true rfl⟩ [] (Nat.le_of_ble_eq_true rfl) dX7_mark_16 rfl (fun rv u hp => ?_)
    obtain ⟨z2, hv16, hu16, hz_16⟩ := hp
    refine k_sk (sk' := [.int (iI z2)]) (by rw [hv16]; rfl) ?_
    refine k_st st hu16 ?_
    refine k_if_ne hE 25 dX7_mark_19 (by decide) (by unfold in32; omega) (fun c19 => ?_) (fun c19 => ?_)
    · refine k_aload_n hE dX7_mark_25 0 rfl rfl ?_
      refine m_get_taps hE (z := Y.1 0) (hA.1 0 (by decide)) fl_X7_78 dX7_mark_26 ?_
      refine k_if_ne hE 35 dX7_mark_29 (by decide) (by unfold in32; omega) (fun c29 => ?_) (fun c29 => ?_)
      · refine k_aload_n hE dX7_mark_35 0 rfl rfl ?_
        refine m_get_marks hE (z := Y.1 7) (hA.1 7 (by decide)) fl_X7_129 dX7_mark_36 ?_
        refine k_bipush hE dX7_mark_39 rfl ?_
        refine k_icmp_ne hE 47 dX7_mark_41 (by decide) (by unfold in32; omega) (by unfold in32; omega) (fun c41 => ?_) (fun c41 => ?_)
        · refine k_aload_n hE dX7_mark_47 0 rfl rfl ?_
          refine m_get_markDay hE fl_X7_63 dX7_mark_48 ?_
          refine k_aload_n hE dX7_mark_51 0 rfl rfl ?_
          refine m_get_marks hE (z := Y.1 7) (hA.1 7 (by decide)) fl_X7_129 dX7_mark_52 ?_
          refine k_iload_n hE dX7_mark_55 1 rfl rfl ?_
          refine m_st_markDay hE (by omega) (by omega) dX7_mark_56 ?_
          refine k_st ((st.1, ur st.2 5 (Y.1 7) d)) rfl ?_
          refine k_aload_n hE dX7_mark_57 0 rfl rfl ?_
          refine m_get_markLevel hE fl_X7_66 dX7_mark_58 ?_
          refine k_aload_n hE dX7_mark_61 0 rfl rfl ?_
          refine m_get_marks hE (z := Y.1 7) (hA.1 7 (by decide)) fl_X7_129 dX7_mark_62 ?_
          refine k_iload_n hE dX7_mark_65 2 rfl rfl ?_
          refine m_st_markLevel hE (by omega) (by omega) dX7_mark_66 ?_
          refine k_st ((st.1, ur (ur st.2 5 (Y.1 7) d) 6 (Y.1 7) v)) rfl ?_
          refine k_aload_n hE dX7_mark_67 0 rfl rfl ?_
          refine k_dup hE dX7_mark_68 rfl ?_
          refine m_get_marks hE (z := Y.1 7) (hA.1 7 (by decide)) fl_X7_129 dX7_mark_69 ?_
          refine k_iconst hE dX7_mark_72 ?_
          refine k_iadd hE dX7_mark_73 ?_
          refine m_put_marks hE fl_X7_129 dX7_mark_74 ?_
          refine k_st ((uv st.1 7 ((Y.1 7) + 1), ur (ur st.2 5 (Y.1 7) d) 6 (Y.1 7) v)) rfl ?_
          refine k_aload_n hE dX7_mark_77 0 rfl rfl ?_
          refine m_get_marks hE (z := (Y.1 7) + 1) rfl fl_X7_129 dX7_mark_78 ?_
          refine k_iconst hE dX7_mark_81 ?_
          refine k_isub hE dX7_mark_82 ?_
          exact k_iret hR dX7_mark_83 rfl ⟨_, _, ret_i (show Y.1 7 + 1 - 1 = Y.1 7 by omega), rfl, Or.inr (Or.inr (Or.inr (Or.inr ⟨by omega, by omega, by omega, by omega, rfl, rfl⟩)))⟩
        · refine k_bipush hE dX7_mark_44 rfl ?_
          exact k_iret hR dX7_mark_46 rfl ⟨_, _, rfl, rfl, Or.inr (Or.inr (Or.inr (Or.inl ⟨by omega, by omega, by omega, by omega, rfl, rfl⟩)))⟩
      · refine k_bipush hE dX7_mark_32 rfl ?_
        exact k_iret hR dX7_mark_34 rfl ⟨_, _, rfl, rfl, Or.inr (Or.inr (Or.inl ⟨by omega, by omega, by omega, rfl, rfl⟩))⟩
    · refine k_bipush hE dX7_mark_22 rfl ?_
      exact k_iret hR dX7_mark_24 rfl ⟨_, _, rfl, rfl, Or.inr (Or.inl ⟨by omega, by omega, rfl, rfl⟩)⟩
  · refine k_iconst hE dX7_mark_10 ?_
    exact k_iret hR dX7_mark_11 rfl ⟨_, _, rfl, rfl, Or.inl ⟨by omega, rfl, rfl⟩⟩

set_option maxHeartbeats 4000000 in
set_option maxRecDepth 100000 in
theorem c_X7_back {ad : Nat → Nat} {D : va_G} {cI cZ : ClassId} (st : Sg) (Y : Sg) (k : Int) (hA : Ag st Y) (hI : Inv Y) (hm : st.1 15 = 0 ∧ st.1 16 = -9) (i_k : -2147483648 ≤ k ∧ k < 2147483648) : MC (mw ad D cI cZ) yX7_back cX7_back 2 (some .int) { frames := 1, cells := 0, slots := 0, locals := 22 } [.ref (ad 0), .int (iI k)] st (fun rv u => ∃ z : Int, ∃ S : Sg, rv = some (.int (iI (z))) ∧ u = S ∧ (((k < 0 ∨ Y.1 7 < k) ∧ z = -2 ∧ S = st) ∨ (¬ (k < 0 ∨ Y.1 7 < k) ∧ z = Y.1 7 - k ∧ S = (uv st.1 7 (Y.1 7 - k), st.2)))) := by
  refine MC_intro RX7 (by decide) rfl (Nat.le_of_ble_eq_true rfl) ?_
  intro G H0 m hE hR
  refine k_lo [0, 1] (lo' := [(0, .ref (ad 0)), (1, .int (iI k))]) rfl ?_
  obtain ⟨hi0, hi1, hi2, hi3, hi4, hi5, hi6, hi7, hit, hir, him, hin⟩ := id hI
  have a3 := hA.1 3 (by decide)
  have a4 := hA.1 4 (by decide)
  refine k_iload_n hE dX7_back_0 1 rfl rfl ?_
  refine k_iconst hE dX7_back_1 ?_
  refine k_aload_n hE dX7_back_2 0 rfl rfl ?_
  refine m_get_marks hE (z := Y.1 7) (hA.1 7 (by decide)) fl_X7_129 dX7_back_3 ?_
  refine k_callS hE (c_X7_within st k 0 (Y.1 7) (by omega) (by omega) (by omega)) ms_X7_within ml_X7_74 rfl ⟨rfl, rfl, Nat.le_of_ble_eq_true rfl, Nat.le_of_ble_eq_true rfl⟩ [] (Nat.le_of_ble_eq_true rfl) dX7_back_6 rfl (fun rv u hp => ?_)
  obtain ⟨z1, hv6, hu6, hz_6⟩ := hp
  refine k_sk (sk' := [.int (iI z1)]) (by rw [hv6]; rfl) ?_
  refine k_st st hu6 ?_
  refine k_if_ne hE 15 dX7_back_9 (by decide) (by unfold in32; omega) (fun c9 => ?_) (fun c9 => ?_)
  · refine k_aload_n hE dX7_back_15 0 rfl rfl ?_
    refine k_dup hE dX7_back_16 rfl ?_
    refine m_get_marks hE (z := Y.1 7) (hA.1 7 (by decide)) fl_X7_129 dX7_back_17 ?_
    refine k_iload_n hE dX7_back_20 1 rfl rfl ?_
    refine k_isub hE dX7_back_21 ?_
    refine m_put_marks hE fl_X7_129 dX7_back_22 ?_
    refine k_st ((uv st.1 7 ((Y.1 7) - k), st.2)) rfl ?_
    refine k_aload_n hE dX7_back_25 0 rfl rfl ?_
    refine m_get_marks hE (z := (Y.1 7) - k) rfl fl_X7_129 dX7_back_26 ?_
    exact k_iret hR dX7_back_29 rfl ⟨_, _, rfl, rfl, Or.inr ⟨by omega, rfl, rfl⟩⟩
  · refine k_bipush hE dX7_back_12 rfl ?_
    exact k_iret hR dX7_back_14 rfl ⟨_, _, rfl, rfl, Or.inl ⟨by omega, rfl, rfl⟩⟩
