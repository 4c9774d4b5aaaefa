set_option maxHeartbeats 4000000 in
set_option maxRecDepth 100000 in
theorem c_X6_inLeastTerms {ad : Nat → Nat} {ta sa ca : Int → Nat} {D : va_G} {cI cT cS : ClassId} (st : Sg) (g : Int) (d : Int) (x : Int) (hu : 0 ≤ g ∧ g ≤ 1000) (hd : 1 ≤ d ∧ d ≤ 90) (i_x : -2147483648 ≤ x ∧ x < 2147483648) : MC (xw ad ta sa ca D cI cT cS) yX6_inLeastTerms cX6_inLeastTerms 7 (some .long) { frames := 0, cells := 0, slots := 0, locals := 0 } [.int (iI g), .int (iI d), .int (iI x)] st (fun rv u => rv = some (.long (jI (LT g d x))) ∧ u = st) := by
  refine MC_intro RX6 (by decide) rfl (Nat.le_of_ble_eq_true rfl) ?_
  intro G H0 m hE hR
  refine k_lo [0, 1, 2] (lo' := [(0, .int (iI g)), (1, .int (iI d)), (2, .int (iI x))]) rfl ?_
  refine k_iload_n hE dX6_inLeastTerms_0 1 rfl rfl ?_
  refine k_sk (sk' := [.int (iI ((d.toNat : Int)))]) (congrArg (fun zz : Int => ([.int (iI zz)] : List Value)) (show (d) = ((d.toNat : Int)) from (by omega))) ?_
  refine k_istore_n hE dX6_inLeastTerms_1 [1, 2, 3, 0] rfl (Nat.le_of_ble_eq_true rfl) (lo' := [(0, .int (iI g)), (1, .int (iI d)), (2, .int (iI x)), (3, .int (iI ((d.toNat : Int))))]) rfl ?_
  refine k_iload_n hE dX6_inLeastTerms_2 0 rfl rfl ?_
  refine k_sk (sk' := [.int (iI ((g.toNat : Int)))]) (congrArg (fun zz : Int => ([.int (iI zz)] : List Value)) (show (g) = ((g.toNat : Int)) from (by omega))) ?_
  refine k_istore hE dX6_inLeastTerms_3 [1, 2, 3, 4, 0] (Nat.le_of_ble_eq_true rfl) (lo' := [(0, .int (iI g)), (1, .int (iI d)), (2, .int (iI x)), (3, .int (iI ((d.toNat : Int)))), (4, .int (iI ((g.toNat : Int))))]) rfl ?_
  refine k_iconst hE dX6_inLeastTerms_5 ?_
  refine k_istore hE dX6_inLeastTerms_6 [1, 2, 3, 4, 5, 0] (Nat.le_of_ble_eq_true rfl) (lo' := [(0, .int (iI g)), (1, .int (iI d)), (2, .int (iI x)), (3, .int (iI ((d.toNat : Int)))), (4, .int (iI ((g.toNat : Int)))), (5, .int (iI 0))]) rfl ?_
  have L8 : ∀ (fu8 : Nat) (c : Nat) (r : Nat) (s : Int), (0 ≤ s ∧ s ≤ 100) → (100 - s < fu8) → (Nat.gcd c r = Nat.gcd g.toNat d.toNat) → ((s = 0 ∧ (c : Int) = d) ∨ (1 ≤ s ∧ (r : Int) + s ≤ d + 1)) → (c ≤ 1000 ∧ r ≤ 1000) → KW (xw ad ta sa ca D cI cT cS) G H0 m 7 st 8 [(0, .int (iI g)), (1, .int (iI d)), (2, .int (iI x)), (3, .int (iI ((c : Int)))), (4, .int (iI ((r : Int)))), (5, .int (iI s))] [] := by
    intro fu8
    induction fu8 with
    | zero =>
      intro c r s q0 q1 hg hb hc
      omega
    | succ fu8 ih8 =>
      intro c r s q0 q1 hg hb hc
      refine k_iload hE dX6_inLeastTerms_8 5 rfl ?_
      refine k_bipush hE dX6_inLeastTerms_10 rfl ?_
      refine k_icmp_ge hE 39 dX6_inLeastTerms_12 (by decide) (by unfold in32; omega) (by unfold in32; omega) (fun c12 => ?_) (fun c12 => ?_)
      · have hs0 : r = 0 := by omega
        have ec : c = Nat.gcd g.toNat d.toNat := by rw [← hg, hs0, Nat.gcd_zero_right]
        have gp : 0 < Nat.gcd g.toNat d.toNat := Nat.gcd_pos_of_pos_right _ (by omega)
        refine k_iload_n hE dX6_inLeastTerms_39 2 rfl rfl ?_
        refine k_if_ne hE 47 dX6_inLeastTerms_40 (by decide) (by unfold in32; omega) (fun c40 => ?_) (fun c40 => ?_)
        · refine k_iload_n hE dX6_inLeastTerms_47 1 rfl rfl ?_
          refine k_istore hE dX6_inLeastTerms_48 [1, 2, 3, 4, 5, 0] (Nat.le_of_ble_eq_true rfl) (lo' := [(0, .int (iI g)), (1, .int (iI d)), (2, .int (iI x)), (3, .int (iI ((c : Int)))), (4, .int (iI ((r : Int)))), (5, .int (iI d))]) rfl ?_
          refine k_iload_n hE dX6_inLeastTerms_50 3 rfl rfl ?_
          refine k_if_le hE 62 dX6_inLeastTerms_51 (by decide) (by unfold in32; omega) (fun c51 => ?_) (fun c51 => ?_)
          · refine k_iload hE dX6_inLeastTerms_62 5 rfl ?_
            refine k_i2l hE dX6_inLeastTerms_64 (by unfold in32; omega) ?_
            refine k_lret hR dX6_inLeastTerms_65 rfl ?_
            refine ⟨ret_l ?_, rfl⟩
            unfold LT
            rw [← ec]
            first
              | (exfalso; omega)
              | (rw [if_pos (by omega)])
              | (rw [if_neg (by omega)])
          · refine k_iload hE dX6_inLeastTerms_54 5 rfl ?_
            refine k_iload_n hE dX6_inLeastTerms_56 3 rfl rfl ?_
            refine k_idivN hE dX6_inLeastTerms_57 (by unfold in32; omega) (by unfold in32; omega) (by omega) (by omega) ?_
            have hq : 0 ≤ (d / ((c : Int))) ∧ (d / ((c : Int))) ≤ 1000 := by
              refine ⟨Int.ediv_nonneg (by omega) (by omega), ?_⟩
              have h5 := Int.ediv_le_self (a := (if x = 0 then g else d)) (c : Int) (by split <;> omega)
              first | (rw [if_pos (by omega)] at h5; omega) | (rw [if_neg (by omega)] at h5; omega)
            refine k_i2l hE dX6_inLeastTerms_58 (by unfold in32; omega) ?_
            refine k_goto hE 65 dX6_inLeastTerms_59 (by decide) ?_
            refine k_lret hR dX6_inLeastTerms_65 rfl ?_
            refine ⟨ret_l ?_, rfl⟩
            unfold LT
            rw [← ec]
            first
              | (exfalso; omega)
              | (rw [if_pos (by omega)])
              | (rw [if_neg (by omega)])
        · refine k_iload_n hE dX6_inLeastTerms_43 0 rfl rfl ?_
          refine k_goto hE 48 dX6_inLeastTerms_44 (by decide) ?_
          refine k_istore hE dX6_inLeastTerms_48 [1, 2, 3, 4, 5, 0] (Nat.le_of_ble_eq_true rfl) (lo' := [(0, .int (iI g)), (1, .int (iI d)), (2, .int (iI x)), (3, .int (iI ((c : Int)))), (4, .int (iI ((r : Int)))), (5, .int (iI g))]) rfl ?_
          refine k_iload_n hE dX6_inLeastTerms_50 3 rfl rfl ?_
          refine k_if_le hE 62 dX6_inLeastTerms_51 (by decide) (by unfold in32; omega) (fun c51 => ?_) (fun c51 => ?_)
          · refine k_iload hE dX6_inLeastTerms_62 5 rfl ?_
            refine k_i2l hE dX6_inLeastTerms_64 (by unfold in32; omega) ?_
            refine k_lret hR dX6_inLeastTerms_65 rfl ?_
            refine ⟨ret_l ?_, rfl⟩
            unfold LT
            rw [← ec]
            first
              | (exfalso; omega)
              | (rw [if_pos (by omega)])
              | (rw [if_neg (by omega)])
          · refine k_iload hE dX6_inLeastTerms_54 5 rfl ?_
            refine k_iload_n hE dX6_inLeastTerms_56 3 rfl rfl ?_
            refine k_idivN hE dX6_inLeastTerms_57 (by unfold in32; omega) (by unfold in32; omega) (by omega) (by omega) ?_
            have hq : 0 ≤ (g / ((c : Int))) ∧ (g / ((c : Int))) ≤ 1000 := by
              refine ⟨Int.ediv_nonneg (by omega) (by omega), ?_⟩
              have h5 := Int.ediv_le_self (a := (if x = 0 then g else d)) (c : Int) (by split <;> omega)
              first | (rw [if_pos (by omega)] at h5; omega) | (rw [if_neg (by omega)] at h5; omega)
            refine k_i2l hE dX6_inLeastTerms_58 (by unfold in32; omega) ?_
            refine k_goto hE 65 dX6_inLeastTerms_59 (by decide) ?_
            refine k_lret hR dX6_inLeastTerms_65 rfl ?_
            refine ⟨ret_l ?_, rfl⟩
            unfold LT
            rw [← ec]
            first
              | (exfalso; omega)
              | (rw [if_pos (by omega)])
              | (rw [if_neg (by omega)])
      · refine k_iload hE dX6_inLeastTerms_15 4 rfl ?_
        refine k_if_le hE 39 dX6_inLeastTerms_17 (by decide) (by unfold in32; omega) (fun c17 => ?_) (fun c17 => ?_)
        · have hs0 : r = 0 := by omega
          have ec : c = Nat.gcd g.toNat d.toNat := by rw [← hg, hs0, Nat.gcd_zero_right]
          have gp : 0 < Nat.gcd g.toNat d.toNat := Nat.gcd_pos_of_pos_right _ (by omega)
          refine k_iload_n hE dX6_inLeastTerms_39 2 rfl rfl ?_
          refine k_if_ne hE 47 dX6_inLeastTerms_40 (by decide) (by unfold in32; omega) (fun c40 => ?_) (fun c40 => ?_)
          · refine k_iload_n hE dX6_inLeastTerms_47 1 rfl rfl ?_
            refine k_istore hE dX6_inLeastTerms_48 [1, 2, 3, 4, 5, 0] (Nat.le_of_ble_eq_true rfl) (lo' := [(0, .int (iI g)), (1, .int (iI d)), (2, .int (iI x)), (3, .int (iI ((c : Int)))), (4, .int (iI ((r : Int)))), (5, .int (iI d))]) rfl ?_
            refine k_iload_n hE dX6_inLeastTerms_50 3 rfl rfl ?_
            refine k_if_le hE 62 dX6_inLeastTerms_51 (by decide) (by unfold in32; omega) (fun c51 => ?_) (fun c51 => ?_)
            · refine k_iload hE dX6_inLeastTerms_62 5 rfl ?_
              refine k_i2l hE dX6_inLeastTerms_64 (by unfold in32; omega) ?_
              refine k_lret hR dX6_inLeastTerms_65 rfl ?_
              refine ⟨ret_l ?_, rfl⟩
              unfold LT
              rw [← ec]
              first
                | (exfalso; omega)
                | (rw [if_pos (by omega)])
                | (rw [if_neg (by omega)])
            · refine k_iload hE dX6_inLeastTerms_54 5 rfl ?_
              refine k_iload_n hE dX6_inLeastTerms_56 3 rfl rfl ?_
              refine k_idivN hE dX6_inLeastTerms_57 (by unfold in32; omega) (by unfold in32; omega) (by omega) (by omega) ?_
              have hq : 0 ≤ (d / ((c : Int))) ∧ (d / ((c : Int))) ≤ 1000 := by
                refine ⟨Int.ediv_nonneg (by omega) (by omega), ?_⟩
                have h5 := Int.ediv_le_self (a := (if x = 0 then g else d)) (c : Int) (by split <;> omega)
                first | (rw [if_pos (by omega)] at h5; omega) | (rw [if_neg (by omega)] at h5; omega)
              refine k_i2l hE dX6_inLeastTerms_58 (by unfold in32; omega) ?_
              refine k_goto hE 65 dX6_inLeastTerms_59 (by decide) ?_
              refine k_lret hR dX6_inLeastTerms_65 rfl ?_
              refine ⟨ret_l ?_, rfl⟩
              unfold LT
              rw [← ec]
              first
                | (exfalso; omega)
                | (rw [if_pos (by omega)])
                | (rw [if_neg (by omega)])
          · refine k_iload_n hE dX6_inLeastTerms_43 0 rfl rfl ?_
            refine k_goto hE 48 dX6_inLeastTerms_44 (by decide) ?_
            refine k_istore hE dX6_inLeastTerms_48 [1, 2, 3, 4, 5, 0] (Nat.le_of_ble_eq_true rfl) (lo' := [(0, .int (iI g)), (1, .int (iI d)), (2, .int (iI x)), (3, .int (iI ((c : Int)))), (4, .int (iI ((r : Int)))), (5, .int (iI g))]) rfl ?_
            refine k_iload_n hE dX6_inLeastTerms_50 3 rfl rfl ?_
            refine k_if_le hE 62 dX6_inLeastTerms_51 (by decide) (by unfold in32; omega) (fun c51 => ?_) (fun c51 => ?_)
            · refine k_iload hE dX6_inLeastTerms_62 5 rfl ?_
              refine k_i2l hE dX6_inLeastTerms_64 (by unfold in32; omega) ?_
              refine k_lret hR dX6_inLeastTerms_65 rfl ?_
              refine ⟨ret_l ?_, rfl⟩
              unfold LT
              rw [← ec]
              first
                | (exfalso; omega)
                | (rw [if_pos (by omega)])
                | (rw [if_neg (by omega)])
            · refine k_iload hE dX6_inLeastTerms_54 5 rfl ?_
              refine k_iload_n hE dX6_inLeastTerms_56 3 rfl rfl ?_
              refine k_idivN hE dX6_inLeastTerms_57 (by unfold in32; omega) (by unfold in32; omega) (by omega) (by omega) ?_
              have hq : 0 ≤ (g / ((c : Int))) ∧ (g / ((c : Int))) ≤ 1000 := by
                refine ⟨Int.ediv_nonneg (by omega) (by omega), ?_⟩
                have h5 := Int.ediv_le_self (a := (if x = 0 then g else d)) (c : Int) (by split <;> omega)
                first | (rw [if_pos (by omega)] at h5; omega) | (rw [if_neg (by omega)] at h5; omega)
              refine k_i2l hE dX6_inLeastTerms_58 (by unfold in32; omega) ?_
              refine k_goto hE 65 dX6_inLeastTerms_59 (by decide) ?_
              refine k_lret hR dX6_inLeastTerms_65 rfl ?_
              refine ⟨ret_l ?_, rfl⟩
              unfold LT
              rw [← ec]
              first
                | (exfalso; omega)
                | (rw [if_pos (by omega)])
                | (rw [if_neg (by omega)])
        · refine k_iload_n hE dX6_inLeastTerms_20 3 rfl rfl ?_
          refine k_iload hE dX6_inLeastTerms_21 4 rfl ?_
          refine k_iremN hE dX6_inLeastTerms_23 (by unfold in32; omega) (by unfold in32; omega) (by omega) (by omega) ?_
          refine k_sk (sk' := [.int (iI (((c % r : Nat) : Int)))]) (congrArg (fun zz : Int => ([.int (iI zz)] : List Value)) (show (((c : Int)) % ((r : Int))) = (((c % r : Nat) : Int)) from rfl)) ?_
          refine k_istore hE dX6_inLeastTerms_24 [1, 2, 3, 4, 5, 6, 0] (Nat.le_of_ble_eq_true rfl) (lo' := [(0, .int (iI g)), (1, .int (iI d)), (2, .int (iI x)), (3, .int (iI ((c : Int)))), (4, .int (iI ((r : Int)))), (5, .int (iI s)), (6, .int (iI (((c % r : Nat) : Int))))]) rfl ?_
          refine k_iload hE dX6_inLeastTerms_26 4 rfl ?_
          refine k_istore_n hE dX6_inLeastTerms_28 [1, 2, 3, 0, 4, 5, 6] rfl (Nat.le_of_ble_eq_true rfl) (lo' := [(0, .int (iI g)), (1, .int (iI d)), (2, .int (iI x)), (3, .int (iI ((r : Int)))), (4, .int (iI ((r : Int)))), (5, .int (iI s)), (6, .int (iI (((c % r : Nat) : Int))))]) rfl ?_
          refine k_iload hE dX6_inLeastTerms_29 6 rfl ?_
          refine k_istore hE dX6_inLeastTerms_31 [1, 2, 3, 4, 0, 5, 6] (Nat.le_of_ble_eq_true rfl) (lo' := [(0, .int (iI g)), (1, .int (iI d)), (2, .int (iI x)), (3, .int (iI ((r : Int)))), (4, .int (iI (((c % r : Nat) : Int)))), (5, .int (iI s)), (6, .int (iI (((c % r : Nat) : Int))))]) rfl ?_
          refine k_iinc hE dX6_inLeastTerms_33 5 [1, 2, 3, 4, 5, 0, 6] rfl (Nat.le_of_ble_eq_true rfl) (lo' := [(0, .int (iI g)), (1, .int (iI d)), (2, .int (iI x)), (3, .int (iI ((r : Int)))), (4, .int (iI (((c % r : Nat) : Int)))), (5, .int (iI (s + 1))), (6, .int (iI (((c % r : Nat) : Int))))]) rfl ?_
          refine k_goto hE 8 dX6_inLeastTerms_36 (by decide) ?_
          refine k_lo [0, 1, 2, 3, 4, 5] (lo' := [(0, .int (iI g)), (1, .int (iI d)), (2, .int (iI x)), (3, .int (iI ((r : Int)))), (4, .int (iI (((c % r : Nat) : Int)))), (5, .int (iI (s + 1)))]) rfl ?_
          have m1 := Nat.mod_lt c (y := r) (by omega)
          have m2 := Nat.mod_le c r
          exact ih8 r (c % r) _ (by omega) (by omega) (by rw [Nat.gcd_comm, ← Nat.gcd_rec, Nat.gcd_comm]; exact hg) (by omega) (by omega)
  exact L8 101 _ _ 0 (by omega) (by omega) (Nat.gcd_comm _ _) (Or.inl ⟨rfl, by omega⟩) (by omega)

set_option maxHeartbeats 4000000 in
set_option maxRecDepth 100000 in
theorem c_X6_worst {ad : Nat → Nat} {ta sa ca : Int → Nat} {D : va_G} {cI cT cS : ClassId} (st : Sg) (Y : Sg) (n : Int) (x : Int) (hA : Ag st Y) (hI : Inv Y) (i_n : -2147483648 ≤ n ∧ n < 2147483648) (i_x : -2147483648 ≤ x ∧ x < 2147483648) : MC (xw ad ta sa ca D cI cT cS) yX6_worst cX6_worst 8 (some .long) { frames := 6, cells := 0, slots := 0, locals := 145 } [.ref (ad 0), .int (iI n), .int (iI x)] st (fun rv u => ∃ L : Int64, ∃ S : Sg, rv = some (.long (L)) ∧ u = S ∧ (WO Y n x L) ∧ (XS st S)) := by
  refine MC_intro RX6 (by decide) rfl (Nat.le_of_ble_eq_true rfl) ?_
  intro G H0 m hE hR
  refine k_lo [0, 1, 2] (lo' := [(0, .ref (ad 0)), (1, .int (iI n)), (2, .int (iI x))]) rfl ?_
  obtain ⟨hi0, hi1, hi2, hi3, hi4, hi5, hi6, hi7, hit, hir, him, hin⟩ := id hI
  refine k_iconst hE dX6_worst_0 ?_
  refine k_iload_n hE dX6_worst_1 1 rfl rfl ?_
  refine k_bipush hE dX6_worst_2 rfl ?_
  refine k_callS hE (c_X6_isNot st 1 n 10 (by omega) (by omega) (by omega)) ms_X6_isNot ml_X6_104 rfl ⟨rfl, rfl, Nat.le_of_ble_eq_true rfl, Nat.le_of_ble_eq_true rfl⟩ [] (Nat.le_of_ble_eq_true rfl) dX6_worst_4 rfl (fun rv u hp => ?_)
  obtain ⟨z1, hv4, hu4, hz_4⟩ := hp
  refine k_sk (sk' := [.int (iI z1)]) (by rw [hv4]; rfl) ?_
  refine k_st st hu4 ?_
  refine k_if_ne hE 26 dX6_worst_7 (by decide) (by unfold in32; omega) (fun c7 => ?_) (fun c7 => ?_)
  · refine k_ldc2 hE cl_X6_167 dX6_worst_26 ?_
    exact k_lret hR dX6_worst_29 rfl ⟨_, st, rfl, rfl, Or.inl ⟨by omega, rfl⟩, XS.refl st⟩
  · refine k_iconst hE dX6_worst_10 ?_
    refine k_iload_n hE dX6_worst_11 2 rfl rfl ?_
    refine k_iconst hE dX6_worst_12 ?_
    refine k_callS hE (c_X6_isNot st 0 x 1 (by omega) (by omega) (by omega)) ms_X6_isNot ml_X6_104 rfl ⟨rfl, rfl, Nat.le_of_ble_eq_true rfl, Nat.le_of_ble_eq_true rfl⟩ [] (Nat.le_of_ble_eq_true rfl) dX6_worst_13 rfl (fun rv u hp => ?_)
    obtain ⟨z2, hv13, hu13, hz_13⟩ := hp
    refine k_sk (sk' := [.int (iI z2)]) (by rw [hv13]; rfl) ?_
    refine k_st st hu13 ?_
    refine k_if_ne hE 26 dX6_worst_16 (by decide) (by unfold in32; omega) (fun c16 => ?_) (fun c16 => ?_)
    · refine k_ldc2 hE cl_X6_167 dX6_worst_26 ?_
      exact k_lret hR dX6_worst_29 rfl ⟨_, st, rfl, rfl, Or.inl ⟨by omega, rfl⟩, XS.refl st⟩
    · refine k_aload_n hE dX6_worst_19 0 rfl rfl ?_
      refine k_callV hE (c_X6_noYard st Y hA hI) mf_X6_noYard ml_X6_108 0 rfl rfl rfl rfl ⟨rfl, rfl, Nat.le_of_ble_eq_true rfl, Nat.le_of_ble_eq_true rfl⟩ [] (Nat.le_of_ble_eq_true rfl) dX6_worst_20 rfl (fun rv u hp => ?_)
      obtain ⟨z3, hv20, hu20, hz_20⟩ := hp
      refine k_sk (sk' := [.int (iI z3)]) (by rw [hv20]; rfl) ?_
      refine k_st st hu20 ?_
      refine k_if_eq hE 30 dX6_worst_23 (by decide) (by unfold in32; omega) (fun c23 => ?_) (fun c23 => ?_)
      · have w1 : ¬ ((n < 1 ∨ 10 < n) ∨ (x < 0 ∨ 1 < x) ∨ Y.1 0 = 0) := by omega
        refine k_aload_n hE dX6_worst_30 0 rfl rfl ?_
        refine k_iload_n hE dX6_worst_31 1 rfl rfl ?_
        refine k_callV hE (c_X6_passAsTold st Y n hA hI (by omega)) mf_X6_passAsTold ml_X6_134 0 rfl rfl rfl rfl ⟨rfl, rfl, Nat.le_of_ble_eq_true rfl, Nat.le_of_ble_eq_true rfl⟩ [] (Nat.le_of_ble_eq_true rfl) dX6_worst_32 rfl (fun rv u hp => ?_)
        obtain ⟨S1, hv32, hu32, hx_32, hr_32, hO_32, er_32⟩ := hp
        refine k_sk (sk' := []) (by rw [hv32]; rfl) ?_
        refine k_st S1 hu32 ?_
        have hB : Ag S1 Y := hx_32.ag hA
        have es : ∀ f : Int, 0 ≤ f → f < Y.1 0 → SM (fun k => S1.2 11 (k * 6 + f)) n.toNat = WSm Y n f := fun f f0 f1 => SM_cong (fun k k0 k1 => (Ran_gD er_32 f0 f1 k0 (by omega)).1)
        have hs : ∀ f : Int, 0 ≤ f → f < Y.1 0 → 0 ≤ WSm Y n f ∧ WSm Y n f ≤ 140 := fun f f0 f1 => by have h5 := SM_rng (g := fun k => gD Y (Y.1 4) (Y.1 3) (Y.2 4) f k) (b := 14) (by omega) (k := n.toNat) (fun k k0 k1 => (Ran_gD er_32 f0 f1 k0 (by omega)).2); unfold WSm; omega
        have hnd : ∀ f : Int, 0 ≤ f → f < Y.1 0 → 1 ≤ WNd Y n f ∧ WNd Y n f ≤ 90 := fun f f0 f1 => by have h5 := hin f f0 f1; have h6 := hit f f0 (by omega); have h7 := mulB (a := Y.2 2 f) (A := 9) (by omega) (b := n) (B := 10) (by omega); have h8 := Int.mul_le_mul h5.1 (show (1 : Int) ≤ n by omega) (by omega) (by omega); unfold WNd; omega
        refine k_aload_n hE dX6_worst_35 0 rfl rfl ?_
        refine x_get_X6_days hE fl_X6_23 dX6_worst_36 ?_
        refine k_iconst hE dX6_worst_39 ?_
        refine k_iload_n hE dX6_worst_40 1 rfl rfl ?_
        refine k_callV hE (c_X0_drawnInAll S1 Y 0 n hB hI (by omega) (by omega) (by omega)) mf_X0_drawnInAll ml_X6_169 4 rfl rfl rfl rfl ⟨rfl, rfl, Nat.le_of_ble_eq_true rfl, Nat.le_of_ble_eq_true rfl⟩ [] (Nat.le_of_ble_eq_true rfl) dX6_worst_41 rfl (fun rv u hp => ?_)
        obtain ⟨hv41, hu41⟩ := hp
        refine k_sk (sk' := [.int (iI (SM (fun k => S1.2 11 (k * 6 + 0)) n.toNat))]) (by rw [hv41]; rfl) ?_
        refine k_st S1 hu41 ?_
        refine k_sk (sk' := [.int (iI (WSm Y n 0))]) (congrArg (fun zz : Int => ([.int (iI zz)] : List Value)) (show (SM (fun k => S1.2 11 (k * 6 + 0)) n.toNat) = (WSm Y n 0) from (es 0 (by omega) (by omega)))) ?_
        refine k_istore_n hE dX6_worst_44 [1, 2, 3, 0] rfl (Nat.le_of_ble_eq_true rfl) (lo' := [(0, .ref (ad 0)), (1, .int (iI n)), (2, .int (iI x)), (3, .int (iI (WSm Y n 0)))]) rfl ?_
        refine k_aload_n hE dX6_worst_45 0 rfl rfl ?_
        refine x_get_X6_yard hE fl_X6_12 dX6_worst_46 ?_
        refine x_get_X5_taps hE fl_X6_82 dX6_worst_49 ?_
        refine k_iconst hE dX6_worst_52 ?_
        refine x_ld_taps hE (i := 0) (by omega) (by omega) dX6_worst_53 ?_
        refine x_get_X3_need hE (z := Y.2 2 0) (by omega) (by omega) (congrFun (hB.2 2 (by decide)) 0) fl_X6_94 dX6_worst_54 ?_
        refine k_iload_n hE dX6_worst_57 1 rfl rfl ?_
        refine k_imul hE dX6_worst_58 ?_
        refine k_sk (sk' := [.int (iI (WNd Y n 0))]) (congrArg (fun zz : Int => ([.int (iI zz)] : List Value)) (show ((Y.2 2 0) * n) = (WNd Y n 0) from rfl)) ?_
        refine k_istore hE dX6_worst_59 [1, 2, 3, 4, 0] (Nat.le_of_ble_eq_true rfl) (lo' := [(0, .ref (ad 0)), (1, .int (iI n)), (2, .int (iI x)), (3, .int (iI (WSm Y n 0))), (4, .int (iI (WNd Y n 0)))]) rfl ?_
        refine k_iconst hE dX6_worst_61 ?_
        refine k_istore hE dX6_worst_62 [1, 2, 3, 4, 5, 0] (Nat.le_of_ble_eq_true rfl) (lo' := [(0, .ref (ad 0)), (1, .int (iI n)), (2, .int (iI x)), (3, .int (iI (WSm Y n 0))), (4, .int (iI (WNd Y n 0))), (5, .int (iI 1))]) rfl ?_
        have L64 : ∀ (fu64 : Nat) (p : Int) (d : Int) (f : Nat), (1 ≤ f ∧ (f : Int) ≤ Y.1 0) → (Y.1 0 - f < fu64) → (p = (WFo (WSm Y n) (WNd Y n) f).1) → (d = (WFo (WSm Y n) (WNd Y n) f).2) → KW (xw ad ta sa ca D cI cT cS) G H0 m 8 S1 64 [(0, .ref (ad 0)), (1, .int (iI n)), (2, .int (iI x)), (3, .int (iI p)), (4, .int (iI d)), (5, .int (iI ((f : Int))))] [] := by
          intro fu64
          induction fu64 with
          | zero =>
            intro p d f q0 q1 eu ed
            omega
          | succ fu64 ih64 =>
            intro p d f q0 q1 eu ed
            have rg := WFo_rng hs hnd (f - 1) (by omega)
            rw [show f - 1 + 1 = f by omega, ← eu, ← ed] at rg
            refine k_iload hE dX6_worst_64 5 rfl ?_
            refine k_aload_n hE dX6_worst_66 0 rfl rfl ?_
            refine x_get_X6_yard hE fl_X6_12 dX6_worst_67 ?_
            refine x_get_X5_tapCount hE (z := Y.1 0) (hB.1 0 (by decide)) fl_X6_76 dX6_worst_70 ?_
            refine k_icmp_ge hE 130 dX6_worst_73 (by decide) (by unfold in32; omega) (by unfold in32; omega) (fun c73 => ?_) (fun c73 => ?_)
            · have ef : (Y.1 0).toNat = f := by omega
              refine k_iload_n hE dX6_worst_130 3 rfl rfl ?_
              refine k_iload hE dX6_worst_131 4 rfl ?_
              refine k_iload_n hE dX6_worst_133 2 rfl rfl ?_
              refine k_callS hE (c_X6_inLeastTerms S1 p d x (by omega) (by omega) (by omega)) ms_X6_inLeastTerms ml_X6_172 rfl ⟨rfl, rfl, Nat.le_of_ble_eq_true rfl, Nat.le_of_ble_eq_true rfl⟩ [] (Nat.le_of_ble_eq_true rfl) dX6_worst_134 rfl (fun rv u hp => ?_)
              obtain ⟨hv134, hu134⟩ := hp
              refine k_sk (sk' := [.long (jI (LT p d x))]) (by rw [hv134]; rfl) ?_
              refine k_st S1 hu134 ?_
              exact k_lret hR dX6_worst_137 rfl ⟨_, S1, rfl, rfl, Or.inr ⟨w1, by rw [ef, ← eu, ← ed]⟩, hx_32⟩
            · have sf := hs f (by omega) (by omega)
              have nf := hnd f (by omega) (by omega)
              have m1 := mulB sf (B := 90) (b := d) (by omega)
              have m2 := mulB (a := p) (A := 140) (by omega) (b := WNd Y n f) (B := 90) (by omega)
              have m3 : WNd Y n f = Y.2 2 f * n := rfl
              refine k_aload_n hE dX6_worst_76 0 rfl rfl ?_
              refine x_get_X6_days hE fl_X6_23 dX6_worst_77 ?_
              refine k_iload hE dX6_worst_80 5 rfl ?_
              refine k_iload_n hE dX6_worst_82 1 rfl rfl ?_
              refine k_callV hE (c_X0_drawnInAll S1 Y ((f : Int)) n hB hI (by omega) (by omega) (by omega)) mf_X0_drawnInAll ml_X6_169 4 rfl rfl rfl rfl ⟨rfl, rfl, Nat.le_of_ble_eq_true rfl, Nat.le_of_ble_eq_true rfl⟩ [] (Nat.le_of_ble_eq_true rfl) dX6_worst_83 rfl (fun rv u hp => ?_)
              obtain ⟨hv83, hu83⟩ := hp
              refine k_sk (sk' := [.int (iI (SM (fun k => S1.2 11 (k * 6 + ((f : Int)))) n.toNat))]) (by rw [hv83]; rfl) ?_
              refine k_st S1 hu83 ?_
              refine k_sk (sk' := [.int (iI (WSm Y n f))]) (congrArg (fun zz : Int => ([.int (iI zz)] : List Value)) (show (SM (fun k => S1.2 11 (k * 6 + ((f : Int)))) n.toNat) = (WSm Y n f) from (es f (by omega) (by omega)))) ?_
              refine k_istore hE dX6_worst_86 [1, 2, 3, 4, 5, 6, 0] (Nat.le_of_ble_eq_true rfl) (lo' := [(0, .ref (ad 0)), (1, .int (iI n)), (2, .int (iI x)), (3, .int (iI p)), (4, .int (iI d)), (5, .int (iI ((f : Int)))), (6, .int (iI (WSm Y n f)))]) rfl ?_
              refine k_aload_n hE dX6_worst_88 0 rfl rfl ?_
              refine x_get_X6_yard hE fl_X6_12 dX6_worst_89 ?_
              refine x_get_X5_taps hE fl_X6_82 dX6_worst_92 ?_
              refine k_iload hE dX6_worst_95 5 rfl ?_
              refine x_ld_taps hE (i := (f : Int)) (by omega) (by omega) dX6_worst_97 ?_
              refine x_get_X3_need hE (z := Y.2 2 (((f : Int)))) (by omega) (by omega) (congrFun (hB.2 2 (by decide)) (((f : Int)))) fl_X6_94 dX6_worst_98 ?_
              refine k_iload_n hE dX6_worst_101 1 rfl rfl ?_
              refine k_imul hE dX6_worst_102 ?_
              refine k_sk (sk' := [.int (iI (WNd Y n f))]) (congrArg (fun zz : Int => ([.int (iI zz)] : List Value)) (show ((Y.2 2 (((f : Int)))) * n) = (WNd Y n f) from rfl)) ?_
              refine k_istore hE dX6_worst_103 [1, 2, 3, 4, 5, 6, 7, 0] (Nat.le_of_ble_eq_true rfl) (lo' := [(0, .ref (ad 0)), (1, .int (iI n)), (2, .int (iI x)), (3, .int (iI p)), (4, .int (iI d)), (5, .int (iI ((f : Int)))), (6, .int (iI (WSm Y n f))), (7, .int (iI (WNd Y n f)))]) rfl ?_
              refine k_iload hE dX6_worst_105 6 rfl ?_
              refine k_iload hE dX6_worst_107 4 rfl ?_
              refine k_imul hE dX6_worst_109 ?_
              refine k_iload_n hE dX6_worst_110 3 rfl rfl ?_
              refine k_iload hE dX6_worst_111 7 rfl ?_
              refine k_imul hE dX6_worst_113 ?_
              refine k_icmp_ge hE 124 dX6_worst_114 (by decide) (by unfold in32; omega) (by unfold in32; omega) (fun c114 => ?_) (fun c114 => ?_)
              · refine k_iinc hE dX6_worst_124 5 [1, 2, 3, 4, 5, 0, 6, 7] rfl (Nat.le_of_ble_eq_true rfl) (lo' := [(0, .ref (ad 0)), (1, .int (iI n)), (2, .int (iI x)), (3, .int (iI p)), (4, .int (iI d)), (5, .int (iI (((f : Int)) + 1))), (6, .int (iI (WSm Y n f))), (7, .int (iI (WNd Y n f)))]) rfl ?_
                refine k_goto hE 64 dX6_worst_127 (by decide) ?_
                refine k_lo [0, 1, 2, 3, 4, 5] (lo' := [(0, .ref (ad 0)), (1, .int (iI n)), (2, .int (iI x)), (3, .int (iI p)), (4, .int (iI d)), (5, .int (iI (((f : Int)) + 1)))]) rfl ?_
                refine ih64 _ _ (f + 1) (by omega) (by omega) ?_ ?_
                · rw [WFo, ← eu, ← ed]
                  first
                    | rw [if_pos (Or.inr (by omega))]
                    | (rw [if_neg (by omega)]; exact eu)
                · rw [WFo, ← eu, ← ed]
                  first
                    | rw [if_pos (Or.inr (by omega))]
                    | (rw [if_neg (by omega)]; exact ed)
              · refine k_iload hE dX6_worst_117 6 rfl ?_
                refine k_istore_n hE dX6_worst_119 [1, 2, 3, 0, 4, 5, 6, 7] rfl (Nat.le_of_ble_eq_true rfl) (lo' := [(0, .ref (ad 0)), (1, .int (iI n)), (2, .int (iI x)), (3, .int (iI (WSm Y n f))), (4, .int (iI d)), (5, .int (iI ((f : Int)))), (6, .int (iI (WSm Y n f))), (7, .int (iI (WNd Y n f)))]) rfl ?_
                refine k_iload hE dX6_worst_120 7 rfl ?_
                refine k_istore hE dX6_worst_122 [1, 2, 3, 4, 0, 5, 6, 7] (Nat.le_of_ble_eq_true rfl) (lo' := [(0, .ref (ad 0)), (1, .int (iI n)), (2, .int (iI x)), (3, .int (iI (WSm Y n f))), (4, .int (iI (WNd Y n f))), (5, .int (iI ((f : Int)))), (6, .int (iI (WSm Y n f))), (7, .int (iI (WNd Y n f)))]) rfl ?_
                refine k_iinc hE dX6_worst_124 5 [1, 2, 3, 4, 5, 0, 6, 7] rfl (Nat.le_of_ble_eq_true rfl) (lo' := [(0, .ref (ad 0)), (1, .int (iI n)), (2, .int (iI x)), (3, .int (iI (WSm Y n f))), (4, .int (iI (WNd Y n f))), (5, .int (iI (((f : Int)) + 1))), (6, .int (iI (WSm Y n f))), (7, .int (iI (WNd Y n f)))]) rfl ?_
                refine k_goto hE 64 dX6_worst_127 (by decide) ?_
                refine k_lo [0, 1, 2, 3, 4, 5] (lo' := [(0, .ref (ad 0)), (1, .int (iI n)), (2, .int (iI x)), (3, .int (iI (WSm Y n f))), (4, .int (iI (WNd Y n f))), (5, .int (iI (((f : Int)) + 1)))]) rfl ?_
                refine ih64 _ _ (f + 1) (by omega) (by omega) ?_ ?_
                · rw [WFo, ← eu, ← ed]
                  first
                    | rw [if_pos (Or.inr (by omega))]
                    | (rw [if_neg (by omega)]; exact eu)
                · rw [WFo, ← eu, ← ed]
                  first
                    | rw [if_pos (Or.inr (by omega))]
                    | (rw [if_neg (by omega)]; exact ed)
        exact L64 7 _ _ 1 (by omega) (by omega) (by rw [WFo_1]) (by rw [WFo_1])
      · refine k_ldc2 hE cl_X6_167 dX6_worst_26 ?_
        exact k_lret hR dX6_worst_29 rfl ⟨_, st, rfl, rfl, Or.inl ⟨by omega, rfl⟩, XS.refl st⟩
