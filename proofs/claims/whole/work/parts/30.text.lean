set_option maxHeartbeats 4000000 in
set_option maxRecDepth 100000 in
theorem c_X4_tapGoesOnWith {ad : Nat → Nat} {ta sa ca : Int → Nat} {D : va_G} {cI cT cS : ClassId} (st : Sg) (q : Int) (c : Int) (hq : 0 ≤ q ∧ q ≤ 4) (i_c : -2147483648 ≤ c ∧ c < 2147483648) : MC (xw ad ta sa ca D cI cT cS) yX4_tapGoesOnWith cX4_tapGoesOnWith 2 (some .boolean) { frames := 1, cells := 0, slots := 0, locals := 20 } [.int (iI q), .int (iI c)] st (fun rv u => ∃ z : Int, rv = some (.int (iI (z))) ∧ u = st ∧ ((z = 1 ∧ (TG q c)) ∨ (z = 0 ∧ ¬ (TG q c)))) := by
  refine MC_intro RX4 (by decide) rfl (Nat.le_of_ble_eq_true rfl) ?_
  intro G H0 m hE hR
  refine k_lo [0, 1] (lo' := [(0, .int (iI q)), (1, .int (iI c))]) rfl ?_
  refine k_iload_n hE dX4_tapGoesOnWith_0 0 rfl rfl ?_
  by_cases q1 : q < 0 ∨ 2 < q
  · refine k_tabOut hE 69 dX4_tapGoesOnWith_1 (by unfold in32; omega) q1 (by decide) ?_
    refine k_iload_n hE dX4_tapGoesOnWith_69 1 rfl rfl ?_
    refine k_callS hE (c_X4_isDigit st c (by omega)) ms_X4_isDigit ml_X4_24 rfl ⟨rfl, rfl, Nat.le_of_ble_eq_true rfl, Nat.le_of_ble_eq_true rfl⟩ [] (Nat.le_of_ble_eq_true rfl) dX4_tapGoesOnWith_70 rfl (fun rv u hp => ?_)
    obtain ⟨z1, hv70, hu70, hz_70⟩ := hp
    refine k_sk (sk' := [.int (iI z1)]) (by rw [hv70]; rfl) ?_
    refine k_st st hu70 ?_
    refine k_if_eq hE 86 dX4_tapGoesOnWith_73 (by decide) (by unfold in32; omega) (fun c73 => ?_) (fun c73 => ?_)
    · refine k_iconst hE dX4_tapGoesOnWith_86 ?_
      exact k_zret hR dX4_tapGoesOnWith_87 rfl (nar_b (by omega)) ⟨_, rfl, rfl, by unfold TG; omega⟩
    · refine k_iload_n hE dX4_tapGoesOnWith_76 1 rfl rfl ?_
      refine k_bipush hE dX4_tapGoesOnWith_77 rfl ?_
      refine k_icmp_eq hE 86 dX4_tapGoesOnWith_79 (by decide) (by unfold in32; omega) (by unfold in32; omega) (fun c79 => ?_) (fun c79 => ?_)
      · refine k_iconst hE dX4_tapGoesOnWith_86 ?_
        exact k_zret hR dX4_tapGoesOnWith_87 rfl (nar_b (by omega)) ⟨_, rfl, rfl, by unfold TG; omega⟩
      · refine k_iconst hE dX4_tapGoesOnWith_82 ?_
        refine k_goto hE 87 dX4_tapGoesOnWith_83 (by decide) ?_
        exact k_zret hR dX4_tapGoesOnWith_87 rfl (nar_b (by omega)) ⟨_, rfl, rfl, by unfold TG; omega⟩
  rcases (show q = 0 ∨ q = 1 ∨ q = 2 by omega) with s1 | s1 | s1
  · refine k_tabIn hE 28 0 dX4_tapGoesOnWith_1 s1 (by decide) (by decide) rfl (by decide) ?_
    refine k_iload_n hE dX4_tapGoesOnWith_28 1 rfl rfl ?_
    refine k_bipush hE dX4_tapGoesOnWith_29 rfl ?_
    refine k_icmp_ne hE 38 dX4_tapGoesOnWith_31 (by decide) (by unfold in32; omega) (by unfold in32; omega) (fun c31 => ?_) (fun c31 => ?_)
    · refine k_iconst hE dX4_tapGoesOnWith_38 ?_
      exact k_zret hR dX4_tapGoesOnWith_39 rfl (nar_b (by omega)) ⟨_, rfl, rfl, by unfold TG; omega⟩
    · refine k_iconst hE dX4_tapGoesOnWith_34 ?_
      refine k_goto hE 39 dX4_tapGoesOnWith_35 (by decide) ?_
      exact k_zret hR dX4_tapGoesOnWith_39 rfl (nar_b (by omega)) ⟨_, rfl, rfl, by unfold TG; omega⟩
  · refine k_tabIn hE 40 1 dX4_tapGoesOnWith_1 s1 (by decide) (by decide) rfl (by decide) ?_
    refine k_iload_n hE dX4_tapGoesOnWith_40 1 rfl rfl ?_
    refine k_bipush hE dX4_tapGoesOnWith_41 rfl ?_
    refine k_icmp_eq hE 58 dX4_tapGoesOnWith_43 (by decide) (by unfold in32; omega) (by unfold in32; omega) (fun c43 => ?_) (fun c43 => ?_)
    · refine k_iconst hE dX4_tapGoesOnWith_58 ?_
      refine k_goto hE 63 dX4_tapGoesOnWith_59 (by decide) ?_
      exact k_zret hR dX4_tapGoesOnWith_63 rfl (nar_b (by omega)) ⟨_, rfl, rfl, by unfold TG; omega⟩
    · refine k_iload_n hE dX4_tapGoesOnWith_46 1 rfl rfl ?_
      refine k_bipush hE dX4_tapGoesOnWith_47 rfl ?_
      refine k_icmp_eq hE 58 dX4_tapGoesOnWith_49 (by decide) (by unfold in32; omega) (by unfold in32; omega) (fun c49 => ?_) (fun c49 => ?_)
      · refine k_iconst hE dX4_tapGoesOnWith_58 ?_
        refine k_goto hE 63 dX4_tapGoesOnWith_59 (by decide) ?_
        exact k_zret hR dX4_tapGoesOnWith_63 rfl (nar_b (by omega)) ⟨_, rfl, rfl, by unfold TG; omega⟩
      · refine k_iload_n hE dX4_tapGoesOnWith_52 1 rfl rfl ?_
        refine k_bipush hE dX4_tapGoesOnWith_53 rfl ?_
        refine k_icmp_ne hE 62 dX4_tapGoesOnWith_55 (by decide) (by unfold in32; omega) (by unfold in32; omega) (fun c55 => ?_) (fun c55 => ?_)
        · refine k_iconst hE dX4_tapGoesOnWith_62 ?_
          exact k_zret hR dX4_tapGoesOnWith_63 rfl (nar_b (by omega)) ⟨_, rfl, rfl, by unfold TG; omega⟩
        · refine k_iconst hE dX4_tapGoesOnWith_58 ?_
          refine k_goto hE 63 dX4_tapGoesOnWith_59 (by decide) ?_
          exact k_zret hR dX4_tapGoesOnWith_63 rfl (nar_b (by omega)) ⟨_, rfl, rfl, by unfold TG; omega⟩
  · refine k_tabIn hE 64 2 dX4_tapGoesOnWith_1 s1 (by decide) (by decide) rfl (by decide) ?_
    refine k_iload_n hE dX4_tapGoesOnWith_64 1 rfl rfl ?_
    refine k_callS hE (c_X4_isDigit st c (by omega)) ms_X4_isDigit ml_X4_24 rfl ⟨rfl, rfl, Nat.le_of_ble_eq_true rfl, Nat.le_of_ble_eq_true rfl⟩ [] (Nat.le_of_ble_eq_true rfl) dX4_tapGoesOnWith_65 rfl (fun rv u hp => ?_)
    obtain ⟨z2, hv65, hu65, hz_65⟩ := hp
    refine k_sk (sk' := [.int (iI z2)]) (by rw [hv65]; rfl) ?_
    refine k_st st hu65 ?_
    exact k_zret hR dX4_tapGoesOnWith_68 rfl (nar_b (by omega)) ⟨_, rfl, rfl, by unfold TG; omega⟩

set_option maxHeartbeats 4000000 in
set_option maxRecDepth 100000 in
theorem c_X4_goesOnWith {ad : Nat → Nat} {ta sa ca : Int → Nat} {D : va_G} {cI cT cS : ClassId} (st : Sg) (p : Int) (c : Int) (hp : 0 ≤ p ∧ p < 60) (i_c : -2147483648 ≤ c ∧ c < 2147483648) : MC (xw ad ta sa ca D cI cT cS) yX4_goesOnWith cX4_goesOnWith 2 (some .boolean) { frames := 2, cells := 0, slots := 0, locals := 41 } [.int (iI p), .int (iI c)] st (fun rv u => ∃ z : Int, rv = some (.int (iI (z))) ∧ u = st ∧ ((z = 1 ∧ (GW p c)) ∨ (z = 0 ∧ ¬ (GW p c)))) := by
  refine MC_intro RX4 (by decide) rfl (Nat.le_of_ble_eq_true rfl) ?_
  intro G H0 m hE hR
  refine k_lo [0, 1] (lo' := [(0, .int (iI p)), (1, .int (iI c))]) rfl ?_
  refine k_iload_n hE dX4_goesOnWith_0 0 rfl rfl ?_
  refine k_iconst hE dX4_goesOnWith_1 ?_
  refine k_icmp_lt hE 29 dX4_goesOnWith_2 (by decide) (by unfold in32; omega) (by unfold in32; omega) (fun c2 => ?_) (fun c2 => ?_)
  · refine k_iload_n hE dX4_goesOnWith_29 0 rfl rfl ?_
    rcases (show (p ≠ 0 ∧ p ≠ 3) ∨ p = 0 ∨ p = 3 by omega) with s30 | s30 | s30
    · refine k_lookup hE 87 dX4_goesOnWith_30 (by decide) (off := 57) (by rw [iI_val (by omega) (by omega)]; simp [Op.lookupswitch.offset]; omega) (by decide) ?_
      refine k_iload_n hE dX4_goesOnWith_87 1 rfl rfl ?_
      refine k_callS hE (c_X4_isDigit st c (by omega)) ms_X4_isDigit ml_X4_24 rfl ⟨rfl, rfl, Nat.le_of_ble_eq_true rfl, Nat.le_of_ble_eq_true rfl⟩ [] (Nat.le_of_ble_eq_true rfl) dX4_goesOnWith_88 rfl (fun rv u hp => ?_)
      obtain ⟨z1, hv88, hu88, hz_88⟩ := hp
      refine k_sk (sk' := [.int (iI z1)]) (by rw [hv88]; rfl) ?_
      refine k_st st hu88 ?_
      refine k_zret hR dX4_goesOnWith_91 rfl (nar_b (by omega)) ?_
      refine ⟨_, rfl, rfl, ?_⟩
      try unfold TG at hz_17
      unfold GW
      unfold TG
      omega
    · refine k_lookup hE 56 dX4_goesOnWith_30 (by decide) (off := 26) (by rw [s30]; rfl) (by decide) ?_
      refine k_iload_n hE dX4_goesOnWith_56 1 rfl rfl ?_
      refine k_bipush hE dX4_goesOnWith_57 rfl ?_
      refine k_icmp_ne hE 66 dX4_goesOnWith_59 (by decide) (by unfold in32; omega) (by unfold in32; omega) (fun c59 => ?_) (fun c59 => ?_)
      · refine k_iconst hE dX4_goesOnWith_66 ?_
        refine k_zret hR dX4_goesOnWith_67 rfl (nar_b (by omega)) ?_
        refine ⟨_, rfl, rfl, ?_⟩
        try unfold TG at hz_17
        unfold GW
        unfold TG
        omega
      · refine k_iconst hE dX4_goesOnWith_62 ?_
        refine k_goto hE 67 dX4_goesOnWith_63 (by decide) ?_
        refine k_zret hR dX4_goesOnWith_67 rfl (nar_b (by omega)) ?_
        refine ⟨_, rfl, rfl, ?_⟩
        try unfold TG at hz_17
        unfold GW
        unfold TG
        omega
    · refine k_lookup hE 68 dX4_goesOnWith_30 (by decide) (off := 38) (by rw [s30]; rfl) (by decide) ?_
      refine k_iload_n hE dX4_goesOnWith_68 1 rfl rfl ?_
      refine k_callS hE (c_X4_isDigit st c (by omega)) ms_X4_isDigit ml_X4_24 rfl ⟨rfl, rfl, Nat.le_of_ble_eq_true rfl, Nat.le_of_ble_eq_true rfl⟩ [] (Nat.le_of_ble_eq_true rfl) dX4_goesOnWith_69 rfl (fun rv u hp => ?_)
      obtain ⟨z2, hv69, hu69, hz_69⟩ := hp
      refine k_sk (sk' := [.int (iI z2)]) (by rw [hv69]; rfl) ?_
      refine k_st st hu69 ?_
      refine k_if_eq hE 85 dX4_goesOnWith_72 (by decide) (by unfold in32; omega) (fun c72 => ?_) (fun c72 => ?_)
      · refine k_iconst hE dX4_goesOnWith_85 ?_
        refine k_zret hR dX4_goesOnWith_86 rfl (nar_b (by omega)) ?_
        refine ⟨_, rfl, rfl, ?_⟩
        try unfold TG at hz_17
        unfold GW
        unfold TG
        omega
      · refine k_iload_n hE dX4_goesOnWith_75 1 rfl rfl ?_
        refine k_bipush hE dX4_goesOnWith_76 rfl ?_
        refine k_icmp_eq hE 85 dX4_goesOnWith_78 (by decide) (by unfold in32; omega) (by unfold in32; omega) (fun c78 => ?_) (fun c78 => ?_)
        · refine k_iconst hE dX4_goesOnWith_85 ?_
          refine k_zret hR dX4_goesOnWith_86 rfl (nar_b (by omega)) ?_
          refine ⟨_, rfl, rfl, ?_⟩
          try unfold TG at hz_17
          unfold GW
          unfold TG
          omega
        · refine k_iconst hE dX4_goesOnWith_81 ?_
          refine k_goto hE 86 dX4_goesOnWith_82 (by decide) ?_
          refine k_zret hR dX4_goesOnWith_86 rfl (nar_b (by omega)) ?_
          refine ⟨_, rfl, rfl, ?_⟩
          try unfold TG at hz_17
          unfold GW
          unfold TG
          omega
  · refine k_iload_n hE dX4_goesOnWith_5 0 rfl rfl ?_
    refine k_bipush hE dX4_goesOnWith_6 rfl ?_
    refine k_icmp_ge hE 27 dX4_goesOnWith_8 (by decide) (by unfold in32; omega) (by unfold in32; omega) (fun c8 => ?_) (fun c8 => ?_)
    · refine k_iconst hE dX4_goesOnWith_27 ?_
      refine k_zret hR dX4_goesOnWith_28 rfl (nar_b (by omega)) ?_
      refine ⟨_, rfl, rfl, ?_⟩
      try unfold TG at hz_17
      unfold GW
      unfold TG
      omega
    · refine k_iload_n hE dX4_goesOnWith_11 0 rfl rfl ?_
      refine k_iconst hE dX4_goesOnWith_12 ?_
      refine k_isub hE dX4_goesOnWith_13 ?_
      refine k_iconst hE dX4_goesOnWith_14 ?_
      refine k_iremN hE dX4_goesOnWith_15 (by unfold in32; omega) (by unfold in32; omega) (by omega) (by omega) ?_
      refine k_iload_n hE dX4_goesOnWith_16 1 rfl rfl ?_
      refine k_callS hE (c_X4_tapGoesOnWith st ((p - 4) % 5) c (by omega) (by omega)) ms_X4_tapGoesOnWith ml_X4_21 rfl ⟨rfl, rfl, Nat.le_of_ble_eq_true rfl, Nat.le_of_ble_eq_true rfl⟩ [] (Nat.le_of_ble_eq_true rfl) dX4_goesOnWith_17 rfl (fun rv u hp => ?_)
      obtain ⟨z3, hv17, hu17, hz_17⟩ := hp
      refine k_sk (sk' := [.int (iI z3)]) (by rw [hv17]; rfl) ?_
      refine k_st st hu17 ?_
      refine k_if_eq hE 27 dX4_goesOnWith_20 (by decide) (by unfold in32; omega) (fun c20 => ?_) (fun c20 => ?_)
      · refine k_iconst hE dX4_goesOnWith_27 ?_
        refine k_zret hR dX4_goesOnWith_28 rfl (nar_b (by omega)) ?_
        refine ⟨_, rfl, rfl, ?_⟩
        try unfold TG at hz_17
        unfold GW
        unfold TG
        omega
      · refine k_iconst hE dX4_goesOnWith_23 ?_
        refine k_goto hE 28 dX4_goesOnWith_24 (by decide) ?_
        refine k_zret hR dX4_goesOnWith_28 rfl (nar_b (by omega)) ?_
        refine ⟨_, rfl, rfl, ?_⟩
        try unfold TG at hz_17
        unfold GW
        unfold TG
        omega

set_option maxHeartbeats 4000000 in
set_option maxRecDepth 100000 in
theorem c_X4_firstFault {ad : Nat → Nat} {ta sa ca : Int → Nat} {D : va_G} {cI cT cS : ClassId} (st : Sg) (k : Int) (i : Int) (n : Int) (h0 : 0 ≤ k) (h1 : k < 4) (hi : 0 ≤ i ∧ 0 ≤ n ∧ i + n ≤ 60) (hc : ∀ p : Int, 0 ≤ p → p < n → -2147483648 ≤ st.2 (20 + Int.toNat k) (i + p) ∧ st.2 (20 + Int.toNat k) (i + p) < 2147483648) : MC (xw ad ta sa ca D cI cT cS) yX4_firstFault cX4_firstFault 5 (some .int) { frames := 3, cells := 0, slots := 0, locals := 62 } [.ref (sa k), .int (iI i), .int (iI n)] st (fun rv u => ∃ z : Int, rv = some (.int (iI (z))) ∧ u = st ∧ (FF (fun p => st.2 (20 + Int.toNat k) (i + p)) n z) ∧ (-1 ≤ z ∧ z ≤ 60)) := by
  refine MC_intro RX4 (by decide) rfl (Nat.le_of_ble_eq_true rfl) ?_
  intro G H0 m hE hR
  refine k_lo [0, 1, 2] (lo' := [(0, .ref (sa k)), (1, .int (iI i)), (2, .int (iI n))]) rfl ?_
  refine k_iconst hE dX4_firstFault_0 ?_
  refine k_istore_n hE dX4_firstFault_1 [1, 2, 3, 0] rfl (Nat.le_of_ble_eq_true rfl) (lo' := [(0, .ref (sa k)), (1, .int (iI i)), (2, .int (iI n)), (3, .int (iI 0))]) rfl ?_
  have L2 : ∀ (fu2 : Nat) (p : Int), (0 ≤ p ∧ p ≤ n) → (n - p < fu2) → (∀ j : Int, 0 ≤ j → j < p → GW j (st.2 (20 + Int.toNat k) (i + j))) → (¬ (2 < p ∧ st.2 (20 + Int.toNat k) (i + 1) = 48 ∧ st.2 (20 + Int.toNat k) (i + 2) = 48)) → KW (xw ad ta sa ca D cI cT cS) G H0 m 5 st 2 [(0, .ref (sa k)), (1, .int (iI i)), (2, .int (iI n)), (3, .int (iI p))] [] := by
    intro fu2
    induction fu2 with
    | zero =>
      intro p q0 q1 q2 q3
      omega
    | succ fu2 ih2 =>
      intro p q0 q1 q2 q3
      refine k_iload_n hE dX4_firstFault_2 3 rfl rfl ?_
      refine k_iload_n hE dX4_firstFault_3 2 rfl rfl ?_
      refine k_icmp_ge hE 61 dX4_firstFault_4 (by decide) (by unfold in32; omega) (by unfold in32; omega) (fun c4 => ?_) (fun c4 => ?_)
      · refine k_iload_n hE dX4_firstFault_61 2 rfl rfl ?_
        refine k_iconst hE dX4_firstFault_62 ?_
        refine k_icmp_le hE 78 dX4_firstFault_63 (by decide) (by unfold in32; omega) (by unfold in32; omega) (fun c63 => ?_) (fun c63 => ?_)
        · refine k_iconst hE dX4_firstFault_78 ?_
          refine k_istore_n hE dX4_firstFault_79 [1, 2, 3, 0] rfl (Nat.le_of_ble_eq_true rfl) (lo' := [(0, .ref (sa k)), (1, .int (iI i)), (2, .int (iI n)), (3, .int (iI 0))]) rfl ?_
          refine k_iload_n hE dX4_firstFault_80 3 rfl rfl ?_
          refine k_if_eq hE 88 dX4_firstFault_81 (by decide) (by unfold in32; omega) (fun c81 => ?_) (fun c81 => ?_)
          · refine k_iload_n hE dX4_firstFault_88 2 rfl rfl ?_
            refine k_iret hR dX4_firstFault_89 rfl ?_
            have en : p = n := by omega
            rw [en] at q2 q3
            first
              | exact ⟨_, rfl, rfl, Or.inr (Or.inr (Or.inr ⟨q2, q3, by omega, by omega, rfl⟩)), by omega⟩
              | exact ⟨_, rfl, rfl, Or.inr (Or.inr (Or.inl ⟨q2, q3, by omega, rfl⟩)), by omega⟩
          · refine k_iconst hE dX4_firstFault_84 ?_
            refine k_goto hE 89 dX4_firstFault_85 (by decide) ?_
            refine k_iret hR dX4_firstFault_89 rfl ?_
            have en : p = n := by omega
            rw [en] at q2 q3
            first
              | exact ⟨_, rfl, rfl, Or.inr (Or.inr (Or.inr ⟨q2, q3, by omega, by omega, rfl⟩)), by omega⟩
              | exact ⟨_, rfl, rfl, Or.inr (Or.inr (Or.inl ⟨q2, q3, by omega, rfl⟩)), by omega⟩
        · refine k_iload_n hE dX4_firstFault_66 2 rfl rfl ?_
          refine k_iconst hE dX4_firstFault_67 ?_
          refine k_isub hE dX4_firstFault_68 ?_
          refine k_iconst hE dX4_firstFault_69 ?_
          refine k_iremN hE dX4_firstFault_70 (by unfold in32; omega) (by unfold in32; omega) (by omega) (by omega) ?_
          refine k_if_ne hE 78 dX4_firstFault_71 (by decide) (by unfold in32; omega) (fun c71 => ?_) (fun c71 => ?_)
          · refine k_iconst hE dX4_firstFault_78 ?_
            refine k_istore_n hE dX4_firstFault_79 [1, 2, 3, 0] rfl (Nat.le_of_ble_eq_true rfl) (lo' := [(0, .ref (sa k)), (1, .int (iI i)), (2, .int (iI n)), (3, .int (iI 0))]) rfl ?_
            refine k_iload_n hE dX4_firstFault_80 3 rfl rfl ?_
            refine k_if_eq hE 88 dX4_firstFault_81 (by decide) (by unfold in32; omega) (fun c81 => ?_) (fun c81 => ?_)
            · refine k_iload_n hE dX4_firstFault_88 2 rfl rfl ?_
              refine k_iret hR dX4_firstFault_89 rfl ?_
              have en : p = n := by omega
              rw [en] at q2 q3
              first
                | exact ⟨_, rfl, rfl, Or.inr (Or.inr (Or.inr ⟨q2, q3, by omega, by omega, rfl⟩)), by omega⟩
                | exact ⟨_, rfl, rfl, Or.inr (Or.inr (Or.inl ⟨q2, q3, by omega, rfl⟩)), by omega⟩
            · refine k_iconst hE dX4_firstFault_84 ?_
              refine k_goto hE 89 dX4_firstFault_85 (by decide) ?_
              refine k_iret hR dX4_firstFault_89 rfl ?_
              have en : p = n := by omega
              rw [en] at q2 q3
              first
                | exact ⟨_, rfl, rfl, Or.inr (Or.inr (Or.inr ⟨q2, q3, by omega, by omega, rfl⟩)), by omega⟩
                | exact ⟨_, rfl, rfl, Or.inr (Or.inr (Or.inl ⟨q2, q3, by omega, rfl⟩)), by omega⟩
          · refine k_iconst hE dX4_firstFault_74 ?_
            refine k_goto hE 79 dX4_firstFault_75 (by decide) ?_
            refine k_istore_n hE dX4_firstFault_79 [1, 2, 3, 0] rfl (Nat.le_of_ble_eq_true rfl) (lo' := [(0, .ref (sa k)), (1, .int (iI i)), (2, .int (iI n)), (3, .int (iI 1))]) rfl ?_
            refine k_iload_n hE dX4_firstFault_80 3 rfl rfl ?_
            refine k_if_eq hE 88 dX4_firstFault_81 (by decide) (by unfold in32; omega) (fun c81 => ?_) (fun c81 => ?_)
            · refine k_iload_n hE dX4_firstFault_88 2 rfl rfl ?_
              refine k_iret hR dX4_firstFault_89 rfl ?_
              have en : p = n := by omega
              rw [en] at q2 q3
              first
                | exact ⟨_, rfl, rfl, Or.inr (Or.inr (Or.inr ⟨q2, q3, by omega, by omega, rfl⟩)), by omega⟩
                | exact ⟨_, rfl, rfl, Or.inr (Or.inr (Or.inl ⟨q2, q3, by omega, rfl⟩)), by omega⟩
            · refine k_iconst hE dX4_firstFault_84 ?_
              refine k_goto hE 89 dX4_firstFault_85 (by decide) ?_
              refine k_iret hR dX4_firstFault_89 rfl ?_
              have en : p = n := by omega
              rw [en] at q2 q3
              first
                | exact ⟨_, rfl, rfl, Or.inr (Or.inr (Or.inr ⟨q2, q3, by omega, by omega, rfl⟩)), by omega⟩
                | exact ⟨_, rfl, rfl, Or.inr (Or.inr (Or.inl ⟨q2, q3, by omega, rfl⟩)), by omega⟩
      · have hcp := hc p (by omega) (by omega)
        have e2 : p = 2 → st.2 (20 + Int.toNat k) (i + p) = st.2 (20 + Int.toNat k) (i + 2) := fun h5 => by rw [h5]
        refine k_aload_n hE dX4_firstFault_7 0 rfl rfl ?_
        refine x_get_X2_cells hE (by omega) (by omega) fl_X4_9 dX4_firstFault_8 ?_
        refine k_iload_n hE dX4_firstFault_11 1 rfl rfl ?_
        refine k_iload_n hE dX4_firstFault_12 3 rfl rfl ?_
        refine k_iadd hE dX4_firstFault_13 ?_
        refine x_ld_cells hE (f := k) (z := st.2 ((20 + Int.toNat k)) (i + p)) (by omega) (by omega) (by omega) (by omega) rfl dX4_firstFault_14 ?_
        refine k_istore hE dX4_firstFault_15 [1, 2, 3, 4, 0] (Nat.le_of_ble_eq_true rfl) (lo' := [(0, .ref (sa k)), (1, .int (iI i)), (2, .int (iI n)), (3, .int (iI p)), (4, .int (iI (st.2 ((20 + Int.toNat k)) (i + p))))]) rfl ?_
        refine k_iload_n hE dX4_firstFault_17 3 rfl rfl ?_
        refine k_iload hE dX4_firstFault_18 4 rfl ?_
        refine k_callS hE (c_X4_goesOnWith st p (st.2 ((20 + Int.toNat k)) (i + p)) (by omega) (by omega)) ms_X4_goesOnWith ml_X4_15 rfl ⟨rfl, rfl, Nat.le_of_ble_eq_true rfl, Nat.le_of_ble_eq_true rfl⟩ [] (Nat.le_of_ble_eq_true rfl) dX4_firstFault_20 rfl (fun rv u hp => ?_)
        obtain ⟨z1, hv20, hu20, hz_20⟩ := hp
        refine k_sk (sk' := [.int (iI z1)]) (by rw [hv20]; rfl) ?_
        refine k_st st hu20 ?_
        refine k_if_ne hE 28 dX4_firstFault_23 (by decide) (by unfold in32; omega) (fun c23 => ?_) (fun c23 => ?_)
        · refine k_iload_n hE dX4_firstFault_28 3 rfl rfl ?_
          refine k_iconst hE dX4_firstFault_29 ?_
          refine k_icmp_ne hE 55 dX4_firstFault_30 (by decide) (by unfold in32; omega) (by unfold in32; omega) (fun c30 => ?_) (fun c30 => ?_)
          · refine k_iinc hE dX4_firstFault_55 3 [1, 2, 3, 0, 4] rfl (Nat.le_of_ble_eq_true rfl) (lo' := [(0, .ref (sa k)), (1, .int (iI i)), (2, .int (iI n)), (3, .int (iI (p + 1))), (4, .int (iI (st.2 ((20 + Int.toNat k)) (i + p))))]) rfl ?_
            refine k_goto hE 2 dX4_firstFault_58 (by decide) ?_
            refine k_lo [0, 1, 2, 3] (lo' := [(0, .ref (sa k)), (1, .int (iI i)), (2, .int (iI n)), (3, .int (iI (p + 1)))]) rfl ?_
            exact ih2 _ (by omega) (by omega) (fun j j0 j1 => by
              by_cases e : j = p
              · rw [e]
                rcases hz_20 with h5 | h5
                · exact h5.2
                · omega
              · exact q2 j j0 (by omega)) (by omega)
          · refine k_iload hE dX4_firstFault_33 4 rfl ?_
            refine k_bipush hE dX4_firstFault_35 rfl ?_
            refine k_icmp_ne hE 55 dX4_firstFault_37 (by decide) (by unfold in32; omega) (by unfold in32; omega) (fun c37 => ?_) (fun c37 => ?_)
            · refine k_iinc hE dX4_firstFault_55 3 [1, 2, 3, 0, 4] rfl (Nat.le_of_ble_eq_true rfl) (lo' := [(0, .ref (sa k)), (1, .int (iI i)), (2, .int (iI n)), (3, .int (iI (p + 1))), (4, .int (iI (st.2 ((20 + Int.toNat k)) (i + p))))]) rfl ?_
              refine k_goto hE 2 dX4_firstFault_58 (by decide) ?_
              refine k_lo [0, 1, 2, 3] (lo' := [(0, .ref (sa k)), (1, .int (iI i)), (2, .int (iI n)), (3, .int (iI (p + 1)))]) rfl ?_
              exact ih2 _ (by omega) (by omega) (fun j j0 j1 => by
                by_cases e : j = p
                · rw [e]
                  rcases hz_20 with h5 | h5
                  · exact h5.2
                  · omega
                · exact q2 j j0 (by omega)) (by omega)
            · have hc1 := hc 1 (by omega) (by omega)
              refine k_aload_n hE dX4_firstFault_40 0 rfl rfl ?_
              refine x_get_X2_cells hE (by omega) (by omega) fl_X4_9 dX4_firstFault_41 ?_
              refine k_iload_n hE dX4_firstFault_44 1 rfl rfl ?_
              refine k_iconst hE dX4_firstFault_45 ?_
              refine k_iadd hE dX4_firstFault_46 ?_
              refine x_ld_cells hE (f := k) (z := st.2 ((20 + Int.toNat k)) (i + 1)) (by omega) (by omega) (by omega) (by omega) rfl dX4_firstFault_47 ?_
              refine k_bipush hE dX4_firstFault_48 rfl ?_
              refine k_icmp_ne hE 55 dX4_firstFault_50 (by decide) (by unfold in32; omega) (by unfold in32; omega) (fun c50 => ?_) (fun c50 => ?_)
              · refine k_iinc hE dX4_firstFault_55 3 [1, 2, 3, 0, 4] rfl (Nat.le_of_ble_eq_true rfl) (lo' := [(0, .ref (sa k)), (1, .int (iI i)), (2, .int (iI n)), (3, .int (iI (p + 1))), (4, .int (iI (st.2 ((20 + Int.toNat k)) (i + p))))]) rfl ?_
                refine k_goto hE 2 dX4_firstFault_58 (by decide) ?_
                refine k_lo [0, 1, 2, 3] (lo' := [(0, .ref (sa k)), (1, .int (iI i)), (2, .int (iI n)), (3, .int (iI (p + 1)))]) rfl ?_
                exact ih2 _ (by omega) (by omega) (fun j j0 j1 => by
                  by_cases e : j = p
                  · rw [e]
                    rcases hz_20 with h5 | h5
                    · exact h5.2
                    · omega
                  · exact q2 j j0 (by omega)) (by omega)
              · refine k_iconst hE dX4_firstFault_53 ?_
                refine k_iret hR dX4_firstFault_54 rfl ?_
                refine ⟨1, rfl, rfl, Or.inr (Or.inl ⟨by omega, fun j j0 j1 => ?_, (show st.2 (20 + Int.toNat k) (i + 1) = 48 by omega), (show st.2 (20 + Int.toNat k) (i + 2) = 48 by omega), rfl⟩), by omega⟩
                by_cases e : j = p
                · rw [e]
                  rcases hz_20 with h5 | h5
                  · exact h5.2
                  · omega
                · exact q2 j j0 (by omega)
        · refine k_iload_n hE dX4_firstFault_26 3 rfl rfl ?_
          refine k_iret hR dX4_firstFault_27 rfl ?_
          refine ⟨p, rfl, rfl, Or.inl ⟨p, by omega, by omega, q2, ?_, q3, rfl⟩, by omega⟩
          rcases hz_20 with h5 | h5
          · omega
          · exact h5.2
  exact L2 61 0 (by omega) (by omega) (fun j j0 j1 => by omega) (by omega)

set_option maxHeartbeats 4000000 in
set_option maxRecDepth 100000 in
theorem c_X5_readFrom {ad : Nat → Nat} {ta sa ca : Int → Nat} {D : va_G} {cI cT cS : ClassId} (st : Sg) (k : Int) (i : Int) (n : Int) (h0 : 0 ≤ k) (h1 : k < 4) (hi : 0 ≤ i ∧ 4 < n ∧ i + n ≤ 60 ∧ n ≤ 34) (h5 : (n - 4) % 5 = 0) (hc : ∀ p : Int, 0 ≤ p → p < n → -2147483648 ≤ st.2 (20 + Int.toNat k) (i + p) ∧ st.2 (20 + Int.toNat k) (i + p) < 2147483648) : MC (xw ad ta sa ca D cI cT cS) yX5_readFrom cX5_readFrom 6 none { frames := 1, cells := 0, slots := 0, locals := 21 } [.ref (ad 1), .ref (sa k), .int (iI i), .int (iI n)] st (fun rv u => ∃ S : Sg, rv = none ∧ u = S ∧ (S.1 = uv (uv (uv (uv (uv (uv (uv st.1 1 (10 * (st.2 (20 + Int.toNat k) (i + 1) - 48) + (st.2 (20 + Int.toNat k) (i + 2) - 48))) 2 (st.2 (20 + Int.toNat k) (i + 3) - 48)) 0 ((n - 4) / 5)) 3 0) 4 0) 5 0) 6 0) ∧ (∀ a, 4 < a → S.2 a = st.2 a) ∧ (S.2 0 = fillr (st.2 0) ((n - 4) / 5) (fun f => KDc (st.2 (20 + Int.toNat k) (i + 4 + f * 5 + 1)))) ∧ (S.2 1 = fillr (st.2 1) ((n - 4) / 5) (fun f => st.2 (20 + Int.toNat k) (i + 4 + f * 5 + 2) - 48)) ∧ (S.2 2 = fillr (st.2 2) ((n - 4) / 5) (fun f => st.2 (20 + Int.toNat k) (i + 4 + f * 5 + 3) - 48)) ∧ (S.2 3 = fillr (st.2 3) ((n - 4) / 5) (fun f => st.2 (20 + Int.toNat k) (i + 4 + f * 5 + 4) - 48)) ∧ (S.2 4 = fillr (st.2 4) 10 (fun _ => 0))) := by
  refine MC_intro RX5 (by decide) rfl (Nat.le_of_ble_eq_true rfl) ?_
  intro G H0 m hE hR
  refine k_lo [0, 1, 2, 3] (lo' := [(0, .ref (ad 1)), (1, .ref (sa k)), (2, .int (iI i)), (3, .int (iI n))]) rfl ?_
  refine k_aload_n hE dX5_readFrom_0 0 rfl rfl ?_
  refine k_bipush hE dX5_readFrom_1 rfl ?_
  refine k_aload_n hE dX5_readFrom_3 1 rfl rfl ?_
  refine k_iload_n hE dX5_readFrom_4 2 rfl rfl ?_
  refine k_iconst hE dX5_readFrom_5 ?_
  refine k_iadd hE dX5_readFrom_6 ?_
  refine k_callS hE (c_X4_digitAt st k (i + 1) (by omega) (by omega) (by omega)) ms_X4_digitAt ml_X5_22 rfl ⟨rfl, rfl, Nat.le_of_ble_eq_true rfl, Nat.le_of_ble_eq_true rfl⟩ [.int (iI 10), .ref (ad 1)] (Nat.le_of_ble_eq_true rfl) dX5_readFrom_7 rfl (fun rv u hp => ?_)
  obtain ⟨hv7, hu7⟩ := hp
  refine k_sk (sk' := [.int (iI (st.2 (20 + Int.toNat k) (i + 1) - 48)), .int (iI 10), .ref (ad 1)]) (by rw [hv7]; rfl) ?_
  refine k_st st hu7 ?_
  refine k_sk (sk' := [.int (iI (st.2 (20 + Int.toNat k) (i + 1) - 48)), .int (iI 10), .ref (ad 1)]) (congrArg (fun zz : Int => ([.int (iI zz), .int (iI 10), .ref (ad 1)] : List Value)) (show (st.2 (20 + Int.toNat k) (i + 1) - 48) = (st.2 (20 + Int.toNat k) (i + 1) - 48) from rfl)) ?_
  refine k_imul hE dX5_readFrom_10 ?_
  refine k_aload_n hE dX5_readFrom_11 1 rfl rfl ?_
  refine k_iload_n hE dX5_readFrom_12 2 rfl rfl ?_
  refine k_iconst hE dX5_readFrom_13 ?_
  refine k_iadd hE dX5_readFrom_14 ?_
  refine k_callS hE (c_X4_digitAt st k (i + 2) (by omega) (by omega) (by omega)) ms_X4_digitAt ml_X5_22 rfl ⟨rfl, rfl, Nat.le_of_ble_eq_true rfl, Nat.le_of_ble_eq_true rfl⟩ [.int (iI (10 * (st.2 (20 + Int.toNat k) (i + 1) - 48))), .ref (ad 1)] (Nat.le_of_ble_eq_true rfl) dX5_readFrom_15 rfl (fun rv u hp => ?_)
  obtain ⟨hv15, hu15⟩ := hp
  refine k_sk (sk' := [.int (iI (st.2 (20 + Int.toNat k) (i + 2) - 48)), .int (iI (10 * (st.2 (20 + Int.toNat k) (i + 1) - 48))), .ref (ad 1)]) (by rw [hv15]; rfl) ?_
  refine k_st st hu15 ?_
  refine k_sk (sk' := [.int (iI (st.2 (20 + Int.toNat k) (i + 2) - 48)), .int (iI (10 * (st.2 (20 + Int.toNat k) (i + 1) - 48))), .ref (ad 1)]) (congrArg (fun zz : Int => ([.int (iI zz), .int (iI (10 * (st.2 (20 + Int.toNat k) (i + 1) - 48))), .ref (ad 1)] : List Value)) (show (st.2 (20 + Int.toNat k) (i + 2) - 48) = (st.2 (20 + Int.toNat k) (i + 2) - 48) from rfl)) ?_
  refine k_iadd hE dX5_readFrom_18 ?_
  refine x_put_X5_cap hE fl_X5_28 dX5_readFrom_19 ?_
  refine k_st ((uv st.1 1 ((10 * (st.2 (20 + Int.toNat k) (i + 1) - 48)) + (st.2 (20 + Int.toNat k) (i + 2) - 48)), st.2)) rfl ?_
  refine k_aload_n hE dX5_readFrom_22 0 rfl rfl ?_
  refine k_aload_n hE dX5_readFrom_23 1 rfl rfl ?_
  refine k_iload_n hE dX5_readFrom_24 2 rfl rfl ?_
  refine k_iconst hE dX5_readFrom_25 ?_
  refine k_iadd hE dX5_readFrom_26 ?_
  refine k_callS hE (c_X4_digitAt ((uv st.1 1 ((10 * (st.2 (20 + Int.toNat k) (i + 1) - 48)) + (st.2 (20 + Int.toNat k) (i + 2) - 48)), st.2)) k (i + 3) (by omega) (by omega) (by omega)) ms_X4_digitAt ml_X5_22 rfl ⟨rfl, rfl, Nat.le_of_ble_eq_true rfl, Nat.le_of_ble_eq_true rfl⟩ [.ref (ad 1)] (Nat.le_of_ble_eq_true rfl) dX5_readFrom_27 rfl (fun rv u hp => ?_)
  obtain ⟨hv27, hu27⟩ := hp
  refine k_sk (sk' := [.int (iI (st.2 (20 + Int.toNat k) (i + 3) - 48)), .ref (ad 1)]) (by rw [hv27]; rfl) ?_
  refine k_st ((uv st.1 1 ((10 * (st.2 (20 + Int.toNat k) (i + 1) - 48)) + (st.2 (20 + Int.toNat k) (i + 2) - 48)), st.2)) hu27 ?_
  refine k_sk (sk' := [.int (iI (st.2 (20 + Int.toNat k) (i + 3) - 48)), .ref (ad 1)]) (congrArg (fun zz : Int => ([.int (iI zz), .ref (ad 1)] : List Value)) (show (st.2 (20 + Int.toNat k) (i + 3) - 48) = (st.2 (20 + Int.toNat k) (i + 3) - 48) from rfl)) ?_
  refine x_put_X5_per hE fl_X5_32 dX5_readFrom_30 ?_
  refine k_st ((uv (uv st.1 1 ((10 * (st.2 (20 + Int.toNat k) (i + 1) - 48)) + (st.2 (20 + Int.toNat k) (i + 2) - 48))) 2 (st.2 (20 + Int.toNat k) (i + 3) - 48), st.2)) rfl ?_
  refine k_aload_n hE dX5_readFrom_33 0 rfl rfl ?_
  refine k_iload_n hE dX5_readFrom_34 3 rfl rfl ?_
  refine k_iconst hE dX5_readFrom_35 ?_
  refine k_isub hE dX5_readFrom_36 ?_
  refine k_iconst hE dX5_readFrom_37 ?_
  refine k_idivN hE dX5_readFrom_38 (by unfold in32; omega) (by unfold in32; omega) (by omega) (by omega) ?_
  refine k_bipush hE dX5_readFrom_39 rfl ?_
  refine k_min hE ml_X5_35 dX5_readFrom_41 (by unfold in32; omega) (by unfold in32; omega) (Nat.le_of_ble_eq_true rfl) (Nat.le_of_ble_eq_true rfl) ?_
  refine k_sk (sk' := [.int (iI ((n - 4) / 5)), .ref (ad 1)]) (congrArg (fun zz : Int => ([.int (iI zz), .ref (ad 1)] : List Value)) (show (min ((n - 4) / 5) 6) = ((n - 4) / 5) from (by omega))) ?_
  refine x_put_X5_tapCount hE fl_X5_41 dX5_readFrom_44 ?_
  refine k_st ((uv (uv (uv st.1 1 ((10 * (st.2 (20 + Int.toNat k) (i + 1) - 48)) + (st.2 (20 + Int.toNat k) (i + 2) - 48))) 2 (st.2 (20 + Int.toNat k) (i + 3) - 48)) 0 ((n - 4) / 5), st.2)) rfl ?_
  refine k_iconst hE dX5_readFrom_47 ?_
  refine k_istore hE dX5_readFrom_48 [1, 2, 3, 4, 0] (Nat.le_of_ble_eq_true rfl) (lo' := [(0, .ref (ad 1)), (1, .ref (sa k)), (2, .int (iI i)), (3, .int (iI n)), (4, .int (iI 0))]) rfl ?_
  have L50 : ∀ (fu50 : Nat) (S : Sg) (f : Int), (0 ≤ f ∧ f ≤ (n - 4) / 5) → ((n - 4) / 5 - f < fu50) → (S.1 = uv (uv (uv st.1 1 (10 * (st.2 (20 + Int.toNat k) (i + 1) - 48) + (st.2 (20 + Int.toNat k) (i + 2) - 48))) 2 (st.2 (20 + Int.toNat k) (i + 3) - 48)) 0 ((n - 4) / 5)) → (∀ a, 3 < a → S.2 a = st.2 a) → (S.2 0 = fillr (st.2 0) f (fun f => KDc (st.2 (20 + Int.toNat k) (i + 4 + f * 5 + 1)))) → (S.2 1 = fillr (st.2 1) f (fun f => st.2 (20 + Int.toNat k) (i + 4 + f * 5 + 2) - 48)) → (S.2 2 = fillr (st.2 2) f (fun f => st.2 (20 + Int.toNat k) (i + 4 + f * 5 + 3) - 48)) → (S.2 3 = fillr (st.2 3) f (fun f => st.2 (20 + Int.toNat k) (i + 4 + f * 5 + 4) - 48)) → KW (xw ad ta sa ca D cI cT cS) G H0 m 6 S 50 [(0, .ref (ad 1)), (1, .ref (sa k)), (2, .int (iI i)), (3, .int (iI n)), (4, .int (iI f))] [] := by
    intro fu50
    induction fu50 with
    | zero =>
      intro S f q0 q1 e1 e2 f0 f1 f2 f3
      omega
    | succ fu50 ih50 =>
      intro S f q0 q1 e1 e2 f0 f1 f2 f3
      have hcS : S.2 (20 + Int.toNat k) = st.2 (20 + Int.toNat k) := e2 _ (by omega)
      refine k_iload hE dX5_readFrom_50 4 rfl ?_
      refine k_aload_n hE dX5_readFrom_52 0 rfl rfl ?_
      refine x_get_X5_tapCount hE (z := (n - 4) / 5) (by rw [e1]; rfl) fl_X5_41 dX5_readFrom_53 ?_
      refine k_icmp_ge hE 151 dX5_readFrom_56 (by decide) (by unfold in32; omega) (by unfold in32; omega) (fun c56 => ?_) (fun c56 => ?_)
      · have ef : f = (n - 4) / 5 := by omega
        rw [ef] at f0 f1 f2 f3
        refine k_aload_n hE dX5_readFrom_151 0 rfl rfl ?_
        refine k_iconst hE dX5_readFrom_152 ?_
        refine x_put_X5_firstWater hE fl_X5_65 dX5_readFrom_153 ?_
        refine k_st ((uv S.1 3 0, S.2)) rfl ?_
        refine k_aload_n hE dX5_readFrom_156 0 rfl rfl ?_
        refine k_iconst hE dX5_readFrom_157 ?_
        refine x_put_X5_rule hE fl_X5_68 dX5_readFrom_158 ?_
        refine k_st ((uv (uv S.1 3 0) 4 0, S.2)) rfl ?_
        refine k_aload_n hE dX5_readFrom_161 0 rfl rfl ?_
        refine k_iconst hE dX5_readFrom_162 ?_
        refine x_put_X5_leakHeight hE fl_X5_71 dX5_readFrom_163 ?_
        refine k_st ((uv (uv (uv S.1 3 0) 4 0) 5 0, S.2)) rfl ?_
        refine k_aload_n hE dX5_readFrom_166 0 rfl rfl ?_
        refine k_iconst hE dX5_readFrom_167 ?_
        refine x_put_X5_leakPails hE fl_X5_74 dX5_readFrom_168 ?_
        refine k_st ((uv (uv (uv (uv S.1 3 0) 4 0) 5 0) 6 0, S.2)) rfl ?_
        refine k_iconst hE dX5_readFrom_171 ?_
        refine k_istore hE dX5_readFrom_172 [1, 2, 3, 4, 0] (Nat.le_of_ble_eq_true rfl) (lo' := [(0, .ref (ad 1)), (1, .ref (sa k)), (2, .int (iI i)), (3, .int (iI n)), (4, .int (iI 0))]) rfl ?_
        have L174 : ∀ (fu174 : Nat) (S2 : Sg) (j : Int), (0 ≤ j ∧ j ≤ 10) → (10 - j < fu174) → (S2.1 = uv (uv (uv (uv (uv (uv (uv st.1 1 (10 * (st.2 (20 + Int.toNat k) (i + 1) - 48) + (st.2 (20 + Int.toNat k) (i + 2) - 48))) 2 (st.2 (20 + Int.toNat k) (i + 3) - 48)) 0 ((n - 4) / 5)) 3 0) 4 0) 5 0) 6 0) → (∀ a, 4 < a → S2.2 a = st.2 a) → (S2.2 0 = S.2 0) → (S2.2 1 = S.2 1) → (S2.2 2 = S.2 2) → (S2.2 3 = S.2 3) → (S2.2 4 = fillr (st.2 4) j (fun _ => 0)) → KW (xw ad ta sa ca D cI cT cS) G H0 m 6 S2 174 [(0, .ref (ad 1)), (1, .ref (sa k)), (2, .int (iI i)), (3, .int (iI n)), (4, .int (iI j))] [] := by
          intro fu174
          induction fu174 with
          | zero =>
            intro S2 j p0 p1 g1 g2 m0 m1 m2 m3 g4
            omega
          | succ fu174 ih174 =>
            intro S2 j p0 p1 g1 g2 m0 m1 m2 m3 g4
            refine k_iload hE dX5_readFrom_174 4 rfl ?_
            refine k_bipush hE dX5_readFrom_176 rfl ?_
            refine k_icmp_ge hE 195 dX5_readFrom_178 (by decide) (by unfold in32; omega) (by unfold in32; omega) (fun c178 => ?_) (fun c178 => ?_)
            · refine k_vret hR dX5_readFrom_195 rfl ?_
              have ej : j = 10 := by omega
              rw [ej] at g4
              exact ⟨S2, rfl, rfl, g1, g2, m0.trans f0, m1.trans f1, m2.trans f2, m3.trans f3, g4⟩
            · refine k_aload_n hE dX5_readFrom_181 0 rfl rfl ?_
              refine x_get_X5_rainOn hE fl_X5_17 dX5_readFrom_182 ?_
              refine k_iload hE dX5_readFrom_185 4 rfl ?_
              refine k_iconst hE dX5_readFrom_187 ?_
              refine x_st_rainOn hE (by omega) (by omega) dX5_readFrom_188 ?_
              refine k_st ((S2.1, ur S2.2 4 j 0)) rfl ?_
              refine k_iinc hE dX5_readFrom_189 4 [1, 2, 3, 4, 0] rfl (Nat.le_of_ble_eq_true rfl) (lo' := [(0, .ref (ad 1)), (1, .ref (sa k)), (2, .int (iI i)), (3, .int (iI n)), (4, .int (iI (j + 1)))]) rfl ?_
              refine k_goto hE 174 dX5_readFrom_192 (by decide) ?_
              exact ih174 ((S2.1, ur S2.2 4 j 0)) _ (by omega) (by omega) g1 (fun a ha => by show ur S2.2 4 _ _ a = _; rw [ur_n _ _ _ (by omega)]; exact g2 a ha) m0 m1 m2 m3 (ur_fill (r := S2.2) (a := 4) g4 p0.1 rfl)
        exact L174 11 ((uv (uv (uv (uv S.1 3 0) 4 0) 5 0) 6 0, S.2)) 0 (by omega) (by omega) (by show uv (uv (uv (uv S.1 3 0) 4 0) 5 0) 6 0 = _; rw [e1]) (fun a ha => e2 a (by omega)) rfl rfl rfl rfl (by rw [fillr_0]; exact e2 4 (by decide))
      · refine k_iload_n hE dX5_readFrom_59 2 rfl rfl ?_
        refine k_iconst hE dX5_readFrom_60 ?_
        refine k_iadd hE dX5_readFrom_61 ?_
        refine k_iload hE dX5_readFrom_62 4 rfl ?_
        refine k_iconst hE dX5_readFrom_64 ?_
        refine k_imul hE dX5_readFrom_65 ?_
        refine k_iadd hE dX5_readFrom_66 ?_
        refine k_istore hE dX5_readFrom_67 [1, 2, 3, 4, 5, 0] (Nat.le_of_ble_eq_true rfl) (lo' := [(0, .ref (ad 1)), (1, .ref (sa k)), (2, .int (iI i)), (3, .int (iI n)), (4, .int (iI f)), (5, .int (iI ((i + 4) + (f * 5))))]) rfl ?_
        refine k_aload_n hE dX5_readFrom_69 0 rfl rfl ?_
        refine x_get_X5_taps hE fl_X5_11 dX5_readFrom_70 ?_
        refine k_iload hE dX5_readFrom_73 4 rfl ?_
        refine x_ld_taps hE (i := f) (by omega) (by omega) dX5_readFrom_75 ?_
        refine k_aload_n hE dX5_readFrom_76 1 rfl rfl ?_
        refine x_get_X2_cells hE (by omega) (by omega) fl_X5_44 dX5_readFrom_77 ?_
        have hcp := hc (4 + f * 5 + 1) (by omega) (by omega)
        rw [show i + (4 + f * 5 + 1) = i + 4 + f * 5 + 1 by omega] at hcp
        refine k_iload hE dX5_readFrom_80 5 rfl ?_
        refine k_iconst hE dX5_readFrom_82 ?_
        refine k_iadd hE dX5_readFrom_83 ?_
        refine x_ld_cells hE (f := k) (z := st.2 (20 + Int.toNat k) (i + 4 + f * 5 + 1)) (by omega) (by omega) (by omega) (by omega) (by rw [hcS]) dX5_readFrom_84 ?_
        refine k_callS hE (c_X4_kindOf S (st.2 (20 + Int.toNat k) (i + 4 + f * 5 + 1)) (by omega)) ms_X4_kindOf ml_X5_49 rfl ⟨rfl, rfl, Nat.le_of_ble_eq_true rfl, Nat.le_of_ble_eq_true rfl⟩ [.ref (ta f)] (Nat.le_of_ble_eq_true rfl) dX5_readFrom_85 rfl (fun rv u hp => ?_)
        obtain ⟨hv85, hu85⟩ := hp
        refine k_sk (sk' := [.int (iI (if (st.2 (20 + Int.toNat k) (i + 4 + f * 5 + 1)) = 111 then 2 else if (st.2 (20 + Int.toNat k) (i + 4 + f * 5 + 1)) = 103 then 1 else 0)), .ref (ta f)]) (by rw [hv85]; rfl) ?_
        refine k_st S hu85 ?_
        refine k_sk (sk' := [.int (iI (KDc (st.2 (20 + Int.toNat k) (i + 4 + f * 5 + 1)))), .ref (ta f)]) (congrArg (fun zz : Int => ([.int (iI zz), .ref (ta f)] : List Value)) (show (if (st.2 (20 + Int.toNat k) (i + 4 + f * 5 + 1)) = 111 then 2 else if (st.2 (20 + Int.toNat k) (i + 4 + f * 5 + 1)) = 103 then 1 else 0) = (KDc (st.2 (20 + Int.toNat k) (i + 4 + f * 5 + 1))) from rfl)) ?_
        refine x_put_X3_kind hE (by omega) (by omega) fl_X5_53 dX5_readFrom_88 ?_
        refine k_st ((S.1, ur S.2 0 f (KDc (st.2 (20 + Int.toNat k) (i + 4 + f * 5 + 1))))) rfl ?_
        refine k_aload_n hE dX5_readFrom_91 0 rfl rfl ?_
        refine x_get_X5_taps hE fl_X5_11 dX5_readFrom_92 ?_
        refine k_iload hE dX5_readFrom_95 4 rfl ?_
        refine x_ld_taps hE (i := f) (by omega) (by omega) dX5_readFrom_97 ?_
        refine k_aload_n hE dX5_readFrom_98 1 rfl rfl ?_
        refine k_iload hE dX5_readFrom_99 5 rfl ?_
        refine k_iconst hE dX5_readFrom_101 ?_
        refine k_iadd hE dX5_readFrom_102 ?_
        refine k_callS hE (c_X4_digitAt ((S.1, ur S.2 0 f (KDc (st.2 (20 + Int.toNat k) (i + 4 + f * 5 + 1))))) k (((i + 4) + (f * 5)) + 2) (by omega) (by omega) (by omega)) ms_X4_digitAt ml_X5_22 rfl ⟨rfl, rfl, Nat.le_of_ble_eq_true rfl, Nat.le_of_ble_eq_true rfl⟩ [.ref (ta f)] (Nat.le_of_ble_eq_true rfl) dX5_readFrom_103 rfl (fun rv u hp => ?_)
        obtain ⟨hv103, hu103⟩ := hp
        refine k_sk (sk' := [.int (iI ((ur S.2 0 f (KDc (st.2 (20 + Int.toNat k) (i + 4 + f * 5 + 1)))) (20 + Int.toNat k) (((i + 4) + (f * 5)) + 2) - 48)), .ref (ta f)]) (by rw [hv103]; rfl) ?_
        refine k_st ((S.1, ur S.2 0 f (KDc (st.2 (20 + Int.toNat k) (i + 4 + f * 5 + 1))))) hu103 ?_
        refine k_sk (sk' := [.int (iI (st.2 (20 + Int.toNat k) (i + 4 + f * 5 + 2) - 48)), .ref (ta f)]) (congrArg (fun zz : Int => ([.int (iI zz), .ref (ta f)] : List Value)) (show ((ur S.2 0 f (KDc (st.2 (20 + Int.toNat k) (i + 4 + f * 5 + 1)))) (20 + Int.toNat k) (((i + 4) + (f * 5)) + 2) - 48) = (st.2 (20 + Int.toNat k) (i + 4 + f * 5 + 2) - 48) from (by (try dsimp only); (repeat rw [ur_n _ _ _ (by omega)]); rw [hcS]))) ?_
        refine x_put_X3_height hE (by omega) (by omega) fl_X5_56 dX5_readFrom_106 ?_
        refine k_st ((S.1, ur (ur S.2 0 f (KDc (st.2 (20 + Int.toNat k) (i + 4 + f * 5 + 1)))) 1 f (st.2 (20 + Int.toNat k) (i + 4 + f * 5 + 2) - 48))) rfl ?_
        refine k_aload_n hE dX5_readFrom_109 0 rfl rfl ?_
        refine x_get_X5_taps hE fl_X5_11 dX5_readFrom_110 ?_
        refine k_iload hE dX5_readFrom_113 4 rfl ?_
        refine x_ld_taps hE (i := f) (by omega) (by omega) dX5_readFrom_115 ?_
        refine k_aload_n hE dX5_readFrom_116 1 rfl rfl ?_
        refine k_iload hE dX5_readFrom_117 5 rfl ?_
        refine k_iconst hE dX5_readFrom_119 ?_
        refine k_iadd hE dX5_readFrom_120 ?_
        refine k_callS hE (c_X4_digitAt ((S.1, ur (ur S.2 0 f (KDc (st.2 (20 + Int.toNat k) (i + 4 + f * 5 + 1)))) 1 f (st.2 (20 + Int.toNat k) (i + 4 + f * 5 + 2) - 48))) k (((i + 4) + (f * 5)) + 3) (by omega) (by omega) (by omega)) ms_X4_digitAt ml_X5_22 rfl ⟨rfl, rfl, Nat.le_of_ble_eq_true rfl, Nat.le_of_ble_eq_true rfl⟩ [.ref (ta f)] (Nat.le_of_ble_eq_true rfl) dX5_readFrom_121 rfl (fun rv u hp => ?_)
        obtain ⟨hv121, hu121⟩ := hp
        refine k_sk (sk' := [.int (iI ((ur (ur S.2 0 f (KDc (st.2 (20 + Int.toNat k) (i + 4 + f * 5 + 1)))) 1 f (st.2 (20 + Int.toNat k) (i + 4 + f * 5 + 2) - 48)) (20 + Int.toNat k) (((i + 4) + (f * 5)) + 3) - 48)), .ref (ta f)]) (by rw [hv121]; rfl) ?_
        refine k_st ((S.1, ur (ur S.2 0 f (KDc (st.2 (20 + Int.toNat k) (i + 4 + f * 5 + 1)))) 1 f (st.2 (20 + Int.toNat k) (i + 4 + f * 5 + 2) - 48))) hu121 ?_
        refine k_sk (sk' := [.int (iI (st.2 (20 + Int.toNat k) (i + 4 + f * 5 + 3) - 48)), .ref (ta f)]) (congrArg (fun zz : Int => ([.int (iI zz), .ref (ta f)] : List Value)) (show ((ur (ur S.2 0 f (KDc (st.2 (20 + Int.toNat k) (i + 4 + f * 5 + 1)))) 1 f (st.2 (20 + Int.toNat k) (i + 4 + f * 5 + 2) - 48)) (20 + Int.toNat k) (((i + 4) + (f * 5)) + 3) - 48) = (st.2 (20 + Int.toNat k) (i + 4 + f * 5 + 3) - 48) from (by (try dsimp only); (repeat rw [ur_n _ _ _ (by omega)]); rw [hcS]))) ?_
        refine x_put_X3_need hE (by omega) (by omega) fl_X5_59 dX5_readFrom_124 ?_
        refine k_st ((S.1, ur (ur (ur S.2 0 f (KDc (st.2 (20 + Int.toNat k) (i + 4 + f * 5 + 1)))) 1 f (st.2 (20 + Int.toNat k) (i + 4 + f * 5 + 2) - 48)) 2 f (st.2 (20 + Int.toNat k) (i + 4 + f * 5 + 3) - 48))) rfl ?_
        refine k_aload_n hE dX5_readFrom_127 0 rfl rfl ?_
        refine x_get_X5_taps hE fl_X5_11 dX5_readFrom_128 ?_
        refine k_iload hE dX5_readFrom_131 4 rfl ?_
        refine x_ld_taps hE (i := f) (by omega) (by omega) dX5_readFrom_133 ?_
        refine k_aload_n hE dX5_readFrom_134 1 rfl rfl ?_
        refine k_iload hE dX5_readFrom_135 5 rfl ?_
        refine k_iconst hE dX5_readFrom_137 ?_
        refine k_iadd hE dX5_readFrom_138 ?_
        refine k_callS hE (c_X4_digitAt ((S.1, ur (ur (ur S.2 0 f (KDc (st.2 (20 + Int.toNat k) (i + 4 + f * 5 + 1)))) 1 f (st.2 (20 + Int.toNat k) (i + 4 + f * 5 + 2) - 48)) 2 f (st.2 (20 + Int.toNat k) (i + 4 + f * 5 + 3) - 48))) k (((i + 4) + (f * 5)) + 4) (by omega) (by omega) (by omega)) ms_X4_digitAt ml_X5_22 rfl ⟨rfl, rfl, Nat.le_of_ble_eq_true rfl, Nat.le_of_ble_eq_true rfl⟩ [.ref (ta f)] (Nat.le_of_ble_eq_true rfl) dX5_readFrom_139 rfl (fun rv u hp => ?_)
        obtain ⟨hv139, hu139⟩ := hp
        refine k_sk (sk' := [.int (iI ((ur (ur (ur S.2 0 f (KDc (st.2 (20 + Int.toNat k) (i + 4 + f * 5 + 1)))) 1 f (st.2 (20 + Int.toNat k) (i + 4 + f * 5 + 2) - 48)) 2 f (st.2 (20 + Int.toNat k) (i + 4 + f * 5 + 3) - 48)) (20 + Int.toNat k) (((i + 4) + (f * 5)) + 4) - 48)), .ref (ta f)]) (by rw [hv139]; rfl) ?_
        refine k_st ((S.1, ur (ur (ur S.2 0 f (KDc (st.2 (20 + Int.toNat k) (i + 4 + f * 5 + 1)))) 1 f (st.2 (20 + Int.toNat k) (i + 4 + f * 5 + 2) - 48)) 2 f (st.2 (20 + Int.toNat k) (i + 4 + f * 5 + 3) - 48))) hu139 ?_
        refine k_sk (sk' := [.int (iI (st.2 (20 + Int.toNat k) (i + 4 + f * 5 + 4) - 48)), .ref (ta f)]) (congrArg (fun zz : Int => ([.int (iI zz), .ref (ta f)] : List Value)) (show ((ur (ur (ur S.2 0 f (KDc (st.2 (20 + Int.toNat k) (i + 4 + f * 5 + 1)))) 1 f (st.2 (20 + Int.toNat k) (i + 4 + f * 5 + 2) - 48)) 2 f (st.2 (20 + Int.toNat k) (i + 4 + f * 5 + 3) - 48)) (20 + Int.toNat k) (((i + 4) + (f * 5)) + 4) - 48) = (st.2 (20 + Int.toNat k) (i + 4 + f * 5 + 4) - 48) from (by (try dsimp only); (repeat rw [ur_n _ _ _ (by omega)]); rw [hcS]))) ?_
        refine x_put_X3_speed hE (by omega) (by omega) fl_X5_62 dX5_readFrom_142 ?_
        refine k_st ((S.1, ur (ur (ur (ur S.2 0 f (KDc (st.2 (20 + Int.toNat k) (i + 4 + f * 5 + 1)))) 1 f (st.2 (20 + Int.toNat k) (i + 4 + f * 5 + 2) - 48)) 2 f (st.2 (20 + Int.toNat k) (i + 4 + f * 5 + 3) - 48)) 3 f (st.2 (20 + Int.toNat k) (i + 4 + f * 5 + 4) - 48))) rfl ?_
        refine k_iinc hE dX5_readFrom_145 4 [1, 2, 3, 4, 0, 5] rfl (Nat.le_of_ble_eq_true rfl) (lo' := [(0, .ref (ad 1)), (1, .ref (sa k)), (2, .int (iI i)), (3, .int (iI n)), (4, .int (iI (f + 1))), (5, .int (iI ((i + 4) + (f * 5))))]) rfl ?_
        refine k_goto hE 50 dX5_readFrom_148 (by decide) ?_
        refine k_lo [0, 1, 2, 3, 4] (lo' := [(0, .ref (ad 1)), (1, .ref (sa k)), (2, .int (iI i)), (3, .int (iI n)), (4, .int (iI (f + 1)))]) rfl ?_
        exact ih50 ((S.1, ur (ur (ur (ur S.2 0 f (KDc (st.2 (20 + Int.toNat k) (i + 4 + f * 5 + 1)))) 1 f (st.2 (20 + Int.toNat k) (i + 4 + f * 5 + 2) - 48)) 2 f (st.2 (20 + Int.toNat k) (i + 4 + f * 5 + 3) - 48)) 3 f (st.2 (20 + Int.toNat k) (i + 4 + f * 5 + 4) - 48))) _ (by omega) (by omega) e1 (fun a ha => by show ur (ur (ur (ur S.2 0 _ _) 1 _ _) 2 _ _) 3 _ _ a = _; rw [ur_n _ _ _ (by omega), ur_n _ _ _ (by omega), ur_n _ _ _ (by omega), ur_n _ _ _ (by omega)]; exact e2 a ha) (ur_fill (r := S.2) (a := 0) f0 q0.1 rfl) (ur_fill (r := S.2) (a := 1) f1 q0.1 rfl) (ur_fill (r := S.2) (a := 2) f2 q0.1 rfl) (ur_fill (r := S.2) (a := 3) f3 q0.1 rfl)
  exact L50 7 ((uv (uv (uv st.1 1 ((10 * (st.2 (20 + Int.toNat k) (i + 1) - 48)) + (st.2 (20 + Int.toNat k) (i + 2) - 48))) 2 (st.2 (20 + Int.toNat k) (i + 3) - 48)) 0 ((n - 4) / 5), st.2)) 0 (by omega) (by omega) rfl (fun a _ => rfl) (fillr_0 _ _).symm (fillr_0 _ _).symm (fillr_0 _ _).symm (fillr_0 _ _).symm
