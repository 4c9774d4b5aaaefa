set_option maxHeartbeats 4000000 in
set_option maxRecDepth 100000 in
theorem c_X7_can {ad : Nat → Nat} {D : va_G} {cI cZ : ClassId} (st : Sg) (Y : Sg) (n : Int) (hA : Ag st Y) (hI : Inv Y) (hm : st.1 15 = 0 ∧ st.1 16 = -9) (i_n : -2147483648 ≤ n ∧ n < 2147483648) : MC (mw ad D cI cZ) yX7_can cX7_can 3 (some .int) { frames := 6, cells := 0, slots := 0, locals := 133 } [.ref (ad 0), .int (iI n)] st (fun rv u => ∃ z : Int, ∃ S : Sg, rv = some (.int (iI (z))) ∧ u = S ∧ (CN Y n z) ∧ (MX st S)) := by
  refine MC_intro RX7 (by decide) rfl (Nat.le_of_ble_eq_true rfl) ?_
  intro G H0 m hE hR
  refine k_lo [0, 1] (lo' := [(0, .ref (ad 0)), (1, .int (iI n))]) rfl ?_
  obtain ⟨hi0, hi1, hi2, hi3, hi4, hi5, hi6, hi7, hit, hir, him, hin⟩ := id hI
  have a3 := hA.1 3 (by decide)
  have a4 := hA.1 4 (by decide)
  refine k_aload_n hE dX7_can_0 0 rfl rfl ?_
  refine k_iload_n hE dX7_can_1 1 rfl rfl ?_
  refine k_callV hE (c_X7_againstDays st Y n hA hI (by omega)) mf_X7_againstDays ml_X7_199 0 rfl rfl rfl rfl ⟨rfl, rfl, Nat.le_of_ble_eq_true rfl, Nat.le_of_ble_eq_true rfl⟩ [] (Nat.le_of_ble_eq_true rfl) dX7_can_2 rfl (fun rv u hp => ?_)
  obtain ⟨hv2, hu2⟩ := hp
  refine k_sk (sk' := [.int (iI (if n < 0 ∨ 10 < n then -2 else if Y.1 0 = 0 then -3 else 0))]) (by rw [hv2]; rfl) ?_
  refine k_st st hu2 ?_
  obtain ⟨ag, hag⟩ : ∃ ag : Int, ag = (if n < 0 ∨ 10 < n then -2 else if Y.1 0 = 0 then -3 else 0) := ⟨_, rfl⟩
  have hag2 : ((n < 0 ∨ 10 < n) ∧ ag = -2) ∨ (¬ (n < 0 ∨ 10 < n) ∧ Y.1 0 = 0 ∧ ag = -3) ∨ (¬ (n < 0 ∨ 10 < n) ∧ Y.1 0 ≠ 0 ∧ ag = 0) := by rw [hag]; (repeat (first | omega | split))
  refine k_sk (sk' := [.int (iI ag)]) (congrArg (fun zz : Int => ([.int (iI zz)] : List Value)) (show (if n < 0 ∨ 10 < n then -2 else if Y.1 0 = 0 then -3 else 0) = (ag) from hag.symm)) ?_
  refine k_istore_n hE dX7_can_5 [1, 2, 0] rfl (Nat.le_of_ble_eq_true rfl) (lo' := [(0, .ref (ad 0)), (1, .int (iI n)), (2, .int (iI ag))]) rfl ?_
  refine k_iload_n hE dX7_can_6 2 rfl rfl ?_
  refine k_if_eq hE 14 dX7_can_7 (by decide) (by unfold in32; omega) (fun c7 => ?_) (fun c7 => ?_)
  · refine k_aload_n hE dX7_can_14 0 rfl rfl ?_
    refine k_iload_n hE dX7_can_15 1 rfl rfl ?_
    refine k_callV hE (c_X7_canAll st Y n hA.d hI (by omega) (by omega) (by omega) (by omega) (fun d d0 d1 => by rw [hA.2 4 (by decide)]; exact hir d d0 d1) (by omega)) mf_X7_canAll ml_X7_202 0 rfl rfl rfl rfl ⟨rfl, rfl, Nat.le_of_ble_eq_true rfl, Nat.le_of_ble_eq_true rfl⟩ [] (Nat.le_of_ble_eq_true rfl) dX7_can_16 rfl (fun rv u hp => ?_)
    obtain ⟨z1, S1, hv16, hu16, hz_16, hx_16⟩ := hp
    refine k_sk (sk' := [.int (iI z1)]) (by rw [hv16]; rfl) ?_
    refine k_st S1 hu16 ?_
    have hca : (∀ f : Int, 0 ≤ f → f < Y.1 0 → NV Y 3 (st.1 3) (st.2 4) n f) ↔ CA Y (Y.1 3) n := by rw [a3, hA.2 4 (by decide)]; exact Iff.rfl
    refine k_if_eq hE 26 dX7_can_19 (by decide) (by unfold in32; omega) (fun c19 => ?_) (fun c19 => ?_)
    · refine k_iconst hE dX7_can_26 ?_
      refine k_iret hR dX7_can_27 rfl ?_
      first
        | (rcases hag2 with h | h | h
           · exact ⟨_, st, rfl, rfl, Or.inl h, MX.refl st⟩
           · exact ⟨_, st, rfl, rfl, Or.inr (Or.inl h), MX.refl st⟩
           · omega)
        | (refine ⟨_, S1, rfl, rfl, Or.inr (Or.inr ⟨by omega, by omega, ?_⟩), hx_16⟩
           rcases hz_16 with h | h
           · first | exact Or.inl ⟨rfl, hca.mp h.2⟩ | omega
           · first | exact Or.inr ⟨rfl, fun h5 => h.2 (hca.mpr h5)⟩ | omega)
    · refine k_iconst hE dX7_can_22 ?_
      refine k_goto hE 27 dX7_can_23 (by decide) ?_
      refine k_iret hR dX7_can_27 rfl ?_
      first
        | (rcases hag2 with h | h | h
           · exact ⟨_, st, rfl, rfl, Or.inl h, MX.refl st⟩
           · exact ⟨_, st, rfl, rfl, Or.inr (Or.inl h), MX.refl st⟩
           · omega)
        | (refine ⟨_, S1, rfl, rfl, Or.inr (Or.inr ⟨by omega, by omega, ?_⟩), hx_16⟩
           rcases hz_16 with h | h
           · first | exact Or.inl ⟨rfl, hca.mp h.2⟩ | omega
           · first | exact Or.inr ⟨rfl, fun h5 => h.2 (hca.mpr h5)⟩ | omega)
  · refine k_iload_n hE dX7_can_10 2 rfl rfl ?_
    refine k_goto hE 27 dX7_can_11 (by decide) ?_
    refine k_iret hR dX7_can_27 rfl ?_
    first
      | (rcases hag2 with h | h | h
         · exact ⟨_, st, rfl, rfl, Or.inl h, MX.refl st⟩
         · exact ⟨_, st, rfl, rfl, Or.inr (Or.inl h), MX.refl st⟩
         · omega)
      | (refine ⟨_, S1, rfl, rfl, Or.inr (Or.inr ⟨by omega, by omega, ?_⟩), hx_16⟩
         rcases hz_16 with h | h
         · first | exact Or.inl ⟨rfl, hca.mp h.2⟩ | omega
         · first | exact Or.inr ⟨rfl, fun h5 => h.2 (hca.mpr h5)⟩ | omega)

set_option maxHeartbeats 4000000 in
set_option maxRecDepth 100000 in
theorem c_X7_start {ad : Nat → Nat} {D : va_G} {cI cZ : ClassId} (st : Sg) (Y : Sg) (n : Int) (hA : Ag st Y) (hI : Inv Y) (hm : st.1 15 = 0 ∧ st.1 16 = -9) (i_n : -2147483648 ≤ n ∧ n < 2147483648) : MC (mw ad D cI cZ) yX7_start cX7_start 6 (some .int) { frames := 6, cells := 0, slots := 0, locals := 133 } [.ref (ad 0), .int (iI n)] st (fun rv u => ∃ z : Int, ∃ S : Sg, rv = some (.int (iI (z))) ∧ u = S ∧ (SA Y n z) ∧ (MX st S)) := by
  refine MC_intro RX7 (by decide) rfl (Nat.le_of_ble_eq_true rfl) ?_
  intro G H0 m hE hR
  refine k_lo [0, 1] (lo' := [(0, .ref (ad 0)), (1, .int (iI n))]) rfl ?_
  obtain ⟨hi0, hi1, hi2, hi3, hi4, hi5, hi6, hi7, hit, hir, him, hin⟩ := id hI
  have a3 := hA.1 3 (by decide)
  have a4 := hA.1 4 (by decide)
  refine k_aload_n hE dX7_start_0 0 rfl rfl ?_
  refine k_iload_n hE dX7_start_1 1 rfl rfl ?_
  refine k_callV hE (c_X7_againstDays st Y n hA hI (by omega)) mf_X7_againstDays ml_X7_199 0 rfl rfl rfl rfl ⟨rfl, rfl, Nat.le_of_ble_eq_true rfl, Nat.le_of_ble_eq_true rfl⟩ [] (Nat.le_of_ble_eq_true rfl) dX7_start_2 rfl (fun rv u hp => ?_)
  obtain ⟨hv2, hu2⟩ := hp
  refine k_sk (sk' := [.int (iI (if n < 0 ∨ 10 < n then -2 else if Y.1 0 = 0 then -3 else 0))]) (by rw [hv2]; rfl) ?_
  refine k_st st hu2 ?_
  obtain ⟨ag, hag⟩ : ∃ ag : Int, ag = (if n < 0 ∨ 10 < n then -2 else if Y.1 0 = 0 then -3 else 0) := ⟨_, rfl⟩
  have hag2 : ((n < 0 ∨ 10 < n) ∧ ag = -2) ∨ (¬ (n < 0 ∨ 10 < n) ∧ Y.1 0 = 0 ∧ ag = -3) ∨ (¬ (n < 0 ∨ 10 < n) ∧ Y.1 0 ≠ 0 ∧ ag = 0) := by rw [hag]; (repeat (first | omega | split))
  refine k_sk (sk' := [.int (iI ag)]) (congrArg (fun zz : Int => ([.int (iI zz)] : List Value)) (show (if n < 0 ∨ 10 < n then -2 else if Y.1 0 = 0 then -3 else 0) = (ag) from hag.symm)) ?_
  refine k_istore_n hE dX7_start_5 [1, 2, 0] rfl (Nat.le_of_ble_eq_true rfl) (lo' := [(0, .ref (ad 0)), (1, .int (iI n)), (2, .int (iI ag))]) rfl ?_
  refine k_iload_n hE dX7_start_6 2 rfl rfl ?_
  refine k_if_eq hE 12 dX7_start_7 (by decide) (by unfold in32; omega) (fun c7 => ?_) (fun c7 => ?_)
  · have w1 : ¬ (n < 0 ∨ 10 < n) := by omega
    have w2 : Y.1 0 ≠ 0 := by omega
    refine k_aload_n hE dX7_start_12 0 rfl rfl ?_
    refine m_get_first hE (z := Y.1 3) (hA.1 3 (by decide)) fl_X7_117 dX7_start_13 ?_
    refine k_istore_n hE dX7_start_16 [1, 2, 3, 0] rfl (Nat.le_of_ble_eq_true rfl) (lo' := [(0, .ref (ad 0)), (1, .int (iI n)), (2, .int (iI ag)), (3, .int (iI (Y.1 3)))]) rfl ?_
    refine k_bipush hE dX7_start_17 rfl ?_
    refine k_istore hE dX7_start_19 [1, 2, 3, 4, 0] (Nat.le_of_ble_eq_true rfl) (lo' := [(0, .ref (ad 0)), (1, .int (iI n)), (2, .int (iI ag)), (3, .int (iI (Y.1 3))), (4, .int (iI (-9)))]) rfl ?_
    refine k_aload_n hE dX7_start_21 0 rfl rfl ?_
    refine m_get_cap hE (z := Y.1 1) (hA.1 1 (by decide)) fl_X7_105 dX7_start_22 ?_
    refine k_istore hE dX7_start_25 [1, 2, 3, 4, 5, 0] (Nat.le_of_ble_eq_true rfl) (lo' := [(0, .ref (ad 0)), (1, .int (iI n)), (2, .int (iI ag)), (3, .int (iI (Y.1 3))), (4, .int (iI (-9))), (5, .int (iI (Y.1 1)))]) rfl ?_
    have L27 : ∀ (fu27 : Nat) (S : Sg) (is : Int) (v : Int), (-1 ≤ v ∧ v ≤ Y.1 1) → (v + 1 < fu27) → (∀ i, i ≠ 3 → i ≠ 14 → i ≠ 19 → S.1 i = st.1 i) → (∀ a, (a < 12 ∨ a = 13 ∨ 17 < a) → S.2 a = st.2 a) → ((is = -9 ∧ ∀ w : Int, v < w → w ≤ Y.1 1 → ¬ CA Y w n) ∨ (v < is ∧ is ≤ Y.1 1 ∧ CA Y is n ∧ ∀ w : Int, v < w → w < is → ¬ CA Y w n)) → KW (mw ad D cI cZ) G H0 m 6 S 27 [(0, .ref (ad 0)), (1, .int (iI n)), (2, .int (iI ag)), (3, .int (iI (Y.1 3))), (4, .int (iI is)), (5, .int (iI v))] [] := by
      intro fu27
      induction fu27 with
      | zero =>
        intro S is v q0 q1 e1 e2 hs
        omega
      | succ fu27 ih27 =>
        intro S is v q0 q1 e1 e2 hs
        refine k_iload hE dX7_start_27 5 rfl ?_
        refine k_if_lt hE 61 dX7_start_29 (by decide) (by unfold in32; omega) (fun c29 => ?_) (fun c29 => ?_)
        · refine k_aload_n hE dX7_start_61 0 rfl rfl ?_
          refine k_iload_n hE dX7_start_62 3 rfl rfl ?_
          refine m_put_first hE fl_X7_117 dX7_start_63 ?_
          refine k_st ((uv S.1 3 (Y.1 3), S.2)) rfl ?_
          refine k_iload hE dX7_start_66 4 rfl ?_
          refine k_iret hR dX7_start_68 rfl ?_
          refine ⟨is, _, rfl, rfl, Or.inr (Or.inr ⟨w1, w2, ?_⟩), ⟨fun i h1 h2 => ?_, e2⟩⟩
          · rcases hs with ⟨a, b⟩ | ⟨a, b, c, d⟩
            · exact Or.inl ⟨a, fun w h1 h2 => b w (by omega) h2⟩
            · exact Or.inr ⟨by omega, b, c, fun w h1 h2 => d w (by omega) h2⟩
          · show uv S.1 3 (Y.1 3) i = _
            by_cases e : i = 3
            · rw [e, uv_s, a3]
            · rw [uv_n _ _ e]; exact e1 i e h1 h2
        · refine k_aload_n hE dX7_start_32 0 rfl rfl ?_
          refine k_iload hE dX7_start_33 5 rfl ?_
          refine m_put_first hE fl_X7_117 dX7_start_35 ?_
          refine k_st ((uv S.1 3 v, S.2)) rfl ?_
          refine k_nm (fun Sx eSx => ?_)
          have hAx : AgD Sx Y := by
            rw [eSx]
            exact ⟨fun i hi => by
              simp only [List.mem_cons, List.mem_nil_iff, or_false] at hi
              show uv S.1 3 v i = _
              rw [uv_n _ _ (by omega), e1 i (by omega) (by omega) (by omega)]
              exact hA.1 i (by omega), fun a ha => by
              simp only [List.mem_cons, List.mem_nil_iff, or_false] at ha
              show S.2 a = _
              rw [e2 a (by omega)]
              exact hA.2 a (by omega)⟩
          have x3 : Sx.1 3 = v := by rw [eSx]; rfl
          have x4 : Sx.1 4 = st.1 4 := by rw [eSx]; exact e1 4 (by decide) (by decide) (by decide)
          have x15 : Sx.1 15 = st.1 15 := by rw [eSx]; exact e1 15 (by decide) (by decide) (by decide)
          have x16 : Sx.1 16 = st.1 16 := by rw [eSx]; exact e1 16 (by decide) (by decide) (by decide)
          have xr : Sx.2 4 = Y.2 4 := by rw [eSx]; show S.2 4 = _; rw [e2 4 (by decide)]; exact hA.2 4 (by decide)
          refine k_aload_n hE dX7_start_38 0 rfl rfl ?_
          refine k_iload_n hE dX7_start_39 1 rfl rfl ?_
          refine k_callV hE (c_X7_canAll Sx Y n hAx hI (by omega) (by omega) (by omega) (by omega) (fun d d0 d1 => by rw [xr]; exact hir d d0 d1) (by omega)) mf_X7_canAll ml_X7_202 0 rfl rfl rfl rfl ⟨rfl, rfl, Nat.le_of_ble_eq_true rfl, Nat.le_of_ble_eq_true rfl⟩ [] (Nat.le_of_ble_eq_true rfl) dX7_start_40 rfl (fun rv u hp => ?_)
          obtain ⟨z1, S1, hv40, hu40, hz_40, hx_40⟩ := hp
          refine k_sk (sk' := [.int (iI z1)]) (by rw [hv40]; rfl) ?_
          refine k_st S1 hu40 ?_
          have hca : (∀ f : Int, 0 ≤ f → f < Y.1 0 → NV Y 3 (Sx.1 3) (Sx.2 4) n f) ↔ CA Y v n := by rw [x3, xr]; exact Iff.rfl
          refine k_if_eq hE 51 dX7_start_43 (by decide) (by unfold in32; omega) (fun c43 => ?_) (fun c43 => ?_)
          · refine k_iload hE dX7_start_51 4 rfl ?_
            refine k_istore hE dX7_start_53 [1, 2, 3, 4, 0, 5] (Nat.le_of_ble_eq_true rfl) (lo' := [(0, .ref (ad 0)), (1, .int (iI n)), (2, .int (iI ag)), (3, .int (iI (Y.1 3))), (4, .int (iI is)), (5, .int (iI v))]) rfl ?_
            refine k_iinc hE dX7_start_55 5 [1, 2, 3, 4, 5, 0] rfl (Nat.le_of_ble_eq_true rfl) (lo' := [(0, .ref (ad 0)), (1, .int (iI n)), (2, .int (iI ag)), (3, .int (iI (Y.1 3))), (4, .int (iI is)), (5, .int (iI (v + (-1))))]) rfl ?_
            refine k_goto hE 27 dX7_start_58 (by decide) ?_
            refine ih27 S1 _ _ (by omega) (by omega) (fun i h1 h2 h3 => by rw [hx_40.1 i h2 h3, eSx]; show uv S.1 3 v i = _; rw [uv_n _ _ h1]; exact e1 i h1 h2 h3) (fun a ha => by rw [hx_40.2 a ha, eSx]; exact e2 a ha) ?_
            first
              | (refine Or.inr ⟨by omega, by omega, ?_, fun w h1 h2 => by omega⟩
                 rcases hz_40 with h | h
                 · exact hca.mp h.2
                 · omega)
              | (have hnv : ¬ CA Y v n := by
                   rcases hz_40 with h | h
                   · omega
                   · exact fun h5 => h.2 (hca.mpr h5)
                 rcases hs with ⟨a, b⟩ | ⟨a, b, c, d⟩
                 · refine Or.inl ⟨a, fun w h1 h2 => ?_⟩
                   by_cases e : w = v
                   · rw [e]; exact hnv
                   · exact b w (by omega) h2
                 · refine Or.inr ⟨by omega, b, c, fun w h1 h2 => ?_⟩
                   by_cases e : w = v
                   · rw [e]; exact hnv
                   · exact d w (by omega) h2)
          · refine k_iload hE dX7_start_46 5 rfl ?_
            refine k_goto hE 53 dX7_start_48 (by decide) ?_
            refine k_istore hE dX7_start_53 [1, 2, 3, 4, 0, 5] (Nat.le_of_ble_eq_true rfl) (lo' := [(0, .ref (ad 0)), (1, .int (iI n)), (2, .int (iI ag)), (3, .int (iI (Y.1 3))), (4, .int (iI v)), (5, .int (iI v))]) rfl ?_
            refine k_iinc hE dX7_start_55 5 [1, 2, 3, 4, 5, 0] rfl (Nat.le_of_ble_eq_true rfl) (lo' := [(0, .ref (ad 0)), (1, .int (iI n)), (2, .int (iI ag)), (3, .int (iI (Y.1 3))), (4, .int (iI v)), (5, .int (iI (v + (-1))))]) rfl ?_
            refine k_goto hE 27 dX7_start_58 (by decide) ?_
            refine ih27 S1 _ _ (by omega) (by omega) (fun i h1 h2 h3 => by rw [hx_40.1 i h2 h3, eSx]; show uv S.1 3 v i = _; rw [uv_n _ _ h1]; exact e1 i h1 h2 h3) (fun a ha => by rw [hx_40.2 a ha, eSx]; exact e2 a ha) ?_
            first
              | (refine Or.inr ⟨by omega, by omega, ?_, fun w h1 h2 => by omega⟩
                 rcases hz_40 with h | h
                 · exact hca.mp h.2
                 · omega)
              | (have hnv : ¬ CA Y v n := by
                   rcases hz_40 with h | h
                   · omega
                   · exact fun h5 => h.2 (hca.mpr h5)
                 rcases hs with ⟨a, b⟩ | ⟨a, b, c, d⟩
                 · refine Or.inl ⟨a, fun w h1 h2 => ?_⟩
                   by_cases e : w = v
                   · rw [e]; exact hnv
                   · exact b w (by omega) h2
                 · refine Or.inr ⟨by omega, b, c, fun w h1 h2 => ?_⟩
                   by_cases e : w = v
                   · rw [e]; exact hnv
                   · exact d w (by omega) h2)
    exact L27 102 st (-9) (Y.1 1) (by omega) (by omega) (fun i _ _ _ => rfl) (fun a _ => rfl) (Or.inl ⟨rfl, fun w h1 h2 => by omega⟩)
  · refine k_iload_n hE dX7_start_10 2 rfl rfl ?_
    refine k_iret hR dX7_start_11 rfl ?_
    rcases hag2 with h | h | h
    · exact ⟨_, st, rfl, rfl, Or.inl h, MX.refl st⟩
    · exact ⟨_, st, rfl, rfl, Or.inr (Or.inl h), MX.refl st⟩
    · omega

set_option maxHeartbeats 4000000 in
set_option maxRecDepth 100000 in
theorem c_X7_best {ad : Nat → Nat} {D : va_G} {cI cZ : ClassId} (st : Sg) (Y : Sg) (n : Int) (x : Int) (hA : Ag st Y) (hI : Inv Y) (hm : st.1 15 = 0 ∧ st.1 16 = -9) (i_n : -2147483648 ≤ n ∧ n < 2147483648) (i_x : -2147483648 ≤ x ∧ x < 2147483648) : MC (mw ad D cI cZ) yX7_best cX7_best 7 (some .int) { frames := 5, cells := 0, slots := 0, locals := 112 } [.ref (ad 0), .int (iI n), .int (iI x)] st (fun rv u => ∃ z : Int, ∃ S : Sg, rv = some (.int (iI (z))) ∧ u = S ∧ (BE Y n x z) ∧ (MX st S)) := by
  refine MC_intro RX7 (by decide) rfl (Nat.le_of_ble_eq_true rfl) ?_
  intro G H0 m hE hR
  refine k_lo [0, 1, 2] (lo' := [(0, .ref (ad 0)), (1, .int (iI n)), (2, .int (iI x))]) rfl ?_
  obtain ⟨hi0, hi1, hi2, hi3, hi4, hi5, hi6, hi7, hit, hir, him, hin⟩ := id hI
  have a3 := hA.1 3 (by decide)
  have a4 := hA.1 4 (by decide)
  refine k_iload_n hE dX7_best_0 2 rfl rfl ?_
  refine k_iconst hE dX7_best_1 ?_
  refine k_iconst hE dX7_best_2 ?_
  refine k_callS hE (c_X7_within st x 0 1 (by omega) (by omega) (by omega)) ms_X7_within ml_X7_74 rfl ⟨rfl, rfl, Nat.le_of_ble_eq_true rfl, Nat.le_of_ble_eq_true rfl⟩ [] (Nat.le_of_ble_eq_true rfl) dX7_best_3 rfl (fun rv u hp => ?_)
  obtain ⟨z1, hv3, hu3, hz_3⟩ := hp
  refine k_sk (sk' := [.int (iI z1)]) (by rw [hv3]; rfl) ?_
  refine k_st st hu3 ?_
  refine k_if_ne hE 12 dX7_best_6 (by decide) (by unfold in32; omega) (fun c6 => ?_) (fun c6 => ?_)
  · refine k_aload_n hE dX7_best_12 0 rfl rfl ?_
    refine k_iload_n hE dX7_best_13 1 rfl rfl ?_
    refine k_callV hE (c_X7_againstDays st Y n hA hI (by omega)) mf_X7_againstDays ml_X7_199 0 rfl rfl rfl rfl ⟨rfl, rfl, Nat.le_of_ble_eq_true rfl, Nat.le_of_ble_eq_true rfl⟩ [] (Nat.le_of_ble_eq_true rfl) dX7_best_14 rfl (fun rv u hp => ?_)
    obtain ⟨hv14, hu14⟩ := hp
    refine k_sk (sk' := [.int (iI (if n < 0 ∨ 10 < n then -2 else if Y.1 0 = 0 then -3 else 0))]) (by rw [hv14]; rfl) ?_
    refine k_st st hu14 ?_
    obtain ⟨ag, hag⟩ : ∃ ag : Int, ag = (if n < 0 ∨ 10 < n then -2 else if Y.1 0 = 0 then -3 else 0) := ⟨_, rfl⟩
    have hag2 : ((n < 0 ∨ 10 < n) ∧ ag = -2) ∨ (¬ (n < 0 ∨ 10 < n) ∧ Y.1 0 = 0 ∧ ag = -3) ∨ (¬ (n < 0 ∨ 10 < n) ∧ Y.1 0 ≠ 0 ∧ ag = 0) := by rw [hag]; (repeat (first | omega | split))
    refine k_sk (sk' := [.int (iI ag)]) (congrArg (fun zz : Int => ([.int (iI zz)] : List Value)) (show (if n < 0 ∨ 10 < n then -2 else if Y.1 0 = 0 then -3 else 0) = (ag) from hag.symm)) ?_
    refine k_istore_n hE dX7_best_17 [1, 2, 3, 0] rfl (Nat.le_of_ble_eq_true rfl) (lo' := [(0, .ref (ad 0)), (1, .int (iI n)), (2, .int (iI x)), (3, .int (iI ag))]) rfl ?_
    refine k_iload_n hE dX7_best_18 3 rfl rfl ?_
    refine k_if_eq hE 24 dX7_best_19 (by decide) (by unfold in32; omega) (fun c19 => ?_) (fun c19 => ?_)
    · have w1 : ¬ ((n < 0 ∨ 10 < n) ∨ (x < 0 ∨ 1 < x)) := by omega
      have w2 : Y.1 0 ≠ 0 := by omega
      refine k_aload_n hE dX7_best_24 0 rfl rfl ?_
      refine m_get_lawNow hE (z := Y.1 4) (hA.1 4 (by decide)) fl_X7_120 dX7_best_25 ?_
      refine k_istore hE dX7_best_28 [1, 2, 3, 4, 0] (Nat.le_of_ble_eq_true rfl) (lo' := [(0, .ref (ad 0)), (1, .int (iI n)), (2, .int (iI x)), (3, .int (iI ag)), (4, .int (iI (Y.1 4)))]) rfl ?_
      refine k_iconst hE dX7_best_30 ?_
      refine k_istore hE dX7_best_31 [1, 2, 3, 4, 5, 0] (Nat.le_of_ble_eq_true rfl) (lo' := [(0, .ref (ad 0)), (1, .int (iI n)), (2, .int (iI x)), (3, .int (iI ag)), (4, .int (iI (Y.1 4))), (5, .int (iI 0))]) rfl ?_
      refine k_iconst hE dX7_best_33 ?_
      refine k_istore hE dX7_best_34 [1, 2, 3, 4, 5, 6, 0] (Nat.le_of_ble_eq_true rfl) (lo' := [(0, .ref (ad 0)), (1, .int (iI n)), (2, .int (iI x)), (3, .int (iI ag)), (4, .int (iI (Y.1 4))), (5, .int (iI 0)), (6, .int (iI (-1)))]) rfl ?_
      refine k_aload_n hE dX7_best_36 0 rfl rfl ?_
      refine k_iconst hE dX7_best_37 ?_
      refine m_put_lawNow hE fl_X7_120 dX7_best_38 ?_
      refine k_st ((uv st.1 4 0, st.2)) rfl ?_
      have L41 : ∀ (fu41 : Nat) (S : Sg) (b : Int) (c : Int) (q : Int), (0 ≤ q ∧ q ≤ 3) → (3 - q < fu41) → (S.1 4 = q) → (∀ i, i ≠ 4 → i ≠ 14 → i ≠ 19 → S.1 i = st.1 i) → (∀ a, (a < 12 ∨ a = 13 ∨ 17 < a) → S.2 a = st.2 a) → (BLr (NC Y n) q b c) → KW (mw ad D cI cZ) G H0 m 7 S 41 [(0, .ref (ad 0)), (1, .int (iI n)), (2, .int (iI x)), (3, .int (iI ag)), (4, .int (iI (Y.1 4))), (5, .int (iI b)), (6, .int (iI c))] [] := by
        intro fu41
        induction fu41 with
        | zero =>
          intro S b c q q0 q1 eq4 e1 e2 hB
          omega
        | succ fu41 ih41 =>
          intro S b c q q0 q1 eq4 e1 e2 hB
          have hAS : AgD S Y := ⟨fun i hi => by
            simp only [List.mem_cons, List.mem_nil_iff, or_false] at hi
            rw [e1 i (by omega) (by omega) (by omega)]
            exact hA.1 i (by omega), fun a ha => by
            simp only [List.mem_cons, List.mem_nil_iff, or_false] at ha
            rw [e2 a (by omega)]
            exact hA.2 a (by omega)⟩
          have rN : ∀ p : Int, 0 ≤ NC Y n p ∧ NC Y n p ≤ 6 := fun p => by have r := CT_rng (fun f => NV Y p (Y.1 3) (Y.2 4) n f) (Y.1 0).toNat; unfold NC; omega
          have rc : (-1 ≤ c ∧ c ≤ 6) ∧ (0 ≤ b ∧ b ≤ 2) := by
            have r := rN b
            rcases hB with h | ⟨h1, h2, h3, h4⟩ <;> omega
          have v15 := e1 15 (by decide) (by decide) (by decide)
          have v16 := e1 16 (by decide) (by decide) (by decide)
          have v3 := e1 3 (by decide) (by decide) (by decide)
          have vr : S.2 4 = Y.2 4 := (e2 4 (by decide)).trans (hA.2 4 (by decide))
          have rNq := rN q
          refine k_aload_n hE dX7_best_41 0 rfl rfl ?_
          refine m_get_lawNow hE (z := q) eq4 fl_X7_120 dX7_best_42 ?_
          refine k_iconst hE dX7_best_45 ?_
          refine k_icmp_ge hE 90 dX7_best_46 (by decide) (by unfold in32; omega) (by unfold in32; omega) (fun c46 => ?_) (fun c46 => ?_)
          · refine k_aload_n hE dX7_best_90 0 rfl rfl ?_
            refine k_iload hE dX7_best_91 4 rfl ?_
            refine m_put_lawNow hE fl_X7_120 dX7_best_93 ?_
            refine k_st ((uv S.1 4 (Y.1 4), S.2)) rfl ?_
            refine k_iload_n hE dX7_best_96 2 rfl rfl ?_
            refine k_if_ne hE 105 dX7_best_97 (by decide) (by unfold in32; omega) (fun c97 => ?_) (fun c97 => ?_)
            · refine k_iload hE dX7_best_105 6 rfl ?_
              refine k_iret hR dX7_best_107 rfl ?_
              have eq : q = 3 := by omega
              rw [eq] at hB
              refine ⟨_, _, rfl, rfl, Or.inr (Or.inr ⟨w1, w2, b, c, hB, ?_⟩), ⟨fun i h1 h2 => ?_, e2⟩⟩
              · first
                  | (rw [if_pos (by omega)])
                  | (rw [if_neg (by omega)])
              · show uv S.1 4 (Y.1 4) i = _
                by_cases e : i = 4
                · rw [e, uv_s, a4]
                · rw [uv_n _ _ e]; exact e1 i e h1 h2
            · refine k_iload hE dX7_best_100 5 rfl ?_
              refine k_goto hE 107 dX7_best_102 (by decide) ?_
              refine k_iret hR dX7_best_107 rfl ?_
              have eq : q = 3 := by omega
              rw [eq] at hB
              refine ⟨_, _, rfl, rfl, Or.inr (Or.inr ⟨w1, w2, b, c, hB, ?_⟩), ⟨fun i h1 h2 => ?_, e2⟩⟩
              · first
                  | (rw [if_pos (by omega)])
                  | (rw [if_neg (by omega)])
              · show uv S.1 4 (Y.1 4) i = _
                by_cases e : i = 4
                · rw [e, uv_s, a4]
                · rw [uv_n _ _ e]; exact e1 i e h1 h2
          · refine k_aload_n hE dX7_best_49 0 rfl rfl ?_
            refine k_iload_n hE dX7_best_50 1 rfl rfl ?_
            refine k_callV hE (c_X7_goDays S Y n q hAS hI (by omega) (by omega) (by omega) (by omega) (fun d d0 d1 => by rw [vr]; exact hir d d0 d1) (by omega) (by omega)) mf_X7_goDays ml_X7_189 0 rfl rfl rfl rfl ⟨rfl, rfl, Nat.le_of_ble_eq_true rfl, Nat.le_of_ble_eq_true rfl⟩ [] (Nat.le_of_ble_eq_true rfl) dX7_best_51 rfl (fun rv u hp => ?_)
            obtain ⟨S1, hv51, hu51, hx_51, er_51, dg_51⟩ := hp
            refine k_sk (sk' := []) (by rw [hv51]; rfl) ?_
            refine k_st S1 hu51 ?_
            have er : Ran Y q (Y.1 3) (Y.2 4) S1.2 n.toNat 12 15 14 := by
              have h5 := MRn_Ran er_51 (by omega)
              rw [v3, vr, a3] at h5
              exact h5
            have hB1 := hx_51.agd hAS
            have s4 : S1.1 4 = q := (hx_51.1 4 (by decide) (by decide)).trans eq4
            have hgw : ∀ f : Int, 0 ≤ f → f < Y.1 0 → ∀ k : Int, 0 ≤ k → k < n → -1000 ≤ S1.2 14 (6 * k + f) ∧ S1.2 14 (6 * k + f) ≤ 1000 := fun f f0 f1 k k0 k1 => by have hg := Ran_gD er (f := f) (k := k) f0 f1 k0 (by omega); rw [Int.mul_comm] at hg; omega
            have ec : CT (fun f => ∀ k : Int, 0 ≤ k → k < n → Y.2 2 f ≤ S1.2 14 (6 * k + f)) (Y.1 0).toNat = NC Y n q := CT_cong (fun f f0 f1 => ⟨fun h k k0 k1 => by rw [← (Ran_gD er f0 (by omega) k0 (by omega)).1, Int.mul_comm]; exact h k k0 k1, fun h k k0 k1 => by rw [Int.mul_comm, (Ran_gD er f0 (by omega) k0 (by omega)).1]; exact h k k0 k1⟩)
            refine k_aload_n hE dX7_best_54 0 rfl rfl ?_
            refine k_iload_n hE dX7_best_55 1 rfl rfl ?_
            refine k_callV hE (c_X7_wetOn S1 Y n hB1 hI (by omega) hgw) mf_X7_wetOn ml_X7_196 0 rfl rfl rfl rfl ⟨rfl, rfl, Nat.le_of_ble_eq_true rfl, Nat.le_of_ble_eq_true rfl⟩ [] (Nat.le_of_ble_eq_true rfl) dX7_best_56 rfl (fun rv u hp => ?_)
            obtain ⟨hv56, hu56⟩ := hp
            refine k_sk (sk' := [.int (iI (CT (fun f => ∀ k : Int, 0 ≤ k → k < n → Y.2 2 f ≤ S1.2 14 (6 * k + f)) (Y.1 0).toNat))]) (by rw [hv56]; rfl) ?_
            refine k_st S1 hu56 ?_
            refine k_sk (sk' := [.int (iI (NC Y n q))]) (congrArg (fun zz : Int => ([.int (iI zz)] : List Value)) (show (CT (fun f => ∀ k : Int, 0 ≤ k → k < n → Y.2 2 f ≤ S1.2 14 (6 * k + f)) (Y.1 0).toNat) = (NC Y n q) from ec)) ?_
            refine k_iload hE dX7_best_59 6 rfl ?_
            refine k_icmp_le hE 77 dX7_best_61 (by decide) (by unfold in32; omega) (by unfold in32; omega) (fun c61 => ?_) (fun c61 => ?_)
            · refine k_aload_n hE dX7_best_77 0 rfl rfl ?_
              refine k_dup hE dX7_best_78 rfl ?_
              refine m_get_lawNow hE (z := q) s4 fl_X7_120 dX7_best_79 ?_
              refine k_iconst hE dX7_best_82 ?_
              refine k_iadd hE dX7_best_83 ?_
              refine m_put_lawNow hE fl_X7_120 dX7_best_84 ?_
              refine k_st ((uv S1.1 4 (q + 1), S1.2)) rfl ?_
              refine k_goto hE 41 dX7_best_87 (by decide) ?_
              have hs := BLr_s hB q0.1 (rN q).1
              have f1 : ∀ i, i ≠ 4 → i ≠ 14 → i ≠ 19 → uv S1.1 4 (q + 1) i = st.1 i := fun i h1 h2 h3 => by rw [uv_n _ _ h1, hx_51.1 i h2 h3]; exact e1 i h1 h2 h3
              have f2 : ∀ a, (a < 12 ∨ a = 13 ∨ 17 < a) → S1.2 a = st.2 a := fun a ha => by rw [hx_51.2 a ha]; exact e2 a ha
              first
                | (rw [if_pos (by omega), if_pos (by omega)] at hs
                   exact ih41 ((uv S1.1 4 (q + 1), S1.2)) _ _ (q + 1) (by omega) (by omega) rfl f1 f2 hs)
                | (rw [if_neg (by omega), if_neg (by omega)] at hs
                   exact ih41 ((uv S1.1 4 (q + 1), S1.2)) _ _ (q + 1) (by omega) (by omega) rfl f1 f2 hs)
            · refine k_aload_n hE dX7_best_64 0 rfl rfl ?_
              refine k_iload_n hE dX7_best_65 1 rfl rfl ?_
              refine k_callV hE (c_X7_wetOn S1 Y n hB1 hI (by omega) hgw) mf_X7_wetOn ml_X7_196 0 rfl rfl rfl rfl ⟨rfl, rfl, Nat.le_of_ble_eq_true rfl, Nat.le_of_ble_eq_true rfl⟩ [] (Nat.le_of_ble_eq_true rfl) dX7_best_66 rfl (fun rv u hp => ?_)
              obtain ⟨hv66, hu66⟩ := hp
              refine k_sk (sk' := [.int (iI (CT (fun f => ∀ k : Int, 0 ≤ k → k < n → Y.2 2 f ≤ S1.2 14 (6 * k + f)) (Y.1 0).toNat))]) (by rw [hv66]; rfl) ?_
              refine k_st S1 hu66 ?_
              refine k_sk (sk' := [.int (iI (NC Y n q))]) (congrArg (fun zz : Int => ([.int (iI zz)] : List Value)) (show (CT (fun f => ∀ k : Int, 0 ≤ k → k < n → Y.2 2 f ≤ S1.2 14 (6 * k + f)) (Y.1 0).toNat) = (NC Y n q) from ec)) ?_
              refine k_istore hE dX7_best_69 [1, 2, 3, 4, 5, 6, 0] (Nat.le_of_ble_eq_true rfl) (lo' := [(0, .ref (ad 0)), (1, .int (iI n)), (2, .int (iI x)), (3, .int (iI ag)), (4, .int (iI (Y.1 4))), (5, .int (iI b)), (6, .int (iI (NC Y n q)))]) rfl ?_
              refine k_aload_n hE dX7_best_71 0 rfl rfl ?_
              refine m_get_lawNow hE (z := q) s4 fl_X7_120 dX7_best_72 ?_
              refine k_istore hE dX7_best_75 [1, 2, 3, 4, 5, 0, 6] (Nat.le_of_ble_eq_true rfl) (lo' := [(0, .ref (ad 0)), (1, .int (iI n)), (2, .int (iI x)), (3, .int (iI ag)), (4, .int (iI (Y.1 4))), (5, .int (iI q)), (6, .int (iI (NC Y n q)))]) rfl ?_
              refine k_aload_n hE dX7_best_77 0 rfl rfl ?_
              refine k_dup hE dX7_best_78 rfl ?_
              refine m_get_lawNow hE (z := q) s4 fl_X7_120 dX7_best_79 ?_
              refine k_iconst hE dX7_best_82 ?_
              refine k_iadd hE dX7_best_83 ?_
              refine m_put_lawNow hE fl_X7_120 dX7_best_84 ?_
              refine k_st ((uv S1.1 4 (q + 1), S1.2)) rfl ?_
              refine k_goto hE 41 dX7_best_87 (by decide) ?_
              have hs := BLr_s hB q0.1 (rN q).1
              have f1 : ∀ i, i ≠ 4 → i ≠ 14 → i ≠ 19 → uv S1.1 4 (q + 1) i = st.1 i := fun i h1 h2 h3 => by rw [uv_n _ _ h1, hx_51.1 i h2 h3]; exact e1 i h1 h2 h3
              have f2 : ∀ a, (a < 12 ∨ a = 13 ∨ 17 < a) → S1.2 a = st.2 a := fun a ha => by rw [hx_51.2 a ha]; exact e2 a ha
              first
                | (rw [if_pos (by omega), if_pos (by omega)] at hs
                   exact ih41 ((uv S1.1 4 (q + 1), S1.2)) _ _ (q + 1) (by omega) (by omega) rfl f1 f2 hs)
                | (rw [if_neg (by omega), if_neg (by omega)] at hs
                   exact ih41 ((uv S1.1 4 (q + 1), S1.2)) _ _ (q + 1) (by omega) (by omega) rfl f1 f2 hs)
      exact L41 4 ((uv st.1 4 0, st.2)) 0 (-1) 0 (by omega) (by omega) rfl (fun i h1 h2 h3 => uv_n _ _ h1) (fun a _ => rfl) (Or.inl ⟨rfl, rfl, rfl⟩)
    · refine k_iload_n hE dX7_best_22 3 rfl rfl ?_
      refine k_iret hR dX7_best_23 rfl ?_
      rcases hag2 with h | h | h
      · exact ⟨_, st, rfl, rfl, Or.inl ⟨by omega, h.2⟩, MX.refl st⟩
      · exact ⟨_, st, rfl, rfl, Or.inr (Or.inl ⟨by omega, h.2⟩), MX.refl st⟩
      · omega
  · refine k_bipush hE dX7_best_9 rfl ?_
    exact k_iret hR dX7_best_11 rfl ⟨_, st, rfl, rfl, Or.inl ⟨by omega, rfl⟩, MX.refl st⟩
