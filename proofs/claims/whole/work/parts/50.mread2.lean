set_option maxHeartbeats 4000000 in
set_option maxRecDepth 100000 in
theorem c_X7_readYard {ad : Nat → Nat} {D : va_G} {cI cZ : ClassId} (st : Sg) (e : Int) (a : Int) (hv_a : st.1 10 = a) (ha : 0 ≤ a ∧ a ≤ e ∧ e ≤ 240) (hc : ∀ w : Int, a ≤ w → w < e → -2147483648 ≤ st.2 13 w ∧ st.2 13 w < 2147483648) : MC (mw ad D cI cZ) yX7_readYard cX7_readYard 4 (some .boolean) { frames := 3, cells := 0, slots := 0, locals := 69 } [.ref (ad 0), .int (iI e)] st (fun rv u => ∃ z : Int, ∃ S : Sg, rv = some (.int (iI (z))) ∧ u = S ∧ ((z = 1 ∧ FF (fun p => st.2 13 (a + p)) (e - a) (-1) ∧ S.1 11 = 10 * (st.2 13 (a + 1) - 48) + (st.2 13 (a + 2) - 48) ∧ S.1 12 = st.2 13 (a + 3) - 48 ∧ S.1 13 = (e - a - 4) / 5 ∧ ∀ f : Int, 0 ≤ f → f < (e - a - 4) / 5 → S.2 10 f = KDc (st.2 13 (a + 4 + f * 5 + 1)) ∧ S.2 11 (3 * f) = st.2 13 (a + 4 + f * 5 + 2) - 48 ∧ S.2 11 (3 * f + 1) = st.2 13 (a + 4 + f * 5 + 3) - 48 ∧ S.2 11 (3 * f + 2) = st.2 13 (a + 4 + f * 5 + 4) - 48) ∨ (z = 0 ∧ ∃ p : Int, 0 ≤ p ∧ FF (fun p => st.2 13 (a + p)) (e - a) p ∧ S.1 10 = a + p)) ∧ (∀ i, i ≠ 10 → i ≠ 11 → i ≠ 12 → i ≠ 13 → S.1 i = st.1 i) ∧ (∀ b, b ≠ 10 → b ≠ 11 → S.2 b = st.2 b)) := by
  refine MC_intro RX7 (by decide) rfl (Nat.le_of_ble_eq_true rfl) ?_
  intro G H0 m hE hR
  refine k_lo [0, 1] (lo' := [(0, .ref (ad 0)), (1, .int (iI e))]) rfl ?_
  have z0 : a + 0 = a := by omega
  refine k_aload_n hE dX7_readYard_0 0 rfl rfl ?_
  refine m_get_at hE (z := a) hv_a fl_X7_96 dX7_readYard_1 ?_
  refine k_iload_n hE dX7_readYard_4 1 rfl rfl ?_
  have hc0 : a < e → -2147483648 ≤ st.2 13 a ∧ st.2 13 a < 2147483648 := fun h => hc a (by omega) h
  refine k_icmp_ge hE 22 dX7_readYard_5 (by decide) (by unfold in32; omega) (by unfold in32; omega) (fun c5 => ?_) (fun c5 => ?_)
  · refine k_iconst hE dX7_readYard_22 ?_
    refine k_zret hR dX7_readYard_23 rfl (nar_b (by omega)) ?_
    refine ⟨_, st, rfl, rfl, Or.inr ⟨rfl, 0, by omega, FF_fail (by omega) (by omega) (fun j j0 j1 => by omega) (by omega) (fun h => ?_) (fun h => by omega), by omega⟩, fun i _ _ _ _ => rfl, fun b _ _ => rfl⟩
    have h2 : GW 0 (st.2 13 (a + 0)) := h.2
    rw [z0] at h2
    unfold GW at h2
    omega
  · refine k_aload_n hE dX7_readYard_8 0 rfl rfl ?_
    refine m_get_cells hE fl_X7_16 dX7_readYard_9 ?_
    refine k_aload_n hE dX7_readYard_12 0 rfl rfl ?_
    refine m_get_at hE (z := a) hv_a fl_X7_96 dX7_readYard_13 ?_
    refine m_ld_cells hE (z := st.2 13 a) (by omega) (by omega) rfl dX7_readYard_16 ?_
    refine k_bipush hE dX7_readYard_17 rfl ?_
    refine k_icmp_eq hE 24 dX7_readYard_19 (by decide) (by unfold in32; omega) (by unfold in32; omega) (fun c19 => ?_) (fun c19 => ?_)
    · refine k_aload_n hE dX7_readYard_24 0 rfl rfl ?_
      refine k_dup hE dX7_readYard_25 rfl ?_
      refine m_get_at hE (z := a) hv_a fl_X7_96 dX7_readYard_26 ?_
      refine k_iconst hE dX7_readYard_29 ?_
      refine k_iadd hE dX7_readYard_30 ?_
      refine m_put_at hE fl_X7_96 dX7_readYard_31 ?_
      refine k_st ((uv st.1 10 (a + 1), st.2)) rfl ?_
      have g0 : GW 0 (st.2 13 (a + 0)) := by rw [z0]; unfold GW; omega
      have d1 : (a + 1 < e ∧ 48 + 0 ≤ st.2 13 (a + 1) ∧ st.2 13 (a + 1) ≤ 57 ∧ DGm (st.2 13) (a + 1) e 0 = st.2 13 (a + 1) - 48) ∨ (¬ (a + 1 < e ∧ 48 + 0 ≤ st.2 13 (a + 1) ∧ st.2 13 (a + 1) ≤ 57) ∧ DGm (st.2 13) (a + 1) e 0 = -9) := by
        unfold DGm
        by_cases e5 : a + 1 < e ∧ 48 + 0 ≤ st.2 13 (a + 1) ∧ st.2 13 (a + 1) ≤ 57
        · exact Or.inl ⟨e5.1, e5.2.1, e5.2.2, if_pos e5⟩
        · exact Or.inr ⟨e5, if_neg e5⟩
      have d2 : (a + 2 < e ∧ 48 + 0 ≤ st.2 13 (a + 2) ∧ st.2 13 (a + 2) ≤ 57 ∧ DGm (st.2 13) (a + 2) e 0 = st.2 13 (a + 2) - 48) ∨ (¬ (a + 2 < e ∧ 48 + 0 ≤ st.2 13 (a + 2) ∧ st.2 13 (a + 2) ≤ 57) ∧ DGm (st.2 13) (a + 2) e 0 = -9) := by
        unfold DGm
        by_cases e5 : a + 2 < e ∧ 48 + 0 ≤ st.2 13 (a + 2) ∧ st.2 13 (a + 2) ≤ 57
        · exact Or.inl ⟨e5.1, e5.2.1, e5.2.2, if_pos e5⟩
        · exact Or.inr ⟨e5, if_neg e5⟩
      refine k_aload_n hE dX7_readYard_34 0 rfl rfl ?_
      refine k_aload_n hE dX7_readYard_35 0 rfl rfl ?_
      refine m_get_at hE (z := a + 1) rfl fl_X7_96 dX7_readYard_36 ?_
      refine k_iload_n hE dX7_readYard_39 1 rfl rfl ?_
      refine k_iconst hE dX7_readYard_40 ?_
      refine k_callV hE (c_X7_digitAt ((uv st.1 10 (a + 1), st.2)) (a + 1) e 0 (by omega) (by omega) (by omega) (fun h => hc _ (by omega) h)) mf_X7_digitAt ml_X7_132 0 rfl rfl rfl rfl ⟨rfl, rfl, Nat.le_of_ble_eq_true rfl, Nat.le_of_ble_eq_true rfl⟩ [] (Nat.le_of_ble_eq_true rfl) dX7_readYard_41 rfl (fun rv u hp => ?_)
      obtain ⟨hv41, hu41⟩ := hp
      refine k_sk (sk' := [.int (iI (DGm (st.2 13) (a + 1) e 0))]) (by rw [hv41]; rfl) ?_
      refine k_st ((uv st.1 10 (a + 1), st.2)) hu41 ?_
      refine k_sk (sk' := [.int (iI (DGm (st.2 13) (a + 1) e 0))]) (congrArg (fun zz : Int => ([.int (iI zz)] : List Value)) (show (DGm (st.2 13) (a + 1) e 0) = (DGm (st.2 13) (a + 1) e 0) from rfl)) ?_
      refine k_istore_n hE dX7_readYard_44 [1, 2, 0] rfl (Nat.le_of_ble_eq_true rfl) (lo' := [(0, .ref (ad 0)), (1, .int (iI e)), (2, .int (iI (DGm (st.2 13) (a + 1) e 0)))]) rfl ?_
      refine k_aload_n hE dX7_readYard_45 0 rfl rfl ?_
      refine k_aload_n hE dX7_readYard_46 0 rfl rfl ?_
      refine m_get_at hE (z := a + 1) rfl fl_X7_96 dX7_readYard_47 ?_
      refine k_iconst hE dX7_readYard_50 ?_
      refine k_iadd hE dX7_readYard_51 ?_
      refine k_iload_n hE dX7_readYard_52 1 rfl rfl ?_
      refine k_iconst hE dX7_readYard_53 ?_
      refine k_callV hE (c_X7_digitAt ((uv st.1 10 (a + 1), st.2)) ((a + 1) + 1) e 0 (by omega) (by omega) (by omega) (fun h => hc _ (by omega) h)) mf_X7_digitAt ml_X7_132 0 rfl rfl rfl rfl ⟨rfl, rfl, Nat.le_of_ble_eq_true rfl, Nat.le_of_ble_eq_true rfl⟩ [] (Nat.le_of_ble_eq_true rfl) dX7_readYard_54 rfl (fun rv u hp => ?_)
      obtain ⟨hv54, hu54⟩ := hp
      refine k_sk (sk' := [.int (iI (DGm (st.2 13) ((a + 1) + 1) e 0))]) (by rw [hv54]; rfl) ?_
      refine k_st ((uv st.1 10 (a + 1), st.2)) hu54 ?_
      refine k_sk (sk' := [.int (iI (DGm (st.2 13) (a + 2) e 0))]) (congrArg (fun zz : Int => ([.int (iI zz)] : List Value)) (show (DGm (st.2 13) ((a + 1) + 1) e 0) = (DGm (st.2 13) (a + 2) e 0) from (by rw [show a + 1 + 1 = a + 2 by omega]))) ?_
      refine k_istore_n hE dX7_readYard_57 [1, 2, 3, 0] rfl (Nat.le_of_ble_eq_true rfl) (lo' := [(0, .ref (ad 0)), (1, .int (iI e)), (2, .int (iI (DGm (st.2 13) (a + 1) e 0))), (3, .int (iI (DGm (st.2 13) (a + 2) e 0)))]) rfl ?_
      refine k_iload_n hE dX7_readYard_58 2 rfl rfl ?_
      refine k_bipush hE dX7_readYard_59 rfl ?_
      refine k_icmp_eq hE 70 dX7_readYard_61 (by decide) (by unfold in32; omega) (by unfold in32; omega) (fun c61 => ?_) (fun c61 => ?_)
      · refine k_aload_n hE dX7_readYard_70 0 rfl rfl ?_
        refine k_dup hE dX7_readYard_71 rfl ?_
        refine m_get_at hE (z := a + 1) rfl fl_X7_96 dX7_readYard_72 ?_
        refine k_iload_n hE dX7_readYard_75 2 rfl rfl ?_
        refine k_bipush hE dX7_readYard_76 rfl ?_
        refine k_icmp_ne hE 85 dX7_readYard_78 (by decide) (by unfold in32; omega) (by unfold in32; omega) (fun c78 => ?_) (fun c78 => ?_)
        · refine k_iconst hE dX7_readYard_85 ?_
          refine k_iadd hE dX7_readYard_86 ?_
          refine m_put_at hE fl_X7_96 dX7_readYard_87 ?_
          refine k_st ((uv (uv st.1 10 (a + 1)) 10 ((a + 1) + 1), st.2)) rfl ?_
          refine k_iconst hE dX7_readYard_90 ?_
          refine k_zret hR dX7_readYard_91 rfl (nar_b (by omega)) ?_
          first
            | (refine ⟨_, _, rfl, rfl, Or.inr ⟨rfl, 1, by omega, FF_fail (by omega) (by omega) (fun j j0 j1 => ?_) (by omega) (fun h => ?_) (fun h => by omega), by show a + 1 + 0 = a + 1; omega⟩, fun i h1 h2 h3 h4 => ?_, fun b _ _ => rfl⟩
               · rw [show j = 0 by omega]; exact g0
               · have h2 : GW 1 (st.2 13 (a + 1)) := h.2
                 unfold GW at h2
                 omega
               · show uv (uv st.1 10 _) 10 _ i = _
                 rw [uv_n _ _ h1, uv_n _ _ h1])
            | (refine ⟨_, _, rfl, rfl, Or.inr ⟨rfl, 2, by omega, FF_fail (by omega) (by omega) (fun j j0 j1 => ?_) (by omega) (fun h => ?_) (fun h => by omega), by show a + 1 + 1 = a + 2; omega⟩, fun i h1 h2 h3 h4 => ?_, fun b _ _ => rfl⟩
               · rcases (show j = 0 ∨ j = 1 by omega) with h | h <;> rw [h]
                 · exact g0
                 · show GW 1 (st.2 13 (a + 1))
                   unfold GW; omega
               · have h2 : GW 2 (st.2 13 (a + 2)) := h.2
                 unfold GW at h2
                 omega
               · show uv (uv st.1 10 _) 10 _ i = _
                 rw [uv_n _ _ h1, uv_n _ _ h1])
            | (exfalso; omega)
        · refine k_iconst hE dX7_readYard_81 ?_
          refine k_goto hE 86 dX7_readYard_82 (by decide) ?_
          refine k_iadd hE dX7_readYard_86 ?_
          refine m_put_at hE fl_X7_96 dX7_readYard_87 ?_
          refine k_st ((uv (uv st.1 10 (a + 1)) 10 ((a + 1) + 0), st.2)) rfl ?_
          refine k_iconst hE dX7_readYard_90 ?_
          refine k_zret hR dX7_readYard_91 rfl (nar_b (by omega)) ?_
          first
            | (refine ⟨_, _, rfl, rfl, Or.inr ⟨rfl, 1, by omega, FF_fail (by omega) (by omega) (fun j j0 j1 => ?_) (by omega) (fun h => ?_) (fun h => by omega), by show a + 1 + 0 = a + 1; omega⟩, fun i h1 h2 h3 h4 => ?_, fun b _ _ => rfl⟩
               · rw [show j = 0 by omega]; exact g0
               · have h2 : GW 1 (st.2 13 (a + 1)) := h.2
                 unfold GW at h2
                 omega
               · show uv (uv st.1 10 _) 10 _ i = _
                 rw [uv_n _ _ h1, uv_n _ _ h1])
            | (refine ⟨_, _, rfl, rfl, Or.inr ⟨rfl, 2, by omega, FF_fail (by omega) (by omega) (fun j j0 j1 => ?_) (by omega) (fun h => ?_) (fun h => by omega), by show a + 1 + 1 = a + 2; omega⟩, fun i h1 h2 h3 h4 => ?_, fun b _ _ => rfl⟩
               · rcases (show j = 0 ∨ j = 1 by omega) with h | h <;> rw [h]
                 · exact g0
                 · show GW 1 (st.2 13 (a + 1))
                   unfold GW; omega
               · have h2 : GW 2 (st.2 13 (a + 2)) := h.2
                 unfold GW at h2
                 omega
               · show uv (uv st.1 10 _) 10 _ i = _
                 rw [uv_n _ _ h1, uv_n _ _ h1])
            | (exfalso; omega)
      · refine k_iload_n hE dX7_readYard_64 3 rfl rfl ?_
        refine k_bipush hE dX7_readYard_65 rfl ?_
        refine k_icmp_ne hE 92 dX7_readYard_67 (by decide) (by unfold in32; omega) (by unfold in32; omega) (fun c67 => ?_) (fun c67 => ?_)
        · refine k_aload_n hE dX7_readYard_92 0 rfl rfl ?_
          refine k_bipush hE dX7_readYard_93 rfl ?_
          refine k_iload_n hE dX7_readYard_95 2 rfl rfl ?_
          refine k_imul hE dX7_readYard_96 ?_
          refine k_iload_n hE dX7_readYard_97 3 rfl rfl ?_
          refine k_iadd hE dX7_readYard_98 ?_
          refine m_put_readCap hE fl_X7_102 dX7_readYard_99 ?_
          refine k_st ((uv (uv st.1 10 (a + 1)) 11 ((10 * (DGm (st.2 13) (a + 1) e 0)) + (DGm (st.2 13) (a + 2) e 0)), st.2)) rfl ?_
          refine k_aload_n hE dX7_readYard_102 0 rfl rfl ?_
          refine m_get_readCap hE (z := (10 * (DGm (st.2 13) (a + 1) e 0)) + (DGm (st.2 13) (a + 2) e 0)) rfl fl_X7_102 dX7_readYard_103 ?_
          refine k_if_ne hE 111 dX7_readYard_106 (by decide) (by unfold in32; omega) (fun c106 => ?_) (fun c106 => ?_)
          · refine k_aload_n hE dX7_readYard_111 0 rfl rfl ?_
            refine k_dup hE dX7_readYard_112 rfl ?_
            refine m_get_at hE (z := a + 1) rfl fl_X7_96 dX7_readYard_113 ?_
            refine k_iconst hE dX7_readYard_116 ?_
            refine k_iadd hE dX7_readYard_117 ?_
            refine m_put_at hE fl_X7_96 dX7_readYard_118 ?_
            refine k_st ((uv (uv (uv st.1 10 (a + 1)) 11 ((10 * (DGm (st.2 13) (a + 1) e 0)) + (DGm (st.2 13) (a + 2) e 0))) 10 ((a + 1) + 2), st.2)) rfl ?_
            have d3 : (a + 3 < e ∧ 48 + 1 ≤ st.2 13 (a + 3) ∧ st.2 13 (a + 3) ≤ 57 ∧ DGm (st.2 13) (a + 3) e 1 = st.2 13 (a + 3) - 48) ∨ (¬ (a + 3 < e ∧ 48 + 1 ≤ st.2 13 (a + 3) ∧ st.2 13 (a + 3) ≤ 57) ∧ DGm (st.2 13) (a + 3) e 1 = -9) := by
              unfold DGm
              by_cases e5 : a + 3 < e ∧ 48 + 1 ≤ st.2 13 (a + 3) ∧ st.2 13 (a + 3) ≤ 57
              · exact Or.inl ⟨e5.1, e5.2.1, e5.2.2, if_pos e5⟩
              · exact Or.inr ⟨e5, if_neg e5⟩
            refine k_aload_n hE dX7_readYard_121 0 rfl rfl ?_
            refine k_aload_n hE dX7_readYard_122 0 rfl rfl ?_
            refine k_aload_n hE dX7_readYard_123 0 rfl rfl ?_
            refine m_get_at hE (z := (a + 1) + 2) rfl fl_X7_96 dX7_readYard_124 ?_
            refine k_iload_n hE dX7_readYard_127 1 rfl rfl ?_
            refine k_iconst hE dX7_readYard_128 ?_
            refine k_callV hE (c_X7_digitAt ((uv (uv (uv st.1 10 (a + 1)) 11 ((10 * (DGm (st.2 13) (a + 1) e 0)) + (DGm (st.2 13) (a + 2) e 0))) 10 ((a + 1) + 2), st.2)) ((a + 1) + 2) e 1 (by omega) (by omega) (by omega) (fun h => hc _ (by omega) h)) mf_X7_digitAt ml_X7_132 0 rfl rfl rfl rfl ⟨rfl, rfl, Nat.le_of_ble_eq_true rfl, Nat.le_of_ble_eq_true rfl⟩ [.ref (ad 0)] (Nat.le_of_ble_eq_true rfl) dX7_readYard_129 rfl (fun rv u hp => ?_)
            obtain ⟨hv129, hu129⟩ := hp
            refine k_sk (sk' := [.int (iI (DGm (st.2 13) ((a + 1) + 2) e 1)), .ref (ad 0)]) (by rw [hv129]; rfl) ?_
            refine k_st ((uv (uv (uv st.1 10 (a + 1)) 11 ((10 * (DGm (st.2 13) (a + 1) e 0)) + (DGm (st.2 13) (a + 2) e 0))) 10 ((a + 1) + 2), st.2)) hu129 ?_
            refine k_sk (sk' := [.int (iI (DGm (st.2 13) (a + 3) e 1)), .ref (ad 0)]) (congrArg (fun zz : Int => ([.int (iI zz), .ref (ad 0)] : List Value)) (show (DGm (st.2 13) ((a + 1) + 2) e 1) = (DGm (st.2 13) (a + 3) e 1) from (by rw [show a + 1 + 2 = a + 3 by omega]))) ?_
            refine m_put_readPer hE fl_X7_108 dX7_readYard_132 ?_
            refine k_st ((uv (uv (uv (uv st.1 10 (a + 1)) 11 ((10 * (DGm (st.2 13) (a + 1) e 0)) + (DGm (st.2 13) (a + 2) e 0))) 10 ((a + 1) + 2)) 12 (DGm (st.2 13) (a + 3) e 1), st.2)) rfl ?_
            refine k_aload_n hE dX7_readYard_135 0 rfl rfl ?_
            refine m_get_readPer hE (z := DGm (st.2 13) (a + 3) e 1) rfl fl_X7_108 dX7_readYard_136 ?_
            refine k_bipush hE dX7_readYard_139 rfl ?_
            refine k_icmp_ne hE 146 dX7_readYard_141 (by decide) (by unfold in32; omega) (by unfold in32; omega) (fun c141 => ?_) (fun c141 => ?_)
            · refine k_aload_n hE dX7_readYard_146 0 rfl rfl ?_
              refine k_dup hE dX7_readYard_147 rfl ?_
              refine m_get_at hE (z := (a + 1) + 2) rfl fl_X7_96 dX7_readYard_148 ?_
              refine k_iconst hE dX7_readYard_151 ?_
              refine k_iadd hE dX7_readYard_152 ?_
              refine m_put_at hE fl_X7_96 dX7_readYard_153 ?_
              refine k_st ((uv (uv (uv (uv (uv st.1 10 (a + 1)) 11 ((10 * (DGm (st.2 13) (a + 1) e 0)) + (DGm (st.2 13) (a + 2) e 0))) 10 ((a + 1) + 2)) 12 (DGm (st.2 13) (a + 3) e 1)) 10 (((a + 1) + 2) + 1), st.2)) rfl ?_
              have gw4 : ∀ j : Int, 0 ≤ j → j < 4 → GW j (st.2 13 (a + j)) := fun j j0 j1 => by
                rcases (show j = 0 ∨ j = 1 ∨ j = 2 ∨ j = 3 by omega) with h | h | h | h <;> rw [h]
                · exact g0
                · unfold GW; omega
                · unfold GW; omega
                · unfold GW; omega
              refine k_aload_n hE dX7_readYard_156 0 rfl rfl ?_
              refine k_iconst hE dX7_readYard_157 ?_
              refine m_put_readTaps hE fl_X7_114 dX7_readYard_158 ?_
              refine k_st ((uv (uv (uv (uv (uv (uv st.1 10 (a + 1)) 11 ((10 * (DGm (st.2 13) (a + 1) e 0)) + (DGm (st.2 13) (a + 2) e 0))) 10 ((a + 1) + 2)) 12 (DGm (st.2 13) (a + 3) e 1)) 10 (((a + 1) + 2) + 1)) 13 0, st.2)) rfl ?_
              refine k_lo [0, 1] (lo' := [(0, .ref (ad 0)), (1, .int (iI e))]) rfl ?_
              have L161 : ∀ (fu161 : Nat) (S : Sg) (t : Int), (0 ≤ t ∧ t ≤ 6) → (a + 4 + t * 5 ≤ e) → (7 - t < fu161) → (S.1 10 = a + 4 + t * 5) → (S.1 13 = t) → (S.1 11 = 10 * (st.2 13 (a + 1) - 48) + (st.2 13 (a + 2) - 48)) → (S.1 12 = st.2 13 (a + 3) - 48) → (∀ i, i ≠ 10 → i ≠ 11 → i ≠ 12 → i ≠ 13 → S.1 i = st.1 i) → (∀ b, b ≠ 10 → b ≠ 11 → S.2 b = st.2 b) → (∀ j : Int, 0 ≤ j → j < 4 + t * 5 → GW j (st.2 13 (a + j))) → (¬ (st.2 13 (a + 1) = 48 ∧ st.2 13 (a + 2) = 48)) → (∀ f : Int, 0 ≤ f → f < t → S.2 10 f = KDc (st.2 13 (a + 4 + f * 5 + 1)) ∧ S.2 11 (3 * f) = st.2 13 (a + 4 + f * 5 + 2) - 48 ∧ S.2 11 (3 * f + 1) = st.2 13 (a + 4 + f * 5 + 3) - 48 ∧ S.2 11 (3 * f + 2) = st.2 13 (a + 4 + f * 5 + 4) - 48) → KW (mw ad D cI cZ) G H0 m 4 S 161 [(0, .ref (ad 0)), (1, .int (iI e))] [] := by
                intro fu161
                induction fu161 with
                | zero =>
                  intro S t q0 qe q1 s10 s13 s11 s12 f1 f2 sg nz se
                  omega
                | succ fu161 ih161 =>
                  intro S t q0 qe q1 s10 s13 s11 s12 f1 f2 sg nz se
                  have c13 : S.2 13 = st.2 13 := f2 13 (by decide) (by decide)
                  refine k_aload_n hE dX7_readYard_161 0 rfl rfl ?_
                  refine m_get_readTaps hE (z := t) s13 fl_X7_114 dX7_readYard_162 ?_
                  refine k_if_eq hE 176 dX7_readYard_165 (by decide) (by unfold in32; omega) (fun c165 => ?_) (fun c165 => ?_)
                  · refine k_aload_n hE dX7_readYard_176 0 rfl rfl ?_
                    refine m_get_readTaps hE (z := t) s13 fl_X7_114 dX7_readYard_177 ?_
                    refine k_bipush hE dX7_readYard_180 rfl ?_
                    refine k_icmp_eq hE 207 dX7_readYard_182 (by decide) (by unfold in32; omega) (by unfold in32; omega) (fun c182 => ?_) (fun c182 => ?_)
                    · refine k_iconst hE dX7_readYard_207 ?_
                      refine k_zret hR dX7_readYard_208 rfl (nar_b (by omega)) ?_
                      refine ⟨_, S, rfl, rfl, Or.inr ⟨rfl, 4 + t * 5, by omega, FF_fail (by omega) (by omega) sg (fun h => nz h.2) (fun h => ?_) (fun h => by omega), by rw [s10]; omega⟩, f1, f2⟩
                      have h2 : GW (4 + t * 5) (st.2 13 (a + (4 + t * 5))) := h.2
                      rw [show a + (4 + t * 5) = a + 4 + t * 5 by omega] at h2
                      unfold GW at h2
                      unfold TG at h2
                      omega
                    · refine k_aload_n hE dX7_readYard_185 0 rfl rfl ?_
                      refine m_get_at hE (z := a + 4 + t * 5) s10 fl_X7_96 dX7_readYard_186 ?_
                      refine k_iload_n hE dX7_readYard_189 1 rfl rfl ?_
                      refine k_icmp_ge hE 207 dX7_readYard_190 (by decide) (by unfold in32; omega) (by unfold in32; omega) (fun c190 => ?_) (fun c190 => ?_)
                      · refine k_iconst hE dX7_readYard_207 ?_
                        refine k_zret hR dX7_readYard_208 rfl (nar_b (by omega)) ?_
                        refine ⟨_, S, rfl, rfl, Or.inr ⟨rfl, 4 + t * 5, by omega, FF_fail (by omega) (by omega) sg (fun h => nz h.2) (fun h => ?_) (fun h => by omega), by rw [s10]; omega⟩, f1, f2⟩
                        have h2 : GW (4 + t * 5) (st.2 13 (a + (4 + t * 5))) := h.2
                        rw [show a + (4 + t * 5) = a + 4 + t * 5 by omega] at h2
                        unfold GW at h2
                        unfold TG at h2
                        omega
                      · refine k_aload_n hE dX7_readYard_193 0 rfl rfl ?_
                        refine m_get_cells hE fl_X7_16 dX7_readYard_194 ?_
                        refine k_aload_n hE dX7_readYard_197 0 rfl rfl ?_
                        refine m_get_at hE (z := a + 4 + t * 5) s10 fl_X7_96 dX7_readYard_198 ?_
                        have hca := hc (a + 4 + t * 5) (by omega) (by omega)
                        refine m_ld_cells hE (z := st.2 13 (a + 4 + t * 5)) (by omega) (by omega) (by rw [c13]) dX7_readYard_201 ?_
                        refine k_bipush hE dX7_readYard_202 rfl ?_
                        refine k_icmp_eq hE 209 dX7_readYard_204 (by decide) (by unfold in32; omega) (by unfold in32; omega) (fun c204 => ?_) (fun c204 => ?_)
                        · have c59 : st.2 13 (a + 4 + t * 5) = 59 := by omega
                          refine k_aload_n hE dX7_readYard_209 0 rfl rfl ?_
                          refine k_dup hE dX7_readYard_210 rfl ?_
                          refine m_get_at hE (z := a + 4 + t * 5) s10 fl_X7_96 dX7_readYard_211 ?_
                          refine k_iconst hE dX7_readYard_214 ?_
                          refine k_iadd hE dX7_readYard_215 ?_
                          refine m_put_at hE fl_X7_96 dX7_readYard_216 ?_
                          refine k_st ((uv S.1 10 ((a + 4 + t * 5) + 1), S.2)) rfl ?_
                          refine k_aload_n hE dX7_readYard_219 0 rfl rfl ?_
                          refine k_iload_n hE dX7_readYard_220 1 rfl rfl ?_
                          refine k_callV hE (c_X7_readTap ((uv S.1 10 ((a + 4 + t * 5) + 1), S.2)) e ((a + 4 + t * 5) + 1) t rfl s13 (by omega) (by omega) (by omega) (fun w w0 w1 => by dsimp only; rw [c13]; exact hc w (by omega) w1)) mf_X7_readTap ml_X7_136 0 rfl rfl rfl rfl ⟨rfl, rfl, Nat.le_of_ble_eq_true rfl, Nat.le_of_ble_eq_true rfl⟩ [] (Nat.le_of_ble_eq_true rfl) dX7_readYard_221 rfl (fun rv u hp => ?_)
                          obtain ⟨zt, S5, hv221, hu221, hz_221, f1_221, f2_221, fk_221, fd_221⟩ := hp
                          try dsimp only at hz_221 f1_221 f2_221 fk_221 fd_221
                          refine k_sk (sk' := [.int (iI zt)]) (by rw [hv221]; rfl) ?_
                          refine k_st S5 hu221 ?_
                          refine k_if_ne hE 161 dX7_readYard_224 (by decide) (by unfold in32; omega) (fun c224 => ?_) (fun c224 => ?_)
                          · rcases hz_221 with h | h
                            · obtain ⟨h1, h2, h3, h4, h5, h6, h7, h8, h9, h10, h11, h12⟩ := h
                              refine ih161 S5 (t + 1) (by omega) (by omega) (by omega) (by rw [h7]; omega) h8 (by rw [f1_221 11 (by decide) (by decide)]; exact s11) (by rw [f1_221 12 (by decide) (by decide)]; exact s12) (fun i i1 i2 i3 i4 => by rw [f1_221 i i1 i4]; show uv S.1 10 _ i = _; rw [uv_n _ _ i1]; exact f1 i i1 i2 i3 i4) (fun b b1 b2 => (f2_221 b b1 b2).trans (f2 b b1 b2)) (fun j j0 j1 => ?_) nz (fun f f0 f1' => ?_)
                              · by_cases e5 : j < 4 + t * 5
                                · exact sg j j0 e5
                                · rw [c13] at h3 h4 h5 h6
                                  rcases (show j = 4 + t * 5 ∨ j = 4 + t * 5 + 1 ∨ j = 4 + t * 5 + 2 ∨ j = 4 + t * 5 + 3 ∨ j = 4 + t * 5 + 4 by omega) with e6 | e6 | e6 | e6 | e6
                                  · rw [GW_tap (t := 0) (by omega) (by omega) (by omega), e6, show a + (4 + t * 5) = a + 4 + t * 5 by omega]; exact Or.inl ⟨rfl, c59⟩
                                  · rw [GW_tap (t := 1) (by omega) (by omega) (by omega), e6, show a + (4 + t * 5 + 1) = a + 4 + t * 5 + 1 by omega]; exact h3
                                  · rw [GW_tap (t := 2) (by omega) (by omega) (by omega), e6, show a + (4 + t * 5 + 2) = a + 4 + t * 5 + 1 + 1 by omega]; exact h4
                                  · rw [GW_tap (t := 3) (by omega) (by omega) (by omega), e6, show a + (4 + t * 5 + 3) = a + 4 + t * 5 + 1 + 2 by omega]; exact h5
                                  · rw [GW_tap (t := 4) (by omega) (by omega) (by omega), e6, show a + (4 + t * 5 + 4) = a + 4 + t * 5 + 1 + 3 by omega]; exact h6
                              · by_cases e5 : f = t
                                · rw [c13] at h9 h10 h11 h12
                                  rw [e5]
                                  refine ⟨h9, ?_, ?_, ?_⟩
                                  · rw [h10, show a + 4 + t * 5 + 1 + 1 = a + 4 + t * 5 + 2 by omega]
                                  · rw [h11, show a + 4 + t * 5 + 1 + 2 = a + 4 + t * 5 + 3 by omega]
                                  · rw [h12, show a + 4 + t * 5 + 1 + 3 = a + 4 + t * 5 + 4 by omega]
                                · have se5 := se f f0 (by omega)
                                  rw [fk_221 f e5, fd_221 (3 * f) (by omega), fd_221 (3 * f + 1) (by omega), fd_221 (3 * f + 2) (by omega)]
                                  exact se5
                            · omega
                          · refine k_iconst hE dX7_readYard_227 ?_
                            refine k_zret hR dX7_readYard_228 rfl (nar_b (by omega)) ?_
                            rcases hz_221 with h | h
                            · omega
                            · obtain ⟨h1, p, p0, p1, p2, p3, p4⟩ := h
                              rw [c13] at p3 p4
                              refine ⟨_, S5, rfl, rfl, Or.inr ⟨rfl, 4 + t * 5 + 1 + p, by omega, FF_fail (by omega) ?_ (fun j j0 j1 => ?_) (fun h => nz h.2) (fun h => ?_) (fun h => by omega), by rw [p2]; omega⟩, fun i i1 i2 i3 i4 => by rw [f1_221 i i1 i4]; show uv S.1 10 _ i = _; rw [uv_n _ _ i1]; exact f1 i i1 i2 i3 i4, fun b b1 b2 => (f2_221 b b1 b2).trans (f2 b b1 b2)⟩
                              · by_cases e5 : p = 0
                                · omega
                                · have h5 := p3 (p - 1) (by omega) (by omega); omega
                              · by_cases e5 : j < 4 + t * 5
                                · exact sg j j0 e5
                                · by_cases e6 : j = 4 + t * 5
                                  · show GW j (st.2 13 (a + j))
                                    rw [GW_tap (t := 0) (by omega) (by omega) (by omega), e6, show a + (4 + t * 5) = a + 4 + t * 5 by omega]; exact Or.inl ⟨rfl, c59⟩
                                  · have h5 := (p3 (j - (4 + t * 5 + 1)) (by omega) (by omega)).2
                                    rw [show a + 4 + t * 5 + 1 + (j - (4 + t * 5 + 1)) = a + j by omega] at h5
                                    show GW j (st.2 13 (a + j))
                                    rw [GW_tap (t := j - (4 + t * 5 + 1) + 1) (by omega) (by omega) (by omega)]; exact h5
                              · have h2 : GW (4 + t * 5 + 1 + p) (st.2 13 (a + (4 + t * 5 + 1 + p))) := h.2
                                rw [GW_tap (t := p + 1) (by omega) (by omega) (by omega), show a + (4 + t * 5 + 1 + p) = a + 4 + t * 5 + 1 + p by omega] at h2
                                exact p4 ⟨by omega, h2⟩
                        · refine k_iconst hE dX7_readYard_207 ?_
                          refine k_zret hR dX7_readYard_208 rfl (nar_b (by omega)) ?_
                          refine ⟨_, S, rfl, rfl, Or.inr ⟨rfl, 4 + t * 5, by omega, FF_fail (by omega) (by omega) sg (fun h => nz h.2) (fun h => ?_) (fun h => by omega), by rw [s10]; omega⟩, f1, f2⟩
                          have h2 : GW (4 + t * 5) (st.2 13 (a + (4 + t * 5))) := h.2
                          rw [show a + (4 + t * 5) = a + 4 + t * 5 by omega] at h2
                          unfold GW at h2
                          unfold TG at h2
                          omega
                  · refine k_aload_n hE dX7_readYard_168 0 rfl rfl ?_
                    refine m_get_at hE (z := a + 4 + t * 5) s10 fl_X7_96 dX7_readYard_169 ?_
                    refine k_iload_n hE dX7_readYard_172 1 rfl rfl ?_
                    refine k_icmp_ge hE 229 dX7_readYard_173 (by decide) (by unfold in32; omega) (by unfold in32; omega) (fun c173 => ?_) (fun c173 => ?_)
                    · refine k_iconst hE dX7_readYard_229 ?_
                      refine k_zret hR dX7_readYard_230 rfl (nar_b (by omega)) ?_
                      have en : (e - a - 4) / 5 = t := by omega
                      refine ⟨_, S, rfl, rfl, Or.inl ⟨rfl, Or.inr (Or.inr (Or.inr ⟨fun j j0 j1 => sg j j0 (by omega), fun h => nz h.2, by omega, by omega, rfl⟩)), s11, s12, by rw [en]; exact s13, fun f f0 f1' => se f f0 (by omega)⟩, f1, f2⟩
                    · refine k_aload_n hE dX7_readYard_176 0 rfl rfl ?_
                      refine m_get_readTaps hE (z := t) s13 fl_X7_114 dX7_readYard_177 ?_
                      refine k_bipush hE dX7_readYard_180 rfl ?_
                      refine k_icmp_eq hE 207 dX7_readYard_182 (by decide) (by unfold in32; omega) (by unfold in32; omega) (fun c182 => ?_) (fun c182 => ?_)
                      · refine k_iconst hE dX7_readYard_207 ?_
                        refine k_zret hR dX7_readYard_208 rfl (nar_b (by omega)) ?_
                        refine ⟨_, S, rfl, rfl, Or.inr ⟨rfl, 4 + t * 5, by omega, FF_fail (by omega) (by omega) sg (fun h => nz h.2) (fun h => ?_) (fun h => by omega), by rw [s10]; omega⟩, f1, f2⟩
                        have h2 : GW (4 + t * 5) (st.2 13 (a + (4 + t * 5))) := h.2
                        rw [show a + (4 + t * 5) = a + 4 + t * 5 by omega] at h2
                        unfold GW at h2
                        unfold TG at h2
                        omega
                      · refine k_aload_n hE dX7_readYard_185 0 rfl rfl ?_
                        refine m_get_at hE (z := a + 4 + t * 5) s10 fl_X7_96 dX7_readYard_186 ?_
                        refine k_iload_n hE dX7_readYard_189 1 rfl rfl ?_
                        refine k_icmp_ge hE 207 dX7_readYard_190 (by decide) (by unfold in32; omega) (by unfold in32; omega) (fun c190 => ?_) (fun c190 => ?_)
                        · refine k_iconst hE dX7_readYard_207 ?_
                          refine k_zret hR dX7_readYard_208 rfl (nar_b (by omega)) ?_
                          refine ⟨_, S, rfl, rfl, Or.inr ⟨rfl, 4 + t * 5, by omega, FF_fail (by omega) (by omega) sg (fun h => nz h.2) (fun h => ?_) (fun h => by omega), by rw [s10]; omega⟩, f1, f2⟩
                          have h2 : GW (4 + t * 5) (st.2 13 (a + (4 + t * 5))) := h.2
                          rw [show a + (4 + t * 5) = a + 4 + t * 5 by omega] at h2
                          unfold GW at h2
                          unfold TG at h2
                          omega
                        · refine k_aload_n hE dX7_readYard_193 0 rfl rfl ?_
                          refine m_get_cells hE fl_X7_16 dX7_readYard_194 ?_
                          refine k_aload_n hE dX7_readYard_197 0 rfl rfl ?_
                          refine m_get_at hE (z := a + 4 + t * 5) s10 fl_X7_96 dX7_readYard_198 ?_
                          have hca := hc (a + 4 + t * 5) (by omega) (by omega)
                          refine m_ld_cells hE (z := st.2 13 (a + 4 + t * 5)) (by omega) (by omega) (by rw [c13]) dX7_readYard_201 ?_
                          refine k_bipush hE dX7_readYard_202 rfl ?_
                          refine k_icmp_eq hE 209 dX7_readYard_204 (by decide) (by unfold in32; omega) (by unfold in32; omega) (fun c204 => ?_) (fun c204 => ?_)
                          · have c59 : st.2 13 (a + 4 + t * 5) = 59 := by omega
                            refine k_aload_n hE dX7_readYard_209 0 rfl rfl ?_
                            refine k_dup hE dX7_readYard_210 rfl ?_
                            refine m_get_at hE (z := a + 4 + t * 5) s10 fl_X7_96 dX7_readYard_211 ?_
                            refine k_iconst hE dX7_readYard_214 ?_
                            refine k_iadd hE dX7_readYard_215 ?_
                            refine m_put_at hE fl_X7_96 dX7_readYard_216 ?_
                            refine k_st ((uv S.1 10 ((a + 4 + t * 5) + 1), S.2)) rfl ?_
                            refine k_aload_n hE dX7_readYard_219 0 rfl rfl ?_
                            refine k_iload_n hE dX7_readYard_220 1 rfl rfl ?_
                            refine k_callV hE (c_X7_readTap ((uv S.1 10 ((a + 4 + t * 5) + 1), S.2)) e ((a + 4 + t * 5) + 1) t rfl s13 (by omega) (by omega) (by omega) (fun w w0 w1 => by dsimp only; rw [c13]; exact hc w (by omega) w1)) mf_X7_readTap ml_X7_136 0 rfl rfl rfl rfl ⟨rfl, rfl, Nat.le_of_ble_eq_true rfl, Nat.le_of_ble_eq_true rfl⟩ [] (Nat.le_of_ble_eq_true rfl) dX7_readYard_221 rfl (fun rv u hp => ?_)
                            obtain ⟨zt, S5, hv221, hu221, hz_221, f1_221, f2_221, fk_221, fd_221⟩ := hp
                            try dsimp only at hz_221 f1_221 f2_221 fk_221 fd_221
                            refine k_sk (sk' := [.int (iI zt)]) (by rw [hv221]; rfl) ?_
                            refine k_st S5 hu221 ?_
                            refine k_if_ne hE 161 dX7_readYard_224 (by decide) (by unfold in32; omega) (fun c224 => ?_) (fun c224 => ?_)
                            · rcases hz_221 with h | h
                              · obtain ⟨h1, h2, h3, h4, h5, h6, h7, h8, h9, h10, h11, h12⟩ := h
                                refine ih161 S5 (t + 1) (by omega) (by omega) (by omega) (by rw [h7]; omega) h8 (by rw [f1_221 11 (by decide) (by decide)]; exact s11) (by rw [f1_221 12 (by decide) (by decide)]; exact s12) (fun i i1 i2 i3 i4 => by rw [f1_221 i i1 i4]; show uv S.1 10 _ i = _; rw [uv_n _ _ i1]; exact f1 i i1 i2 i3 i4) (fun b b1 b2 => (f2_221 b b1 b2).trans (f2 b b1 b2)) (fun j j0 j1 => ?_) nz (fun f f0 f1' => ?_)
                                · by_cases e5 : j < 4 + t * 5
                                  · exact sg j j0 e5
                                  · rw [c13] at h3 h4 h5 h6
                                    rcases (show j = 4 + t * 5 ∨ j = 4 + t * 5 + 1 ∨ j = 4 + t * 5 + 2 ∨ j = 4 + t * 5 + 3 ∨ j = 4 + t * 5 + 4 by omega) with e6 | e6 | e6 | e6 | e6
                                    · rw [GW_tap (t := 0) (by omega) (by omega) (by omega), e6, show a + (4 + t * 5) = a + 4 + t * 5 by omega]; exact Or.inl ⟨rfl, c59⟩
                                    · rw [GW_tap (t := 1) (by omega) (by omega) (by omega), e6, show a + (4 + t * 5 + 1) = a + 4 + t * 5 + 1 by omega]; exact h3
                                    · rw [GW_tap (t := 2) (by omega) (by omega) (by omega), e6, show a + (4 + t * 5 + 2) = a + 4 + t * 5 + 1 + 1 by omega]; exact h4
                                    · rw [GW_tap (t := 3) (by omega) (by omega) (by omega), e6, show a + (4 + t * 5 + 3) = a + 4 + t * 5 + 1 + 2 by omega]; exact h5
                                    · rw [GW_tap (t := 4) (by omega) (by omega) (by omega), e6, show a + (4 + t * 5 + 4) = a + 4 + t * 5 + 1 + 3 by omega]; exact h6
                                · by_cases e5 : f = t
                                  · rw [c13] at h9 h10 h11 h12
                                    rw [e5]
                                    refine ⟨h9, ?_, ?_, ?_⟩
                                    · rw [h10, show a + 4 + t * 5 + 1 + 1 = a + 4 + t * 5 + 2 by omega]
                                    · rw [h11, show a + 4 + t * 5 + 1 + 2 = a + 4 + t * 5 + 3 by omega]
                                    · rw [h12, show a + 4 + t * 5 + 1 + 3 = a + 4 + t * 5 + 4 by omega]
                                  · have se5 := se f f0 (by omega)
                                    rw [fk_221 f e5, fd_221 (3 * f) (by omega), fd_221 (3 * f + 1) (by omega), fd_221 (3 * f + 2) (by omega)]
                                    exact se5
                              · omega
                            · refine k_iconst hE dX7_readYard_227 ?_
                              refine k_zret hR dX7_readYard_228 rfl (nar_b (by omega)) ?_
                              rcases hz_221 with h | h
                              · omega
                              · obtain ⟨h1, p, p0, p1, p2, p3, p4⟩ := h
                                rw [c13] at p3 p4
                                refine ⟨_, S5, rfl, rfl, Or.inr ⟨rfl, 4 + t * 5 + 1 + p, by omega, FF_fail (by omega) ?_ (fun j j0 j1 => ?_) (fun h => nz h.2) (fun h => ?_) (fun h => by omega), by rw [p2]; omega⟩, fun i i1 i2 i3 i4 => by rw [f1_221 i i1 i4]; show uv S.1 10 _ i = _; rw [uv_n _ _ i1]; exact f1 i i1 i2 i3 i4, fun b b1 b2 => (f2_221 b b1 b2).trans (f2 b b1 b2)⟩
                                · by_cases e5 : p = 0
                                  · omega
                                  · have h5 := p3 (p - 1) (by omega) (by omega); omega
                                · by_cases e5 : j < 4 + t * 5
                                  · exact sg j j0 e5
                                  · by_cases e6 : j = 4 + t * 5
                                    · show GW j (st.2 13 (a + j))
                                      rw [GW_tap (t := 0) (by omega) (by omega) (by omega), e6, show a + (4 + t * 5) = a + 4 + t * 5 by omega]; exact Or.inl ⟨rfl, c59⟩
                                    · have h5 := (p3 (j - (4 + t * 5 + 1)) (by omega) (by omega)).2
                                      rw [show a + 4 + t * 5 + 1 + (j - (4 + t * 5 + 1)) = a + j by omega] at h5
                                      show GW j (st.2 13 (a + j))
                                      rw [GW_tap (t := j - (4 + t * 5 + 1) + 1) (by omega) (by omega) (by omega)]; exact h5
                                · have h2 : GW (4 + t * 5 + 1 + p) (st.2 13 (a + (4 + t * 5 + 1 + p))) := h.2
                                  rw [GW_tap (t := p + 1) (by omega) (by omega) (by omega), show a + (4 + t * 5 + 1 + p) = a + 4 + t * 5 + 1 + p by omega] at h2
                                  exact p4 ⟨by omega, h2⟩
                          · refine k_iconst hE dX7_readYard_207 ?_
                            refine k_zret hR dX7_readYard_208 rfl (nar_b (by omega)) ?_
                            refine ⟨_, S, rfl, rfl, Or.inr ⟨rfl, 4 + t * 5, by omega, FF_fail (by omega) (by omega) sg (fun h => nz h.2) (fun h => ?_) (fun h => by omega), by rw [s10]; omega⟩, f1, f2⟩
                            have h2 : GW (4 + t * 5) (st.2 13 (a + (4 + t * 5))) := h.2
                            rw [show a + (4 + t * 5) = a + 4 + t * 5 by omega] at h2
                            unfold GW at h2
                            unfold TG at h2
                            omega
              exact L161 9 ((uv (uv (uv (uv (uv (uv st.1 10 (a + 1)) 11 ((10 * (DGm (st.2 13) (a + 1) e 0)) + (DGm (st.2 13) (a + 2) e 0))) 10 ((a + 1) + 2)) 12 (DGm (st.2 13) (a + 3) e 1)) 10 (((a + 1) + 2) + 1)) 13 0, st.2)) 0 (by omega) (by omega) (by omega) (by show a + 1 + 2 + 1 = a + 4 + 0 * 5; omega) rfl (by show 10 * DGm (st.2 13) (a + 1) e 0 + DGm (st.2 13) (a + 2) e 0 = _; omega) (by show DGm (st.2 13) (a + 3) e 1 = _; omega) (fun i h1 h2 h3 h4 => by dsimp only; (repeat rw [uv_n _ _ (by assumption)])) (fun b _ _ => rfl) (fun j j0 j1 => gw4 j j0 (by omega)) (by omega) (fun f f0 f1 => by omega)
            · refine k_iconst hE dX7_readYard_144 ?_
              refine k_zret hR dX7_readYard_145 rfl (nar_b (by omega)) ?_
              refine ⟨_, _, rfl, rfl, Or.inr ⟨rfl, 3, by omega, FF_fail (by omega) (by omega) (fun j j0 j1 => ?_) (show ¬ (2 < 3 ∧ st.2 13 (a + 1) = 48 ∧ st.2 13 (a + 2) = 48) by omega) (fun h => ?_) (fun h => by omega), by show a + 1 + 2 = a + 3; omega⟩, fun i h1 h2 h3 h4 => ?_, fun b _ _ => rfl⟩
              · rcases (show j = 0 ∨ j = 1 ∨ j = 2 by omega) with h | h | h <;> rw [h]
                · exact g0
                · show GW 1 (st.2 13 (a + 1))
                  unfold GW; omega
                · show GW 2 (st.2 13 (a + 2))
                  unfold GW; omega
              · have h2 : GW 3 (st.2 13 (a + 3)) := h.2
                unfold GW at h2
                omega
              · show uv (uv (uv (uv st.1 10 _) 11 _) 10 _) 12 _ i = _
                rw [uv_n _ _ h3, uv_n _ _ h1, uv_n _ _ h2, uv_n _ _ h1]
          · refine k_iconst hE dX7_readYard_109 ?_
            refine k_zret hR dX7_readYard_110 rfl (nar_b (by omega)) ?_
            refine ⟨_, _, rfl, rfl, Or.inr ⟨rfl, 1, by omega, Or.inr (Or.inl ⟨by omega, fun j j0 j1 => ?_, (show st.2 13 (a + 1) = 48 by omega), (show st.2 13 (a + 2) = 48 by omega), rfl⟩), rfl⟩, fun i h1 h2 h3 h4 => ?_, fun b _ _ => rfl⟩
            · rcases (show j = 0 ∨ j = 1 ∨ j = 2 by omega) with h | h | h <;> rw [h]
              · exact g0
              · show GW 1 (st.2 13 (a + 1))
                unfold GW; omega
              · show GW 2 (st.2 13 (a + 2))
                unfold GW; omega
            · show uv (uv st.1 10 _) 11 _ i = _
              rw [uv_n _ _ h2, uv_n _ _ h1]
        · refine k_aload_n hE dX7_readYard_70 0 rfl rfl ?_
          refine k_dup hE dX7_readYard_71 rfl ?_
          refine m_get_at hE (z := a + 1) rfl fl_X7_96 dX7_readYard_72 ?_
          refine k_iload_n hE dX7_readYard_75 2 rfl rfl ?_
          refine k_bipush hE dX7_readYard_76 rfl ?_
          refine k_icmp_ne hE 85 dX7_readYard_78 (by decide) (by unfold in32; omega) (by unfold in32; omega) (fun c78 => ?_) (fun c78 => ?_)
          · refine k_iconst hE dX7_readYard_85 ?_
            refine k_iadd hE dX7_readYard_86 ?_
            refine m_put_at hE fl_X7_96 dX7_readYard_87 ?_
            refine k_st ((uv (uv st.1 10 (a + 1)) 10 ((a + 1) + 1), st.2)) rfl ?_
            refine k_iconst hE dX7_readYard_90 ?_
            refine k_zret hR dX7_readYard_91 rfl (nar_b (by omega)) ?_
            first
              | (refine ⟨_, _, rfl, rfl, Or.inr ⟨rfl, 1, by omega, FF_fail (by omega) (by omega) (fun j j0 j1 => ?_) (by omega) (fun h => ?_) (fun h => by omega), by show a + 1 + 0 = a + 1; omega⟩, fun i h1 h2 h3 h4 => ?_, fun b _ _ => rfl⟩
                 · rw [show j = 0 by omega]; exact g0
                 · have h2 : GW 1 (st.2 13 (a + 1)) := h.2
                   unfold GW at h2
                   omega
                 · show uv (uv st.1 10 _) 10 _ i = _
                   rw [uv_n _ _ h1, uv_n _ _ h1])
              | (refine ⟨_, _, rfl, rfl, Or.inr ⟨rfl, 2, by omega, FF_fail (by omega) (by omega) (fun j j0 j1 => ?_) (by omega) (fun h => ?_) (fun h => by omega), by show a + 1 + 1 = a + 2; omega⟩, fun i h1 h2 h3 h4 => ?_, fun b _ _ => rfl⟩
                 · rcases (show j = 0 ∨ j = 1 by omega) with h | h <;> rw [h]
                   · exact g0
                   · show GW 1 (st.2 13 (a + 1))
                     unfold GW; omega
                 · have h2 : GW 2 (st.2 13 (a + 2)) := h.2
                   unfold GW at h2
                   omega
                 · show uv (uv st.1 10 _) 10 _ i = _
                   rw [uv_n _ _ h1, uv_n _ _ h1])
              | (exfalso; omega)
          · refine k_iconst hE dX7_readYard_81 ?_
            refine k_goto hE 86 dX7_readYard_82 (by decide) ?_
            refine k_iadd hE dX7_readYard_86 ?_
            refine m_put_at hE fl_X7_96 dX7_readYard_87 ?_
            refine k_st ((uv (uv st.1 10 (a + 1)) 10 ((a + 1) + 0), st.2)) rfl ?_
            refine k_iconst hE dX7_readYard_90 ?_
            refine k_zret hR dX7_readYard_91 rfl (nar_b (by omega)) ?_
            first
              | (refine ⟨_, _, rfl, rfl, Or.inr ⟨rfl, 1, by omega, FF_fail (by omega) (by omega) (fun j j0 j1 => ?_) (by omega) (fun h => ?_) (fun h => by omega), by show a + 1 + 0 = a + 1; omega⟩, fun i h1 h2 h3 h4 => ?_, fun b _ _ => rfl⟩
                 · rw [show j = 0 by omega]; exact g0
                 · have h2 : GW 1 (st.2 13 (a + 1)) := h.2
                   unfold GW at h2
                   omega
                 · show uv (uv st.1 10 _) 10 _ i = _
                   rw [uv_n _ _ h1, uv_n _ _ h1])
              | (refine ⟨_, _, rfl, rfl, Or.inr ⟨rfl, 2, by omega, FF_fail (by omega) (by omega) (fun j j0 j1 => ?_) (by omega) (fun h => ?_) (fun h => by omega), by show a + 1 + 1 = a + 2; omega⟩, fun i h1 h2 h3 h4 => ?_, fun b _ _ => rfl⟩
                 · rcases (show j = 0 ∨ j = 1 by omega) with h | h <;> rw [h]
                   · exact g0
                   · show GW 1 (st.2 13 (a + 1))
                     unfold GW; omega
                 · have h2 : GW 2 (st.2 13 (a + 2)) := h.2
                   unfold GW at h2
                   omega
                 · show uv (uv st.1 10 _) 10 _ i = _
                   rw [uv_n _ _ h1, uv_n _ _ h1])
              | (exfalso; omega)
    · refine k_iconst hE dX7_readYard_22 ?_
      refine k_zret hR dX7_readYard_23 rfl (nar_b (by omega)) ?_
      refine ⟨_, st, rfl, rfl, Or.inr ⟨rfl, 0, by omega, FF_fail (by omega) (by omega) (fun j j0 j1 => by omega) (by omega) (fun h => ?_) (fun h => by omega), by omega⟩, fun i _ _ _ _ => rfl, fun b _ _ => rfl⟩
      have h2 : GW 0 (st.2 13 (a + 0)) := h.2
      rw [z0] at h2
      unfold GW at h2
      omega
