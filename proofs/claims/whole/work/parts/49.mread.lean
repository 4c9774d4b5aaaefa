set_option maxHeartbeats 4000000 in
set_option maxRecDepth 100000 in
theorem c_X7_digitAt {ad : Nat → Nat} {D : va_G} {cI cZ : ClassId} (st : Sg) (w : Int) (e : Int) (l : Int) (hw : 0 ≤ w ∧ w ≤ 1000) (he : 0 ≤ e ∧ e ≤ 240) (hl : 0 ≤ l ∧ l ≤ 1) (hc : w < e → -2147483648 ≤ st.2 13 w ∧ st.2 13 w < 2147483648) : MC (mw ad D cI cZ) yX7_digitAt cX7_digitAt 4 (some .int) { frames := 1, cells := 0, slots := 0, locals := 22 } [.ref (ad 0), .int (iI w), .int (iI e), .int (iI l)] st (fun rv u => rv = some (.int (iI (DGm (st.2 13) w e l))) ∧ u = st) := by
  refine MC_intro RX7 (by decide) rfl (Nat.le_of_ble_eq_true rfl) ?_
  intro G H0 m hE hR
  refine k_lo [0, 1, 2, 3] (lo' := [(0, .ref (ad 0)), (1, .int (iI w)), (2, .int (iI e)), (3, .int (iI l))]) rfl ?_
  refine k_iload_n hE dX7_digitAt_0 1 rfl rfl ?_
  refine k_iload_n hE dX7_digitAt_1 2 rfl rfl ?_
  refine k_icmp_ge hE 35 dX7_digitAt_2 (by decide) (by unfold in32; omega) (by unfold in32; omega) (fun c2 => ?_) (fun c2 => ?_)
  · refine k_bipush hE dX7_digitAt_35 rfl ?_
    exact k_iret hR dX7_digitAt_37 rfl ⟨ret_i (by unfold DGm; (repeat (first | omega | split))), rfl⟩
  · have hcw := hc (by omega)
    refine k_aload_n hE dX7_digitAt_5 0 rfl rfl ?_
    refine m_get_cells hE fl_X7_16 dX7_digitAt_6 ?_
    refine k_iload_n hE dX7_digitAt_9 1 rfl rfl ?_
    refine m_ld_cells hE (z := st.2 13 w) (by omega) (by omega) rfl dX7_digitAt_10 ?_
    refine k_bipush hE dX7_digitAt_11 rfl ?_
    refine k_iload_n hE dX7_digitAt_13 3 rfl rfl ?_
    refine k_iadd hE dX7_digitAt_14 ?_
    refine k_bipush hE dX7_digitAt_15 rfl ?_
    refine k_callS hE (c_X7_within st (st.2 13 w) (48 + l) 57 (by omega) (by omega) (by omega)) ms_X7_within ml_X7_74 rfl ⟨rfl, rfl, Nat.le_of_ble_eq_true rfl, Nat.le_of_ble_eq_true rfl⟩ [] (Nat.le_of_ble_eq_true rfl) dX7_digitAt_17 rfl (fun rv u hp => ?_)
    obtain ⟨z1, hv17, hu17, hz_17⟩ := hp
    refine k_sk (sk' := [.int (iI z1)]) (by rw [hv17]; rfl) ?_
    refine k_st st hu17 ?_
    refine k_if_eq hE 35 dX7_digitAt_20 (by decide) (by unfold in32; omega) (fun c20 => ?_) (fun c20 => ?_)
    · refine k_bipush hE dX7_digitAt_35 rfl ?_
      exact k_iret hR dX7_digitAt_37 rfl ⟨ret_i (by unfold DGm; (repeat (first | omega | split))), rfl⟩
    · refine k_aload_n hE dX7_digitAt_23 0 rfl rfl ?_
      refine m_get_cells hE fl_X7_16 dX7_digitAt_24 ?_
      refine k_iload_n hE dX7_digitAt_27 1 rfl rfl ?_
      refine m_ld_cells hE (z := st.2 13 w) (by omega) (by omega) rfl dX7_digitAt_28 ?_
      refine k_bipush hE dX7_digitAt_29 rfl ?_
      refine k_isub hE dX7_digitAt_31 ?_
      refine k_goto hE 37 dX7_digitAt_32 (by decide) ?_
      exact k_iret hR dX7_digitAt_37 rfl ⟨ret_i (by unfold DGm; (repeat (first | omega | split))), rfl⟩

set_option maxHeartbeats 4000000 in
set_option maxRecDepth 100000 in
theorem c_X7_readTap {ad : Nat → Nat} {D : va_G} {cI cZ : ClassId} (st : Sg) (e : Int) (a : Int) (t : Int) (hv_a : st.1 10 = a) (hv_t : st.1 13 = t) (ha : 0 ≤ a ∧ a ≤ 240) (ht : 0 ≤ t ∧ t < 6) (he : 0 ≤ e ∧ e ≤ 240) (hc : ∀ w : Int, a ≤ w → w < e → -2147483648 ≤ st.2 13 w ∧ st.2 13 w < 2147483648) : MC (mw ad D cI cZ) yX7_readTap cX7_readTap 5 (some .boolean) { frames := 2, cells := 0, slots := 0, locals := 45 } [.ref (ad 0), .int (iI e)] st (fun rv u => ∃ z : Int, ∃ S : Sg, rv = some (.int (iI (z))) ∧ u = S ∧ ((z = 1 ∧ a + 4 ≤ e ∧ TG 1 (st.2 13 a) ∧ TG 2 (st.2 13 (a + 1)) ∧ TG 3 (st.2 13 (a + 2)) ∧ TG 4 (st.2 13 (a + 3)) ∧ S.1 10 = a + 4 ∧ S.1 13 = t + 1 ∧ S.2 10 t = KDc (st.2 13 a) ∧ S.2 11 (3 * t) = st.2 13 (a + 1) - 48 ∧ S.2 11 (3 * t + 1) = st.2 13 (a + 2) - 48 ∧ S.2 11 (3 * t + 2) = st.2 13 (a + 3) - 48) ∨ (z = 0 ∧ ∃ p : Int, 0 ≤ p ∧ p < 4 ∧ S.1 10 = a + p ∧ (∀ j : Int, 0 ≤ j → j < p → a + j < e ∧ TG (j + 1) (st.2 13 (a + j))) ∧ ¬ (a + p < e ∧ TG (p + 1) (st.2 13 (a + p))))) ∧ (∀ i, i ≠ 10 → i ≠ 13 → S.1 i = st.1 i) ∧ (∀ b, b ≠ 10 → b ≠ 11 → S.2 b = st.2 b) ∧ (∀ j : Int, j ≠ t → S.2 10 j = st.2 10 j) ∧ (∀ j : Int, ¬ (3 * t ≤ j ∧ j < 3 * t + 3) → S.2 11 j = st.2 11 j)) := by
  refine MC_intro RX7 (by decide) rfl (Nat.le_of_ble_eq_true rfl) ?_
  intro G H0 m hE hR
  refine k_lo [0, 1] (lo' := [(0, .ref (ad 0)), (1, .int (iI e))]) rfl ?_
  have J21 : ∀ (cd : Int), ((a < e ∧ cd = st.2 13 a) ∨ (¬ a < e ∧ cd = 0)) → KW (mw ad D cI cZ) G H0 m 5 st 21 [(0, .ref (ad 0)), (1, .int (iI e))] [.int (iI cd)] := by
    intro cd hcd
    have rcd : -2147483648 ≤ cd ∧ cd < 2147483648 := by
      rcases hcd with h | h
      · have h5 := hc a (by omega) h.1; omega
      · omega
    refine k_istore_n hE dX7_readTap_21 [1, 2, 0] rfl (Nat.le_of_ble_eq_true rfl) (lo' := [(0, .ref (ad 0)), (1, .int (iI e)), (2, .int (iI cd))]) rfl ?_
    refine k_aload_n hE dX7_readTap_22 0 rfl rfl ?_
    refine m_get_readKind hE fl_X7_34 dX7_readTap_23 ?_
    refine k_aload_n hE dX7_readTap_26 0 rfl rfl ?_
    refine m_get_readTaps hE (z := t) hv_t fl_X7_114 dX7_readTap_27 ?_
    refine k_iload_n hE dX7_readTap_30 2 rfl rfl ?_
    refine k_bipush hE dX7_readTap_31 rfl ?_
    have J62 : ∀ (v : Int), ((cd = 102 ∧ v = 0) ∨ (cd = 103 ∧ v = 1) ∨ (cd = 111 ∧ v = 2) ∨ (cd ≠ 102 ∧ cd ≠ 103 ∧ cd ≠ 111 ∧ v = -9)) → KW (mw ad D cI cZ) G H0 m 5 st 62 [(0, .ref (ad 0)), (1, .int (iI e)), (2, .int (iI cd))] [.int (iI v), .int (iI t), .ref (ad 9)] := by
      intro v hv
      refine m_st_readKind hE (by omega) (by omega) dX7_readTap_62 ?_
      refine k_st ((st.1, ur st.2 10 t v)) rfl ?_
      refine k_aload_n hE dX7_readTap_63 0 rfl rfl ?_
      refine m_get_readKind hE fl_X7_34 dX7_readTap_64 ?_
      refine k_aload_n hE dX7_readTap_67 0 rfl rfl ?_
      refine m_get_readTaps hE (z := t) hv_t fl_X7_114 dX7_readTap_68 ?_
      refine m_ld_readKind hE (z := v) (by omega) (by omega) (show ur st.2 10 t v 10 t = v from ur_s _ _ _ _) dX7_readTap_71 ?_
      refine k_bipush hE dX7_readTap_72 rfl ?_
      refine k_icmp_ne hE 79 dX7_readTap_74 (by decide) (by unfold in32; omega) (by unfold in32; omega) (fun c74 => ?_) (fun c74 => ?_)
      · refine k_aload_n hE dX7_readTap_79 0 rfl rfl ?_
        refine k_dup hE dX7_readTap_80 rfl ?_
        refine m_get_at hE (z := a) hv_a fl_X7_96 dX7_readTap_81 ?_
        refine k_iconst hE dX7_readTap_84 ?_
        refine k_iadd hE dX7_readTap_85 ?_
        refine m_put_at hE fl_X7_96 dX7_readTap_86 ?_
        refine k_st ((uv st.1 10 (a + 1), ur st.2 10 t v)) rfl ?_
        refine k_iconst hE dX7_readTap_89 ?_
        refine k_istore_n hE dX7_readTap_90 [1, 2, 3, 0] rfl (Nat.le_of_ble_eq_true rfl) (lo' := [(0, .ref (ad 0)), (1, .int (iI e)), (2, .int (iI cd)), (3, .int (iI 0))]) rfl ?_
        have L91 : ∀ (fu91 : Nat) (S : Sg) (k : Int), (0 ≤ k ∧ k ≤ 3) → (3 - k < fu91) → (S.1 10 = a + 1 + k) → (S.1 13 = t) → (∀ i, i ≠ 10 → i ≠ 13 → S.1 i = st.1 i) → (∀ b, b ≠ 10 → b ≠ 11 → S.2 b = st.2 b) → (∀ j : Int, j ≠ t → S.2 10 j = st.2 10 j) → (∀ j : Int, ¬ (3 * t ≤ j ∧ j < 3 * t + 3) → S.2 11 j = st.2 11 j) → (S.2 10 t = v) → (∀ j : Int, 0 ≤ j → j < k → S.2 11 (3 * t + j) = st.2 13 (a + 1 + j) - 48) → (∀ j : Int, 0 ≤ j → j < k + 1 → a + j < e ∧ TG (j + 1) (st.2 13 (a + j))) → KW (mw ad D cI cZ) G H0 m 5 S 91 [(0, .ref (ad 0)), (1, .int (iI e)), (2, .int (iI cd)), (3, .int (iI k))] [] := by
          intro fu91
          induction fu91 with
          | zero =>
            intro S k q0 q1 s10 s13 f1 f2 fk fd sk sd sg
            omega
          | succ fu91 ih91 =>
            intro S k q0 q1 s10 s13 f1 f2 fk fd sk sd sg
            have c13 : S.2 13 = st.2 13 := f2 13 (by decide) (by decide)
            refine k_iload_n hE dX7_readTap_91 3 rfl rfl ?_
            refine k_iconst hE dX7_readTap_92 ?_
            refine k_icmp_ge hE 156 dX7_readTap_93 (by decide) (by unfold in32; omega) (by unfold in32; omega) (fun c93 => ?_) (fun c93 => ?_)
            · refine k_aload_n hE dX7_readTap_156 0 rfl rfl ?_
              refine k_dup hE dX7_readTap_157 rfl ?_
              refine m_get_readTaps hE (z := t) s13 fl_X7_114 dX7_readTap_158 ?_
              refine k_iconst hE dX7_readTap_161 ?_
              refine k_iadd hE dX7_readTap_162 ?_
              refine m_put_readTaps hE fl_X7_114 dX7_readTap_163 ?_
              refine k_st ((uv S.1 13 (t + 1), S.2)) rfl ?_
              refine k_iconst hE dX7_readTap_166 ?_
              refine k_zret hR dX7_readTap_167 rfl (nar_b (by omega)) ?_
              have g0 := sg 0 (by omega) (by omega)
              have g1 := sg 1 (by omega) (by omega)
              have g2 := sg 2 (by omega) (by omega)
              have g3 := sg 3 (by omega) (by omega)
              have d0 := sd 0 (by omega) (by omega)
              have d1 := sd 1 (by omega) (by omega)
              have d2 := sd 2 (by omega) (by omega)
              rw [show a + 0 = a by omega] at g0
              rw [show 3 * t + 0 = 3 * t by omega, show a + 1 + 0 = a + 1 by omega] at d0
              rw [show a + 1 + 1 = a + 2 by omega] at d1
              rw [show a + 1 + 2 = a + 3 by omega] at d2
              refine ⟨_, _, rfl, rfl, Or.inl ⟨rfl, by omega, g0.2, g1.2, g2.2, g3.2, by show S.1 10 = _; omega, rfl, ?_, d0, d1, d2⟩, fun i h1 h2 => by show uv S.1 13 _ i = _; rw [uv_n _ _ h2]; exact f1 i h1 h2, f2, fk, fd⟩
              show S.2 10 t = _
              rw [sk]
              unfold KDc
              (repeat (first | omega | split))
            · refine k_aload_n hE dX7_readTap_96 0 rfl rfl ?_
              refine k_aload_n hE dX7_readTap_97 0 rfl rfl ?_
              refine m_get_at hE (z := a + 1 + k) s10 fl_X7_96 dX7_readTap_98 ?_
              refine k_iload_n hE dX7_readTap_101 1 rfl rfl ?_
              refine k_iload_n hE dX7_readTap_102 3 rfl rfl ?_
              have J111 : ∀ (y : Int), ((k = 0 ∧ y = 0) ∨ (k ≠ 0 ∧ y = 1)) → KW (mw ad D cI cZ) G H0 m 5 S 111 [(0, .ref (ad 0)), (1, .int (iI e)), (2, .int (iI cd)), (3, .int (iI k))] [.int (iI y), .int (iI e), .int (iI (a + 1 + k)), .ref (ad 0)] := by
                intro y hy
                refine k_callV hE (c_X7_digitAt S (a + 1 + k) e y (by omega) (by omega) (by omega) (fun h => by rw [c13]; exact hc _ (by omega) h)) mf_X7_digitAt ml_X7_132 0 rfl rfl rfl rfl ⟨rfl, rfl, Nat.le_of_ble_eq_true rfl, Nat.le_of_ble_eq_true rfl⟩ [] (Nat.le_of_ble_eq_true rfl) dX7_readTap_111 rfl (fun rv u hp => ?_)
                obtain ⟨hv111, hu111⟩ := hp
                refine k_sk (sk' := [.int (iI (DGm (S.2 13) (a + 1 + k) e y))]) (by rw [hv111]; rfl) ?_
                refine k_st S hu111 ?_
                have hdg : (a + 1 + k < e ∧ 48 + y ≤ st.2 13 (a + 1 + k) ∧ st.2 13 (a + 1 + k) ≤ 57 ∧ DGm (st.2 13) (a + 1 + k) e y = st.2 13 (a + 1 + k) - 48) ∨ (¬ (a + 1 + k < e ∧ 48 + y ≤ st.2 13 (a + 1 + k) ∧ st.2 13 (a + 1 + k) ≤ 57) ∧ DGm (st.2 13) (a + 1 + k) e y = -9) := by
                  unfold DGm
                  by_cases e5 : a + 1 + k < e ∧ 48 + y ≤ st.2 13 (a + 1 + k) ∧ st.2 13 (a + 1 + k) ≤ 57
                  · exact Or.inl ⟨e5.1, e5.2.1, e5.2.2, if_pos e5⟩
                  · exact Or.inr ⟨e5, if_neg e5⟩
                refine k_sk (sk' := [.int (iI (DGm (st.2 13) (a + 1 + k) e y))]) (congrArg (fun zz : Int => ([.int (iI zz)] : List Value)) (show (DGm (S.2 13) (a + 1 + k) e y) = (DGm (st.2 13) (a + 1 + k) e y) from (by rw [c13]))) ?_
                refine k_istore hE dX7_readTap_114 [1, 2, 3, 4, 0] (Nat.le_of_ble_eq_true rfl) (lo' := [(0, .ref (ad 0)), (1, .int (iI e)), (2, .int (iI cd)), (3, .int (iI k)), (4, .int (iI (DGm (st.2 13) (a + 1 + k) e y)))]) rfl ?_
                refine k_iload hE dX7_readTap_116 4 rfl ?_
                refine k_bipush hE dX7_readTap_118 rfl ?_
                refine k_icmp_ne hE 125 dX7_readTap_120 (by decide) (by unfold in32; omega) (by unfold in32; omega) (fun c120 => ?_) (fun c120 => ?_)
                · refine k_aload_n hE dX7_readTap_125 0 rfl rfl ?_
                  refine m_get_readDigits hE fl_X7_37 dX7_readTap_126 ?_
                  refine k_iconst hE dX7_readTap_129 ?_
                  refine k_aload_n hE dX7_readTap_130 0 rfl rfl ?_
                  refine m_get_readTaps hE (z := t) s13 fl_X7_114 dX7_readTap_131 ?_
                  refine k_imul hE dX7_readTap_134 ?_
                  refine k_iload_n hE dX7_readTap_135 3 rfl rfl ?_
                  refine k_iadd hE dX7_readTap_136 ?_
                  refine k_iload hE dX7_readTap_137 4 rfl ?_
                  refine m_st_readDigits hE (by omega) (by omega) dX7_readTap_139 ?_
                  refine k_st ((S.1, ur S.2 11 ((3 * t) + k) (DGm (st.2 13) (a + 1 + k) e y))) rfl ?_
                  refine k_aload_n hE dX7_readTap_140 0 rfl rfl ?_
                  refine k_dup hE dX7_readTap_141 rfl ?_
                  refine m_get_at hE (z := a + 1 + k) s10 fl_X7_96 dX7_readTap_142 ?_
                  refine k_iconst hE dX7_readTap_145 ?_
                  refine k_iadd hE dX7_readTap_146 ?_
                  refine m_put_at hE fl_X7_96 dX7_readTap_147 ?_
                  refine k_st ((uv S.1 10 ((a + 1 + k) + 1), ur S.2 11 ((3 * t) + k) (DGm (st.2 13) (a + 1 + k) e y))) rfl ?_
                  refine k_iinc hE dX7_readTap_150 3 [1, 2, 3, 0, 4] rfl (Nat.le_of_ble_eq_true rfl) (lo' := [(0, .ref (ad 0)), (1, .int (iI e)), (2, .int (iI cd)), (3, .int (iI (k + 1))), (4, .int (iI (DGm (st.2 13) (a + 1 + k) e y)))]) rfl ?_
                  refine k_goto hE 91 dX7_readTap_153 (by decide) ?_
                  refine k_lo [0, 1, 2, 3] (lo' := [(0, .ref (ad 0)), (1, .int (iI e)), (2, .int (iI cd)), (3, .int (iI (k + 1)))]) rfl ?_
                  refine ih91 ((uv S.1 10 ((a + 1 + k) + 1), ur S.2 11 ((3 * t) + k) (DGm (st.2 13) (a + 1 + k) e y))) _ (by omega) (by omega) (by show a + 1 + k + 1 = a + 1 + (k + 1); omega) s13 (fun i h1 h2 => by show uv S.1 10 _ i = _; rw [uv_n _ _ h1]; exact f1 i h1 h2) (fun b h1 h2 => by show ur S.2 11 _ _ b = _; rw [ur_n _ _ _ h2]; exact f2 b h1 h2) fk (fun j hj => by show ur S.2 11 _ _ 11 j = _; rw [ur_o _ _ _ (by omega)]; exact fd j hj) sk (fun j j0 j1 => ?_) (fun j j0 j1 => ?_)
                  · show ur S.2 11 _ _ 11 _ = _
                    rw [ur_c]
                    by_cases e5 : j = k
                    · rw [if_pos (by omega), e5]; omega
                    · rw [if_neg (by omega)]; exact sd j j0 (by omega)
                  · by_cases e5 : j = k + 1
                    · rw [e5, show a + (k + 1) = a + 1 + k by omega]
                      unfold TG
                      omega
                    · exact sg j j0 (by omega)
                · refine k_iconst hE dX7_readTap_123 ?_
                  refine k_zret hR dX7_readTap_124 rfl (nar_b (by omega)) ?_
                  refine ⟨_, S, rfl, rfl, Or.inr ⟨rfl, k + 1, by omega, by omega, by omega, sg, fun h => ?_⟩, f1, f2, fk, fd⟩
                  rw [show a + (k + 1) = a + 1 + k by omega] at h
                  unfold TG at h
                  omega
              refine k_if_ne hE 110 dX7_readTap_103 (by decide) (by unfold in32; omega) (fun c103 => ?_) (fun c103 => ?_)
              · refine k_iconst hE dX7_readTap_110 ?_
                exact J111 _ (by omega)
              · refine k_iconst hE dX7_readTap_106 ?_
                refine k_goto hE 111 dX7_readTap_107 (by decide) ?_
                exact J111 _ (by omega)
        exact L91 4 ((uv st.1 10 (a + 1), ur st.2 10 t v)) 0 (by omega) (by omega) (by show a + 1 = a + 1 + 0; omega) hv_t (fun i h1 h2 => uv_n _ _ h1) (fun b h1 h2 => ur_n _ _ _ h1) (fun j hj => by show ur st.2 10 t v 10 j = _; exact ur_o _ _ _ hj) (fun j _ => rfl) (show ur st.2 10 t v 10 t = v from ur_s _ _ _ _) (fun j j0 j1 => by omega) (fun j j0 j1 => by
          have ej : j = 0 := by omega
          rw [ej, show a + 0 = a by omega]
          unfold TG
          omega)
      · refine k_iconst hE dX7_readTap_77 ?_
        refine k_zret hR dX7_readTap_78 rfl (nar_b (by omega)) ?_
        refine ⟨_, _, rfl, rfl, Or.inr ⟨rfl, 0, by omega, by omega, by show st.1 10 = _; omega, fun j j0 j1 => by omega, fun h => ?_⟩, fun i h1 h2 => rfl, fun b h1 h2 => ur_n _ _ _ h1, fun j hj => by show ur st.2 10 t v 10 j = _; exact ur_o _ _ _ hj, fun j _ => rfl⟩
        rw [show a + 0 = a by omega] at h
        unfold TG at h
        omega
    refine k_icmp_ne hE 40 dX7_readTap_33 (by decide) (by unfold in32; omega) (by unfold in32; omega) (fun c33 => ?_) (fun c33 => ?_)
    · refine k_iload_n hE dX7_readTap_40 2 rfl rfl ?_
      refine k_bipush hE dX7_readTap_41 rfl ?_
      refine k_icmp_ne hE 50 dX7_readTap_43 (by decide) (by unfold in32; omega) (by unfold in32; omega) (fun c43 => ?_) (fun c43 => ?_)
      · refine k_iload_n hE dX7_readTap_50 2 rfl rfl ?_
        refine k_bipush hE dX7_readTap_51 rfl ?_
        refine k_icmp_ne hE 60 dX7_readTap_53 (by decide) (by unfold in32; omega) (by unfold in32; omega) (fun c53 => ?_) (fun c53 => ?_)
        · refine k_bipush hE dX7_readTap_60 rfl ?_
          exact J62 _ (by omega)
        · refine k_iconst hE dX7_readTap_56 ?_
          refine k_goto hE 62 dX7_readTap_57 (by decide) ?_
          exact J62 _ (by omega)
      · refine k_iconst hE dX7_readTap_46 ?_
        refine k_goto hE 62 dX7_readTap_47 (by decide) ?_
        exact J62 _ (by omega)
    · refine k_iconst hE dX7_readTap_36 ?_
      refine k_goto hE 62 dX7_readTap_37 (by decide) ?_
      exact J62 _ (by omega)
  refine k_aload_n hE dX7_readTap_0 0 rfl rfl ?_
  refine m_get_at hE (z := a) hv_a fl_X7_96 dX7_readTap_1 ?_
  refine k_iload_n hE dX7_readTap_4 1 rfl rfl ?_
  refine k_icmp_ge hE 20 dX7_readTap_5 (by decide) (by unfold in32; omega) (by unfold in32; omega) (fun c5 => ?_) (fun c5 => ?_)
  · refine k_iconst hE dX7_readTap_20 ?_
    exact J21 _ (by omega)
  · refine k_aload_n hE dX7_readTap_8 0 rfl rfl ?_
    refine m_get_cells hE fl_X7_16 dX7_readTap_9 ?_
    refine k_aload_n hE dX7_readTap_12 0 rfl rfl ?_
    refine m_get_at hE (z := a) hv_a fl_X7_96 dX7_readTap_13 ?_
    have hca := hc a (by omega) (by omega)
    refine m_ld_cells hE (z := st.2 13 a) (by omega) (by omega) rfl dX7_readTap_16 ?_
    refine k_goto hE 21 dX7_readTap_17 (by decide) ?_
    exact J21 _ (by omega)
