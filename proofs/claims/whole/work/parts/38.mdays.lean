set_option maxHeartbeats 4000000 in
set_option maxRecDepth 100000 in
theorem c_X7_goDays {ad : Nat → Nat} {D : va_G} {cI cZ : ClassId} (st : Sg) (Y : Sg) (n : Int) (q : Int) (hA : AgD st Y) (hI : Inv Y) (hn : 0 ≤ n ∧ n ≤ 10) (hj : (st.1 15 = 1 ∧ q = 3) ∨ (st.1 15 = 0 ∧ q = st.1 4 ∧ 0 ≤ q ∧ q ≤ 2)) (hlw : 0 ≤ st.1 4 ∧ st.1 4 ≤ 2) (hw0 : 0 ≤ st.1 3 ∧ st.1 3 ≤ Y.1 1) (hrn : ∀ d : Int, 0 ≤ d → d < 10 → 0 ≤ st.2 4 d ∧ st.2 4 d ≤ 99) (ht : 0 ≤ st.1 16 → 0 ≤ st.1 17 ∧ st.1 17 < 6 ∧ 1 ≤ st.1 18 ∧ st.1 18 ≤ 9) (htd : -9 ≤ st.1 16 ∧ st.1 16 ≤ 9) : MC (mw ad D cI cZ) yX7_goDays cX7_goDays 3 none { frames := 4, cells := 0, slots := 0, locals := 90 } [.ref (ad 0), .int (iI n)] st (fun rv u => ∃ S : Sg, rv = none ∧ u = S ∧ (MX st S) ∧ (MRn Y q (st.1 3) (st.2 4) (st.1 16) (st.1 18) (st.1 17) S.2 n.toNat) ∧ ((S.1 19 = 1 ∧ (0 ≤ st.1 16 ∧ st.1 16 < n ∧ st.1 18 ≤ GV Y (st.1 17) (dW Y q (lvT Y q (st.1 3) (st.2 4) (st.1 16) (st.1 18) (st.1 17) (st.1 16).toNat) (st.2 4 (st.1 16))))) ∨ (S.1 19 = 0 ∧ ¬ (0 ≤ st.1 16 ∧ st.1 16 < n ∧ st.1 18 ≤ GV Y (st.1 17) (dW Y q (lvT Y q (st.1 3) (st.2 4) (st.1 16) (st.1 18) (st.1 17) (st.1 16).toNat) (st.2 4 (st.1 16))))))) := by
  refine MC_intro RX7 (by decide) rfl (Nat.le_of_ble_eq_true rfl) ?_
  intro G H0 m hE hR
  refine k_lo [0, 1] (lo' := [(0, .ref (ad 0)), (1, .int (iI n))]) rfl ?_
  obtain ⟨hi0, hi1, hi2, hi3, hi4, hi5, hi6, hi7, hit, hir, him, hin⟩ := id hI
  refine k_aload_n hE dX7_goDays_0 0 rfl rfl ?_
  refine k_aload_n hE dX7_goDays_1 0 rfl rfl ?_
  refine m_get_first hE (z := st.1 3) rfl fl_X7_117 dX7_goDays_2 ?_
  refine m_put_water hE fl_X7_148 dX7_goDays_5 ?_
  refine k_st ((uv st.1 14 (st.1 3), st.2)) rfl ?_
  refine k_aload_n hE dX7_goDays_8 0 rfl rfl ?_
  refine m_get_levels hE fl_X7_40 dX7_goDays_9 ?_
  refine k_iconst hE dX7_goDays_12 ?_
  refine k_aload_n hE dX7_goDays_13 0 rfl rfl ?_
  refine m_get_first hE (z := st.1 3) rfl fl_X7_117 dX7_goDays_14 ?_
  refine m_st_levels hE (by omega) (by omega) dX7_goDays_17 ?_
  refine k_st ((uv st.1 14 (st.1 3), ur st.2 12 0 (st.1 3))) rfl ?_
  refine k_aload_n hE dX7_goDays_18 0 rfl rfl ?_
  refine k_iconst hE dX7_goDays_19 ?_
  refine m_put_didGive hE (by omega) fl_X7_182 dX7_goDays_20 ?_
  refine k_st ((uv (uv st.1 14 (st.1 3)) 19 0, ur st.2 12 0 (st.1 3))) rfl ?_
  refine k_iconst hE dX7_goDays_23 ?_
  refine k_istore_n hE dX7_goDays_24 [1, 2, 0] rfl (Nat.le_of_ble_eq_true rfl) (lo' := [(0, .ref (ad 0)), (1, .int (iI n)), (2, .int (iI 0))]) rfl ?_
  have L25 : ∀ (fu25 : Nat) (S : Sg) (k : Nat), ((k : Int) ≤ n) → (n - k < fu25) → (MX st S) → (S.1 14 = lvT Y q (st.1 3) (st.2 4) (st.1 16) (st.1 18) (st.1 17) k) → (MRn Y q (st.1 3) (st.2 4) (st.1 16) (st.1 18) (st.1 17) S.2 k) → ((S.1 19 = 1 ∧ (0 ≤ st.1 16 ∧ st.1 16 < k ∧ st.1 18 ≤ GV Y (st.1 17) (dW Y q (lvT Y q (st.1 3) (st.2 4) (st.1 16) (st.1 18) (st.1 17) (st.1 16).toNat) (st.2 4 (st.1 16))))) ∨ (S.1 19 = 0 ∧ ¬ (0 ≤ st.1 16 ∧ st.1 16 < k ∧ st.1 18 ≤ GV Y (st.1 17) (dW Y q (lvT Y q (st.1 3) (st.2 4) (st.1 16) (st.1 18) (st.1 17) (st.1 16).toNat) (st.2 4 (st.1 16)))))) → KW (mw ad D cI cZ) G H0 m 3 S 25 [(0, .ref (ad 0)), (1, .int (iI n)), (2, .int (iI ((k : Int))))] [] := by
    intro fu25
    induction fu25 with
    | zero =>
      intro S k q0 q1 hxS ew er dg
      omega
    | succ fu25 ih25 =>
      intro S k q0 q1 hxS ew er dg
      have hAS := hxS.agd hA
      have lk := er.1 k (Nat.le_refl k)
      have v15 := hxS.1 15 (by decide) (by decide)
      have v4 := hxS.1 4 (by decide) (by decide)
      have v16 := hxS.1 16 (by decide) (by decide)
      have v17 := hxS.1 17 (by decide) (by decide)
      have v18 := hxS.1 18 (by decide) (by decide)
      refine k_iload_n hE dX7_goDays_25 2 rfl rfl ?_
      refine k_iload_n hE dX7_goDays_26 1 rfl rfl ?_
      refine k_icmp_ge hE 53 dX7_goDays_27 (by decide) (by unfold in32; omega) (by unfold in32; omega) (fun c27 => ?_) (fun c27 => ?_)
      · refine k_vret hR dX7_goDays_53 rfl ?_
        have ek : n.toNat = k := by omega
        have en : n = (k : Int) := by omega
        exact ⟨S, rfl, rfl, hxS, by rw [ek]; exact er, by rw [en]; exact dg⟩
      · refine k_aload_n hE dX7_goDays_30 0 rfl rfl ?_
        refine k_iload_n hE dX7_goDays_31 2 rfl rfl ?_
        refine k_callV hE (c_X7_goDay S Y ((k : Int)) (lvT Y q (st.1 3) (st.2 4) (st.1 16) (st.1 18) (st.1 17) k) q (st.2 4 (k : Int)) hAS hI (by omega) ew lk.2 (by rw [hxS.2 4 (by decide)]) (hrn k (by omega) (by omega)) (by omega) (by omega) (by omega) (by omega)) mf_X7_goDay ml_X7_185 0 rfl rfl rfl rfl ⟨rfl, rfl, Nat.le_of_ble_eq_true rfl, Nat.le_of_ble_eq_true rfl⟩ [] (Nat.le_of_ble_eq_true rfl) dX7_goDays_32 rfl (fun rv u hp => ?_)
        obtain ⟨S2, hv32, hu32, hx_32, hl_32, th_32, o1_32, o2_32, g1_32, g2_32, rg_32, gr_32⟩ := hp
        refine k_sk (sk' := []) (by rw [hv32]; rfl) ?_
        refine k_st S2 hu32 ?_
        have hAS2 := hx_32.agd hAS
        refine k_aload_n hE dX7_goDays_35 0 rfl rfl ?_
        refine m_get_levels hE fl_X7_40 dX7_goDays_36 ?_
        refine k_iload_n hE dX7_goDays_39 2 rfl rfl ?_
        refine k_iconst hE dX7_goDays_40 ?_
        refine k_iadd hE dX7_goDays_41 ?_
        refine k_aload_n hE dX7_goDays_42 0 rfl rfl ?_
        refine m_get_water hE (z := S2.1 14) rfl fl_X7_148 dX7_goDays_43 ?_
        refine m_st_levels hE (by omega) (by omega) dX7_goDays_46 ?_
        refine k_st ((S2.1, ur S2.2 12 (((k : Int)) + 1) (S2.1 14))) rfl ?_
        refine k_iinc hE dX7_goDays_47 2 [1, 2, 0] rfl (Nat.le_of_ble_eq_true rfl) (lo' := [(0, .ref (ad 0)), (1, .int (iI n)), (2, .int (iI (((k : Int)) + 1)))]) rfl ?_
        refine k_goto hE 25 dX7_goDays_50 (by decide) ?_
        have hxT : MX st ((S2.1, ur S2.2 12 (((k : Int)) + 1) (S2.1 14))) := hxS.trans (hx_32.trans ⟨fun i h1 h2 => rfl, fun a ha => by show ur S2.2 12 _ _ a = _; rw [ur_n _ _ _ (by omega)]⟩)
        have lT : ∀ v : Int, S2.1 14 = v → S2.1 14 = lvT Y q (st.1 3) (st.2 4) (st.1 16) (st.1 18) (st.1 17) (k + 1) → v = lvT Y q (st.1 3) (st.2 4) (st.1 16) (st.1 18) (st.1 17) (k + 1) := fun v h1 h2 => h1.symm.trans h2
        have lS : S2.1 14 = lvT Y q (st.1 3) (st.2 4) (st.1 16) (st.1 18) (st.1 17) (k + 1) ∧ 0 ≤ lvT Y q (st.1 3) (st.2 4) (st.1 16) (st.1 18) (st.1 17) (k + 1) ∧ lvT Y q (st.1 3) (st.2 4) (st.1 16) (st.1 18) (st.1 17) (k + 1) ≤ Y.1 1 := by
          rw [lvT]
          rcases th_32 with h | h | h
          · rw [if_neg (by omega)]; exact ⟨h.2.1, rg_32⟩
          · have g5 := GV_rng hI (f := st.1 17) (by omega) (by omega) (dW Y q (lvT Y q (st.1 3) (st.2 4) (st.1 16) (st.1 18) (st.1 17) k) (st.2 4 k))
            have h6 : st.1 18 ≤ GV Y (st.1 17) (dW Y q (lvT Y q (st.1 3) (st.2 4) (st.1 16) (st.1 18) (st.1 17) k) (st.2 4 k)) := by have h7 := h.2.1; rw [v17, v18] at h7; exact h7
            rw [if_pos ⟨by omega, h6⟩]
            refine ⟨by rw [h.2.2.1, v18], by omega, by omega⟩
          · have h6 : ¬ st.1 18 ≤ GV Y (st.1 17) (dW Y q (lvT Y q (st.1 3) (st.2 4) (st.1 16) (st.1 18) (st.1 17) k) (st.2 4 k)) := by have h7 := h.2.1; rw [v17, v18] at h7; exact h7
            rw [if_neg (fun h5 => h6 h5.2)]; exact ⟨h.2.2.1, rg_32⟩
        refine ih25 ((S2.1, ur S2.2 12 (((k : Int)) + 1) (S2.1 14))) (k + 1) (by omega) (by omega) hxT lS.1 (MRn_s er (fun j hj => by show ur S2.2 12 _ _ 12 j = _; rw [ur_o _ _ _ hj, hl_32]) (show ur S2.2 12 ((k : Int) + 1) (S2.1 14) 12 ((k : Int) + 1) = _ from ur_s _ _ _ _) ⟨lS.1, by rw [lS.1]; exact lS.2⟩ o1_32 o2_32 g1_32 g2_32 gr_32 hi0.2) ?_
        have e3 : st.1 16 = (k : Int) → dW Y q (lvT Y q (st.1 3) (st.2 4) (st.1 16) (st.1 18) (st.1 17) (st.1 16).toNat) (st.2 4 (st.1 16)) = dW Y q (lvT Y q (st.1 3) (st.2 4) (st.1 16) (st.1 18) (st.1 17) k) (st.2 4 k) := fun ek => by
          have a1 : (st.1 16).toNat = k := by omega
          have a2 : st.2 4 (st.1 16) = st.2 4 k := congrArg _ ek
          rw [a1, a2]
        show (S2.1 19 = 1 ∧ _) ∨ (S2.1 19 = 0 ∧ _)
        rcases th_32 with h | h | h
        · rw [h.2.2]
          rcases dg with h5 | h5
          · exact Or.inl ⟨h5.1, h5.2.1, by omega, h5.2.2.2⟩
          · exact Or.inr ⟨h5.1, fun h6 => h5.2 ⟨h6.1, by omega, h6.2.2⟩⟩
        · have ek : st.1 16 = (k : Int) := by omega
          refine Or.inl ⟨h.2.2.2, by omega, by omega, ?_⟩
          rw [e3 ek]
          have h7 := h.2.1
          rw [v17, v18] at h7; exact h7
        · have ek : st.1 16 = (k : Int) := by omega
          refine Or.inr ⟨h.2.2.2, fun h6 => h.2.1 ?_⟩
          have h7 := h6.2.2
          rw [e3 ek] at h7
          rw [v17, v18]; exact h7
  have hx0 : MX st ((uv (uv st.1 14 (st.1 3)) 19 0, ur st.2 12 0 (st.1 3))) := ⟨fun i h1 h2 => by show uv (uv st.1 14 _) 19 _ i = _; rw [uv_n _ _ h2, uv_n _ _ h1], fun a ha => by show ur st.2 12 _ _ a = _; rw [ur_n _ _ _ (by omega)]⟩
  exact L25 11 ((uv (uv st.1 14 (st.1 3)) 19 0, ur st.2 12 0 (st.1 3))) 0 (by omega) (by omega) hx0 rfl (MRn_0 (show ur st.2 12 0 (st.1 3) 12 0 = _ from ur_s _ _ _ _) hw0) (Or.inr ⟨rfl, fun h => by omega⟩)
