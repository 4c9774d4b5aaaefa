set_option maxHeartbeats 4000000 in
set_option maxRecDepth 100000 in
theorem c_X7_drawInOrder {ad : Nat → Nat} {D : va_G} {cI cZ : ClassId} (st : Sg) (Y : Sg) (b : Int) (q : Int) (w : Int) (hA : AgD st Y) (hI : Inv Y) (hb : (b = 1 ∧ q ≠ 1) ∨ (b = 0 ∧ q = 1)) (hj : (st.1 15 = 1 ∧ q = 3) ∨ (st.1 15 = 0 ∧ q ≠ 3)) (hv_w : st.1 14 = w) (hw : 0 ≤ w ∧ w ≤ 99) (hz : ∀ f : Int, 0 ≤ f → f < Y.1 0 → st.2 16 f = 0) : MC (mw ad D cI cZ) yX7_drawInOrder cX7_drawInOrder 3 none { frames := 2, cells := 0, slots := 0, locals := 45 } [.ref (ad 0), .int (iI b)] st (fun rv u => ∃ S : Sg, ∃ t : Int, rv = none ∧ u = S ∧ (∀ i, i ≠ 14 → S.1 i = st.1 i) ∧ (∀ a, a ≠ 16 → a ≠ 17 → S.2 a = st.2 a) ∧ (S.1 14 = w - t) ∧ (GO Y q w (S.2 16) t)) := by
  refine MC_intro RX7 (by decide) rfl (Nat.le_of_ble_eq_true rfl) ?_
  intro G H0 m hE hR
  refine k_lo [0, 1] (lo' := [(0, .ref (ad 0)), (1, .int (iI b))]) rfl ?_
  obtain ⟨hi0, hi1, hi2, hi3, hi4, hi5, hi6, hi7, hit, hir, him, hin⟩ := id hI
  refine k_iconst hE dX7_drawInOrder_0 ?_
  refine k_istore_n hE dX7_drawInOrder_1 [1, 2, 0] rfl (Nat.le_of_ble_eq_true rfl) (lo' := [(0, .ref (ad 0)), (1, .int (iI b)), (2, .int (iI 0))]) rfl ?_
  have L2 : ∀ (fu2 : Nat) (S : Sg) (f : Int), (0 ≤ f ∧ f ≤ Y.1 0) → (Y.1 0 - f < fu2) → (S.1 = st.1) → (∀ a, a ≠ 17 → S.2 a = st.2 a) → (∀ g : Int, 0 ≤ g → g < f → S.2 17 g = 0) → KW (mw ad D cI cZ) G H0 m 3 S 2 [(0, .ref (ad 0)), (1, .int (iI b)), (2, .int (iI f))] [] := by
    intro fu2
    induction fu2 with
    | zero =>
      intro S f q0 q1 e1 e2 e3
      omega
    | succ fu2 ih2 =>
      intro S f q0 q1 e1 e2 e3
      have hAS : AgD S Y := hA.of (fun i hi => by rw [e1]) (fun a ha => e2 a (by omega))
      refine k_iload_n hE dX7_drawInOrder_2 2 rfl rfl ?_
      refine k_aload_n hE dX7_drawInOrder_3 0 rfl rfl ?_
      refine m_get_taps hE (z := Y.1 0) (hAS.1 0 (by decide)) fl_X7_78 dX7_drawInOrder_4 ?_
      refine k_icmp_ge hE 23 dX7_drawInOrder_7 (by decide) (by unfold in32; omega) (by unfold in32; omega) (fun c7 => ?_) (fun c7 => ?_)
      · refine k_aload_n hE dX7_drawInOrder_23 0 rfl rfl ?_
        refine k_iload_n hE dX7_drawInOrder_24 1 rfl rfl ?_
        refine k_callV hE (c_X7_nextTap S Y b q hAS hI hb (fun f f0 f1 => Or.inl (e3 f f0 (by omega)))) mf_X7_nextTap ml_X7_158 0 rfl rfl rfl rfl ⟨rfl, rfl, Nat.le_of_ble_eq_true rfl, Nat.le_of_ble_eq_true rfl⟩ [] (Nat.le_of_ble_eq_true rfl) dX7_drawInOrder_25 rfl (fun rv u hp => ?_)
        obtain ⟨zz, hv25, hu25, hz_25⟩ := hp
        refine k_sk (sk' := [.int (iI zz)]) (by rw [hv25]; rfl) ?_
        refine k_st S hu25 ?_
        refine k_istore_n hE dX7_drawInOrder_28 [1, 2, 0] rfl (Nat.le_of_ble_eq_true rfl) (lo' := [(0, .ref (ad 0)), (1, .int (iI b)), (2, .int (iI zz))]) rfl ?_
        have L29 : ∀ (fu29 : Nat) (S2 : Sg) (z : Int) (od : Int → Int) (k : Nat), (k ≤ 6) → (7 - (k : Int) < fu29) → (∀ i, i ≠ 14 → S2.1 i = st.1 i) → (∀ a, a ≠ 16 → a ≠ 17 → S2.2 a = st.2 a) → (S2.1 14 = w - DA Y q od w k) → (∀ i : Nat, i < k → 0 ≤ od i ∧ od i < Y.1 0) → (∀ i j : Nat, i < j → j < k → BF Y q (od i) (od j)) → (∀ f : Int, 0 ≤ f → f < Y.1 0 → (S2.2 17 f = 1 ∧ ∃ i : Nat, i < k ∧ od i = f) ∨ (S2.2 17 f = 0 ∧ (∀ i : Nat, i < k → od i ≠ f) ∧ ∀ i : Nat, i < k → BF Y q (od i) f)) → (∀ i : Nat, i < k → S2.2 16 (od i) = DA Y q od w (i + 1) - DA Y q od w i) → (∀ f : Int, 0 ≤ f → f < Y.1 0 → (∀ i : Nat, i < k → od i ≠ f) → S2.2 16 f = 0) → (NT Y q (S2.2 17) z) → KW (mw ad D cI cZ) G H0 m 3 S2 29 [(0, .ref (ad 0)), (1, .int (iI b)), (2, .int (iI z))] [] := by
          intro fu29
          induction fu29 with
          | zero =>
            intro S2 z od k p0 p1 g1 g2 gw gr gs gd gg g0 gz
            omega
          | succ fu29 ih29 =>
            intro S2 z od k p0 p1 g1 g2 gw gr gs gd gg g0 gz
            have hAS2 : AgD S2 Y := hA.of (fun i hi => g1 i (by omega)) (fun a ha => g2 a (by omega) (by omega))
            have hd0 := DA_rng hI hw.1 (q := q) (o := od) (k := k) gr
            have rz : -9 ≤ z ∧ z < 6 := by rcases gz with h | h <;> omega
            refine k_iload_n hE dX7_drawInOrder_29 2 rfl rfl ?_
            refine k_bipush hE dX7_drawInOrder_30 rfl ?_
            refine k_icmp_eq hE 61 dX7_drawInOrder_32 (by decide) (by unfold in32; omega) (by unfold in32; omega) (fun c32 => ?_) (fun c32 => ?_)
            · refine k_vret hR dX7_drawInOrder_61 rfl ?_
              have hn : ∀ f : Int, 0 ≤ f → f < Y.1 0 → S2.2 17 f = 1 := by
                rcases gz with h | h
                · exact h.2
                · omega
              refine ⟨S2, DA Y q od w k, rfl, rfl, g1, g2, gw, od, k, ⟨gr, gs, fun f f0 f1 => ?_⟩, rfl, gg⟩
              rcases gd f f0 f1 with h | h
              · exact h.2
              · have h5 := hn f f0 f1; omega
            · have hn : 0 ≤ z ∧ z < Y.1 0 ∧ S2.2 17 z = 0 ∧ ∀ f : Int, 0 ≤ f → f < Y.1 0 → S2.2 17 f = 0 → f = z ∨ BF Y q z f := by
                rcases gz with h | h
                · exact absurd h.1 (by omega)
                · exact h
              have nd : (∀ i : Nat, i < k → od i ≠ z) ∧ ∀ i : Nat, i < k → BF Y q (od i) z := by
                rcases gd z hn.1 hn.2.1 with h | h
                · omega
                · exact h.2
              obtain ⟨od2, hod⟩ : ∃ oo : Int → Int, oo = fun j => if j = (k : Int) then z else od j := ⟨_, rfl⟩
              have oi : ∀ i : Nat, i < k → od2 i = od i := fun i hi => by rw [hod]; exact if_neg (by omega)
              have ok : od2 (k : Int) = z := by rw [hod]; exact if_pos rfl
              have dk : DA Y q od2 w k = DA Y q od w k := DA_cong oi
              have ds : DA Y q od2 w (k + 1) = DA Y q od w k + min (WS Y q z) (GV Y z (w - DA Y q od w k)) := by rw [DA, dk, ok]
              have gr2 : ∀ i : Nat, i < k + 1 → 0 ≤ od2 i ∧ od2 i < Y.1 0 := fun i hi => by
                by_cases e : i = k
                · rw [e, ok]; omega
                · rw [oi i (by omega)]; exact gr i (by omega)
              have gs2 : ∀ i j : Nat, i < j → j < k + 1 → BF Y q (od2 i) (od2 j) := fun i j hi hj => by
                by_cases e : j = k
                · rw [e, ok, oi i (by omega)]; exact nd.2 i (by omega)
                · rw [oi i (by omega), oi j (by omega)]; exact gs i j hi (by omega)
              have k6 : k + 1 ≤ (Y.1 0).toNat := fb_holes (Y.1 0).toNat (k + 1) (fun i => (od2 i).toNat) (fun i hi => by have h5 := gr2 i hi; omega) (fun i j hi hj e => by
                have h5 := gr2 i (by omega)
                have h6 := gr2 j hj
                have h7 := gs2 i j hi hj
                rw [show od2 i = od2 j by omega] at h7
                exact BF_irr _ _ _ h7)
              have hws := WS_rng hI q hn.1 (f := z) (by omega)
              refine k_aload_n hE dX7_drawInOrder_35 0 rfl rfl ?_
              refine k_iload_n hE dX7_drawInOrder_36 2 rfl rfl ?_
              refine k_aload_n hE dX7_drawInOrder_37 0 rfl rfl ?_
              refine k_iload_n hE dX7_drawInOrder_38 2 rfl rfl ?_
              refine k_callV hE (c_X7_wantsNow S2 Y z q hAS2 hI (by omega) (by omega) (by rw [g1 15 (by decide)]; exact hj)) mf_X7_wantsNow ml_X7_162 0 rfl rfl rfl rfl ⟨rfl, rfl, Nat.le_of_ble_eq_true rfl, Nat.le_of_ble_eq_true rfl⟩ [.int (iI z), .ref (ad 0)] (Nat.le_of_ble_eq_true rfl) dX7_drawInOrder_39 rfl (fun rv u hp => ?_)
              obtain ⟨hv39, hu39⟩ := hp
              refine k_sk (sk' := [.int (iI (WS Y q z)), .int (iI z), .ref (ad 0)]) (by rw [hv39]; rfl) ?_
              refine k_st S2 hu39 ?_
              refine k_callV hE (c_X7_draw S2 Y z (WS Y q z) (w - DA Y q od w k) hAS2 hI (by omega) (by omega) gw (by omega) (by omega)) mf_X7_draw ml_X7_165 0 rfl rfl rfl rfl ⟨rfl, rfl, Nat.le_of_ble_eq_true rfl, Nat.le_of_ble_eq_true rfl⟩ [] (Nat.le_of_ble_eq_true rfl) dX7_drawInOrder_42 rfl (fun rv u hp => ?_)
              obtain ⟨hv42, hu42⟩ := hp
              refine k_sk (sk' := []) (by rw [hv42]; rfl) ?_
              refine k_st ((uv S2.1 14 ((w - DA Y q od w k) - min (WS Y q z) (GV Y z (w - DA Y q od w k))), ur S2.2 16 z (S2.2 16 z + min (WS Y q z) (GV Y z (w - DA Y q od w k))))) hu42 ?_
              refine k_aload_n hE dX7_drawInOrder_45 0 rfl rfl ?_
              refine m_get_isDone hE fl_X7_52 dX7_drawInOrder_46 ?_
              refine k_iload_n hE dX7_drawInOrder_49 2 rfl rfl ?_
              refine k_iconst hE dX7_drawInOrder_50 ?_
              refine m_st_isDone hE (by omega) (by omega) (by omega) dX7_drawInOrder_51 ?_
              refine k_st ((uv S2.1 14 ((w - DA Y q od w k) - min (WS Y q z) (GV Y z (w - DA Y q od w k))), ur (ur S2.2 16 z (S2.2 16 z + min (WS Y q z) (GV Y z (w - DA Y q od w k)))) 17 z 1)) rfl ?_
              refine k_nm (fun S3 eS3 => ?_)
              have hAS3 : AgD S3 Y := by rw [eS3]; exact hAS2.of (fun i hi => by show uv S2.1 14 _ i = _; rw [uv_n _ _ (by omega)]) (fun a ha => by show ur (ur S2.2 16 _ _) 17 _ _ a = _; rw [ur_n _ _ _ (by omega), ur_n _ _ _ (by omega)])
              have gd2 : ∀ f : Int, 0 ≤ f → f < Y.1 0 → (S3.2 17 f = 1 ∧ ∃ i : Nat, i < k + 1 ∧ od2 i = f) ∨ (S3.2 17 f = 0 ∧ (∀ i : Nat, i < k + 1 → od2 i ≠ f) ∧ ∀ i : Nat, i < k + 1 → BF Y q (od2 i) f) := fun f f0 f1 => by
                rw [eS3]
                show (ur (ur S2.2 16 _ _) 17 z 1 17 f = 1 ∧ _) ∨ (ur (ur S2.2 16 _ _) 17 z 1 17 f = 0 ∧ _)
                rw [ur_c]
                by_cases e : f = z
                · rw [if_pos e]
                  exact Or.inl ⟨rfl, k, by omega, by rw [ok, e]⟩
                · rw [if_neg e]
                  rcases gd f f0 f1 with ⟨h1, i, hi, he⟩ | ⟨h1, h2, h3⟩
                  · exact Or.inl ⟨h1, i, by omega, by rw [oi i hi]; exact he⟩
                  · have hzf : BF Y q z f := by
                      rcases hn.2.2.2 f f0 f1 h1 with h5 | h5
                      · exact absurd h5 e
                      · exact h5
                    refine Or.inr ⟨h1, fun i hi => ?_, fun i hi => ?_⟩
                    · by_cases ei : i = k
                      · rw [ei, ok]; exact fun h5 => e h5.symm
                      · rw [oi i (by omega)]; exact h2 i (by omega)
                    · by_cases ei : i = k
                      · rw [ei, ok]; exact hzf
                      · rw [oi i (by omega)]; exact h3 i (by omega)
              refine k_aload_n hE dX7_drawInOrder_52 0 rfl rfl ?_
              refine k_iload_n hE dX7_drawInOrder_53 1 rfl rfl ?_
              refine k_callV hE (c_X7_nextTap S3 Y b q hAS3 hI hb (fun f f0 f1 => by rcases gd2 f f0 f1 with h | h; exact Or.inr h.1; exact Or.inl h.1)) mf_X7_nextTap ml_X7_158 0 rfl rfl rfl rfl ⟨rfl, rfl, Nat.le_of_ble_eq_true rfl, Nat.le_of_ble_eq_true rfl⟩ [] (Nat.le_of_ble_eq_true rfl) dX7_drawInOrder_54 rfl (fun rv u hp => ?_)
              obtain ⟨z2, hv54, hu54, hz_54⟩ := hp
              refine k_sk (sk' := [.int (iI z2)]) (by rw [hv54]; rfl) ?_
              refine k_st S3 hu54 ?_
              refine k_istore_n hE dX7_drawInOrder_57 [1, 2, 0] rfl (Nat.le_of_ble_eq_true rfl) (lo' := [(0, .ref (ad 0)), (1, .int (iI b)), (2, .int (iI z2))]) rfl ?_
              refine k_goto hE 29 dX7_drawInOrder_58 (by decide) ?_
              refine ih29 S3 z2 od2 (k + 1) (by omega) (by omega) (fun i hi => by rw [eS3]; show uv S2.1 14 _ i = _; rw [uv_n _ _ hi]; exact g1 i hi) (fun a h1 h2 => by rw [eS3]; show ur (ur S2.2 16 _ _) 17 _ _ a = _; rw [ur_n _ _ _ h2, ur_n _ _ _ h1]; exact g2 a h1 h2) ?_ gr2 gs2 gd2 (fun i hi => ?_) (fun f f0 f1 hf => ?_) hz_54
              · rw [eS3, ds]; show w - DA Y q od w k - min (WS Y q z) (GV Y z (w - DA Y q od w k)) = _; omega
              · rw [eS3]; show ur S2.2 16 z _ 16 (od2 i) = _
                by_cases e : i = k
                · rw [e, ok, ur_s, ds, dk, g0 z hn.1 hn.2.1 nd.1]; omega
                · rw [oi i (by omega), ur_o _ _ _ (nd.1 i (by omega)), gg i (by omega), DA_cong (o := od2) (o' := od) (k := i + 1) (fun j hj => oi j (by omega)), DA_cong (o := od2) (o' := od) (k := i) (fun j hj => oi j (by omega))]
              · rw [eS3]; show ur S2.2 16 z _ 16 f = _
                rw [ur_o _ _ _ (by have h5 := hf k (by omega); rw [ok] at h5; exact fun h6 => h5 h6.symm)]
                exact g0 f f0 f1 (fun i hi => by rw [← oi i hi]; exact hf i (by omega))
        exact L29 9 S zz (fun _ => 0) 0 (by omega) (by omega) (fun i _ => by rw [e1]) (fun a _ h2 => e2 a h2) (by rw [e1, hv_w, DA]; omega) (fun i hi => by omega) (fun i j hi hj => by omega) (fun f f0 f1 => Or.inr ⟨e3 f f0 (by omega), fun i hi => by omega, fun i hi => by omega⟩) (fun i hi => by omega) (fun f f0 f1 _ => by rw [e2 16 (by decide)]; exact hz f f0 f1) hz_25
      · refine k_aload_n hE dX7_drawInOrder_10 0 rfl rfl ?_
        refine m_get_isDone hE fl_X7_52 dX7_drawInOrder_11 ?_
        refine k_iload_n hE dX7_drawInOrder_14 2 rfl rfl ?_
        refine k_iconst hE dX7_drawInOrder_15 ?_
        refine m_st_isDone hE (by omega) (by omega) (by omega) dX7_drawInOrder_16 ?_
        refine k_st ((S.1, ur S.2 17 f 0)) rfl ?_
        refine k_iinc hE dX7_drawInOrder_17 2 [1, 2, 0] rfl (Nat.le_of_ble_eq_true rfl) (lo' := [(0, .ref (ad 0)), (1, .int (iI b)), (2, .int (iI (f + 1)))]) rfl ?_
        refine k_goto hE 2 dX7_drawInOrder_20 (by decide) ?_
        exact ih2 ((S.1, ur S.2 17 f 0)) _ (by omega) (by omega) e1 (fun a ha => by show ur S.2 17 _ _ a = _; rw [ur_n _ _ _ ha]; exact e2 a ha) (fun g g0 g1 => by show ur S.2 17 _ _ 17 g = 0; rw [ur_c]; split <;> first | rfl | exact e3 g g0 (by omega))
  exact L2 7 st 0 (by omega) (by omega) rfl (fun a _ => rfl) (fun g g0 g1 => by omega)

set_option maxHeartbeats 4000000 in
set_option maxRecDepth 100000 in
theorem c_X7_drawByTurns {ad : Nat → Nat} {D : va_G} {cI cZ : ClassId} (st : Sg) (Y : Sg) (w : Int) (q : Int) (hA : AgD st Y) (hI : Inv Y) (hv_w : st.1 14 = w) (hj : (st.1 15 = 1 ∧ q = 3) ∨ (st.1 15 = 0 ∧ q ≠ 3)) (hq : q ≠ 3) (hw : 0 ≤ w ∧ w ≤ 99) (hz : ∀ f : Int, 0 ≤ f → f < Y.1 0 → st.2 16 f = 0) : MC (mw ad D cI cZ) yX7_drawByTurns cX7_drawByTurns 4 none { frames := 2, cells := 0, slots := 0, locals := 45 } [.ref (ad 0)] st (fun rv u => ∃ S : Sg, rv = none ∧ u = S ∧ (∀ i, i ≠ 14 → S.1 i = st.1 i) ∧ (∀ a, a ≠ 16 → S.2 a = st.2 a) ∧ (S.1 14 = w - (TR Y w 100).1) ∧ (∀ f : Int, 0 ≤ f → f < Y.1 0 → S.2 16 f = (TR Y w 100).2 f)) := by
  refine MC_intro RX7 (by decide) rfl (Nat.le_of_ble_eq_true rfl) ?_
  intro G H0 m hE hR
  refine k_lo [0] (lo' := [(0, .ref (ad 0))]) rfl ?_
  obtain ⟨hi0, hi1, hi2, hi3, hi4, hi5, hi6, hi7, hit, hir, him, hin⟩ := id hI
  refine k_aload_n hE dX7_drawByTurns_0 0 rfl rfl ?_
  refine m_get_water hE (z := w) hv_w fl_X7_148 dX7_drawByTurns_1 ?_
  refine k_iconst hE dX7_drawByTurns_4 ?_
  refine k_iadd hE dX7_drawByTurns_5 ?_
  refine k_istore_n hE dX7_drawByTurns_6 [1, 0] rfl (Nat.le_of_ble_eq_true rfl) (lo' := [(0, .ref (ad 0)), (1, .int (iI (w + 1)))]) rfl ?_
  have L7 : ∀ (fu7 : Nat) (S : Sg) (was : Int) (j : Nat), ((j : Int) ≤ 101) → (101 - (j : Int) < fu7) → (∀ i, i ≠ 14 → S.1 i = st.1 i) → (∀ a, a ≠ 16 → S.2 a = st.2 a) → (S.1 14 = w - (TR Y w j).1) → (∀ f : Int, 0 ≤ f → f < Y.1 0 → S.2 16 f = (TR Y w j).2 f) → ((j = 0 ∧ was = w + 1) ∨ (1 ≤ j ∧ was = w - (TR Y w (j - 1)).1 ∧ (j : Int) - 1 ≤ (TR Y w (j - 1)).1)) → KW (mw ad D cI cZ) G H0 m 4 S 7 [(0, .ref (ad 0)), (1, .int (iI was))] [] := by
    intro fu7
    induction fu7 with
    | zero =>
      intro S was j q0 q1 e1 e2 ew eg es
      omega
    | succ fu7 ih7 =>
      intro S was j q0 q1 e1 e2 ew eg es
      have hAS : AgD S Y := hA.of (fun i hi => e1 i (by omega)) (fun a ha => e2 a (by omega))
      have hT := TR_I hI hw.1 j
      have hT1 := hT.1
      have hTp := (TR_I hI hw.1 (j - 1)).1
      have rw1 : 0 ≤ was ∧ was ≤ 100 := by omega
      refine k_aload_n hE dX7_drawByTurns_7 0 rfl rfl ?_
      refine m_get_water hE (z := w - (TR Y w j).1) ew fl_X7_148 dX7_drawByTurns_8 ?_
      refine k_iload_n hE dX7_drawByTurns_11 1 rfl rfl ?_
      refine k_icmp_ge hE 77 dX7_drawByTurns_12 (by decide) (by unfold in32; omega) (by unfold in32; omega) (fun c12 => ?_) (fun c12 => ?_)
      · refine k_vret hR dX7_drawByTurns_77 rfl ?_
        have mono : (TR Y w (j - 1)).1 ≤ (TR Y w (j - 1 + 1)).1 := (TRd_I hI (TR_I hI hw.1 (j - 1)) (k := (Y.1 0).toNat) (by omega)).2
        have hj1 : 1 ≤ j := by omega
        rw [show j - 1 + 1 = j by omega] at mono
        have eS := TR_stop hI hw.1 (n := j - 1) (by rw [show j - 1 + 1 = j by omega]; omega)
        have eT := TR_fix eS 100 (by omega)
        rw [show j - 1 + 1 = j by omega] at eS
        rw [← eS] at eT
        exact ⟨S, rfl, rfl, e1, e2, by rw [eT]; exact ew, fun f f0 f1 => by rw [eT]; exact eg f f0 f1⟩
      · refine k_aload_n hE dX7_drawByTurns_15 0 rfl rfl ?_
        refine m_get_water hE (z := w - (TR Y w j).1) ew fl_X7_148 dX7_drawByTurns_16 ?_
        refine k_istore_n hE dX7_drawByTurns_19 [1, 0] rfl (Nat.le_of_ble_eq_true rfl) (lo' := [(0, .ref (ad 0)), (1, .int (iI (w - (TR Y w j).1)))]) rfl ?_
        refine k_iconst hE dX7_drawByTurns_20 ?_
        refine k_istore_n hE dX7_drawByTurns_21 [1, 2, 0] rfl (Nat.le_of_ble_eq_true rfl) (lo' := [(0, .ref (ad 0)), (1, .int (iI (w - (TR Y w j).1))), (2, .int (iI 0))]) rfl ?_
        have L22 : ∀ (fu22 : Nat) (S2 : Sg) (f : Nat), ((f : Int) ≤ Y.1 0) → (Y.1 0 - f < fu22) → (∀ i, i ≠ 14 → S2.1 i = st.1 i) → (∀ a, a ≠ 16 → S2.2 a = st.2 a) → (S2.1 14 = w - (TRd Y w f (TR Y w j)).1) → (∀ i : Int, 0 ≤ i → i < Y.1 0 → S2.2 16 i = (TRd Y w f (TR Y w j)).2 i) → KW (mw ad D cI cZ) G H0 m 4 S2 22 [(0, .ref (ad 0)), (1, .int (iI (w - (TR Y w j).1))), (2, .int (iI ((f : Int))))] [] := by
          intro fu22
          induction fu22 with
          | zero =>
            intro S2 f p0 p1 g1 g2 gw gg
            omega
          | succ fu22 ih22 =>
            intro S2 f p0 p1 g1 g2 gw gg
            have hAS2 : AgD S2 Y := hA.of (fun i hi => g1 i (by omega)) (fun a ha => g2 a (by omega))
            have hT2 := (TRd_I hI hT (k := f) (by omega)).1
            have hT3 := hT2.1
            refine k_iload_n hE dX7_drawByTurns_22 2 rfl rfl ?_
            refine k_aload_n hE dX7_drawByTurns_23 0 rfl rfl ?_
            refine m_get_taps hE (z := Y.1 0) (hAS2.1 0 (by decide)) fl_X7_78 dX7_drawByTurns_24 ?_
            refine k_icmp_ge hE 74 dX7_drawByTurns_27 (by decide) (by unfold in32; omega) (by unfold in32; omega) (fun c27 => ?_) (fun c27 => ?_)
            · have ef : f = (Y.1 0).toNat := by omega
              have gw2 : S2.1 14 = w - (TR Y w (j + 1)).1 := by rw [gw, ef]; rfl
              have gg2 : ∀ i : Int, 0 ≤ i → i < Y.1 0 → S2.2 16 i = (TR Y w (j + 1)).2 i := fun i i0 i1 => by rw [gg i i0 i1, ef]; rfl
              refine k_goto hE 7 dX7_drawByTurns_74 (by decide) ?_
              refine k_lo [0, 1] (lo' := [(0, .ref (ad 0)), (1, .int (iI (w - (TR Y w j).1)))]) rfl ?_
              have hj0 : (j : Int) ≤ (TR Y w j).1 := by
                rcases es with h | h
                · rw [h.1]; show (0 : Int) ≤ 0; omega
                · omega
              exact ih7 S2 _ (j + 1) (by omega) (by omega) g1 g2 gw2 gg2 (Or.inr ⟨by omega, rfl, by show ((j + 1 : Nat) : Int) - 1 ≤ (TR Y w j).1; omega⟩)
            · have hgf := gg f (by omega) (by omega)
              have hp := hT2.2 f (by omega) (by omega)
              have hf := hit f (by omega) (by omega)
              have hnn := WN_rng hI (f := (f : Int)) (by omega) (by omega)
              have ewn : WS Y q f = WN Y f := by unfold WS; rw [if_neg hq]
              refine k_aload_n hE dX7_drawByTurns_30 0 rfl rfl ?_
              refine k_iload_n hE dX7_drawByTurns_31 2 rfl rfl ?_
              refine k_callV hE (c_X7_wantsNow S2 Y ((f : Int)) q hAS2 hI (by omega) (by omega) (by rw [g1 15 (by decide)]; exact hj)) mf_X7_wantsNow ml_X7_162 0 rfl rfl rfl rfl ⟨rfl, rfl, Nat.le_of_ble_eq_true rfl, Nat.le_of_ble_eq_true rfl⟩ [] (Nat.le_of_ble_eq_true rfl) dX7_drawByTurns_32 rfl (fun rv u hp => ?_)
              obtain ⟨hv32, hu32⟩ := hp
              refine k_sk (sk' := [.int (iI (WS Y q ((f : Int))))]) (by rw [hv32]; rfl) ?_
              refine k_st S2 hu32 ?_
              refine k_sk (sk' := [.int (iI (WN Y f))]) (congrArg (fun zz : Int => ([.int (iI zz)] : List Value)) (show (WS Y q ((f : Int))) = (WN Y f) from ewn)) ?_
              refine k_aload_n hE dX7_drawByTurns_35 0 rfl rfl ?_
              refine m_get_drawn hE fl_X7_49 dX7_drawByTurns_36 ?_
              refine k_iload_n hE dX7_drawByTurns_39 2 rfl rfl ?_
              refine m_ld_drawn hE (z := (TRd Y w f (TR Y w j)).2 (f : Int)) (by omega) (by omega) hgf dX7_drawByTurns_40 ?_
              refine k_isub hE dX7_drawByTurns_41 ?_
              refine k_istore_n hE dX7_drawByTurns_42 [1, 2, 3, 0] rfl (Nat.le_of_ble_eq_true rfl) (lo' := [(0, .ref (ad 0)), (1, .int (iI (w - (TR Y w j).1))), (2, .int (iI ((f : Int)))), (3, .int (iI ((WN Y f) - ((TRd Y w f (TR Y w j)).2 (f : Int)))))]) rfl ?_
              refine k_aload_n hE dX7_drawByTurns_43 0 rfl rfl ?_
              refine k_iload_n hE dX7_drawByTurns_44 2 rfl rfl ?_
              refine k_iload_n hE dX7_drawByTurns_45 3 rfl rfl ?_
              refine k_aload_n hE dX7_drawByTurns_46 0 rfl rfl ?_
              refine m_get_speed hE fl_X7_28 dX7_drawByTurns_47 ?_
              refine k_iload_n hE dX7_drawByTurns_50 2 rfl rfl ?_
              refine m_ld_speed hE (z := Y.2 3 ((f : Int))) (by omega) (by omega) (congrFun (hAS2.2 3 (by decide)) ((f : Int))) dX7_drawByTurns_51 ?_
              refine k_icmp_ge hE 59 dX7_drawByTurns_52 (by decide) (by unfold in32; omega) (by unfold in32; omega) (fun c52 => ?_) (fun c52 => ?_)
              · refine k_aload_n hE dX7_drawByTurns_59 0 rfl rfl ?_
                refine m_get_speed hE fl_X7_28 dX7_drawByTurns_60 ?_
                refine k_iload_n hE dX7_drawByTurns_63 2 rfl rfl ?_
                refine m_ld_speed hE (z := Y.2 3 ((f : Int))) (by omega) (by omega) (congrFun (hAS2.2 3 (by decide)) ((f : Int))) dX7_drawByTurns_64 ?_
                refine k_sk (sk' := [.int (iI (min (Y.2 3 (f : Int)) (WN Y (f : Int) - (TRd Y w f (TR Y w j)).2 (f : Int)))), .int (iI ((f : Int))), .ref (ad 0)]) (congrArg (fun zz : Int => ([.int (iI zz), .int (iI ((f : Int))), .ref (ad 0)] : List Value)) (show (Y.2 3 ((f : Int))) = (min (Y.2 3 (f : Int)) (WN Y (f : Int) - (TRd Y w f (TR Y w j)).2 (f : Int))) from (by omega))) ?_
                refine k_callV hE (c_X7_draw S2 Y ((f : Int)) (min (Y.2 3 (f : Int)) (WN Y (f : Int) - (TRd Y w f (TR Y w j)).2 (f : Int))) (w - (TRd Y w f (TR Y w j)).1) hAS2 hI (by omega) (by omega) gw (by omega) (by omega)) mf_X7_draw ml_X7_165 0 rfl rfl rfl rfl ⟨rfl, rfl, Nat.le_of_ble_eq_true rfl, Nat.le_of_ble_eq_true rfl⟩ [] (Nat.le_of_ble_eq_true rfl) dX7_drawByTurns_65 rfl (fun rv u hp => ?_)
                obtain ⟨hv65, hu65⟩ := hp
                refine k_sk (sk' := []) (by rw [hv65]; rfl) ?_
                refine k_st ((uv S2.1 14 ((w - (TRd Y w f (TR Y w j)).1) - min (min (Y.2 3 (f : Int)) (WN Y (f : Int) - (TRd Y w f (TR Y w j)).2 (f : Int))) (GV Y ((f : Int)) (w - (TRd Y w f (TR Y w j)).1))), ur S2.2 16 (((f : Int))) (S2.2 16 ((f : Int)) + min (min (Y.2 3 (f : Int)) (WN Y (f : Int) - (TRd Y w f (TR Y w j)).2 (f : Int))) (GV Y ((f : Int)) (w - (TRd Y w f (TR Y w j)).1))))) hu65 ?_
                refine k_iinc hE dX7_drawByTurns_68 2 [1, 2, 0, 3] rfl (Nat.le_of_ble_eq_true rfl) (lo' := [(0, .ref (ad 0)), (1, .int (iI (w - (TR Y w j).1))), (2, .int (iI (((f : Int)) + 1))), (3, .int (iI ((WN Y f) - ((TRd Y w f (TR Y w j)).2 (f : Int)))))]) rfl ?_
                refine k_goto hE 22 dX7_drawByTurns_71 (by decide) ?_
                refine k_lo [0, 1, 2] (lo' := [(0, .ref (ad 0)), (1, .int (iI (w - (TR Y w j).1))), (2, .int (iI (((f : Int)) + 1)))]) rfl ?_
                refine ih22 ((uv S2.1 14 ((w - (TRd Y w f (TR Y w j)).1) - min (min (Y.2 3 (f : Int)) (WN Y (f : Int) - (TRd Y w f (TR Y w j)).2 (f : Int))) (GV Y ((f : Int)) (w - (TRd Y w f (TR Y w j)).1))), ur S2.2 16 (((f : Int))) (S2.2 16 ((f : Int)) + min (min (Y.2 3 (f : Int)) (WN Y (f : Int) - (TRd Y w f (TR Y w j)).2 (f : Int))) (GV Y ((f : Int)) (w - (TRd Y w f (TR Y w j)).1))))) (f + 1) (by omega) (by omega) (fun i hi => by show uv S2.1 14 _ i = _; rw [uv_n _ _ hi]; exact g1 i hi) (fun a ha => by show ur S2.2 16 _ _ a = _; rw [ur_n _ _ _ ha]; exact g2 a ha) ?_ (fun i i0 i1 => ?_)
                · show uv S2.1 14 _ 14 = w - (TS Y w f (TRd Y w f (TR Y w j))).1
                  rw [uv_s]
                  unfold TS
                  exact Int.sub_sub _ _ _
                · show ur S2.2 16 _ _ 16 i = (TS Y w f (TRd Y w f (TR Y w j))).2 i
                  rw [ur_c]
                  unfold TS
                  dsimp only
                  by_cases e : i = (f : Int)
                  · rw [e, if_pos rfl, if_pos rfl, hgf]
                  · rw [if_neg e, if_neg e]
                    exact gg i i0 i1
              · refine k_iload_n hE dX7_drawByTurns_55 3 rfl rfl ?_
                refine k_goto hE 65 dX7_drawByTurns_56 (by decide) ?_
                refine k_sk (sk' := [.int (iI (min (Y.2 3 (f : Int)) (WN Y (f : Int) - (TRd Y w f (TR Y w j)).2 (f : Int)))), .int (iI ((f : Int))), .ref (ad 0)]) (congrArg (fun zz : Int => ([.int (iI zz), .int (iI ((f : Int))), .ref (ad 0)] : List Value)) (show ((WN Y f) - ((TRd Y w f (TR Y w j)).2 (f : Int))) = (min (Y.2 3 (f : Int)) (WN Y (f : Int) - (TRd Y w f (TR Y w j)).2 (f : Int))) from (by omega))) ?_
                refine k_callV hE (c_X7_draw S2 Y ((f : Int)) (min (Y.2 3 (f : Int)) (WN Y (f : Int) - (TRd Y w f (TR Y w j)).2 (f : Int))) (w - (TRd Y w f (TR Y w j)).1) hAS2 hI (by omega) (by omega) gw (by omega) (by omega)) mf_X7_draw ml_X7_165 0 rfl rfl rfl rfl ⟨rfl, rfl, Nat.le_of_ble_eq_true rfl, Nat.le_of_ble_eq_true rfl⟩ [] (Nat.le_of_ble_eq_true rfl) dX7_drawByTurns_65 rfl (fun rv u hp => ?_)
                obtain ⟨hv65, hu65⟩ := hp
                refine k_sk (sk' := []) (by rw [hv65]; rfl) ?_
                refine k_st ((uv S2.1 14 ((w - (TRd Y w f (TR Y w j)).1) - min (min (Y.2 3 (f : Int)) (WN Y (f : Int) - (TRd Y w f (TR Y w j)).2 (f : Int))) (GV Y ((f : Int)) (w - (TRd Y w f (TR Y w j)).1))), ur S2.2 16 (((f : Int))) (S2.2 16 ((f : Int)) + min (min (Y.2 3 (f : Int)) (WN Y (f : Int) - (TRd Y w f (TR Y w j)).2 (f : Int))) (GV Y ((f : Int)) (w - (TRd Y w f (TR Y w j)).1))))) hu65 ?_
                refine k_iinc hE dX7_drawByTurns_68 2 [1, 2, 0, 3] rfl (Nat.le_of_ble_eq_true rfl) (lo' := [(0, .ref (ad 0)), (1, .int (iI (w - (TR Y w j).1))), (2, .int (iI (((f : Int)) + 1))), (3, .int (iI ((WN Y f) - ((TRd Y w f (TR Y w j)).2 (f : Int)))))]) rfl ?_
                refine k_goto hE 22 dX7_drawByTurns_71 (by decide) ?_
                refine k_lo [0, 1, 2] (lo' := [(0, .ref (ad 0)), (1, .int (iI (w - (TR Y w j).1))), (2, .int (iI (((f : Int)) + 1)))]) rfl ?_
                refine ih22 ((uv S2.1 14 ((w - (TRd Y w f (TR Y w j)).1) - min (min (Y.2 3 (f : Int)) (WN Y (f : Int) - (TRd Y w f (TR Y w j)).2 (f : Int))) (GV Y ((f : Int)) (w - (TRd Y w f (TR Y w j)).1))), ur S2.2 16 (((f : Int))) (S2.2 16 ((f : Int)) + min (min (Y.2 3 (f : Int)) (WN Y (f : Int) - (TRd Y w f (TR Y w j)).2 (f : Int))) (GV Y ((f : Int)) (w - (TRd Y w f (TR Y w j)).1))))) (f + 1) (by omega) (by omega) (fun i hi => by show uv S2.1 14 _ i = _; rw [uv_n _ _ hi]; exact g1 i hi) (fun a ha => by show ur S2.2 16 _ _ a = _; rw [ur_n _ _ _ ha]; exact g2 a ha) ?_ (fun i i0 i1 => ?_)
                · show uv S2.1 14 _ 14 = w - (TS Y w f (TRd Y w f (TR Y w j))).1
                  rw [uv_s]
                  unfold TS
                  exact Int.sub_sub _ _ _
                · show ur S2.2 16 _ _ 16 i = (TS Y w f (TRd Y w f (TR Y w j))).2 i
                  rw [ur_c]
                  unfold TS
                  dsimp only
                  by_cases e : i = (f : Int)
                  · rw [e, if_pos rfl, if_pos rfl, hgf]
                  · rw [if_neg e, if_neg e]
                    exact gg i i0 i1
        exact L22 7 S 0 (by omega) (by omega) e1 e2 ew eg
  exact L7 103 st (w + 1) 0 (by omega) (by omega) (fun i _ => rfl) (fun a _ => rfl) (by rw [hv_w]; show w = w - 0; omega) (fun f f0 f1 => hz f f0 f1) (Or.inl ⟨rfl, rfl⟩)
