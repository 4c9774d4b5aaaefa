theorem L_loop {ad : Nat → Nat} {ta sa ca : Int → Nat} {md : Nat → Nat} {D : va_G} {cI cT cS cZ : ClassId} {G : Heap → List Loc → JFrame → Prop} {H0 : Heap} {m : MethodId} {b : Nat} {L : Int} {xs : Int → Int} (hE : KE (wpair (xw ad ta sa ca D cI cT cS) (mw md D cI cZ)) G H0 m cL_law RL 4 room_1) (hS : KS (wpair (xw ad ta sa ca D cI cT cS) (mw md D cI cZ)) G H0 m 4 cL_law b L xs) (hL : L ≤ 3072) (hx : ∀ j : Int, 0 ≤ j → j < L → -2147483648 ≤ xs j ∧ xs j < 2147483648) (hL0 : 0 ≤ L) (hend : ∀ (st : Sg × Sg) (lo : List (Nat × Value)), KW (wpair (xw ad ta sa ca D cI cT cS) (mw md D cI cZ)) G H0 m 4 st 1219 lo [.int (iI 1)]) : ∀ (fu : Nat) (i : Int) (X M : Sg), RLx X M → 0 ≤ i → i ≤ 3072 → L - i < fu → KW (wpair (xw ad ta sa ca D cI cT cS) (mw md D cI cZ)) G H0 m 4 (X, M) 18 [(0, .ref b), (1, .ref (ad 0)), (2, .ref (md 0)), (3, .int (iI i))] [] := by
  intro fu
  induction fu with
  | zero =>
    intro i X M hR h0 hi hf
    refine k_iload_n hE dL_law_18 3 rfl rfl ?_
    refine k_aload_n hE dL_law_19 0 rfl rfl ?_
    refine hS.2 _ _ _ _ dL_law_20 ?_
    refine k_bipush hE dL_law_21 rfl ?_
    refine k_isub hE dL_law_23 ?_
    refine k_icmp_gt hE 1218 dL_law_24 (by decide) (by unfold in32; omega) (by unfold in32; omega) (fun c => ?_) (fun c => by exfalso; omega)
    refine k_iconst hE dL_law_1218 ?_
    exact hend _ _
  | succ fu ih =>
    intro i X M hR h0 hi hf
    refine k_iload_n hE dL_law_18 3 rfl rfl ?_
    refine k_aload_n hE dL_law_19 0 rfl rfl ?_
    refine hS.2 _ _ _ _ dL_law_20 ?_
    refine k_bipush hE dL_law_21 rfl ?_
    refine k_isub hE dL_law_23 ?_
    refine k_icmp_gt hE 1218 dL_law_24 (by decide) (by unfold in32; omega) (by unfold in32; omega) (fun c => ?_) (fun c => ?_)
    · refine k_iconst hE dL_law_1218 ?_
      exact hend _ _
    have k : ∀ X2 M2 : Sg, RLx X2 M2 → KW (wpair (xw ad ta sa ca D cI cT cS) (mw md D cI cZ)) G H0 m 4 (X2, M2) 1212 [(0, .ref b), (1, .ref (ad 0)), (2, .ref (md 0)), (3, .int (iI i))] [] := by
      intro X2 M2 hR2
      refine k_iinc hE dL_law_1212 3 [1, 2, 3, 0] rfl (Nat.le_of_ble_eq_true rfl) (lo' := [(0, .ref b), (1, .ref (ad 0)), (2, .ref (md 0)), (3, .int (iI (i + 6)))]) rfl ?_
      refine k_goto hE 18 dL_law_1215 (by decide) ?_
      exact ih (i + 6) X2 M2 hR2 (by omega) (by omega) (by omega)
    refine k_aload_n hE dL_law_27 0 rfl rfl ?_
    refine k_iload_n hE dL_law_28 3 rfl rfl ?_
    refine hS.1 _ i _ _ _ dL_law_29 (by omega) (by omega) ?_
    refine k_bipush hE dL_law_30 rfl ?_
    refine k_iand hE dL_law_32 ?_
    have hz : in32 (zand (xs i) 63) := iI_rng _
    generalize zand (xs i) 63 = v at hz ⊢
    by_cases q : v < 0 ∨ 32 < v
    · refine k_tabOut hE 1212 dL_law_33 hz q (by decide) ?_
      exact k X M hR
    rcases (show v = 0 ∨ v = 1 ∨ v = 2 ∨ v = 3 ∨ v = 4 ∨ v = 5 ∨ v = 6 ∨ v = 7 ∨ v = 8 ∨ v = 9 ∨ v = 10 ∨ v = 11 ∨ v = 12 ∨ v = 13 ∨ v = 14 ∨ v = 15 ∨ v = 16 ∨ v = 17 ∨ v = 18 ∨ v = 19 ∨ v = 20 ∨ v = 21 ∨ v = 22 ∨ v = 23 ∨ v = 24 ∨ v = 25 ∨ v = 26 ∨ v = 27 ∨ v = 28 ∨ v = 29 ∨ v = 30 ∨ v = 31 ∨ v = 32 by omega) with s | s | s | s | s | s | s | s | s | s | s | s | s | s | s | s | s | s | s | s | s | s | s | s | s | s | s | s | s | s | s | s | s
    · refine k_tabIn hE 180 0 dL_law_33 s (by decide) (by decide) rfl (by decide) ?_
      exact L_yard hE hS h0 (by omega) hx hR k
    · refine k_tabIn hE 233 1 dL_law_33 s (by decide) (by decide) rfl (by decide) ?_
      exact L_ofTap hE hS h0 (by omega) hx hR k
    · refine k_tabIn hE 266 2 dL_law_33 s (by decide) (by decide) rfl (by decide) ?_
      exact L_bore hE hS h0 (by omega) hx hR k
    · refine k_tabIn hE 299 3 dL_law_33 s (by decide) (by decide) rfl (by decide) ?_
      exact L_begin hE hS h0 (by omega) hx hR k
    · refine k_tabIn hE 322 4 dL_law_33 s (by decide) (by decide) rfl (by decide) ?_
      exact L_rain hE hS h0 (by omega) hx hR k
    · refine k_tabIn hE 355 5 dL_law_33 s (by decide) (by decide) rfl (by decide) ?_
      exact L_law hE hS h0 (by omega) hx hR k
    · refine k_tabIn hE 378 6 dL_law_33 s (by decide) (by decide) rfl (by decide) ?_
      exact L_leak hE hS h0 (by omega) hx hR k
    · refine k_tabIn hE 411 7 dL_law_33 s (by decide) (by decide) rfl (by decide) ?_
      exact L_got hE hS h0 (by omega) hx hR k
    · refine k_tabIn hE 444 8 dL_law_33 s (by decide) (by decide) rfl (by decide) ?_
      exact L_level hE hS h0 (by omega) hx hR k
    · refine k_tabIn hE 467 9 dL_law_33 s (by decide) (by decide) rfl (by decide) ?_
      exact L_over hE hS h0 (by omega) hx hR k
    · refine k_tabIn hE 490 10 dL_law_33 s (by decide) (by decide) rfl (by decide) ?_
      exact L_nobody hE hS h0 (by omega) hx hR k
    · refine k_tabIn hE 513 11 dL_law_33 s (by decide) (by decide) rfl (by decide) ?_
      exact L_dry hE hS h0 (by omega) hx hR k
    · refine k_tabIn hE 536 12 dL_law_33 s (by decide) (by decide) rfl (by decide) ?_
      exact L_can hE hS h0 (by omega) hx hR k
    · refine k_tabIn hE 559 13 dL_law_33 s (by decide) (by decide) rfl (by decide) ?_
      exact L_start hE hS h0 (by omega) hx hR k
    · refine k_tabIn hE 582 14 dL_law_33 s (by decide) (by decide) rfl (by decide) ?_
      exact L_best hE hS h0 (by omega) hx hR k
    · refine k_tabIn hE 615 15 dL_law_33 s (by decide) (by decide) rfl (by decide) ?_
      exact L_highest hE hS h0 (by omega) hx hR k
    · refine k_tabIn hE 648 16 dL_law_33 s (by decide) (by decide) rfl (by decide) ?_
      exact L_worst hE hS h0 (by omega) hx hR k
    · refine k_tabIn hE 682 17 dL_law_33 s (by decide) (by decide) rfl (by decide) ?_
      exact L_risk hE hS h0 (by omega) hx hR k
    · refine k_tabIn hE 746 18 dL_law_33 s (by decide) (by decide) rfl (by decide) ?_
      exact L_mark hE hS h0 (by omega) hx hR k
    · refine k_tabIn hE 779 19 dL_law_33 s (by decide) (by decide) rfl (by decide) ?_
      exact L_back hE hS h0 (by omega) hx hR k
    · refine k_tabIn hE 802 20 dL_law_33 s (by decide) (by decide) rfl (by decide) ?_
      exact L_rains hE hS h0 (by omega) hx hR k
    · refine k_tabIn hE 835 21 dL_law_33 s (by decide) (by decide) rfl (by decide) ?_
      exact L_thief hE hS h0 (by omega) hx hR k
    · refine k_tabIn hE 868 22 dL_law_33 s (by decide) (by decide) rfl (by decide) ?_
      exact L_sheet hE hS h0 (by omega) hx hR k
    · refine k_tabIn hE 911 23 dL_law_33 s (by decide) (by decide) rfl (by decide) ?_
      exact L_lose hE hS h0 (by omega) hx hR k
    · refine k_tabIn hE 934 24 dL_law_33 s (by decide) (by decide) rfl (by decide) ?_
      exact L_put hE hS h0 (by omega) hx hR k
    · refine k_tabIn hE 977 25 dL_law_33 s (by decide) (by decide) rfl (by decide) ?_
      exact L_cell hE hS h0 (by omega) hx hR k
    · refine k_tabIn hE 1021 26 dL_law_33 s (by decide) (by decide) rfl (by decide) ?_
      exact L_copy hE hS h0 (by omega) hx hR k
    · refine k_tabIn hE 1084 27 dL_law_33 s (by decide) (by decide) rfl (by decide) ?_
      exact L_tell hE hS h0 (by omega) hx hR k
    · refine k_tabIn hE 1107 28 dL_law_33 s (by decide) (by decide) rfl (by decide) ?_
      exact L_knock hE hS h0 (by omega) hx hR k
    · refine k_tabIn hE 1130 29 dL_law_33 s (by decide) (by decide) rfl (by decide) ?_
      exact L_as hE hS h0 (by omega) hx hR k
    · refine k_tabIn hE 1163 30 dL_law_33 s (by decide) (by decide) rfl (by decide) ?_
      exact L_trace hE hS h0 (by omega) hx hR k
    · refine k_tabIn hE 1176 31 dL_law_33 s (by decide) (by decide) rfl (by decide) ?_
      exact L_fault hE hS h0 (by omega) hx hR k
    · refine k_tabIn hE 1189 32 dL_law_33 s (by decide) (by decide) rfl (by decide) ?_
      exact L_many hE hS h0 (by omega) hx hR k
