/-! sheets, in class and reference -/
theorem RL_k {X M : Sg} (hR : RLx X M) {k : Int} (k0 : 0 ≤ k) (k1 : k < 4) : M.2 9 k = LNm (X.2 7 k) ∧ M.2 8 k = X.2 8 k ∧ (-1 ≤ X.2 7 k ∧ X.2 7 k ≤ 2) ∧ (0 ≤ X.2 8 k ∧ X.2 8 k ≤ 60) := by
  obtain ⟨hI, hS, hM, hA, h89, h8, h9, h13, h15⟩ := hR
  exact ⟨h9 k k0 k1, by rw [h8], (hS.1 k k0 k1).1, (hS.1 k k0 k1).2⟩
theorem LN_9 {l : Int} (h : -1 ≤ l) : LNm l = -9 ↔ l = -1 := by
  unfold LNm; split <;> omega
theorem LN_i {l : Int} (h : l ≠ -1) : LNm l = l := by unfold LNm; rw [if_neg h]
theorem ur_id {r : Nat → Int → Int} {a : Nat} {i z : Int} (h : r a i = z) : ur r a i z = r := by
  funext b j
  unfold ur
  split
  · rename_i e
    split
    · rename_i e2; rw [e, e2, h]
    · rfl
  · rfl
theorem CUT_rng {l v : Int} (h : -2147483648 ≤ v ∧ v < 2147483648) : -2147483648 ≤ CUT l v ∧ CUT l v < 2147483648 := by
  unfold CUT
  split
  · exact iI_rng _
  · split
    · exact iI_rng _
    · exact h
theorem RL_lane {X M : Sg} (hR : RLx X M) {k l : Int} (k0 : 0 ≤ k) (k1 : k < 4) (hl : -1 ≤ l ∧ l ≤ 2) : RLx (X.1, ur X.2 7 k l) (M.1, ur M.2 9 k (LNm l)) := by
  obtain ⟨hI, hS, hM, hA, h89, h8, h9, h13, h15⟩ := hR
  have na : ∀ c : Nat, c ≠ 7 → ur X.2 7 k l c = X.2 c := fun c hc => ur_n _ _ _ hc
  have nb : ∀ c : Nat, c ≠ 9 → ur M.2 9 k (LNm l) c = M.2 c := fun c hc => ur_n _ _ _ hc
  have hI2 : Inv (X.1, ur X.2 7 k l) := Inv_ag (a := X) ⟨fun _ _ => rfl, fun c hc => na c (by omega)⟩ hI
  refine ⟨hI2, ⟨fun q q0 q1 => ⟨?_, ?_⟩, fun q j q0 q1 j0 j1 => ?_⟩, ⟨fun q q0 q1 => ⟨?_, ?_⟩, fun q j q0 q1 j0 j1 => ?_⟩, ⟨hA.1, fun c hc => ?_⟩, h89, ?_, fun q q0 q1 => ?_, fun q j q0 q1 j0 j1 => ?_, h15⟩
  · have h5 := (hS.1 q q0 q1).1
    show -1 ≤ ur X.2 7 k l 7 q ∧ ur X.2 7 k l 7 q ≤ 2
    rw [ur_c]; split <;> omega
  · show 0 ≤ ur X.2 7 k l 8 q ∧ ur X.2 7 k l 8 q ≤ 60
    rw [na 8 (by decide)]; exact (hS.1 q q0 q1).2
  · have j2 : j < ur X.2 7 k l 8 q := j1
    rw [na 8 (by decide)] at j2
    show -2147483648 ≤ ur X.2 7 k l (20 + q.toNat) j ∧ ur X.2 7 k l (20 + q.toNat) j < 2147483648
    rw [na (20 + q.toNat) (by omega)]; exact hS.2 q j q0 q1 j0 j2
  · have h5 := (hM.1 q q0 q1).1
    show ur M.2 9 k (LNm l) 9 q = -9 ∨ (0 ≤ ur M.2 9 k (LNm l) 9 q ∧ ur M.2 9 k (LNm l) 9 q ≤ 2)
    rw [ur_c]
    split
    · unfold LNm; split <;> omega
    · exact h5
  · show 0 ≤ ur M.2 9 k (LNm l) 8 q ∧ ur M.2 9 k (LNm l) 8 q ≤ 60
    rw [nb 8 (by decide)]; exact (hM.1 q q0 q1).2
  · have j2 : j < ur M.2 9 k (LNm l) 8 q := j1
    rw [nb 8 (by decide)] at j2
    show -2147483648 ≤ ur M.2 9 k (LNm l) 13 (60 * q + j) ∧ ur M.2 9 k (LNm l) 13 (60 * q + j) < 2147483648
    rw [nb 13 (by decide)]; exact hM.2 q j q0 q1 j0 j2
  · show ur M.2 9 k (LNm l) c = ur X.2 7 k l c
    rw [na c (by omega), nb c (by omega)]; exact hA.2 c hc
  · show ur M.2 9 k (LNm l) 8 = ur X.2 7 k l 8
    rw [na 8 (by decide), nb 8 (by decide)]; exact h8
  · show ur M.2 9 k (LNm l) 9 q = LNm (ur X.2 7 k l 7 q)
    rw [ur_c, ur_c]
    split
    · rfl
    · exact h9 q q0 q1
  · have j2 : j < ur X.2 7 k l 8 q := j1
    rw [na 8 (by decide)] at j2
    show ur M.2 9 k (LNm l) 13 (60 * q + j) = ur X.2 7 k l (20 + q.toNat) j
    rw [nb 13 (by decide), na (20 + q.toNat) (by omega)]; exact h13 q j q0 q1 j0 j2
/-- cells written alike -/
theorem RL_cells {X M S S2 : Sg} (hR : RLx X M) {o : Int} (o0 : 0 ≤ o) (o1 : o < 4) (s1 : S.1 = X.1) (t1 : S2.1 = M.1) (s2 : ∀ a, a ≠ 20 + o.toNat → S.2 a = X.2 a) (t2 : ∀ a, a ≠ 13 → S2.2 a = M.2 a) (t3 : ∀ t : Int, ¬ (60 * o ≤ t ∧ t < 60 * o + 60) → S2.2 13 t = M.2 13 t) (hr : ∀ j : Int, 0 ≤ j → j < X.2 8 o → -2147483648 ≤ S.2 (20 + o.toNat) j ∧ S.2 (20 + o.toNat) j < 2147483648) (he : ∀ j : Int, 0 ≤ j → j < X.2 8 o → S2.2 13 (60 * o + j) = S.2 (20 + o.toNat) j) : RLx S S2 := by
  obtain ⟨hI, hS, hM, hA, h89, h8, h9, h13, h15⟩ := hR
  have z8 : ∀ q : Int, M.2 8 q = X.2 8 q := fun q => by rw [h8]
  have key : ∀ q j : Int, 0 ≤ q → q < 4 → 0 ≤ j → j < X.2 8 q → S2.2 13 (60 * q + j) = S.2 (20 + q.toNat) j ∧ (-2147483648 ≤ S.2 (20 + q.toNat) j ∧ S.2 (20 + q.toNat) j < 2147483648) := by
    intro q j q0 q1 j0 j1
    by_cases e : q = o
    · rw [e] at j1 ⊢
      exact ⟨he j j0 j1, hr j j0 j1⟩
    · have b8 := (hS.1 q q0 q1).2
      rw [s2 (20 + q.toNat) (by omega), t3 (60 * q + j) (by omega)]
      exact ⟨h13 q j q0 q1 j0 j1, hS.2 q j q0 q1 j0 j1⟩
  refine ⟨Inv_ag ⟨fun i _ => by rw [s1], fun c hc => s2 c (by omega)⟩ hI, ⟨fun q q0 q1 => ?_, fun q j q0 q1 j0 j1 => ?_⟩, ⟨fun q q0 q1 => ?_, fun q j q0 q1 j0 j1 => ?_⟩, ⟨fun i hi => by rw [s1, t1]; exact hA.1 i hi, fun c hc => ?_⟩, by rw [s1, t1]; exact h89, ?_, fun q q0 q1 => ?_, fun q j q0 q1 j0 j1 => ?_, by rw [t1]; exact h15⟩
  · rw [s2 7 (by omega), s2 8 (by omega)]; exact hS.1 q q0 q1
  · rw [s2 8 (by omega)] at j1
    exact (key q j q0 q1 j0 j1).2
  · rw [t2 9 (by decide), t2 8 (by decide)]; exact hM.1 q q0 q1
  · rw [t2 8 (by decide), z8] at j1
    rw [(key q j q0 q1 j0 j1).1]
    exact (key q j q0 q1 j0 j1).2
  · rw [s2 c (by omega), t2 c (by omega)]; exact hA.2 c hc
  · rw [s2 8 (by omega), t2 8 (by decide)]; exact h8
  · rw [s2 7 (by omega), t2 9 (by decide)]; exact h9 q q0 q1
  · rw [s2 8 (by omega)] at j1
    exact (key q j q0 q1 j0 j1).1
/-- a size, whose cells are empty -/
theorem RL_size {X M : Sg} (hR : RLx X M) {k n : Int} (k0 : 0 ≤ k) (k1 : k < 4) (hn : 0 ≤ n ∧ n ≤ 60) (h0 : ∀ j : Int, 0 ≤ j → j < n → X.2 (20 + k.toNat) j = 0) (g0 : ∀ j : Int, 0 ≤ j → j < n → M.2 13 (60 * k + j) = 0) : RLx (X.1, ur X.2 8 k n) (M.1, ur M.2 8 k n) := by
  obtain ⟨hI, hS, hM, hA, h89, h8, h9, h13, h15⟩ := hR
  have na : ∀ c : Nat, c ≠ 8 → ur X.2 8 k n c = X.2 c := fun c hc => ur_n _ _ _ hc
  have nb : ∀ c : Nat, c ≠ 8 → ur M.2 8 k n c = M.2 c := fun c hc => ur_n _ _ _ hc
  have hI2 : Inv (X.1, ur X.2 8 k n) := Inv_ag (a := X) ⟨fun _ _ => rfl, fun c hc => na c (by omega)⟩ hI
  have z8 : ∀ q : Int, M.2 8 q = X.2 8 q := fun q => by rw [h8]
  have key : ∀ q j : Int, 0 ≤ q → q < 4 → 0 ≤ j → j < ur X.2 8 k n 8 q → M.2 13 (60 * q + j) = X.2 (20 + q.toNat) j ∧ (-2147483648 ≤ X.2 (20 + q.toNat) j ∧ X.2 (20 + q.toNat) j < 2147483648) := by
    intro q j q0 q1 j0 j1
    rw [ur_c] at j1
    by_cases e : q = k
    · rw [if_pos e] at j1
      rw [e, h0 j j0 j1, g0 j j0 j1]
      exact ⟨rfl, by decide, by decide⟩
    · rw [if_neg e] at j1
      exact ⟨h13 q j q0 q1 j0 j1, hS.2 q j q0 q1 j0 j1⟩
  refine ⟨hI2, ⟨fun q q0 q1 => ⟨?_, ?_⟩, fun q j q0 q1 j0 j1 => ?_⟩, ⟨fun q q0 q1 => ⟨?_, ?_⟩, fun q j q0 q1 j0 j1 => ?_⟩, ⟨hA.1, fun c hc => ?_⟩, h89, ?_, fun q q0 q1 => ?_, fun q j q0 q1 j0 j1 => ?_, h15⟩
  · show -1 ≤ ur X.2 8 k n 7 q ∧ ur X.2 8 k n 7 q ≤ 2
    rw [na 7 (by decide)]; exact (hS.1 q q0 q1).1
  · have h5 := (hS.1 q q0 q1).2
    show 0 ≤ ur X.2 8 k n 8 q ∧ ur X.2 8 k n 8 q ≤ 60
    rw [ur_c]; split <;> omega
  · show -2147483648 ≤ ur X.2 8 k n (20 + q.toNat) j ∧ ur X.2 8 k n (20 + q.toNat) j < 2147483648
    rw [na (20 + q.toNat) (by omega)]
    exact (key q j q0 q1 j0 j1).2
  · show ur M.2 8 k n 9 q = -9 ∨ (0 ≤ ur M.2 8 k n 9 q ∧ ur M.2 8 k n 9 q ≤ 2)
    rw [nb 9 (by decide)]; exact (hM.1 q q0 q1).1
  · have h5 := (hM.1 q q0 q1).2
    show 0 ≤ ur M.2 8 k n 8 q ∧ ur M.2 8 k n 8 q ≤ 60
    rw [ur_c]; split <;> omega
  · have j2 : j < ur M.2 8 k n 8 q := j1
    have j3 : j < ur X.2 8 k n 8 q := by
      rw [ur_c] at j2 ⊢
      rw [z8] at j2; exact j2
    show -2147483648 ≤ ur M.2 8 k n 13 (60 * q + j) ∧ ur M.2 8 k n 13 (60 * q + j) < 2147483648
    rw [nb 13 (by decide), (key q j q0 q1 j0 j3).1]
    exact (key q j q0 q1 j0 j3).2
  · show ur M.2 8 k n c = ur X.2 8 k n c
    rw [na c (by omega), nb c (by omega)]; exact hA.2 c hc
  · show ur M.2 8 k n 8 = ur X.2 8 k n 8
    funext q
    rw [ur_c, ur_c, z8]
  · show ur M.2 8 k n 9 q = LNm (ur X.2 8 k n 7 q)
    rw [nb 9 (by decide), na 7 (by decide)]; exact h9 q q0 q1
  · show ur M.2 8 k n 13 (60 * q + j) = ur X.2 8 k n (20 + q.toNat) j
    rw [nb 13 (by decide), na (20 + q.toNat) (by omega)]
    exact (key q j q0 q1 j0 j1).1
theorem S_lose {X M : Sg} (hR : RLx X M) {k : Int} {z z2 : Int} {S S2 : Sg} (h1 : (((k < 0 ∨ 3 < k) ∧ z = -1 ∧ S = X) ∨ (¬ (k < 0 ∨ 3 < k) ∧ X.2 7 k = -1 ∧ z = 0 ∧ S = X) ∨ (¬ (k < 0 ∨ 3 < k) ∧ X.2 7 k ≠ -1 ∧ z = 1 ∧ S = (X.1, ur X.2 7 k (-1))))) (h2 : (((k < 0 ∨ 3 < k) ∧ z2 = -1 ∧ S2 = M) ∨ (¬ (k < 0 ∨ 3 < k) ∧ ((M.2 9 k = -9 ∧ z2 = 0) ∨ (M.2 9 k ≠ -9 ∧ z2 = 1)) ∧ S2 = (M.1, ur M.2 9 k (-9))))) : z = z2 ∧ RLx S S2 := by
  rcases h1 with ⟨c1, e1, s1⟩ | ⟨c1, c2, e1, s1⟩ | ⟨c1, c2, e1, s1⟩ <;> rcases h2 with ⟨d1, e2, s2⟩ | ⟨d1, ⟨d2, e2⟩ | ⟨d2, e2⟩, s2⟩
  all_goals try (exfalso; omega)
  · exact ⟨by omega, by rw [s1, s2]; exact hR⟩
  · have hk := RL_k hR (k := k) (by omega) (by omega)
    refine ⟨by omega, ?_⟩
    rw [s1, s2, ur_id d2]; exact hR
  · have hk := RL_k hR (k := k) (by omega) (by omega)
    exact absurd (hk.1.trans ((LN_9 hk.2.2.1.1).mpr c2)) d2
  · have hk := RL_k hR (k := k) (by omega) (by omega)
    exact absurd ((LN_9 hk.2.2.1.1).mp (hk.1.symm.trans d2)) c2
  · refine ⟨by omega, ?_⟩
    rw [s1, s2]
    exact RL_lane hR (by omega) (by omega) (l := -1) (by omega)
theorem S_put {X M : Sg} (hR : RLx X M) {k i v : Int} (i_v : -2147483648 ≤ v ∧ v < 2147483648) {z z2 : Int} {S S2 : Sg} (h1 : (((k < 0 ∨ 3 < k) ∧ z = -1 ∧ S = (uv X.1 9 0, X.2)) ∨ (¬ (k < 0 ∨ 3 < k) ∧ X.2 7 k = -1 ∧ z = -11 ∧ S = (uv (uv X.1 9 0) 9 1, X.2)) ∨ (¬ (k < 0 ∨ 3 < k) ∧ X.2 7 k ≠ -1 ∧ ¬ (0 ≤ i ∧ i ≤ X.2 8 k ∧ 0 ≤ (1 : Int) ∧ 1 ≤ X.2 8 k - i) ∧ z = -13 ∧ S = (uv (uv X.1 9 0) 9 3, X.2)) ∨ (¬ (k < 0 ∨ 3 < k) ∧ X.2 7 k ≠ -1 ∧ (0 ≤ i ∧ i ≤ X.2 8 k ∧ 0 ≤ (1 : Int) ∧ 1 ≤ X.2 8 k - i) ∧ z = 1 ∧ S = (uv X.1 9 0, ur X.2 (20 + Int.toNat k) i (CUT (X.2 7 k) v))))) (h2 : (((k < 0 ∨ 3 < k) ∧ z2 = -1 ∧ S2 = (uv M.1 9 0, M.2)) ∨ (¬ (k < 0 ∨ 3 < k) ∧ M.2 9 k = -9 ∧ z2 = -11 ∧ S2 = (uv (uv M.1 9 0) 9 1, M.2)) ∨ (¬ (k < 0 ∨ 3 < k) ∧ M.2 9 k ≠ -9 ∧ ¬ (0 ≤ i ∧ i ≤ M.2 8 k - 1) ∧ z2 = -13 ∧ S2 = (uv (uv M.1 9 0) 9 3, M.2)) ∨ (¬ (k < 0 ∨ 3 < k) ∧ M.2 9 k ≠ -9 ∧ (0 ≤ i ∧ i ≤ M.2 8 k - 1) ∧ z2 = 1 ∧ S2 = (uv M.1 9 0, ur M.2 13 (60 * k + i) (CUT (M.2 9 k) v))))) : z = z2 ∧ RLx S S2 := by
  rcases h1 with ⟨c1, e1, s1⟩ | ⟨c1, c2, e1, s1⟩ | ⟨c1, c2, c3, e1, s1⟩ | ⟨c1, c2, c3, e1, s1⟩ <;> rcases h2 with ⟨d1, e2, s2⟩ | ⟨d1, d2, e2, s2⟩ | ⟨d1, d2, d3, e2, s2⟩ | ⟨d1, d2, d3, e2, s2⟩
  all_goals try (exfalso; omega)
  · exact ⟨by omega, by rw [s1, s2]; exact RL_f hR 0⟩
  all_goals have hk := RL_k hR (k := k) (by omega) (by omega)
  all_goals have hl := LN_9 hk.2.2.1.1
  all_goals rw [hk.1] at d2
  all_goals try (exfalso; omega)
  all_goals try rw [hk.2.1] at d3
  all_goals try (exfalso; omega)
  · exact ⟨by omega, by rw [s1, s2]; exact RL_ff hR 0 1⟩
  · exact ⟨by omega, by rw [s1, s2]; exact RL_ff hR 0 3⟩
  · refine ⟨by omega, ?_⟩
    rw [s1, s2, hk.1, LN_i c2]
    refine RL_cells (RL_f hR 0) (o := k) (by omega) (by omega) rfl rfl (fun a ha => ur_n _ _ _ ha) (fun a ha => ur_n _ _ _ ha) (fun t ht => ur_o (i := 60 * k + i) (j := t) M.2 13 _ (by omega)) ?_ ?_
    · intro j j0 j1
      have h5 := hR.2.1.2 k j (by omega) (by omega) j0 j1
      have h6 := CUT_rng (l := X.2 7 k) i_v
      show -2147483648 ≤ ur X.2 (20 + k.toNat) i (CUT (X.2 7 k) v) (20 + k.toNat) j ∧ ur X.2 (20 + k.toNat) i (CUT (X.2 7 k) v) (20 + k.toNat) j < 2147483648
      rw [ur_c]; split
      · exact h6
      · exact h5
    · intro j j0 j1
      have h5 := hR.2.2.2.2.2.2.2.1 k j (by omega) (by omega) j0 j1
      show ur M.2 13 (60 * k + i) (CUT (X.2 7 k) v) 13 (60 * k + j) = ur X.2 (20 + k.toNat) i (CUT (X.2 7 k) v) (20 + k.toNat) j
      rw [ur_c, ur_c]
      by_cases e : j = i
      · rw [if_pos e, if_pos (by omega)]
      · rw [if_neg e, if_neg (by omega)]; exact h5
theorem S_sheet {X M : Sg} (hR : RLx X M) {k l n : Int} {z z2 : Int} {S S2 : Sg} (h1 : (((k < 0 ∨ 3 < k) ∧ z = -1 ∧ S = (uv X.1 9 0, X.2)) ∨ (¬ (k < 0 ∨ 3 < k) ∧ ((l < 0 ∨ 2 < l) ∨ 60 < n) ∧ z = -2 ∧ S = (uv X.1 9 0, X.2)) ∨ (¬ (k < 0 ∨ 3 < k) ∧ ¬ ((l < 0 ∨ 2 < l) ∨ 60 < n) ∧ n < 0 ∧ z = -14 ∧ S = (uv (uv X.1 9 0) 9 4, X.2)) ∨ (¬ (k < 0 ∨ 3 < k) ∧ ¬ ((l < 0 ∨ 2 < l) ∨ 60 < n) ∧ ¬ n < 0 ∧ z = 1 ∧ (S.1 = uv X.1 9 0 ∧ (∀ a, a ≠ 20 + Int.toNat k → S.2 a = (ur (ur X.2 7 k l) 8 k n) a) ∧ (∀ i : Int, 0 ≤ i → i < n → S.2 (20 + Int.toNat k) i = 0))))) (h2 : (((k < 0 ∨ 3 < k) ∧ z2 = -1 ∧ S2 = (uv M.1 9 0, M.2)) ∨ (¬ (k < 0 ∨ 3 < k) ∧ ((l < 0 ∨ 2 < l) ∨ 60 < n) ∧ z2 = -2 ∧ S2 = (uv M.1 9 0, M.2)) ∨ (¬ (k < 0 ∨ 3 < k) ∧ ¬ ((l < 0 ∨ 2 < l) ∨ 60 < n) ∧ n < 0 ∧ z2 = -14 ∧ S2 = (uv (uv M.1 9 0) 9 4, M.2)) ∨ (¬ (k < 0 ∨ 3 < k) ∧ ¬ ((l < 0 ∨ 2 < l) ∨ 60 < n) ∧ ¬ n < 0 ∧ z2 = 1 ∧ (S2.1 = uv M.1 9 0 ∧ (∀ a, a ≠ 13 → S2.2 a = (ur (ur M.2 9 k l) 8 k n) a) ∧ (∀ j : Int, ¬ (60 * k ≤ j ∧ j < 60 * k + 60) → S2.2 13 j = M.2 13 j) ∧ (∀ j : Int, 0 ≤ j → j < 60 → S2.2 13 (60 * k + j) = 0))))) : z = z2 ∧ RLx S S2 := by
  rcases h1 with ⟨c1, e1, s1⟩ | ⟨c1, c2, e1, s1⟩ | ⟨c1, c2, c3, e1, s1⟩ | ⟨c1, c2, c3, e1, s1, s3, s4⟩ <;> rcases h2 with ⟨d1, e2, s2⟩ | ⟨d1, d2, e2, s2⟩ | ⟨d1, d2, d3, e2, s2⟩ | ⟨d1, d2, d3, e2, s2, t3, t4, t5⟩
  all_goals try (exfalso; omega)
  · exact ⟨by omega, by rw [s1, s2]; exact RL_f hR 0⟩
  · exact ⟨by omega, by rw [s1, s2]; exact RL_f hR 0⟩
  · exact ⟨by omega, by rw [s1, s2]; exact RL_ff hR 0 4⟩
  · refine ⟨by omega, ?_⟩
    have k0 : 0 ≤ k := by omega
    have k1 : k < 4 := by omega
    have r1 : RLx (uv X.1 9 0, ur X.2 7 k l) (uv M.1 9 0, ur M.2 9 k l) := by
      have h5 := RL_lane (RL_f hR 0) (k := k) (l := l) k0 k1 (by omega)
      rw [LN_i (show l ≠ -1 by omega)] at h5
      exact h5
    have r2 := RL_cells (S := (uv X.1 9 0, us (ur X.2 7 k l) (20 + k.toNat) (fun _ => 0))) (S2 := (uv M.1 9 0, us (ur M.2 9 k l) 13 (fun t => if 60 * k ≤ t ∧ t < 60 * k + 60 then 0 else M.2 13 t))) r1 k0 k1 rfl rfl (fun a ha => if_neg ha) (fun a ha => if_neg ha) (fun t ht => by
        show (us (ur M.2 9 k l) 13 (fun t => if 60 * k ≤ t ∧ t < 60 * k + 60 then 0 else M.2 13 t)) 13 t = ur M.2 9 k l 13 t
        unfold us
        rw [if_pos rfl, if_neg ht, ur_n _ _ _ (by decide)]) (fun j j0 j1 => by
        show -2147483648 ≤ us (ur X.2 7 k l) (20 + k.toNat) (fun _ => 0) (20 + k.toNat) j ∧ us (ur X.2 7 k l) (20 + k.toNat) (fun _ => 0) (20 + k.toNat) j < 2147483648
        unfold us
        rw [if_pos rfl]; omega) (fun j j0 j1 => by
        have b8 := (RL_k hR k0 k1).2.2.2
        have j2 : j < ur X.2 7 k l 8 k := j1
        rw [ur_n _ _ _ (by decide)] at j2
        show us (ur M.2 9 k l) 13 (fun t => if 60 * k ≤ t ∧ t < 60 * k + 60 then 0 else M.2 13 t) 13 (60 * k + j) = us (ur X.2 7 k l) (20 + k.toNat) (fun _ => 0) (20 + k.toNat) j
        unfold us
        rw [if_pos rfl, if_pos rfl, if_pos (by omega)])
    have r3 := RL_size r2 (k := k) (n := n) k0 k1 (by omega) (fun j j0 j1 => by
        show us (ur X.2 7 k l) (20 + k.toNat) (fun _ => 0) (20 + k.toNat) j = 0
        unfold us
        rw [if_pos rfl]) (fun j j0 j1 => by
        show us (ur M.2 9 k l) 13 (fun t => if 60 * k ≤ t ∧ t < 60 * k + 60 then 0 else M.2 13 t) 13 (60 * k + j) = 0
        unfold us
        rw [if_pos rfl, if_pos (by omega)])
    refine RL_cells r3 k0 k1 s1 s2 (fun a ha => ?_) (fun a ha => ?_) (fun t ht => ?_) (fun j j0 j1 => ?_) (fun j j0 j1 => ?_)
    · rw [s3 a ha]
      funext q
      show ur (ur X.2 7 k l) 8 k n a q = ur (us (ur X.2 7 k l) (20 + k.toNat) (fun _ => 0)) 8 k n a q
      unfold ur us
      rw [if_neg ha]
    · rw [t3 a ha]
      funext q
      show ur (ur M.2 9 k l) 8 k n a q = ur (us (ur M.2 9 k l) 13 (fun t => if 60 * k ≤ t ∧ t < 60 * k + 60 then 0 else M.2 13 t)) 8 k n a q
      unfold ur us
      rw [if_neg ha]
    · rw [t4 t ht]
      show M.2 13 t = ur (us (ur M.2 9 k l) 13 (fun t => if 60 * k ≤ t ∧ t < 60 * k + 60 then 0 else M.2 13 t)) 8 k n 13 t
      rw [ur_n _ _ _ (by decide)]
      unfold us
      rw [if_pos rfl, if_neg ht]
    · have j2 : j < ur (us (ur X.2 7 k l) (20 + k.toNat) (fun _ => 0)) 8 k n 8 k := j1
      rw [ur_s] at j2
      rw [s4 j j0 j2]; omega
    · have j2 : j < ur (us (ur X.2 7 k l) (20 + k.toNat) (fun _ => 0)) 8 k n 8 k := j1
      rw [ur_s] at j2
      rw [s4 j j0 j2, t5 j j0 (by omega)]
theorem CE_iff {A B C : Prop} [Decidable A] [Decidable B] [Decidable C] : ((if A then (1 : Nat) else if B then (if C then 0 else 3) else 2) = 0) ↔ ((if A then (1 : Int) else if B then (if C then 0 else 3) else 2) = 0) := by
  by_cases a : A
  · rw [if_pos a, if_pos a]; omega
  · rw [if_neg a, if_neg a]
    by_cases b : B
    · rw [if_pos b, if_pos b]
      by_cases c : C
      · rw [if_pos c, if_pos c]; omega
      · rw [if_neg c, if_neg c]; omega
    · rw [if_neg b, if_neg b]; omega
theorem FAm_eq {X M : Sg} (hR : RLx X M) {k i l : Int} (k0 : 0 ≤ k) (k1 : k < 4) (hl : 0 ≤ l ∧ l ≤ 2) : FAm M k i l = (if X.2 7 k = -1 then 1 else if X.2 7 k = l then (if (0 ≤ i ∧ i ≤ X.2 8 k ∧ 0 ≤ (1 : Int) ∧ 1 ≤ X.2 8 k - i) then 0 else 3) else 2) := by
  have hk := RL_k hR k0 k1
  unfold FAm
  rw [hk.1, hk.2.1]
  by_cases e : X.2 7 k = -1
  · rw [if_pos e, (LN_9 hk.2.2.1.1).mpr e, if_neg (by omega), if_pos rfl]
  · rw [if_neg e, LN_i e]
    by_cases e2 : X.2 7 k = l
    · rw [if_pos e2, if_neg (by omega), if_neg (by omega)]
      by_cases e3 : 0 ≤ i ∧ i ≤ X.2 8 k - 1
      · rw [if_pos e3, if_pos (by omega)]
      · rw [if_neg e3, if_neg (by omega)]
    · rw [if_neg e2, if_pos (by omega)]
theorem AGf_eq {X M : Sg} (hR : RLx X M) {k l i n : Int} (k0 : 0 ≤ k) (k1 : k < 4) (hl : 0 ≤ l ∧ l ≤ 2) : AGf M k l i n = FYf X k l i n := by
  have hk := RL_k hR k0 k1
  unfold AGf FYf
  rw [hk.1, hk.2.1]
  by_cases e : X.2 7 k = -1
  · rw [if_pos e, (LN_9 hk.2.2.1.1).mpr e, if_neg (by omega), if_pos rfl]
  · rw [if_neg e, LN_i e]
    by_cases e2 : X.2 7 k = l
    · rw [if_pos e2, if_neg (by omega), if_neg (by omega)]
      by_cases e4 : n < 0
      · rw [if_pos e4, if_pos e4]
      · rw [if_neg e4, if_neg e4]
        by_cases e3 : i < 0 ∨ X.2 8 k < i ∨ X.2 8 k - i < n
        · rw [if_pos e3, if_neg (by omega)]
        · rw [if_neg e3, if_pos (by omega)]
    · rw [if_neg e2, if_pos (by omega)]
theorem S_cell {X M : Sg} (hR : RLx X M) {k i l : Int} {z z2 : Int64} {S S2 : Sg} (h1 : ((((k < 0 ∨ 3 < k) ∨ (l < 0 ∨ 2 < l)) ∧ z = -9223372036854775808 ∧ S = (uv X.1 9 0, X.2)) ∨ (¬ ((k < 0 ∨ 3 < k) ∨ (l < 0 ∨ 2 < l)) ∧ S = (uv (uv X.1 9 0) 9 (if X.2 7 k = -1 then 1 else if X.2 7 k = l then (if (0 ≤ i ∧ i ≤ X.2 8 k ∧ 0 ≤ (1 : Int) ∧ 1 ≤ X.2 8 k - i) then 0 else 3) else 2), X.2) ∧ (((if X.2 7 k = -1 then 1 else if X.2 7 k = l then (if (0 ≤ i ∧ i ≤ X.2 8 k ∧ 0 ≤ (1 : Int) ∧ 1 ≤ X.2 8 k - i) then 0 else 3) else 2) = 0 ∧ z = jI (X.2 (20 + Int.toNat k) i)) ∨ ((if X.2 7 k = -1 then 1 else if X.2 7 k = l then (if (0 ≤ i ∧ i ≤ X.2 8 k ∧ 0 ≤ (1 : Int) ∧ 1 ≤ X.2 8 k - i) then 0 else 3) else 2) ≠ 0 ∧ z = -9223372036854775808))))) (h2 : ((((k < 0 ∨ 3 < k) ∨ (l < 0 ∨ 2 < l)) ∧ z2 = -9223372036854775808 ∧ S2 = (uv M.1 9 0, M.2)) ∨ (¬ ((k < 0 ∨ 3 < k) ∨ (l < 0 ∨ 2 < l)) ∧ FAm M k i l = 0 ∧ S2 = (uv M.1 9 0, M.2) ∧ z2 = jI (M.2 13 (60 * k + i))) ∨ (¬ ((k < 0 ∨ 3 < k) ∨ (l < 0 ∨ 2 < l)) ∧ FAm M k i l ≠ 0 ∧ S2 = (uv (uv M.1 9 0) 9 (FAm M k i l), M.2) ∧ z2 = -9223372036854775808))) : z = z2 ∧ RLx S S2 := by
  rcases h1 with ⟨c1, e1, s1⟩ | ⟨c1, s1, e1⟩ <;> rcases h2 with ⟨d1, e2, s2⟩ | ⟨d1, d2, s2, e2⟩ | ⟨d1, d2, s2, e2⟩
  all_goals try (exfalso; omega)
  · exact ⟨e1.trans e2.symm, by rw [s1, s2]; exact RL_f hR 0⟩
  all_goals have hk := RL_k hR (k := k) (by omega) (by omega)
  all_goals have q := FAm_eq hR (k := k) (i := i) (l := l) (by omega) (by omega) (by omega)
  all_goals rw [q] at d2
  · rcases e1 with ⟨_, e1⟩ | ⟨e0, _⟩
    · refine ⟨?_, ?_⟩
      · rw [e1, e2]
        have e3 : X.2 7 k ≠ -1 ∧ X.2 7 k = l ∧ (0 ≤ i ∧ i ≤ X.2 8 k ∧ 0 ≤ (1 : Int) ∧ 1 ≤ X.2 8 k - i) := by
          split at d2
          · omega
          · split at d2
            · split at d2
              · rename_i a1 a2 a3
                exact ⟨a1, a2, a3⟩
              · omega
            · omega
        rw [hR.2.2.2.2.2.2.2.1 k i (by omega) (by omega) (by omega) (by omega)]
      · rw [s1, s2, d2]
        have h5 := RL_ff hR 0 0
        have h6 : uv (uv M.1 9 0) 9 0 = uv M.1 9 0 := by
          funext u
          unfold uv
          split <;> rfl
        rw [h6] at h5
        exact h5
    · exact absurd (CE_iff.mpr d2) e0
  · rcases e1 with ⟨e0, _⟩ | ⟨_, e1⟩
    · exact absurd (CE_iff.mp e0) d2
    · refine ⟨e1.trans e2.symm, ?_⟩
      rw [s1, s2, q]
      exact RL_ff hR 0 _
theorem S_copy {X M : Sg} (hR : RLx X M) {k i o j n : Int} {z z2 : Int} {S S2 : Sg} (h1 : ((((k < 0 ∨ 3 < k) ∨ (o < 0 ∨ 3 < o)) ∧ z = -1 ∧ S = (uv X.1 9 0, X.2)) ∨ (¬ ((k < 0 ∨ 3 < k) ∨ (o < 0 ∨ 3 < o)) ∧ (X.2 7 k = -1 ∨ X.2 7 o = -1) ∧ z = -11 ∧ S = (uv (uv X.1 9 0) 9 1, X.2)) ∨ (¬ ((k < 0 ∨ 3 < k) ∨ (o < 0 ∨ 3 < o)) ∧ ¬ (X.2 7 k = -1 ∨ X.2 7 o = -1) ∧ X.2 7 k ≠ X.2 7 o ∧ z = -12 ∧ S = (uv (uv X.1 9 0) 9 2, X.2)) ∨ (¬ ((k < 0 ∨ 3 < k) ∨ (o < 0 ∨ 3 < o)) ∧ ¬ (X.2 7 k = -1 ∨ X.2 7 o = -1) ∧ X.2 7 k = X.2 7 o ∧ ¬ ((0 ≤ i ∧ i ≤ X.2 8 k ∧ 0 ≤ n ∧ n ≤ X.2 8 k - i) ∧ (0 ≤ j ∧ j ≤ X.2 8 o ∧ 0 ≤ n ∧ n ≤ X.2 8 o - j)) ∧ z = -13 ∧ S = (uv (uv X.1 9 0) 9 3, X.2)) ∨ (¬ ((k < 0 ∨ 3 < k) ∨ (o < 0 ∨ 3 < o)) ∧ ¬ (X.2 7 k = -1 ∨ X.2 7 o = -1) ∧ X.2 7 k = X.2 7 o ∧ ((0 ≤ i ∧ i ≤ X.2 8 k ∧ 0 ≤ n ∧ n ≤ X.2 8 k - i) ∧ (0 ≤ j ∧ j ≤ X.2 8 o ∧ 0 ≤ n ∧ n ≤ X.2 8 o - j)) ∧ z = n ∧ S = (uv X.1 9 0, us X.2 (20 + Int.toNat o) (cpI (X.2 (20 + Int.toNat k)) (X.2 (20 + Int.toNat o)) i j n))))) (h2 : ((((k < 0 ∨ 3 < k) ∨ (o < 0 ∨ 3 < o)) ∧ z2 = -1 ∧ S2 = (uv M.1 9 0, M.2)) ∨ (¬ ((k < 0 ∨ 3 < k) ∨ (o < 0 ∨ 3 < o)) ∧ (M.2 9 k = -9 ∨ M.2 9 o = -9) ∧ z2 = -11 ∧ S2 = (uv (uv M.1 9 0) 9 1, M.2)) ∨ (¬ ((k < 0 ∨ 3 < k) ∨ (o < 0 ∨ 3 < o)) ∧ ¬ (M.2 9 k = -9 ∨ M.2 9 o = -9) ∧ M.2 9 k ≠ M.2 9 o ∧ z2 = -12 ∧ S2 = (uv (uv M.1 9 0) 9 2, M.2)) ∨ (¬ ((k < 0 ∨ 3 < k) ∨ (o < 0 ∨ 3 < o)) ∧ ¬ (M.2 9 k = -9 ∨ M.2 9 o = -9) ∧ M.2 9 k = M.2 9 o ∧ ¬ ((0 ≤ i ∧ i ≤ M.2 8 k ∧ 0 ≤ n ∧ n ≤ M.2 8 k - i) ∧ (0 ≤ j ∧ j ≤ M.2 8 o ∧ 0 ≤ n ∧ n ≤ M.2 8 o - j)) ∧ z2 = -13 ∧ S2 = (uv (uv M.1 9 0) 9 3, M.2)) ∨ (¬ ((k < 0 ∨ 3 < k) ∨ (o < 0 ∨ 3 < o)) ∧ ¬ (M.2 9 k = -9 ∨ M.2 9 o = -9) ∧ M.2 9 k = M.2 9 o ∧ ((0 ≤ i ∧ i ≤ M.2 8 k ∧ 0 ≤ n ∧ n ≤ M.2 8 k - i) ∧ (0 ≤ j ∧ j ≤ M.2 8 o ∧ 0 ≤ n ∧ n ≤ M.2 8 o - j)) ∧ z2 = n ∧ S2.1 = uv M.1 9 0 ∧ (∀ a, a ≠ 13 → S2.2 a = M.2 a) ∧ (∀ t : Int, 60 * o + j ≤ t → t < 60 * o + j + n → S2.2 13 t = M.2 13 (60 * k + i + (t - (60 * o + j)))) ∧ (∀ t : Int, ¬ (60 * o + j ≤ t ∧ t < 60 * o + j + n) → S2.2 13 t = M.2 13 t)))) : z = z2 ∧ RLx S S2 := by
  rcases h1 with ⟨c1, e1, s1⟩ | ⟨c1, c2, e1, s1⟩ | ⟨c1, c2, c3, e1, s1⟩ | ⟨c1, c2, c3, c4, e1, s1⟩ | ⟨c1, c2, c3, c4, e1, s1⟩ <;> rcases h2 with ⟨d1, e2, s2⟩ | ⟨d1, d2, e2, s2⟩ | ⟨d1, d2, d3, e2, s2⟩ | ⟨d1, d2, d3, d4, e2, s2⟩ | ⟨d1, d2, d3, d4, e2, s2, s3, s4, s5⟩
  all_goals try (exfalso; omega)
  · exact ⟨by omega, by rw [s1, s2]; exact RL_f hR 0⟩
  all_goals have hk := RL_k hR (k := k) (by omega) (by omega)
  all_goals have ho := RL_k hR (k := o) (by omega) (by omega)
  all_goals have lk : LNm (X.2 7 k) = if X.2 7 k = -1 then -9 else X.2 7 k := rfl
  all_goals have lo2 : LNm (X.2 7 o) = if X.2 7 o = -1 then -9 else X.2 7 o := rfl
  all_goals rw [hk.1, ho.1] at d2
  all_goals have hl := LN_9 hk.2.2.1.1
  all_goals have hl2 := LN_9 ho.2.2.1.1
  all_goals try (exfalso; omega)
  · exact ⟨by omega, by rw [s1, s2]; exact RL_ff hR 0 1⟩
  all_goals rw [hk.1, ho.1, LN_i (show X.2 7 k ≠ -1 by omega), LN_i (show X.2 7 o ≠ -1 by omega)] at d3
  all_goals try (exfalso; omega)
  · exact ⟨by omega, by rw [s1, s2]; exact RL_ff hR 0 2⟩
  all_goals rw [hk.2.1, ho.2.1] at d4
  all_goals try exact absurd c4 d4
  all_goals try exact absurd d4 c4
  · exact ⟨by omega, by rw [s1, s2]; exact RL_ff hR 0 3⟩
  · refine ⟨by omega, ?_⟩
    have u1 : us X.2 (20 + o.toNat) (cpI (X.2 (20 + k.toNat)) (X.2 (20 + o.toNat)) i j n) (20 + o.toNat) = cpI (X.2 (20 + k.toNat)) (X.2 (20 + o.toNat)) i j n := if_pos rfl
    rw [s1]
    refine RL_cells (RL_f hR 0) (o := o) (by omega) (by omega) rfl s2 (fun a ha => if_neg ha) s3 (fun t ht => s5 t (by omega)) (fun q q0 q1 => ?_) (fun q q0 q1 => ?_)
    · show -2147483648 ≤ us X.2 (20 + o.toNat) (cpI (X.2 (20 + k.toNat)) (X.2 (20 + o.toNat)) i j n) (20 + o.toNat) q ∧ us X.2 (20 + o.toNat) (cpI (X.2 (20 + k.toNat)) (X.2 (20 + o.toNat)) i j n) (20 + o.toNat) q < 2147483648
      rw [u1]
      unfold cpI
      by_cases e : j ≤ q ∧ q < j + n
      · rw [if_pos e]
        exact hR.2.1.2 k (i + (q - j)) (by omega) (by omega) (by omega) (by omega)
      · rw [if_neg e]
        exact hR.2.1.2 o q (by omega) (by omega) q0 q1
    · show S2.2 13 (60 * o + q) = us X.2 (20 + o.toNat) (cpI (X.2 (20 + k.toNat)) (X.2 (20 + o.toNat)) i j n) (20 + o.toNat) q
      rw [u1]
      unfold cpI
      by_cases e : j ≤ q ∧ q < j + n
      · rw [if_pos e, s4 (60 * o + q) (by omega) (by omega)]
        rw [← hR.2.2.2.2.2.2.2.1 k (i + (q - j)) (by omega) (by omega) (by omega) (by omega)]
        exact congrArg (M.2 13) (by omega)
      · rw [if_neg e, s5 (60 * o + q) (by omega)]
        exact hR.2.2.2.2.2.2.2.1 o q (by omega) (by omega) q0 q1
theorem FF_cong {c c' : Int → Int} {n z : Int} (h : FF c n z) (e : ∀ j : Int, 0 ≤ j → j < n → c j = c' j) : FF c' n z := by
  rcases h with ⟨p, p0, p1, p2, p3, p4, p5⟩ | ⟨a1, a2, a3, a4, a5⟩ | ⟨a1, a2, a3, a4⟩ | ⟨a1, a2, a3, a4, a5⟩
  · refine Or.inl ⟨p, p0, p1, fun j j0 j1 => by rw [← e j j0 (by omega)]; exact p2 j j0 j1, by rw [← e p p0 p1]; exact p3, fun h => p4 ?_, p5⟩
    rw [e 1 (by omega) (by omega), e 2 (by omega) (by omega)]; exact h
  · refine Or.inr (Or.inl ⟨a1, fun j j0 j1 => by rw [← e j j0 (by omega)]; exact a2 j j0 j1, ?_, ?_, a5⟩)
    · rw [← e 1 (by omega) (by omega)]; exact a3
    · rw [← e 2 (by omega) (by omega)]; exact a4
  · refine Or.inr (Or.inr (Or.inl ⟨fun j j0 j1 => by rw [← e j j0 j1]; exact a1 j j0 j1, fun h => a2 ?_, a3, a4⟩))
    rw [e 1 (by omega) (by omega), e 2 (by omega) (by omega)]; exact h
  · refine Or.inr (Or.inr (Or.inr ⟨fun j j0 j1 => by rw [← e j j0 j1]; exact a1 j j0 j1, fun h => a2 ?_, a3, a4, a5⟩))
    rw [e 1 (by omega) (by omega), e 2 (by omega) (by omega)]; exact h
theorem FF_ok {c : Int → Int} {n : Int} (h0 : 0 ≤ n) (h : FF c n (-1)) : (∀ j : Int, 0 ≤ j → j < n → GW j (c j)) ∧ 4 < n ∧ (n - 4) % 5 = 0 ∧ n ≤ 34 := by
  rcases h with ⟨p, p0, p1, p2, p3, p4, p5⟩ | ⟨a1, a2, a3, a4, a5⟩ | ⟨a1, a2, a3, a4⟩ | ⟨a1, a2, a3, a4, a5⟩
  · exfalso; omega
  · exact absurd a5 (by decide)
  · exfalso; omega
  · exact ⟨a1, a3, a4, FF_34 a1⟩
theorem KDc_rng (c : Int) : 0 ≤ KDc c ∧ KDc c ≤ 2 := by
  unfold KDc
  split
  · omega
  · split <;> omega
theorem fillr_cong {a b g h : Int → Int} {m : Int} (e : a = b) (q : ∀ j : Int, 0 ≤ j → j < m → g j = h j) : fillr a m g = fillr b m h := by
  funext j
  unfold fillr
  split
  · rename_i t; exact q j t.1 t.2
  · rw [e]
theorem S_yard {X M : Sg} (hR : RLx X M) {k l i n : Int} {z z2 : Int} {S S2 : Sg} (h1 : (((k < 0 ∨ 3 < k) ∧ z = -1 ∧ S = (uv X.1 9 0, X.2)) ∨ (¬ (k < 0 ∨ 3 < k) ∧ (l < 0 ∨ 2 < l) ∧ z = -2 ∧ S = (uv X.1 9 0, X.2)) ∨ (¬ (k < 0 ∨ 3 < k) ∧ ¬ (l < 0 ∨ 2 < l) ∧ (FYf X k l i n) ≠ 0 ∧ z = -10 - (FYf X k l i n) ∧ S = (uv (uv X.1 9 0) 9 (FYf X k l i n), X.2)) ∨ (¬ (k < 0 ∨ 3 < k) ∧ ¬ (l < 0 ∨ 2 < l) ∧ (FYf X k l i n) = 0 ∧ (∃ p : Int, 0 ≤ p ∧ FF (fun p => X.2 (20 + Int.toNat k) (i + p)) n p ∧ z = -100 - p) ∧ S = (uv X.1 9 0, X.2)) ∨ (¬ (k < 0 ∨ 3 < k) ∧ ¬ (l < 0 ∨ 2 < l) ∧ (FYf X k l i n) = 0 ∧ FF (fun p => X.2 (20 + Int.toNat k) (i + p)) n (-1) ∧ z = (n - 4) / 5 ∧ (S.1 = uv (uv (uv (uv (uv (uv (uv (uv (uv X.1 9 0) 1 (10 * (X.2 (20 + Int.toNat k) (i + 1) - 48) + (X.2 (20 + Int.toNat k) (i + 2) - 48))) 2 (X.2 (20 + Int.toNat k) (i + 3) - 48)) 0 ((n - 4) / 5)) 3 0) 4 0) 5 0) 6 0) 7 0 ∧ (∀ a, 4 < a → S.2 a = X.2 a) ∧ S.2 0 = fillr (X.2 0) ((n - 4) / 5) (fun f => KDc (X.2 (20 + Int.toNat k) (i + 4 + f * 5 + 1))) ∧ S.2 1 = fillr (X.2 1) ((n - 4) / 5) (fun f => X.2 (20 + Int.toNat k) (i + 4 + f * 5 + 2) - 48) ∧ S.2 2 = fillr (X.2 2) ((n - 4) / 5) (fun f => X.2 (20 + Int.toNat k) (i + 4 + f * 5 + 3) - 48) ∧ S.2 3 = fillr (X.2 3) ((n - 4) / 5) (fun f => X.2 (20 + Int.toNat k) (i + 4 + f * 5 + 4) - 48) ∧ S.2 4 = fillr (X.2 4) 10 (fun _ => 0))))) (h2 : (((k < 0 ∨ 3 < k) ∧ z2 = -1 ∧ S2 = (uv M.1 9 0, M.2)) ∨ (¬ (k < 0 ∨ 3 < k) ∧ (l < 0 ∨ 2 < l) ∧ z2 = -2 ∧ S2 = (uv M.1 9 0, M.2)) ∨ (¬ (k < 0 ∨ 3 < k) ∧ ¬ (l < 0 ∨ 2 < l) ∧ AGf M k l i n ≠ 0 ∧ z2 = -10 - AGf M k l i n ∧ S2 = (uv (uv M.1 9 0) 9 (AGf M k l i n), M.2)) ∨ (¬ (k < 0 ∨ 3 < k) ∧ ¬ (l < 0 ∨ 2 < l) ∧ AGf M k l i n = 0 ∧ (∃ p : Int, 0 ≤ p ∧ FF (fun p => M.2 13 (60 * k + i + p)) n p ∧ z2 = -100 - p) ∧ ((∀ u : Nat, u ≠ 10 → u ≠ 11 → u ≠ 12 → u ≠ 13 → S2.1 u = uv M.1 9 0 u) ∧ (∀ b : Nat, b ≠ 10 → b ≠ 11 → S2.2 b = M.2 b))) ∨ (¬ (k < 0 ∨ 3 < k) ∧ ¬ (l < 0 ∨ 2 < l) ∧ AGf M k l i n = 0 ∧ FF (fun p => M.2 13 (60 * k + i + p)) n (-1) ∧ z2 = (n - 4) / 5 ∧ (S2.1 0 = (n - 4) / 5 ∧ S2.1 1 = 10 * (M.2 13 (60 * k + i + 1) - 48) + (M.2 13 (60 * k + i + 2) - 48) ∧ S2.1 2 = M.2 13 (60 * k + i + 3) - 48 ∧ (∀ u : Nat, 2 < u → u < 8 → S2.1 u = 0) ∧ (∀ u : Nat, 7 < u → u ≠ 10 → u ≠ 11 → u ≠ 12 → u ≠ 13 → S2.1 u = uv M.1 9 0 u) ∧ (∀ b : Nat, 4 < b → b ≠ 10 → b ≠ 11 → S2.2 b = M.2 b) ∧ S2.2 0 = fillr (M.2 0) ((n - 4) / 5) (fun f => KDc (M.2 13 (60 * k + i + 4 + f * 5 + 1))) ∧ S2.2 1 = fillr (M.2 1) ((n - 4) / 5) (fun f => M.2 13 (60 * k + i + 4 + f * 5 + 2) - 48) ∧ S2.2 2 = fillr (M.2 2) ((n - 4) / 5) (fun f => M.2 13 (60 * k + i + 4 + f * 5 + 3) - 48) ∧ S2.2 3 = fillr (M.2 3) ((n - 4) / 5) (fun f => M.2 13 (60 * k + i + 4 + f * 5 + 4) - 48) ∧ S2.2 4 = fillr (M.2 4) 10 (fun _ => 0))))) : z = z2 ∧ RLx S S2 := by
  rcases h1 with ⟨c1, e1, s1⟩ | ⟨c1, c2, e1, s1⟩ | ⟨c1, c2, c3, e1, s1⟩ | ⟨c1, c2, c3, ⟨p, p0, hf, e1⟩, s1⟩ | ⟨c1, c2, c3, hf, e1, s1, s2, r0, r1, r2, r3, r4⟩ <;> rcases h2 with ⟨d1, e2, u1⟩ | ⟨d1, d2, e2, u1⟩ | ⟨d1, d2, d3, e2, u1⟩ | ⟨d1, d2, d3, ⟨p', p0', hg, e2⟩, u1, u2⟩ | ⟨d1, d2, d3, hg, e2, u0, u1, u2, u3, u4, u5, w0, w1, w2, w3, w4⟩
  all_goals try (exfalso; omega)
  · exact ⟨by omega, by rw [s1, u1]; exact RL_f hR 0⟩
  · exact ⟨by omega, by rw [s1, u1]; exact RL_f hR 0⟩
  all_goals have hq := AGf_eq hR (k := k) (l := l) (i := i) (n := n) (by omega) (by omega) (by omega)
  all_goals rw [hq] at d3
  all_goals try exact absurd c3 d3
  all_goals try exact absurd d3 c3
  · rw [hq] at e2 u1
    exact ⟨by omega, by rw [s1, u1]; exact RL_ff hR 0 _⟩
  all_goals have hin : (0 ≤ i ∧ i ≤ X.2 8 k ∧ 0 ≤ n ∧ n ≤ X.2 8 k - i) := by (unfold FYf at c3; revert c3; repeat' (first | (intro h; assumption) | (intro h; exfalso; omega) | split))
  all_goals have hc : ∀ p : Int, 0 ≤ p → p < n → M.2 13 (60 * k + i + p) = X.2 (20 + k.toNat) (i + p) := fun p q0 q1 => by (have h5 := hR.2.2.2.2.2.2.2.1 k (i + p) (by omega) (by omega) (by omega) (by omega); rw [show 60 * k + i + p = 60 * k + (i + p) by omega]; exact h5)
  all_goals have hg2 := FF_cong hg hc
  · have h5 := FF_uni hf hg2
    refine ⟨by omega, ?_⟩
    rw [s1]
    have hR2 := RL_f hR 0
    have e8 : S2.2 8 = M.2 8 := u2 8 (by decide) (by decide)
    have e9 : S2.2 9 = M.2 9 := u2 9 (by decide) (by decide)
    have e13 : S2.2 13 = M.2 13 := u2 13 (by decide) (by decide)
    obtain ⟨hI, hS, hM, hA, h89, h8, h9, h13, h15⟩ := hR2
    refine ⟨hI, hS, ?_, ⟨fun a ha => by rw [u1 a (by omega) (by omega) (by omega) (by omega)]; exact hA.1 a ha, fun a ha => by rw [u2 a (by omega) (by omega)]; exact hA.2 a ha⟩, ?_, by rw [e8]; exact h8, by rw [e9]; exact h9, by rw [e13]; exact h13, ?_⟩
    · unfold SHm; rw [e8, e9, e13]; exact hM
    · rw [u1 8 (by decide) (by decide) (by decide) (by decide), u1 9 (by decide) (by decide) (by decide) (by decide)]; exact h89
    · rw [u1 15 (by decide) (by decide) (by decide) (by decide), u1 16 (by decide) (by decide) (by decide) (by decide)]; exact h15
  · have h5 := FF_uni hf hg2
    exfalso; omega
  · have h5 := FF_uni hf hg2
    exfalso; omega
  · refine ⟨by omega, ?_⟩
    obtain ⟨hw, n4, n5, n34⟩ := FF_ok hin.2.2.1 hf
    obtain ⟨hI, hS, hM, hA, h89, h8, h9, h13, h15⟩ := hR
    have g1 : GW 1 (X.2 (20 + k.toNat) (i + 1)) := hw 1 (by omega) (by omega)
    have g2 : GW 2 (X.2 (20 + k.toNat) (i + 2)) := hw 2 (by omega) (by omega)
    have g3 : GW 3 (X.2 (20 + k.toNat) (i + 3)) := hw 3 (by omega) (by omega)
    have gt : ∀ f q : Int, 0 ≤ f → f < (n - 4) / 5 → 0 ≤ q → q < 5 → TG q (X.2 (20 + k.toNat) (i + 4 + f * 5 + q)) := by
      intro f q f0 f1 q0 q1
      have h5 := (GW_tap (t := q) (by omega) (by omega) (by omega)).mp (hw (4 + f * 5 + q) (by omega) (by omega))
      rw [show i + 4 + f * 5 + q = i + (4 + f * 5 + q) by omega]
      exact h5
    have hcf : ∀ f q : Int, 0 ≤ f → f < (n - 4) / 5 → 0 ≤ q → q < 5 → M.2 13 (60 * k + i + 4 + f * 5 + q) = X.2 (20 + k.toNat) (i + 4 + f * 5 + q) := by
      intro f q f0 f1 q0 q1
      rw [show 60 * k + i + 4 + f * 5 + q = 60 * k + i + (4 + f * 5 + q) by omega, hc (4 + f * 5 + q) (by omega) (by omega)]
      exact congrArg (X.2 (20 + k.toNat)) (by omega)
    unfold GW at g1 g2 g3
    have v0 : S.1 0 = (n - 4) / 5 := by rw [s1]; rfl
    have v1 : S.1 1 = 10 * (X.2 (20 + k.toNat) (i + 1) - 48) + (X.2 (20 + k.toNat) (i + 2) - 48) := by rw [s1]; rfl
    have v2 : S.1 2 = X.2 (20 + k.toNat) (i + 3) - 48 := by rw [s1]; rfl
    have v3 : S.1 3 = 0 := by rw [s1]; rfl
    have v4 : S.1 4 = 0 := by rw [s1]; rfl
    have v5 : S.1 5 = 0 := by rw [s1]; rfl
    have v6 : S.1 6 = 0 := by rw [s1]; rfl
    have v7 : S.1 7 = 0 := by rw [s1]; rfl
    have v8 : S.1 8 = X.1 8 := by rw [s1]; rfl
    have v9 : S.1 9 = 0 := by rw [s1]; rfl
    obtain ⟨i0, i1, i2, i3, i4, i5, i6, i7, ht, hr, hm, hn⟩ := hI
    refine ⟨⟨by omega, by omega, by omega, by omega, by omega, by omega, by omega, by omega, fun f f0 f1 => ?_, fun d d0 d1 => ?_, fun q q0 q1 => ?_, fun f f0 f1 => ?_⟩, ?_, ?_, ⟨fun a ha => ?_, fun a ha => ?_⟩, ⟨?_, ?_⟩, ?_, ?_, ?_, ?_⟩
    · have h5 := ht f f0 f1
      rw [r0, r1, r2, r3]
      unfold fillr
      by_cases e : 0 ≤ f ∧ f < (n - 4) / 5
      · rw [if_pos e, if_pos e, if_pos e, if_pos e]
        have t1 := gt f 2 f0 e.2 (by omega) (by omega)
        have t2 := gt f 3 f0 e.2 (by omega) (by omega)
        have t3 := gt f 4 f0 e.2 (by omega) (by omega)
        unfold TG at t1 t2 t3
        dsimp only
        exact ⟨KDc_rng _, by omega, by omega, by omega⟩
      · rw [if_neg e, if_neg e, if_neg e, if_neg e]
        exact h5
    · have h5 := hr d d0 d1
      rw [r4]
      unfold fillr
      split
      · dsimp only; omega
      · exact h5
    · rw [s2 5 (by omega), s2 6 (by omega)]; exact hm q q0 q1
    · rw [v0] at f1
      rw [r2, r3]
      unfold fillr
      rw [if_pos ⟨f0, f1⟩, if_pos ⟨f0, f1⟩]
      have t2 := gt f 3 f0 f1 (by omega) (by omega)
      have t3 := gt f 4 f0 f1 (by omega) (by omega)
      unfold TG at t2 t3
      dsimp only
      exact ⟨by omega, by omega⟩
    · refine ⟨fun q q0 q1 => ?_, fun q j q0 q1 j0 j1 => ?_⟩
      · rw [s2 7 (by omega), s2 8 (by omega)]; exact hS.1 q q0 q1
      · rw [s2 8 (by omega)] at j1
        rw [s2 (20 + q.toNat) (by omega)]; exact hS.2 q j q0 q1 j0 j1
    · unfold SHm
      rw [u5 8 (by omega) (by omega) (by omega), u5 9 (by omega) (by omega) (by omega), u5 13 (by omega) (by omega) (by omega)]; exact hM
    · rcases (show a = 0 ∨ a = 1 ∨ a = 2 ∨ a = 3 ∨ a = 4 ∨ a = 5 ∨ a = 6 ∨ a = 7 by omega) with e | e | e | e | e | e | e | e <;> rw [e]
      · rw [v0, u0]
      · rw [v1, u1, hc 1 (by omega) (by omega), hc 2 (by omega) (by omega)]
      · rw [v2, u2, hc 3 (by omega) (by omega)]
      · rw [v3, u3 3 (by omega) (by omega)]
      · rw [v4, u3 4 (by omega) (by omega)]
      · rw [v5, u3 5 (by omega) (by omega)]
      · rw [v6, u3 6 (by omega) (by omega)]
      · rw [v7, u3 7 (by omega) (by omega)]
    · rcases (show a = 0 ∨ a = 1 ∨ a = 2 ∨ a = 3 ∨ a = 4 ∨ a = 5 ∨ a = 6 by omega) with e | e | e | e | e | e | e <;> rw [e]
      · rw [r0, w0]
        exact fillr_cong (hA.2 0 (by decide)) (fun f f0 f1 => by rw [hcf f 1 f0 f1 (by omega) (by omega)])
      · rw [r1, w1]
        exact fillr_cong (hA.2 1 (by decide)) (fun f f0 f1 => by rw [hcf f 2 f0 f1 (by omega) (by omega)])
      · rw [r2, w2]
        exact fillr_cong (hA.2 2 (by decide)) (fun f f0 f1 => by rw [hcf f 3 f0 f1 (by omega) (by omega)])
      · rw [r3, w3]
        exact fillr_cong (hA.2 3 (by decide)) (fun f f0 f1 => by rw [hcf f 4 f0 f1 (by omega) (by omega)])
      · rw [r4, w4]
        exact fillr_cong (hA.2 4 (by decide)) (fun f f0 f1 => rfl)
      · rw [s2 5 (by omega), u5 5 (by omega) (by omega) (by omega)]; exact hA.2 5 (by decide)
      · rw [s2 6 (by omega), u5 6 (by omega) (by omega) (by omega)]; exact hA.2 6 (by decide)
    · rw [v8, u4 8 (by omega) (by omega) (by omega) (by omega) (by omega)]
      exact (uv_n _ _ (by omega)).trans h89.1
    · rw [v9, u4 9 (by omega) (by omega) (by omega) (by omega) (by omega)]
      exact uv_s _ _ _
    · rw [s2 8 (by omega), u5 8 (by omega) (by omega) (by omega)]; exact h8
    · rw [s2 7 (by omega), u5 9 (by omega) (by omega) (by omega)]; exact h9
    · intro q j q0 q1 j0 j1
      rw [s2 8 (by omega)] at j1
      rw [s2 (20 + q.toNat) (by omega), u5 13 (by omega) (by omega) (by omega)]; exact h13 q j q0 q1 j0 j1
    · rw [u4 15 (by omega) (by omega) (by omega) (by omega) (by omega), u4 16 (by omega) (by omega) (by omega) (by omega) (by omega)]
      exact ⟨(uv_n _ _ (by omega)).trans h15.1, (uv_n _ _ (by omega)).trans h15.2⟩
