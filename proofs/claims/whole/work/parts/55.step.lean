/-! the same answers: of the relations -/
theorem NB_uni {Y : Sg} {d z z' : Int} (h : NB Y d z) (h' : NB Y d z') : z = z' := by
  unfold NB at h h'
  rcases h with ⟨h1, e⟩ | ⟨h1, h2, e⟩ | ⟨h1, h2, e⟩ <;> rcases h' with ⟨g1, f⟩ | ⟨g1, g2, f⟩ | ⟨g1, g2, f⟩ <;> first | exact NBr_uni e f | omega
theorem DY_uni {Y : Sg} {d z z' : Int} (h : DY Y d z) (h' : DY Y d z') : z = z' := by
  unfold DY at h h'
  rcases h with ⟨h1, e⟩ | ⟨h1, e⟩ <;> rcases h' with ⟨g1, f⟩ | ⟨g1, f⟩ <;> first | exact FD_uni e f (fun _ _ _ => rfl) | omega
theorem CN_uni {Y : Sg} {n z z' : Int} (h : CN Y n z) (h' : CN Y n z') : z = z' := by
  unfold CN RF at h h'
  rcases h with ⟨h1, e⟩ | ⟨h1, h2, e⟩ | ⟨h1, h2, ⟨e, p⟩ | ⟨e, p⟩⟩ <;> rcases h' with ⟨g1, f⟩ | ⟨g1, g2, f⟩ | ⟨g1, g2, ⟨f, q⟩ | ⟨f, q⟩⟩ <;> first | omega | exact absurd p q | exact absurd q p
theorem SA_uni {Y : Sg} {n z z' : Int} (h : SA Y n z) (h' : SA Y n z') : z = z' := by
  unfold SA RF at h h'
  rcases h with ⟨h1, e⟩ | ⟨h1, h2, e⟩ | ⟨h1, h2, e⟩ <;> rcases h' with ⟨g1, f⟩ | ⟨g1, g2, f⟩ | ⟨g1, g2, f⟩ <;> first | exact STr_uni e f | omega
theorem BE_uni {Y : Sg} {n x z z' : Int} (h : BE Y n x z) (h' : BE Y n x z') : z = z' := by
  unfold BE at h h'
  rcases h with ⟨h1, e⟩ | ⟨h1, h2, e⟩ | ⟨h1, h2, b, c, e, ez⟩ <;> rcases h' with ⟨g1, f⟩ | ⟨g1, g2, f⟩ | ⟨g1, g2, b', c', f, fz⟩
  all_goals try omega
  obtain ⟨q1, q2⟩ := BLr_uni e f
  rw [ez, fz, q1, q2]
theorem HI_uni {Y : Sg} {f n z z' : Int} (h : HI Y f n z) (h' : HI Y f n z') : z = z' := by
  unfold HI at h h'
  rcases h with ⟨h1, e⟩ | ⟨h1, h2, e⟩ | ⟨h1, h2, e⟩ <;> rcases h' with ⟨g1, q⟩ | ⟨g1, g2, q⟩ | ⟨g1, g2, q⟩ <;> first | exact HGr_uni e q | omega
theorem RN_uni {Y : Sg} {d k z z' : Int} (h : RN Y d k z) (h' : RN Y d k z') : z = z' := by
  unfold RN at h h'
  rcases h with ⟨h1, e⟩ | ⟨h1, h2, e⟩ | ⟨h1, h2, e⟩ <;> rcases h' with ⟨g1, f⟩ | ⟨g1, g2, f⟩ | ⟨g1, g2, f⟩ <;> first | exact RNr_uni e f | omega
theorem TH_uni {Y : Sg} {d v z z' : Int} (h : TH Y d v z) (h' : TH Y d v z') : z = z' := by
  unfold TH at h h'
  rcases h with ⟨h1, e⟩ | ⟨h1, h2, e⟩ | ⟨h1, h2, h3, e⟩ | ⟨h1, h2, h3, e⟩ <;> rcases h' with ⟨g1, f⟩ | ⟨g1, g2, f⟩ | ⟨g1, g2, g3, f⟩ | ⟨g1, g2, g3, f⟩ <;> first | exact e.trans f.symm | (exfalso; omega)
theorem WO_uni {Y : Sg} {n x : Int} {z z' : Int64} (h : WO Y n x z) (h' : WO Y n x z') : z = z' := by
  unfold WO at h h'
  rcases h with ⟨h1, e⟩ | ⟨h1, e⟩ <;> rcases h' with ⟨g1, f⟩ | ⟨g1, f⟩ <;> first | exact e.trans f.symm | (exfalso; omega)
theorem RK_uni {Y : Sg} {f n a b x : Int} {z z' : Int64} (h : RK Y f n a b x z) (h' : RK Y f n a b x z') : z = z' := by
  unfold RK at h h'
  rcases h with ⟨h1, e⟩ | ⟨h1, e⟩ <;> rcases h' with ⟨g1, q⟩ | ⟨g1, q⟩ <;> first | exact e.trans q.symm | (exfalso; omega)
/-! the invariant, written into -/
theorem Inv_v3 {Y : Sg} (hI : Inv Y) {v : Int} (h : 0 ≤ v ∧ v ≤ Y.1 1) : Inv (uv Y.1 3 v, Y.2) := by
  obtain ⟨h0, h1, h2, h3, h4, h5, h6, h7, ht, hr, hm, hn⟩ := hI
  exact ⟨h0, h1, h2, h, h4, h5, h6, h7, ht, hr, hm, hn⟩
theorem Inv_v4 {Y : Sg} (hI : Inv Y) {v : Int} (h : 0 ≤ v ∧ v ≤ 2) : Inv (uv Y.1 4 v, Y.2) := by
  obtain ⟨h0, h1, h2, h3, h4, h5, h6, h7, ht, hr, hm, hn⟩ := hI
  exact ⟨h0, h1, h2, h3, h, h5, h6, h7, ht, hr, hm, hn⟩
theorem Inv_v5 {Y : Sg} (hI : Inv Y) {v : Int} (h : 0 ≤ v ∧ v ≤ 9) : Inv (uv Y.1 5 v, Y.2) := by
  obtain ⟨h0, h1, h2, h3, h4, h5, h6, h7, ht, hr, hm, hn⟩ := hI
  exact ⟨h0, h1, h2, h3, h4, h, h6, h7, ht, hr, hm, hn⟩
theorem Inv_v6 {Y : Sg} (hI : Inv Y) {v : Int} (h : 0 ≤ v ∧ v ≤ 9) : Inv (uv Y.1 6 v, Y.2) := by
  obtain ⟨h0, h1, h2, h3, h4, h5, h6, h7, ht, hr, hm, hn⟩ := hI
  exact ⟨h0, h1, h2, h3, h4, h5, h, h7, ht, hr, hm, hn⟩
theorem Inv_v7 {Y : Sg} (hI : Inv Y) {v : Int} (h : 0 ≤ v ∧ v ≤ 8) : Inv (uv Y.1 7 v, Y.2) := by
  obtain ⟨h0, h1, h2, h3, h4, h5, h6, h7, ht, hr, hm, hn⟩ := hI
  exact ⟨h0, h1, h2, h3, h4, h5, h6, h, ht, hr, hm, hn⟩
theorem Inv_r1 {Y : Sg} (hI : Inv Y) {i v : Int} (h : 0 ≤ v ∧ v ≤ 9) : Inv (Y.1, ur Y.2 1 i v) := by
  obtain ⟨h0, h1, h2, h3, h4, h5, h6, h7, ht, hr, hm, hn⟩ := hI
  refine ⟨h0, h1, h2, h3, h4, h5, h6, h7, fun f f0 f1 => ⟨(ht f f0 f1).1, ?_, (ht f f0 f1).2.2⟩, hr, hm, hn⟩
  have h5 := (ht f f0 f1).2.1
  show 0 ≤ ur Y.2 1 i v 1 f ∧ ur Y.2 1 i v 1 f ≤ 9
  rw [ur_c]; split <;> omega
theorem Inv_r4 {Y : Sg} (hI : Inv Y) {i v : Int} (h : 0 ≤ v ∧ v ≤ 99) : Inv (Y.1, ur Y.2 4 i v) := by
  obtain ⟨h0, h1, h2, h3, h4, h5, h6, h7, ht, hr, hm, hn⟩ := hI
  refine ⟨h0, h1, h2, h3, h4, h5, h6, h7, ht, fun f f0 f1 => ?_, hm, hn⟩
  have h5 := hr f f0 f1
  show 0 ≤ ur Y.2 4 i v 4 f ∧ ur Y.2 4 i v 4 f ≤ 99
  rw [ur_c]; split <;> omega
theorem Inv_r5 {Y : Sg} (hI : Inv Y) {i v : Int} (h : 0 ≤ v ∧ v ≤ 10) : Inv (Y.1, ur Y.2 5 i v) := by
  obtain ⟨h0, h1, h2, h3, h4, h5, h6, h7, ht, hr, hm, hn⟩ := hI
  refine ⟨h0, h1, h2, h3, h4, h5, h6, h7, ht, hr, fun f f0 f1 => ⟨?_, (hm f f0 f1).2⟩, hn⟩
  have h5 := (hm f f0 f1).1
  show 0 ≤ ur Y.2 5 i v 5 f ∧ ur Y.2 5 i v 5 f ≤ 10
  rw [ur_c]; split <;> omega
theorem Inv_r6 {Y : Sg} (hI : Inv Y) {i v : Int} (h : 0 ≤ v ∧ v ≤ 99) : Inv (Y.1, ur Y.2 6 i v) := by
  obtain ⟨h0, h1, h2, h3, h4, h5, h6, h7, ht, hr, hm, hn⟩ := hI
  refine ⟨h0, h1, h2, h3, h4, h5, h6, h7, ht, hr, fun f f0 f1 => ⟨(hm f f0 f1).1, ?_⟩, hn⟩
  have h5 := (hm f f0 f1).2
  show 0 ≤ ur Y.2 6 i v 6 f ∧ ur Y.2 6 i v 6 f ≤ 99
  rw [ur_c]; split <;> omega
theorem RL_f {X M : Sg} (hR : RLx X M) (z : Int) : RLx (uv X.1 9 z, X.2) (uv M.1 9 z, M.2) :=
  RL_uv hR (by decide) z (Inv_tr hR.1 (fun i hi => uv_n _ _ (by omega)) rfl)
theorem RL_ff {X M : Sg} (hR : RLx X M) (z z2 : Int) : RLx (uv (uv X.1 9 z) 9 z2, X.2) (uv (uv M.1 9 z) 9 z2, M.2) := RL_f (RL_f hR z) z2
theorem RL_t {X M : Sg} (hR : RLx X M) {z z2 : Int} (h : z2 = z) : RLx (uv X.1 8 z, X.2) (uv M.1 8 z2, M.2) := by
  rw [h]
  exact RL_uv hR (by decide) z (Inv_tr hR.1 (fun i hi => uv_n _ _ (by omega)) rfl)
theorem S_bore {X M : Sg} (hR : RLx X M) {f h : Int} {z z2 : Int} {S S2 : Sg} (h1 : (((f < 0 ∨ X.1 0 ≤ f) ∧ z = -1 ∧ S = X) ∨ (¬ (f < 0 ∨ X.1 0 ≤ f) ∧ (h < 0 ∨ 9 < h) ∧ z = -2 ∧ S = X) ∨ (¬ (f < 0 ∨ X.1 0 ≤ f) ∧ ¬ (h < 0 ∨ 9 < h) ∧ z = X.2 1 f ∧ S = (X.1, ur X.2 1 f h)))) (h2 : (((f < 0 ∨ X.1 0 ≤ f) ∧ z2 = -1 ∧ S2 = M) ∨ (¬ (f < 0 ∨ X.1 0 ≤ f) ∧ (h < 0 ∨ 9 < h) ∧ z2 = -2 ∧ S2 = M) ∨ (¬ (f < 0 ∨ X.1 0 ≤ f) ∧ ¬ (h < 0 ∨ 9 < h) ∧ z2 = X.2 1 f ∧ S2 = (M.1, ur M.2 1 f h)))) : z = z2 ∧ RLx S S2 := by
  rcases h1 with ⟨c1, e1, s1⟩ | ⟨c1, c2, e1, s1⟩ | ⟨c1, c2, e1, s1⟩ <;> rcases h2 with ⟨d1, e2, s2⟩ | ⟨d1, d2, e2, s2⟩ | ⟨d1, d2, e2, s2⟩ <;> first | (exfalso; omega) | exact ⟨by omega, by rw [s1, s2]; exact hR⟩ | exact ⟨by omega, by rw [s1, s2]; exact RL_ur hR (by decide) _ _ (Inv_r1 hR.1 (by omega))⟩
theorem S_begin {X M : Sg} (hR : RLx X M) {v : Int} {z z2 : Int} {S S2 : Sg} (h1 : ((X.1 0 = 0 ∧ z = -3 ∧ S = X) ∨ (X.1 0 ≠ 0 ∧ (v < 0 ∨ X.1 1 < v) ∧ z = -2 ∧ S = X) ∨ (X.1 0 ≠ 0 ∧ ¬ (v < 0 ∨ X.1 1 < v) ∧ z = X.1 3 ∧ S = (uv X.1 3 v, X.2)))) (h2 : ((X.1 0 = 0 ∧ z2 = -3 ∧ S2 = M) ∨ (X.1 0 ≠ 0 ∧ (v < 0 ∨ X.1 1 < v) ∧ z2 = -2 ∧ S2 = M) ∨ (X.1 0 ≠ 0 ∧ ¬ (v < 0 ∨ X.1 1 < v) ∧ z2 = X.1 3 ∧ S2 = (uv M.1 3 v, M.2)))) : z = z2 ∧ RLx S S2 := by
  rcases h1 with ⟨c1, e1, s1⟩ | ⟨c1, c2, e1, s1⟩ | ⟨c1, c2, e1, s1⟩ <;> rcases h2 with ⟨d1, e2, s2⟩ | ⟨d1, d2, e2, s2⟩ | ⟨d1, d2, e2, s2⟩ <;> first | (exfalso; omega) | exact ⟨by omega, by rw [s1, s2]; exact hR⟩ | exact ⟨by omega, by rw [s1, s2]; exact RL_uv hR (by decide) _ (Inv_v3 hR.1 (by omega))⟩
theorem S_rain {X M : Sg} (hR : RLx X M) {d v : Int} {z z2 : Int} {S S2 : Sg} (h1 : (((d < 0 ∨ 9 < d) ∧ z = -1 ∧ S = X) ∨ (¬ (d < 0 ∨ 9 < d) ∧ (v < 0 ∨ 99 < v) ∧ z = -2 ∧ S = X) ∨ (¬ (d < 0 ∨ 9 < d) ∧ ¬ (v < 0 ∨ 99 < v) ∧ X.1 0 = 0 ∧ z = -3 ∧ S = X) ∨ (¬ (d < 0 ∨ 9 < d) ∧ ¬ (v < 0 ∨ 99 < v) ∧ X.1 0 ≠ 0 ∧ z = X.2 4 d ∧ S = (X.1, ur X.2 4 d v)))) (h2 : (((d < 0 ∨ 9 < d) ∧ z2 = -1 ∧ S2 = M) ∨ (¬ (d < 0 ∨ 9 < d) ∧ (v < 0 ∨ 99 < v) ∧ z2 = -2 ∧ S2 = M) ∨ (¬ (d < 0 ∨ 9 < d) ∧ ¬ (v < 0 ∨ 99 < v) ∧ X.1 0 = 0 ∧ z2 = -3 ∧ S2 = M) ∨ (¬ (d < 0 ∨ 9 < d) ∧ ¬ (v < 0 ∨ 99 < v) ∧ X.1 0 ≠ 0 ∧ z2 = X.2 4 d ∧ S2 = (M.1, ur M.2 4 d v)))) : z = z2 ∧ RLx S S2 := by
  rcases h1 with ⟨c1, e1, s1⟩ | ⟨c1, c2, e1, s1⟩ | ⟨c1, c2, c3, e1, s1⟩ | ⟨c1, c2, c3, e1, s1⟩ <;> rcases h2 with ⟨d1, e2, s2⟩ | ⟨d1, d2, e2, s2⟩ | ⟨d1, d2, d3, e2, s2⟩ | ⟨d1, d2, d3, e2, s2⟩ <;> first | (exfalso; omega) | exact ⟨by omega, by rw [s1, s2]; exact hR⟩ | exact ⟨by omega, by rw [s1, s2]; exact RL_ur hR (by decide) _ _ (Inv_r4 hR.1 (by omega))⟩
theorem S_law {X M : Sg} (hR : RLx X M) {v : Int} {z z2 : Int} {S S2 : Sg} (h1 : (((v < 0 ∨ 2 < v) ∧ z = -2 ∧ S = X) ∨ (¬ (v < 0 ∨ 2 < v) ∧ X.1 0 = 0 ∧ z = -3 ∧ S = X) ∨ (¬ (v < 0 ∨ 2 < v) ∧ X.1 0 ≠ 0 ∧ z = X.1 4 ∧ S = (uv X.1 4 v, X.2)))) (h2 : (((v < 0 ∨ 2 < v) ∧ z2 = -2 ∧ S2 = M) ∨ (¬ (v < 0 ∨ 2 < v) ∧ X.1 0 = 0 ∧ z2 = -3 ∧ S2 = M) ∨ (¬ (v < 0 ∨ 2 < v) ∧ X.1 0 ≠ 0 ∧ z2 = X.1 4 ∧ S2 = (uv M.1 4 v, M.2)))) : z = z2 ∧ RLx S S2 := by
  rcases h1 with ⟨c1, e1, s1⟩ | ⟨c1, c2, e1, s1⟩ | ⟨c1, c2, e1, s1⟩ <;> rcases h2 with ⟨d1, e2, s2⟩ | ⟨d1, d2, e2, s2⟩ | ⟨d1, d2, e2, s2⟩ <;> first | (exfalso; omega) | exact ⟨by omega, by rw [s1, s2]; exact hR⟩ | exact ⟨by omega, by rw [s1, s2]; exact RL_uv hR (by decide) _ (Inv_v4 hR.1 (by omega))⟩
theorem S_leak {X M : Sg} (hR : RLx X M) {h v : Int} {z z2 : Int} {S S2 : Sg} (h1 : ((((h < 0 ∨ 9 < h) ∨ (v < 0 ∨ 9 < v)) ∧ z = -2 ∧ S = X) ∨ (¬ ((h < 0 ∨ 9 < h) ∨ (v < 0 ∨ 9 < v)) ∧ X.1 0 = 0 ∧ z = -3 ∧ S = X) ∨ (¬ ((h < 0 ∨ 9 < h) ∨ (v < 0 ∨ 9 < v)) ∧ X.1 0 ≠ 0 ∧ z = 10 * X.1 5 + X.1 6 ∧ S = (uv (uv X.1 5 h) 6 v, X.2)))) (h2 : ((((h < 0 ∨ 9 < h) ∨ (v < 0 ∨ 9 < v)) ∧ z2 = -2 ∧ S2 = M) ∨ (¬ ((h < 0 ∨ 9 < h) ∨ (v < 0 ∨ 9 < v)) ∧ X.1 0 = 0 ∧ z2 = -3 ∧ S2 = M) ∨ (¬ ((h < 0 ∨ 9 < h) ∨ (v < 0 ∨ 9 < v)) ∧ X.1 0 ≠ 0 ∧ z2 = 10 * X.1 5 + X.1 6 ∧ S2 = (uv (uv M.1 5 h) 6 v, M.2)))) : z = z2 ∧ RLx S S2 := by
  rcases h1 with ⟨c1, e1, s1⟩ | ⟨c1, c2, e1, s1⟩ | ⟨c1, c2, e1, s1⟩ <;> rcases h2 with ⟨d1, e2, s2⟩ | ⟨d1, d2, e2, s2⟩ | ⟨d1, d2, e2, s2⟩ <;> first | (exfalso; omega) | exact ⟨by omega, by rw [s1, s2]; exact hR⟩ | exact ⟨by omega, by rw [s1, s2]; exact RL_uv (RL_uv hR (by decide) h (Inv_v5 hR.1 (by omega))) (by decide) v (Inv_v6 (Inv_v5 hR.1 (by omega)) (by omega))⟩
theorem S_mark {X M : Sg} (hR : RLx X M) {d v : Int} {z z2 : Int} {S S2 : Sg} (h1 : (((d < 0 ∨ 10 < d) ∧ z = -1 ∧ S = X) ∨ (¬ (d < 0 ∨ 10 < d) ∧ (v < 0 ∨ 99 < v) ∧ z = -2 ∧ S = X) ∨ (¬ (d < 0 ∨ 10 < d) ∧ ¬ (v < 0 ∨ 99 < v) ∧ X.1 0 = 0 ∧ z = -3 ∧ S = X) ∨ (¬ (d < 0 ∨ 10 < d) ∧ ¬ (v < 0 ∨ 99 < v) ∧ X.1 0 ≠ 0 ∧ 8 ≤ X.1 7 ∧ z = -4 ∧ S = X) ∨ (¬ (d < 0 ∨ 10 < d) ∧ ¬ (v < 0 ∨ 99 < v) ∧ X.1 0 ≠ 0 ∧ ¬ 8 ≤ X.1 7 ∧ z = X.1 7 ∧ S = (uv X.1 7 (X.1 7 + 1), ur (ur X.2 5 (X.1 7) d) 6 (X.1 7) v)))) (h2 : (((d < 0 ∨ 10 < d) ∧ z2 = -1 ∧ S2 = M) ∨ (¬ (d < 0 ∨ 10 < d) ∧ (v < 0 ∨ 99 < v) ∧ z2 = -2 ∧ S2 = M) ∨ (¬ (d < 0 ∨ 10 < d) ∧ ¬ (v < 0 ∨ 99 < v) ∧ X.1 0 = 0 ∧ z2 = -3 ∧ S2 = M) ∨ (¬ (d < 0 ∨ 10 < d) ∧ ¬ (v < 0 ∨ 99 < v) ∧ X.1 0 ≠ 0 ∧ 8 ≤ X.1 7 ∧ z2 = -4 ∧ S2 = M) ∨ (¬ (d < 0 ∨ 10 < d) ∧ ¬ (v < 0 ∨ 99 < v) ∧ X.1 0 ≠ 0 ∧ ¬ 8 ≤ X.1 7 ∧ z2 = X.1 7 ∧ S2 = (uv M.1 7 (X.1 7 + 1), ur (ur M.2 5 (X.1 7) d) 6 (X.1 7) v)))) : z = z2 ∧ RLx S S2 := by
  have i7 : 0 ≤ X.1 7 ∧ X.1 7 ≤ 8 := hR.1.2.2.2.2.2.2.2.1
  rcases h1 with ⟨c1, e1, s1⟩ | ⟨c1, c2, e1, s1⟩ | ⟨c1, c2, c3, e1, s1⟩ | ⟨c1, c2, c3, c4, e1, s1⟩ | ⟨c1, c2, c3, c4, e1, s1⟩ <;> rcases h2 with ⟨d1, e2, s2⟩ | ⟨d1, d2, e2, s2⟩ | ⟨d1, d2, d3, e2, s2⟩ | ⟨d1, d2, d3, d4, e2, s2⟩ | ⟨d1, d2, d3, d4, e2, s2⟩ <;> first | (exfalso; omega) | exact ⟨by omega, by rw [s1, s2]; exact hR⟩ | exact ⟨by omega, by
    rw [s1, s2]
    have a1 : Inv (uv X.1 7 (X.1 7 + 1), X.2) := Inv_v7 hR.1 (by omega)
    have a2 : Inv (uv X.1 7 (X.1 7 + 1), ur X.2 5 (X.1 7) d) := Inv_r5 a1 (by omega)
    exact RL_ur (RL_ur (RL_uv hR (by decide) _ a1) (by decide) _ _ a2) (by decide) _ _ (Inv_r6 a2 (by omega))⟩
theorem S_back {X M : Sg} (hR : RLx X M) {k : Int} {z z2 : Int} {S S2 : Sg} (h1 : (((k < 0 ∨ X.1 7 < k) ∧ z = -2 ∧ S = X) ∨ (¬ (k < 0 ∨ X.1 7 < k) ∧ z = X.1 7 - k ∧ S = (uv X.1 7 (X.1 7 - k), X.2)))) (h2 : (((k < 0 ∨ X.1 7 < k) ∧ z2 = -2 ∧ S2 = M) ∨ (¬ (k < 0 ∨ X.1 7 < k) ∧ z2 = X.1 7 - k ∧ S2 = (uv M.1 7 (X.1 7 - k), M.2)))) : z = z2 ∧ RLx S S2 := by
  have i7 : 0 ≤ X.1 7 ∧ X.1 7 ≤ 8 := hR.1.2.2.2.2.2.2.2.1
  rcases h1 with ⟨c1, e1, s1⟩ | ⟨c1, e1, s1⟩ <;> rcases h2 with ⟨d1, e2, s2⟩ | ⟨d1, e2, s2⟩ <;> first | (exfalso; omega) | exact ⟨by omega, by rw [s1, s2]; exact hR⟩ | exact ⟨by omega, by rw [s1, s2]; exact RL_uv hR (by decide) _ (Inv_v7 hR.1 (by omega))⟩
theorem S_tell {X M : Sg} (hR : RLx X M) {f : Int} {z z2 : Int} {S S2 : Sg} (h1 : (((f < 0 ∨ X.1 0 ≤ f) ∧ z = -1 ∧ S = X) ∨ (¬ (f < 0 ∨ X.1 0 ≤ f) ∧ X.2 0 f = 2 ∧ z = 2 * X.2 2 f + 100 ∧ S.1 8 = 31 * (31 * (31 * (31 * X.1 8 + 3) + 2) + 1) + 1 ∧ (∀ i, i ≠ 8 → S.1 i = X.1 i) ∧ S.2 = X.2) ∨ (¬ (f < 0 ∨ X.1 0 ≤ f) ∧ X.2 0 f = 1 ∧ z = X.2 2 f + 100 ∧ S.1 8 = 31 * (31 * X.1 8 + 2) + 1 ∧ (∀ i, i ≠ 8 → S.1 i = X.1 i) ∧ S.2 = X.2) ∨ (¬ (f < 0 ∨ X.1 0 ≤ f) ∧ X.2 0 f ≠ 2 ∧ X.2 0 f ≠ 1 ∧ z = X.2 2 f ∧ S.1 8 = 31 * X.1 8 + 1 ∧ (∀ i, i ≠ 8 → S.1 i = X.1 i) ∧ S.2 = X.2))) (h2 : (((f < 0 ∨ X.1 0 ≤ f) ∧ z2 = -1 ∧ S2 = M) ∨ (¬ (f < 0 ∨ X.1 0 ≤ f) ∧ X.2 0 f = 2 ∧ z2 = 2 * X.2 2 f + 100 ∧ S2.1 8 = 31 * (31 * (31 * (31 * M.1 8 + 3) + 2) + 1) + 1 ∧ (∀ i, i ≠ 8 → S2.1 i = M.1 i) ∧ S2.2 = M.2) ∨ (¬ (f < 0 ∨ X.1 0 ≤ f) ∧ X.2 0 f = 1 ∧ z2 = X.2 2 f + 100 ∧ S2.1 8 = 31 * (31 * M.1 8 + 2) + 1 ∧ (∀ i, i ≠ 8 → S2.1 i = M.1 i) ∧ S2.2 = M.2) ∨ (¬ (f < 0 ∨ X.1 0 ≤ f) ∧ X.2 0 f ≠ 2 ∧ X.2 0 f ≠ 1 ∧ z2 = X.2 2 f ∧ S2.1 8 = 31 * M.1 8 + 1 ∧ (∀ i, i ≠ 8 → S2.1 i = M.1 i) ∧ S2.2 = M.2))) : z = z2 ∧ RLx S S2 := by
  have t8 : M.1 8 = X.1 8 := hR.2.2.2.2.1.1
  have t9 : M.1 9 = X.1 9 := hR.2.2.2.2.1.2
  rcases h1 with ⟨c1, e1, s1⟩ | ⟨c1, c2, e1, s1, s3, s4⟩ | ⟨c1, c2, e1, s1, s3, s4⟩ | ⟨c1, c2, c3, e1, s1, s3, s4⟩ <;> rcases h2 with ⟨d1, e2, s2⟩ | ⟨d1, d2, e2, s2, s5, s6⟩ | ⟨d1, d2, e2, s2, s5, s6⟩ | ⟨d1, d2, d3, e2, s2, s5, s6⟩ <;> first | (exfalso; omega) | exact ⟨by omega, by rw [s1, s2]; exact hR⟩ | exact ⟨by omega, RL_tr hR (fun i h8 _ => s3 i h8) s4 (fun i h8 _ => s5 i h8) s6 (by rw [s1, s2, t8]) (by rw [s3 9 (by decide), s5 9 (by decide), t9])⟩
theorem S_knock {X M : Sg} (hR : RLx X M) {f : Int} {z z2 : Int} {S S2 : Sg} (h1 : (((f < 0 ∨ X.1 0 ≤ f) ∧ z = -1 ∧ S = X) ∨ (¬ (f < 0 ∨ X.1 0 ≤ f) ∧ X.2 0 f = 2 ∧ z = 70 ∧ S = (uv X.1 8 (31 * X.1 8 + 5), X.2)) ∨ (¬ (f < 0 ∨ X.1 0 ≤ f) ∧ X.2 0 f ≠ 2 ∧ z = f ∧ S = (uv X.1 8 (31 * X.1 8 + 4), X.2)))) (h2 : (((f < 0 ∨ X.1 0 ≤ f) ∧ z2 = -1 ∧ S2 = M) ∨ (¬ (f < 0 ∨ X.1 0 ≤ f) ∧ X.2 0 f = 2 ∧ z2 = 70 ∧ S2 = (uv M.1 8 (31 * M.1 8 + 5), M.2)) ∨ (¬ (f < 0 ∨ X.1 0 ≤ f) ∧ X.2 0 f ≠ 2 ∧ z2 = f ∧ S2 = (uv M.1 8 (31 * M.1 8 + 4), M.2)))) : z = z2 ∧ RLx S S2 := by
  have t8 : M.1 8 = X.1 8 := hR.2.2.2.2.1.1
  rcases h1 with ⟨c1, e1, s1⟩ | ⟨c1, c2, e1, s1⟩ | ⟨c1, c2, e1, s1⟩ <;> rcases h2 with ⟨d1, e2, s2⟩ | ⟨d1, d2, e2, s2⟩ | ⟨d1, d2, e2, s2⟩ <;> first | (exfalso; omega) | exact ⟨by omega, by rw [s1, s2]; exact hR⟩ | exact ⟨by omega, by rw [s1, s2]; exact RL_t hR (by rw [t8])⟩
theorem S_as {X M : Sg} (hR : RLx X M) {f x : Int} {z z2 : Int} {S S2 : Sg} (h1 : (((f < 0 ∨ X.1 0 ≤ f) ∧ z = -1 ∧ S = (uv X.1 9 0, X.2)) ∨ (¬ (f < 0 ∨ X.1 0 ≤ f) ∧ (x < 0 ∨ 2 < x) ∧ z = -2 ∧ S = (uv X.1 9 0, X.2)) ∨ (¬ (f < 0 ∨ X.1 0 ≤ f) ∧ ¬ (x < 0 ∨ 2 < x) ∧ X.2 0 f < x ∧ z = -12 ∧ S = (uv (uv X.1 9 0) 9 2, X.2)) ∨ (¬ (f < 0 ∨ X.1 0 ≤ f) ∧ ¬ (x < 0 ∨ 2 < x) ∧ ¬ X.2 0 f < x ∧ z = 1 ∧ S = (uv X.1 9 0, X.2)))) (h2 : (((f < 0 ∨ X.1 0 ≤ f) ∧ z2 = -1 ∧ S2 = (uv M.1 9 0, M.2)) ∨ (¬ (f < 0 ∨ X.1 0 ≤ f) ∧ (x < 0 ∨ 2 < x) ∧ z2 = -2 ∧ S2 = (uv M.1 9 0, M.2)) ∨ (¬ (f < 0 ∨ X.1 0 ≤ f) ∧ ¬ (x < 0 ∨ 2 < x) ∧ X.2 0 f < x ∧ z2 = -12 ∧ S2 = (uv (uv M.1 9 0) 9 2, M.2)) ∨ (¬ (f < 0 ∨ X.1 0 ≤ f) ∧ ¬ (x < 0 ∨ 2 < x) ∧ ¬ X.2 0 f < x ∧ z2 = 1 ∧ S2 = (uv M.1 9 0, M.2)))) : z = z2 ∧ RLx S S2 := by
  rcases h1 with ⟨c1, e1, s1⟩ | ⟨c1, c2, e1, s1⟩ | ⟨c1, c2, c3, e1, s1⟩ | ⟨c1, c2, c3, e1, s1⟩ <;> rcases h2 with ⟨d1, e2, s2⟩ | ⟨d1, d2, e2, s2⟩ | ⟨d1, d2, d3, e2, s2⟩ | ⟨d1, d2, d3, e2, s2⟩ <;> first | (exfalso; omega) | exact ⟨by omega, by rw [s1, s2]; exact RL_f hR 0⟩ | exact ⟨by omega, by rw [s1, s2]; exact RL_ff hR 0 2⟩
