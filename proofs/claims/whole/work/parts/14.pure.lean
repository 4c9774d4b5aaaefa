/-! who draws when: the order of taps by a law -/
def KY (Y : Sg) (q f : Int) : Int := if q = 1 then Y.2 1 f else -(Y.2 1 f)
def BF (Y : Sg) (q a b : Int) : Prop := KY Y q a < KY Y q b ∨ (KY Y q a = KY Y q b ∧ a < b)
theorem BF_irr (Y : Sg) (q a : Int) : ¬ BF Y q a a := by unfold BF; omega
theorem BF_asym {Y : Sg} {q a b : Int} (h : BF Y q a b) : ¬ BF Y q b a := by unfold BF at *; omega
theorem BF_tot (Y : Sg) (q : Int) {a b : Int} (h : a ≠ b) : BF Y q a b ∨ BF Y q b a := by unfold BF; omega
theorem BF_tr {Y : Sg} {q a b c : Int} (h : BF Y q a b) (h2 : BF Y q b c) : BF Y q a c := by unfold BF at *; omega
def OR (Y : Sg) (q : Int) (o : Int → Int) (k : Nat) : Prop := (∀ i : Nat, i < k → 0 ≤ o i ∧ o i < Y.1 0) ∧ (∀ i j : Nat, i < j → j < k → BF Y q (o i) (o j)) ∧ (∀ f : Int, 0 ≤ f → f < Y.1 0 → ∃ i : Nat, i < k ∧ o i = f)
theorem OR_le {Y : Sg} {q : Int} {o o' : Int → Int} {k k' : Nat} (h : OR Y q o k) (h' : OR Y q o' k') : ∀ i : Nat, i < k → i < k' ∧ o i = o' i := by
  intro i
  induction i using Nat.strongRecOn with
  | ind i ih =>
    intro hi
    obtain ⟨j, hj, ej⟩ := h'.2.2 (o i) (h.1 i hi).1 (h.1 i hi).2
    rcases Nat.lt_trichotomy j i with c | c | c
    · have e := (ih j c (by omega)).2
      exact absurd (h.2.1 j i c hi) (by rw [e, ej]; exact BF_irr _ _ _)
    · subst c; exact ⟨hj, ej.symm⟩
    · have hi' : i < k' := by omega
      obtain ⟨l, hl, el⟩ := h.2.2 (o' i) (h'.1 i hi').1 (h'.1 i hi').2
      have b1 : BF Y q (o' i) (o i) := by rw [← ej]; exact h'.2.1 i j c hj
      rcases Nat.lt_trichotomy l i with d | d | d
      · have e := (ih l d (by omega)).2
        exact absurd (h'.2.1 l i d hi') (by rw [← e, el]; exact BF_irr _ _ _)
      · subst d; rw [el] at b1; exact absurd b1 (BF_irr _ _ _)
      · have b2 := h.2.1 i l d hl
        rw [el] at b2; exact absurd b1 (BF_asym b2)
theorem OR_k {Y : Sg} {q : Int} {o o' : Int → Int} {k k' : Nat} (h : OR Y q o k) (h' : OR Y q o' k') : k = k' := by
  rcases Nat.lt_trichotomy k k' with c | c | c
  · exact absurd (OR_le h' h k c).1 (by omega)
  · exact c
  · exact absurd (OR_le h h' k' c).1 (by omega)
/-- what one wishes: by law 3 its need -/
def WS (Y : Sg) (q f : Int) : Int := if q = 3 then Y.2 2 f else WN Y f
/-- what the first k have drawn -/
def DA (Y : Sg) (q : Int) (o : Int → Int) (w : Int) : Nat → Int
  | 0 => 0
  | k + 1 => DA Y q o w k + min (WS Y q (o k)) (GV Y (o k) (w - DA Y q o w k))
theorem DA_cong {Y : Sg} {q w : Int} {o o' : Int → Int} : ∀ {k : Nat}, (∀ i : Nat, i < k → o i = o' i) → DA Y q o w k = DA Y q o' w k
  | 0, _ => rfl
  | k + 1, h => by rw [DA, DA, DA_cong (fun i hi => h i (by omega)), h k (by omega)]
theorem WS_rng {Y : Sg} (hI : Inv Y) (q : Int) {f : Int} (h0 : 0 ≤ f) (h1 : f < 6) : 0 ≤ WS Y q f ∧ WS Y q f ≤ 14 ∧ Y.2 2 f ≤ WS Y q f := by
  have h2 := WN_rng hI h0 h1
  obtain ⟨-, -, -, -, -, -, -, -, ht, -⟩ := hI
  have := ht f h0 h1
  unfold WS
  split <;> omega
theorem GV_rng {Y : Sg} (hI : Inv Y) {f : Int} (h0 : 0 ≤ f) (h1 : f < 6) (w : Int) : 0 ≤ GV Y f w ∧ (0 ≤ w → GV Y f w ≤ w) := by
  obtain ⟨-, -, h2, -, -, -, -, -, ht, -⟩ := hI
  have hf := ht f h0 h1
  have := mul99 hf.2.1 h2
  unfold GV
  omega
theorem DA_rng {Y : Sg} (hI : Inv Y) {q w : Int} (hw : 0 ≤ w) {o : Int → Int} : ∀ {k : Nat}, (∀ i : Nat, i < k → 0 ≤ o i ∧ o i < Y.1 0) → 0 ≤ DA Y q o w k ∧ DA Y q o w k ≤ w
  | 0, _ => by rw [DA]; omega
  | k + 1, h => by
    have ih := DA_rng hI hw (q := q) (o := o) (k := k) (fun i hi => h i (by omega))
    have hk := h k (by omega)
    have h6 := hI.1
    have g := GV_rng hI hk.1 (by omega) (w - DA Y q o w k)
    have s := WS_rng hI q hk.1 (f := o k) (by omega)
    rw [DA]; omega
/-- what each gets when they draw in order, and all together -/
def GO (Y : Sg) (q w : Int) (g : Int → Int) (t : Int) : Prop := ∃ (o : Int → Int) (k : Nat), OR Y q o k ∧ t = DA Y q o w k ∧ ∀ i : Nat, i < k → g (o i) = DA Y q o w (i + 1) - DA Y q o w i
theorem GO_uni {Y : Sg} {q w : Int} {g g' : Int → Int} {t t' : Int} (h : GO Y q w g t) (h' : GO Y q w g' t') : t = t' ∧ ∀ f : Int, 0 ≤ f → f < Y.1 0 → g f = g' f := by
  obtain ⟨o, k, h1, h2, h3⟩ := h
  obtain ⟨o', k', h1', h2', h3'⟩ := h'
  have ek := OR_k h1 h1'
  subst ek
  have e : ∀ i : Nat, i < k → o i = o' i := fun i hi => (OR_le h1 h1' i hi).2
  refine ⟨by rw [h2, h2', DA_cong e], fun f f0 f1 => ?_⟩
  obtain ⟨i, hi, rfl⟩ := h1.2.2 f f0 f1
  rw [h3 i hi, e i hi, h3' i hi, DA_cong (k := i + 1) (fun j hj => e j (by omega)), DA_cong (k := i) (fun j hj => e j (by omega))]
/-! by turns -/
def TS (Y : Sg) (w f : Int) (s : Int × (Int → Int)) : Int × (Int → Int) :=
  (s.1 + min (min (Y.2 3 f) (WN Y f - s.2 f)) (GV Y f (w - s.1)), fun j => if j = f then s.2 j + min (min (Y.2 3 f) (WN Y f - s.2 f)) (GV Y f (w - s.1)) else s.2 j)
def TRd (Y : Sg) (w : Int) : Nat → Int × (Int → Int) → Int × (Int → Int)
  | 0, s => s
  | k + 1, s => TS Y w k (TRd Y w k s)
def TR (Y : Sg) (w : Int) : Nat → Int × (Int → Int)
  | 0 => (0, fun _ => 0)
  | n + 1 => TRd Y w (Y.1 0).toNat (TR Y w n)
def TI (Y : Sg) (w : Int) (s : Int × (Int → Int)) : Prop := (0 ≤ s.1 ∧ s.1 ≤ w) ∧ ∀ f : Int, 0 ≤ f → f < 6 → 0 ≤ s.2 f ∧ s.2 f ≤ WN Y f
theorem TS_p {Y : Sg} (hI : Inv Y) {w f : Int} (h0 : 0 ≤ f) (h1 : f < 6) {s : Int × (Int → Int)} (hs : TI Y w s) : 0 ≤ min (min (Y.2 3 f) (WN Y f - s.2 f)) (GV Y f (w - s.1)) ∧ min (min (Y.2 3 f) (WN Y f - s.2 f)) (GV Y f (w - s.1)) ≤ WN Y f - s.2 f ∧ min (min (Y.2 3 f) (WN Y f - s.2 f)) (GV Y f (w - s.1)) ≤ w - s.1 := by
  have g := GV_rng hI h0 h1 (w - s.1)
  have a := hs.1
  have b := hs.2 f h0 h1
  obtain ⟨-, -, -, -, -, -, -, -, ht, -⟩ := hI
  have := ht f h0 h1
  omega
theorem TS_I {Y : Sg} (hI : Inv Y) {w f : Int} (h0 : 0 ≤ f) (h1 : f < 6) {s : Int × (Int → Int)} (hs : TI Y w s) : TI Y w (TS Y w f s) ∧ s.1 ≤ (TS Y w f s).1 := by
  have h := TS_p hI h0 h1 hs
  unfold TS
  refine ⟨⟨by have := hs.1; dsimp only; omega, fun j j0 j1 => ?_⟩, by dsimp only; omega⟩
  have := hs.2 j j0 j1
  dsimp only
  split
  · subst j; omega
  · exact this
theorem TRd_I {Y : Sg} (hI : Inv Y) {w : Int} {s : Int × (Int → Int)} (hs : TI Y w s) : ∀ {k : Nat}, (k : Int) ≤ 6 → TI Y w (TRd Y w k s) ∧ s.1 ≤ (TRd Y w k s).1
  | 0, _ => ⟨hs, Int.le_refl _⟩
  | k + 1, h => by
    have ih := TRd_I hI hs (k := k) (by omega)
    have h2 := TS_I hI (f := (k : Int)) (by omega) (by omega) ih.1
    exact ⟨h2.1, Int.le_trans ih.2 h2.2⟩
theorem TRd_same {Y : Sg} (hI : Inv Y) {w : Int} {s : Int × (Int → Int)} (hs : TI Y w s) : ∀ {k : Nat}, (k : Int) ≤ 6 → (TRd Y w k s).1 = s.1 → TRd Y w k s = s
  | 0, _, _ => rfl
  | k + 1, h, e => by
    have ih := TRd_I hI hs (k := k) (by omega)
    have h2 := TS_I hI (f := (k : Int)) (by omega) (by omega) ih.1
    have e1 : (TRd Y w k s).1 = s.1 := by have e2 : (TS Y w k (TRd Y w k s)).1 = s.1 := e; omega
    have e3 := TRd_same hI hs (k := k) (by omega) e1
    have e4 : (TS Y w k s).1 = s.1 := by
      have e2 : (TS Y w k (TRd Y w k s)).1 = s.1 := e
      rwa [e3] at e2
    show TS Y w k (TRd Y w k s) = s
    rw [e3]
    unfold TS at e4 ⊢
    dsimp only at e4
    have e5 : min (min (Y.2 3 (k : Int)) (WN Y k - s.2 k)) (GV Y k (w - s.1)) = 0 := by omega
    rw [e5]
    refine Prod.ext (by dsimp only; omega) (funext fun j => ?_)
    dsimp only
    split <;> omega
theorem TI_0 {Y : Sg} (hI : Inv Y) {w : Int} (hw : 0 ≤ w) : TI Y w (0, fun _ => 0) := ⟨by dsimp only; omega, fun f h0 h1 => by have := WN_rng hI h0 h1; dsimp only; omega⟩
theorem TR_I {Y : Sg} (hI : Inv Y) {w : Int} (hw : 0 ≤ w) : ∀ n : Nat, TI Y w (TR Y w n)
  | 0 => TI_0 hI hw
  | n + 1 => (TRd_I hI (TR_I hI hw n) (by have := hI.1; omega)).1
theorem TR_fix {Y : Sg} {w : Int} {n : Nat} (h : TR Y w (n + 1) = TR Y w n) : ∀ m : Nat, n ≤ m → TR Y w m = TR Y w n
  | 0, hm => by have : n = 0 := by omega
                rw [this]
  | m + 1, hm => by
    rcases Nat.lt_or_ge n (m + 1) with c | c
    · show TRd Y w (Y.1 0).toNat (TR Y w m) = _
      rw [TR_fix h m (by omega)]
      exact h
    · have : n = m + 1 := by omega
      rw [this]
theorem TR_stop {Y : Sg} (hI : Inv Y) {w : Int} (hw : 0 ≤ w) {n : Nat} (e : (TR Y w (n + 1)).1 = (TR Y w n).1) : TR Y w (n + 1) = TR Y w n :=
  TRd_same hI (TR_I hI hw n) (by have := hI.1; omega) e
/-! a day -/
def DG (Y : Sg) (q w : Int) (g : Int → Int) (t : Int) : Prop := (q = 2 ∧ t = (TR Y w 100).1 ∧ ∀ f : Int, 0 ≤ f → f < Y.1 0 → g f = (TR Y w 100).2 f) ∨ (q ≠ 2 ∧ GO Y q w g t)
theorem DG_uni {Y : Sg} {q w : Int} {g g' : Int → Int} {t t' : Int} (h : DG Y q w g t) (h' : DG Y q w g' t') : t = t' ∧ ∀ f : Int, 0 ≤ f → f < Y.1 0 → g f = g' f := by
  rcases h with ⟨a, b, c⟩ | ⟨a, b⟩ <;> rcases h' with ⟨a', b', c'⟩ | ⟨a', b'⟩
  · exact ⟨by rw [b, b'], fun f h0 h1 => by rw [c f h0 h1, c' f h0 h1]⟩
  · exact absurd a a'
  · exact absurd a' a
  · exact GO_uni b b'
theorem DG_rng {Y : Sg} (hI : Inv Y) {q w : Int} (hw : 0 ≤ w) {g : Int → Int} {t : Int} (h : DG Y q w g t) : (0 ≤ t ∧ t ≤ w) ∧ ∀ f : Int, 0 ≤ f → f < Y.1 0 → 0 ≤ g f ∧ g f ≤ 14 := by
  have h6 := hI.1
  rcases h with ⟨a, b, c⟩ | ⟨a, o, k, h1, h2, h3⟩
  · have := TR_I hI hw 100
    refine ⟨by rw [b]; exact this.1, fun f h0 h1 => ?_⟩
    have h2 := this.2 f h0 (by omega)
    have h3 := WN_rng hI h0 (f := f) (by omega)
    rw [c f h0 h1]; omega
  · refine ⟨by rw [h2]; exact DA_rng hI hw h1.1, fun f f0 f1 => ?_⟩
    obtain ⟨i, hi, rfl⟩ := h1.2.2 f f0 f1
    have d := DA_rng hI hw (q := q) (o := o) (k := i) (fun j hj => h1.1 j (by omega))
    have gv := GV_rng hI f0 (f := o i) (by omega) (w - DA Y q o w i)
    have ws := WS_rng hI q f0 (f := o i) (by omega)
    rw [h3 i hi, DA]; omega
noncomputable def dgt (Y : Sg) (q w : Int) : (Int → Int) × Int := Classical.epsilon (fun p : (Int → Int) × Int => DG Y q w p.1 p.2)
theorem dgt_eq {Y : Sg} {q w : Int} {g : Int → Int} {t : Int} (h : DG Y q w g t) : t = (dgt Y q w).2 ∧ ∀ f : Int, 0 ≤ f → f < Y.1 0 → g f = (dgt Y q w).1 f := by
  have h2 : DG Y q w (dgt Y q w).1 (dgt Y q w).2 := Classical.epsilon_spec (p := fun p : (Int → Int) × Int => DG Y q w p.1 p.2) ⟨(g, t), h⟩
  exact DG_uni h h2
/-- the water behind a day of rain rn that began with w -/
noncomputable def dW (Y : Sg) (q w rn : Int) : Int := (min (w + rn) (Y.1 1) - (dgt Y q (min (w + rn) (Y.1 1))).2) - min (Y.1 6) (max 0 ((min (w + rn) (Y.1 1) - (dgt Y q (min (w + rn) (Y.1 1))).2) - Y.1 5 * Y.1 2))
/-- what a tap gets on such a day -/
noncomputable def dGt (Y : Sg) (q w rn f : Int) : Int := (dgt Y q (min (w + rn) (Y.1 1))).1 f
/-- the water ahead of day k -/
noncomputable def lev (Y : Sg) (q w : Int) (rn : Int → Int) : Nat → Int
  | 0 => w
  | k + 1 => dW Y q (lev Y q w rn k) (rn k)
theorem dW_rng {Y : Sg} (hI : Inv Y) {q w rn : Int} (hw : 0 ≤ w) (hr : 0 ≤ rn) {g : Int → Int} {t : Int} (h : DG Y q (min (w + rn) (Y.1 1)) g t) : 0 ≤ dW Y q w rn ∧ dW Y q w rn ≤ Y.1 1 := by
  have hc := hI.2.1
  have hi5 := hI.2.2.2.2.2.1
  have hm := mul99 hi5 hI.2.2.1
  have hi6 := hI.2.2.2.2.2.2.1
  have r := DG_rng hI (by omega) h
  rw [(dgt_eq h).1] at r
  unfold dW
  omega
