/-! states: whole numbers by their number; rows by their number and place -/
def uv (v : Nat → Int) (k : Nat) (x : Int) : Nat → Int := fun j => if j = k then x else v j
def ur (r : Nat → Int → Int) (k : Nat) (i x : Int) : Nat → Int → Int := fun a j => if a = k then (if j = i then x else r a j) else r a j
theorem uv_s (v : Nat → Int) (k : Nat) (x : Int) : uv v k x k = x := if_pos rfl
theorem uv_n (v : Nat → Int) {k j : Nat} (x : Int) (h : j ≠ k) : uv v k x j = v j := if_neg h
theorem ur_s (r : Nat → Int → Int) (k : Nat) (i x : Int) : ur r k i x k i = x := by unfold ur; rw [if_pos rfl, if_pos rfl]
theorem ur_n (r : Nat → Int → Int) {k a : Nat} (i x : Int) (h : a ≠ k) : ur r k i x a = r a := by funext j; unfold ur; rw [if_neg h]
theorem ur_o (r : Nat → Int → Int) (k : Nat) {i j : Int} (x : Int) (h : j ≠ i) : ur r k i x k j = r k j := by unfold ur; rw [if_pos rfl, if_neg h]
theorem ur_c (r : Nat → Int → Int) (k : Nat) (i j x : Int) : ur r k i x k j = if j = i then x else r k j := by unfold ur; rw [if_pos rfl]
def rI (f : Int → Int) : Nat → Int32 := fun j => iI (f (j : Int))
theorem rI_at {f : Int → Int} {i z : Int} (h : 0 ≤ i) (hz : f i = z) : rI f i.toNat = iI z := by
  unfold rI; rw [Int.toNat_of_nonneg h, hz]
theorem rI_up {r : Nat → Int → Int} {a : Nat} {i z : Int} (h : 0 ≤ i) : upd (rI (r a)) i.toNat (iI z) = rI (ur r a i z a) := by
  funext j
  unfold upd rI
  rw [ur_c]
  by_cases e : j = i.toNat
  · rw [if_pos e, if_pos (by omega)]
  · rw [if_neg e, if_neg (by omega)]
def rA (f : Int → Nat) : Nat → Option Nat := fun j => some (f (j : Int))
theorem rA_at {f : Int → Nat} {i : Int} (h : 0 ≤ i) : rA f i.toNat = some (f i) := by
  unfold rA; rw [Int.toNat_of_nonneg h]
theorem k_nm {σ : Type} {w : WD σ} {G : Heap → List Loc → JFrame → Prop} {H0 : Heap} {m : MethodId} {nL pc : Nat} {st : σ} {lo : List (Nat × Value)} {sk : List Value} (k : ∀ S : σ, S = st → KW w G H0 m nL S pc lo sk) : KW w G H0 m nL st pc lo sk := k st rfl

def xW (ad : Nat → Nat) (ta sa ca : Int → Nat) (cI cT cS : ClassId) (st : Sg) : va_W :=
  [(ad 0, .inr (5, [.ref (ad 1), .ref (ad 4), .ref (ad 9), .ref (ad 12), .int (iI (st.1 8)), .int (iI (st.1 9))])),
   (ad 1, .inr (4, [.ref (ad 2), .ref (ad 3), .int (iI (st.1 0)), .int (iI (st.1 1)), .int (iI (st.1 2)), .int (iI (st.1 3)), .int (iI (st.1 4)), .int (iI (st.1 5)), .int (iI (st.1 6))])),
   (ad 2, .inl (cT, 6, .inr (.inr (.inr (.inr (rA ta)))))),
   (ad 3, .inl (cI, 10, .inl (rI (st.2 4)))),
   (ad 4, .inr (0, [.ref (ad 5), .ref (ad 6), .ref (ad 1), .ref (ad 7), .ref (ad 8), .int (iI (st.1 10))])),
   (ad 5, .inl (cI, 11, .inl (rI (st.2 9)))),
   (ad 6, .inl (cI, 10, .inl (rI (st.2 10)))),
   (ad 7, .inl (cI, 60, .inl (rI (st.2 11)))),
   (ad 8, .inl (cI, 6, .inl (rI (st.2 12)))),
   (ad 9, .inr (1, [.ref (ad 10), .ref (ad 11), .int (iI (st.1 7))])),
   (ad 10, .inl (cI, 8, .inl (rI (st.2 5)))),
   (ad 11, .inl (cI, 8, .inl (rI (st.2 6)))),
   (ad 12, .inl (cS, 4, .inr (.inr (.inr (.inr (rA sa)))))),
   (ta 0, .inr (3, [.int (iI (st.2 0 0)), .int (iI (st.2 1 0)), .int (iI (st.2 2 0)), .int (iI (st.2 3 0))])),
   (ta 1, .inr (3, [.int (iI (st.2 0 1)), .int (iI (st.2 1 1)), .int (iI (st.2 2 1)), .int (iI (st.2 3 1))])),
   (ta 2, .inr (3, [.int (iI (st.2 0 2)), .int (iI (st.2 1 2)), .int (iI (st.2 2 2)), .int (iI (st.2 3 2))])),
   (ta 3, .inr (3, [.int (iI (st.2 0 3)), .int (iI (st.2 1 3)), .int (iI (st.2 2 3)), .int (iI (st.2 3 3))])),
   (ta 4, .inr (3, [.int (iI (st.2 0 4)), .int (iI (st.2 1 4)), .int (iI (st.2 2 4)), .int (iI (st.2 3 4))])),
   (ta 5, .inr (3, [.int (iI (st.2 0 5)), .int (iI (st.2 1 5)), .int (iI (st.2 2 5)), .int (iI (st.2 3 5))])),
   (sa 0, .inr (2, [.ref (ca 0), .int (iI (st.2 7 0)), .int (iI (st.2 8 0))])),
   (sa 1, .inr (2, [.ref (ca 1), .int (iI (st.2 7 1)), .int (iI (st.2 8 1))])),
   (sa 2, .inr (2, [.ref (ca 2), .int (iI (st.2 7 2)), .int (iI (st.2 8 2))])),
   (sa 3, .inr (2, [.ref (ca 3), .int (iI (st.2 7 3)), .int (iI (st.2 8 3))])),
   (ca 0, .inl (cI, 60, .inl (rI (st.2 20)))),
   (ca 1, .inl (cI, 60, .inl (rI (st.2 21)))),
   (ca 2, .inl (cI, 60, .inl (rI (st.2 22)))),
   (ca 3, .inl (cI, 60, .inl (rI (st.2 23))))]

def xads (ad : Nat → Nat) (ta sa ca : Int → Nat) : List Nat := [ad 0, ad 1, ad 2, ad 3, ad 4, ad 5, ad 6, ad 7, ad 8, ad 9, ad 10, ad 11, ad 12, ta 0, ta 1, ta 2, ta 3, ta 4, ta 5, sa 0, sa 1, sa 2, sa 3, ca 0, ca 1, ca 2, ca 3]

abbrev xw (ad : Nat → Nat) (ta sa ca : Int → Nat) (D : va_G) (cI cT cS : ClassId) : WD Sg := (xW ad ta sa ca cI cT cS, xads ad ta sa ca, D, [(cI, .int), (cT, .object "BarrelTaps$Tap"), (cS, .object "BarrelTaps$Sheet")])

section XROWS
variable {ad : Nat → Nat} {ta sa ca : Int → Nat} {D : va_G} {cI cT cS : ClassId} {G : Heap → List Loc → JFrame → Prop} {H0 : Heap} {m : MethodId} {cc : ByteArray} {own : String} {nL : Nat} {R : Room} {st : Sg} {pc : Nat} {lo : List (Nat × Value)} {sk : List Value}

theorem x_get_X6_yard (hE : KE (xw ad ta sa ca D cI cT cS) G H0 m cc own nL R) {idx : Nat} (hl : Cond.fieldLink own idx "BarrelTaps" "yard" "LBarrelTaps$Yard;" ∈ lw_gt) (hd : decode cc pc = .ok (.getfield idx, 3)) (k : KW (xw ad ta sa ca D cI cT cS) G H0 m nL st (pc + 3) lo (.ref (ad 1) :: sk)) : KW (xw ad ta sa ca D cI cT cS) G H0 m nL st pc lo (.ref (ad 0) :: sk) :=
  k_get hE 0 5 0 rfl rfl (by decide) ⟨rfl, rfl, rfl⟩ uw_X6 rfl hl hd k
theorem x_get_X6_days (hE : KE (xw ad ta sa ca D cI cT cS) G H0 m cc own nL R) {idx : Nat} (hl : Cond.fieldLink own idx "BarrelTaps" "days" "LBarrelTaps$Days;" ∈ lw_gt) (hd : decode cc pc = .ok (.getfield idx, 3)) (k : KW (xw ad ta sa ca D cI cT cS) G H0 m nL st (pc + 3) lo (.ref (ad 4) :: sk)) : KW (xw ad ta sa ca D cI cT cS) G H0 m nL st pc lo (.ref (ad 0) :: sk) :=
  k_get hE 0 5 1 rfl rfl (by decide) ⟨rfl, rfl, rfl⟩ uw_X6 rfl hl hd k
theorem x_get_X6_marks (hE : KE (xw ad ta sa ca D cI cT cS) G H0 m cc own nL R) {idx : Nat} (hl : Cond.fieldLink own idx "BarrelTaps" "marks" "LBarrelTaps$Marks;" ∈ lw_gt) (hd : decode cc pc = .ok (.getfield idx, 3)) (k : KW (xw ad ta sa ca D cI cT cS) G H0 m nL st (pc + 3) lo (.ref (ad 9) :: sk)) : KW (xw ad ta sa ca D cI cT cS) G H0 m nL st pc lo (.ref (ad 0) :: sk) :=
  k_get hE 0 5 2 rfl rfl (by decide) ⟨rfl, rfl, rfl⟩ uw_X6 rfl hl hd k
theorem x_get_X6_sheets (hE : KE (xw ad ta sa ca D cI cT cS) G H0 m cc own nL R) {idx : Nat} (hl : Cond.fieldLink own idx "BarrelTaps" "sheets" "[LBarrelTaps$Sheet;" ∈ lw_gt) (hd : decode cc pc = .ok (.getfield idx, 3)) (k : KW (xw ad ta sa ca D cI cT cS) G H0 m nL st (pc + 3) lo (.ref (ad 12) :: sk)) : KW (xw ad ta sa ca D cI cT cS) G H0 m nL st pc lo (.ref (ad 0) :: sk) :=
  k_get hE 0 5 3 rfl rfl (by decide) ⟨rfl, rfl, rfl⟩ uw_X6 rfl hl hd k
theorem x_get_X6_traceLeft (hE : KE (xw ad ta sa ca D cI cT cS) G H0 m cc own nL R) {idx : Nat} {z : Int} (hz : st.1 8 = z) (hl : Cond.fieldLink own idx "BarrelTaps" "traceLeft" "I" ∈ lw_gt) (hd : decode cc pc = .ok (.getfield idx, 3)) (k : KW (xw ad ta sa ca D cI cT cS) G H0 m nL st (pc + 3) lo (.int (iI z) :: sk)) : KW (xw ad ta sa ca D cI cT cS) G H0 m nL st pc lo (.ref (ad 0) :: sk) := by
  subst hz; exact k_get hE 0 5 4 rfl rfl (by decide) ⟨rfl, rfl, rfl⟩ uw_X6 rfl hl hd k
theorem x_put_X6_traceLeft (hE : KE (xw ad ta sa ca D cI cT cS) G H0 m cc own nL R) {idx : Nat} {z : Int} (hl : Cond.fieldLink own idx "BarrelTaps" "traceLeft" "I" ∈ lw_gt) (hd : decode cc pc = .ok (.putfield idx, 3)) (k : KW (xw ad ta sa ca D cI cT cS) G H0 m nL (uv st.1 8 z, st.2) (pc + 3) lo sk) : KW (xw ad ta sa ca D cI cT cS) G H0 m nL st pc lo (.int (iI z) :: .ref (ad 0) :: sk) :=
  k_put hE 0 5 4 rfl rfl (by decide) ⟨rfl, rfl, rfl, rfl⟩ uw_X6 tyX6_ok nmX6 (ty := .int) (by decide +kernel) rfl rfl (Nat.le_of_ble_eq_true rfl) rfl hl hd k
theorem x_get_X6_lastFault (hE : KE (xw ad ta sa ca D cI cT cS) G H0 m cc own nL R) {idx : Nat} {z : Int} (hz : st.1 9 = z) (hl : Cond.fieldLink own idx "BarrelTaps" "lastFault" "I" ∈ lw_gt) (hd : decode cc pc = .ok (.getfield idx, 3)) (k : KW (xw ad ta sa ca D cI cT cS) G H0 m nL st (pc + 3) lo (.int (iI z) :: sk)) : KW (xw ad ta sa ca D cI cT cS) G H0 m nL st pc lo (.ref (ad 0) :: sk) := by
  subst hz; exact k_get hE 0 5 5 rfl rfl (by decide) ⟨rfl, rfl, rfl⟩ uw_X6 rfl hl hd k
theorem x_put_X6_lastFault (hE : KE (xw ad ta sa ca D cI cT cS) G H0 m cc own nL R) {idx : Nat} {z : Int} (hl : Cond.fieldLink own idx "BarrelTaps" "lastFault" "I" ∈ lw_gt) (hd : decode cc pc = .ok (.putfield idx, 3)) (k : KW (xw ad ta sa ca D cI cT cS) G H0 m nL (uv st.1 9 z, st.2) (pc + 3) lo sk) : KW (xw ad ta sa ca D cI cT cS) G H0 m nL st pc lo (.int (iI z) :: .ref (ad 0) :: sk) :=
  k_put hE 0 5 5 rfl rfl (by decide) ⟨rfl, rfl, rfl, rfl⟩ uw_X6 tyX6_ok nmX6 (ty := .int) (by decide +kernel) rfl rfl (Nat.le_of_ble_eq_true rfl) rfl hl hd k
theorem x_get_X5_taps (hE : KE (xw ad ta sa ca D cI cT cS) G H0 m cc own nL R) {idx : Nat} (hl : Cond.fieldLink own idx "BarrelTaps$Yard" "taps" "[LBarrelTaps$Tap;" ∈ lw_gt) (hd : decode cc pc = .ok (.getfield idx, 3)) (k : KW (xw ad ta sa ca D cI cT cS) G H0 m nL st (pc + 3) lo (.ref (ad 2) :: sk)) : KW (xw ad ta sa ca D cI cT cS) G H0 m nL st pc lo (.ref (ad 1) :: sk) :=
  k_get hE 1 4 0 rfl rfl (by decide) ⟨rfl, rfl, rfl⟩ uw_X5 rfl hl hd k
theorem x_get_X5_rainOn (hE : KE (xw ad ta sa ca D cI cT cS) G H0 m cc own nL R) {idx : Nat} (hl : Cond.fieldLink own idx "BarrelTaps$Yard" "rainOn" "[I" ∈ lw_gt) (hd : decode cc pc = .ok (.getfield idx, 3)) (k : KW (xw ad ta sa ca D cI cT cS) G H0 m nL st (pc + 3) lo (.ref (ad 3) :: sk)) : KW (xw ad ta sa ca D cI cT cS) G H0 m nL st pc lo (.ref (ad 1) :: sk) :=
  k_get hE 1 4 1 rfl rfl (by decide) ⟨rfl, rfl, rfl⟩ uw_X5 rfl hl hd k
theorem x_get_X5_tapCount (hE : KE (xw ad ta sa ca D cI cT cS) G H0 m cc own nL R) {idx : Nat} {z : Int} (hz : st.1 0 = z) (hl : Cond.fieldLink own idx "BarrelTaps$Yard" "tapCount" "I" ∈ lw_gt) (hd : decode cc pc = .ok (.getfield idx, 3)) (k : KW (xw ad ta sa ca D cI cT cS) G H0 m nL st (pc + 3) lo (.int (iI z) :: sk)) : KW (xw ad ta sa ca D cI cT cS) G H0 m nL st pc lo (.ref (ad 1) :: sk) := by
  subst hz; exact k_get hE 1 4 2 rfl rfl (by decide) ⟨rfl, rfl, rfl⟩ uw_X5 rfl hl hd k
theorem x_put_X5_tapCount (hE : KE (xw ad ta sa ca D cI cT cS) G H0 m cc own nL R) {idx : Nat} {z : Int} (hl : Cond.fieldLink own idx "BarrelTaps$Yard" "tapCount" "I" ∈ lw_gt) (hd : decode cc pc = .ok (.putfield idx, 3)) (k : KW (xw ad ta sa ca D cI cT cS) G H0 m nL (uv st.1 0 z, st.2) (pc + 3) lo sk) : KW (xw ad ta sa ca D cI cT cS) G H0 m nL st pc lo (.int (iI z) :: .ref (ad 1) :: sk) :=
  k_put hE 1 4 2 rfl rfl (by decide) ⟨rfl, rfl, rfl, rfl⟩ uw_X5 tyX5_ok nmX5 (ty := .int) (by decide +kernel) rfl rfl (Nat.le_of_ble_eq_true rfl) rfl hl hd k
theorem x_get_X5_cap (hE : KE (xw ad ta sa ca D cI cT cS) G H0 m cc own nL R) {idx : Nat} {z : Int} (hz : st.1 1 = z) (hl : Cond.fieldLink own idx "BarrelTaps$Yard" "cap" "I" ∈ lw_gt) (hd : decode cc pc = .ok (.getfield idx, 3)) (k : KW (xw ad ta sa ca D cI cT cS) G H0 m nL st (pc + 3) lo (.int (iI z) :: sk)) : KW (xw ad ta sa ca D cI cT cS) G H0 m nL st pc lo (.ref (ad 1) :: sk) := by
  subst hz; exact k_get hE 1 4 3 rfl rfl (by decide) ⟨rfl, rfl, rfl⟩ uw_X5 rfl hl hd k
theorem x_put_X5_cap (hE : KE (xw ad ta sa ca D cI cT cS) G H0 m cc own nL R) {idx : Nat} {z : Int} (hl : Cond.fieldLink own idx "BarrelTaps$Yard" "cap" "I" ∈ lw_gt) (hd : decode cc pc = .ok (.putfield idx, 3)) (k : KW (xw ad ta sa ca D cI cT cS) G H0 m nL (uv st.1 1 z, st.2) (pc + 3) lo sk) : KW (xw ad ta sa ca D cI cT cS) G H0 m nL st pc lo (.int (iI z) :: .ref (ad 1) :: sk) :=
  k_put hE 1 4 3 rfl rfl (by decide) ⟨rfl, rfl, rfl, rfl⟩ uw_X5 tyX5_ok nmX5 (ty := .int) (by decide +kernel) rfl rfl (Nat.le_of_ble_eq_true rfl) rfl hl hd k
theorem x_get_X5_per (hE : KE (xw ad ta sa ca D cI cT cS) G H0 m cc own nL R) {idx : Nat} {z : Int} (hz : st.1 2 = z) (hl : Cond.fieldLink own idx "BarrelTaps$Yard" "per" "I" ∈ lw_gt) (hd : decode cc pc = .ok (.getfield idx, 3)) (k : KW (xw ad ta sa ca D cI cT cS) G H0 m nL st (pc + 3) lo (.int (iI z) :: sk)) : KW (xw ad ta sa ca D cI cT cS) G H0 m nL st pc lo (.ref (ad 1) :: sk) := by
  subst hz; exact k_get hE 1 4 4 rfl rfl (by decide) ⟨rfl, rfl, rfl⟩ uw_X5 rfl hl hd k
theorem x_put_X5_per (hE : KE (xw ad ta sa ca D cI cT cS) G H0 m cc own nL R) {idx : Nat} {z : Int} (hl : Cond.fieldLink own idx "BarrelTaps$Yard" "per" "I" ∈ lw_gt) (hd : decode cc pc = .ok (.putfield idx, 3)) (k : KW (xw ad ta sa ca D cI cT cS) G H0 m nL (uv st.1 2 z, st.2) (pc + 3) lo sk) : KW (xw ad ta sa ca D cI cT cS) G H0 m nL st pc lo (.int (iI z) :: .ref (ad 1) :: sk) :=
  k_put hE 1 4 4 rfl rfl (by decide) ⟨rfl, rfl, rfl, rfl⟩ uw_X5 tyX5_ok nmX5 (ty := .int) (by decide +kernel) rfl rfl (Nat.le_of_ble_eq_true rfl) rfl hl hd k
theorem x_get_X5_firstWater (hE : KE (xw ad ta sa ca D cI cT cS) G H0 m cc own nL R) {idx : Nat} {z : Int} (hz : st.1 3 = z) (hl : Cond.fieldLink own idx "BarrelTaps$Yard" "firstWater" "I" ∈ lw_gt) (hd : decode cc pc = .ok (.getfield idx, 3)) (k : KW (xw ad ta sa ca D cI cT cS) G H0 m nL st (pc + 3) lo (.int (iI z) :: sk)) : KW (xw ad ta sa ca D cI cT cS) G H0 m nL st pc lo (.ref (ad 1) :: sk) := by
  subst hz; exact k_get hE 1 4 5 rfl rfl (by decide) ⟨rfl, rfl, rfl⟩ uw_X5 rfl hl hd k
theorem x_put_X5_firstWater (hE : KE (xw ad ta sa ca D cI cT cS) G H0 m cc own nL R) {idx : Nat} {z : Int} (hl : Cond.fieldLink own idx "BarrelTaps$Yard" "firstWater" "I" ∈ lw_gt) (hd : decode cc pc = .ok (.putfield idx, 3)) (k : KW (xw ad ta sa ca D cI cT cS) G H0 m nL (uv st.1 3 z, st.2) (pc + 3) lo sk) : KW (xw ad ta sa ca D cI cT cS) G H0 m nL st pc lo (.int (iI z) :: .ref (ad 1) :: sk) :=
  k_put hE 1 4 5 rfl rfl (by decide) ⟨rfl, rfl, rfl, rfl⟩ uw_X5 tyX5_ok nmX5 (ty := .int) (by decide +kernel) rfl rfl (Nat.le_of_ble_eq_true rfl) rfl hl hd k
theorem x_get_X5_rule (hE : KE (xw ad ta sa ca D cI cT cS) G H0 m cc own nL R) {idx : Nat} {z : Int} (hz : st.1 4 = z) (hl : Cond.fieldLink own idx "BarrelTaps$Yard" "rule" "I" ∈ lw_gt) (hd : decode cc pc = .ok (.getfield idx, 3)) (k : KW (xw ad ta sa ca D cI cT cS) G H0 m nL st (pc + 3) lo (.int (iI z) :: sk)) : KW (xw ad ta sa ca D cI cT cS) G H0 m nL st pc lo (.ref (ad 1) :: sk) := by
  subst hz; exact k_get hE 1 4 6 rfl rfl (by decide) ⟨rfl, rfl, rfl⟩ uw_X5 rfl hl hd k
theorem x_put_X5_rule (hE : KE (xw ad ta sa ca D cI cT cS) G H0 m cc own nL R) {idx : Nat} {z : Int} (hl : Cond.fieldLink own idx "BarrelTaps$Yard" "rule" "I" ∈ lw_gt) (hd : decode cc pc = .ok (.putfield idx, 3)) (k : KW (xw ad ta sa ca D cI cT cS) G H0 m nL (uv st.1 4 z, st.2) (pc + 3) lo sk) : KW (xw ad ta sa ca D cI cT cS) G H0 m nL st pc lo (.int (iI z) :: .ref (ad 1) :: sk) :=
  k_put hE 1 4 6 rfl rfl (by decide) ⟨rfl, rfl, rfl, rfl⟩ uw_X5 tyX5_ok nmX5 (ty := .int) (by decide +kernel) rfl rfl (Nat.le_of_ble_eq_true rfl) rfl hl hd k
theorem x_get_X5_leakHeight (hE : KE (xw ad ta sa ca D cI cT cS) G H0 m cc own nL R) {idx : Nat} {z : Int} (hz : st.1 5 = z) (hl : Cond.fieldLink own idx "BarrelTaps$Yard" "leakHeight" "I" ∈ lw_gt) (hd : decode cc pc = .ok (.getfield idx, 3)) (k : KW (xw ad ta sa ca D cI cT cS) G H0 m nL st (pc + 3) lo (.int (iI z) :: sk)) : KW (xw ad ta sa ca D cI cT cS) G H0 m nL st pc lo (.ref (ad 1) :: sk) := by
  subst hz; exact k_get hE 1 4 7 rfl rfl (by decide) ⟨rfl, rfl, rfl⟩ uw_X5 rfl hl hd k
theorem x_put_X5_leakHeight (hE : KE (xw ad ta sa ca D cI cT cS) G H0 m cc own nL R) {idx : Nat} {z : Int} (hl : Cond.fieldLink own idx "BarrelTaps$Yard" "leakHeight" "I" ∈ lw_gt) (hd : decode cc pc = .ok (.putfield idx, 3)) (k : KW (xw ad ta sa ca D cI cT cS) G H0 m nL (uv st.1 5 z, st.2) (pc + 3) lo sk) : KW (xw ad ta sa ca D cI cT cS) G H0 m nL st pc lo (.int (iI z) :: .ref (ad 1) :: sk) :=
  k_put hE 1 4 7 rfl rfl (by decide) ⟨rfl, rfl, rfl, rfl⟩ uw_X5 tyX5_ok nmX5 (ty := .int) (by decide +kernel) rfl rfl (Nat.le_of_ble_eq_true rfl) rfl hl hd k
theorem x_get_X5_leakPails (hE : KE (xw ad ta sa ca D cI cT cS) G H0 m cc own nL R) {idx : Nat} {z : Int} (hz : st.1 6 = z) (hl : Cond.fieldLink own idx "BarrelTaps$Yard" "leakPails" "I" ∈ lw_gt) (hd : decode cc pc = .ok (.getfield idx, 3)) (k : KW (xw ad ta sa ca D cI cT cS) G H0 m nL st (pc + 3) lo (.int (iI z) :: sk)) : KW (xw ad ta sa ca D cI cT cS) G H0 m nL st pc lo (.ref (ad 1) :: sk) := by
  subst hz; exact k_get hE 1 4 8 rfl rfl (by decide) ⟨rfl, rfl, rfl⟩ uw_X5 rfl hl hd k
theorem x_put_X5_leakPails (hE : KE (xw ad ta sa ca D cI cT cS) G H0 m cc own nL R) {idx : Nat} {z : Int} (hl : Cond.fieldLink own idx "BarrelTaps$Yard" "leakPails" "I" ∈ lw_gt) (hd : decode cc pc = .ok (.putfield idx, 3)) (k : KW (xw ad ta sa ca D cI cT cS) G H0 m nL (uv st.1 6 z, st.2) (pc + 3) lo sk) : KW (xw ad ta sa ca D cI cT cS) G H0 m nL st pc lo (.int (iI z) :: .ref (ad 1) :: sk) :=
  k_put hE 1 4 8 rfl rfl (by decide) ⟨rfl, rfl, rfl, rfl⟩ uw_X5 tyX5_ok nmX5 (ty := .int) (by decide +kernel) rfl rfl (Nat.le_of_ble_eq_true rfl) rfl hl hd k
theorem x_get_X0_levels (hE : KE (xw ad ta sa ca D cI cT cS) G H0 m cc own nL R) {idx : Nat} (hl : Cond.fieldLink own idx "BarrelTaps$Days" "levels" "[I" ∈ lw_gt) (hd : decode cc pc = .ok (.getfield idx, 3)) (k : KW (xw ad ta sa ca D cI cT cS) G H0 m nL st (pc + 3) lo (.ref (ad 5) :: sk)) : KW (xw ad ta sa ca D cI cT cS) G H0 m nL st pc lo (.ref (ad 4) :: sk) :=
  k_get hE 4 0 0 rfl rfl (by decide) ⟨rfl, rfl, rfl⟩ uw_X0 rfl hl hd k
theorem x_get_X0_overs (hE : KE (xw ad ta sa ca D cI cT cS) G H0 m cc own nL R) {idx : Nat} (hl : Cond.fieldLink own idx "BarrelTaps$Days" "overs" "[I" ∈ lw_gt) (hd : decode cc pc = .ok (.getfield idx, 3)) (k : KW (xw ad ta sa ca D cI cT cS) G H0 m nL st (pc + 3) lo (.ref (ad 6) :: sk)) : KW (xw ad ta sa ca D cI cT cS) G H0 m nL st pc lo (.ref (ad 4) :: sk) :=
  k_get hE 4 0 1 rfl rfl (by decide) ⟨rfl, rfl, rfl⟩ uw_X0 rfl hl hd k
theorem x_get_X0_yard (hE : KE (xw ad ta sa ca D cI cT cS) G H0 m cc own nL R) {idx : Nat} (hl : Cond.fieldLink own idx "BarrelTaps$Days" "yard" "LBarrelTaps$Yard;" ∈ lw_gt) (hd : decode cc pc = .ok (.getfield idx, 3)) (k : KW (xw ad ta sa ca D cI cT cS) G H0 m nL st (pc + 3) lo (.ref (ad 1) :: sk)) : KW (xw ad ta sa ca D cI cT cS) G H0 m nL st pc lo (.ref (ad 4) :: sk) :=
  k_get hE 4 0 2 rfl rfl (by decide) ⟨rfl, rfl, rfl⟩ uw_X0 rfl hl hd k
theorem x_get_X0_drawn (hE : KE (xw ad ta sa ca D cI cT cS) G H0 m cc own nL R) {idx : Nat} (hl : Cond.fieldLink own idx "BarrelTaps$Days" "drawn" "[I" ∈ lw_gt) (hd : decode cc pc = .ok (.getfield idx, 3)) (k : KW (xw ad ta sa ca D cI cT cS) G H0 m nL st (pc + 3) lo (.ref (ad 7) :: sk)) : KW (xw ad ta sa ca D cI cT cS) G H0 m nL st pc lo (.ref (ad 4) :: sk) :=
  k_get hE 4 0 3 rfl rfl (by decide) ⟨rfl, rfl, rfl⟩ uw_X0 rfl hl hd k
theorem x_get_X0_order (hE : KE (xw ad ta sa ca D cI cT cS) G H0 m cc own nL R) {idx : Nat} (hl : Cond.fieldLink own idx "BarrelTaps$Days" "order" "[I" ∈ lw_gt) (hd : decode cc pc = .ok (.getfield idx, 3)) (k : KW (xw ad ta sa ca D cI cT cS) G H0 m nL st (pc + 3) lo (.ref (ad 8) :: sk)) : KW (xw ad ta sa ca D cI cT cS) G H0 m nL st pc lo (.ref (ad 4) :: sk) :=
  k_get hE 4 0 4 rfl rfl (by decide) ⟨rfl, rfl, rfl⟩ uw_X0 rfl hl hd k
theorem x_get_X0_rule (hE : KE (xw ad ta sa ca D cI cT cS) G H0 m cc own nL R) {idx : Nat} {z : Int} (hz : st.1 10 = z) (hl : Cond.fieldLink own idx "BarrelTaps$Days" "rule" "I" ∈ lw_gt) (hd : decode cc pc = .ok (.getfield idx, 3)) (k : KW (xw ad ta sa ca D cI cT cS) G H0 m nL st (pc + 3) lo (.int (iI z) :: sk)) : KW (xw ad ta sa ca D cI cT cS) G H0 m nL st pc lo (.ref (ad 4) :: sk) := by
  subst hz; exact k_get hE 4 0 5 rfl rfl (by decide) ⟨rfl, rfl, rfl⟩ uw_X0 rfl hl hd k
theorem x_put_X0_rule (hE : KE (xw ad ta sa ca D cI cT cS) G H0 m cc own nL R) {idx : Nat} {z : Int} (hl : Cond.fieldLink own idx "BarrelTaps$Days" "rule" "I" ∈ lw_gt) (hd : decode cc pc = .ok (.putfield idx, 3)) (k : KW (xw ad ta sa ca D cI cT cS) G H0 m nL (uv st.1 10 z, st.2) (pc + 3) lo sk) : KW (xw ad ta sa ca D cI cT cS) G H0 m nL st pc lo (.int (iI z) :: .ref (ad 4) :: sk) :=
  k_put hE 4 0 5 rfl rfl (by decide) ⟨rfl, rfl, rfl, rfl⟩ uw_X0 tyX0_ok nmX0 (ty := .int) (by decide +kernel) rfl rfl (Nat.le_of_ble_eq_true rfl) rfl hl hd k
theorem x_get_X1_day (hE : KE (xw ad ta sa ca D cI cT cS) G H0 m cc own nL R) {idx : Nat} (hl : Cond.fieldLink own idx "BarrelTaps$Marks" "day" "[I" ∈ lw_gt) (hd : decode cc pc = .ok (.getfield idx, 3)) (k : KW (xw ad ta sa ca D cI cT cS) G H0 m nL st (pc + 3) lo (.ref (ad 10) :: sk)) : KW (xw ad ta sa ca D cI cT cS) G H0 m nL st pc lo (.ref (ad 9) :: sk) :=
  k_get hE 9 1 0 rfl rfl (by decide) ⟨rfl, rfl, rfl⟩ uw_X1 rfl hl hd k
theorem x_get_X1_height (hE : KE (xw ad ta sa ca D cI cT cS) G H0 m cc own nL R) {idx : Nat} (hl : Cond.fieldLink own idx "BarrelTaps$Marks" "height" "[I" ∈ lw_gt) (hd : decode cc pc = .ok (.getfield idx, 3)) (k : KW (xw ad ta sa ca D cI cT cS) G H0 m nL st (pc + 3) lo (.ref (ad 11) :: sk)) : KW (xw ad ta sa ca D cI cT cS) G H0 m nL st pc lo (.ref (ad 9) :: sk) :=
  k_get hE 9 1 1 rfl rfl (by decide) ⟨rfl, rfl, rfl⟩ uw_X1 rfl hl hd k
theorem x_get_X1_count (hE : KE (xw ad ta sa ca D cI cT cS) G H0 m cc own nL R) {idx : Nat} {z : Int} (hz : st.1 7 = z) (hl : Cond.fieldLink own idx "BarrelTaps$Marks" "count" "I" ∈ lw_gt) (hd : decode cc pc = .ok (.getfield idx, 3)) (k : KW (xw ad ta sa ca D cI cT cS) G H0 m nL st (pc + 3) lo (.int (iI z) :: sk)) : KW (xw ad ta sa ca D cI cT cS) G H0 m nL st pc lo (.ref (ad 9) :: sk) := by
  subst hz; exact k_get hE 9 1 2 rfl rfl (by decide) ⟨rfl, rfl, rfl⟩ uw_X1 rfl hl hd k
theorem x_put_X1_count (hE : KE (xw ad ta sa ca D cI cT cS) G H0 m cc own nL R) {idx : Nat} {z : Int} (hl : Cond.fieldLink own idx "BarrelTaps$Marks" "count" "I" ∈ lw_gt) (hd : decode cc pc = .ok (.putfield idx, 3)) (k : KW (xw ad ta sa ca D cI cT cS) G H0 m nL (uv st.1 7 z, st.2) (pc + 3) lo sk) : KW (xw ad ta sa ca D cI cT cS) G H0 m nL st pc lo (.int (iI z) :: .ref (ad 9) :: sk) :=
  k_put hE 9 1 2 rfl rfl (by decide) ⟨rfl, rfl, rfl, rfl⟩ uw_X1 tyX1_ok nmX1 (ty := .int) (by decide +kernel) rfl rfl (Nat.le_of_ble_eq_true rfl) rfl hl hd k
theorem x_ld_rainOn (hE : KE (xw ad ta sa ca D cI cT cS) G H0 m cc own nL R) {i z : Int} (h0 : 0 ≤ i) (h1 : i < 10) (hz : st.2 4 i = z) (hd : decode cc pc = .ok (.iaload, 1)) (k : KW (xw ad ta sa ca D cI cT cS) G H0 m nL st (pc + 1) lo (.int (iI z) :: sk)) : KW (xw ad ta sa ca D cI cT cS) G H0 m nL st pc lo (.int (iI i) :: .ref (ad 3) :: sk) :=
  k_iald hE 3 0 rfl rfl (by decide) h0 h1 (rI_at h0 hz) hd k
theorem x_st_rainOn (hE : KE (xw ad ta sa ca D cI cT cS) G H0 m cc own nL R) {i z : Int} (h0 : 0 ≤ i) (h1 : i < 10) (hd : decode cc pc = .ok (.iastore, 1)) (k : KW (xw ad ta sa ca D cI cT cS) G H0 m nL (st.1, ur st.2 4 i z) (pc + 1) lo sk) : KW (xw ad ta sa ca D cI cT cS) G H0 m nL st pc lo (.int (iI z) :: .int (iI i) :: .ref (ad 3) :: sk) :=
  k_iast hE 3 0 rfl rfl (by decide) h0 h1 (by rw [rI_up h0]; rfl) hd k
theorem x_ld_levels (hE : KE (xw ad ta sa ca D cI cT cS) G H0 m cc own nL R) {i z : Int} (h0 : 0 ≤ i) (h1 : i < 11) (hz : st.2 9 i = z) (hd : decode cc pc = .ok (.iaload, 1)) (k : KW (xw ad ta sa ca D cI cT cS) G H0 m nL st (pc + 1) lo (.int (iI z) :: sk)) : KW (xw ad ta sa ca D cI cT cS) G H0 m nL st pc lo (.int (iI i) :: .ref (ad 5) :: sk) :=
  k_iald hE 5 0 rfl rfl (by decide) h0 h1 (rI_at h0 hz) hd k
theorem x_st_levels (hE : KE (xw ad ta sa ca D cI cT cS) G H0 m cc own nL R) {i z : Int} (h0 : 0 ≤ i) (h1 : i < 11) (hd : decode cc pc = .ok (.iastore, 1)) (k : KW (xw ad ta sa ca D cI cT cS) G H0 m nL (st.1, ur st.2 9 i z) (pc + 1) lo sk) : KW (xw ad ta sa ca D cI cT cS) G H0 m nL st pc lo (.int (iI z) :: .int (iI i) :: .ref (ad 5) :: sk) :=
  k_iast hE 5 0 rfl rfl (by decide) h0 h1 (by rw [rI_up h0]; rfl) hd k
theorem x_ld_overs (hE : KE (xw ad ta sa ca D cI cT cS) G H0 m cc own nL R) {i z : Int} (h0 : 0 ≤ i) (h1 : i < 10) (hz : st.2 10 i = z) (hd : decode cc pc = .ok (.iaload, 1)) (k : KW (xw ad ta sa ca D cI cT cS) G H0 m nL st (pc + 1) lo (.int (iI z) :: sk)) : KW (xw ad ta sa ca D cI cT cS) G H0 m nL st pc lo (.int (iI i) :: .ref (ad 6) :: sk) :=
  k_iald hE 6 0 rfl rfl (by decide) h0 h1 (rI_at h0 hz) hd k
theorem x_st_overs (hE : KE (xw ad ta sa ca D cI cT cS) G H0 m cc own nL R) {i z : Int} (h0 : 0 ≤ i) (h1 : i < 10) (hd : decode cc pc = .ok (.iastore, 1)) (k : KW (xw ad ta sa ca D cI cT cS) G H0 m nL (st.1, ur st.2 10 i z) (pc + 1) lo sk) : KW (xw ad ta sa ca D cI cT cS) G H0 m nL st pc lo (.int (iI z) :: .int (iI i) :: .ref (ad 6) :: sk) :=
  k_iast hE 6 0 rfl rfl (by decide) h0 h1 (by rw [rI_up h0]; rfl) hd k
theorem x_ld_drawn (hE : KE (xw ad ta sa ca D cI cT cS) G H0 m cc own nL R) {i z : Int} (h0 : 0 ≤ i) (h1 : i < 60) (hz : st.2 11 i = z) (hd : decode cc pc = .ok (.iaload, 1)) (k : KW (xw ad ta sa ca D cI cT cS) G H0 m nL st (pc + 1) lo (.int (iI z) :: sk)) : KW (xw ad ta sa ca D cI cT cS) G H0 m nL st pc lo (.int (iI i) :: .ref (ad 7) :: sk) :=
  k_iald hE 7 0 rfl rfl (by decide) h0 h1 (rI_at h0 hz) hd k
theorem x_st_drawn (hE : KE (xw ad ta sa ca D cI cT cS) G H0 m cc own nL R) {i z : Int} (h0 : 0 ≤ i) (h1 : i < 60) (hd : decode cc pc = .ok (.iastore, 1)) (k : KW (xw ad ta sa ca D cI cT cS) G H0 m nL (st.1, ur st.2 11 i z) (pc + 1) lo sk) : KW (xw ad ta sa ca D cI cT cS) G H0 m nL st pc lo (.int (iI z) :: .int (iI i) :: .ref (ad 7) :: sk) :=
  k_iast hE 7 0 rfl rfl (by decide) h0 h1 (by rw [rI_up h0]; rfl) hd k
theorem x_ld_order (hE : KE (xw ad ta sa ca D cI cT cS) G H0 m cc own nL R) {i z : Int} (h0 : 0 ≤ i) (h1 : i < 6) (hz : st.2 12 i = z) (hd : decode cc pc = .ok (.iaload, 1)) (k : KW (xw ad ta sa ca D cI cT cS) G H0 m nL st (pc + 1) lo (.int (iI z) :: sk)) : KW (xw ad ta sa ca D cI cT cS) G H0 m nL st pc lo (.int (iI i) :: .ref (ad 8) :: sk) :=
  k_iald hE 8 0 rfl rfl (by decide) h0 h1 (rI_at h0 hz) hd k
theorem x_st_order (hE : KE (xw ad ta sa ca D cI cT cS) G H0 m cc own nL R) {i z : Int} (h0 : 0 ≤ i) (h1 : i < 6) (hd : decode cc pc = .ok (.iastore, 1)) (k : KW (xw ad ta sa ca D cI cT cS) G H0 m nL (st.1, ur st.2 12 i z) (pc + 1) lo sk) : KW (xw ad ta sa ca D cI cT cS) G H0 m nL st pc lo (.int (iI z) :: .int (iI i) :: .ref (ad 8) :: sk) :=
  k_iast hE 8 0 rfl rfl (by decide) h0 h1 (by rw [rI_up h0]; rfl) hd k
theorem x_ld_mday (hE : KE (xw ad ta sa ca D cI cT cS) G H0 m cc own nL R) {i z : Int} (h0 : 0 ≤ i) (h1 : i < 8) (hz : st.2 5 i = z) (hd : decode cc pc = .ok (.iaload, 1)) (k : KW (xw ad ta sa ca D cI cT cS) G H0 m nL st (pc + 1) lo (.int (iI z) :: sk)) : KW (xw ad ta sa ca D cI cT cS) G H0 m nL st pc lo (.int (iI i) :: .ref (ad 10) :: sk) :=
  k_iald hE 10 0 rfl rfl (by decide) h0 h1 (rI_at h0 hz) hd k
theorem x_st_mday (hE : KE (xw ad ta sa ca D cI cT cS) G H0 m cc own nL R) {i z : Int} (h0 : 0 ≤ i) (h1 : i < 8) (hd : decode cc pc = .ok (.iastore, 1)) (k : KW (xw ad ta sa ca D cI cT cS) G H0 m nL (st.1, ur st.2 5 i z) (pc + 1) lo sk) : KW (xw ad ta sa ca D cI cT cS) G H0 m nL st pc lo (.int (iI z) :: .int (iI i) :: .ref (ad 10) :: sk) :=
  k_iast hE 10 0 rfl rfl (by decide) h0 h1 (by rw [rI_up h0]; rfl) hd k
theorem x_ld_mheight (hE : KE (xw ad ta sa ca D cI cT cS) G H0 m cc own nL R) {i z : Int} (h0 : 0 ≤ i) (h1 : i < 8) (hz : st.2 6 i = z) (hd : decode cc pc = .ok (.iaload, 1)) (k : KW (xw ad ta sa ca D cI cT cS) G H0 m nL st (pc + 1) lo (.int (iI z) :: sk)) : KW (xw ad ta sa ca D cI cT cS) G H0 m nL st pc lo (.int (iI i) :: .ref (ad 11) :: sk) :=
  k_iald hE 11 0 rfl rfl (by decide) h0 h1 (rI_at h0 hz) hd k
theorem x_st_mheight (hE : KE (xw ad ta sa ca D cI cT cS) G H0 m cc own nL R) {i z : Int} (h0 : 0 ≤ i) (h1 : i < 8) (hd : decode cc pc = .ok (.iastore, 1)) (k : KW (xw ad ta sa ca D cI cT cS) G H0 m nL (st.1, ur st.2 6 i z) (pc + 1) lo sk) : KW (xw ad ta sa ca D cI cT cS) G H0 m nL st pc lo (.int (iI z) :: .int (iI i) :: .ref (ad 11) :: sk) :=
  k_iast hE 11 0 rfl rfl (by decide) h0 h1 (by rw [rI_up h0]; rfl) hd k
theorem x_ld_taps (hE : KE (xw ad ta sa ca D cI cT cS) G H0 m cc own nL R) {i : Int} (h0 : 0 ≤ i) (h1 : i < 6) (hd : decode cc pc = .ok (.aaload, 1)) (k : KW (xw ad ta sa ca D cI cT cS) G H0 m nL st (pc + 1) lo (.ref (ta i) :: sk)) : KW (xw ad ta sa ca D cI cT cS) G H0 m nL st pc lo (.int (iI i) :: .ref (ad 2) :: sk) :=
  k_aald hE 2 1 rfl rfl (by decide) h0 h1 (rA_at h0) hd k
theorem x_ld_sheets (hE : KE (xw ad ta sa ca D cI cT cS) G H0 m cc own nL R) {i : Int} (h0 : 0 ≤ i) (h1 : i < 4) (hd : decode cc pc = .ok (.aaload, 1)) (k : KW (xw ad ta sa ca D cI cT cS) G H0 m nL st (pc + 1) lo (.ref (sa i) :: sk)) : KW (xw ad ta sa ca D cI cT cS) G H0 m nL st pc lo (.int (iI i) :: .ref (ad 12) :: sk) :=
  k_aald hE 12 2 rfl rfl (by decide) h0 h1 (rA_at h0) hd k
theorem xW_tap {f : Int} (h0 : 0 ≤ f) (h1 : f < 6) : (xW ad ta sa ca cI cT cS st)[13 + f.toNat]? = some (ta f, .inr (3, [.int (iI (st.2 0 f)), .int (iI (st.2 1 f)), .int (iI (st.2 2 f)), .int (iI (st.2 3 f))])) := by
  rcases (show f = 0 ∨ f = 1 ∨ f = 2 ∨ f = 3 ∨ f = 4 ∨ f = 5 by omega) with rfl | rfl | rfl | rfl | rfl | rfl <;> rfl
theorem xW_sheet {f : Int} (h0 : 0 ≤ f) (h1 : f < 4) : (xW ad ta sa ca cI cT cS st)[19 + f.toNat]? = some (sa f, .inr (2, [.ref (ca f), .int (iI (st.2 7 f)), .int (iI (st.2 8 f))])) := by
  rcases (show f = 0 ∨ f = 1 ∨ f = 2 ∨ f = 3 by omega) with rfl | rfl | rfl | rfl <;> rfl
theorem xW_cells {f : Int} (h0 : 0 ≤ f) (h1 : f < 4) : (xW ad ta sa ca cI cT cS st)[23 + f.toNat]? = some (ca f, .inl (cI, 60, .inl (rI (st.2 (20 + f.toNat))))) := by
  rcases (show f = 0 ∨ f = 1 ∨ f = 2 ∨ f = 3 by omega) with rfl | rfl | rfl | rfl <;> rfl
theorem x_get_X3_kind (hE : KE (xw ad ta sa ca D cI cT cS) G H0 m cc own nL R) {idx : Nat} {f z : Int} (h0 : 0 ≤ f) (h1 : f < 6) (hz : st.2 0 f = z) (hl : Cond.fieldLink own idx "BarrelTaps$Tap" "kind" "I" ∈ lw_gt) (hd : decode cc pc = .ok (.getfield idx, 3)) (k : KW (xw ad ta sa ca D cI cT cS) G H0 m nL st (pc + 3) lo (.int (iI z) :: sk)) : KW (xw ad ta sa ca D cI cT cS) G H0 m nL st pc lo (.ref (ta f) :: sk) := by
  subst hz; exact k_get hE (13 + f.toNat) 3 0 (xW_tap h0 h1) rfl (by decide) ⟨rfl, rfl, rfl⟩ uw_X3 rfl hl hd k
theorem xW_tapset0 {f z : Int} (h0 : 0 ≤ f) (h1 : f < 6) : (xW ad ta sa ca cI cT cS st).set (13 + f.toNat) (ta f, .inr (3, ([.int (iI (st.2 0 f)), .int (iI (st.2 1 f)), .int (iI (st.2 2 f)), .int (iI (st.2 3 f))] : List Value).set 0 (.int (iI z)))) = xW ad ta sa ca cI cT cS (st.1, ur st.2 0 f z) := by
  rcases (show f = 0 ∨ f = 1 ∨ f = 2 ∨ f = 3 ∨ f = 4 ∨ f = 5 by omega) with rfl | rfl | rfl | rfl | rfl | rfl <;> rfl
theorem x_put_X3_kind (hE : KE (xw ad ta sa ca D cI cT cS) G H0 m cc own nL R) {idx : Nat} {f z : Int} (h0 : 0 ≤ f) (h1 : f < 6) (hl : Cond.fieldLink own idx "BarrelTaps$Tap" "kind" "I" ∈ lw_gt) (hd : decode cc pc = .ok (.putfield idx, 3)) (k : KW (xw ad ta sa ca D cI cT cS) G H0 m nL (st.1, ur st.2 0 f z) (pc + 3) lo sk) : KW (xw ad ta sa ca D cI cT cS) G H0 m nL st pc lo (.int (iI z) :: .ref (ta f) :: sk) :=
  k_put hE (13 + f.toNat) 3 0 (xW_tap h0 h1) rfl (by decide) ⟨rfl, rfl, rfl, rfl⟩ uw_X3 tyX3_ok nmX3 (ty := .int) (by decide +kernel) rfl rfl (Nat.le_of_ble_eq_true rfl) (xW_tapset0 h0 h1) hl hd k
theorem x_get_X3_height (hE : KE (xw ad ta sa ca D cI cT cS) G H0 m cc own nL R) {idx : Nat} {f z : Int} (h0 : 0 ≤ f) (h1 : f < 6) (hz : st.2 1 f = z) (hl : Cond.fieldLink own idx "BarrelTaps$Tap" "height" "I" ∈ lw_gt) (hd : decode cc pc = .ok (.getfield idx, 3)) (k : KW (xw ad ta sa ca D cI cT cS) G H0 m nL st (pc + 3) lo (.int (iI z) :: sk)) : KW (xw ad ta sa ca D cI cT cS) G H0 m nL st pc lo (.ref (ta f) :: sk) := by
  subst hz; exact k_get hE (13 + f.toNat) 3 1 (xW_tap h0 h1) rfl (by decide) ⟨rfl, rfl, rfl⟩ uw_X3 rfl hl hd k
theorem xW_tapset1 {f z : Int} (h0 : 0 ≤ f) (h1 : f < 6) : (xW ad ta sa ca cI cT cS st).set (13 + f.toNat) (ta f, .inr (3, ([.int (iI (st.2 0 f)), .int (iI (st.2 1 f)), .int (iI (st.2 2 f)), .int (iI (st.2 3 f))] : List Value).set 1 (.int (iI z)))) = xW ad ta sa ca cI cT cS (st.1, ur st.2 1 f z) := by
  rcases (show f = 0 ∨ f = 1 ∨ f = 2 ∨ f = 3 ∨ f = 4 ∨ f = 5 by omega) with rfl | rfl | rfl | rfl | rfl | rfl <;> rfl
theorem x_put_X3_height (hE : KE (xw ad ta sa ca D cI cT cS) G H0 m cc own nL R) {idx : Nat} {f z : Int} (h0 : 0 ≤ f) (h1 : f < 6) (hl : Cond.fieldLink own idx "BarrelTaps$Tap" "height" "I" ∈ lw_gt) (hd : decode cc pc = .ok (.putfield idx, 3)) (k : KW (xw ad ta sa ca D cI cT cS) G H0 m nL (st.1, ur st.2 1 f z) (pc + 3) lo sk) : KW (xw ad ta sa ca D cI cT cS) G H0 m nL st pc lo (.int (iI z) :: .ref (ta f) :: sk) :=
  k_put hE (13 + f.toNat) 3 1 (xW_tap h0 h1) rfl (by decide) ⟨rfl, rfl, rfl, rfl⟩ uw_X3 tyX3_ok nmX3 (ty := .int) (by decide +kernel) rfl rfl (Nat.le_of_ble_eq_true rfl) (xW_tapset1 h0 h1) hl hd k
theorem x_get_X3_need (hE : KE (xw ad ta sa ca D cI cT cS) G H0 m cc own nL R) {idx : Nat} {f z : Int} (h0 : 0 ≤ f) (h1 : f < 6) (hz : st.2 2 f = z) (hl : Cond.fieldLink own idx "BarrelTaps$Tap" "need" "I" ∈ lw_gt) (hd : decode cc pc = .ok (.getfield idx, 3)) (k : KW (xw ad ta sa ca D cI cT cS) G H0 m nL st (pc + 3) lo (.int (iI z) :: sk)) : KW (xw ad ta sa ca D cI cT cS) G H0 m nL st pc lo (.ref (ta f) :: sk) := by
  subst hz; exact k_get hE (13 + f.toNat) 3 2 (xW_tap h0 h1) rfl (by decide) ⟨rfl, rfl, rfl⟩ uw_X3 rfl hl hd k
theorem xW_tapset2 {f z : Int} (h0 : 0 ≤ f) (h1 : f < 6) : (xW ad ta sa ca cI cT cS st).set (13 + f.toNat) (ta f, .inr (3, ([.int (iI (st.2 0 f)), .int (iI (st.2 1 f)), .int (iI (st.2 2 f)), .int (iI (st.2 3 f))] : List Value).set 2 (.int (iI z)))) = xW ad ta sa ca cI cT cS (st.1, ur st.2 2 f z) := by
  rcases (show f = 0 ∨ f = 1 ∨ f = 2 ∨ f = 3 ∨ f = 4 ∨ f = 5 by omega) with rfl | rfl | rfl | rfl | rfl | rfl <;> rfl
theorem x_put_X3_need (hE : KE (xw ad ta sa ca D cI cT cS) G H0 m cc own nL R) {idx : Nat} {f z : Int} (h0 : 0 ≤ f) (h1 : f < 6) (hl : Cond.fieldLink own idx "BarrelTaps$Tap" "need" "I" ∈ lw_gt) (hd : decode cc pc = .ok (.putfield idx, 3)) (k : KW (xw ad ta sa ca D cI cT cS) G H0 m nL (st.1, ur st.2 2 f z) (pc + 3) lo sk) : KW (xw ad ta sa ca D cI cT cS) G H0 m nL st pc lo (.int (iI z) :: .ref (ta f) :: sk) :=
  k_put hE (13 + f.toNat) 3 2 (xW_tap h0 h1) rfl (by decide) ⟨rfl, rfl, rfl, rfl⟩ uw_X3 tyX3_ok nmX3 (ty := .int) (by decide +kernel) rfl rfl (Nat.le_of_ble_eq_true rfl) (xW_tapset2 h0 h1) hl hd k
theorem x_get_X3_speed (hE : KE (xw ad ta sa ca D cI cT cS) G H0 m cc own nL R) {idx : Nat} {f z : Int} (h0 : 0 ≤ f) (h1 : f < 6) (hz : st.2 3 f = z) (hl : Cond.fieldLink own idx "BarrelTaps$Tap" "speed" "I" ∈ lw_gt) (hd : decode cc pc = .ok (.getfield idx, 3)) (k : KW (xw ad ta sa ca D cI cT cS) G H0 m nL st (pc + 3) lo (.int (iI z) :: sk)) : KW (xw ad ta sa ca D cI cT cS) G H0 m nL st pc lo (.ref (ta f) :: sk) := by
  subst hz; exact k_get hE (13 + f.toNat) 3 3 (xW_tap h0 h1) rfl (by decide) ⟨rfl, rfl, rfl⟩ uw_X3 rfl hl hd k
theorem xW_tapset3 {f z : Int} (h0 : 0 ≤ f) (h1 : f < 6) : (xW ad ta sa ca cI cT cS st).set (13 + f.toNat) (ta f, .inr (3, ([.int (iI (st.2 0 f)), .int (iI (st.2 1 f)), .int (iI (st.2 2 f)), .int (iI (st.2 3 f))] : List Value).set 3 (.int (iI z)))) = xW ad ta sa ca cI cT cS (st.1, ur st.2 3 f z) := by
  rcases (show f = 0 ∨ f = 1 ∨ f = 2 ∨ f = 3 ∨ f = 4 ∨ f = 5 by omega) with rfl | rfl | rfl | rfl | rfl | rfl <;> rfl
theorem x_put_X3_speed (hE : KE (xw ad ta sa ca D cI cT cS) G H0 m cc own nL R) {idx : Nat} {f z : Int} (h0 : 0 ≤ f) (h1 : f < 6) (hl : Cond.fieldLink own idx "BarrelTaps$Tap" "speed" "I" ∈ lw_gt) (hd : decode cc pc = .ok (.putfield idx, 3)) (k : KW (xw ad ta sa ca D cI cT cS) G H0 m nL (st.1, ur st.2 3 f z) (pc + 3) lo sk) : KW (xw ad ta sa ca D cI cT cS) G H0 m nL st pc lo (.int (iI z) :: .ref (ta f) :: sk) :=
  k_put hE (13 + f.toNat) 3 3 (xW_tap h0 h1) rfl (by decide) ⟨rfl, rfl, rfl, rfl⟩ uw_X3 tyX3_ok nmX3 (ty := .int) (by decide +kernel) rfl rfl (Nat.le_of_ble_eq_true rfl) (xW_tapset3 h0 h1) hl hd k
theorem x_get_X2_cells (hE : KE (xw ad ta sa ca D cI cT cS) G H0 m cc own nL R) {idx : Nat} {f : Int} (h0 : 0 ≤ f) (h1 : f < 4) (hl : Cond.fieldLink own idx "BarrelTaps$Sheet" "cells" "[I" ∈ lw_gt) (hd : decode cc pc = .ok (.getfield idx, 3)) (k : KW (xw ad ta sa ca D cI cT cS) G H0 m nL st (pc + 3) lo (.ref (ca f) :: sk)) : KW (xw ad ta sa ca D cI cT cS) G H0 m nL st pc lo (.ref (sa f) :: sk) :=
  k_get hE (19 + f.toNat) 2 0 (xW_sheet h0 h1) rfl (by decide) ⟨rfl, rfl, rfl⟩ uw_X2 rfl hl hd k
theorem x_get_X2_lane (hE : KE (xw ad ta sa ca D cI cT cS) G H0 m cc own nL R) {idx : Nat} {f z : Int} (h0 : 0 ≤ f) (h1 : f < 4) (hz : st.2 7 f = z) (hl : Cond.fieldLink own idx "BarrelTaps$Sheet" "lane" "I" ∈ lw_gt) (hd : decode cc pc = .ok (.getfield idx, 3)) (k : KW (xw ad ta sa ca D cI cT cS) G H0 m nL st (pc + 3) lo (.int (iI z) :: sk)) : KW (xw ad ta sa ca D cI cT cS) G H0 m nL st pc lo (.ref (sa f) :: sk) := by
  subst hz; exact k_get hE (19 + f.toNat) 2 1 (xW_sheet h0 h1) rfl (by decide) ⟨rfl, rfl, rfl⟩ uw_X2 rfl hl hd k
theorem xW_sheetset1 {f z : Int} (h0 : 0 ≤ f) (h1 : f < 4) : (xW ad ta sa ca cI cT cS st).set (19 + f.toNat) (sa f, .inr (2, ([.ref (ca f), .int (iI (st.2 7 f)), .int (iI (st.2 8 f))] : List Value).set 1 (.int (iI z)))) = xW ad ta sa ca cI cT cS (st.1, ur st.2 7 f z) := by
  rcases (show f = 0 ∨ f = 1 ∨ f = 2 ∨ f = 3 by omega) with rfl | rfl | rfl | rfl <;> rfl
theorem x_put_X2_lane (hE : KE (xw ad ta sa ca D cI cT cS) G H0 m cc own nL R) {idx : Nat} {f z : Int} (h0 : 0 ≤ f) (h1 : f < 4) (hl : Cond.fieldLink own idx "BarrelTaps$Sheet" "lane" "I" ∈ lw_gt) (hd : decode cc pc = .ok (.putfield idx, 3)) (k : KW (xw ad ta sa ca D cI cT cS) G H0 m nL (st.1, ur st.2 7 f z) (pc + 3) lo sk) : KW (xw ad ta sa ca D cI cT cS) G H0 m nL st pc lo (.int (iI z) :: .ref (sa f) :: sk) :=
  k_put hE (19 + f.toNat) 2 1 (xW_sheet h0 h1) rfl (by decide) ⟨rfl, rfl, rfl, rfl⟩ uw_X2 tyX2_ok nmX2 (ty := .int) (by decide +kernel) rfl rfl (Nat.le_of_ble_eq_true rfl) (xW_sheetset1 h0 h1) hl hd k
theorem x_get_X2_size (hE : KE (xw ad ta sa ca D cI cT cS) G H0 m cc own nL R) {idx : Nat} {f z : Int} (h0 : 0 ≤ f) (h1 : f < 4) (hz : st.2 8 f = z) (hl : Cond.fieldLink own idx "BarrelTaps$Sheet" "size" "I" ∈ lw_gt) (hd : decode cc pc = .ok (.getfield idx, 3)) (k : KW (xw ad ta sa ca D cI cT cS) G H0 m nL st (pc + 3) lo (.int (iI z) :: sk)) : KW (xw ad ta sa ca D cI cT cS) G H0 m nL st pc lo (.ref (sa f) :: sk) := by
  subst hz; exact k_get hE (19 + f.toNat) 2 2 (xW_sheet h0 h1) rfl (by decide) ⟨rfl, rfl, rfl⟩ uw_X2 rfl hl hd k
theorem xW_sheetset2 {f z : Int} (h0 : 0 ≤ f) (h1 : f < 4) : (xW ad ta sa ca cI cT cS st).set (19 + f.toNat) (sa f, .inr (2, ([.ref (ca f), .int (iI (st.2 7 f)), .int (iI (st.2 8 f))] : List Value).set 2 (.int (iI z)))) = xW ad ta sa ca cI cT cS (st.1, ur st.2 8 f z) := by
  rcases (show f = 0 ∨ f = 1 ∨ f = 2 ∨ f = 3 by omega) with rfl | rfl | rfl | rfl <;> rfl
theorem x_put_X2_size (hE : KE (xw ad ta sa ca D cI cT cS) G H0 m cc own nL R) {idx : Nat} {f z : Int} (h0 : 0 ≤ f) (h1 : f < 4) (hl : Cond.fieldLink own idx "BarrelTaps$Sheet" "size" "I" ∈ lw_gt) (hd : decode cc pc = .ok (.putfield idx, 3)) (k : KW (xw ad ta sa ca D cI cT cS) G H0 m nL (st.1, ur st.2 8 f z) (pc + 3) lo sk) : KW (xw ad ta sa ca D cI cT cS) G H0 m nL st pc lo (.int (iI z) :: .ref (sa f) :: sk) :=
  k_put hE (19 + f.toNat) 2 2 (xW_sheet h0 h1) rfl (by decide) ⟨rfl, rfl, rfl, rfl⟩ uw_X2 tyX2_ok nmX2 (ty := .int) (by decide +kernel) rfl rfl (Nat.le_of_ble_eq_true rfl) (xW_sheetset2 h0 h1) hl hd k
theorem x_ld_cells (hE : KE (xw ad ta sa ca D cI cT cS) G H0 m cc own nL R) {f i z : Int} (hf0 : 0 ≤ f) (hf1 : f < 4) (h0 : 0 ≤ i) (h1 : i < 60) (hz : st.2 (20 + f.toNat) i = z) (hd : decode cc pc = .ok (.iaload, 1)) (k : KW (xw ad ta sa ca D cI cT cS) G H0 m nL st (pc + 1) lo (.int (iI z) :: sk)) : KW (xw ad ta sa ca D cI cT cS) G H0 m nL st pc lo (.int (iI i) :: .ref (ca f) :: sk) :=
  k_iald hE (23 + f.toNat) 0 (xW_cells hf0 hf1) rfl (by decide) h0 h1 (rI_at h0 hz) hd k
theorem xW_cellset {f i z : Int} (h0 : 0 ≤ f) (h1 : f < 4) : (xW ad ta sa ca cI cT cS st).set (23 + f.toNat) (ca f, .inl (cI, 60, .inl (rI (ur st.2 (20 + f.toNat) i z (20 + f.toNat))))) = xW ad ta sa ca cI cT cS (st.1, ur st.2 (20 + f.toNat) i z) := by
  rcases (show f = 0 ∨ f = 1 ∨ f = 2 ∨ f = 3 by omega) with rfl | rfl | rfl | rfl <;> rfl
theorem x_st_cells (hE : KE (xw ad ta sa ca D cI cT cS) G H0 m cc own nL R) {f i z : Int} (hf0 : 0 ≤ f) (hf1 : f < 4) (h0 : 0 ≤ i) (h1 : i < 60) (hd : decode cc pc = .ok (.iastore, 1)) (k : KW (xw ad ta sa ca D cI cT cS) G H0 m nL (st.1, ur st.2 (20 + f.toNat) i z) (pc + 1) lo sk) : KW (xw ad ta sa ca D cI cT cS) G H0 m nL st pc lo (.int (iI z) :: .int (iI i) :: .ref (ca f) :: sk) :=
  k_iast hE (23 + f.toNat) 0 (xW_cells hf0 hf1) rfl (by decide) h0 h1 (by rw [rI_up h0]; exact xW_cellset hf0 hf1) hd k
end XROWS
