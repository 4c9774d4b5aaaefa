def mW (ad : Nat → Nat) (cI cZ : ClassId) (st : Sg) : va_W :=
  [(ad 0, .inr (6, [.int (iI (st.1 9)), .int (iI (st.1 8)), .ref (ad 1), .ref (ad 2), .ref (ad 3), .int (iI (st.1 0)), .int (iI (st.1 1)), .int (iI (st.1 2)), .ref (ad 4), .ref (ad 5), .ref (ad 6), .ref (ad 7), .int (iI (st.1 3)), .ref (ad 8), .int (iI (st.1 4)), .int (iI (st.1 5)), .int (iI (st.1 6)), .int (iI (st.1 10)), .int (iI (st.1 11)), .int (iI (st.1 12)), .int (iI (st.1 13)), .ref (ad 9), .ref (ad 10), .ref (ad 11), .ref (ad 12), .ref (ad 13), .ref (ad 14), .ref (ad 15), .int (iI (st.1 14)), .int (iI (st.1 15)), .int (iI (st.1 16)), .int (iI (st.1 17)), .int (iI (st.1 18)), .int (iI (st.1 19)), .ref (ad 16), .int (iI (st.1 7)), .ref (ad 17), .ref (ad 18)])),
   (ad 1, .inl (cI, 4, .inl (rI (st.2 9)))),
   (ad 2, .inl (cI, 4, .inl (rI (st.2 8)))),
   (ad 3, .inl (cI, 240, .inl (rI (st.2 13)))),
   (ad 4, .inl (cI, 6, .inl (rI (st.2 0)))),
   (ad 5, .inl (cI, 6, .inl (rI (st.2 1)))),
   (ad 6, .inl (cI, 6, .inl (rI (st.2 2)))),
   (ad 7, .inl (cI, 6, .inl (rI (st.2 3)))),
   (ad 8, .inl (cI, 10, .inl (rI (st.2 4)))),
   (ad 9, .inl (cI, 6, .inl (rI (st.2 10)))),
   (ad 10, .inl (cI, 18, .inl (rI (st.2 11)))),
   (ad 11, .inl (cI, 11, .inl (rI (st.2 12)))),
   (ad 12, .inl (cI, 60, .inl (rI (st.2 14)))),
   (ad 13, .inl (cI, 10, .inl (rI (st.2 15)))),
   (ad 14, .inl (cI, 6, .inl (rI (st.2 16)))),
   (ad 15, .inl (cZ, 6, .inl (rI (st.2 17)))),
   (ad 16, .inl (cI, 10, .inl (rI (st.2 18)))),
   (ad 17, .inl (cI, 8, .inl (rI (st.2 5)))),
   (ad 18, .inl (cI, 8, .inl (rI (st.2 6))))]

def mads (ad : Nat → Nat) : List Nat := [ad 0, ad 1, ad 2, ad 3, ad 4, ad 5, ad 6, ad 7, ad 8, ad 9, ad 10, ad 11, ad 12, ad 13, ad 14, ad 15, ad 16, ad 17, ad 18]

abbrev mw (ad : Nat → Nat) (D : va_G) (cI cZ : ClassId) : WD Sg := (mW ad cI cZ, mads ad, D, [(cI, .int), (cZ, .boolean)])

section MROWS
variable {ad : Nat → Nat} {D : va_G} {cI cZ : ClassId} {G : Heap → List Loc → JFrame → Prop} {H0 : Heap} {m : MethodId} {cc : ByteArray} {own : String} {nL : Nat} {R : Room} {st : Sg} {pc : Nat} {lo : List (Nat × Value)} {sk : List Value}

theorem m_get_fault (hE : KE (mw ad D cI cZ) G H0 m cc own nL R) {idx : Nat} {z : Int} (hz : st.1 9 = z) (hl : Cond.fieldLink own idx "BarrelTapsModel" "fault" "I" ∈ lw_gt) (hd : decode cc pc = .ok (.getfield idx, 3)) (k : KW (mw ad D cI cZ) G H0 m nL st (pc + 3) lo (.int (iI z) :: sk)) : KW (mw ad D cI cZ) G H0 m nL st pc lo (.ref (ad 0) :: sk) := by
  subst hz; exact k_get hE 0 6 0 rfl rfl (by decide) ⟨rfl, rfl, rfl⟩ uw_X7 rfl hl hd k
theorem m_put_fault (hE : KE (mw ad D cI cZ) G H0 m cc own nL R) {idx : Nat} {z : Int} (hl : Cond.fieldLink own idx "BarrelTapsModel" "fault" "I" ∈ lw_gt) (hd : decode cc pc = .ok (.putfield idx, 3)) (k : KW (mw ad D cI cZ) G H0 m nL (uv st.1 9 z, st.2) (pc + 3) lo sk) : KW (mw ad D cI cZ) G H0 m nL st pc lo (.int (iI z) :: .ref (ad 0) :: sk) :=
  k_put hE 0 6 0 rfl rfl (by decide) ⟨rfl, rfl, rfl, rfl⟩ uw_X7 tyX7_ok nmX7 (ty := .int) (by decide +kernel) rfl rfl (Nat.le_of_ble_eq_true rfl) rfl hl hd k
theorem m_get_trace (hE : KE (mw ad D cI cZ) G H0 m cc own nL R) {idx : Nat} {z : Int} (hz : st.1 8 = z) (hl : Cond.fieldLink own idx "BarrelTapsModel" "trace" "I" ∈ lw_gt) (hd : decode cc pc = .ok (.getfield idx, 3)) (k : KW (mw ad D cI cZ) G H0 m nL st (pc + 3) lo (.int (iI z) :: sk)) : KW (mw ad D cI cZ) G H0 m nL st pc lo (.ref (ad 0) :: sk) := by
  subst hz; exact k_get hE 0 6 1 rfl rfl (by decide) ⟨rfl, rfl, rfl⟩ uw_X7 rfl hl hd k
theorem m_put_trace (hE : KE (mw ad D cI cZ) G H0 m cc own nL R) {idx : Nat} {z : Int} (hl : Cond.fieldLink own idx "BarrelTapsModel" "trace" "I" ∈ lw_gt) (hd : decode cc pc = .ok (.putfield idx, 3)) (k : KW (mw ad D cI cZ) G H0 m nL (uv st.1 8 z, st.2) (pc + 3) lo sk) : KW (mw ad D cI cZ) G H0 m nL st pc lo (.int (iI z) :: .ref (ad 0) :: sk) :=
  k_put hE 0 6 1 rfl rfl (by decide) ⟨rfl, rfl, rfl, rfl⟩ uw_X7 tyX7_ok nmX7 (ty := .int) (by decide +kernel) rfl rfl (Nat.le_of_ble_eq_true rfl) rfl hl hd k
theorem m_get_sorts (hE : KE (mw ad D cI cZ) G H0 m cc own nL R) {idx : Nat} (hl : Cond.fieldLink own idx "BarrelTapsModel" "sorts" "[I" ∈ lw_gt) (hd : decode cc pc = .ok (.getfield idx, 3)) (k : KW (mw ad D cI cZ) G H0 m nL st (pc + 3) lo (.ref (ad 1) :: sk)) : KW (mw ad D cI cZ) G H0 m nL st pc lo (.ref (ad 0) :: sk) :=
  k_get hE 0 6 2 rfl rfl (by decide) ⟨rfl, rfl, rfl⟩ uw_X7 rfl hl hd k
theorem m_ld_sorts (hE : KE (mw ad D cI cZ) G H0 m cc own nL R) {i z : Int} (h0 : 0 ≤ i) (h1 : i < 4) (hz : st.2 9 i = z) (hd : decode cc pc = .ok (.iaload, 1)) (k : KW (mw ad D cI cZ) G H0 m nL st (pc + 1) lo (.int (iI z) :: sk)) : KW (mw ad D cI cZ) G H0 m nL st pc lo (.int (iI i) :: .ref (ad 1) :: sk) :=
  k_iald hE 1 0 rfl rfl (by decide) h0 h1 (rI_at h0 hz) hd k
theorem m_st_sorts (hE : KE (mw ad D cI cZ) G H0 m cc own nL R) {i z : Int} (h0 : 0 ≤ i) (h1 : i < 4) (hd : decode cc pc = .ok (.iastore, 1)) (k : KW (mw ad D cI cZ) G H0 m nL (st.1, ur st.2 9 i z) (pc + 1) lo sk) : KW (mw ad D cI cZ) G H0 m nL st pc lo (.int (iI z) :: .int (iI i) :: .ref (ad 1) :: sk) :=
  k_iast hE 1 0 rfl rfl (by decide) h0 h1 (by rw [rI_up h0]; rfl) hd k
theorem m_get_sheetLong (hE : KE (mw ad D cI cZ) G H0 m cc own nL R) {idx : Nat} (hl : Cond.fieldLink own idx "BarrelTapsModel" "sheetLong" "[I" ∈ lw_gt) (hd : decode cc pc = .ok (.getfield idx, 3)) (k : KW (mw ad D cI cZ) G H0 m nL st (pc + 3) lo (.ref (ad 2) :: sk)) : KW (mw ad D cI cZ) G H0 m nL st pc lo (.ref (ad 0) :: sk) :=
  k_get hE 0 6 3 rfl rfl (by decide) ⟨rfl, rfl, rfl⟩ uw_X7 rfl hl hd k
theorem m_ld_sheetLong (hE : KE (mw ad D cI cZ) G H0 m cc own nL R) {i z : Int} (h0 : 0 ≤ i) (h1 : i < 4) (hz : st.2 8 i = z) (hd : decode cc pc = .ok (.iaload, 1)) (k : KW (mw ad D cI cZ) G H0 m nL st (pc + 1) lo (.int (iI z) :: sk)) : KW (mw ad D cI cZ) G H0 m nL st pc lo (.int (iI i) :: .ref (ad 2) :: sk) :=
  k_iald hE 2 0 rfl rfl (by decide) h0 h1 (rI_at h0 hz) hd k
theorem m_st_sheetLong (hE : KE (mw ad D cI cZ) G H0 m cc own nL R) {i z : Int} (h0 : 0 ≤ i) (h1 : i < 4) (hd : decode cc pc = .ok (.iastore, 1)) (k : KW (mw ad D cI cZ) G H0 m nL (st.1, ur st.2 8 i z) (pc + 1) lo sk) : KW (mw ad D cI cZ) G H0 m nL st pc lo (.int (iI z) :: .int (iI i) :: .ref (ad 2) :: sk) :=
  k_iast hE 2 0 rfl rfl (by decide) h0 h1 (by rw [rI_up h0]; rfl) hd k
theorem m_get_cells (hE : KE (mw ad D cI cZ) G H0 m cc own nL R) {idx : Nat} (hl : Cond.fieldLink own idx "BarrelTapsModel" "cells" "[I" ∈ lw_gt) (hd : decode cc pc = .ok (.getfield idx, 3)) (k : KW (mw ad D cI cZ) G H0 m nL st (pc + 3) lo (.ref (ad 3) :: sk)) : KW (mw ad D cI cZ) G H0 m nL st pc lo (.ref (ad 0) :: sk) :=
  k_get hE 0 6 4 rfl rfl (by decide) ⟨rfl, rfl, rfl⟩ uw_X7 rfl hl hd k
theorem m_ld_cells (hE : KE (mw ad D cI cZ) G H0 m cc own nL R) {i z : Int} (h0 : 0 ≤ i) (h1 : i < 240) (hz : st.2 13 i = z) (hd : decode cc pc = .ok (.iaload, 1)) (k : KW (mw ad D cI cZ) G H0 m nL st (pc + 1) lo (.int (iI z) :: sk)) : KW (mw ad D cI cZ) G H0 m nL st pc lo (.int (iI i) :: .ref (ad 3) :: sk) :=
  k_iald hE 3 0 rfl rfl (by decide) h0 h1 (rI_at h0 hz) hd k
theorem m_st_cells (hE : KE (mw ad D cI cZ) G H0 m cc own nL R) {i z : Int} (h0 : 0 ≤ i) (h1 : i < 240) (hd : decode cc pc = .ok (.iastore, 1)) (k : KW (mw ad D cI cZ) G H0 m nL (st.1, ur st.2 13 i z) (pc + 1) lo sk) : KW (mw ad D cI cZ) G H0 m nL st pc lo (.int (iI z) :: .int (iI i) :: .ref (ad 3) :: sk) :=
  k_iast hE 3 0 rfl rfl (by decide) h0 h1 (by rw [rI_up h0]; rfl) hd k
theorem m_get_taps (hE : KE (mw ad D cI cZ) G H0 m cc own nL R) {idx : Nat} {z : Int} (hz : st.1 0 = z) (hl : Cond.fieldLink own idx "BarrelTapsModel" "taps" "I" ∈ lw_gt) (hd : decode cc pc = .ok (.getfield idx, 3)) (k : KW (mw ad D cI cZ) G H0 m nL st (pc + 3) lo (.int (iI z) :: sk)) : KW (mw ad D cI cZ) G H0 m nL st pc lo (.ref (ad 0) :: sk) := by
  subst hz; exact k_get hE 0 6 5 rfl rfl (by decide) ⟨rfl, rfl, rfl⟩ uw_X7 rfl hl hd k
theorem m_put_taps (hE : KE (mw ad D cI cZ) G H0 m cc own nL R) {idx : Nat} {z : Int} (hl : Cond.fieldLink own idx "BarrelTapsModel" "taps" "I" ∈ lw_gt) (hd : decode cc pc = .ok (.putfield idx, 3)) (k : KW (mw ad D cI cZ) G H0 m nL (uv st.1 0 z, st.2) (pc + 3) lo sk) : KW (mw ad D cI cZ) G H0 m nL st pc lo (.int (iI z) :: .ref (ad 0) :: sk) :=
  k_put hE 0 6 5 rfl rfl (by decide) ⟨rfl, rfl, rfl, rfl⟩ uw_X7 tyX7_ok nmX7 (ty := .int) (by decide +kernel) rfl rfl (Nat.le_of_ble_eq_true rfl) rfl hl hd k
theorem m_get_cap (hE : KE (mw ad D cI cZ) G H0 m cc own nL R) {idx : Nat} {z : Int} (hz : st.1 1 = z) (hl : Cond.fieldLink own idx "BarrelTapsModel" "cap" "I" ∈ lw_gt) (hd : decode cc pc = .ok (.getfield idx, 3)) (k : KW (mw ad D cI cZ) G H0 m nL st (pc + 3) lo (.int (iI z) :: sk)) : KW (mw ad D cI cZ) G H0 m nL st pc lo (.ref (ad 0) :: sk) := by
  subst hz; exact k_get hE 0 6 6 rfl rfl (by decide) ⟨rfl, rfl, rfl⟩ uw_X7 rfl hl hd k
theorem m_put_cap (hE : KE (mw ad D cI cZ) G H0 m cc own nL R) {idx : Nat} {z : Int} (hl : Cond.fieldLink own idx "BarrelTapsModel" "cap" "I" ∈ lw_gt) (hd : decode cc pc = .ok (.putfield idx, 3)) (k : KW (mw ad D cI cZ) G H0 m nL (uv st.1 1 z, st.2) (pc + 3) lo sk) : KW (mw ad D cI cZ) G H0 m nL st pc lo (.int (iI z) :: .ref (ad 0) :: sk) :=
  k_put hE 0 6 6 rfl rfl (by decide) ⟨rfl, rfl, rfl, rfl⟩ uw_X7 tyX7_ok nmX7 (ty := .int) (by decide +kernel) rfl rfl (Nat.le_of_ble_eq_true rfl) rfl hl hd k
theorem m_get_per (hE : KE (mw ad D cI cZ) G H0 m cc own nL R) {idx : Nat} {z : Int} (hz : st.1 2 = z) (hl : Cond.fieldLink own idx "BarrelTapsModel" "per" "I" ∈ lw_gt) (hd : decode cc pc = .ok (.getfield idx, 3)) (k : KW (mw ad D cI cZ) G H0 m nL st (pc + 3) lo (.int (iI z) :: sk)) : KW (mw ad D cI cZ) G H0 m nL st pc lo (.ref (ad 0) :: sk) := by
  subst hz; exact k_get hE 0 6 7 rfl rfl (by decide) ⟨rfl, rfl, rfl⟩ uw_X7 rfl hl hd k
theorem m_put_per (hE : KE (mw ad D cI cZ) G H0 m cc own nL R) {idx : Nat} {z : Int} (hl : Cond.fieldLink own idx "BarrelTapsModel" "per" "I" ∈ lw_gt) (hd : decode cc pc = .ok (.putfield idx, 3)) (k : KW (mw ad D cI cZ) G H0 m nL (uv st.1 2 z, st.2) (pc + 3) lo sk) : KW (mw ad D cI cZ) G H0 m nL st pc lo (.int (iI z) :: .ref (ad 0) :: sk) :=
  k_put hE 0 6 7 rfl rfl (by decide) ⟨rfl, rfl, rfl, rfl⟩ uw_X7 tyX7_ok nmX7 (ty := .int) (by decide +kernel) rfl rfl (Nat.le_of_ble_eq_true rfl) rfl hl hd k
theorem m_get_kind (hE : KE (mw ad D cI cZ) G H0 m cc own nL R) {idx : Nat} (hl : Cond.fieldLink own idx "BarrelTapsModel" "kind" "[I" ∈ lw_gt) (hd : decode cc pc = .ok (.getfield idx, 3)) (k : KW (mw ad D cI cZ) G H0 m nL st (pc + 3) lo (.ref (ad 4) :: sk)) : KW (mw ad D cI cZ) G H0 m nL st pc lo (.ref (ad 0) :: sk) :=
  k_get hE 0 6 8 rfl rfl (by decide) ⟨rfl, rfl, rfl⟩ uw_X7 rfl hl hd k
theorem m_ld_kind (hE : KE (mw ad D cI cZ) G H0 m cc own nL R) {i z : Int} (h0 : 0 ≤ i) (h1 : i < 6) (hz : st.2 0 i = z) (hd : decode cc pc = .ok (.iaload, 1)) (k : KW (mw ad D cI cZ) G H0 m nL st (pc + 1) lo (.int (iI z) :: sk)) : KW (mw ad D cI cZ) G H0 m nL st pc lo (.int (iI i) :: .ref (ad 4) :: sk) :=
  k_iald hE 4 0 rfl rfl (by decide) h0 h1 (rI_at h0 hz) hd k
theorem m_st_kind (hE : KE (mw ad D cI cZ) G H0 m cc own nL R) {i z : Int} (h0 : 0 ≤ i) (h1 : i < 6) (hd : decode cc pc = .ok (.iastore, 1)) (k : KW (mw ad D cI cZ) G H0 m nL (st.1, ur st.2 0 i z) (pc + 1) lo sk) : KW (mw ad D cI cZ) G H0 m nL st pc lo (.int (iI z) :: .int (iI i) :: .ref (ad 4) :: sk) :=
  k_iast hE 4 0 rfl rfl (by decide) h0 h1 (by rw [rI_up h0]; rfl) hd k
theorem m_get_height (hE : KE (mw ad D cI cZ) G H0 m cc own nL R) {idx : Nat} (hl : Cond.fieldLink own idx "BarrelTapsModel" "height" "[I" ∈ lw_gt) (hd : decode cc pc = .ok (.getfield idx, 3)) (k : KW (mw ad D cI cZ) G H0 m nL st (pc + 3) lo (.ref (ad 5) :: sk)) : KW (mw ad D cI cZ) G H0 m nL st pc lo (.ref (ad 0) :: sk) :=
  k_get hE 0 6 9 rfl rfl (by decide) ⟨rfl, rfl, rfl⟩ uw_X7 rfl hl hd k
theorem m_ld_height (hE : KE (mw ad D cI cZ) G H0 m cc own nL R) {i z : Int} (h0 : 0 ≤ i) (h1 : i < 6) (hz : st.2 1 i = z) (hd : decode cc pc = .ok (.iaload, 1)) (k : KW (mw ad D cI cZ) G H0 m nL st (pc + 1) lo (.int (iI z) :: sk)) : KW (mw ad D cI cZ) G H0 m nL st pc lo (.int (iI i) :: .ref (ad 5) :: sk) :=
  k_iald hE 5 0 rfl rfl (by decide) h0 h1 (rI_at h0 hz) hd k
theorem m_st_height (hE : KE (mw ad D cI cZ) G H0 m cc own nL R) {i z : Int} (h0 : 0 ≤ i) (h1 : i < 6) (hd : decode cc pc = .ok (.iastore, 1)) (k : KW (mw ad D cI cZ) G H0 m nL (st.1, ur st.2 1 i z) (pc + 1) lo sk) : KW (mw ad D cI cZ) G H0 m nL st pc lo (.int (iI z) :: .int (iI i) :: .ref (ad 5) :: sk) :=
  k_iast hE 5 0 rfl rfl (by decide) h0 h1 (by rw [rI_up h0]; rfl) hd k
theorem m_get_need (hE : KE (mw ad D cI cZ) G H0 m cc own nL R) {idx : Nat} (hl : Cond.fieldLink own idx "BarrelTapsModel" "need" "[I" ∈ lw_gt) (hd : decode cc pc = .ok (.getfield idx, 3)) (k : KW (mw ad D cI cZ) G H0 m nL st (pc + 3) lo (.ref (ad 6) :: sk)) : KW (mw ad D cI cZ) G H0 m nL st pc lo (.ref (ad 0) :: sk) :=
  k_get hE 0 6 10 rfl rfl (by decide) ⟨rfl, rfl, rfl⟩ uw_X7 rfl hl hd k
theorem m_ld_need (hE : KE (mw ad D cI cZ) G H0 m cc own nL R) {i z : Int} (h0 : 0 ≤ i) (h1 : i < 6) (hz : st.2 2 i = z) (hd : decode cc pc = .ok (.iaload, 1)) (k : KW (mw ad D cI cZ) G H0 m nL st (pc + 1) lo (.int (iI z) :: sk)) : KW (mw ad D cI cZ) G H0 m nL st pc lo (.int (iI i) :: .ref (ad 6) :: sk) :=
  k_iald hE 6 0 rfl rfl (by decide) h0 h1 (rI_at h0 hz) hd k
theorem m_st_need (hE : KE (mw ad D cI cZ) G H0 m cc own nL R) {i z : Int} (h0 : 0 ≤ i) (h1 : i < 6) (hd : decode cc pc = .ok (.iastore, 1)) (k : KW (mw ad D cI cZ) G H0 m nL (st.1, ur st.2 2 i z) (pc + 1) lo sk) : KW (mw ad D cI cZ) G H0 m nL st pc lo (.int (iI z) :: .int (iI i) :: .ref (ad 6) :: sk) :=
  k_iast hE 6 0 rfl rfl (by decide) h0 h1 (by rw [rI_up h0]; rfl) hd k
theorem m_get_speed (hE : KE (mw ad D cI cZ) G H0 m cc own nL R) {idx : Nat} (hl : Cond.fieldLink own idx "BarrelTapsModel" "speed" "[I" ∈ lw_gt) (hd : decode cc pc = .ok (.getfield idx, 3)) (k : KW (mw ad D cI cZ) G H0 m nL st (pc + 3) lo (.ref (ad 7) :: sk)) : KW (mw ad D cI cZ) G H0 m nL st pc lo (.ref (ad 0) :: sk) :=
  k_get hE 0 6 11 rfl rfl (by decide) ⟨rfl, rfl, rfl⟩ uw_X7 rfl hl hd k
theorem m_ld_speed (hE : KE (mw ad D cI cZ) G H0 m cc own nL R) {i z : Int} (h0 : 0 ≤ i) (h1 : i < 6) (hz : st.2 3 i = z) (hd : decode cc pc = .ok (.iaload, 1)) (k : KW (mw ad D cI cZ) G H0 m nL st (pc + 1) lo (.int (iI z) :: sk)) : KW (mw ad D cI cZ) G H0 m nL st pc lo (.int (iI i) :: .ref (ad 7) :: sk) :=
  k_iald hE 7 0 rfl rfl (by decide) h0 h1 (rI_at h0 hz) hd k
theorem m_st_speed (hE : KE (mw ad D cI cZ) G H0 m cc own nL R) {i z : Int} (h0 : 0 ≤ i) (h1 : i < 6) (hd : decode cc pc = .ok (.iastore, 1)) (k : KW (mw ad D cI cZ) G H0 m nL (st.1, ur st.2 3 i z) (pc + 1) lo sk) : KW (mw ad D cI cZ) G H0 m nL st pc lo (.int (iI z) :: .int (iI i) :: .ref (ad 7) :: sk) :=
  k_iast hE 7 0 rfl rfl (by decide) h0 h1 (by rw [rI_up h0]; rfl) hd k
theorem m_get_first (hE : KE (mw ad D cI cZ) G H0 m cc own nL R) {idx : Nat} {z : Int} (hz : st.1 3 = z) (hl : Cond.fieldLink own idx "BarrelTapsModel" "first" "I" ∈ lw_gt) (hd : decode cc pc = .ok (.getfield idx, 3)) (k : KW (mw ad D cI cZ) G H0 m nL st (pc + 3) lo (.int (iI z) :: sk)) : KW (mw ad D cI cZ) G H0 m nL st pc lo (.ref (ad 0) :: sk) := by
  subst hz; exact k_get hE 0 6 12 rfl rfl (by decide) ⟨rfl, rfl, rfl⟩ uw_X7 rfl hl hd k
theorem m_put_first (hE : KE (mw ad D cI cZ) G H0 m cc own nL R) {idx : Nat} {z : Int} (hl : Cond.fieldLink own idx "BarrelTapsModel" "first" "I" ∈ lw_gt) (hd : decode cc pc = .ok (.putfield idx, 3)) (k : KW (mw ad D cI cZ) G H0 m nL (uv st.1 3 z, st.2) (pc + 3) lo sk) : KW (mw ad D cI cZ) G H0 m nL st pc lo (.int (iI z) :: .ref (ad 0) :: sk) :=
  k_put hE 0 6 12 rfl rfl (by decide) ⟨rfl, rfl, rfl, rfl⟩ uw_X7 tyX7_ok nmX7 (ty := .int) (by decide +kernel) rfl rfl (Nat.le_of_ble_eq_true rfl) rfl hl hd k
theorem m_get_rainOf (hE : KE (mw ad D cI cZ) G H0 m cc own nL R) {idx : Nat} (hl : Cond.fieldLink own idx "BarrelTapsModel" "rainOf" "[I" ∈ lw_gt) (hd : decode cc pc = .ok (.getfield idx, 3)) (k : KW (mw ad D cI cZ) G H0 m nL st (pc + 3) lo (.ref (ad 8) :: sk)) : KW (mw ad D cI cZ) G H0 m nL st pc lo (.ref (ad 0) :: sk) :=
  k_get hE 0 6 13 rfl rfl (by decide) ⟨rfl, rfl, rfl⟩ uw_X7 rfl hl hd k
theorem m_ld_rainOf (hE : KE (mw ad D cI cZ) G H0 m cc own nL R) {i z : Int} (h0 : 0 ≤ i) (h1 : i < 10) (hz : st.2 4 i = z) (hd : decode cc pc = .ok (.iaload, 1)) (k : KW (mw ad D cI cZ) G H0 m nL st (pc + 1) lo (.int (iI z) :: sk)) : KW (mw ad D cI cZ) G H0 m nL st pc lo (.int (iI i) :: .ref (ad 8) :: sk) :=
  k_iald hE 8 0 rfl rfl (by decide) h0 h1 (rI_at h0 hz) hd k
theorem m_st_rainOf (hE : KE (mw ad D cI cZ) G H0 m cc own nL R) {i z : Int} (h0 : 0 ≤ i) (h1 : i < 10) (hd : decode cc pc = .ok (.iastore, 1)) (k : KW (mw ad D cI cZ) G H0 m nL (st.1, ur st.2 4 i z) (pc + 1) lo sk) : KW (mw ad D cI cZ) G H0 m nL st pc lo (.int (iI z) :: .int (iI i) :: .ref (ad 8) :: sk) :=
  k_iast hE 8 0 rfl rfl (by decide) h0 h1 (by rw [rI_up h0]; rfl) hd k
theorem m_get_lawNow (hE : KE (mw ad D cI cZ) G H0 m cc own nL R) {idx : Nat} {z : Int} (hz : st.1 4 = z) (hl : Cond.fieldLink own idx "BarrelTapsModel" "lawNow" "I" ∈ lw_gt) (hd : decode cc pc = .ok (.getfield idx, 3)) (k : KW (mw ad D cI cZ) G H0 m nL st (pc + 3) lo (.int (iI z) :: sk)) : KW (mw ad D cI cZ) G H0 m nL st pc lo (.ref (ad 0) :: sk) := by
  subst hz; exact k_get hE 0 6 14 rfl rfl (by decide) ⟨rfl, rfl, rfl⟩ uw_X7 rfl hl hd k
theorem m_put_lawNow (hE : KE (mw ad D cI cZ) G H0 m cc own nL R) {idx : Nat} {z : Int} (hl : Cond.fieldLink own idx "BarrelTapsModel" "lawNow" "I" ∈ lw_gt) (hd : decode cc pc = .ok (.putfield idx, 3)) (k : KW (mw ad D cI cZ) G H0 m nL (uv st.1 4 z, st.2) (pc + 3) lo sk) : KW (mw ad D cI cZ) G H0 m nL st pc lo (.int (iI z) :: .ref (ad 0) :: sk) :=
  k_put hE 0 6 14 rfl rfl (by decide) ⟨rfl, rfl, rfl, rfl⟩ uw_X7 tyX7_ok nmX7 (ty := .int) (by decide +kernel) rfl rfl (Nat.le_of_ble_eq_true rfl) rfl hl hd k
theorem m_get_leakAt (hE : KE (mw ad D cI cZ) G H0 m cc own nL R) {idx : Nat} {z : Int} (hz : st.1 5 = z) (hl : Cond.fieldLink own idx "BarrelTapsModel" "leakAt" "I" ∈ lw_gt) (hd : decode cc pc = .ok (.getfield idx, 3)) (k : KW (mw ad D cI cZ) G H0 m nL st (pc + 3) lo (.int (iI z) :: sk)) : KW (mw ad D cI cZ) G H0 m nL st pc lo (.ref (ad 0) :: sk) := by
  subst hz; exact k_get hE 0 6 15 rfl rfl (by decide) ⟨rfl, rfl, rfl⟩ uw_X7 rfl hl hd k
theorem m_put_leakAt (hE : KE (mw ad D cI cZ) G H0 m cc own nL R) {idx : Nat} {z : Int} (hl : Cond.fieldLink own idx "BarrelTapsModel" "leakAt" "I" ∈ lw_gt) (hd : decode cc pc = .ok (.putfield idx, 3)) (k : KW (mw ad D cI cZ) G H0 m nL (uv st.1 5 z, st.2) (pc + 3) lo sk) : KW (mw ad D cI cZ) G H0 m nL st pc lo (.int (iI z) :: .ref (ad 0) :: sk) :=
  k_put hE 0 6 15 rfl rfl (by decide) ⟨rfl, rfl, rfl, rfl⟩ uw_X7 tyX7_ok nmX7 (ty := .int) (by decide +kernel) rfl rfl (Nat.le_of_ble_eq_true rfl) rfl hl hd k
theorem m_get_leaks (hE : KE (mw ad D cI cZ) G H0 m cc own nL R) {idx : Nat} {z : Int} (hz : st.1 6 = z) (hl : Cond.fieldLink own idx "BarrelTapsModel" "leaks" "I" ∈ lw_gt) (hd : decode cc pc = .ok (.getfield idx, 3)) (k : KW (mw ad D cI cZ) G H0 m nL st (pc + 3) lo (.int (iI z) :: sk)) : KW (mw ad D cI cZ) G H0 m nL st pc lo (.ref (ad 0) :: sk) := by
  subst hz; exact k_get hE 0 6 16 rfl rfl (by decide) ⟨rfl, rfl, rfl⟩ uw_X7 rfl hl hd k
theorem m_put_leaks (hE : KE (mw ad D cI cZ) G H0 m cc own nL R) {idx : Nat} {z : Int} (hl : Cond.fieldLink own idx "BarrelTapsModel" "leaks" "I" ∈ lw_gt) (hd : decode cc pc = .ok (.putfield idx, 3)) (k : KW (mw ad D cI cZ) G H0 m nL (uv st.1 6 z, st.2) (pc + 3) lo sk) : KW (mw ad D cI cZ) G H0 m nL st pc lo (.int (iI z) :: .ref (ad 0) :: sk) :=
  k_put hE 0 6 16 rfl rfl (by decide) ⟨rfl, rfl, rfl, rfl⟩ uw_X7 tyX7_ok nmX7 (ty := .int) (by decide +kernel) rfl rfl (Nat.le_of_ble_eq_true rfl) rfl hl hd k
theorem m_get_at (hE : KE (mw ad D cI cZ) G H0 m cc own nL R) {idx : Nat} {z : Int} (hz : st.1 10 = z) (hl : Cond.fieldLink own idx "BarrelTapsModel" "at" "I" ∈ lw_gt) (hd : decode cc pc = .ok (.getfield idx, 3)) (k : KW (mw ad D cI cZ) G H0 m nL st (pc + 3) lo (.int (iI z) :: sk)) : KW (mw ad D cI cZ) G H0 m nL st pc lo (.ref (ad 0) :: sk) := by
  subst hz; exact k_get hE 0 6 17 rfl rfl (by decide) ⟨rfl, rfl, rfl⟩ uw_X7 rfl hl hd k
theorem m_put_at (hE : KE (mw ad D cI cZ) G H0 m cc own nL R) {idx : Nat} {z : Int} (hl : Cond.fieldLink own idx "BarrelTapsModel" "at" "I" ∈ lw_gt) (hd : decode cc pc = .ok (.putfield idx, 3)) (k : KW (mw ad D cI cZ) G H0 m nL (uv st.1 10 z, st.2) (pc + 3) lo sk) : KW (mw ad D cI cZ) G H0 m nL st pc lo (.int (iI z) :: .ref (ad 0) :: sk) :=
  k_put hE 0 6 17 rfl rfl (by decide) ⟨rfl, rfl, rfl, rfl⟩ uw_X7 tyX7_ok nmX7 (ty := .int) (by decide +kernel) rfl rfl (Nat.le_of_ble_eq_true rfl) rfl hl hd k
theorem m_get_readCap (hE : KE (mw ad D cI cZ) G H0 m cc own nL R) {idx : Nat} {z : Int} (hz : st.1 11 = z) (hl : Cond.fieldLink own idx "BarrelTapsModel" "readCap" "I" ∈ lw_gt) (hd : decode cc pc = .ok (.getfield idx, 3)) (k : KW (mw ad D cI cZ) G H0 m nL st (pc + 3) lo (.int (iI z) :: sk)) : KW (mw ad D cI cZ) G H0 m nL st pc lo (.ref (ad 0) :: sk) := by
  subst hz; exact k_get hE 0 6 18 rfl rfl (by decide) ⟨rfl, rfl, rfl⟩ uw_X7 rfl hl hd k
theorem m_put_readCap (hE : KE (mw ad D cI cZ) G H0 m cc own nL R) {idx : Nat} {z : Int} (hl : Cond.fieldLink own idx "BarrelTapsModel" "readCap" "I" ∈ lw_gt) (hd : decode cc pc = .ok (.putfield idx, 3)) (k : KW (mw ad D cI cZ) G H0 m nL (uv st.1 11 z, st.2) (pc + 3) lo sk) : KW (mw ad D cI cZ) G H0 m nL st pc lo (.int (iI z) :: .ref (ad 0) :: sk) :=
  k_put hE 0 6 18 rfl rfl (by decide) ⟨rfl, rfl, rfl, rfl⟩ uw_X7 tyX7_ok nmX7 (ty := .int) (by decide +kernel) rfl rfl (Nat.le_of_ble_eq_true rfl) rfl hl hd k
theorem m_get_readPer (hE : KE (mw ad D cI cZ) G H0 m cc own nL R) {idx : Nat} {z : Int} (hz : st.1 12 = z) (hl : Cond.fieldLink own idx "BarrelTapsModel" "readPer" "I" ∈ lw_gt) (hd : decode cc pc = .ok (.getfield idx, 3)) (k : KW (mw ad D cI cZ) G H0 m nL st (pc + 3) lo (.int (iI z) :: sk)) : KW (mw ad D cI cZ) G H0 m nL st pc lo (.ref (ad 0) :: sk) := by
  subst hz; exact k_get hE 0 6 19 rfl rfl (by decide) ⟨rfl, rfl, rfl⟩ uw_X7 rfl hl hd k
theorem m_put_readPer (hE : KE (mw ad D cI cZ) G H0 m cc own nL R) {idx : Nat} {z : Int} (hl : Cond.fieldLink own idx "BarrelTapsModel" "readPer" "I" ∈ lw_gt) (hd : decode cc pc = .ok (.putfield idx, 3)) (k : KW (mw ad D cI cZ) G H0 m nL (uv st.1 12 z, st.2) (pc + 3) lo sk) : KW (mw ad D cI cZ) G H0 m nL st pc lo (.int (iI z) :: .ref (ad 0) :: sk) :=
  k_put hE 0 6 19 rfl rfl (by decide) ⟨rfl, rfl, rfl, rfl⟩ uw_X7 tyX7_ok nmX7 (ty := .int) (by decide +kernel) rfl rfl (Nat.le_of_ble_eq_true rfl) rfl hl hd k
theorem m_get_readTaps (hE : KE (mw ad D cI cZ) G H0 m cc own nL R) {idx : Nat} {z : Int} (hz : st.1 13 = z) (hl : Cond.fieldLink own idx "BarrelTapsModel" "readTaps" "I" ∈ lw_gt) (hd : decode cc pc = .ok (.getfield idx, 3)) (k : KW (mw ad D cI cZ) G H0 m nL st (pc + 3) lo (.int (iI z) :: sk)) : KW (mw ad D cI cZ) G H0 m nL st pc lo (.ref (ad 0) :: sk) := by
  subst hz; exact k_get hE 0 6 20 rfl rfl (by decide) ⟨rfl, rfl, rfl⟩ uw_X7 rfl hl hd k
theorem m_put_readTaps (hE : KE (mw ad D cI cZ) G H0 m cc own nL R) {idx : Nat} {z : Int} (hl : Cond.fieldLink own idx "BarrelTapsModel" "readTaps" "I" ∈ lw_gt) (hd : decode cc pc = .ok (.putfield idx, 3)) (k : KW (mw ad D cI cZ) G H0 m nL (uv st.1 13 z, st.2) (pc + 3) lo sk) : KW (mw ad D cI cZ) G H0 m nL st pc lo (.int (iI z) :: .ref (ad 0) :: sk) :=
  k_put hE 0 6 20 rfl rfl (by decide) ⟨rfl, rfl, rfl, rfl⟩ uw_X7 tyX7_ok nmX7 (ty := .int) (by decide +kernel) rfl rfl (Nat.le_of_ble_eq_true rfl) rfl hl hd k
theorem m_get_readKind (hE : KE (mw ad D cI cZ) G H0 m cc own nL R) {idx : Nat} (hl : Cond.fieldLink own idx "BarrelTapsModel" "readKind" "[I" ∈ lw_gt) (hd : decode cc pc = .ok (.getfield idx, 3)) (k : KW (mw ad D cI cZ) G H0 m nL st (pc + 3) lo (.ref (ad 9) :: sk)) : KW (mw ad D cI cZ) G H0 m nL st pc lo (.ref (ad 0) :: sk) :=
  k_get hE 0 6 21 rfl rfl (by decide) ⟨rfl, rfl, rfl⟩ uw_X7 rfl hl hd k
theorem m_ld_readKind (hE : KE (mw ad D cI cZ) G H0 m cc own nL R) {i z : Int} (h0 : 0 ≤ i) (h1 : i < 6) (hz : st.2 10 i = z) (hd : decode cc pc = .ok (.iaload, 1)) (k : KW (mw ad D cI cZ) G H0 m nL st (pc + 1) lo (.int (iI z) :: sk)) : KW (mw ad D cI cZ) G H0 m nL st pc lo (.int (iI i) :: .ref (ad 9) :: sk) :=
  k_iald hE 9 0 rfl rfl (by decide) h0 h1 (rI_at h0 hz) hd k
theorem m_st_readKind (hE : KE (mw ad D cI cZ) G H0 m cc own nL R) {i z : Int} (h0 : 0 ≤ i) (h1 : i < 6) (hd : decode cc pc = .ok (.iastore, 1)) (k : KW (mw ad D cI cZ) G H0 m nL (st.1, ur st.2 10 i z) (pc + 1) lo sk) : KW (mw ad D cI cZ) G H0 m nL st pc lo (.int (iI z) :: .int (iI i) :: .ref (ad 9) :: sk) :=
  k_iast hE 9 0 rfl rfl (by decide) h0 h1 (by rw [rI_up h0]; rfl) hd k
theorem m_get_readDigits (hE : KE (mw ad D cI cZ) G H0 m cc own nL R) {idx : Nat} (hl : Cond.fieldLink own idx "BarrelTapsModel" "readDigits" "[I" ∈ lw_gt) (hd : decode cc pc = .ok (.getfield idx, 3)) (k : KW (mw ad D cI cZ) G H0 m nL st (pc + 3) lo (.ref (ad 10) :: sk)) : KW (mw ad D cI cZ) G H0 m nL st pc lo (.ref (ad 0) :: sk) :=
  k_get hE 0 6 22 rfl rfl (by decide) ⟨rfl, rfl, rfl⟩ uw_X7 rfl hl hd k
theorem m_ld_readDigits (hE : KE (mw ad D cI cZ) G H0 m cc own nL R) {i z : Int} (h0 : 0 ≤ i) (h1 : i < 18) (hz : st.2 11 i = z) (hd : decode cc pc = .ok (.iaload, 1)) (k : KW (mw ad D cI cZ) G H0 m nL st (pc + 1) lo (.int (iI z) :: sk)) : KW (mw ad D cI cZ) G H0 m nL st pc lo (.int (iI i) :: .ref (ad 10) :: sk) :=
  k_iald hE 10 0 rfl rfl (by decide) h0 h1 (rI_at h0 hz) hd k
theorem m_st_readDigits (hE : KE (mw ad D cI cZ) G H0 m cc own nL R) {i z : Int} (h0 : 0 ≤ i) (h1 : i < 18) (hd : decode cc pc = .ok (.iastore, 1)) (k : KW (mw ad D cI cZ) G H0 m nL (st.1, ur st.2 11 i z) (pc + 1) lo sk) : KW (mw ad D cI cZ) G H0 m nL st pc lo (.int (iI z) :: .int (iI i) :: .ref (ad 10) :: sk) :=
  k_iast hE 10 0 rfl rfl (by decide) h0 h1 (by rw [rI_up h0]; rfl) hd k
theorem m_get_levels (hE : KE (mw ad D cI cZ) G H0 m cc own nL R) {idx : Nat} (hl : Cond.fieldLink own idx "BarrelTapsModel" "levels" "[I" ∈ lw_gt) (hd : decode cc pc = .ok (.getfield idx, 3)) (k : KW (mw ad D cI cZ) G H0 m nL st (pc + 3) lo (.ref (ad 11) :: sk)) : KW (mw ad D cI cZ) G H0 m nL st pc lo (.ref (ad 0) :: sk) :=
  k_get hE 0 6 23 rfl rfl (by decide) ⟨rfl, rfl, rfl⟩ uw_X7 rfl hl hd k
theorem m_ld_levels (hE : KE (mw ad D cI cZ) G H0 m cc own nL R) {i z : Int} (h0 : 0 ≤ i) (h1 : i < 11) (hz : st.2 12 i = z) (hd : decode cc pc = .ok (.iaload, 1)) (k : KW (mw ad D cI cZ) G H0 m nL st (pc + 1) lo (.int (iI z) :: sk)) : KW (mw ad D cI cZ) G H0 m nL st pc lo (.int (iI i) :: .ref (ad 11) :: sk) :=
  k_iald hE 11 0 rfl rfl (by decide) h0 h1 (rI_at h0 hz) hd k
theorem m_st_levels (hE : KE (mw ad D cI cZ) G H0 m cc own nL R) {i z : Int} (h0 : 0 ≤ i) (h1 : i < 11) (hd : decode cc pc = .ok (.iastore, 1)) (k : KW (mw ad D cI cZ) G H0 m nL (st.1, ur st.2 12 i z) (pc + 1) lo sk) : KW (mw ad D cI cZ) G H0 m nL st pc lo (.int (iI z) :: .int (iI i) :: .ref (ad 11) :: sk) :=
  k_iast hE 11 0 rfl rfl (by decide) h0 h1 (by rw [rI_up h0]; rfl) hd k
theorem m_get_gotOn (hE : KE (mw ad D cI cZ) G H0 m cc own nL R) {idx : Nat} (hl : Cond.fieldLink own idx "BarrelTapsModel" "gotOn" "[I" ∈ lw_gt) (hd : decode cc pc = .ok (.getfield idx, 3)) (k : KW (mw ad D cI cZ) G H0 m nL st (pc + 3) lo (.ref (ad 12) :: sk)) : KW (mw ad D cI cZ) G H0 m nL st pc lo (.ref (ad 0) :: sk) :=
  k_get hE 0 6 24 rfl rfl (by decide) ⟨rfl, rfl, rfl⟩ uw_X7 rfl hl hd k
theorem m_ld_gotOn (hE : KE (mw ad D cI cZ) G H0 m cc own nL R) {i z : Int} (h0 : 0 ≤ i) (h1 : i < 60) (hz : st.2 14 i = z) (hd : decode cc pc = .ok (.iaload, 1)) (k : KW (mw ad D cI cZ) G H0 m nL st (pc + 1) lo (.int (iI z) :: sk)) : KW (mw ad D cI cZ) G H0 m nL st pc lo (.int (iI i) :: .ref (ad 12) :: sk) :=
  k_iald hE 12 0 rfl rfl (by decide) h0 h1 (rI_at h0 hz) hd k
theorem m_st_gotOn (hE : KE (mw ad D cI cZ) G H0 m cc own nL R) {i z : Int} (h0 : 0 ≤ i) (h1 : i < 60) (hd : decode cc pc = .ok (.iastore, 1)) (k : KW (mw ad D cI cZ) G H0 m nL (st.1, ur st.2 14 i z) (pc + 1) lo sk) : KW (mw ad D cI cZ) G H0 m nL st pc lo (.int (iI z) :: .int (iI i) :: .ref (ad 12) :: sk) :=
  k_iast hE 12 0 rfl rfl (by decide) h0 h1 (by rw [rI_up h0]; rfl) hd k
theorem m_get_overOn (hE : KE (mw ad D cI cZ) G H0 m cc own nL R) {idx : Nat} (hl : Cond.fieldLink own idx "BarrelTapsModel" "overOn" "[I" ∈ lw_gt) (hd : decode cc pc = .ok (.getfield idx, 3)) (k : KW (mw ad D cI cZ) G H0 m nL st (pc + 3) lo (.ref (ad 13) :: sk)) : KW (mw ad D cI cZ) G H0 m nL st pc lo (.ref (ad 0) :: sk) :=
  k_get hE 0 6 25 rfl rfl (by decide) ⟨rfl, rfl, rfl⟩ uw_X7 rfl hl hd k
theorem m_ld_overOn (hE : KE (mw ad D cI cZ) G H0 m cc own nL R) {i z : Int} (h0 : 0 ≤ i) (h1 : i < 10) (hz : st.2 15 i = z) (hd : decode cc pc = .ok (.iaload, 1)) (k : KW (mw ad D cI cZ) G H0 m nL st (pc + 1) lo (.int (iI z) :: sk)) : KW (mw ad D cI cZ) G H0 m nL st pc lo (.int (iI i) :: .ref (ad 13) :: sk) :=
  k_iald hE 13 0 rfl rfl (by decide) h0 h1 (rI_at h0 hz) hd k
theorem m_st_overOn (hE : KE (mw ad D cI cZ) G H0 m cc own nL R) {i z : Int} (h0 : 0 ≤ i) (h1 : i < 10) (hd : decode cc pc = .ok (.iastore, 1)) (k : KW (mw ad D cI cZ) G H0 m nL (st.1, ur st.2 15 i z) (pc + 1) lo sk) : KW (mw ad D cI cZ) G H0 m nL st pc lo (.int (iI z) :: .int (iI i) :: .ref (ad 13) :: sk) :=
  k_iast hE 13 0 rfl rfl (by decide) h0 h1 (by rw [rI_up h0]; rfl) hd k
theorem m_get_drawn (hE : KE (mw ad D cI cZ) G H0 m cc own nL R) {idx : Nat} (hl : Cond.fieldLink own idx "BarrelTapsModel" "drawn" "[I" ∈ lw_gt) (hd : decode cc pc = .ok (.getfield idx, 3)) (k : KW (mw ad D cI cZ) G H0 m nL st (pc + 3) lo (.ref (ad 14) :: sk)) : KW (mw ad D cI cZ) G H0 m nL st pc lo (.ref (ad 0) :: sk) :=
  k_get hE 0 6 26 rfl rfl (by decide) ⟨rfl, rfl, rfl⟩ uw_X7 rfl hl hd k
theorem m_ld_drawn (hE : KE (mw ad D cI cZ) G H0 m cc own nL R) {i z : Int} (h0 : 0 ≤ i) (h1 : i < 6) (hz : st.2 16 i = z) (hd : decode cc pc = .ok (.iaload, 1)) (k : KW (mw ad D cI cZ) G H0 m nL st (pc + 1) lo (.int (iI z) :: sk)) : KW (mw ad D cI cZ) G H0 m nL st pc lo (.int (iI i) :: .ref (ad 14) :: sk) :=
  k_iald hE 14 0 rfl rfl (by decide) h0 h1 (rI_at h0 hz) hd k
theorem m_st_drawn (hE : KE (mw ad D cI cZ) G H0 m cc own nL R) {i z : Int} (h0 : 0 ≤ i) (h1 : i < 6) (hd : decode cc pc = .ok (.iastore, 1)) (k : KW (mw ad D cI cZ) G H0 m nL (st.1, ur st.2 16 i z) (pc + 1) lo sk) : KW (mw ad D cI cZ) G H0 m nL st pc lo (.int (iI z) :: .int (iI i) :: .ref (ad 14) :: sk) :=
  k_iast hE 14 0 rfl rfl (by decide) h0 h1 (by rw [rI_up h0]; rfl) hd k
theorem m_get_isDone (hE : KE (mw ad D cI cZ) G H0 m cc own nL R) {idx : Nat} (hl : Cond.fieldLink own idx "BarrelTapsModel" "isDone" "[Z" ∈ lw_gt) (hd : decode cc pc = .ok (.getfield idx, 3)) (k : KW (mw ad D cI cZ) G H0 m nL st (pc + 3) lo (.ref (ad 15) :: sk)) : KW (mw ad D cI cZ) G H0 m nL st pc lo (.ref (ad 0) :: sk) :=
  k_get hE 0 6 27 rfl rfl (by decide) ⟨rfl, rfl, rfl⟩ uw_X7 rfl hl hd k
theorem m_ld_isDone (hE : KE (mw ad D cI cZ) G H0 m cc own nL R) {i z : Int} (h0 : 0 ≤ i) (h1 : i < 6) (hz : st.2 17 i = z) (hd : decode cc pc = .ok (.baload, 1)) (k : KW (mw ad D cI cZ) G H0 m nL st (pc + 1) lo (.int (iI z) :: sk)) : KW (mw ad D cI cZ) G H0 m nL st pc lo (.int (iI i) :: .ref (ad 15) :: sk) :=
  k_zald hE 15 1 rfl rfl (by decide) h0 h1 (rI_at h0 hz) hd k
theorem m_st_isDone (hE : KE (mw ad D cI cZ) G H0 m cc own nL R) {i z : Int} (h0 : 0 ≤ i) (h1 : i < 6) (hz : z = 0 ∨ z = 1) (hd : decode cc pc = .ok (.bastore, 1)) (k : KW (mw ad D cI cZ) G H0 m nL (st.1, ur st.2 17 i z) (pc + 1) lo sk) : KW (mw ad D cI cZ) G H0 m nL st pc lo (.int (iI z) :: .int (iI i) :: .ref (ad 15) :: sk) :=
  k_zast hE 15 1 rfl rfl (by decide) h0 h1 (by rcases hz with rfl | rfl <;> rfl) (by rw [rI_up h0]; rfl) hd k
theorem m_get_water (hE : KE (mw ad D cI cZ) G H0 m cc own nL R) {idx : Nat} {z : Int} (hz : st.1 14 = z) (hl : Cond.fieldLink own idx "BarrelTapsModel" "water" "I" ∈ lw_gt) (hd : decode cc pc = .ok (.getfield idx, 3)) (k : KW (mw ad D cI cZ) G H0 m nL st (pc + 3) lo (.int (iI z) :: sk)) : KW (mw ad D cI cZ) G H0 m nL st pc lo (.ref (ad 0) :: sk) := by
  subst hz; exact k_get hE 0 6 28 rfl rfl (by decide) ⟨rfl, rfl, rfl⟩ uw_X7 rfl hl hd k
theorem m_put_water (hE : KE (mw ad D cI cZ) G H0 m cc own nL R) {idx : Nat} {z : Int} (hl : Cond.fieldLink own idx "BarrelTapsModel" "water" "I" ∈ lw_gt) (hd : decode cc pc = .ok (.putfield idx, 3)) (k : KW (mw ad D cI cZ) G H0 m nL (uv st.1 14 z, st.2) (pc + 3) lo sk) : KW (mw ad D cI cZ) G H0 m nL st pc lo (.int (iI z) :: .ref (ad 0) :: sk) :=
  k_put hE 0 6 28 rfl rfl (by decide) ⟨rfl, rfl, rfl, rfl⟩ uw_X7 tyX7_ok nmX7 (ty := .int) (by decide +kernel) rfl rfl (Nat.le_of_ble_eq_true rfl) rfl hl hd k
theorem m_get_isJust (hE : KE (mw ad D cI cZ) G H0 m cc own nL R) {idx : Nat} {z : Int} (hz : st.1 15 = z) (hl : Cond.fieldLink own idx "BarrelTapsModel" "isJust" "Z" ∈ lw_gt) (hd : decode cc pc = .ok (.getfield idx, 3)) (k : KW (mw ad D cI cZ) G H0 m nL st (pc + 3) lo (.int (iI z) :: sk)) : KW (mw ad D cI cZ) G H0 m nL st pc lo (.ref (ad 0) :: sk) := by
  subst hz; exact k_get hE 0 6 29 rfl rfl (by decide) ⟨rfl, rfl, rfl⟩ uw_X7 rfl hl hd k
theorem m_put_isJust (hE : KE (mw ad D cI cZ) G H0 m cc own nL R) {idx : Nat} {z : Int} (hz : z = 0 ∨ z = 1) (hl : Cond.fieldLink own idx "BarrelTapsModel" "isJust" "Z" ∈ lw_gt) (hd : decode cc pc = .ok (.putfield idx, 3)) (k : KW (mw ad D cI cZ) G H0 m nL (uv st.1 15 z, st.2) (pc + 3) lo sk) : KW (mw ad D cI cZ) G H0 m nL st pc lo (.int (iI z) :: .ref (ad 0) :: sk) :=
  k_put hE 0 6 29 rfl rfl (by decide) ⟨rfl, rfl, rfl, rfl⟩ uw_X7 tyX7_ok nmX7 (ty := .boolean) (by decide +kernel) (by rcases hz with rfl | rfl <;> rfl) (by rcases hz with rfl | rfl <;> rfl) (Nat.le_of_ble_eq_true rfl) rfl hl hd k
theorem m_get_thiefDay (hE : KE (mw ad D cI cZ) G H0 m cc own nL R) {idx : Nat} {z : Int} (hz : st.1 16 = z) (hl : Cond.fieldLink own idx "BarrelTapsModel" "thiefDay" "I" ∈ lw_gt) (hd : decode cc pc = .ok (.getfield idx, 3)) (k : KW (mw ad D cI cZ) G H0 m nL st (pc + 3) lo (.int (iI z) :: sk)) : KW (mw ad D cI cZ) G H0 m nL st pc lo (.ref (ad 0) :: sk) := by
  subst hz; exact k_get hE 0 6 30 rfl rfl (by decide) ⟨rfl, rfl, rfl⟩ uw_X7 rfl hl hd k
theorem m_put_thiefDay (hE : KE (mw ad D cI cZ) G H0 m cc own nL R) {idx : Nat} {z : Int} (hl : Cond.fieldLink own idx "BarrelTapsModel" "thiefDay" "I" ∈ lw_gt) (hd : decode cc pc = .ok (.putfield idx, 3)) (k : KW (mw ad D cI cZ) G H0 m nL (uv st.1 16 z, st.2) (pc + 3) lo sk) : KW (mw ad D cI cZ) G H0 m nL st pc lo (.int (iI z) :: .ref (ad 0) :: sk) :=
  k_put hE 0 6 30 rfl rfl (by decide) ⟨rfl, rfl, rfl, rfl⟩ uw_X7 tyX7_ok nmX7 (ty := .int) (by decide +kernel) rfl rfl (Nat.le_of_ble_eq_true rfl) rfl hl hd k
theorem m_get_thiefTap (hE : KE (mw ad D cI cZ) G H0 m cc own nL R) {idx : Nat} {z : Int} (hz : st.1 17 = z) (hl : Cond.fieldLink own idx "BarrelTapsModel" "thiefTap" "I" ∈ lw_gt) (hd : decode cc pc = .ok (.getfield idx, 3)) (k : KW (mw ad D cI cZ) G H0 m nL st (pc + 3) lo (.int (iI z) :: sk)) : KW (mw ad D cI cZ) G H0 m nL st pc lo (.ref (ad 0) :: sk) := by
  subst hz; exact k_get hE 0 6 31 rfl rfl (by decide) ⟨rfl, rfl, rfl⟩ uw_X7 rfl hl hd k
theorem m_put_thiefTap (hE : KE (mw ad D cI cZ) G H0 m cc own nL R) {idx : Nat} {z : Int} (hl : Cond.fieldLink own idx "BarrelTapsModel" "thiefTap" "I" ∈ lw_gt) (hd : decode cc pc = .ok (.putfield idx, 3)) (k : KW (mw ad D cI cZ) G H0 m nL (uv st.1 17 z, st.2) (pc + 3) lo sk) : KW (mw ad D cI cZ) G H0 m nL st pc lo (.int (iI z) :: .ref (ad 0) :: sk) :=
  k_put hE 0 6 31 rfl rfl (by decide) ⟨rfl, rfl, rfl, rfl⟩ uw_X7 tyX7_ok nmX7 (ty := .int) (by decide +kernel) rfl rfl (Nat.le_of_ble_eq_true rfl) rfl hl hd k
theorem m_get_thiefMuch (hE : KE (mw ad D cI cZ) G H0 m cc own nL R) {idx : Nat} {z : Int} (hz : st.1 18 = z) (hl : Cond.fieldLink own idx "BarrelTapsModel" "thiefMuch" "I" ∈ lw_gt) (hd : decode cc pc = .ok (.getfield idx, 3)) (k : KW (mw ad D cI cZ) G H0 m nL st (pc + 3) lo (.int (iI z) :: sk)) : KW (mw ad D cI cZ) G H0 m nL st pc lo (.ref (ad 0) :: sk) := by
  subst hz; exact k_get hE 0 6 32 rfl rfl (by decide) ⟨rfl, rfl, rfl⟩ uw_X7 rfl hl hd k
theorem m_put_thiefMuch (hE : KE (mw ad D cI cZ) G H0 m cc own nL R) {idx : Nat} {z : Int} (hl : Cond.fieldLink own idx "BarrelTapsModel" "thiefMuch" "I" ∈ lw_gt) (hd : decode cc pc = .ok (.putfield idx, 3)) (k : KW (mw ad D cI cZ) G H0 m nL (uv st.1 18 z, st.2) (pc + 3) lo sk) : KW (mw ad D cI cZ) G H0 m nL st pc lo (.int (iI z) :: .ref (ad 0) :: sk) :=
  k_put hE 0 6 32 rfl rfl (by decide) ⟨rfl, rfl, rfl, rfl⟩ uw_X7 tyX7_ok nmX7 (ty := .int) (by decide +kernel) rfl rfl (Nat.le_of_ble_eq_true rfl) rfl hl hd k
theorem m_get_didGive (hE : KE (mw ad D cI cZ) G H0 m cc own nL R) {idx : Nat} {z : Int} (hz : st.1 19 = z) (hl : Cond.fieldLink own idx "BarrelTapsModel" "didGive" "Z" ∈ lw_gt) (hd : decode cc pc = .ok (.getfield idx, 3)) (k : KW (mw ad D cI cZ) G H0 m nL st (pc + 3) lo (.int (iI z) :: sk)) : KW (mw ad D cI cZ) G H0 m nL st pc lo (.ref (ad 0) :: sk) := by
  subst hz; exact k_get hE 0 6 33 rfl rfl (by decide) ⟨rfl, rfl, rfl⟩ uw_X7 rfl hl hd k
theorem m_put_didGive (hE : KE (mw ad D cI cZ) G H0 m cc own nL R) {idx : Nat} {z : Int} (hz : z = 0 ∨ z = 1) (hl : Cond.fieldLink own idx "BarrelTapsModel" "didGive" "Z" ∈ lw_gt) (hd : decode cc pc = .ok (.putfield idx, 3)) (k : KW (mw ad D cI cZ) G H0 m nL (uv st.1 19 z, st.2) (pc + 3) lo sk) : KW (mw ad D cI cZ) G H0 m nL st pc lo (.int (iI z) :: .ref (ad 0) :: sk) :=
  k_put hE 0 6 33 rfl rfl (by decide) ⟨rfl, rfl, rfl, rfl⟩ uw_X7 tyX7_ok nmX7 (ty := .boolean) (by decide +kernel) (by rcases hz with rfl | rfl <;> rfl) (by rcases hz with rfl | rfl <;> rfl) (Nat.le_of_ble_eq_true rfl) rfl hl hd k
theorem m_get_keptRain (hE : KE (mw ad D cI cZ) G H0 m cc own nL R) {idx : Nat} (hl : Cond.fieldLink own idx "BarrelTapsModel" "keptRain" "[I" ∈ lw_gt) (hd : decode cc pc = .ok (.getfield idx, 3)) (k : KW (mw ad D cI cZ) G H0 m nL st (pc + 3) lo (.ref (ad 16) :: sk)) : KW (mw ad D cI cZ) G H0 m nL st pc lo (.ref (ad 0) :: sk) :=
  k_get hE 0 6 34 rfl rfl (by decide) ⟨rfl, rfl, rfl⟩ uw_X7 rfl hl hd k
theorem m_ld_keptRain (hE : KE (mw ad D cI cZ) G H0 m cc own nL R) {i z : Int} (h0 : 0 ≤ i) (h1 : i < 10) (hz : st.2 18 i = z) (hd : decode cc pc = .ok (.iaload, 1)) (k : KW (mw ad D cI cZ) G H0 m nL st (pc + 1) lo (.int (iI z) :: sk)) : KW (mw ad D cI cZ) G H0 m nL st pc lo (.int (iI i) :: .ref (ad 16) :: sk) :=
  k_iald hE 16 0 rfl rfl (by decide) h0 h1 (rI_at h0 hz) hd k
theorem m_st_keptRain (hE : KE (mw ad D cI cZ) G H0 m cc own nL R) {i z : Int} (h0 : 0 ≤ i) (h1 : i < 10) (hd : decode cc pc = .ok (.iastore, 1)) (k : KW (mw ad D cI cZ) G H0 m nL (st.1, ur st.2 18 i z) (pc + 1) lo sk) : KW (mw ad D cI cZ) G H0 m nL st pc lo (.int (iI z) :: .int (iI i) :: .ref (ad 16) :: sk) :=
  k_iast hE 16 0 rfl rfl (by decide) h0 h1 (by rw [rI_up h0]; rfl) hd k
theorem m_get_marks (hE : KE (mw ad D cI cZ) G H0 m cc own nL R) {idx : Nat} {z : Int} (hz : st.1 7 = z) (hl : Cond.fieldLink own idx "BarrelTapsModel" "marks" "I" ∈ lw_gt) (hd : decode cc pc = .ok (.getfield idx, 3)) (k : KW (mw ad D cI cZ) G H0 m nL st (pc + 3) lo (.int (iI z) :: sk)) : KW (mw ad D cI cZ) G H0 m nL st pc lo (.ref (ad 0) :: sk) := by
  subst hz; exact k_get hE 0 6 35 rfl rfl (by decide) ⟨rfl, rfl, rfl⟩ uw_X7 rfl hl hd k
theorem m_put_marks (hE : KE (mw ad D cI cZ) G H0 m cc own nL R) {idx : Nat} {z : Int} (hl : Cond.fieldLink own idx "BarrelTapsModel" "marks" "I" ∈ lw_gt) (hd : decode cc pc = .ok (.putfield idx, 3)) (k : KW (mw ad D cI cZ) G H0 m nL (uv st.1 7 z, st.2) (pc + 3) lo sk) : KW (mw ad D cI cZ) G H0 m nL st pc lo (.int (iI z) :: .ref (ad 0) :: sk) :=
  k_put hE 0 6 35 rfl rfl (by decide) ⟨rfl, rfl, rfl, rfl⟩ uw_X7 tyX7_ok nmX7 (ty := .int) (by decide +kernel) rfl rfl (Nat.le_of_ble_eq_true rfl) rfl hl hd k
theorem m_get_markDay (hE : KE (mw ad D cI cZ) G H0 m cc own nL R) {idx : Nat} (hl : Cond.fieldLink own idx "BarrelTapsModel" "markDay" "[I" ∈ lw_gt) (hd : decode cc pc = .ok (.getfield idx, 3)) (k : KW (mw ad D cI cZ) G H0 m nL st (pc + 3) lo (.ref (ad 17) :: sk)) : KW (mw ad D cI cZ) G H0 m nL st pc lo (.ref (ad 0) :: sk) :=
  k_get hE 0 6 36 rfl rfl (by decide) ⟨rfl, rfl, rfl⟩ uw_X7 rfl hl hd k
theorem m_ld_markDay (hE : KE (mw ad D cI cZ) G H0 m cc own nL R) {i z : Int} (h0 : 0 ≤ i) (h1 : i < 8) (hz : st.2 5 i = z) (hd : decode cc pc = .ok (.iaload, 1)) (k : KW (mw ad D cI cZ) G H0 m nL st (pc + 1) lo (.int (iI z) :: sk)) : KW (mw ad D cI cZ) G H0 m nL st pc lo (.int (iI i) :: .ref (ad 17) :: sk) :=
  k_iald hE 17 0 rfl rfl (by decide) h0 h1 (rI_at h0 hz) hd k
theorem m_st_markDay (hE : KE (mw ad D cI cZ) G H0 m cc own nL R) {i z : Int} (h0 : 0 ≤ i) (h1 : i < 8) (hd : decode cc pc = .ok (.iastore, 1)) (k : KW (mw ad D cI cZ) G H0 m nL (st.1, ur st.2 5 i z) (pc + 1) lo sk) : KW (mw ad D cI cZ) G H0 m nL st pc lo (.int (iI z) :: .int (iI i) :: .ref (ad 17) :: sk) :=
  k_iast hE 17 0 rfl rfl (by decide) h0 h1 (by rw [rI_up h0]; rfl) hd k
theorem m_get_markLevel (hE : KE (mw ad D cI cZ) G H0 m cc own nL R) {idx : Nat} (hl : Cond.fieldLink own idx "BarrelTapsModel" "markLevel" "[I" ∈ lw_gt) (hd : decode cc pc = .ok (.getfield idx, 3)) (k : KW (mw ad D cI cZ) G H0 m nL st (pc + 3) lo (.ref (ad 18) :: sk)) : KW (mw ad D cI cZ) G H0 m nL st pc lo (.ref (ad 0) :: sk) :=
  k_get hE 0 6 37 rfl rfl (by decide) ⟨rfl, rfl, rfl⟩ uw_X7 rfl hl hd k
theorem m_ld_markLevel (hE : KE (mw ad D cI cZ) G H0 m cc own nL R) {i z : Int} (h0 : 0 ≤ i) (h1 : i < 8) (hz : st.2 6 i = z) (hd : decode cc pc = .ok (.iaload, 1)) (k : KW (mw ad D cI cZ) G H0 m nL st (pc + 1) lo (.int (iI z) :: sk)) : KW (mw ad D cI cZ) G H0 m nL st pc lo (.int (iI i) :: .ref (ad 18) :: sk) :=
  k_iald hE 18 0 rfl rfl (by decide) h0 h1 (rI_at h0 hz) hd k
theorem m_st_markLevel (hE : KE (mw ad D cI cZ) G H0 m cc own nL R) {i z : Int} (h0 : 0 ≤ i) (h1 : i < 8) (hd : decode cc pc = .ok (.iastore, 1)) (k : KW (mw ad D cI cZ) G H0 m nL (st.1, ur st.2 6 i z) (pc + 1) lo sk) : KW (mw ad D cI cZ) G H0 m nL st pc lo (.int (iI z) :: .int (iI i) :: .ref (ad 18) :: sk) :=
  k_iast hE 18 0 rfl rfl (by decide) h0 h1 (by rw [rI_up h0]; rfl) hd k
end MROWS
