/-- a lane, as the reference holds it -/
def LNm (l : Int) : Int := if l = -1 then -9 else l
/-- class and reference stand alike -/
def RLx (a b : Sg) : Prop := Inv a ∧ SHx a ∧ SHm b ∧ Ag b a ∧ (b.1 8 = a.1 8 ∧ b.1 9 = a.1 9) ∧ b.2 8 = a.2 8 ∧ (∀ k : Int, 0 ≤ k → k < 4 → b.2 9 k = LNm (a.2 7 k)) ∧ (∀ k j : Int, 0 ≤ k → k < 4 → 0 ≤ j → j < a.2 8 k → b.2 13 (60 * k + j) = a.2 (20 + k.toNat) j) ∧ (b.1 15 = 0 ∧ b.1 16 = -9)
theorem Inv_ag {a b : Sg} (h : Ag b a) (hI : Inv a) : Inv b := by
  unfold Inv
  rw [h.1 0 (by decide), h.1 1 (by decide), h.1 2 (by decide), h.1 3 (by decide), h.1 4 (by decide), h.1 5 (by decide), h.1 6 (by decide), h.1 7 (by decide), h.2 0 (by decide), h.2 1 (by decide), h.2 2 (by decide), h.2 3 (by decide), h.2 4 (by decide), h.2 5 (by decide), h.2 6 (by decide)]
  exact hI
theorem RL_q {a b a' b' : Sg} (hR : RLx a b) (hx : XS a a') (hm : MY b b') : RLx a' b' := by
  obtain ⟨hI, hS, hM, hA, h89, h8, h9, h13, h15⟩ := hR
  have e7 := hx.2 7 (by decide)
  have e8 := hx.2 8 (by decide)
  have m8 := hm.2 8 (by decide)
  have m9 := hm.2 9 (by decide)
  have m13 := hm.2 13 (by decide)
  have agx : Ag a' a := hx.ag (Ag.refl a)
  have agm : Ag b' b := ⟨fun i hi => hm.1 i (by omega) (by omega) (by omega) (by omega), fun i hi => hm.2 i (by omega)⟩
  refine ⟨Inv_ag agx hI, ?_, ?_, (agm.trans hA).trans agx.symm, ?_, ?_, ?_, ?_, ?_⟩
  · refine ⟨fun k k0 k1 => by rw [e7, e8]; exact hS.1 k k0 k1, fun k j k0 k1 j0 j1 => ?_⟩
    rw [hx.2 (20 + k.toNat) (by omega)]
    rw [e8] at j1
    exact hS.2 k j k0 k1 j0 j1
  · unfold SHm
    rw [m8, m9, m13]; exact hM
  · rw [hm.1 8 (by decide) (by decide) (by decide) (by decide), hm.1 9 (by decide) (by decide) (by decide) (by decide), hx.1 8 (by decide), hx.1 9 (by decide)]; exact h89
  · rw [m8, e8]; exact h8
  · rw [m9, e7]; exact h9
  · rw [m13, e8]
    intro k j k0 k1 j0 j1
    rw [hx.2 (20 + k.toNat) (by omega)]; exact h13 k j k0 k1 j0 j1
  · rw [hm.1 15 (by decide) (by decide) (by decide) (by decide), hm.1 16 (by decide) (by decide) (by decide) (by decide)]; exact h15
theorem RL_uv {a b : Sg} (hR : RLx a b) {k : Nat} (hk : k < 10) (z : Int) (hI2 : Inv (uv a.1 k z, a.2)) : RLx (uv a.1 k z, a.2) (uv b.1 k z, b.2) := by
  obtain ⟨hI, hS, hM, hA, h89, h8, h9, h13, h15⟩ := hR
  have e : ∀ i, a.1 i = b.1 i → uv b.1 k z i = uv a.1 k z i := fun i h => by unfold uv; split <;> first | rfl | exact h.symm
  exact ⟨hI2, hS, hM, ⟨fun i hi => e i (hA.1 i hi).symm, hA.2⟩, ⟨e 8 h89.1.symm, e 9 h89.2.symm⟩, h8, h9, h13, ⟨(uv_n _ _ (by omega)).trans h15.1, (uv_n _ _ (by omega)).trans h15.2⟩⟩
theorem RL_ur {a b : Sg} (hR : RLx a b) {k : Nat} (hk : k < 7) (i z : Int) (hI2 : Inv (a.1, ur a.2 k i z)) : RLx (a.1, ur a.2 k i z) (b.1, ur b.2 k i z) := by
  obtain ⟨hI, hS, hM, hA, h89, h8, h9, h13, h15⟩ := hR
  have na : ∀ c : Nat, 7 ≤ c → ur a.2 k i z c = a.2 c := fun c hc => ur_n _ _ _ (by omega)
  have nb : ∀ c : Nat, 7 ≤ c → ur b.2 k i z c = b.2 c := fun c hc => ur_n _ _ _ (by omega)
  refine ⟨hI2, ?_, ?_, ⟨hA.1, fun c hc => ?_⟩, h89, ?_, ?_, ?_, h15⟩
  · refine ⟨fun q k0 k1 => ?_, fun q j k0 k1 j0 j1 => ?_⟩
    · have h5 := hS.1 q k0 k1
      rw [← na 7 (by decide), ← na 8 (by decide)] at h5
      exact h5
    · have j2 : j < ur a.2 k i z 8 q := j1
      rw [na 8 (by decide)] at j2
      show -2147483648 ≤ ur a.2 k i z (20 + q.toNat) j ∧ ur a.2 k i z (20 + q.toNat) j < 2147483648
      rw [na (20 + q.toNat) (by omega)]; exact hS.2 q j k0 k1 j0 j2
  · unfold SHm
    dsimp only
    rw [nb 8 (by decide), nb 9 (by decide), nb 13 (by decide)]; exact hM
  · show ur b.2 k i z c = ur a.2 k i z c
    by_cases e : c = k
    · rw [e]; funext j; rw [ur_c, ur_c, hA.2 k hk]
    · rw [ur_n _ _ _ e, ur_n _ _ _ e]; exact hA.2 c hc
  · show ur b.2 k i z 8 = ur a.2 k i z 8
    rw [nb 8 (by decide), na 8 (by decide)]; exact h8
  · dsimp only
    rw [nb 9 (by decide), na 7 (by decide)]; exact h9
  · dsimp only
    rw [nb 13 (by decide), na 8 (by decide)]
    intro q j k0 k1 j0 j1
    rw [na (20 + q.toNat) (by omega)]; exact h13 q j k0 k1 j0 j1
/-- only trace and fault -/
theorem Inv_tr {a a' : Sg} (hI : Inv a) (h1 : ∀ i, i < 8 → a'.1 i = a.1 i) (h2 : a'.2 = a.2) : Inv a' := Inv_ag ⟨h1, fun c _ => by rw [h2]⟩ hI
theorem RL_tr {a b a' b' : Sg} (hR : RLx a b) (h1 : ∀ i, i ≠ 8 → i ≠ 9 → a'.1 i = a.1 i) (h2 : a'.2 = a.2) (g1 : ∀ i, i ≠ 8 → i ≠ 9 → b'.1 i = b.1 i) (g2 : b'.2 = b.2) (e8 : b'.1 8 = a'.1 8) (e9 : b'.1 9 = a'.1 9) : RLx a' b' := by
  obtain ⟨hI, hS, hM, hA, h89, h8, h9, h13, h15⟩ := hR
  refine ⟨Inv_tr hI (fun i hi => h1 i (by omega) (by omega)) h2, ?_, ?_, ⟨fun i hi => ?_, fun c hc => by rw [g2, h2]; exact hA.2 c hc⟩, ⟨e8, e9⟩, by rw [g2, h2]; exact h8, by rw [g2, h2]; exact h9, by rw [g2, h2]; exact h13, ⟨(g1 15 (by decide) (by decide)).trans h15.1, (g1 16 (by decide) (by decide)).trans h15.2⟩⟩
  · unfold SHx; rw [h2]; exact hS
  · unfold SHm; rw [g2]; exact hM
  · rw [g1 i (by omega) (by omega), h1 i (by omega) (by omega)]; exact hA.1 i hi
/-! rows of the law -/
def KS {σ : Type} (w : WD σ) (G : Heap → List Loc → JFrame → Prop) (H0 : Heap) (m : MethodId) (nL : Nat) (cc : ByteArray) (b : Nat) (L : Int) (xs : Int → Int) : Prop :=
  (∀ (pc : Nat) (i : Int) (st : σ) (lo : List (Nat × Value)) (sk : List Value), decode cc pc = .ok (.iaload, 1) → 0 ≤ i → i < L → KW w G H0 m nL st (pc + 1) lo (.int (iI (xs i)) :: sk) → KW w G H0 m nL st pc lo (.int (iI i) :: .ref b :: sk)) ∧
  (∀ (pc : Nat) (st : σ) (lo : List (Nat × Value)) (sk : List Value), decode cc pc = .ok (.arraylength, 1) → KW w G H0 m nL st (pc + 1) lo (.int (iI L) :: sk) → KW w G H0 m nL st pc lo (.ref b :: sk))
section LAWROWS
variable {σ : Type} {w : WD σ} {G : Heap → List Loc → JFrame → Prop} {H0 : Heap} {m : MethodId} {cc : ByteArray} {own : String} {nL : Nat} {R : Room} {st : σ} {pc : Nat} {lo lo' : List (Nat × Value)} {sk : List Value}
theorem k_icmp_same (hE : KE w G H0 m cc own nL R) {x : Int32} {off : Int} (tgt : Nat) (hd : decode cc pc = .ok (.if_icmp .eq off, 3)) (ht : (pc : Int) + off = (tgt : Int)) (k : KW w G H0 m nL st tgt lo sk) : KW w G H0 m nL st pc lo (.int x :: .int x :: sk) := by
  obtain ⟨p, l, e, s, args, below, meth, c, Q, cells, slots, rfl, rfl, hx, hb, hml, hown, hts, hK, hw, hc1, hc2⟩ := hE
  exact fun H locs ls hP hS hl => lv_icmp_eq hx hb hd ht (fun _ => k H locs ls hP hS hl) (fun h => absurd rfl h)
theorem lg_same (x : Int64) : lg_cmp x x = iI 0 := by
  unfold lg_cmp
  rw [if_neg (by rw [gt_iff_lt, Int64.lt_iff_toInt_lt]; omega), if_pos rfl]; rfl
theorem k_lcmp_same (hE : KE w G H0 m cc own nL R) {x : Int64} (hd : decode cc pc = .ok (.lcmp, 1)) (k : KW w G H0 m nL st (pc + 1) lo (.int (iI 0) :: sk)) : KW w G H0 m nL st pc lo (.long x :: .long x :: sk) := by
  obtain ⟨p, l, e, s, args, below, meth, c, Q, cells, slots, rfl, rfl, hx, hb, hml, hown, hts, hK, hw, hc1, hc2⟩ := hE
  exact fun H locs ls hP hS hl => W.lcmp hx hb hd (by rw [lg_same]; exact k H locs ls hP hS hl)
end LAWROWS
theorem xw_ads {ad : Nat → Nat} {ta sa ca : Int → Nat} {D : va_G} {cI cT cS : ClassId} : ∀ a, ((xw ad ta sa ca D cI cT cS).1 a).map Prod.fst = (xw ad ta sa ca D cI cT cS).2.1 := fun _ => rfl
theorem mw_ads {ad : Nat → Nat} {D : va_G} {cI cZ : ClassId} : ∀ a, ((mw ad D cI cZ).1 a).map Prod.fst = (mw ad D cI cZ).2.1 := fun _ => rfl
