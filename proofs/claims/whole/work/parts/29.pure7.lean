/-! texts -/
def TG (q c : Int) : Prop := (q = 0 ∧ c = 59) ∨ (q = 1 ∧ (c = 102 ∨ c = 103 ∨ c = 111)) ∨ (q = 2 ∧ 48 ≤ c ∧ c ≤ 57) ∨ ((q = 3 ∨ q = 4) ∧ 49 ≤ c ∧ c ≤ 57)
def GW (p c : Int) : Prop := (p = 0 ∧ c = 121) ∨ ((p = 1 ∨ p = 2) ∧ 48 ≤ c ∧ c ≤ 57) ∨ (p = 3 ∧ 49 ≤ c ∧ c ≤ 57) ∨ (4 ≤ p ∧ p < 34 ∧ TG ((p - 4) % 5) c)
def FF (c : Int → Int) (n z : Int) : Prop :=
  (∃ p : Int, 0 ≤ p ∧ p < n ∧ (∀ j : Int, 0 ≤ j → j < p → GW j (c j)) ∧ ¬ GW p (c p) ∧ ¬ (2 < p ∧ c 1 = 48 ∧ c 2 = 48) ∧ z = p) ∨
  (2 < n ∧ (∀ j : Int, 0 ≤ j → j < 3 → GW j (c j)) ∧ c 1 = 48 ∧ c 2 = 48 ∧ z = 1) ∨
  ((∀ j : Int, 0 ≤ j → j < n → GW j (c j)) ∧ ¬ (2 < n ∧ c 1 = 48 ∧ c 2 = 48) ∧ (n ≤ 4 ∨ (n - 4) % 5 ≠ 0) ∧ z = n) ∨
  ((∀ j : Int, 0 ≤ j → j < n → GW j (c j)) ∧ ¬ (2 < n ∧ c 1 = 48 ∧ c 2 = 48) ∧ 4 < n ∧ (n - 4) % 5 = 0 ∧ z = -1)
theorem FF_uni {c : Int → Int} {n z z' : Int} (h : FF c n z) (h' : FF c n z') : z = z' := by
  rcases h with ⟨p, p0, p1, p2, p3, p4, p5⟩ | ⟨a1, a2, a3, a4, a5⟩ | ⟨a1, a2, a3, a4⟩ | ⟨a1, a2, a3, a4, a5⟩ <;> rcases h' with ⟨r, r0, r1, r2, r3, r4, r5⟩ | ⟨b1, b2, b3, b4, b5⟩ | ⟨b1, b2, b3, b4⟩ | ⟨b1, b2, b3, b4, b5⟩
  · rcases Int.lt_trichotomy p r with t | t | t
    · exact absurd (r2 p p0 t) p3
    · omega
    · exact absurd (p2 r r0 t) r3
  · by_cases e : p < 3
    · exact absurd (b2 p p0 e) p3
    · exact absurd ⟨by omega, b3, b4⟩ p4
  · exact absurd (b1 p p0 p1) p3
  · exact absurd (b1 p p0 p1) p3
  · by_cases e : r < 3
    · exact absurd (a2 r r0 e) r3
    · exact absurd ⟨by omega, a3, a4⟩ r4
  · omega
  · exact absurd ⟨a1, a3, a4⟩ b2
  · exact absurd ⟨a1, a3, a4⟩ b2
  · exact absurd (a1 r r0 r1) r3
  · exact absurd ⟨b1, b3, b4⟩ a2
  · omega
  · omega
  · exact absurd (a1 r r0 r1) r3
  · exact absurd ⟨b1, b3, b4⟩ a2
  · omega
  · omega
theorem FF_34 {c : Int → Int} {n : Int} (h : ∀ j : Int, 0 ≤ j → j < n → GW j (c j)) : n ≤ 34 := by
  by_cases e : n ≤ 34
  · exact e
  · have h5 := h 34 (by omega) (by omega)
    unfold GW at h5
    omega
/-- the first m places are g's -/
def fillr (old : Int → Int) (m : Int) (g : Int → Int) : Int → Int := fun j => if 0 ≤ j ∧ j < m then g j else old j
theorem fillr_0 (old g : Int → Int) : fillr old 0 g = old := by funext j; unfold fillr; rw [if_neg (by omega)]
theorem ur_fill {r : Nat → Int → Int} {a : Nat} {old g : Int → Int} {f z : Int} (h : r a = fillr old f g) (h0 : 0 ≤ f) (hz : z = g f) : ur r a f z a = fillr old (f + 1) g := by
  funext j
  rw [ur_c, h, hz]
  unfold fillr
  by_cases e : j = f
  · rw [if_pos e, if_pos (by omega), e]
  · rw [if_neg e]
    by_cases e2 : 0 ≤ j ∧ j < f
    · rw [if_pos e2, if_pos (by omega)]
    · rw [if_neg e2, if_neg (by omega)]
def KDc (c : Int) : Int := if c = 111 then 2 else if c = 103 then 1 else 0
/-- sheets: lanes, sizes, cells -/
def SHx (st : Sg) : Prop := (∀ k : Int, 0 ≤ k → k < 4 → (-1 ≤ st.2 7 k ∧ st.2 7 k ≤ 2) ∧ (0 ≤ st.2 8 k ∧ st.2 8 k ≤ 60)) ∧ (∀ k j : Int, 0 ≤ k → k < 4 → 0 ≤ j → j < st.2 8 k → -2147483648 ≤ st.2 (20 + k.toNat) j ∧ st.2 (20 + k.toNat) j < 2147483648)
def CUT (l v : Int) : Int := if l = 0 then b8 v else if l = 1 then s16 v else v
def us (r : Nat → Int → Int) (a : Nat) (g : Int → Int) : Nat → Int → Int := fun b => if b = a then g else r b
def cpI (f g : Int → Int) (i j n : Int) : Int → Int := fun t => if j ≤ t ∧ t < j + n then f (i + (t - j)) else g t
def MN (Y : Sg) (x : Int) : Int := if x = 0 then Y.1 0 else if x = 1 then Y.1 1 else if x = 2 then Y.1 2 else if x = 3 then Y.1 4 else if x = 4 then Y.1 7 else -2
section XCOPY
variable {ad : Nat → Nat} {ta sa ca : Int → Nat} {D : va_G} {cI cT cS : ClassId} {G : Heap → List Loc → JFrame → Prop} {H0 : Heap} {m : MethodId} {cc : ByteArray} {own : String} {nL : Nat} {R : Room} {st : Sg} {pc : Nat} {lo : List (Nat × Value)} {sk : List Value}
theorem rI_cpy {f g : Int → Int} {i j n : Int} (hi : 0 ≤ i) (hj : 0 ≤ j) (hn : 0 ≤ n) : va_cpy (rI f) (rI g) i.toNat j.toNat n.toNat = rI (cpI f g i j n) := by
  funext t
  unfold va_cpy rI cpI
  by_cases e : j.toNat ≤ t ∧ t < j.toNat + n.toNat
  · rw [if_pos e, if_pos (by omega), show ((i.toNat + (t - j.toNat) : Nat) : Int) = i + ((t : Int) - j) by omega]
  · rw [if_neg e, if_neg (by omega)]
theorem xW_cellus {o : Int} {g : Int → Int} (h0 : 0 ≤ o) (h1 : o < 4) : (xW ad ta sa ca cI cT cS st).set (23 + o.toNat) (ca o, .inl (cI, 60, .inl (rI g))) = xW ad ta sa ca cI cT cS (st.1, us st.2 (20 + o.toNat) g) := by
  rcases (show o = 0 ∨ o = 1 ∨ o = 2 ∨ o = 3 by omega) with rfl | rfl | rfl | rfl <;> rfl
theorem tb_acp : Cond.native arraycopyName ∈ lw_gt ∧ Cond.static arraycopyName ∈ lw_gt ∧ Cond.initialized "java/lang/System" ∈ lw_gt := ⟨gt_mem (by decide +kernel) rfl, gt_mem (by decide +kernel) rfl, gt_mem (by decide +kernel) rfl⟩
theorem x_acopy (hE : KE (xw ad ta sa ca D cI cT cS) G H0 m cc own nL R) {idx : Nat} {k o i j n : Int} (hk : 0 ≤ k ∧ k < 4) (ho : 0 ≤ o ∧ o < 4) (hi : 0 ≤ i) (hj : 0 ≤ j) (hn : 0 ≤ n) (h4 : i + n ≤ 60) (h5 : j + n ≤ 60) (hl : Cond.methodLink own idx arraycopyName ∈ lw_gt) (hd : decode cc pc = .ok (.invokestatic idx, 3)) (hf : 1 ≤ R.frames) (hlo : (sk.map fun v => v.category).sum + (nativeFrameWords "java/lang/System" "arraycopy" 5 + 11) ≤ R.locals)
    (kk : KW (xw ad ta sa ca D cI cT cS) G H0 m nL (st.1, us st.2 (20 + o.toNat) (cpI (st.2 (20 + k.toNat)) (st.2 (20 + o.toNat)) i j n)) (pc + 3) lo sk) : KW (xw ad ta sa ca D cI cT cS) G H0 m nL st pc lo (.int (iI n) :: .int (iI j) :: .ref (ca o) :: .int (iI i) :: .ref (ca k) :: sk) := by
  obtain ⟨p, l, e, s, args, below, meth, c, Q, cells, slots, rfl, rfl, hx, hb, hml, hown, hts, hK, hw, hc1, hc2⟩ := hE
  have nn : ∀ z : Int, 0 ≤ z → z ≤ 60 → ¬ iI z < 0 := fun z z0 z1 h => by rw [iI_0, iI_lt (by unfold in32; omega) in32_0] at h; omega
  have cl : ∀ z : Int, 0 ≤ z → z ≤ 60 → (iI z).toNatClampNeg = z.toNat := fun z z0 z1 => iI_cl z0 (by omega)
  exact fun H locs ls hP hS hl0 => va_copyi (D := D) hx hb (hml.trans hl0.1.symm) hown (hts _ hl) (hts _ tb_acp.1) (hts _ tb_acp.2.1) (hts _ tb_acp.2.2) hK hP (hw.D s.heap.size st) hS (23 + k.toNat) (23 + o.toNat) 0 0 (xW_cells hk.1 hk.2) (xW_cells ho.1 ho.2) rfl rfl rfl (nn i hi (by omega)) (nn j hj (by omega)) (nn n hn (by omega)) (by rw [cl i hi (by omega), cl n hn (by omega)]; omega) (by rw [cl j hj (by omega), cl n hn (by omega)]; omega) (fun _ _ => rfl) hf hlo hd (fun H1 locs1 hP1 hD1 hS1 => kk H1 locs1 ls (by rw [cl i hi (by omega), cl j hj (by omega), cl n hn (by omega), rI_cpy hi hj hn, xW_cellus ho.1 ho.2] at hP1; exact hP1) hS1 hl0)
end XCOPY
