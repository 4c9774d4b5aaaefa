section KROWS2
variable {σ : Type} {w : WD σ} {G : Heap → List Loc → JFrame → Prop} {H0 : Heap} {m : MethodId} {cc : ByteArray} {own : String} {nL : Nat} {R : Room} {st : σ} {pc : Nat} {lo lo' : List (Nat × Value)} {sk : List Value}
theorem k_icmp_lt (hE : KE w G H0 m cc own nL R) {x y off : Int} (tgt : Nat) (hd : decode cc pc = .ok (.if_icmp .lt off, 3)) (ht : (pc : Int) + off = (tgt : Int)) (hxr : in32 x) (hyr : in32 y) (kt : x < y → KW w G H0 m nL st tgt lo sk) (kf : ¬ x < y → KW w G H0 m nL st (pc + 3) lo sk) : KW w G H0 m nL st pc lo (.int (iI y) :: .int (iI x) :: sk) := by
  obtain ⟨p, l, e, s, args, below, meth, c, Q, cells, slots, rfl, rfl, hx, hb, hml, hown, hts, hK, hw, hc1, hc2⟩ := hE
  exact fun H locs ls hP hS hl => lv_icmp_lt hx hb hd ht (fun h => kt (by rwa [iI_lt hxr hyr] at h) H locs ls hP hS hl) (fun h => kf (by rwa [iI_lt hxr hyr] at h) H locs ls hP hS hl)
theorem k_icmp_le (hE : KE w G H0 m cc own nL R) {x y off : Int} (tgt : Nat) (hd : decode cc pc = .ok (.if_icmp .le off, 3)) (ht : (pc : Int) + off = (tgt : Int)) (hxr : in32 x) (hyr : in32 y) (kt : x ≤ y → KW w G H0 m nL st tgt lo sk) (kf : ¬ x ≤ y → KW w G H0 m nL st (pc + 3) lo sk) : KW w G H0 m nL st pc lo (.int (iI y) :: .int (iI x) :: sk) := by
  obtain ⟨p, l, e, s, args, below, meth, c, Q, cells, slots, rfl, rfl, hx, hb, hml, hown, hts, hK, hw, hc1, hc2⟩ := hE
  exact fun H locs ls hP hS hl => lv_icmp_le hx hb hd ht (fun h => kt (by rwa [iI_le hxr hyr] at h) H locs ls hP hS hl) (fun h => kf (by rwa [iI_le hxr hyr] at h) H locs ls hP hS hl)
theorem k_icmp_gt (hE : KE w G H0 m cc own nL R) {x y off : Int} (tgt : Nat) (hd : decode cc pc = .ok (.if_icmp .gt off, 3)) (ht : (pc : Int) + off = (tgt : Int)) (hxr : in32 x) (hyr : in32 y) (kt : y < x → KW w G H0 m nL st tgt lo sk) (kf : ¬ y < x → KW w G H0 m nL st (pc + 3) lo sk) : KW w G H0 m nL st pc lo (.int (iI y) :: .int (iI x) :: sk) := by
  obtain ⟨p, l, e, s, args, below, meth, c, Q, cells, slots, rfl, rfl, hx, hb, hml, hown, hts, hK, hw, hc1, hc2⟩ := hE
  exact fun H locs ls hP hS hl => lv_icmp_gt hx hb hd ht (fun h => kt (by rwa [iI_lt hyr hxr] at h) H locs ls hP hS hl) (fun h => kf (by rwa [iI_lt hyr hxr] at h) H locs ls hP hS hl)
theorem k_icmp_ge (hE : KE w G H0 m cc own nL R) {x y off : Int} (tgt : Nat) (hd : decode cc pc = .ok (.if_icmp .ge off, 3)) (ht : (pc : Int) + off = (tgt : Int)) (hxr : in32 x) (hyr : in32 y) (kt : y ≤ x → KW w G H0 m nL st tgt lo sk) (kf : ¬ y ≤ x → KW w G H0 m nL st (pc + 3) lo sk) : KW w G H0 m nL st pc lo (.int (iI y) :: .int (iI x) :: sk) := by
  obtain ⟨p, l, e, s, args, below, meth, c, Q, cells, slots, rfl, rfl, hx, hb, hml, hown, hts, hK, hw, hc1, hc2⟩ := hE
  exact fun H locs ls hP hS hl => lv_icmp_ge hx hb hd ht (fun h => kt (by rwa [iI_le hyr hxr] at h) H locs ls hP hS hl) (fun h => kf (by rwa [iI_le hyr hxr] at h) H locs ls hP hS hl)
theorem k_icmp_eq (hE : KE w G H0 m cc own nL R) {x y off : Int} (tgt : Nat) (hd : decode cc pc = .ok (.if_icmp .eq off, 3)) (ht : (pc : Int) + off = (tgt : Int)) (hxr : in32 x) (hyr : in32 y) (kt : x = y → KW w G H0 m nL st tgt lo sk) (kf : ¬ x = y → KW w G H0 m nL st (pc + 3) lo sk) : KW w G H0 m nL st pc lo (.int (iI y) :: .int (iI x) :: sk) := by
  obtain ⟨p, l, e, s, args, below, meth, c, Q, cells, slots, rfl, rfl, hx, hb, hml, hown, hts, hK, hw, hc1, hc2⟩ := hE
  exact fun H locs ls hP hS hl => lv_icmp_eq hx hb hd ht (fun h => kt (by rwa [iI_eq hxr hyr] at h) H locs ls hP hS hl) (fun h => kf (by rwa [iI_eq hxr hyr] at h) H locs ls hP hS hl)
theorem k_icmp_ne (hE : KE w G H0 m cc own nL R) {x y off : Int} (tgt : Nat) (hd : decode cc pc = .ok (.if_icmp .ne off, 3)) (ht : (pc : Int) + off = (tgt : Int)) (hxr : in32 x) (hyr : in32 y) (kt : ¬ x = y → KW w G H0 m nL st tgt lo sk) (kf : x = y → KW w G H0 m nL st (pc + 3) lo sk) : KW w G H0 m nL st pc lo (.int (iI y) :: .int (iI x) :: sk) := by
  obtain ⟨p, l, e, s, args, below, meth, c, Q, cells, slots, rfl, rfl, hx, hb, hml, hown, hts, hK, hw, hc1, hc2⟩ := hE
  exact fun H locs ls hP hS hl => lv_icmp_ne hx hb hd ht (fun h => kt (by rwa [iI_eq hxr hyr] at h) H locs ls hP hS hl) (fun h => kf (by rwa [iI_eq hxr hyr] at h) H locs ls hP hS hl)
theorem k_if_lt (hE : KE w G H0 m cc own nL R) {x off : Int} (tgt : Nat) (hd : decode cc pc = .ok (.ifCond .lt off, 3)) (ht : (pc : Int) + off = (tgt : Int)) (hxr : in32 x) (kt : x < 0 → KW w G H0 m nL st tgt lo sk) (kf : ¬ x < 0 → KW w G H0 m nL st (pc + 3) lo sk) : KW w G H0 m nL st pc lo (.int (iI x) :: sk) := by
  obtain ⟨p, l, e, s, args, below, meth, c, Q, cells, slots, rfl, rfl, hx, hb, hml, hown, hts, hK, hw, hc1, hc2⟩ := hE
  exact fun H locs ls hP hS hl => lv_if_lt hx hb hd ht (fun h => kt (by rwa [iI_0, iI_lt hxr in32_0] at h) H locs ls hP hS hl) (fun h => kf (by rwa [iI_0, iI_lt hxr in32_0] at h) H locs ls hP hS hl)
theorem k_if_le (hE : KE w G H0 m cc own nL R) {x off : Int} (tgt : Nat) (hd : decode cc pc = .ok (.ifCond .le off, 3)) (ht : (pc : Int) + off = (tgt : Int)) (hxr : in32 x) (kt : x ≤ 0 → KW w G H0 m nL st tgt lo sk) (kf : ¬ x ≤ 0 → KW w G H0 m nL st (pc + 3) lo sk) : KW w G H0 m nL st pc lo (.int (iI x) :: sk) := by
  obtain ⟨p, l, e, s, args, below, meth, c, Q, cells, slots, rfl, rfl, hx, hb, hml, hown, hts, hK, hw, hc1, hc2⟩ := hE
  exact fun H locs ls hP hS hl => lv_if_le hx hb hd ht (fun h => kt (by rwa [iI_0, iI_le hxr in32_0] at h) H locs ls hP hS hl) (fun h => kf (by rwa [iI_0, iI_le hxr in32_0] at h) H locs ls hP hS hl)
theorem k_if_gt (hE : KE w G H0 m cc own nL R) {x off : Int} (tgt : Nat) (hd : decode cc pc = .ok (.ifCond .gt off, 3)) (ht : (pc : Int) + off = (tgt : Int)) (hxr : in32 x) (kt : 0 < x → KW w G H0 m nL st tgt lo sk) (kf : ¬ 0 < x → KW w G H0 m nL st (pc + 3) lo sk) : KW w G H0 m nL st pc lo (.int (iI x) :: sk) := by
  obtain ⟨p, l, e, s, args, below, meth, c, Q, cells, slots, rfl, rfl, hx, hb, hml, hown, hts, hK, hw, hc1, hc2⟩ := hE
  exact fun H locs ls hP hS hl => lv_if_gt hx hb hd ht (fun h => kt (by rwa [iI_0, iI_lt in32_0 hxr] at h) H locs ls hP hS hl) (fun h => kf (by rwa [iI_0, iI_lt in32_0 hxr] at h) H locs ls hP hS hl)
theorem k_if_ge (hE : KE w G H0 m cc own nL R) {x off : Int} (tgt : Nat) (hd : decode cc pc = .ok (.ifCond .ge off, 3)) (ht : (pc : Int) + off = (tgt : Int)) (hxr : in32 x) (kt : 0 ≤ x → KW w G H0 m nL st tgt lo sk) (kf : ¬ 0 ≤ x → KW w G H0 m nL st (pc + 3) lo sk) : KW w G H0 m nL st pc lo (.int (iI x) :: sk) := by
  obtain ⟨p, l, e, s, args, below, meth, c, Q, cells, slots, rfl, rfl, hx, hb, hml, hown, hts, hK, hw, hc1, hc2⟩ := hE
  exact fun H locs ls hP hS hl => lv_if_ge hx hb hd ht (fun h => kt (by rwa [iI_0, iI_le in32_0 hxr] at h) H locs ls hP hS hl) (fun h => kf (by rwa [iI_0, iI_le in32_0 hxr] at h) H locs ls hP hS hl)
theorem k_if_eq (hE : KE w G H0 m cc own nL R) {x off : Int} (tgt : Nat) (hd : decode cc pc = .ok (.ifCond .eq off, 3)) (ht : (pc : Int) + off = (tgt : Int)) (hxr : in32 x) (kt : x = 0 → KW w G H0 m nL st tgt lo sk) (kf : ¬ x = 0 → KW w G H0 m nL st (pc + 3) lo sk) : KW w G H0 m nL st pc lo (.int (iI x) :: sk) := by
  obtain ⟨p, l, e, s, args, below, meth, c, Q, cells, slots, rfl, rfl, hx, hb, hml, hown, hts, hK, hw, hc1, hc2⟩ := hE
  exact fun H locs ls hP hS hl => lv_if_eq hx hb hd ht (fun h => kt (by rwa [iI_0, iI_eq hxr in32_0] at h) H locs ls hP hS hl) (fun h => kf (by rwa [iI_0, iI_eq hxr in32_0] at h) H locs ls hP hS hl)
theorem k_if_ne (hE : KE w G H0 m cc own nL R) {x off : Int} (tgt : Nat) (hd : decode cc pc = .ok (.ifCond .ne off, 3)) (ht : (pc : Int) + off = (tgt : Int)) (hxr : in32 x) (kt : ¬ x = 0 → KW w G H0 m nL st tgt lo sk) (kf : x = 0 → KW w G H0 m nL st (pc + 3) lo sk) : KW w G H0 m nL st pc lo (.int (iI x) :: sk) := by
  obtain ⟨p, l, e, s, args, below, meth, c, Q, cells, slots, rfl, rfl, hx, hb, hml, hown, hts, hK, hw, hc1, hc2⟩ := hE
  exact fun H locs ls hP hS hl => lv_if_ne hx hb hd ht (fun h => kt (by rwa [iI_0, iI_eq hxr in32_0] at h) H locs ls hP hS hl) (fun h => kf (by rwa [iI_0, iI_eq hxr in32_0] at h) H locs ls hP hS hl)
theorem k_dup2 (hE : KE w G H0 m cc own nL R) {va vb : Value} (hd : decode cc pc = .ok (.dup2, 1)) (h1 : va.category = 1) (h2 : vb.category = 1) (k : KW w G H0 m nL st (pc + 1) lo (va :: vb :: va :: vb :: sk)) : KW w G H0 m nL st pc lo (va :: vb :: sk) := by
  obtain ⟨p, l, e, s, args, below, meth, c, Q, cells, slots, rfl, rfl, hx, hb, hml, hown, hts, hK, hw, hc1, hc2⟩ := hE
  exact fun H locs ls hP hS hl => lv_dup2_11 hx hb hd h1 h2 (k H locs ls hP hS hl)
theorem k_iret {rt : Option FieldType} {post : Option Value → σ → Prop} (hR : KR w G H0 m nL cc rt post) {z : Int32} (hd : decode cc pc = .ok (.ireturn, 1)) (ht : rt = some .int) (hp : post (some (.int z)) st) : KW w G H0 m nL st pc lo [.int z] :=
  hR.1 .int pc z st lo ht rfl hd hp
theorem k_zret {rt : Option FieldType} {post : Option Value → σ → Prop} (hR : KR w G H0 m nL cc rt post) {z : Int32} (hd : decode cc pc = .ok (.ireturn, 1)) (ht : rt = some .boolean) (hn : narrow .boolean (.int z) = .int z) (hp : post (some (.int z)) st) : KW w G H0 m nL st pc lo [.int z] :=
  hR.1 .boolean pc z st lo ht hn hd hp
theorem k_lret {rt : Option FieldType} {post : Option Value → σ → Prop} (hR : KR w G H0 m nL cc rt post) {z : Int64} (hd : decode cc pc = .ok (.lreturn, 1)) (ht : rt = some .long) (hp : post (some (.long z)) st) : KW w G H0 m nL st pc lo [.long z] :=
  hR.2.1 pc z st lo ht hd hp
theorem k_vret {rt : Option FieldType} {post : Option Value → σ → Prop} (hR : KR w G H0 m nL cc rt post) (hd : decode cc pc = .ok (.return_, 1)) (ht : rt = none) (hp : post none st) : KW w G H0 m nL st pc lo [] :=
  hR.2.2 pc st lo ht hd hp
theorem k_get (hE : KE w G H0 m cc own nL R) {a : Nat} {C ref nm ds : String} {T : u_T} {N idx : Nat} {fs : List Value} {v : Value} (q0 ci k : Nat) (he : (w.1 st)[q0]? = some (a, .inr (ci, fs))) (hc : vwCl[ci]? = some (C, T, N)) (hk : k < N) (hT : (T k).1 = ref ∧ (T k).2.1 = nm ∧ (T k).2.2.1 = ds) (hin : ∀ v ∈ u_ws C T N, v ∈ lw_gt) (hv : fs[k]? = some v) (hl : Cond.fieldLink own idx ref nm ds ∈ lw_gt) (hd : decode cc pc = .ok (.getfield idx, 3)) (k : KW w G H0 m nL st (pc + 3) lo (v :: sk)) : KW w G H0 m nL st pc lo (.ref a :: sk) := by
  obtain ⟨p, l, e, s, args, below, meth, c, Q, cells, slots, rfl, rfl, hx, hb, hml, hown, hts, hK, hw, hc1, hc2⟩ := hE
  obtain ⟨rfl, rfl, rfl⟩ := hT
  exact fun H locs ls hP hS hl0 => va_get (D := w.2.2.1) (ci := ci) hx hb hts hin hown hK hP q0 he hc _ hk (hts _ hl) (fun _ h9 => h9) hv hd (k H locs ls hP hS hl0)
theorem k_put (hE : KE w G H0 m cc own nL R) {a : Nat} {C ref nm ds : String} {T : u_T} {N idx : Nat} {fs : List Value} {v : Value} {ty : FieldType} {ty0 : Nat → FieldType} {st' : σ} (q0 ci k : Nat) (he : (w.1 st)[q0]? = some (a, .inr (ci, fs))) (hc : vwCl[ci]? = some (C, T, N)) (hk : k < N) (hT : (T k).1 = ref ∧ (T k).2.1 = nm ∧ (T k).2.2.1 = ds ∧ (T k).2.2.2 = false) (hin : ∀ v ∈ u_ws C T N, v ∈ lw_gt) (hty : ∀ k, k < N → parseFieldDescriptor (T k).2.2.1 = some (ty0 k)) (hnm : ∀ a, a < N → ∀ b, b < N → a ≠ b → (T a).2.1 ≠ (T b).2.1) (hpd : parseFieldDescriptor ds = some ty) (hnar : narrow ty v = v) (hfit : fits ty v = true) (hlen : k < fs.length) (hset : (w.1 st).set q0 (a, .inr (ci, fs.set k v)) = w.1 st') (hl : Cond.fieldLink own idx ref nm ds ∈ lw_gt) (hd : decode cc pc = .ok (.putfield idx, 3)) (kk : KW w G H0 m nL st' (pc + 3) lo sk) : KW w G H0 m nL st pc lo (v :: .ref a :: sk) := by
  obtain ⟨p, l, e, s, args, below, meth, c, Q, cells, slots, rfl, rfl, hx, hb, hml, hown, hts, hK, hw, hc1, hc2⟩ := hE
  obtain ⟨rfl, rfl, rfl, hfin⟩ := hT
  exact fun H locs ls hP hS hl0 => va_put (D := w.2.2.1) (ci := ci) hx hb hts hin ty0 hty hnm hown hK hP (hw.D s.heap.size st) hS q0 he hc k hk (hts _ hl) (fun _ h9 => h9) hfin hpd hnar hfit hlen hd (fun H1 locs1 hP1 hD1 hS1 => kk H1 locs1 ls (by rw [← hset]; exact hP1) hS1 hl0)
theorem k_iald (hE : KE w G H0 m cc own nL R) {a n : Nat} {cA : ClassId} {f : Nat → Int32} {i : Int} {z : Int32} (q0 t0 : Nat) (ha : (w.1 st)[q0]? = some (a, .inl (cA, n, .inl f))) (ht : w.2.2.2[t0]? = some (cA, .int)) (hn : n < 2147483648) (h0 : 0 ≤ i) (h1 : i < n) (hf : f i.toNat = z) (hd : decode cc pc = .ok (.iaload, 1)) (k : KW w G H0 m nL st (pc + 1) lo (.int z :: sk)) : KW w G H0 m nL st pc lo (.int (iI i) :: .ref a :: sk) := by
  obtain ⟨p, l, e, s, args, below, meth, c, Q, cells, slots, rfl, rfl, hx, hb, hml, hown, hts, hK, hw, hc1, hc2⟩ := hE
  subst hf
  exact fun H locs ls hP hS hl => va_iald (D := w.2.2.1) hx hb hK hP q0 t0 ha ht (iI_in h0 h1 hn) hd (by rw [iI_cl h0 (by omega)]; exact k H locs ls hP hS hl)
theorem k_iast (hE : KE w G H0 m cc own nL R) {a n : Nat} {cA : ClassId} {f : Nat → Int32} {i : Int} {z : Int32} {st' : σ} (q0 t0 : Nat) (ha : (w.1 st)[q0]? = some (a, .inl (cA, n, .inl f))) (ht : w.2.2.2[t0]? = some (cA, .int)) (hn : n < 2147483648) (h0 : 0 ≤ i) (h1 : i < n) (hset : (w.1 st).set q0 (a, .inl (cA, n, .inl (upd f i.toNat z))) = w.1 st') (hd : decode cc pc = .ok (.iastore, 1)) (k : KW w G H0 m nL st' (pc + 1) lo sk) : KW w G H0 m nL st pc lo (.int z :: .int (iI i) :: .ref a :: sk) := by
  obtain ⟨p, l, e, s, args, below, meth, c, Q, cells, slots, rfl, rfl, hx, hb, hml, hown, hts, hK, hw, hc1, hc2⟩ := hE
  exact fun H locs ls hP hS hl => va_iast (D := w.2.2.1) hx hb hK hP (hw.D s.heap.size st) hS q0 t0 ha ht (iI_in h0 h1 hn) hd (fun H1 locs1 hP1 hD1 hS1 => k H1 locs1 ls (by rw [← hset, ← iI_cl h0 (by omega)]; exact hP1) hS1 hl)
theorem k_zald (hE : KE w G H0 m cc own nL R) {a n : Nat} {cA : ClassId} {f : Nat → Int32} {i : Int} {z : Int32} (q0 t0 : Nat) (ha : (w.1 st)[q0]? = some (a, .inl (cA, n, .inl f))) (ht : w.2.2.2[t0]? = some (cA, .boolean)) (hn : n < 2147483648) (h0 : 0 ≤ i) (h1 : i < n) (hf : f i.toNat = z) (hd : decode cc pc = .ok (.baload, 1)) (k : KW w G H0 m nL st (pc + 1) lo (.int z :: sk)) : KW w G H0 m nL st pc lo (.int (iI i) :: .ref a :: sk) := by
  obtain ⟨p, l, e, s, args, below, meth, c, Q, cells, slots, rfl, rfl, hx, hb, hml, hown, hts, hK, hw, hc1, hc2⟩ := hE
  subst hf
  exact fun H locs ls hP hS hl => va_zald (D := w.2.2.1) hx hb hK hP q0 t0 ha ht (iI_in h0 h1 hn) hd (by rw [iI_cl h0 (by omega)]; exact k H locs ls hP hS hl)
theorem k_zast (hE : KE w G H0 m cc own nL R) {a n : Nat} {cA : ClassId} {f : Nat → Int32} {i : Int} {z : Int32} {st' : σ} (q0 t0 : Nat) (ha : (w.1 st)[q0]? = some (a, .inl (cA, n, .inl f))) (ht : w.2.2.2[t0]? = some (cA, .boolean)) (hn : n < 2147483648) (h0 : 0 ≤ i) (h1 : i < n) (hz : vp_nar .boolean z = z) (hset : (w.1 st).set q0 (a, .inl (cA, n, .inl (upd f i.toNat z))) = w.1 st') (hd : decode cc pc = .ok (.bastore, 1)) (k : KW w G H0 m nL st' (pc + 1) lo sk) : KW w G H0 m nL st pc lo (.int z :: .int (iI i) :: .ref a :: sk) := by
  obtain ⟨p, l, e, s, args, below, meth, c, Q, cells, slots, rfl, rfl, hx, hb, hml, hown, hts, hK, hw, hc1, hc2⟩ := hE
  exact fun H locs ls hP hS hl => va_zast (D := w.2.2.1) hx hb hK hP (hw.D s.heap.size st) hS q0 t0 ha ht (iI_in h0 h1 hn) hd (fun H1 locs1 hP1 hD1 hS1 => k H1 locs1 ls (by rw [← hset, ← iI_cl h0 (by omega)]; rw [hz] at hP1; exact hP1) hS1 hl)
theorem k_aald (hE : KE w G H0 m cc own nL R) {a n b : Nat} {cA : ClassId} {C : String} {f : Nat → Option Nat} {i : Int} (q0 t0 : Nat) (ha : (w.1 st)[q0]? = some (a, .inl (cA, n, .inr (.inr (.inr (.inr f)))))) (ht : w.2.2.2[t0]? = some (cA, .object C)) (hn : n < 2147483648) (h0 : 0 ≤ i) (h1 : i < n) (hf : f i.toNat = some b) (hd : decode cc pc = .ok (.aaload, 1)) (k : KW w G H0 m nL st (pc + 1) lo (.ref b :: sk)) : KW w G H0 m nL st pc lo (.int (iI i) :: .ref a :: sk) := by
  obtain ⟨p, l, e, s, args, below, meth, c, Q, cells, slots, rfl, rfl, hx, hb, hml, hown, hts, hK, hw, hc1, hc2⟩ := hE
  exact fun H locs ls hP hS hl => va_aldq (D := w.2.2.1) hx hb hK hP q0 t0 ha ht (iI_in h0 h1 hn) hd (by rw [iI_cl h0 (by omega), hf]; exact k H locs ls hP hS hl)
theorem iI_ifmax {x y : Int} (hx : in32 x) (hy : in32 y) : (if iI x < iI y then iI y else iI x) = iI (max x y) := by
  by_cases h : x < y
  · rw [if_pos ((iI_lt hx hy).mpr h), Int.max_eq_right (by omega)]
  · rw [if_neg (fun h2 => h ((iI_lt hx hy).mp h2)), Int.max_eq_left (by omega)]
theorem iI_ifmin {x y : Int} (hx : in32 x) (hy : in32 y) : (if iI y < iI x then iI y else iI x) = iI (min x y) := by
  by_cases h : y < x
  · rw [if_pos ((iI_lt hy hx).mpr h), Int.min_eq_right (by omega)]
  · rw [if_neg (fun h2 => h ((iI_lt hy hx).mp h2)), Int.min_eq_left (by omega)]
theorem tb_max : Cond.static Lib.Math.max.name ∈ lw_gt ∧ Cond.code Lib.Math.max.name Lib.Math.max.code 2 (some .int) ∈ lw_gt := by decide +kernel
theorem tb_min : Cond.static Lib.Math.min.name ∈ lw_gt ∧ Cond.code Lib.Math.min.name Lib.Math.min.code 2 (some .int) ∈ lw_gt := by decide +kernel
theorem tb_math : Cond.initialized "java/lang/Math" ∈ lw_gt := by decide +kernel
theorem k_max (hE : KE w G H0 m cc own nL R) {idx : Nat} {x y : Int} (hl : Cond.methodLink own idx Lib.Math.max.name ∈ lw_gt) (hd : decode cc pc = .ok (.invokestatic idx, 3)) (hxr : in32 x) (hyr : in32 y) (hf : 1 ≤ R.frames) (hlo : (sk.map fun v => v.category).sum + 13 ≤ R.locals) (k : KW w G H0 m nL st (pc + 3) lo (.int (iI (max x y)) :: sk)) : KW w G H0 m nL st pc lo (.int (iI y) :: .int (iI x) :: sk) := by
  obtain ⟨p, l, e, s, args, below, meth, c, Q, cells, slots, rfl, rfl, hx, hb, hml, hown, hts, hK, hw, hc1, hc2⟩ := hE
  exact fun H locs ls hP hS hl0 => va_mmax hx hb (hml.trans hl0.1.symm) hown (hts _ hl) (hts _ tb_max.1) (hts _ tb_math) (hts _ tb_max.2) hf hlo hc1 hc2 hd (by rw [iI_ifmax hxr hyr]; exact k H locs ls hP hS hl0)
theorem k_min (hE : KE w G H0 m cc own nL R) {idx : Nat} {x y : Int} (hl : Cond.methodLink own idx Lib.Math.min.name ∈ lw_gt) (hd : decode cc pc = .ok (.invokestatic idx, 3)) (hxr : in32 x) (hyr : in32 y) (hf : 1 ≤ R.frames) (hlo : (sk.map fun v => v.category).sum + 13 ≤ R.locals) (k : KW w G H0 m nL st (pc + 3) lo (.int (iI (min x y)) :: sk)) : KW w G H0 m nL st pc lo (.int (iI y) :: .int (iI x) :: sk) := by
  obtain ⟨p, l, e, s, args, below, meth, c, Q, cells, slots, rfl, rfl, hx, hb, hml, hown, hts, hK, hw, hc1, hc2⟩ := hE
  exact fun H locs ls hP hS hl0 => va_mmin hx hb (hml.trans hl0.1.symm) hown (hts _ hl) (hts _ tb_min.1) (hts _ tb_math) (hts _ tb_min.2) hf hlo hc1 hc2 hd (by rw [iI_ifmin hxr hyr]; exact k H locs ls hP hS hl0)
theorem tbl_in {y : MethodName} {b : ByteArray} {n : Nat} {rt : Option FieldType} (h : Cond.code y b n rt ∈ lw_gt) : GoodIn lw_gt (.code y b n rt :: lw_gt) := by
  intro v hv
  have hm : v ∈ lw_gt := by
    rcases List.mem_cons.mp hv with rfl | h2
    · exact h
    · exact h2
  exact ⟨hm, good_of_word (gt_good hm)⟩
/-- a method's words: an instance method, a static one -/
def MF (y : MethodName) (C : String) (b : ByteArray) (nl : Nat) (rt : Option FieldType) (n : Nat) : Prop := Cond.instanceMethod y ∈ lw_gt ∧ Cond.selects C y y ∈ lw_gt ∧ Cond.initialized C ∈ lw_gt ∧ Cond.code y b nl rt ∈ lw_gt ∧ y.cls = C ∧ y.cls ≠ "java/lang/invoke/MethodHandle" ∧ y.cls ≠ "java/lang/invoke/VarHandle" ∧ (parseMethodDescriptor y.desc).map (fun d => d.parameters.length) = some n
def MS (y : MethodName) (C : String) (b : ByteArray) (nl : Nat) (rt : Option FieldType) (n : Nat) : Prop := Cond.static y ∈ lw_gt ∧ Cond.initialized C ∈ lw_gt ∧ Cond.code y b nl rt ∈ lw_gt ∧ y.cls = C ∧ y.cls ≠ "java/lang/invoke/MethodHandle" ∧ y.cls ≠ "java/lang/invoke/VarHandle" ∧ (parseMethodDescriptor y.desc).map (fun d => d.parameters.length) = some n
theorem AA_mono {ads : List Nat} {a b : Nat} (h : a ≤ b) : ∀ q, AA ads b q → AA ads a q := fun q hq => hq.elim Or.inl (fun h2 => Or.inr (Nat.le_trans h h2))
set_option maxHeartbeats 4000000 in
theorem k_callV (hE : KE w G H0 m cc own nL R) {y : MethodName} {C : String} {bytes : ByteArray} {maxL n idx b ci : Nat} {ret : Option FieldType} {rm : Room} {As : List Value} {post : Option Value → σ → Prop} {fs : List Value} {qc : vw_C} (hM : MC w y bytes maxL ret rm (.ref b :: As) st post) (hY : MF y C bytes maxL ret n) (hl : Cond.methodLink own idx y ∈ lw_gt) (q0 : Nat) (hrv : (w.1 st)[q0]? = some (b, .inr (ci, fs))) (hci : vwCl[ci]? = some qc) (hC : qc.1 = C) (hn : As.length = n) (hrm : rm.cells = 0 ∧ rm.slots = 0 ∧ rm.frames + 1 ≤ R.frames ∧ 8 + (maxL + 11) + rm.locals ≤ R.locals) (rest : List Value) (hr8 : (rest.map fun v => v.category).sum ≤ 8) (hd : decode cc pc = .ok (.invokevirtual idx, 3)) (hsk : sk = As.reverse ++ .ref b :: rest) (k : ∀ (rv : Option Value) (u : σ), post rv u → KW w G H0 m nL u (pc + 3) lo (rv.toList ++ rest)) : KW w G H0 m nL st pc lo sk := by
  obtain ⟨p, l, e, s, args, below, meth, c, Q, cells, slots, rfl, rfl, hx, hb, hml, hown, hts, hK, hw, hc1, hc2⟩ := hE
  subst hsk
  intro H locs ls hP hS hl0
  obtain ⟨y1, y2, y3, y4, y5, y6, y7, y8⟩ := hY
  have hrun := va_runV (H := H) (locs := locs) (cells := cells) (slots := slots) (below := below) (meth := meth) (e := e) (R := R) (g := F0 m pc ls (As.reverse ++ .ref b :: rest)) (rest := rest) (Ts := lw_gt) ⟨hx, hb, hml, hown, hts⟩ (hM hw l H.size) ⟨callB_of n hts (tbl_in y4) rfl hrm.1 hrm.2.1 (hts _ (by rw [y5]; exact y3)) (hts _ hl) ⟨y6, y7, y8⟩ hrm.2.2, hts _ y1, hts _ y2⟩ ⟨fun a U g mk q => by obtain ⟨q0, q1, qP, qK⟩ := q; exact ⟨q0, q1, qP, va_K.moved (u := U) (U := U.calling g mk a) (Vm.Alike.refl U.vm) qK⟩, by rw [← hC]; exact va_recv hK hP hci hrv, fun U hU hW => ⟨rfl, by rw [hU], by rw [hU]; exact hP, va_K.moved hW.alike hK⟩⟩ rfl hn hl0.1 rfl (lv_room hr8) hd ⟨hc1, hc2⟩
  intro T hT X
  obtain ⟨v, st₀, t, T', L, h0, X', hL, e1, e2, ⟨⟨rv, u, hv, hp, hP1⟩, hz, hk⟩, stp⟩ := hrun T hT X
  cases hv
  rw [h0] at hz hk
  have hm1 : ∀ q, AA w.2.1 H.size q → AA w.2.1 s.heap.size q := AA_mono hS.1
  obtain ⟨t2, a1, b1⟩ := k _ u hp T'.heap (locs ++ L) ls (by rw [e1]; exact hP1) ⟨Nat.le_trans hS.1 (by rw [e1]; exact hz), fun q h1 h2 => by rw [e1, hk q (Nat.lt_of_lt_of_le h1 hS.1) (fun z => h2 (hm1 q z))]; exact hS.2.1 q h1 h2, fun q hq => by
      rcases List.mem_append.mp hq with h | h
      · exact hS.2.2 q h
      · exact hm1 _ (hL q h)⟩ hl0 T' rfl X'
  exact ⟨t2, stp t2 a1, b1⟩
set_option maxHeartbeats 4000000 in
theorem k_callS (hE : KE w G H0 m cc own nL R) {y : MethodName} {C : String} {bytes : ByteArray} {maxL n idx : Nat} {ret : Option FieldType} {rm : Room} {As : List Value} {post : Option Value → σ → Prop} (hM : MC w y bytes maxL ret rm As st post) (hY : MS y C bytes maxL ret n) (hl : Cond.methodLink own idx y ∈ lw_gt) (hn : As.length = n) (hrm : rm.cells = 0 ∧ rm.slots = 0 ∧ rm.frames + 1 ≤ R.frames ∧ 8 + (maxL + 11) + rm.locals ≤ R.locals) (rest : List Value) (hr8 : (rest.map fun v => v.category).sum ≤ 8) (hd : decode cc pc = .ok (.invokestatic idx, 3)) (hsk : sk = As.reverse ++ rest) (k : ∀ (rv : Option Value) (u : σ), post rv u → KW w G H0 m nL u (pc + 3) lo (rv.toList ++ rest)) : KW w G H0 m nL st pc lo sk := by
  obtain ⟨p, l, e, s, args, below, meth, c, Q, cells, slots, rfl, rfl, hx, hb, hml, hown, hts, hK, hw, hc1, hc2⟩ := hE
  subst hsk
  intro H locs ls hP hS hl0
  obtain ⟨y1, y3, y4, y5, y6, y7, y8⟩ := hY
  have hrun := va_runS (H := H) (locs := locs) (cells := cells) (slots := slots) (below := below) (meth := meth) (e := e) (R := R) (g := F0 m pc ls (As.reverse ++ rest)) (rest := rest) (Ts := lw_gt) ⟨hx, hb, hml, hown, hts⟩ (hM hw l H.size) ⟨callB_of n hts (tbl_in y4) rfl hrm.1 hrm.2.1 (hts _ (by rw [y5]; exact y3)) (hts _ hl) ⟨y6, y7, y8⟩ hrm.2.2, hts _ y1⟩ ⟨fun a U g mk q => by obtain ⟨q0, q1, qP, qK⟩ := q; exact ⟨q0, q1, qP, va_K.moved (u := U) (U := U.calling g mk a) (Vm.Alike.refl U.vm) qK⟩, fun U hU hW => ⟨rfl, by rw [hU], by rw [hU]; exact hP, va_K.moved hW.alike hK⟩⟩ rfl hn hl0.1 rfl (lv_room hr8) hd ⟨hc1, hc2⟩
  intro T hT X
  obtain ⟨v, st₀, t, T', L, h0, X', hL, e1, e2, ⟨⟨rv, u, hv, hp, hP1⟩, hz, hk⟩, stp⟩ := hrun T hT X
  cases hv
  rw [h0] at hz hk
  have hm1 : ∀ q, AA w.2.1 H.size q → AA w.2.1 s.heap.size q := AA_mono hS.1
  obtain ⟨t2, a1, b1⟩ := k _ u hp T'.heap (locs ++ L) ls (by rw [e1]; exact hP1) ⟨Nat.le_trans hS.1 (by rw [e1]; exact hz), fun q h1 h2 => by rw [e1, hk q (Nat.lt_of_lt_of_le h1 hS.1) (fun z => h2 (hm1 q z))]; exact hS.2.1 q h1 h2, fun q hq => by
      rcases List.mem_append.mp hq with h | h
      · exact hS.2.2 q h
      · exact hm1 _ (hL q h)⟩ hl0 T' rfl X'
  exact ⟨t2, stp t2 a1, b1⟩
end KROWS2
