set_option maxHeartbeats 4000000 in
set_option maxRecDepth 100000 in
theorem whole_start {p : Program} {e : Env} {s : State} {m : MethodId} {below : List Frame} {meth : Method} {c : Code} (l : Launch) {b L : Nat} {xs : Nat → Int32} (hL : L ≤ 3072) (C0 : lw_At p s m meth c b L xs) : W p l e room_1 s m #[Value.ref b] below meth c s.heap [] 0 0 (lw_Z below #[Value.ref b] s) (entryFrame m ([Value.ref b] : List Value).toArray 4) := by
  obtain ⟨hx, hb, hr, hml, hown, hts, hX, hbl, hlocks, hgv⟩ := id C0
  have htg : ∀ v ∈ lw_gt, v.before #[Value.ref b] s = true := fun v hv => hts v (List.mem_filter.mp hv).1
  obtain ⟨D, cI, cT, cS, cZ, hK, hKX⟩ := law_K hts
  have hl := lv_entry ([.ref b]) (n := 4) (Nat.le_of_ble_eq_true rfl)
  rw [lg_entry_eq]
  generalize (lg_sl ([.ref b]) ++ List.replicate (4 - (lg_sl ([.ref b])).length) Slot.unset).toArray = ls at hl ⊢
  have hl : lv_has ls 4 [(0, .ref b)] := hl
  obtain ⟨GF, hGF⟩ : ∃ GF : Nat → Nat → Heap → List Loc → JFrame → Prop, GF = (fun cells slots H locs g => W p l e room_1 s m #[Value.ref b] below meth c H locs cells slots (lw_Z below #[Value.ref b] s) g) := ⟨_, rfl⟩
  have hE : NE D (tyA cI cT cS cZ) (fun q => s.heap.size ≤ q) GF s.heap m cL_law RL 4 room_1 false := ⟨p, l, e, s, _, below, meth, c, _, hGF, rfl, hx, hb, hml, hown, htg, hK, hKX, fun _ h => h, fun h => by cases h⟩
  have key : NW D (fun q => s.heap.size ≤ q) GF s.heap m 4 0 0 [] 0 [(0, .ref b)] [] := by
    refine n_new hE (ws' := fun q => [(q, .inr (5, [.null, .null, .null, .null, .int (iI 0), .int (iI 0)]))]) 5 rfl uw_X6 tyX6 tyX6_ok ck_L_7 in_X6 ii_X6 df_X6 (Nat.le_of_ble_eq_true rfl) (Nat.le_of_ble_eq_true rfl) (fun _ => rfl) dL_law_0 (fun q0 => ?_)
    refine n_dup hE dL_law_3 rfl ?_
    refine n_callI hE (wr := []) (ws' := fun u => xW (fun k => u k) (fun i => u (13 + i.toNat)) (fun i => u (19 + i.toNat)) (fun i => u (23 + i.toNat)) cI cT cS Z0) (c_X6_init q0) mi_X6 ml_L_9 rfl ⟨rfl, rfl, (Nat.le_of_ble_eq_true rfl), (Nat.le_of_ble_eq_true rfl)⟩ [0] [] rfl rfl rfl rfl rfl (by decide) (Nat.le_of_ble_eq_true rfl) (Nat.le_of_ble_eq_true rfl) [.ref q0] (Nat.le_of_ble_eq_true rfl) (fun _ => rfl) dL_law_4 rfl (fun u hu => ?_)
    refine n_astore_n hE dL_law_7 [1, 0] rfl (Nat.le_of_ble_eq_true rfl) (lo' := [(0, .ref b), (1, .ref q0)]) rfl ?_
    refine n_new hE (ws' := fun q => xW (fun k => u k) (fun i => u (13 + i.toNat)) (fun i => u (19 + i.toNat)) (fun i => u (23 + i.toNat)) cI cT cS Z0 ++ [(q, .inr (6, [.int (iI 0), .int (iI 0), .null, .null, .null, .int (iI 0), .int (iI 0), .int (iI 0), .null, .null, .null, .null, .int (iI 0), .null, .int (iI 0), .int (iI 0), .int (iI 0), .int (iI 0), .int (iI 0), .int (iI 0), .int (iI 0), .null, .null, .null, .null, .null, .null, .null, .int (iI 0), .int (iI 0), .int (iI 0), .int (iI 0), .int (iI 0), .int (iI 0), .null, .int (iI 0), .null, .null]))]) 6 rfl uw_X7 tyX7 tyX7_ok ck_L_10 in_X7 ii_X7 df_X7 (Nat.le_of_ble_eq_true rfl) (Nat.le_of_ble_eq_true rfl) (fun _ => rfl) dL_law_8 (fun q1 => ?_)
    refine n_dup hE dL_law_11 rfl ?_
    refine n_callI hE (wr := xW (fun k => u k) (fun i => u (13 + i.toNat)) (fun i => u (19 + i.toNat)) (fun i => u (23 + i.toNat)) cI cT cS Z0) (ws' := fun u2 => xW (fun k => u k) (fun i => u (13 + i.toNat)) (fun i => u (19 + i.toNat)) (fun i => u (23 + i.toNat)) cI cT cS Z0 ++ mW u2 cI cZ Zm) (c_X7_init q1) mi_X7 ml_L_12 rfl ⟨rfl, rfl, (Nat.le_of_ble_eq_true rfl), (Nat.le_of_ble_eq_true rfl)⟩ [27] [0, 1, 2, 3, 4, 5, 6, 7, 8, 9, 10, 11, 12, 13, 14, 15, 16, 17, 18, 19, 20, 21, 22, 23, 24, 25, 26] rfl rfl rfl rfl rfl (by decide) (Nat.le_of_ble_eq_true rfl) (Nat.le_of_ble_eq_true rfl) [.ref q1] (Nat.le_of_ble_eq_true rfl) (fun _ => rfl) dL_law_12 rfl (fun u2 hu2 => ?_)
    refine n_astore_n hE dL_law_15 [1, 2, 0] rfl (Nat.le_of_ble_eq_true rfl) (lo' := [(0, .ref b), (1, .ref q0), (2, .ref q1)]) rfl ?_
    refine n_iconst hE dL_law_16 ?_
    refine n_istore_n hE dL_law_17 [1, 2, 3, 0] rfl (Nat.le_of_ble_eq_true rfl) (lo' := [(0, .ref b), (1, .ref q0), (2, .ref q1), (3, .int (iI 0))]) rfl ?_
    subst hu
    subst hu2
    intro H locs ls hP hD hS hl
    have hin : ∀ x : Nat, x ∈ (wpair (xw (fun k => u k) (fun i => u (13 + i.toNat)) (fun i => u (19 + i.toNat)) (fun i => u (23 + i.toNat)) D cI cT cS) (mw u2 D cI cZ)).2.1 → s.heap.size ≤ x := by
      intro x hx2
      obtain ⟨i, hi⟩ := List.getElem?_of_mem hx2
      have h5 : ((xW (fun k => u k) (fun i => u (13 + i.toNat)) (fun i => u (19 + i.toNat)) (fun i => u (23 + i.toNat)) cI cT cS Z0 ++ mW u2 cI cZ Zm).map Prod.fst)[i]? = some x := hi
      rw [List.getElem?_map] at h5
      obtain ⟨q, hq, hqx⟩ := Option.map_eq_some_iff.mp h5
      have h6 := hD.2 i q hq
      rw [hqx] at h6
      exact h6
    have hbA : ¬ AA (wpair (xw (fun k => u k) (fun i => u (13 + i.toNat)) (fun i => u (19 + i.toNat)) (fun i => u (23 + i.toNat)) D cI cT cS) (mw u2 D cI cZ)).2.1 s.heap.size b := fun h => h.elim (fun h1 => absurd (hin b h1) (Nat.not_le.mpr hbl)) (fun h1 => absurd h1 (Nat.not_le.mpr hbl))
    have hWO : WOK (wpair (xw (fun k => u k) (fun i => u (13 + i.toNat)) (fun i => u (19 + i.toNat)) (fun i => u (23 + i.toNat)) D cI cT cS) (mw u2 D cI cZ)) := by
      refine ⟨fun _ => rfl, fun i j x hi hj => ?_⟩
      have h5 : ((xW (fun k => u k) (fun i => u (13 + i.toNat)) (fun i => u (19 + i.toNat)) (fun i => u (23 + i.toNat)) cI cT cS Z0 ++ mW u2 cI cZ Zm).map Prod.fst)[i]? = some x := hi
      have h6 : ((xW (fun k => u k) (fun i => u (13 + i.toNat)) (fun i => u (19 + i.toNat)) (fun i => u (23 + i.toNat)) cI cT cS Z0 ++ mW u2 cI cZ Zm).map Prod.fst)[j]? = some x := hj
      rw [List.getElem?_map] at h5 h6
      obtain ⟨q, hq, hqx⟩ := Option.map_eq_some_iff.mp h5
      obtain ⟨q2, hq2, hqx2⟩ := Option.map_eq_some_iff.mp h6
      exact hD.1 i j q q2 hq hq2 (hqx.trans hqx2.symm)
    have hS2 : va_S (AA (wpair (xw (fun k => u k) (fun i => u (13 + i.toNat)) (fun i => u (19 + i.toNat)) (fun i => u (23 + i.toNat)) D cI cT cS) (mw u2 D cI cZ)).2.1 s.heap.size) s.heap H locs := ⟨hS.1, fun q h1 h2 => hS.2.1 q h1 (fun h3 => h2 (Or.inr h3)), fun q hq => Or.inr (hS.2.2 q hq)⟩
    have hE2 : KE (wpair (xw (fun k => u k) (fun i => u (13 + i.toNat)) (fun i => u (19 + i.toNat)) (fun i => u (23 + i.toNat)) D cI cT cS) (mw u2 D cI cZ)) (GF (0 + 1 + 26 + 1 + 18) (0 + 6 + 417 + 38 + 425)) s.heap m cL_law RL 4 room_1 := ⟨p, l, e, s, _, below, meth, c, _, (0 + 1 + 26 + 1 + 18), (0 + 6 + 417 + 38 + 425), by rw [hGF], rfl, hx, hb, hml, hown, htg, hK, hWO, (Nat.le_of_ble_eq_true rfl), (Nat.le_of_ble_eq_true rfl)⟩
    have hKS : KS (wpair (xw (fun k => u k) (fun i => u (13 + i.toNat)) (fun i => u (19 + i.toNat)) (fun i => u (23 + i.toNat)) D cI cT cS) (mw u2 D cI cZ)) (GF (0 + 1 + 26 + 1 + 18) (0 + 6 + 417 + 38 + 425)) s.heap m 4 cL_law b (L : Int) (fun j => (xs j.toNat).toInt) := by
      rw [hGF]
      refine ⟨fun pc i st lo sk hd h0 h1 k => ?_, fun pc st lo sk hd k => ?_⟩
      · intro H locs ls hP hS hl
        refine va_sld hx hb hX hbl hbA hS (iI_in h0 h1 (by omega)) hd ?_
        rw [iI_cl h0 (by omega)]
        have h5 := k H locs ls hP hS hl
        rw [iI_toInt] at h5
        exact h5
      · intro H locs ls hP hS hl
        refine va_slen hx hb hX hbl hbA hS hd ?_
        rw [iI_nat hL]
        exact k H locs ls hP hS hl
    have hend : ∀ (st : Sg × Sg) (lo : List (Nat × Value)), KW (wpair (xw (fun k => u k) (fun i => u (13 + i.toNat)) (fun i => u (19 + i.toNat)) (fun i => u (23 + i.toNat)) D cI cT cS) (mw u2 D cI cZ)) (GF (0 + 1 + 26 + 1 + 18) (0 + 6 + 417 + 38 + 425)) s.heap m 4 st 1219 lo [.int (iI 1)] := by
      rw [hGF]
      intro st lo H locs ls hP hS hl
      refine va_forget (fun q hq => (hS.2.2 q hq).elim (hin _) id) ?_
      refine W.widen (k := 600000) (n := 7302250) (Nat.le_of_ble_eq_true rfl) (Nat.le_of_ble_eq_true rfl) ?_
      exact lw_ret hx hb hr hlocks dL_law_1219
    exact L_loop hE2 hKS (by omega) (fun j _ _ => iI_rng _) (by omega) hend (L + 1) 0 Z0 Zm Z_RL (by omega) (by omega) (by omega) H locs ls hP hS2 hl
  have h9 := key s.heap [] ls (fun k q h => by simp at h) ⟨fun i j p q h => by simp at h, fun k q h => by simp at h⟩ va_S.rf hl
  rw [hGF] at h9
  exact h9
set_option maxHeartbeats 4000000 in
theorem lw_walk (l : Launch) (b : Addr) (xs : List Int32) : MetFree l x (headSpec (Jvm.Cond.code x code maxLocals ret :: tables_1) room_1) (lw_P b xs) (fun _ _ _ _ _ => True) lw_Q := by
  refine MetFree.of_bodyS (code := code) (maxLocals := maxLocals) (ret := ret) (by decide) ?_ ?_
  · intro args s m h hn
    obtain ⟨meth, c, h1, h2, h3, h4, h5, h6, -, -⟩ := Cond.code_spec hn (atoms_spec (ws := Jvm.Cond.code x code maxLocals ret :: tables_1) h _ List.mem_cons_self)
    exact ⟨meth, c, h1, h2, h3, h4, h5, h6⟩
  · intro p e s m args below meth c s₁ B hml0 hP _
    obtain ⟨rfl, hx, hbd, hgv⟩ := hP
    obtain ⟨scr, harrAt, hlist, hof, hsmall⟩ := hx
    obtain ⟨hcb, hkn, -, -⟩ := State.arrayAt?_spec harrAt
    have hown : s.vm.findClass R_law = some m.cls := findClass_of_methodNamed B.named
    have hts0 : ∀ c ∈ (Jvm.Cond.code x code maxLocals ret :: tables_1), c.before #[Value.ref b] s = true := atoms_spec (ws := Jvm.Cond.code x code maxLocals ret :: tables_1) B.pre
    have hts : ∀ w ∈ lw_tbl, w.before #[Value.ref b] s = true := k2_hts_sels lw_privs (fun w hw => hts0 w (List.mem_cons_of_mem _ hw)) lw_privs_ok
    have hml : c.maxLocals = 4 := B.maxLocals_eq (hts0 _ List.mem_cons_self)
    have X₀ : Stand p l e room_1 s m #[Value.ref b] below meth c s₁ [] 0 0 := Stand.of_body B
    have hh0 : s₁.heap = s.heap := by rw [B.state]; rfl
    have hsz : scr.slots.size = xs.length := by rw [← Array.length_toList, hlist, List.length_map]
    have hval : ∀ j : Nat, j < xs.length → scr.slots[j]? = some (.int (xs.getD j 0)) := fun j hj => by
      rw [← Array.getElem?_toList, hlist]
      simp [hj]
    have hbl : b < s.heap.size := (Array.getElem?_eq_some_iff.mp hcb).1
    have hX : va_X b xs.length (fun j => xs.getD j 0) s s.heap := ⟨scr, hcb, hof, hkn, hsz, hval⟩
    have K : W p l e room_1 s m #[Value.ref b] below meth c s₁.heap [] 0 0 (lw_Z below #[Value.ref b] s) (entryFrame m ([Value.ref b] : List Value).toArray 4) := by
      rw [hh0]
      exact whole_start l hbd ⟨B.exec, B.bytes, B.returns, hml, hown, hts, hX, hbl, B.notSynchronized, hgv⟩
    obtain ⟨t, a1, o, b1, b2, b3⟩ := K s₁ rfl X₀
    exact ⟨t, o, a1, b1, b2, b3⟩
theorem lw_pre_spec {args : Array Value} {s : State} (h : (Jvm.Cond.and given_1 narrow_1).before args s = true) (hr : rest_1_c.before args s = true) : ∃ (b : Addr) (xs : List Int32), lw_P b xs args s := by
  have hs := flat_of_before _ h
  have hq := flat_of_before _ hr
  have hc : (Cond.count 1).before args s = true := hs _ (by decide +kernel)
  have harr : (Cond.arrayOf (.arg 0) .int).before args s = true := hs _ (by decide +kernel)
  have hle : (Cond.le (.length (.arg 0)) (.int 3072)).before args s = true := hs _ (by decide +kernel)
  have hlen : (Cond.isInt (.length (.arg 0))).before args s = true := hq _ (by decide +kernel)
  have hall : (Cond.all (.arg 0) (.isInt (.elem (.arg 0) (.index 0)))).before args s = true := hq _ (by decide +kernel)
  obtain ⟨b, xs, hb, hx⟩ := State.ints_of_pre rfl harr hlen hall
  have hsm : xs.length < 2 ^ 31 := hx.choose_spec.2.2.2
  have hev : (Term.length (.arg 0)).eval args s none [] s = some (.int xs.length.toInt32) := hx.length_eval hb
  have hv := Cond.le_ints hev (show (Term.int 3072).eval args s none [] s = some (.int 3072) from rfl)
  have hd : xs.length.toInt32 ≤ 3072 := by
    simpa [Cond.before, Cond.holds, hv] using hle
  have hN : xs.length ≤ 3072 := (Int32.ofNat_le_ofNat hsm (by decide)).mp (show Int32.ofNat xs.length ≤ Int32.ofNat 3072 from hd)
  exact ⟨b, xs, Cond.one_arg hc (show args[0]? = some (.ref b) from hb), hx, hN, h⟩
theorem lw_comes (l : Launch) : Comes l x (Jvm.Cond.code x code maxLocals ret :: tables_1) room_1 (fun tb e args s => Calls_1 tb e args s ∧ rest_1 tb e args s ∧ Pre_1 tb e args s)
    (fun _ _ args s o t => lw_Q args s o t) := by
  intro p e ha hc hk s m args below hf hfit hheap happ hpre
  obtain ⟨b, xs, hP⟩ := lw_pre_spec hpre.2.2 hpre.2.1
  obtain ⟨k, o, h1, h2, h3, hQ⟩ := lw_walk l b xs p e ha hc hk s m args below hf ((Spec.applies_iff_loose hf).mp happ).1 hP trivial
  exact ⟨k, o, h1, h2, h3, hQ⟩
theorem lw_frame {s t : State} {o : Outcome} {args : Array Value} (h : Framed s o t [] 600000 7302250) :
    Framed s o t (fieldLocs frame_1_writes args s ++ arrayLocs frame_1_arrays args s ++ staticLocs frame_1_statics s) 600000 7302250 := h
theorem lw_limb (L : Cond) (hL : ∀ (args : Array Value) (s t : State), L.after args s (.returned (some (.int 1))) t = true) :
    ArmFor flags0 classFile x code maxLocals ret World_1 tables_1 room_1 Calls_1 rest_1 Pre_1
      (fun tb e a s o t => postC L tb e a s o t ∧ Framed s o t (fieldLocs frame_1_writes a s ++ arrayLocs frame_1_arrays a s ++ staticLocs frame_1_statics s) 600000 7302250) := by
  intro l _ _ _ p e ha hc hk s m args below hf hfit hheap happ hpre
  obtain ⟨k, o, h1, h2, h3, rfl, hF⟩ := lw_comes l p e ha hc hk s m args below hf hfit hheap happ hpre
  exact ⟨k, _, h1, h2, h3, hL args s _, lw_frame hF⟩
theorem i_vc : Claimed_1_1 ∧ Claimed_1_2 := ⟨lw_limb limb_1_1 (fun args s t => by simp [limb_1_1, Cond.after, Cond.holds, Cond.value]), lw_limb limb_1_2 (fun args s t => Cond.after_iff.mpr (by
  first | (rw [show limb_1_2 = Cond.eq .result (.int 1) from rfl, Cond.eq_ints (x := 1) (y := 1) rfl rfl]; simp; done) | (simp [limb_1_2, Cond.value, Term.eval]; done)))⟩
