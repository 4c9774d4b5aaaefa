/-! two worlds side by side: calls on the left, on the right -/
abbrev wpair {σ τ : Type} (w1 : WD σ) (w2 : WD τ) : WD (σ × τ) := (fun s => w1.1 s.1 ++ w2.1 s.2, w1.2.1 ++ w2.2.1, w1.2.2.1, w1.2.2.2 ++ w2.2.2.2)
theorem va_K_l {D : va_G} {cl : List vw_C} {t1 t2 : List (ClassId × FieldType)} {U : State} (h : va_K D cl (t1 ++ t2) U) : va_K D cl t1 U :=
  ⟨h.1, fun k q hk => h.2 k q (by rw [List.getElem?_append_left (List.getElem?_eq_some_iff.mp hk).1]; exact hk)⟩
theorem va_K_r {D : va_G} {cl : List vw_C} {t1 t2 : List (ClassId × FieldType)} {U : State} (h : va_K D cl (t1 ++ t2) U) : va_K D cl t2 U :=
  ⟨h.1, fun k q hk => h.2 (t1.length + k) q (by rw [List.getElem?_append_right (Nat.le_add_right _ _), Nat.add_sub_cancel_left]; exact hk)⟩
theorem va_P_l {D : va_G} {cl : List vw_C} {a b : va_W} {H : Heap} (h : va_P D cl (a ++ b) H) : va_P D cl a H :=
  fun k q hk => h k q (by rw [List.getElem?_append_left (List.getElem?_eq_some_iff.mp hk).1]; exact hk)
theorem va_P_r {D : va_G} {cl : List vw_C} {a b : va_W} {H : Heap} (h : va_P D cl (a ++ b) H) : va_P D cl b H :=
  fun k q hk => h (a.length + k) q (by rw [List.getElem?_append_right (Nat.le_add_right _ _), Nat.add_sub_cancel_left]; exact hk)
theorem inj_l {a b : List Nat} (h : ∀ (i j x : Nat), (a ++ b)[i]? = some x → (a ++ b)[j]? = some x → i = j) : ∀ (i j x : Nat), a[i]? = some x → a[j]? = some x → i = j :=
  fun i j x hi hj => h i j x (by rw [List.getElem?_append_left (List.getElem?_eq_some_iff.mp hi).1]; exact hi) (by rw [List.getElem?_append_left (List.getElem?_eq_some_iff.mp hj).1]; exact hj)
theorem inj_r {a b : List Nat} (h : ∀ (i j x : Nat), (a ++ b)[i]? = some x → (a ++ b)[j]? = some x → i = j) : ∀ (i j x : Nat), b[i]? = some x → b[j]? = some x → i = j :=
  fun i j x hi hj => by
    have h5 := h (a.length + i) (a.length + j) x (by rw [List.getElem?_append_right (Nat.le_add_right _ _), Nat.add_sub_cancel_left]; exact hi) (by rw [List.getElem?_append_right (Nat.le_add_right _ _), Nat.add_sub_cancel_left]; exact hj)
    omega
theorem inj_x {a b : List Nat} (h : ∀ (i j x : Nat), (a ++ b)[i]? = some x → (a ++ b)[j]? = some x → i = j) {x : Nat} (ha : x ∈ a) (hb : x ∈ b) : False := by
  obtain ⟨i, hi⟩ := List.getElem?_of_mem ha
  obtain ⟨j, hj⟩ := List.getElem?_of_mem hb
  have h5 := h i (a.length + j) x (by rw [List.getElem?_append_left (List.getElem?_eq_some_iff.mp hi).1]; exact hi) (by rw [List.getElem?_append_right (Nat.le_add_right _ _), Nat.add_sub_cancel_left]; exact hj)
  have h6 := (List.getElem?_eq_some_iff.mp hi).1
  omega
theorem at_mem {σ : Type} {w : WD σ} (h1 : ∀ a, (w.1 a).map Prod.fst = w.2.1) {st : σ} {k : Nat} {q : Nat × va_E} (hk : (w.1 st)[k]? = some q) : q.1 ∈ w.2.1 := by
  rw [← h1 st]
  exact List.mem_map.mpr ⟨q, List.mem_of_getElem? hk, rfl⟩
section PAIR
variable {σ τ : Type} {w1 : WD σ} {w2 : WD τ} {G : Heap → List Loc → JFrame → Prop} {H0 : Heap} {m : MethodId} {cc : ByteArray} {own : String} {nL : Nat} {R : Room} {st : σ × τ} {pc : Nat} {lo : List (Nat × Value)} {sk : List Value}
set_option maxHeartbeats 4000000 in
theorem k_callVL (hE : KE (wpair w1 w2) G H0 m cc own nL R) (h1 : ∀ a, (w1.1 a).map Prod.fst = w1.2.1) (h2 : ∀ a, (w2.1 a).map Prod.fst = w2.2.1) (hD : w2.2.2.1 = w1.2.2.1) {y : MethodName} {C : String} {bytes : ByteArray} {maxL n idx b ci : Nat} {ret : Option FieldType} {rm : Room} {As : List Value} {post : Option Value → σ → Prop} {fs : List Value} {qc : vw_C} (hM : MC w1 y bytes maxL ret rm (.ref b :: As) st.1 post) (hY : MF y C bytes maxL ret n) (hl : Cond.methodLink own idx y ∈ lw_gt) (q0 : Nat) (hrv : (w1.1 st.1)[q0]? = some (b, .inr (ci, fs))) (hci : vwCl[ci]? = some qc) (hC : qc.1 = C) (hn : As.length = n) (hrm : rm.cells = 0 ∧ rm.slots = 0 ∧ rm.frames + 1 ≤ R.frames ∧ 8 + (maxL + 11) + rm.locals ≤ R.locals) (rest : List Value) (hr8 : (rest.map fun v => v.category).sum ≤ 8) (hd : decode cc pc = .ok (.invokevirtual idx, 3)) (hsk : sk = As.reverse ++ .ref b :: rest) (k : ∀ (rv : Option Value) (u : σ), post rv u → KW (wpair w1 w2) G H0 m nL (u, st.2) (pc + 3) lo (rv.toList ++ rest)) : KW (wpair w1 w2) G H0 m nL st pc lo sk := by
  obtain ⟨p, l, e, s, args, below, meth, c, Q, cells, slots, rfl, rfl, hx, hb, hml, hown, hts, hK, hw, hc1, hc2⟩ := hE
  subst hsk
  intro H locs ls hP hS hl0
  obtain ⟨y1, y2, y3, y4, y5, y6, y7, y8⟩ := hY
  have hK1 := va_K_l hK
  have hP1 := va_P_l hP
  have hP2 := va_P_r hP
  have hw1 : WOK w1 := ⟨h1, inj_l hw.2⟩
  have hrun := va_runV (H := H) (locs := locs) (cells := cells) (slots := slots) (below := below) (meth := meth) (e := e) (R := R) (g := F0 m pc ls (As.reverse ++ .ref b :: rest)) (rest := rest) (Ts := lw_gt) ⟨hx, hb, hml, hown, hts⟩ (hM hw1 l H.size) ⟨callB_of n hts (tbl_in y4) rfl hrm.1 hrm.2.1 (hts _ (by rw [y5]; exact y3)) (hts _ hl) ⟨y6, y7, y8⟩ hrm.2.2, hts _ y1, hts _ y2⟩ ⟨fun a U g mk q => by obtain ⟨q0, q1, qP, qK⟩ := q; exact ⟨q0, q1, qP, va_K.moved (u := U) (U := U.calling g mk a) (Vm.Alike.refl U.vm) qK⟩, by rw [← hC]; exact va_recv hK1 hP1 hci hrv, fun U hU hW => ⟨rfl, by rw [hU], by rw [hU]; exact hP1, va_K.moved hW.alike hK1⟩⟩ rfl hn hl0.1 rfl (lv_room hr8) hd ⟨hc1, hc2⟩
  intro T hT X
  obtain ⟨v, st₀, t, T', L, h0, X', hL, e1, e2, ⟨⟨rv, u, hv, hp, hP3⟩, hz, hk⟩, stp⟩ := hrun T hT X
  cases hv
  rw [h0] at hz hk
  have hm1 : ∀ q, AA w1.2.1 H.size q → AA (w1.2.1 ++ w2.2.1) s.heap.size q := fun q hq => hq.elim (fun h => Or.inl (List.mem_append_left _ h)) (fun h => Or.inr (Nat.le_trans hS.1 h))
  have hP4 : va_P w1.2.2.1 vwCl (w2.1 st.2) T'.heap := hP2.kept (fun k q hq => by
    rw [e1, hk q.1 (hP2 k q hq).lt (fun hz => hz.elim (fun h => inj_x hw.2 h (at_mem h2 hq)) (fun h => absurd (hP2 k q hq).lt (Nat.not_lt.mpr h)))])
  obtain ⟨t2, a1, b1⟩ := k _ u hp T'.heap (locs ++ L) ls (va_P.app (by rw [e1]; exact hP3) hP4) ⟨Nat.le_trans hS.1 (by rw [e1]; exact hz), fun q h1 h2 => by rw [e1, hk q (Nat.lt_of_lt_of_le h1 hS.1) (fun z => h2 (hm1 q z))]; exact hS.2.1 q h1 h2, fun q hq => by
      rcases List.mem_append.mp hq with h | h
      · exact hS.2.2 q h
      · exact hm1 _ (hL q h)⟩ hl0 T' rfl X'
  exact ⟨t2, stp t2 a1, b1⟩
set_option maxHeartbeats 4000000 in
theorem k_callVR (hE : KE (wpair w1 w2) G H0 m cc own nL R) (h1 : ∀ a, (w1.1 a).map Prod.fst = w1.2.1) (h2 : ∀ a, (w2.1 a).map Prod.fst = w2.2.1) (hD : w2.2.2.1 = w1.2.2.1) {y : MethodName} {C : String} {bytes : ByteArray} {maxL n idx b ci : Nat} {ret : Option FieldType} {rm : Room} {As : List Value} {post : Option Value → τ → Prop} {fs : List Value} {qc : vw_C} (hM : MC w2 y bytes maxL ret rm (.ref b :: As) st.2 post) (hY : MF y C bytes maxL ret n) (hl : Cond.methodLink own idx y ∈ lw_gt) (q0 : Nat) (hrv : (w2.1 st.2)[q0]? = some (b, .inr (ci, fs))) (hci : vwCl[ci]? = some qc) (hC : qc.1 = C) (hn : As.length = n) (hrm : rm.cells = 0 ∧ rm.slots = 0 ∧ rm.frames + 1 ≤ R.frames ∧ 8 + (maxL + 11) + rm.locals ≤ R.locals) (rest : List Value) (hr8 : (rest.map fun v => v.category).sum ≤ 8) (hd : decode cc pc = .ok (.invokevirtual idx, 3)) (hsk : sk = As.reverse ++ .ref b :: rest) (k : ∀ (rv : Option Value) (u : τ), post rv u → KW (wpair w1 w2) G H0 m nL (st.1, u) (pc + 3) lo (rv.toList ++ rest)) : KW (wpair w1 w2) G H0 m nL st pc lo sk := by
  obtain ⟨p, l, e, s, args, below, meth, c, Q, cells, slots, rfl, rfl, hx, hb, hml, hown, hts, hK, hw, hc1, hc2⟩ := hE
  subst hsk
  intro H locs ls hP hS hl0
  obtain ⟨y1, y2, y3, y4, y5, y6, y7, y8⟩ := hY
  have hK1 : va_K w2.2.2.1 vwCl w2.2.2.2 s := by rw [hD]; exact va_K_r hK
  have hP1 := va_P_l hP
  have hP2 : va_P w2.2.2.1 vwCl (w2.1 st.2) H := by rw [hD]; exact va_P_r hP
  have hw2 : WOK w2 := ⟨h2, inj_r hw.2⟩
  have hrun := va_runV (H := H) (locs := locs) (cells := cells) (slots := slots) (below := below) (meth := meth) (e := e) (R := R) (g := F0 m pc ls (As.reverse ++ .ref b :: rest)) (rest := rest) (Ts := lw_gt) ⟨hx, hb, hml, hown, hts⟩ (hM hw2 l H.size) ⟨callB_of n hts (tbl_in y4) rfl hrm.1 hrm.2.1 (hts _ (by rw [y5]; exact y3)) (hts _ hl) ⟨y6, y7, y8⟩ hrm.2.2, hts _ y1, hts _ y2⟩ ⟨fun a U g mk q => by obtain ⟨q0, q1, qP, qK⟩ := q; exact ⟨q0, q1, qP, va_K.moved (u := U) (U := U.calling g mk a) (Vm.Alike.refl U.vm) qK⟩, by rw [← hC]; exact va_recv hK1 hP2 hci hrv, fun U hU hW => ⟨rfl, by rw [hU], by rw [hU]; exact hP2, va_K.moved hW.alike hK1⟩⟩ rfl hn hl0.1 rfl (lv_room hr8) hd ⟨hc1, hc2⟩
  intro T hT X
  obtain ⟨v, st₀, t, T', L, h0, X', hL, e1, e2, ⟨⟨rv, u, hv, hp, hP3⟩, hz, hk⟩, stp⟩ := hrun T hT X
  cases hv
  rw [h0] at hz hk
  have hm1 : ∀ q, AA w2.2.1 H.size q → AA (w1.2.1 ++ w2.2.1) s.heap.size q := fun q hq => hq.elim (fun h => Or.inl (List.mem_append_right _ h)) (fun h => Or.inr (Nat.le_trans hS.1 h))
  have hP4 : va_P w1.2.2.1 vwCl (w1.1 st.1) T'.heap := hP1.kept (fun k q hq => by
    rw [e1, hk q.1 (hP1 k q hq).lt (fun hz => hz.elim (fun h => inj_x hw.2 (at_mem h1 hq) h) (fun h => absurd (hP1 k q hq).lt (Nat.not_lt.mpr h)))])
  obtain ⟨t2, a1, b1⟩ := k _ u hp T'.heap (locs ++ L) ls (va_P.app hP4 (by rw [e1, ← hD]; exact hP3)) ⟨Nat.le_trans hS.1 (by rw [e1]; exact hz), fun q h1 h2 => by rw [e1, hk q (Nat.lt_of_lt_of_le h1 hS.1) (fun z => h2 (hm1 q z))]; exact hS.2.1 q h1 h2, fun q hq => by
      rcases List.mem_append.mp hq with h | h
      · exact hS.2.2 q h
      · exact hm1 _ (hL q h)⟩ hl0 T' rfl X'
  exact ⟨t2, stp t2 a1, b1⟩
end PAIR
