theorem mi_X0 : MI yX0_init cX0_init 2 1 := ⟨gt_mem (by decide +kernel) rfl, gt_mem (by decide +kernel) rfl, gt_mem (by decide +kernel) rfl, rfl, by decide, by decide, by decide +kernel⟩
theorem in_X0 : Cond.instantiable RX0 6 ∈ lw_gt := gt_mem (by decide +kernel) rfl
theorem ii_X0 : Cond.initialized RX0 ∈ lw_gt := gt_mem (by decide +kernel) rfl
theorem mo_X0 : Cond.methodLink RX0 3 Lib.objectInit ∈ lw_gt := gt_mem (by decide +kernel) rfl
theorem df_X0 : ∀ j, j < 6 → defaultValue (tyX0 j) = vp_V [.null, .null, .null, .null, .null, .int (iI 0)] j := by
  intro j hj
  rcases (show j = 0 ∨ j = 1 ∨ j = 2 ∨ j = 3 ∨ j = 4 ∨ j = 5 by omega) with rfl | rfl | rfl | rfl | rfl | rfl <;> rfl
theorem mi_X1 : MI yX1_init cX1_init 1 0 := ⟨gt_mem (by decide +kernel) rfl, gt_mem (by decide +kernel) rfl, gt_mem (by decide +kernel) rfl, rfl, by decide, by decide, by decide +kernel⟩
theorem in_X1 : Cond.instantiable RX1 3 ∈ lw_gt := gt_mem (by decide +kernel) rfl
theorem ii_X1 : Cond.initialized RX1 ∈ lw_gt := gt_mem (by decide +kernel) rfl
theorem mo_X1 : Cond.methodLink RX1 3 Lib.objectInit ∈ lw_gt := gt_mem (by decide +kernel) rfl
theorem df_X1 : ∀ j, j < 3 → defaultValue (tyX1 j) = vp_V [.null, .null, .int (iI 0)] j := by
  intro j hj
  rcases (show j = 0 ∨ j = 1 ∨ j = 2 by omega) with rfl | rfl | rfl <;> rfl
theorem mi_X2 : MI yX2_init cX2_init 1 0 := ⟨gt_mem (by decide +kernel) rfl, gt_mem (by decide +kernel) rfl, gt_mem (by decide +kernel) rfl, rfl, by decide, by decide, by decide +kernel⟩
theorem in_X2 : Cond.instantiable RX2 3 ∈ lw_gt := gt_mem (by decide +kernel) rfl
theorem ii_X2 : Cond.initialized RX2 ∈ lw_gt := gt_mem (by decide +kernel) rfl
theorem mo_X2 : Cond.methodLink RX2 3 Lib.objectInit ∈ lw_gt := gt_mem (by decide +kernel) rfl
theorem df_X2 : ∀ j, j < 3 → defaultValue (tyX2 j) = vp_V [.null, .int (iI 0), .int (iI 0)] j := by
  intro j hj
  rcases (show j = 0 ∨ j = 1 ∨ j = 2 by omega) with rfl | rfl | rfl <;> rfl
theorem mi_X3 : MI yX3_init cX3_init 1 0 := ⟨gt_mem (by decide +kernel) rfl, gt_mem (by decide +kernel) rfl, gt_mem (by decide +kernel) rfl, rfl, by decide, by decide, by decide +kernel⟩
theorem in_X3 : Cond.instantiable RX3 4 ∈ lw_gt := gt_mem (by decide +kernel) rfl
theorem ii_X3 : Cond.initialized RX3 ∈ lw_gt := gt_mem (by decide +kernel) rfl
theorem mo_X3 : Cond.methodLink RX3 3 Lib.objectInit ∈ lw_gt := gt_mem (by decide +kernel) rfl
theorem df_X3 : ∀ j, j < 4 → defaultValue (tyX3 j) = vp_V [.int (iI 0), .int (iI 0), .int (iI 0), .int (iI 0)] j := by
  intro j hj
  rcases (show j = 0 ∨ j = 1 ∨ j = 2 ∨ j = 3 by omega) with rfl | rfl | rfl | rfl <;> rfl
theorem mi_X5 : MI yX5_init cX5_init 2 0 := ⟨gt_mem (by decide +kernel) rfl, gt_mem (by decide +kernel) rfl, gt_mem (by decide +kernel) rfl, rfl, by decide, by decide, by decide +kernel⟩
theorem in_X5 : Cond.instantiable RX5 9 ∈ lw_gt := gt_mem (by decide +kernel) rfl
theorem ii_X5 : Cond.initialized RX5 ∈ lw_gt := gt_mem (by decide +kernel) rfl
theorem mo_X5 : Cond.methodLink RX5 3 Lib.objectInit ∈ lw_gt := gt_mem (by decide +kernel) rfl
theorem df_X5 : ∀ j, j < 9 → defaultValue (tyX5 j) = vp_V [.null, .null, .int (iI 0), .int (iI 0), .int (iI 0), .int (iI 0), .int (iI 0), .int (iI 0), .int (iI 0)] j := by
  intro j hj
  rcases (show j = 0 ∨ j = 1 ∨ j = 2 ∨ j = 3 ∨ j = 4 ∨ j = 5 ∨ j = 6 ∨ j = 7 ∨ j = 8 by omega) with rfl | rfl | rfl | rfl | rfl | rfl | rfl | rfl | rfl <;> rfl
theorem mi_X6 : MI yX6_init cX6_init 2 0 := ⟨gt_mem (by decide +kernel) rfl, gt_mem (by decide +kernel) rfl, gt_mem (by decide +kernel) rfl, rfl, by decide, by decide, by decide +kernel⟩
theorem in_X6 : Cond.instantiable RX6 6 ∈ lw_gt := gt_mem (by decide +kernel) rfl
theorem ii_X6 : Cond.initialized RX6 ∈ lw_gt := gt_mem (by decide +kernel) rfl
theorem mo_X6 : Cond.methodLink RX6 3 Lib.objectInit ∈ lw_gt := gt_mem (by decide +kernel) rfl
theorem df_X6 : ∀ j, j < 6 → defaultValue (tyX6 j) = vp_V [.null, .null, .null, .null, .int (iI 0), .int (iI 0)] j := by
  intro j hj
  rcases (show j = 0 ∨ j = 1 ∨ j = 2 ∨ j = 3 ∨ j = 4 ∨ j = 5 by omega) with rfl | rfl | rfl | rfl | rfl | rfl <;> rfl
theorem mi_X7 : MI yX7_init cX7_init 1 0 := ⟨gt_mem (by decide +kernel) rfl, gt_mem (by decide +kernel) rfl, gt_mem (by decide +kernel) rfl, rfl, by decide, by decide, by decide +kernel⟩
theorem in_X7 : Cond.instantiable RX7 38 ∈ lw_gt := gt_mem (by decide +kernel) rfl
theorem ii_X7 : Cond.initialized RX7 ∈ lw_gt := gt_mem (by decide +kernel) rfl
theorem mo_X7 : Cond.methodLink RX7 1 Lib.objectInit ∈ lw_gt := gt_mem (by decide +kernel) rfl
theorem df_X7 : ∀ j, j < 38 → defaultValue (tyX7 j) = vp_V [.int (iI 0), .int (iI 0), .null, .null, .null, .int (iI 0), .int (iI 0), .int (iI 0), .null, .null, .null, .null, .int (iI 0), .null, .int (iI 0), .int (iI 0), .int (iI 0), .int (iI 0), .int (iI 0), .int (iI 0), .int (iI 0), .null, .null, .null, .null, .null, .null, .null, .int (iI 0), .int (iI 0), .int (iI 0), .int (iI 0), .int (iI 0), .int (iI 0), .null, .int (iI 0), .null, .null] j := by
  intro j hj
  rcases (show j = 0 ∨ j = 1 ∨ j = 2 ∨ j = 3 ∨ j = 4 ∨ j = 5 ∨ j = 6 ∨ j = 7 ∨ j = 8 ∨ j = 9 ∨ j = 10 ∨ j = 11 ∨ j = 12 ∨ j = 13 ∨ j = 14 ∨ j = 15 ∨ j = 16 ∨ j = 17 ∨ j = 18 ∨ j = 19 ∨ j = 20 ∨ j = 21 ∨ j = 22 ∨ j = 23 ∨ j = 24 ∨ j = 25 ∨ j = 26 ∨ j = 27 ∨ j = 28 ∨ j = 29 ∨ j = 30 ∨ j = 31 ∨ j = 32 ∨ j = 33 ∨ j = 34 ∨ j = 35 ∨ j = 36 ∨ j = 37 by omega) with rfl | rfl | rfl | rfl | rfl | rfl | rfl | rfl | rfl | rfl | rfl | rfl | rfl | rfl | rfl | rfl | rfl | rfl | rfl | rfl | rfl | rfl | rfl | rfl | rfl | rfl | rfl | rfl | rfl | rfl | rfl | rfl | rfl | rfl | rfl | rfl | rfl | rfl <;> rfl
theorem ck_L_7 : Cond.classLink RL 7 RX6 ∈ lw_gt := gt_mem (by decide +kernel) rfl
theorem ck_X6_9 : Cond.classLink RX6 9 RX5 ∈ lw_gt := gt_mem (by decide +kernel) rfl
theorem ck_X5_9 : Cond.classLink RX5 9 RX3 ∈ lw_gt := gt_mem (by decide +kernel) rfl
theorem ck_X6_18 : Cond.classLink RX6 18 RX0 ∈ lw_gt := gt_mem (by decide +kernel) rfl
theorem ck_X6_27 : Cond.classLink RX6 27 RX1 ∈ lw_gt := gt_mem (by decide +kernel) rfl
theorem ck_X6_34 : Cond.classLink RX6 34 RX2 ∈ lw_gt := gt_mem (by decide +kernel) rfl
theorem ck_L_10 : Cond.classLink RL 10 RX7 ∈ lw_gt := gt_mem (by decide +kernel) rfl
theorem w_oi : Cond.instanceMethod Lib.objectInit ∈ lw_gt := gt_mem (by decide +kernel) rfl
theorem w_oc : Cond.code Lib.objectInit ⟨#[0xb1]⟩ 1 none ∈ lw_gt := gt_mem (by decide +kernel) rfl
theorem w_ai : Cond.arrayClass (newarray.typeOf .int) ∈ lw_gt := gt_mem (by decide +kernel) rfl
theorem w_az : Cond.arrayClass (newarray.typeOf .boolean) ∈ lw_gt := gt_mem (by decide +kernel) rfl
theorem n_ia {D : va_G} {A : Nat → Prop} {GF : Nat → Nat → Heap → List Loc → JFrame → Prop} {H0 : Heap} {m : MethodId} {nL cells slots pc : Nat} {ws : va_W} {lo : List (Nat × Value)} {sk : List Value} (q0 : Nat) {a n : Nat} {cA : ClassId} {f g : Nat → Int32} {ws' : va_W} (ha : ws[q0]? = some (a, .inl (cA, n, .inl f))) (he : ∀ j, j < n → f j = g j) (hset : ws.set q0 (a, .inl (cA, n, .inl g)) = ws') (k : NW D A GF H0 m nL cells slots ws' pc lo sk) : NW D A GF H0 m nL cells slots ws pc lo sk := by
  subst hset
  intro H locs ls hP hD hS hl
  refine k H locs ls ?_ (hD.set ha) hS hl
  intro j q hj
  have hq0 := (List.getElem?_eq_some_iff.mp ha).1
  by_cases e : j = q0
  · rw [e, List.getElem?_set_self hq0] at hj
    cases hj
    have h5 := hP q0 _ ha
    show H[a]? = some (vp_cell cA (n, .inl g))
    rw [vp_cell_i, ← arr_cong (cA := cA) (N := n) (f := fun j => Value.int (f j)) (fun j hj => by rw [he j hj])]
    exact h5
  · rw [List.getElem?_set_ne (Ne.symm e)] at hj
    exact hP j q hj
def Z0 : Sg := (fun _ => 0, fun a _ => if a = 7 then -1 else 0)
def Zm : Sg := (fun k => if k = 16 then -9 else 0, fun a _ => if a = 9 then -9 else 0)
abbrev tyA (cI cT cS cZ : ClassId) : List (ClassId × FieldType) := [(cI, .int), (cT, .object "BarrelTaps$Tap"), (cS, .object "BarrelTaps$Sheet"), (cI, .int), (cZ, .boolean)]
