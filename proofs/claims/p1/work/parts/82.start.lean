/-! p1: what is known at the law's entry -/
theorem ka_prim {s : State} {args : Array Value} {ty : FieldType} (h : (Cond.arrayClass ty).before args s = true) (hp : ∀ C : String, ty ≠ .object C) : ∃ cA : ClassId, ArrOfT s cA ty ∧ va_RA s cA ty := by
  obtain ⟨c, k, comp, h1, h2, h3⟩ := Cond.arrayClass_spec h
  refine ⟨c, fun n z => ⟨fun k h => (by cases h), k, h2, comp, h3⟩, ?_⟩
  cases ty with
  | object C => exact absurd rfl (hp C)
  | _ => exact h1
theorem ka_obj {s : State} {args : Array Value} {C : String} (h : (Cond.arrayOver (.object C)).before args s = true) : ∃ cA : ClassId, ArrOfT s cA (.object C) ∧ va_RA s cA (.object C) := by
  obtain ⟨comp, c, k, h1, h2, h3, h4, h5⟩ := Cond.arrayOver_spec h
  exact ⟨c, fun n z => ⟨fun k h => (by cases h), k, h3, comp, h4⟩, k, comp, h3, h4, h1, h5⟩
theorem ka_arr {s : State} {args : Array Value} {ty : FieldType} (h : (Cond.arrayOver (.array ty)).before args s = true) : ∃ cA : ClassId, ArrOfT s cA (.array ty) ∧ va_RA s cA (.array ty) := by
  obtain ⟨comp, c, k, h1, h2, h3, h4, h5⟩ := arrayOverA_spec h
  exact ⟨c, fun n z => ⟨fun k h => (by cases h), k, h3, comp, h4⟩, h5⟩
theorem ka_K {s : State} {args : Array Value} (hts : ∀ w ∈ lw_tbl, w.before args s = true) : ∃ (D : va_G) (cy : Nat → ClassId), va_K D vwCl (tyW cy) s := by
  obtain ⟨c0, i0, hk0⟩ := u_known (C := RX0) (T := TX0) (N := 3) (n := 3) hts inX0 (hts (.instantiable RX0 3) (by decide +kernel))
  obtain ⟨c1, i1, hk1⟩ := u_known (C := RX1) (T := TX1) (N := 5) (n := 5) hts inX1 (hts (.instantiable RX1 5) (by decide +kernel))
  obtain ⟨c2, i2, hk2⟩ := u_known (C := RX2) (T := TX2) (N := 2) (n := 2) hts inX2 (hts (.instantiable RX2 2) (by decide +kernel))
  obtain ⟨c3, i3, hk3⟩ := u_known (C := RX3) (T := TX3) (N := 12) (n := 12) hts inX3 (hts (.instantiable RX3 12) (by decide +kernel))
  obtain ⟨c4, i4, hk4⟩ := u_known (C := RX4) (T := TX4) (N := 3) (n := 3) hts inX4 (hts (.instantiable RX4 3) (by decide +kernel))
  obtain ⟨c5, i5, hk5⟩ := u_known (C := RX5) (T := TX5) (N := 1) (n := 1) hts inX5 (hts (.instantiable RX5 1) (by decide +kernel))
  obtain ⟨c6, i6, hk6⟩ := u_known (C := RX6) (T := TX6) (N := 2) (n := 2) hts inX6 (hts (.instantiable RX6 2) (by decide +kernel))
  obtain ⟨c7, i7, hk7⟩ := u_known (C := RX7) (T := TX7) (N := 9) (n := 9) hts inX7 (hts (.instantiable RX7 9) (by decide +kernel))
  obtain ⟨c8, i8, hk8⟩ := u_known (C := RX8) (T := TX8) (N := 11) (n := 11) hts inX8 (hts (.instantiable RX8 11) (by decide +kernel))
  obtain ⟨c9, i9, hk9⟩ := u_known (C := RX9) (T := TX9) (N := 36) (n := 36) hts inX9 (hts (.instantiable RX9 36) (by decide +kernel))
  obtain ⟨a0, ha0⟩ := ka_prim (hts (.arrayClass .char) (by decide +kernel)) (fun C h => by cases h)
  obtain ⟨a1, ha1⟩ := ka_prim (hts (.arrayClass .int) (by decide +kernel)) (fun C h => by cases h)
  obtain ⟨a2, ha2⟩ := ka_prim (hts (.arrayClass .long) (by decide +kernel)) (fun C h => by cases h)
  obtain ⟨a3, ha3⟩ := ka_prim (hts (.arrayClass .boolean) (by decide +kernel)) (fun C h => by cases h)
  obtain ⟨a4, ha4⟩ := ka_obj (C := "LayoutSolver$Change") (hts (.arrayOver (.object "LayoutSolver$Change")) (by decide +kernel))
  obtain ⟨a5, ha5⟩ := ka_obj (C := "LayoutSolver$Constraint") (hts (.arrayOver (.object "LayoutSolver$Constraint")) (by decide +kernel))
  obtain ⟨a6, ha6⟩ := ka_obj (C := "LayoutSolver$Layout") (hts (.arrayOver (.object "LayoutSolver$Layout")) (by decide +kernel))
  obtain ⟨a7, ha7⟩ := ka_arr (ty := .long) (hts (.arrayOver (.array .long)) (by decide +kernel))
  refine ⟨(fun k => [c0, c1, c2, c3, c4, c5, c6, c7, c8, c9].getD k 0, fun k => [i0, i1, i2, i3, i4, i5, i6, i7, i8, i9].getD k (fun _ => 0)), fun k => [a0, a1, a2, a3, a4, a5, a6, a7].getD k 0, ?_, ?_⟩
  · intro k q hq
    match k, hq with
    | 0, hq => cases hq; exact hk0
    | 1, hq => cases hq; exact hk1
    | 2, hq => cases hq; exact hk2
    | 3, hq => cases hq; exact hk3
    | 4, hq => cases hq; exact hk4
    | 5, hq => cases hq; exact hk5
    | 6, hq => cases hq; exact hk6
    | 7, hq => cases hq; exact hk7
    | 8, hq => cases hq; exact hk8
    | 9, hq => cases hq; exact hk9
    | k + 10, hq => simp [vwCl] at hq
  · intro k q hq
    match k, hq with
    | 0, hq => cases hq; exact ha0
    | 1, hq => cases hq; exact ha1
    | 2, hq => cases hq; exact ha2
    | 3, hq => cases hq; exact ha3
    | 4, hq => cases hq; exact ha4
    | 5, hq => cases hq; exact ha5
    | 6, hq => cases hq; exact ha6
    | 7, hq => cases hq; exact ha7
    | k + 8, hq => simp [tyW] at hq
theorem ka_F {s : State} {args : Array Value} (hts : ∀ w ∈ lw_tbl, w.before args s = true) : kF s :=
  ⟨va_AO.of (hts (.arrayOver (.object "LayoutSolver$Change")) (by decide +kernel)), va_AO.of (hts (.arrayOver (.object "LayoutSolver$Constraint")) (by decide +kernel)), va_AO.of (hts (.arrayOver (.object "LayoutSolver$Layout")) (by decide +kernel)), va_AOA.of (hts (.arrayOver (.array .long)) (by decide +kernel)), va_Nw.of rfl (hts (.methodLinkNest RX8 15 yX6_init RX8) (by decide +kernel)), va_Nw.of rfl (hts (.methodLinkNest RX8 25 yX7_init RX8) (by decide +kernel)), va_Nw.of rfl (hts (.methodLinkNest RX8 32 yX5_init RX8) (by decide +kernel)), va_Nw.of rfl (hts (.methodLinkNest RX8 43 yX4_init RX8) (by decide +kernel)), va_Nw.of rfl (hts (.methodLinkNest RX8 57 yX2_init RX8) (by decide +kernel)), va_Nw.of rfl (hts (.methodLinkNest RX2 19 yX8_partOf RX8) (by decide +kernel))⟩
