/-! p1: the class, calls on a fresh object that look at no solution -/
theorem kAtL_none {x : Int32} : kAtL (fun _ => none) x = none := by
  unfold kAtL
  split <;> (try rfl)
  split <;> rfl
theorem lpN_const {α : Type} {f : Nat → α → α} {a : α} (h : ∀ k, f k a = a) : ∀ (n k : Nat), lpN f n k a = a
  | 0, _ => rfl
  | n + 1, k => by rw [lpN_s, h k, lpN_const h n (k + 1)]
theorem kMask_none : kMask (fun _ => none) = nI 0 := lpN_const (fun _ => rfl) _ _
theorem kAllZ : k_isAllZero (fun _ => 0) = nI 1 := by decide +kernel
theorem k_isVariable_ix {v : Int32} (h : ¬ k_isVariable v = 0) : ∃ k : Nat, k < 6 ∧ v = nI k := by
  unfold k_isVariable at h
  by_cases h0 : v < 0
  · exact absurd (by rw [if_pos h0]; rfl) h
  by_cases h1 : nI 6 ≤ v
  · exact absurd (by rw [if_neg h0, if_pos h1]; rfl) h
  exact ixN 6 h0 (Int32.not_le.mp h1) (by omega)
set_option maxHeartbeats 4000000 in
set_option maxRecDepth 100000 in
theorem cT_term (l : Launch) (D : va_G) (cy : Nat → ClassId) (ad xa : Nat → Nat) (S : DS) (P O : CS) (sz : Nat) (v x : Int32) : Met l yX8_term wsX8_term (rm9 1 23) (gPc D cy (wD cy ad S ++ wX cy ad xa P O) sz [.ref (xa 0), .int v, .int x]) (gQi D cy (wD cy ad S ++ wX cy ad xa P O) sz (fun r _ => r = (if k_isVariable v = 0 then -1 else if k_isWithin x (nI 3) = 0 then -2 else nI 10))) 0 0 (va_A (wD cy ad S ++ wX cy ad xa P O) sz) := by
  refine gHead (cc := cX8_term) (maxL := 4) (ret := (some .int)) (by decide) rfl (Nat.le_of_ble_eq_true rfl) ?_
  intro p e s m below meth c ls hx hb hr hlocks hml hown hts hsz hP hK hD hS hA hl
  have hown : s.vm.findClass RX8 = some m.cls := hown
  have hinX8 : ∀ w ∈ u_ws RX8 TX8 11, w ∈ wsX8_term := by decide +kernel
  have hl : lv_has ls 4 [(0, .ref (xa 0)), (1, .int v), (2, .int x)] := hl
  refine lv_iload_n hx hb dX8_term_0 rfl (lv_at hl 1 rfl) ?_
  refine pCalli (As := [.int v]) (rest := []) hx hb hml hown hts hP hS hA hl.1 (cS_isVariable l _ v) (va_cwS 1 hts gX8_term_X8_isVariable rfl rfl rfl (by decide +kernel) ⟨Nat.le_of_ble_eq_true rfl, Nat.le_of_ble_eq_true rfl⟩) rfl rfl (Nat.le_of_ble_eq_true rfl) ⟨Nat.le_of_ble_eq_true rfl, Nat.le_of_ble_eq_true rfl⟩ dX8_term_1 (fun r1 H locs e1 hP hS => ?_)
  rw [show r1 = k_isVariable v from e1]
  refine lv_if_ne (tgt := 9) hx hb dX8_term_4 (by decide) (fun c2 => ?_) (fun c2 => ?_)
  · skip
    refine lv_iload_n hx hb dX8_term_9 rfl (lv_at hl 2 rfl) ?_
    refine lv_iconst (v := nI 3) hx hb dX8_term_10 (by decide) ?_
    refine pCalli (As := [.int x, .int (nI 3)]) (rest := []) hx hb hml hown hts hP hS hA hl.1 (cS_isWithin l _ x (nI 3)) (va_cwS 2 hts gX8_term_X8_isWithin rfl rfl rfl (by decide +kernel) ⟨Nat.le_of_ble_eq_true rfl, Nat.le_of_ble_eq_true rfl⟩) rfl rfl (Nat.le_of_ble_eq_true rfl) ⟨Nat.le_of_ble_eq_true rfl, Nat.le_of_ble_eq_true rfl⟩ dX8_term_11 (fun r3 H locs e3 hP hS => ?_)
    rw [show r3 = k_isWithin x (nI 3) from e3]
    refine lv_if_ne (tgt := 20) hx hb dX8_term_14 (by decide) (fun c4 => ?_) (fun c4 => ?_)
    · skip
      obtain ⟨v0, hv0, hve⟩ := k_isVariable_ix c2
      rw [hve] at hl
      refine lv_aload_n hx hb dX8_term_20 rfl (lv_at hl 0 rfl) ?_
      refine va_get (v := .ref (xa 1)) (ci := 8) (C := RX8) (T := TX8) (N := 11) hx hb hts hinX8 hown hK hP 43 (wX_0) rfl 0 (by decide) (hts (.fieldLink RX8 9 "LayoutSolver" "draft" "[I") (by decide +kernel)) (fun x h => h) rfl dX8_term_21 ?_
      refine lv_iload_n hx hb dX8_term_24 rfl (lv_at hl 1 rfl) ?_
      refine va_iald (i := nI v0) hx hb hK hP 44 1 (wX_1) rfl (vp_in_nI (by omega) (by decide)) dX8_term_25 ?_
      refine lv_istore_n (lv' := [(3, .int 0), (0, .ref (xa 0)), (1, .int (nI v0)), (2, .int x)]) hx hb dX8_term_26 rfl hl (by decide) rfl (fun ls hl => ?_)
      refine lv_aload_n hx hb dX8_term_27 rfl (lv_at hl 1 rfl) ?_
      refine va_get (v := .ref (xa 1)) (ci := 8) (C := RX8) (T := TX8) (N := 11) hx hb hts hinX8 hown hK hP 43 (wX_0) rfl 0 (by decide) (hts (.fieldLink RX8 9 "LayoutSolver" "draft" "[I") (by decide +kernel)) (fun x h => h) rfl dX8_term_28 ?_
      refine lv_iload_n hx hb dX8_term_31 rfl (lv_at hl 2 rfl) ?_
      refine lv_iload_n hx hb dX8_term_32 rfl (lv_at hl 3 rfl) ?_
      refine va_iast (i := nI v0) hx hb hK hP hD hS 44 1 (wX_1) rfl (vp_in_nI (by omega) (by decide)) dX8_term_33 (fun H locs hP hD hS => ?_)
      have hvz : (if k_isVariable v = 0 then (-1 : Int32) else if k_isWithin x (nI 3) = 0 then -2 else nI 10) = nI 10 := by simp [c2, c4]
      refine lv_iload_n hx hb dX8_term_34 rfl (lv_at hl 0 rfl) ?_
      refine lv_bipush (v := nI 10) hx hb dX8_term_35 (by decide) ?_
      refine lv_iadd hx hb dX8_term_37 ?_
      exact W.iret hx hb hr (fun t ht hW => ⟨⟨_, _, rfl, by show (0 + nI 10 : Int32) = _; rw [hvz]; rfl, by rw [ht]; exact hP, va_K.moved hW.alike hK, hD⟩, hS.F ht⟩) hS.2.2 dX8_term_38
    · skip
      refine lv_bipush (v := (-2)) hx hb dX8_term_17 (by decide) ?_
      exact W.iret hx hb hr (fun t ht hW => ⟨⟨_, _, rfl, by simp [c2, c4], by rw [ht]; exact hP, va_K.moved hW.alike hK, hD⟩, hS.F ht⟩) hS.2.2 dX8_term_19
  · skip
    refine lv_iconst (v := -1) hx hb dX8_term_7 (by decide) ?_
    exact W.iret hx hb hr (fun t ht hW => ⟨⟨_, _, rfl, by simp [c2], by rw [ht]; exact hP, va_K.moved hW.alike hK, hD⟩, hS.F ht⟩) hS.2.2 dX8_term_8
set_option maxHeartbeats 4000000 in
set_option maxRecDepth 100000 in
theorem cT_add (l : Launch) (D : va_G) (cy : Nat → ClassId) (ad xa : Nat → Nat) (S : DS) (P O : CS) (sz : Nat) (a1 a2 a3 a4 : Int32) : Met l yX8_add wsX8_add (rm9 1 23) (gPc D cy (wD cy ad S ++ wX cy ad xa P O) sz [.ref (xa 0), .int a1, .int a2, .int a3, .int a4]) (gQi D cy (wD cy ad S ++ wX cy ad xa P O) sz (fun r _ => r = (if k_isRelation a1 = 0 then -2 else if k_isWithin a2 (nI 200) = 0 then -2 else if k_isStrength a3 = 0 then -2 else if k_isWeight a4 = 0 then -2 else -5))) 0 0 (va_A (wD cy ad S ++ wX cy ad xa P O) sz) := by
  refine gHead (cc := cX8_add) (maxL := 6) (ret := (some .int)) (by decide) rfl (Nat.le_of_ble_eq_true rfl) ?_
  intro p e s m below meth c ls hx hb hr hlocks hml hown hts hsz hP hK hD hS hA hl
  have hown : s.vm.findClass RX8 = some m.cls := hown
  have hinX8 : ∀ w ∈ u_ws RX8 TX8 11, w ∈ wsX8_add := by decide +kernel
  have hl : lv_has ls 6 [(0, .ref (xa 0)), (1, .int a1), (2, .int a2), (3, .int a3), (4, .int a4)] := hl
  refine lv_iload_n hx hb dX8_add_0 rfl (lv_at hl 1 rfl) ?_
  refine pCalli (As := [.int a1]) (rest := []) hx hb hml hown hts hP hS hA hl.1 (cS_isRelation l _ a1) (va_cwS 1 hts gX8_add_X8_isRelation rfl rfl rfl (by decide +kernel) ⟨Nat.le_of_ble_eq_true rfl, Nat.le_of_ble_eq_true rfl⟩) rfl rfl (Nat.le_of_ble_eq_true rfl) ⟨Nat.le_of_ble_eq_true rfl, Nat.le_of_ble_eq_true rfl⟩ dX8_add_1 (fun r1 H locs e1 hP hS => ?_)
  rw [show r1 = k_isRelation a1 from e1]
  refine lv_if_eq (tgt := 17) hx hb dX8_add_4 (by decide) (fun c2 => ?_) (fun c2 => ?_)
  · skip
    refine lv_bipush (v := (-2)) hx hb dX8_add_17 (by decide) ?_
    exact W.iret hx hb hr (fun t ht hW => ⟨⟨_, _, rfl, by simp [c2], by rw [ht]; exact hP, va_K.moved hW.alike hK, hD⟩, hS.F ht⟩) hS.2.2 dX8_add_19
  · skip
    refine lv_iload_n hx hb dX8_add_7 rfl (lv_at hl 2 rfl) ?_
    refine lv_sipush (v := nI 200) hx hb dX8_add_8 (by decide) ?_
    refine pCalli (As := [.int a2, .int (nI 200)]) (rest := []) hx hb hml hown hts hP hS hA hl.1 (cS_isWithin l _ a2 (nI 200)) (va_cwS 2 hts gX8_add_X8_isWithin rfl rfl rfl (by decide +kernel) ⟨Nat.le_of_ble_eq_true rfl, Nat.le_of_ble_eq_true rfl⟩) rfl rfl (Nat.le_of_ble_eq_true rfl) ⟨Nat.le_of_ble_eq_true rfl, Nat.le_of_ble_eq_true rfl⟩ dX8_add_11 (fun r3 H locs e3 hP hS => ?_)
    rw [show r3 = k_isWithin a2 (nI 200) from e3]
    refine lv_if_ne (tgt := 20) hx hb dX8_add_14 (by decide) (fun c4 => ?_) (fun c4 => ?_)
    · skip
      refine lv_iload_n hx hb dX8_add_20 rfl (lv_at hl 3 rfl) ?_
      refine pCalli (As := [.int a3]) (rest := []) hx hb hml hown hts hP hS hA hl.1 (cS_isStrength l _ a3) (va_cwS 1 hts gX8_add_X8_isStrength rfl rfl rfl (by decide +kernel) ⟨Nat.le_of_ble_eq_true rfl, Nat.le_of_ble_eq_true rfl⟩) rfl rfl (Nat.le_of_ble_eq_true rfl) ⟨Nat.le_of_ble_eq_true rfl, Nat.le_of_ble_eq_true rfl⟩ dX8_add_21 (fun r5 H locs e5 hP hS => ?_)
      rw [show r5 = k_isStrength a3 from e5]
      refine lv_if_eq (tgt := 35) hx hb dX8_add_24 (by decide) (fun c6 => ?_) (fun c6 => ?_)
      · skip
        refine lv_bipush (v := (-2)) hx hb dX8_add_35 (by decide) ?_
        exact W.iret hx hb hr (fun t ht hW => ⟨⟨_, _, rfl, by simp [c2, c4, c6], by rw [ht]; exact hP, va_K.moved hW.alike hK, hD⟩, hS.F ht⟩) hS.2.2 dX8_add_37
      · skip
        refine lv_iload hx hb dX8_add_27 (lv_at hl 4 rfl) ?_
        refine pCalli (As := [.int a4]) (rest := []) hx hb hml hown hts hP hS hA hl.1 (cS_isWeight l _ a4) (va_cwS 1 hts gX8_add_X8_isWeight rfl rfl rfl (by decide +kernel) ⟨Nat.le_of_ble_eq_true rfl, Nat.le_of_ble_eq_true rfl⟩) rfl rfl (Nat.le_of_ble_eq_true rfl) ⟨Nat.le_of_ble_eq_true rfl, Nat.le_of_ble_eq_true rfl⟩ dX8_add_29 (fun r7 H locs e7 hP hS => ?_)
        rw [show r7 = k_isWeight a4 from e7]
        refine lv_if_ne (tgt := 38) hx hb dX8_add_32 (by decide) (fun c8 => ?_) (fun c8 => ?_)
        · skip
          refine lv_aload_n hx hb dX8_add_38 rfl (lv_at hl 0 rfl) ?_
          refine va_get (v := .ref (xa 1)) (ci := 8) (C := RX8) (T := TX8) (N := 11) hx hb hts hinX8 hown hK hP 43 (wX_0) rfl 0 (by decide) (hts (.fieldLink RX8 9 "LayoutSolver" "draft" "[I") (by decide +kernel)) (fun x h => h) rfl dX8_add_39 ?_
          refine gCallSi (ws := wD cy ad S ++ wX cy ad xa P O) (As := [.ref (xa 1)]) (rest := []) hx hb hml hown hts hK hP hD hS hA hl.1 (cS_isAllZero l D cy _ _ wX_1) (va_cwS 1 hts gX8_add_X8_isAllZero rfl rfl rfl (by decide +kernel) ⟨Nat.le_of_ble_eq_true rfl, Nat.le_of_ble_eq_true rfl⟩) rfl rfl (Nat.le_of_ble_eq_true rfl) ⟨Nat.le_of_ble_eq_true rfl, Nat.le_of_ble_eq_true rfl⟩ dX8_add_42 (fun r9 ws9 H locs e9 hP hD hS => ?_)
          obtain ⟨e9a, e9b⟩ := e9
          rw [e9b] at hP hD
          rw [show r9 = nI 1 from e9a.trans kAllZ]
          refine lv_if_eq (tgt := 51) hx hb dX8_add_45 (by decide) (fun c10 => ?_) (fun c10 => ?_)
          · exact absurd c10 (by decide)
          · skip
            refine lv_bipush (v := (-5)) hx hb dX8_add_48 (by decide) ?_
            exact W.iret hx hb hr (fun t ht hW => ⟨⟨_, _, rfl, by simp [c2, c4, c6, c8, c10], by rw [ht]; exact hP, va_K.moved hW.alike hK, hD⟩, hS.F ht⟩) hS.2.2 dX8_add_50
        · skip
          refine lv_bipush (v := (-2)) hx hb dX8_add_35 (by decide) ?_
          exact W.iret hx hb hr (fun t ht hW => ⟨⟨_, _, rfl, by simp [c2, c4, c6, c8], by rw [ht]; exact hP, va_K.moved hW.alike hK, hD⟩, hS.F ht⟩) hS.2.2 dX8_add_37
    · skip
      refine lv_bipush (v := (-2)) hx hb dX8_add_17 (by decide) ?_
      exact W.iret hx hb hr (fun t ht hW => ⟨⟨_, _, rfl, by simp [c2, c4], by rw [ht]; exact hP, va_K.moved hW.alike hK, hD⟩, hS.F ht⟩) hS.2.2 dX8_add_19
set_option maxHeartbeats 4000000 in
set_option maxRecDepth 100000 in
theorem cT_remove (l : Launch) (D : va_G) (cy : Nat → ClassId) (ad xa : Nat → Nat) (S : DS) (P O : CS) (sz : Nat) (a1 : Int32) : Met l yX8_remove wsX8_remove (rm9 1 23) (gPc D cy (wD cy ad S ++ wX cy ad xa P O) sz [.ref (xa 0), .int a1]) (gQi D cy (wD cy ad S ++ wX cy ad xa P O) sz (fun r _ => r = -1)) 0 0 (va_A (wD cy ad S ++ wX cy ad xa P O) sz) := by
  refine gHead (cc := cX8_remove) (maxL := 2) (ret := (some .int)) (by decide) rfl (Nat.le_of_ble_eq_true rfl) ?_
  intro p e s m below meth c ls hx hb hr hlocks hml hown hts hsz hP hK hD hS hA hl
  have hown : s.vm.findClass RX8 = some m.cls := hown
  have hinX8 : ∀ w ∈ u_ws RX8 TX8 11, w ∈ wsX8_remove := by decide +kernel
  have hl : lv_has ls 2 [(0, .ref (xa 0)), (1, .int a1)] := hl
  refine lv_aload_n hx hb dX8_remove_0 rfl (lv_at hl 0 rfl) ?_
  refine va_get (v := .ref (xa 8)) (ci := 8) (C := RX8) (T := TX8) (N := 11) hx hb hts hinX8 hown hK hP 43 (wX_0) rfl 4 (by decide) (hts (.fieldLink RX8 33 "LayoutSolver" "layout" "LLayoutSolver$Layout;") (by decide +kernel)) (fun x h => h) rfl dX8_remove_1 ?_
  refine lv_iload_n hx hb dX8_remove_4 rfl (lv_at hl 1 rfl) ?_
  refine gCallq (ws := wD cy ad S ++ wX cy ad xa P O) (As := [.int a1]) (rest := []) (q0 := 51) (r0 := (RX5, TX5, 1)) hx hb hml hown hts hK hP hD hS hA hl.1 (wX_8) rfl (cY_at l D cy _ _ a1 wX_8 wX_9) (cwV 1 hts gX8_remove_X5_at rfl rfl rfl (by decide +kernel) ⟨Nat.le_of_ble_eq_true rfl, Nat.le_of_ble_eq_true rfl⟩) rfl rfl (Nat.le_of_ble_eq_true rfl) ⟨Nat.le_of_ble_eq_true rfl, Nat.le_of_ble_eq_true rfl⟩ dX8_remove_5 (fun r1 ws1 H locs e1 hP hD hS => ?_)
  obtain ⟨e1a, e1b⟩ := e1
  rw [e1b] at hP hD
  rw [show r1 = none from e1a.trans kAtL_none] 
  refine W.eq (g2 := F0 m 8 ls [.null]) rfl ?_
  refine lv_ifnonnullN hx hb dX8_remove_8 ?_
  refine lv_iconst (v := -1) hx hb dX8_remove_11 (by decide) ?_
  exact W.iret hx hb hr (fun t ht hW => ⟨⟨_, _, rfl, rfl, by rw [ht]; exact hP, va_K.moved hW.alike hK, hD⟩, hS.F ht⟩) hS.2.2 dX8_remove_12
set_option maxHeartbeats 4000000 in
set_option maxRecDepth 100000 in
theorem cT_setConstant (l : Launch) (D : va_G) (cy : Nat → ClassId) (ad xa : Nat → Nat) (S : DS) (P O : CS) (sz : Nat) (a1 a2 : Int32) : Met l yX8_setConstant wsX8_setConstant (rm9 1 23) (gPc D cy (wD cy ad S ++ wX cy ad xa P O) sz [.ref (xa 0), .int a1, .int a2]) (gQi D cy (wD cy ad S ++ wX cy ad xa P O) sz (fun r _ => r = -1)) 0 0 (va_A (wD cy ad S ++ wX cy ad xa P O) sz) := by
  refine gHead (cc := cX8_setConstant) (maxL := 4) (ret := (some .int)) (by decide) rfl (Nat.le_of_ble_eq_true rfl) ?_
  intro p e s m below meth c ls hx hb hr hlocks hml hown hts hsz hP hK hD hS hA hl
  have hown : s.vm.findClass RX8 = some m.cls := hown
  have hinX8 : ∀ w ∈ u_ws RX8 TX8 11, w ∈ wsX8_setConstant := by decide +kernel
  have hl : lv_has ls 4 [(0, .ref (xa 0)), (1, .int a1), (2, .int a2)] := hl
  refine lv_aload_n hx hb dX8_setConstant_0 rfl (lv_at hl 0 rfl) ?_
  refine va_get (v := .ref (xa 8)) (ci := 8) (C := RX8) (T := TX8) (N := 11) hx hb hts hinX8 hown hK hP 43 (wX_0) rfl 4 (by decide) (hts (.fieldLink RX8 33 "LayoutSolver" "layout" "LLayoutSolver$Layout;") (by decide +kernel)) (fun x h => h) rfl dX8_setConstant_1 ?_
  refine lv_iload_n hx hb dX8_setConstant_4 rfl (lv_at hl 1 rfl) ?_
  refine gCallq (ws := wD cy ad S ++ wX cy ad xa P O) (As := [.int a1]) (rest := []) (q0 := 51) (r0 := (RX5, TX5, 1)) hx hb hml hown hts hK hP hD hS hA hl.1 (wX_8) rfl (cY_at l D cy _ _ a1 wX_8 wX_9) (cwV 1 hts gX8_setConstant_X5_at rfl rfl rfl (by decide +kernel) ⟨Nat.le_of_ble_eq_true rfl, Nat.le_of_ble_eq_true rfl⟩) rfl rfl (Nat.le_of_ble_eq_true rfl) ⟨Nat.le_of_ble_eq_true rfl, Nat.le_of_ble_eq_true rfl⟩ dX8_setConstant_5 (fun r1 ws1 H locs e1 hP hD hS => ?_)
  obtain ⟨e1a, e1b⟩ := e1
  rw [e1b] at hP hD
  rw [show r1 = none from e1a.trans kAtL_none] 
  refine W.eq (g2 := F0 m 8 ls [.null]) rfl ?_
  refine lv_astore_nN (lv' := [(3, .null), (0, .ref (xa 0)), (1, .int a1), (2, .int a2)]) hx hb dX8_setConstant_8 rfl hl (by decide) rfl (fun ls hl => ?_)
  refine lv_aload_nN hx hb dX8_setConstant_9 rfl (lv_at hl 0 rfl) ?_
  refine lv_ifnonnullN hx hb dX8_setConstant_10 ?_
  refine lv_iconst (v := -1) hx hb dX8_setConstant_13 (by decide) ?_
  exact W.iret hx hb hr (fun t ht hW => ⟨⟨_, _, rfl, rfl, by rw [ht]; exact hP, va_K.moved hW.alike hK, hD⟩, hS.F ht⟩) hS.2.2 dX8_setConstant_14
set_option maxHeartbeats 4000000 in
set_option maxRecDepth 100000 in
theorem cT_setStrength (l : Launch) (D : va_G) (cy : Nat → ClassId) (ad xa : Nat → Nat) (S : DS) (P O : CS) (sz : Nat) (a1 a2 a3 : Int32) : Met l yX8_setStrength wsX8_setStrength (rm9 1 23) (gPc D cy (wD cy ad S ++ wX cy ad xa P O) sz [.ref (xa 0), .int a1, .int a2, .int a3]) (gQi D cy (wD cy ad S ++ wX cy ad xa P O) sz (fun r _ => r = -1)) 0 0 (va_A (wD cy ad S ++ wX cy ad xa P O) sz) := by
  refine gHead (cc := cX8_setStrength) (maxL := 5) (ret := (some .int)) (by decide) rfl (Nat.le_of_ble_eq_true rfl) ?_
  intro p e s m below meth c ls hx hb hr hlocks hml hown hts hsz hP hK hD hS hA hl
  have hown : s.vm.findClass RX8 = some m.cls := hown
  have hinX8 : ∀ w ∈ u_ws RX8 TX8 11, w ∈ wsX8_setStrength := by decide +kernel
  have hl : lv_has ls 5 [(0, .ref (xa 0)), (1, .int a1), (2, .int a2), (3, .int a3)] := hl
  refine lv_aload_n hx hb dX8_setStrength_0 rfl (lv_at hl 0 rfl) ?_
  refine va_get (v := .ref (xa 8)) (ci := 8) (C := RX8) (T := TX8) (N := 11) hx hb hts hinX8 hown hK hP 43 (wX_0) rfl 4 (by decide) (hts (.fieldLink RX8 33 "LayoutSolver" "layout" "LLayoutSolver$Layout;") (by decide +kernel)) (fun x h => h) rfl dX8_setStrength_1 ?_
  refine lv_iload_n hx hb dX8_setStrength_4 rfl (lv_at hl 1 rfl) ?_
  refine gCallq (ws := wD cy ad S ++ wX cy ad xa P O) (As := [.int a1]) (rest := []) (q0 := 51) (r0 := (RX5, TX5, 1)) hx hb hml hown hts hK hP hD hS hA hl.1 (wX_8) rfl (cY_at l D cy _ _ a1 wX_8 wX_9) (cwV 1 hts gX8_setStrength_X5_at rfl rfl rfl (by decide +kernel) ⟨Nat.le_of_ble_eq_true rfl, Nat.le_of_ble_eq_true rfl⟩) rfl rfl (Nat.le_of_ble_eq_true rfl) ⟨Nat.le_of_ble_eq_true rfl, Nat.le_of_ble_eq_true rfl⟩ dX8_setStrength_5 (fun r1 ws1 H locs e1 hP hD hS => ?_)
  obtain ⟨e1a, e1b⟩ := e1
  rw [e1b] at hP hD
  rw [show r1 = none from e1a.trans kAtL_none] 
  refine W.eq (g2 := F0 m 8 ls [.null]) rfl ?_
  refine lv_astoreN (lv' := [(4, .null), (0, .ref (xa 0)), (1, .int a1), (2, .int a2), (3, .int a3)]) hx hb dX8_setStrength_8 hl (by decide) rfl (fun ls hl => ?_)
  refine lv_aloadN hx hb dX8_setStrength_10 (lv_at hl 0 rfl) ?_
  refine lv_ifnonnullN hx hb dX8_setStrength_12 ?_
  refine lv_iconst (v := -1) hx hb dX8_setStrength_15 (by decide) ?_
  exact W.iret hx hb hr (fun t ht hW => ⟨⟨_, _, rfl, rfl, by rw [ht]; exact hP, va_K.moved hW.alike hK, hD⟩, hS.F ht⟩) hS.2.2 dX8_setStrength_16
set_option maxHeartbeats 4000000 in
set_option maxRecDepth 100000 in
theorem cT_about (l : Launch) (D : va_G) (cy : Nat → ClassId) (ad xa : Nat → Nat) (S : DS) (P O : CS) (sz : Nat) (a1 a2 : Int32) : Met l yX8_about wsX8_about (rm9 1 23) (gPc D cy (wD cy ad S ++ wX cy ad xa P O) sz [.ref (xa 0), .int a1, .int a2]) (gQi D cy (wD cy ad S ++ wX cy ad xa P O) sz (fun r _ => r = -1)) 0 0 (va_A (wD cy ad S ++ wX cy ad xa P O) sz) := by
  refine gHead (cc := cX8_about) (maxL := 4) (ret := (some .int)) (by decide) rfl (Nat.le_of_ble_eq_true rfl) ?_
  intro p e s m below meth c ls hx hb hr hlocks hml hown hts hsz hP hK hD hS hA hl
  have hown : s.vm.findClass RX8 = some m.cls := hown
  have hinX8 : ∀ w ∈ u_ws RX8 TX8 11, w ∈ wsX8_about := by decide +kernel
  have hl : lv_has ls 4 [(0, .ref (xa 0)), (1, .int a1), (2, .int a2)] := hl
  refine lv_aload_n hx hb dX8_about_0 rfl (lv_at hl 0 rfl) ?_
  refine va_get (v := .ref (xa 8)) (ci := 8) (C := RX8) (T := TX8) (N := 11) hx hb hts hinX8 hown hK hP 43 (wX_0) rfl 4 (by decide) (hts (.fieldLink RX8 33 "LayoutSolver" "layout" "LLayoutSolver$Layout;") (by decide +kernel)) (fun x h => h) rfl dX8_about_1 ?_
  refine lv_iload_n hx hb dX8_about_4 rfl (lv_at hl 1 rfl) ?_
  refine gCallq (ws := wD cy ad S ++ wX cy ad xa P O) (As := [.int a1]) (rest := []) (q0 := 51) (r0 := (RX5, TX5, 1)) hx hb hml hown hts hK hP hD hS hA hl.1 (wX_8) rfl (cY_at l D cy _ _ a1 wX_8 wX_9) (cwV 1 hts gX8_about_X5_at rfl rfl rfl (by decide +kernel) ⟨Nat.le_of_ble_eq_true rfl, Nat.le_of_ble_eq_true rfl⟩) rfl rfl (Nat.le_of_ble_eq_true rfl) ⟨Nat.le_of_ble_eq_true rfl, Nat.le_of_ble_eq_true rfl⟩ dX8_about_5 (fun r1 ws1 H locs e1 hP hD hS => ?_)
  obtain ⟨e1a, e1b⟩ := e1
  rw [e1b] at hP hD
  rw [show r1 = none from e1a.trans kAtL_none] 
  refine W.eq (g2 := F0 m 8 ls [.null]) rfl ?_
  refine lv_astore_nN (lv' := [(3, .null), (0, .ref (xa 0)), (1, .int a1), (2, .int a2)]) hx hb dX8_about_8 rfl hl (by decide) rfl (fun ls hl => ?_)
  refine lv_aload_nN hx hb dX8_about_9 rfl (lv_at hl 0 rfl) ?_
  refine lv_ifnonnullN hx hb dX8_about_10 ?_
  refine lv_iconst (v := -1) hx hb dX8_about_13 (by decide) ?_
  exact W.iret hx hb hr (fun t ht hW => ⟨⟨_, _, rfl, rfl, by rw [ht]; exact hP, va_K.moved hW.alike hK, hD⟩, hS.F ht⟩) hS.2.2 dX8_about_14
set_option maxHeartbeats 4000000 in
set_option maxRecDepth 100000 in
theorem cT_spell (l : Launch) (D : va_G) (cy : Nat → ClassId) (ad xa : Nat → Nat) (S : DS) (P O : CS) (sz : Nat) (a1 a2 : Int32) : Met l yX8_spell wsX8_spell (rm9 1 23) (gPc D cy (wD cy ad S ++ wX cy ad xa P O) sz [.ref (xa 0), .int a1, .int a2]) (gQi D cy (wD cy ad S ++ wX cy ad xa P O) sz (fun r _ => r = -1)) 0 0 (va_A (wD cy ad S ++ wX cy ad xa P O) sz) := by
  refine gHead (cc := cX8_spell) (maxL := 4) (ret := (some .int)) (by decide) rfl (Nat.le_of_ble_eq_true rfl) ?_
  intro p e s m below meth c ls hx hb hr hlocks hml hown hts hsz hP hK hD hS hA hl
  have hown : s.vm.findClass RX8 = some m.cls := hown
  have hinX8 : ∀ w ∈ u_ws RX8 TX8 11, w ∈ wsX8_spell := by decide +kernel
  have hl : lv_has ls 4 [(0, .ref (xa 0)), (1, .int a1), (2, .int a2)] := hl
  refine lv_aload_n hx hb dX8_spell_0 rfl (lv_at hl 0 rfl) ?_
  refine va_get (v := .ref (xa 8)) (ci := 8) (C := RX8) (T := TX8) (N := 11) hx hb hts hinX8 hown hK hP 43 (wX_0) rfl 4 (by decide) (hts (.fieldLink RX8 33 "LayoutSolver" "layout" "LLayoutSolver$Layout;") (by decide +kernel)) (fun x h => h) rfl dX8_spell_1 ?_
  refine lv_iload_n hx hb dX8_spell_4 rfl (lv_at hl 1 rfl) ?_
  refine gCallq (ws := wD cy ad S ++ wX cy ad xa P O) (As := [.int a1]) (rest := []) (q0 := 51) (r0 := (RX5, TX5, 1)) hx hb hml hown hts hK hP hD hS hA hl.1 (wX_8) rfl (cY_at l D cy _ _ a1 wX_8 wX_9) (cwV 1 hts gX8_spell_X5_at rfl rfl rfl (by decide +kernel) ⟨Nat.le_of_ble_eq_true rfl, Nat.le_of_ble_eq_true rfl⟩) rfl rfl (Nat.le_of_ble_eq_true rfl) ⟨Nat.le_of_ble_eq_true rfl, Nat.le_of_ble_eq_true rfl⟩ dX8_spell_5 (fun r1 ws1 H locs e1 hP hD hS => ?_)
  obtain ⟨e1a, e1b⟩ := e1
  rw [e1b] at hP hD
  rw [show r1 = none from e1a.trans kAtL_none] 
  refine W.eq (g2 := F0 m 8 ls [.null]) rfl ?_
  refine lv_astore_nN (lv' := [(3, .null), (0, .ref (xa 0)), (1, .int a1), (2, .int a2)]) hx hb dX8_spell_8 rfl hl (by decide) rfl (fun ls hl => ?_)
  refine lv_aload_nN hx hb dX8_spell_9 rfl (lv_at hl 0 rfl) ?_
  refine lv_ifnonnullN hx hb dX8_spell_10 ?_
  refine lv_iconst (v := -1) hx hb dX8_spell_13 (by decide) ?_
  exact W.iret hx hb hr (fun t ht hW => ⟨⟨_, _, rfl, rfl, by rw [ht]; exact hP, va_K.moved hW.alike hK, hD⟩, hS.F ht⟩) hS.2.2 dX8_spell_14
set_option maxHeartbeats 4000000 in
set_option maxRecDepth 100000 in
theorem cT_status (l : Launch) (D : va_G) (cy : Nat → ClassId) (ad xa : Nat → Nat) (S : DS) (P O : CS) (sz : Nat) (a1 : Int32) : Met l yX8_status wsX8_status (rm9 1 23) (gPc D cy (wD cy ad S ++ wX cy ad xa P O) sz [.ref (xa 0), .int a1]) (gQi D cy (wD cy ad S ++ wX cy ad xa P O) sz (fun r _ => r = -1)) 0 0 (va_A (wD cy ad S ++ wX cy ad xa P O) sz) := by
  refine gHead (cc := cX8_status) (maxL := 9) (ret := (some .int)) (by decide) rfl (Nat.le_of_ble_eq_true rfl) ?_
  intro p e s m below meth c ls hx hb hr hlocks hml hown hts hsz hP hK hD hS hA hl
  have hown : s.vm.findClass RX8 = some m.cls := hown
  have hinX8 : ∀ w ∈ u_ws RX8 TX8 11, w ∈ wsX8_status := by decide +kernel
  have hl : lv_has ls 9 [(0, .ref (xa 0)), (1, .int a1)] := hl
  refine lv_aload_n hx hb dX8_status_0 rfl (lv_at hl 0 rfl) ?_
  refine va_get (v := .ref (xa 8)) (ci := 8) (C := RX8) (T := TX8) (N := 11) hx hb hts hinX8 hown hK hP 43 (wX_0) rfl 4 (by decide) (hts (.fieldLink RX8 33 "LayoutSolver" "layout" "LLayoutSolver$Layout;") (by decide +kernel)) (fun x h => h) rfl dX8_status_1 ?_
  refine lv_iload_n hx hb dX8_status_4 rfl (lv_at hl 1 rfl) ?_
  refine gCallq (ws := wD cy ad S ++ wX cy ad xa P O) (As := [.int a1]) (rest := []) (q0 := 51) (r0 := (RX5, TX5, 1)) hx hb hml hown hts hK hP hD hS hA hl.1 (wX_8) rfl (cY_at l D cy _ _ a1 wX_8 wX_9) (cwV 1 hts gX8_status_X5_at rfl rfl rfl (by decide +kernel) ⟨Nat.le_of_ble_eq_true rfl, Nat.le_of_ble_eq_true rfl⟩) rfl rfl (Nat.le_of_ble_eq_true rfl) ⟨Nat.le_of_ble_eq_true rfl, Nat.le_of_ble_eq_true rfl⟩ dX8_status_5 (fun r1 ws1 H locs e1 hP hD hS => ?_)
  obtain ⟨e1a, e1b⟩ := e1
  rw [e1b] at hP hD
  rw [show r1 = none from e1a.trans kAtL_none] 
  refine W.eq (g2 := F0 m 8 ls [.null]) rfl ?_
  refine lv_astore_nN (lv' := [(2, .null), (0, .ref (xa 0)), (1, .int a1)]) hx hb dX8_status_8 rfl hl (by decide) rfl (fun ls hl => ?_)
  refine lv_aload_nN hx hb dX8_status_9 rfl (lv_at hl 0 rfl) ?_
  refine lv_ifnonnullN hx hb dX8_status_10 ?_
  refine lv_iconst (v := -1) hx hb dX8_status_13 (by decide) ?_
  exact W.iret hx hb hr (fun t ht hW => ⟨⟨_, _, rfl, rfl, by rw [ht]; exact hP, va_K.moved hW.alike hK, hD⟩, hS.F ht⟩) hS.2.2 dX8_status_14
set_option maxHeartbeats 4000000 in
set_option maxRecDepth 100000 in
theorem cT_play (l : Launch) (D : va_G) (cy : Nat → ClassId) (ad xa : Nat → Nat) (S : DS) (P O : CS) (sz : Nat) (a1 a2 : Int32) : Met l yX8_play wsX8_play (rm9 1 23) (gPc D cy (wD cy ad S ++ wX cy ad xa P O) sz [.ref (xa 0), .int a1, .int a2]) (gQi D cy (wD cy ad S ++ wX cy ad xa P O) sz (fun r _ => r = -1)) 0 0 (va_A (wD cy ad S ++ wX cy ad xa P O) sz) := by
  refine gHead (cc := cX8_play) (maxL := 7) (ret := (some .int)) (by decide) rfl (Nat.le_of_ble_eq_true rfl) ?_
  intro p e s m below meth c ls hx hb hr hlocks hml hown hts hsz hP hK hD hS hA hl
  have hown : s.vm.findClass RX8 = some m.cls := hown
  have hinX8 : ∀ w ∈ u_ws RX8 TX8 11, w ∈ wsX8_play := by decide +kernel
  have hl : lv_has ls 7 [(0, .ref (xa 0)), (1, .int a1), (2, .int a2)] := hl
  refine lv_aload_n hx hb dX8_play_0 rfl (lv_at hl 0 rfl) ?_
  refine va_get (v := .ref (xa 8)) (ci := 8) (C := RX8) (T := TX8) (N := 11) hx hb hts hinX8 hown hK hP 43 (wX_0) rfl 4 (by decide) (hts (.fieldLink RX8 33 "LayoutSolver" "layout" "LLayoutSolver$Layout;") (by decide +kernel)) (fun x h => h) rfl dX8_play_1 ?_
  refine lv_iload_n hx hb dX8_play_4 rfl (lv_at hl 1 rfl) ?_
  refine gCallq (ws := wD cy ad S ++ wX cy ad xa P O) (As := [.int a1]) (rest := []) (q0 := 51) (r0 := (RX5, TX5, 1)) hx hb hml hown hts hK hP hD hS hA hl.1 (wX_8) rfl (cY_at l D cy _ _ a1 wX_8 wX_9) (cwV 1 hts gX8_play_X5_at rfl rfl rfl (by decide +kernel) ⟨Nat.le_of_ble_eq_true rfl, Nat.le_of_ble_eq_true rfl⟩) rfl rfl (Nat.le_of_ble_eq_true rfl) ⟨Nat.le_of_ble_eq_true rfl, Nat.le_of_ble_eq_true rfl⟩ dX8_play_5 (fun r1 ws1 H locs e1 hP hD hS => ?_)
  obtain ⟨e1a, e1b⟩ := e1
  rw [e1b] at hP hD
  rw [show r1 = none from e1a.trans kAtL_none] 
  refine W.eq (g2 := F0 m 8 ls [.null]) rfl ?_
  refine lv_astore_nN (lv' := [(3, .null), (0, .ref (xa 0)), (1, .int a1), (2, .int a2)]) hx hb dX8_play_8 rfl hl (by decide) rfl (fun ls hl => ?_)
  refine lv_aload_nN hx hb dX8_play_9 rfl (lv_at hl 0 rfl) ?_
  refine lv_ifnonnullN hx hb dX8_play_10 ?_
  refine lv_iconst (v := -1) hx hb dX8_play_13 (by decide) ?_
  exact W.iret hx hb hr (fun t ht hW => ⟨⟨_, _, rfl, rfl, by rw [ht]; exact hP, va_K.moved hW.alike hK, hD⟩, hS.F ht⟩) hS.2.2 dX8_play_14
set_option maxHeartbeats 4000000 in
set_option maxRecDepth 100000 in
theorem cT_value (l : Launch) (D : va_G) (cy : Nat → ClassId) (ad xa : Nat → Nat) (S : DS) (P O : CS) (sz : Nat) (a1 a2 a3 : Int32) : Met l yX8_value wsX8_value (rm9 1 23) (gPc D cy (wD cy ad S ++ wX cy ad xa P O) sz [.ref (xa 0), .int a1, .int a2, .int a3]) (gQl D cy (wD cy ad S ++ wX cy ad xa P O) sz (fun r _ => r = (-1000000000000000001))) 0 0 (va_A (wD cy ad S ++ wX cy ad xa P O) sz) := by
  refine gHead (cc := cX8_value) (maxL := 4) (ret := (some .long)) (by decide) rfl (Nat.le_of_ble_eq_true rfl) ?_
  intro p e s m below meth c ls hx hb hr hlocks hml hown hts hsz hP hK hD hS hA hl
  have hown : s.vm.findClass RX8 = some m.cls := hown
  have hinX8 : ∀ w ∈ u_ws RX8 TX8 11, w ∈ wsX8_value := by decide +kernel
  have hl : lv_has ls 4 [(0, .ref (xa 0)), (1, .int a1), (2, .int a2), (3, .int a3)] := hl
  refine lv_aload_n hx hb dX8_value_0 rfl (lv_at hl 0 rfl) ?_
  refine va_get (v := .ref (xa 8)) (ci := 8) (C := RX8) (T := TX8) (N := 11) hx hb hts hinX8 hown hK hP 43 (wX_0) rfl 4 (by decide) (hts (.fieldLink RX8 33 "LayoutSolver" "layout" "LLayoutSolver$Layout;") (by decide +kernel)) (fun x h => h) rfl dX8_value_1 ?_
  refine lv_iload_n hx hb dX8_value_4 rfl (lv_at hl 1 rfl) ?_
  refine gCallq (ws := wD cy ad S ++ wX cy ad xa P O) (As := [.int a1]) (rest := []) (q0 := 51) (r0 := (RX5, TX5, 1)) hx hb hml hown hts hK hP hD hS hA hl.1 (wX_8) rfl (cY_at l D cy _ _ a1 wX_8 wX_9) (cwV 1 hts gX8_value_X5_at rfl rfl rfl (by decide +kernel) ⟨Nat.le_of_ble_eq_true rfl, Nat.le_of_ble_eq_true rfl⟩) rfl rfl (Nat.le_of_ble_eq_true rfl) ⟨Nat.le_of_ble_eq_true rfl, Nat.le_of_ble_eq_true rfl⟩ dX8_value_5 (fun r1 ws1 H locs e1 hP hD hS => ?_)
  obtain ⟨e1a, e1b⟩ := e1
  rw [e1b] at hP hD
  rw [show r1 = none from e1a.trans kAtL_none] 
  refine W.eq (g2 := F0 m 8 ls [.null]) rfl ?_
  refine lv_ifnonnullN hx hb dX8_value_8 ?_
  refine lv_ldc2 (v := (-1000000000000000001)) hx hb hown (hts (.constantLong RX8 225 (-1000000000000000001)) (by decide +kernel)) dX8_value_11 ?_
  exact W.lret hx hb hr (fun t ht hW => ⟨⟨_, _, rfl, rfl, by rw [ht]; exact hP, va_K.moved hW.alike hK, hD⟩, hS.F ht⟩) hS.2.2 dX8_value_14
set_option maxHeartbeats 4000000 in
set_option maxRecDepth 100000 in
theorem cT_constraints (l : Launch) (D : va_G) (cy : Nat → ClassId) (ad xa : Nat → Nat) (S : DS) (P O : CS) (sz : Nat)  : Met l yX8_constraints wsX8_constraints (rm9 1 23) (gPc D cy (wD cy ad S ++ wX cy ad xa P O) sz [.ref (xa 0)]) (gQi D cy (wD cy ad S ++ wX cy ad xa P O) sz (fun r _ => r = nI 0)) 0 0 (va_A (wD cy ad S ++ wX cy ad xa P O) sz) := by
  refine gHead (cc := cX8_constraints) (maxL := 1) (ret := (some .int)) (by decide) rfl (Nat.le_of_ble_eq_true rfl) ?_
  intro p e s m below meth c ls hx hb hr hlocks hml hown hts hsz hP hK hD hS hA hl
  have hown : s.vm.findClass RX8 = some m.cls := hown
  have hinX8 : ∀ w ∈ u_ws RX8 TX8 11, w ∈ wsX8_constraints := by decide +kernel
  have hl : lv_has ls 1 [(0, .ref (xa 0))] := hl
  refine lv_aload_n hx hb dX8_constraints_0 rfl (lv_at hl 0 rfl) ?_
  refine va_get (v := .ref (xa 8)) (ci := 8) (C := RX8) (T := TX8) (N := 11) hx hb hts hinX8 hown hK hP 43 (wX_0) rfl 4 (by decide) (hts (.fieldLink RX8 33 "LayoutSolver" "layout" "LLayoutSolver$Layout;") (by decide +kernel)) (fun x h => h) rfl dX8_constraints_1 ?_
  refine gCalli (ws := wD cy ad S ++ wX cy ad xa P O) (As := []) (rest := []) (q0 := 51) (r0 := (RX5, TX5, 1)) hx hb hml hown hts hK hP hD hS hA hl.1 (wX_8) rfl (cY_mask l D cy _ _ wX_8 wX_9) (cwV 0 hts gX8_constraints_X5_mask rfl rfl rfl (by decide +kernel) ⟨Nat.le_of_ble_eq_true rfl, Nat.le_of_ble_eq_true rfl⟩) rfl rfl (Nat.le_of_ble_eq_true rfl) ⟨Nat.le_of_ble_eq_true rfl, Nat.le_of_ble_eq_true rfl⟩ dX8_constraints_4 (fun r1 ws1 H locs e1 hP hD hS => ?_)
  obtain ⟨e1a, e1b⟩ := e1
  rw [e1b] at hP hD
  rw [show r1 = kMask (fun _ => none) from e1a]
  exact W.iret hx hb hr (fun t ht hW => ⟨⟨_, _, rfl, kMask_none, by rw [ht]; exact hP, va_K.moved hW.alike hK, hD⟩, hS.F ht⟩) hS.2.2 dX8_constraints_7
theorem vp_char (x : Int32) : vp_nar .char ((x.toUInt32 % 65536).toInt32) = (x.toUInt32 % 65536).toInt32 := by
  show ((x.toUInt32 % 65536).toInt32.toUInt32 % 65536).toInt32 = _
  exact congrArg UInt32.toInt32 (UInt32.toNat_inj.mp (by simp [UInt32.toNat_mod, Nat.mod_mod]))
set_option maxHeartbeats 4000000 in
set_option maxRecDepth 100000 in
theorem cT_say (l : Launch) (D : va_G) (cy : Nat → ClassId) (ad xa : Nat → Nat) (S : DS) (P O : CS) (sz : Nat) (x : Int32) : Met l yX8_say wsX8_say (rm9 1 23) (gPc D cy (wD cy ad S ++ wX cy ad xa P O) sz [.ref (xa 0), .int x]) (gQi D cy (wD cy ad S ++ wX cy ad xa P O) sz (fun r _ => r = (if x < nI 33 then -2 else if nI 126 < x then -2 else nI 1))) 0 0 (va_A (wD cy ad S ++ wX cy ad xa P O) sz) := by
  refine gHead (cc := cX8_say) (maxL := 2) (ret := (some .int)) (by decide) rfl (Nat.le_of_ble_eq_true rfl) ?_
  intro p e s m below meth c ls hx hb hr hlocks hml hown hts hsz hP hK hD hS hA hl
  have hown : s.vm.findClass RX8 = some m.cls := hown
  have hinX8 : ∀ w ∈ u_ws RX8 TX8 11, w ∈ wsX8_say := by decide +kernel
  have hl : lv_has ls 2 [(0, .ref (xa 0)), (1, .int x)] := hl
  refine lv_iload_n hx hb dX8_say_0 rfl (lv_at hl 1 rfl) ?_
  refine lv_bipush (v := nI 33) hx hb dX8_say_1 (by decide) ?_
  refine lv_icmp_lt (tgt := 12) hx hb dX8_say_3 (by decide) (fun c1 => ?_) (fun c1 => ?_)
  · skip
    refine lv_bipush (v := (-2)) hx hb dX8_say_12 (by decide) ?_
    exact W.iret hx hb hr (fun t ht hW => ⟨⟨_, _, rfl, by simp [c1], by rw [ht]; exact hP, va_K.moved hW.alike hK, hD⟩, hS.F ht⟩) hS.2.2 dX8_say_14
  · skip
    refine lv_iload_n hx hb dX8_say_6 rfl (lv_at hl 1 rfl) ?_
    refine lv_bipush (v := nI 126) hx hb dX8_say_7 (by decide) ?_
    refine lv_icmp_le (tgt := 15) hx hb dX8_say_9 (by decide) (fun c2 => ?_) (fun c2 => ?_)
    · skip
      refine lv_aload_n hx hb dX8_say_15 rfl (lv_at hl 0 rfl) ?_
      refine va_get (v := .ref (xa 2)) (ci := 8) (C := RX8) (T := TX8) (N := 11) hx hb hts hinX8 hown hK hP 43 (wX_0) rfl 1 (by decide) (hts (.fieldLink RX8 16 "LayoutSolver" "text" "LLayoutSolver$Line;") (by decide +kernel)) (fun x h => h) rfl dX8_say_16 ?_
      refine gCalli (ws := wD cy ad S ++ wX cy ad xa P O) (As := []) (rest := []) (q0 := 45) (r0 := (RX6, TX6, 2)) hx hb hml hown hts hK hP hD hS hA hl.1 (wX_2) rfl (cL_isFull l D cy _ _ (n := 0) (j := 0) (f := fun _ => 0) (by omega) wX_2) (cwV 0 hts gX8_say_X6_isFull rfl rfl rfl (by decide +kernel) ⟨Nat.le_of_ble_eq_true rfl, Nat.le_of_ble_eq_true rfl⟩) rfl rfl (Nat.le_of_ble_eq_true rfl) ⟨Nat.le_of_ble_eq_true rfl, Nat.le_of_ble_eq_true rfl⟩ dX8_say_19 (fun r3 ws3 H locs e3 hP hD hS => ?_)
      obtain ⟨e3a, e3b⟩ := e3
      rw [e3b] at hP hD
      rw [show r3 = nI 0 from e3a]
      refine lv_if_eq (tgt := 28) hx hb dX8_say_22 (by decide) (fun c4 => ?_) (fun c4 => ?_)
      · skip
        refine lv_aload_n hx hb dX8_say_28 rfl (lv_at hl 0 rfl) ?_
        refine va_get (v := .ref (xa 2)) (ci := 8) (C := RX8) (T := TX8) (N := 11) hx hb hts hinX8 hown hK hP 43 (wX_0) rfl 1 (by decide) (hts (.fieldLink RX8 16 "LayoutSolver" "text" "LLayoutSolver$Line;") (by decide +kernel)) (fun x h => h) rfl dX8_say_29 ?_
        refine lv_iload_n hx hb dX8_say_32 rfl (lv_at hl 1 rfl) ?_
        refine lv_i2c (v := (x.toUInt32 % 65536).toInt32) hx hb dX8_say_33 (rfl) ?_
        have hw9 : wZ (wD cy ad S ++ wX cy ad xa P O) 45 46 (xa 2, .inr (6, [.ref (xa 3), .int (nI 0)])) (xa 3, .inl (cy 0, 40, .inl (fun _ => 0))) = wD cy ad S ++ wX cy ad xa P O := wZ_self wX_2 wX_3
        rw [← hw9] at hP hD
        refine gCallv (ws := wZ (wD cy ad S ++ wX cy ad xa P O) 45 46 (xa 2, .inr (6, [.ref (xa 3), .int (nI 0)])) (xa 3, .inl (cy 0, 40, .inl (fun _ => 0)))) (As := [.int ((x.toUInt32 % 65536).toInt32)]) (rest := []) (q0 := 45) (r0 := (RX6, TX6, 2)) hx hb hml hown hts hK hP hD (by rw [← hw9] at hS; exact hS) (by rw [← hw9] at hA; exact hA) hl.1 (wZ_i (by rw [wX_len2]; omega)) rfl (cL_append l D cy _ (by omega) (by rw [wX_len2]; omega) (by rw [wX_len2]; omega) _ (n := 0) (by omega) (fun _ => 0) _ (vp_char x)) (cwV 1 hts gX8_say_X6_append rfl rfl rfl (by decide +kernel) ⟨Nat.le_of_ble_eq_true rfl, Nat.le_of_ble_eq_true rfl⟩) rfl rfl (Nat.le_of_ble_eq_true rfl) ⟨Nat.le_of_ble_eq_true rfl, Nat.le_of_ble_eq_true rfl⟩ dX8_say_34 (fun ws9 H locs e9 hP hD hS => ?_)
        rw [show ws9 = wZ (wD cy ad S ++ wX cy ad xa P O) 45 46 (xa 2, .inr (6, [.ref (xa 3), .int (nI (0 + 1))])) (xa 3, .inl (cy 0, 40, .inl (upd (fun _ => 0) 0 (x.toUInt32 % 65536).toInt32))) from e9.trans (if_pos (by decide))] at hP hD
        refine lv_aload_n hx hb dX8_say_37 rfl (lv_at hl 0 rfl) ?_
        refine va_get (v := .ref (xa 2)) (ci := 8) (C := RX8) (T := TX8) (N := 11) hx hb hts hinX8 hown hK hP 43 ((wZ_n (by decide) (by decide)).trans wX_0) rfl 1 (by decide) (hts (.fieldLink RX8 16 "LayoutSolver" "text" "LLayoutSolver$Line;") (by decide +kernel)) (fun x h => h) rfl dX8_say_38 ?_
        refine gCalli (ws := wZ (wD cy ad S ++ wX cy ad xa P O) 45 46 (xa 2, .inr (6, [.ref (xa 3), .int (nI (0 + 1))])) (xa 3, .inl (cy 0, 40, .inl (upd (fun _ => 0) 0 (x.toUInt32 % 65536).toInt32)))) (As := []) (rest := []) (q0 := 45) (r0 := (RX6, TX6, 2)) hx hb hml hown hts hK hP hD hS (by rw [hw9]; exact hA) hl.1 (wZ_i (by rw [wX_len2]; omega)) rfl (cL_size l D cy _ _ (n := 1) (j := 0) (f := fun _ => 0) (by omega) (wZ_i (by rw [wX_len2]; omega))) (cwV 0 hts gX8_say_X6_size rfl rfl rfl (by decide +kernel) ⟨Nat.le_of_ble_eq_true rfl, Nat.le_of_ble_eq_true rfl⟩) rfl rfl (Nat.le_of_ble_eq_true rfl) ⟨Nat.le_of_ble_eq_true rfl, Nat.le_of_ble_eq_true rfl⟩ dX8_say_41 (fun r9 ws8 H locs e8 hP hD hS => ?_)
        obtain ⟨e8a, e8b⟩ := e8
        rw [e8b] at hP hD
        rw [e8a]
        rw [hw9] at hS hD
        exact W.iret hx hb hr (fun t ht hW => ⟨⟨_, _, rfl, by rw [if_neg c1, if_neg (Int32.not_lt.mpr c2)], by rw [ht]; exact hP, va_K.moved hW.alike hK, hD⟩, hS.F ht⟩) hS.2.2 dX8_say_44
      · exact absurd c4 (by decide)
    · skip
      refine lv_bipush (v := (-2)) hx hb dX8_say_12 (by decide) ?_
      exact W.iret hx hb hr (fun t ht hW => ⟨⟨_, _, rfl, by simp [c1, c2], by rw [ht]; exact hP, va_K.moved hW.alike hK, hD⟩, hS.F ht⟩) hS.2.2 dX8_say_14
set_option maxHeartbeats 4000000 in
set_option maxRecDepth 100000 in
theorem cT_wipe (l : Launch) (D : va_G) (cy : Nat → ClassId) (ad xa : Nat → Nat) (S : DS) (P O : CS) (sz : Nat)  : Met l yX8_wipe wsX8_wipe (rm9 1 23) (gPc D cy (wD cy ad S ++ wX cy ad xa P O) sz [.ref (xa 0)]) (gQi D cy (wD cy ad S ++ wX cy ad xa P O) sz (fun r _ => r = nI 0)) 0 0 (va_A (wD cy ad S ++ wX cy ad xa P O) sz) := by
  refine gHead (cc := cX8_wipe) (maxL := 2) (ret := (some .int)) (by decide) rfl (Nat.le_of_ble_eq_true rfl) ?_
  intro p e s m below meth c ls hx hb hr hlocks hml hown hts hsz hP hK hD hS hA hl
  have hown : s.vm.findClass RX8 = some m.cls := hown
  have hinX8 : ∀ w ∈ u_ws RX8 TX8 11, w ∈ wsX8_wipe := by decide +kernel
  have hl : lv_has ls 2 [(0, .ref (xa 0))] := hl
  refine lv_aload_n hx hb dX8_wipe_0 rfl (lv_at hl 0 rfl) ?_
  refine va_get (v := .ref (xa 2)) (ci := 8) (C := RX8) (T := TX8) (N := 11) hx hb hts hinX8 hown hK hP 43 (wX_0) rfl 1 (by decide) (hts (.fieldLink RX8 16 "LayoutSolver" "text" "LLayoutSolver$Line;") (by decide +kernel)) (fun x h => h) rfl dX8_wipe_1 ?_
  refine gCalli (ws := wD cy ad S ++ wX cy ad xa P O) (As := []) (rest := []) (q0 := 45) (r0 := (RX6, TX6, 2)) hx hb hml hown hts hK hP hD hS hA hl.1 (wX_2) rfl (cL_size l D cy _ _ (n := 0) (j := 0) (f := fun _ => 0) (by omega) wX_2) (cwV 0 hts gX8_wipe_X6_size rfl rfl rfl (by decide +kernel) ⟨Nat.le_of_ble_eq_true rfl, Nat.le_of_ble_eq_true rfl⟩) rfl rfl (Nat.le_of_ble_eq_true rfl) ⟨Nat.le_of_ble_eq_true rfl, Nat.le_of_ble_eq_true rfl⟩ dX8_wipe_4 (fun r1 ws1 H locs e1 hP hD hS => ?_)
  obtain ⟨e1a, e1b⟩ := e1
  rw [e1b] at hP hD
  rw [show r1 = nI 0 from e1a]
  refine lv_istore_n (lv' := [(1, .int (nI 0)), (0, .ref (xa 0))]) hx hb dX8_wipe_7 rfl hl (by decide) rfl (fun ls hl => ?_)
  refine lv_aload_n hx hb dX8_wipe_8 rfl (lv_at hl 1 rfl) ?_
  refine va_get (v := .ref (xa 2)) (ci := 8) (C := RX8) (T := TX8) (N := 11) hx hb hts hinX8 hown hK hP 43 (wX_0) rfl 1 (by decide) (hts (.fieldLink RX8 16 "LayoutSolver" "text" "LLayoutSolver$Line;") (by decide +kernel)) (fun x h => h) rfl dX8_wipe_9 ?_
  have hw9 : wZ (wD cy ad S ++ wX cy ad xa P O) 45 46 (xa 2, .inr (6, [.ref (xa 3), .int (nI 0)])) (xa 3, .inl (cy 0, 40, .inl (fun _ => 0))) = wD cy ad S ++ wX cy ad xa P O := wZ_self wX_2 wX_3
  rw [← hw9] at hP hD
  refine gCallv (ws := wZ (wD cy ad S ++ wX cy ad xa P O) 45 46 (xa 2, .inr (6, [.ref (xa 3), .int (nI 0)])) (xa 3, .inl (cy 0, 40, .inl (fun _ => 0)))) (As := []) (rest := []) (q0 := 45) (r0 := (RX6, TX6, 2)) hx hb hml hown hts hK hP hD (by rw [← hw9] at hS; exact hS) (by rw [← hw9] at hA; exact hA) hl.1 (wZ_i (by rw [wX_len2]; omega)) rfl (cL_clear l D cy _ (by omega) (by rw [wX_len2]; omega) (by rw [wX_len2]; omega) _ (n := 0) (by omega) (fun _ => 0)) (cwV 0 hts gX8_wipe_X6_clear rfl rfl rfl (by decide +kernel) ⟨Nat.le_of_ble_eq_true rfl, Nat.le_of_ble_eq_true rfl⟩) rfl rfl (Nat.le_of_ble_eq_true rfl) ⟨Nat.le_of_ble_eq_true rfl, Nat.le_of_ble_eq_true rfl⟩ dX8_wipe_12 (fun ws9 H locs e9 hP hD hS => ?_)
  rw [hw9] at hS hD
  refine lv_iload_n hx hb dX8_wipe_15 rfl (lv_at hl 0 rfl) ?_
  exact W.iret hx hb hr (fun t ht hW => ⟨⟨_, _, rfl, rfl, by rw [ht]; exact hP, va_K.moved hW.alike hK, hD⟩, hS.F ht⟩) hS.2.2 dX8_wipe_16
set_option maxHeartbeats 4000000 in
set_option maxRecDepth 100000 in
theorem cT_undo (l : Launch) (D : va_G) (cy : Nat → ClassId) (ad xa : Nat → Nat) (S : DS) (P O : CS) (sz : Nat)  : Met l yX8_undo wsX8_undo (rm9 1 23) (gPc D cy (wD cy ad S ++ wX cy ad xa P O) sz [.ref (xa 0)]) (gQi D cy (wD cy ad S ++ wX cy ad xa P O) sz (fun r _ => r = -5)) 0 0 (va_A (wD cy ad S ++ wX cy ad xa P O) sz) := by
  refine gHead (cc := cX8_undo) (maxL := 2) (ret := (some .int)) (by decide) rfl (Nat.le_of_ble_eq_true rfl) ?_
  intro p e s m below meth c ls hx hb hr hlocks hml hown hts hsz hP hK hD hS hA hl
  have hown : s.vm.findClass RX8 = some m.cls := hown
  have hinX8 : ∀ w ∈ u_ws RX8 TX8 11, w ∈ wsX8_undo := by decide +kernel
  have hl : lv_has ls 2 [(0, .ref (xa 0))] := hl
  refine lv_aload_n hx hb dX8_undo_0 rfl (lv_at hl 0 rfl) ?_
  refine va_get (v := .ref (xa 11)) (ci := 8) (C := RX8) (T := TX8) (N := 11) hx hb hts hinX8 hown hK hP 43 (wX_0) rfl 6 (by decide) (hts (.fieldLink RX8 44 "LayoutSolver" "history" "LLayoutSolver$History;") (by decide +kernel)) (fun x h => h) rfl dX8_undo_1 ?_
  refine gCallq (ws := wD cy ad S ++ wX cy ad xa P O) (As := []) (rest := []) (q0 := 54) (r0 := (RX4, TX4, 3)) hx hb hml hown hts hK hP hD hS hA hl.1 (wX_11) rfl (cH_back0 l D cy _ _ wX_11) (cwV 0 hts gX8_undo_X4_back rfl rfl rfl (by decide +kernel) ⟨Nat.le_of_ble_eq_true rfl, Nat.le_of_ble_eq_true rfl⟩) rfl rfl (Nat.le_of_ble_eq_true rfl) ⟨Nat.le_of_ble_eq_true rfl, Nat.le_of_ble_eq_true rfl⟩ dX8_undo_4 (fun r1 ws1 H locs e1 hP hD hS => ?_)
  obtain ⟨e1a, e1b⟩ := e1
  rw [e1b] at hP hD
  rw [show r1 = none from e1a.trans rfl] 
  refine W.eq (g2 := F0 m 7 ls [.null]) rfl ?_
  refine lv_astore_nN (lv' := [(1, .null), (0, .ref (xa 0))]) hx hb dX8_undo_7 rfl hl (by decide) rfl (fun ls hl => ?_)
  refine lv_aload_nN hx hb dX8_undo_8 rfl (lv_at hl 0 rfl) ?_
  refine lv_ifnonnullN hx hb dX8_undo_9 ?_
  refine lv_bipush (v := (-5)) hx hb dX8_undo_12 (by decide) ?_
  exact W.iret hx hb hr (fun t ht hW => ⟨⟨_, _, rfl, rfl, by rw [ht]; exact hP, va_K.moved hW.alike hK, hD⟩, hS.F ht⟩) hS.2.2 dX8_undo_14
set_option maxHeartbeats 4000000 in
set_option maxRecDepth 100000 in
theorem cT_redo (l : Launch) (D : va_G) (cy : Nat → ClassId) (ad xa : Nat → Nat) (S : DS) (P O : CS) (sz : Nat)  : Met l yX8_redo wsX8_redo (rm9 1 23) (gPc D cy (wD cy ad S ++ wX cy ad xa P O) sz [.ref (xa 0)]) (gQi D cy (wD cy ad S ++ wX cy ad xa P O) sz (fun r _ => r = -5)) 0 0 (va_A (wD cy ad S ++ wX cy ad xa P O) sz) := by
  refine gHead (cc := cX8_redo) (maxL := 2) (ret := (some .int)) (by decide) rfl (Nat.le_of_ble_eq_true rfl) ?_
  intro p e s m below meth c ls hx hb hr hlocks hml hown hts hsz hP hK hD hS hA hl
  have hown : s.vm.findClass RX8 = some m.cls := hown
  have hinX8 : ∀ w ∈ u_ws RX8 TX8 11, w ∈ wsX8_redo := by decide +kernel
  have hl : lv_has ls 2 [(0, .ref (xa 0))] := hl
  refine lv_aload_n hx hb dX8_redo_0 rfl (lv_at hl 0 rfl) ?_
  refine va_get (v := .ref (xa 11)) (ci := 8) (C := RX8) (T := TX8) (N := 11) hx hb hts hinX8 hown hK hP 43 (wX_0) rfl 6 (by decide) (hts (.fieldLink RX8 44 "LayoutSolver" "history" "LLayoutSolver$History;") (by decide +kernel)) (fun x h => h) rfl dX8_redo_1 ?_
  refine gCallq (ws := wD cy ad S ++ wX cy ad xa P O) (As := []) (rest := []) (q0 := 54) (r0 := (RX4, TX4, 3)) hx hb hml hown hts hK hP hD hS hA hl.1 (wX_11) rfl (cH_forth0 l D cy _ _ wX_11) (cwV 0 hts gX8_redo_X4_forth rfl rfl rfl (by decide +kernel) ⟨Nat.le_of_ble_eq_true rfl, Nat.le_of_ble_eq_true rfl⟩) rfl rfl (Nat.le_of_ble_eq_true rfl) ⟨Nat.le_of_ble_eq_true rfl, Nat.le_of_ble_eq_true rfl⟩ dX8_redo_4 (fun r1 ws1 H locs e1 hP hD hS => ?_)
  obtain ⟨e1a, e1b⟩ := e1
  rw [e1b] at hP hD
  rw [show r1 = none from e1a.trans rfl] 
  refine W.eq (g2 := F0 m 7 ls [.null]) rfl ?_
  refine lv_astore_nN (lv' := [(1, .null), (0, .ref (xa 0))]) hx hb dX8_redo_7 rfl hl (by decide) rfl (fun ls hl => ?_)
  refine lv_aload_nN hx hb dX8_redo_8 rfl (lv_at hl 0 rfl) ?_
  refine lv_ifnonnullN hx hb dX8_redo_9 ?_
  refine lv_bipush (v := (-5)) hx hb dX8_redo_12 (by decide) ?_
  exact W.iret hx hb hr (fun t ht hW => ⟨⟨_, _, rfl, rfl, by rw [ht]; exact hP, va_K.moved hW.alike hK, hD⟩, hS.F ht⟩) hS.2.2 dX8_redo_14
def kCon1 (v : Nat) : Int32 := nI 1 <<< (nI v &&& 31)
set_option maxHeartbeats 4000000 in
set_option maxRecDepth 100000 in
theorem cT_connected (l : Launch) (D : va_G) (cy : Nat → ClassId) (ad xa : Nat → Nat) (S : DS) (P O : CS) (sz : Nat) (v : Int32) : Met l yX8_connected wsX8_connected (rm9 1 23) (gPc D cy (wD cy ad S ++ wX cy ad xa P O) sz [.ref (xa 0), .int v]) (gQi D cy (wD cy ad S ++ wX cy ad xa P O) sz (fun r _ => r = (if k_isVariable v = 0 then -1 else nI 1 <<< (v &&& 31)))) 0 0 (va_A (wD cy ad S ++ wX cy ad xa P O) sz) := by
  refine gHead (cc := cX8_connected) (maxL := 6) (ret := (some .int)) (by decide) rfl (Nat.le_of_ble_eq_true rfl) ?_
  intro p e s m below meth c ls hx hb hr hlocks hml hown hts hsz hP hK hD hS hA hl
  have hown : s.vm.findClass RX8 = some m.cls := hown
  have hinX8 : ∀ w ∈ u_ws RX8 TX8 11, w ∈ wsX8_connected := by decide +kernel
  have hl : lv_has ls 6 [(0, .ref (xa 0)), (1, .int v)] := hl
  refine lv_iload_n hx hb dX8_connected_0 rfl (lv_at hl 1 rfl) ?_
  refine pCalli (As := [.int v]) (rest := []) hx hb hml hown hts hP hS hA hl.1 (cS_isVariable l _ v) (va_cwS 1 hts gX8_connected_X8_isVariable rfl rfl rfl (by decide +kernel) ⟨Nat.le_of_ble_eq_true rfl, Nat.le_of_ble_eq_true rfl⟩) rfl rfl (Nat.le_of_ble_eq_true rfl) ⟨Nat.le_of_ble_eq_true rfl, Nat.le_of_ble_eq_true rfl⟩ dX8_connected_1 (fun r1 H locs e1 hP hS => ?_)
  rw [show r1 = k_isVariable v from e1]
  refine lv_if_ne (tgt := 9) hx hb dX8_connected_4 (by decide) (fun c2 => ?_) (fun c2 => ?_)
  · skip
    refine lv_iconst (v := nI 1) hx hb dX8_connected_9 (by decide) ?_
    refine lv_iload_n hx hb dX8_connected_10 rfl (lv_at hl 1 rfl) ?_
    refine lv_ishl hx hb dX8_connected_11 ?_
    refine lv_istore_n (lv' := [(2, .int ((nI 1) <<< (v &&& 31))), (0, .ref (xa 0)), (1, .int v)]) hx hb dX8_connected_12 rfl hl (by decide) rfl (fun ls hl => ?_)
    refine lv_iconst (v := nI 0) hx hb dX8_connected_13 (by decide) ?_
    refine lv_istore_n (lv' := [(3, .int (nI 0)), (2, .int ((nI 1) <<< (v &&& 31))), (0, .ref (xa 0)), (1, .int v)]) hx hb dX8_connected_14 rfl hl (by decide) rfl (fun ls hl => ?_)
    have L15 : ∀ (n k2 : Nat) (q2 : Int32) (H : Heap) (locs : List Loc) (ls : Array Slot), k2 + n = 6 → va_P D vwCl (wD cy ad S ++ wX cy ad xa P O) H → va_D (va_A (wD cy ad S ++ wX cy ad xa P O) sz) (wD cy ad S ++ wX cy ad xa P O) → va_S (va_A (wD cy ad S ++ wX cy ad xa P O) sz) s.heap H locs → lv_has ls 6 [(3, .int (nI k2)), (0, .ref (xa 0)), (1, .int v), (2, .int q2)] → (∀ (H : Heap) (locs : List Loc) (ls : Array Slot), va_P D vwCl (wD cy ad S ++ wX cy ad xa P O) H → va_D (va_A (wD cy ad S ++ wX cy ad xa P O) sz) (wD cy ad S ++ wX cy ad xa P O) → va_S (va_A (wD cy ad S ++ wX cy ad xa P O) sz) s.heap H locs → lv_has ls 6 [(3, .int (nI 6)), (0, .ref (xa 0)), (1, .int v), (2, .int (lpN (fIdI) n k2 q2))] → W p l e (headSpec wsX8_connected (rm9 1 23)).room s m ([.ref (xa 0), .int v] : List Value).toArray below meth c H locs 0 0 (MQ below (gQi D cy (wD cy ad S ++ wX cy ad xa P O) sz (fun r _ => r = (if k_isVariable v = 0 then -1 else nI 1 <<< (v &&& 31)))) ([.ref (xa 0), .int v] : List Value).toArray s 0 0 (va_A (wD cy ad S ++ wX cy ad xa P O) sz)) (F0 m 77 ls [])) → W p l e (headSpec wsX8_connected (rm9 1 23)).room s m ([.ref (xa 0), .int v] : List Value).toArray below meth c H locs 0 0 (MQ below (gQi D cy (wD cy ad S ++ wX cy ad xa P O) sz (fun r _ => r = (if k_isVariable v = 0 then -1 else nI 1 <<< (v &&& 31)))) ([.ref (xa 0), .int v] : List Value).toArray s 0 0 (va_A (wD cy ad S ++ wX cy ad xa P O) sz)) (F0 m 15 ls []) := by
      intro n
      induction n with
      | zero =>
        intro k2 q2 H locs ls hk hP hD hS hl hex
        obtain rfl : 6 = k2 := by omega
        refine lv_iload_n hx hb dX8_connected_15 rfl (lv_at hl 0 rfl) ?_
        refine lv_bipush (v := nI 6) hx hb dX8_connected_16 (by decide) ?_
        refine lv_icmp_ge (tgt := 77) hx hb dX8_connected_18 (by decide) (fun c3 => ?_) (fun c3 => ?_)
        · rw [nI_leI (by omega) (by omega)] at c3
          exact hex _ _ _ hP hD hS (lv_sub hl [0, 1, 2, 3] rfl)
        · exact absurd c3 (by rw [nI_leI (by omega) (by omega)]; omega)
      | succ n ih =>
        intro k2 q2 H locs ls hk hP hD hS hl hex
        have hk15 : k2 < 6 := by omega
        refine lv_iload_n hx hb dX8_connected_15 rfl (lv_at hl 0 rfl) ?_
        refine lv_bipush (v := nI 6) hx hb dX8_connected_16 (by decide) ?_
        refine lv_icmp_ge (tgt := 77) hx hb dX8_connected_18 (by decide) (fun c4 => ?_) (fun c4 => ?_)
        · exact absurd c4 (by rw [nI_leI (by omega) (by omega)]; omega)
        · rw [nI_leI (by omega) (by omega)] at c4
          refine lv_iconst (v := nI 0) hx hb dX8_connected_21 (by decide) ?_
          refine lv_istore (lv' := [(4, .int (nI 0)), (3, .int (nI k2)), (0, .ref (xa 0)), (1, .int v), (2, .int q2)]) hx hb dX8_connected_22 hl (by decide) rfl (fun ls hl => ?_)
          have L24 : ∀ (n k : Nat) (q : Int32) (H : Heap) (locs : List Loc) (ls : Array Slot), k + n = 14 → va_P D vwCl (wD cy ad S ++ wX cy ad xa P O) H → va_D (va_A (wD cy ad S ++ wX cy ad xa P O) sz) (wD cy ad S ++ wX cy ad xa P O) → va_S (va_A (wD cy ad S ++ wX cy ad xa P O) sz) s.heap H locs → lv_has ls 6 [(4, .int (nI k)), (0, .ref (xa 0)), (1, .int v), (3, .int (nI k2)), (2, .int q)] → (∀ (H : Heap) (locs : List Loc) (ls : Array Slot), va_P D vwCl (wD cy ad S ++ wX cy ad xa P O) H → va_D (va_A (wD cy ad S ++ wX cy ad xa P O) sz) (wD cy ad S ++ wX cy ad xa P O) → va_S (va_A (wD cy ad S ++ wX cy ad xa P O) sz) s.heap H locs → lv_has ls 6 [(4, .int (nI 14)), (0, .ref (xa 0)), (1, .int v), (3, .int (nI k2)), (2, .int (lpN (fIdI) n k q))] → W p l e (headSpec wsX8_connected (rm9 1 23)).room s m ([.ref (xa 0), .int v] : List Value).toArray below meth c H locs 0 0 (MQ below (gQi D cy (wD cy ad S ++ wX cy ad xa P O) sz (fun r _ => r = (if k_isVariable v = 0 then -1 else nI 1 <<< (v &&& 31)))) ([.ref (xa 0), .int v] : List Value).toArray s 0 0 (va_A (wD cy ad S ++ wX cy ad xa P O) sz)) (F0 m 71 ls [])) → W p l e (headSpec wsX8_connected (rm9 1 23)).room s m ([.ref (xa 0), .int v] : List Value).toArray below meth c H locs 0 0 (MQ below (gQi D cy (wD cy ad S ++ wX cy ad xa P O) sz (fun r _ => r = (if k_isVariable v = 0 then -1 else nI 1 <<< (v &&& 31)))) ([.ref (xa 0), .int v] : List Value).toArray s 0 0 (va_A (wD cy ad S ++ wX cy ad xa P O) sz)) (F0 m 24 ls []) := by
            intro n
            induction n with
            | zero =>
              intro k q H locs ls hk hP hD hS hl hex
              obtain rfl : 14 = k := by omega
              refine lv_iload hx hb dX8_connected_24 (lv_at hl 0 rfl) ?_
              refine lv_bipush (v := nI 14) hx hb dX8_connected_26 (by decide) ?_
              refine lv_icmp_ge (tgt := 71) hx hb dX8_connected_28 (by decide) (fun c5 => ?_) (fun c5 => ?_)
              · rw [nI_leI (by omega) (by omega)] at c5
                exact hex _ _ _ hP hD hS (lv_sub hl [0, 1, 2, 3, 4] rfl)
              · exact absurd c5 (by rw [nI_leI (by omega) (by omega)]; omega)
            | succ n ih =>
              intro k q H locs ls hk hP hD hS hl hex
              have hk24 : k < 14 := by omega
              refine lv_iload hx hb dX8_connected_24 (lv_at hl 0 rfl) ?_
              refine lv_bipush (v := nI 14) hx hb dX8_connected_26 (by decide) ?_
              refine lv_icmp_ge (tgt := 71) hx hb dX8_connected_28 (by decide) (fun c6 => ?_) (fun c6 => ?_)
              · exact absurd c6 (by rw [nI_leI (by omega) (by omega)]; omega)
              · rw [nI_leI (by omega) (by omega)] at c6
                refine lv_aload_n hx hb dX8_connected_31 rfl (lv_at hl 1 rfl) ?_
                refine va_get (v := .ref (xa 8)) (ci := 8) (C := RX8) (T := TX8) (N := 11) hx hb hts hinX8 hown hK hP 43 (wX_0) rfl 4 (by decide) (hts (.fieldLink RX8 33 "LayoutSolver" "layout" "LLayoutSolver$Layout;") (by decide +kernel)) (fun x h => h) rfl dX8_connected_32 ?_
                refine lv_iload hx hb dX8_connected_35 (lv_at hl 0 rfl) ?_
                refine gCallq (ws := wD cy ad S ++ wX cy ad xa P O) (As := [.int (nI k)]) (rest := []) (q0 := 51) (r0 := (RX5, TX5, 1)) hx hb hml hown hts hK hP hD hS hA hl.1 (wX_8) rfl (cY_at l D cy _ _ (nI k) wX_8 wX_9) (cwV 1 hts gX8_connected_X5_at rfl rfl rfl (by decide +kernel) ⟨Nat.le_of_ble_eq_true rfl, Nat.le_of_ble_eq_true rfl⟩) rfl rfl (Nat.le_of_ble_eq_true rfl) ⟨Nat.le_of_ble_eq_true rfl, Nat.le_of_ble_eq_true rfl⟩ dX8_connected_37 (fun r7 ws7 H locs e7 hP hD hS => ?_)
                obtain ⟨e7a, e7b⟩ := e7
                rw [e7b] at hP hD
                rw [show r7 = none from e7a.trans kAtL_none] 
                refine W.eq (g2 := F0 m 40 ls [.null]) rfl ?_
                refine lv_astoreN (lv' := [(5, .null), (4, .int (nI k)), (0, .ref (xa 0)), (1, .int v), (3, .int (nI k2)), (2, .int q)]) hx hb dX8_connected_40 hl (by decide) rfl (fun ls hl => ?_)
                refine lv_aloadN hx hb dX8_connected_42 (lv_at hl 0 rfl) ?_
                refine lv_ifnullN (tgt := 65) hx hb dX8_connected_44 (by decide) ?_
                refine lv_iinc (v := nI (k + 1)) (lv' := [(4, .int (nI (k + 1))), (5, .null), (0, .ref (xa 0)), (1, .int v), (3, .int (nI k2)), (2, .int q)]) hx hb dX8_connected_65 hl (k := 1) rfl (nI_1 _) (by decide) rfl (fun ls hl => ?_)
                refine lv_goto (tgt := 24) hx hb dX8_connected_68 (by decide) ?_
                have he : (fIdI) k q = q := rfl
                rw [lpN_s (f := fIdI), he] at hex
                exact ih ((k + 1)) q _ _ _ (by omega) hP hD hS (lv_sub hl [0, 2, 3, 4, 5] rfl) hex
          refine L24 14 0 q2 _ _ _ (by omega) hP hD hS (lv_sub hl [0, 2, 3, 1, 4] rfl) (fun H locs ls hP hD hS hl => ?_)
          refine lv_iinc (v := nI (k2 + 1)) (lv' := [(3, .int (nI (k2 + 1))), (4, .int (nI 14)), (0, .ref (xa 0)), (1, .int v), (2, .int (lpN (fIdI) 14 0 q2))]) hx hb dX8_connected_71 hl (k := 3) rfl (nI_1 _) (by decide) rfl (fun ls hl => ?_)
          refine lv_goto (tgt := 15) hx hb dX8_connected_74 (by decide) ?_
          have he : (fIdI) k2 q2 = (lpN (fIdI) 14 0 q2) := fIdI_n.symm
          rw [lpN_s (f := fIdI), he] at hex
          exact ih ((k2 + 1)) (lpN (fIdI) 14 0 q2) _ _ _ (by omega) hP hD hS (lv_sub hl [0, 2, 3, 4] rfl) hex
    refine L15 6 0 ((nI 1) <<< (v &&& 31)) _ _ _ (by omega) hP hD hS (lv_sub hl [0, 2, 3, 1] rfl) (fun H locs ls hP hD hS hl => ?_)
    refine lv_iload_n hx hb dX8_connected_77 rfl (lv_at hl 3 rfl) ?_
    exact W.iret hx hb hr (fun t ht hW => ⟨⟨_, _, rfl, by rw [fIdI_n]; simp [c2], by rw [ht]; exact hP, va_K.moved hW.alike hK, hD⟩, hS.F ht⟩) hS.2.2 dX8_connected_78
  · skip
    refine lv_iconst (v := -1) hx hb dX8_connected_7 (by decide) ?_
    exact W.iret hx hb hr (fun t ht hW => ⟨⟨_, _, rfl, by simp [c2], by rw [ht]; exact hP, va_K.moved hW.alike hK, hD⟩, hS.F ht⟩) hS.2.2 dX8_connected_8
set_option maxHeartbeats 4000000 in
set_option maxRecDepth 100000 in
theorem cT_blockers (l : Launch) (D : va_G) (cy : Nat → ClassId) (ad xa : Nat → Nat) (S : DS) (P O : CS) (sz : Nat) (a1 a2 : Int32) : Met l yX8_blockers wsX8_blockers (rm9 1 23) (gPc D cy (wD cy ad S ++ wX cy ad xa P O) sz [.ref (xa 0), .int a1, .int a2]) (gQi D cy (wD cy ad S ++ wX cy ad xa P O) sz (fun r _ => r = (if k_isRelation a1 = 0 then -2 else if k_isWithin a2 (nI 200) = 0 then -2 else -5))) 0 0 (va_A (wD cy ad S ++ wX cy ad xa P O) sz) := by
  refine gHead (cc := cX8_blockers) (maxL := 4) (ret := (some .int)) (by decide) rfl (Nat.le_of_ble_eq_true rfl) ?_
  intro p e s m below meth c ls hx hb hr hlocks hml hown hts hsz hP hK hD hS hA hl
  have hown : s.vm.findClass RX8 = some m.cls := hown
  have hinX8 : ∀ w ∈ u_ws RX8 TX8 11, w ∈ wsX8_blockers := by decide +kernel
  have hl : lv_has ls 4 [(0, .ref (xa 0)), (1, .int a1), (2, .int a2)] := hl
  refine lv_iload_n hx hb dX8_blockers_0 rfl (lv_at hl 1 rfl) ?_
  refine pCalli (As := [.int a1]) (rest := []) hx hb hml hown hts hP hS hA hl.1 (cS_isRelation l _ a1) (va_cwS 1 hts gX8_blockers_X8_isRelation rfl rfl rfl (by decide +kernel) ⟨Nat.le_of_ble_eq_true rfl, Nat.le_of_ble_eq_true rfl⟩) rfl rfl (Nat.le_of_ble_eq_true rfl) ⟨Nat.le_of_ble_eq_true rfl, Nat.le_of_ble_eq_true rfl⟩ dX8_blockers_1 (fun r1 H locs e1 hP hS => ?_)
  rw [show r1 = k_isRelation a1 from e1]
  refine lv_if_eq (tgt := 17) hx hb dX8_blockers_4 (by decide) (fun c2 => ?_) (fun c2 => ?_)
  · skip
    refine lv_bipush (v := (-2)) hx hb dX8_blockers_17 (by decide) ?_
    exact W.iret hx hb hr (fun t ht hW => ⟨⟨_, _, rfl, by simp [c2], by rw [ht]; exact hP, va_K.moved hW.alike hK, hD⟩, hS.F ht⟩) hS.2.2 dX8_blockers_19
  · skip
    refine lv_iload_n hx hb dX8_blockers_7 rfl (lv_at hl 2 rfl) ?_
    refine lv_sipush (v := nI 200) hx hb dX8_blockers_8 (by decide) ?_
    refine pCalli (As := [.int a2, .int (nI 200)]) (rest := []) hx hb hml hown hts hP hS hA hl.1 (cS_isWithin l _ a2 (nI 200)) (va_cwS 2 hts gX8_blockers_X8_isWithin rfl rfl rfl (by decide +kernel) ⟨Nat.le_of_ble_eq_true rfl, Nat.le_of_ble_eq_true rfl⟩) rfl rfl (Nat.le_of_ble_eq_true rfl) ⟨Nat.le_of_ble_eq_true rfl, Nat.le_of_ble_eq_true rfl⟩ dX8_blockers_11 (fun r3 H locs e3 hP hS => ?_)
    rw [show r3 = k_isWithin a2 (nI 200) from e3]
    refine lv_if_ne (tgt := 20) hx hb dX8_blockers_14 (by decide) (fun c4 => ?_) (fun c4 => ?_)
    · skip
      refine lv_aload_n hx hb dX8_blockers_20 rfl (lv_at hl 0 rfl) ?_
      refine va_get (v := .ref (xa 1)) (ci := 8) (C := RX8) (T := TX8) (N := 11) hx hb hts hinX8 hown hK hP 43 (wX_0) rfl 0 (by decide) (hts (.fieldLink RX8 9 "LayoutSolver" "draft" "[I") (by decide +kernel)) (fun x h => h) rfl dX8_blockers_21 ?_
      refine gCallSi (ws := wD cy ad S ++ wX cy ad xa P O) (As := [.ref (xa 1)]) (rest := []) hx hb hml hown hts hK hP hD hS hA hl.1 (cS_isAllZero l D cy _ _ wX_1) (va_cwS 1 hts gX8_blockers_X8_isAllZero rfl rfl rfl (by decide +kernel) ⟨Nat.le_of_ble_eq_true rfl, Nat.le_of_ble_eq_true rfl⟩) rfl rfl (Nat.le_of_ble_eq_true rfl) ⟨Nat.le_of_ble_eq_true rfl, Nat.le_of_ble_eq_true rfl⟩ dX8_blockers_24 (fun r5 ws5 H locs e5 hP hD hS => ?_)
      obtain ⟨e5a, e5b⟩ := e5
      rw [e5b] at hP hD
      rw [show r5 = nI 1 from e5a.trans kAllZ]
      refine lv_if_eq (tgt := 33) hx hb dX8_blockers_27 (by decide) (fun c6 => ?_) (fun c6 => ?_)
      · exact absurd c6 (by decide)
      · skip
        refine lv_bipush (v := (-5)) hx hb dX8_blockers_30 (by decide) ?_
        exact W.iret hx hb hr (fun t ht hW => ⟨⟨_, _, rfl, by simp [c2, c4, c6], by rw [ht]; exact hP, va_K.moved hW.alike hK, hD⟩, hS.F ht⟩) hS.2.2 dX8_blockers_32
    · skip
      refine lv_bipush (v := (-2)) hx hb dX8_blockers_17 (by decide) ?_
      exact W.iret hx hb hr (fun t ht hW => ⟨⟨_, _, rfl, by simp [c2, c4], by rw [ht]; exact hP, va_K.moved hW.alike hK, hD⟩, hS.F ht⟩) hS.2.2 dX8_blockers_19
set_option maxHeartbeats 4000000 in
set_option maxRecDepth 100000 in
theorem cT_count (l : Launch) (D : va_G) (cy : Nat → ClassId) (ad xa : Nat → Nat) (S : DS) (P O : CS) (sz : Nat) (x : Int32) : Met l yX8_count wsX8_count (rm9 2 46) (gPc D cy (wD cy ad S ++ wX cy ad xa P O) sz [.ref (xa 0), .int x]) (gQi D cy (wD cy ad S ++ wX cy ad xa P O) sz (fun r _ => r = (if x.toInt < 0 then -2 else if (4 : Int) < x.toInt then -2 else nI 0))) 0 0 (va_A (wD cy ad S ++ wX cy ad xa P O) sz) := by
  refine gHead (cc := cX8_count) (maxL := 2) (ret := (some .int)) (by decide) rfl (Nat.le_of_ble_eq_true rfl) ?_
  intro p e s m below meth c ls hx hb hr hlocks hml hown hts hsz hP hK hD hS hA hl
  have hown : s.vm.findClass RX8 = some m.cls := hown
  have hinX8 : ∀ w ∈ u_ws RX8 TX8 11, w ∈ wsX8_count := by decide +kernel
  have hl : lv_has ls 2 [(0, .ref (xa 0)), (1, .int x)] := hl
  refine lv_iload_n hx hb dX8_count_0 rfl (lv_at hl 1 rfl) ?_
  by_cases t1 : x.toInt < 0
  · refine lv_tableOut (tgt := 76) hx hb dX8_count_1 (Or.inl t1) (by decide) ?_
    refine lv_bipush (v := (-2)) hx hb dX8_count_76 (by decide) ?_
    exact W.iret hx hb hr (fun t ht hW => ⟨⟨_, _, rfl, by simp [t1], by rw [ht]; exact hP, va_K.moved hW.alike hK, hD⟩, hS.F ht⟩) hS.2.2 dX8_count_78
  by_cases t2 : (4 : Int) < x.toInt
  · refine lv_tableOut (tgt := 76) hx hb dX8_count_1 (Or.inr t2) (by decide) ?_
    refine lv_bipush (v := (-2)) hx hb dX8_count_76 (by decide) ?_
    exact W.iret hx hb hr (fun t ht hW => ⟨⟨_, _, rfl, by simp [t2], by rw [ht]; exact hP, va_K.moved hW.alike hK, hD⟩, hS.F ht⟩) hS.2.2 dX8_count_78
  have z3 : x.toInt = 0 ∨ x.toInt = 1 ∨ x.toInt = 2 ∨ x.toInt = 3 ∨ x.toInt = 4 := by omega
  rcases z3 with z3 | z3 | z3 | z3 | z3
  · refine lv_tableIn (off := 35) (tgt := 36) hx hb dX8_count_1 t1 t2 (by rw [z3]; rfl) (by decide) ?_
    refine lv_aload_n hx hb dX8_count_36 rfl (lv_at hl 0 rfl) ?_
    refine va_get (v := .ref (xa 8)) (ci := 8) (C := RX8) (T := TX8) (N := 11) hx hb hts hinX8 hown hK hP 43 (wX_0) rfl 4 (by decide) (hts (.fieldLink RX8 33 "LayoutSolver" "layout" "LLayoutSolver$Layout;") (by decide +kernel)) (fun x h => h) rfl dX8_count_37 ?_
    refine gCalli (ws := wD cy ad S ++ wX cy ad xa P O) (As := []) (rest := []) (q0 := 51) (r0 := (RX5, TX5, 1)) hx hb hml hown hts hK hP hD hS hA hl.1 (wX_8) rfl (cY_size0 l D cy _ _ kMask_none wX_8 wX_9) (cwV 0 hts gX8_count_X5_size rfl rfl rfl (by decide +kernel) ⟨Nat.le_of_ble_eq_true rfl, Nat.le_of_ble_eq_true rfl⟩) rfl rfl (Nat.le_of_ble_eq_true rfl) ⟨Nat.le_of_ble_eq_true rfl, Nat.le_of_ble_eq_true rfl⟩ dX8_count_40 (fun r4 ws4 H locs e4 hP hD hS => ?_)
    obtain ⟨e4a, e4b⟩ := e4
    rw [e4b] at hP hD
    rw [show r4 = nI 0 from e4a]
    exact W.iret hx hb hr (fun t ht hW => ⟨⟨_, _, rfl, by rw [z3]; rfl, by rw [ht]; exact hP, va_K.moved hW.alike hK, hD⟩, hS.F ht⟩) hS.2.2 dX8_count_43
  · refine lv_tableIn (off := 43) (tgt := 44) hx hb dX8_count_1 t1 t2 (by rw [z3]; rfl) (by decide) ?_
    refine lv_aload_n hx hb dX8_count_44 rfl (lv_at hl 0 rfl) ?_
    refine va_get (v := .ref (xa 2)) (ci := 8) (C := RX8) (T := TX8) (N := 11) hx hb hts hinX8 hown hK hP 43 (wX_0) rfl 1 (by decide) (hts (.fieldLink RX8 16 "LayoutSolver" "text" "LLayoutSolver$Line;") (by decide +kernel)) (fun x h => h) rfl dX8_count_45 ?_
    refine gCalli (ws := wD cy ad S ++ wX cy ad xa P O) (As := []) (rest := []) (q0 := 45) (r0 := (RX6, TX6, 2)) hx hb hml hown hts hK hP hD hS hA hl.1 (wX_2) rfl (cL_size l D cy _ _ (n := 0) (j := 0) (f := fun _ => 0) (by omega) wX_2) (cwV 0 hts gX8_count_X6_size rfl rfl rfl (by decide +kernel) ⟨Nat.le_of_ble_eq_true rfl, Nat.le_of_ble_eq_true rfl⟩) rfl rfl (Nat.le_of_ble_eq_true rfl) ⟨Nat.le_of_ble_eq_true rfl, Nat.le_of_ble_eq_true rfl⟩ dX8_count_48 (fun r5 ws5 H locs e5 hP hD hS => ?_)
    obtain ⟨e5a, e5b⟩ := e5
    rw [e5b] at hP hD
    rw [show r5 = nI 0 from e5a]
    exact W.iret hx hb hr (fun t ht hW => ⟨⟨_, _, rfl, by rw [z3]; rfl, by rw [ht]; exact hP, va_K.moved hW.alike hK, hD⟩, hS.F ht⟩) hS.2.2 dX8_count_51
  · refine lv_tableIn (off := 51) (tgt := 52) hx hb dX8_count_1 t1 t2 (by rw [z3]; rfl) (by decide) ?_
    refine lv_aload_n hx hb dX8_count_52 rfl (lv_at hl 0 rfl) ?_
    refine va_get (v := .ref (xa 11)) (ci := 8) (C := RX8) (T := TX8) (N := 11) hx hb hts hinX8 hown hK hP 43 (wX_0) rfl 6 (by decide) (hts (.fieldLink RX8 44 "LayoutSolver" "history" "LLayoutSolver$History;") (by decide +kernel)) (fun x h => h) rfl dX8_count_53 ?_
    refine gCalli (ws := wD cy ad S ++ wX cy ad xa P O) (As := []) (rest := []) (q0 := 54) (r0 := (RX4, TX4, 3)) hx hb hml hown hts hK hP hD hS hA hl.1 (wX_11) rfl (cH_done0 l D cy _ _ wX_11) (cwV 0 hts gX8_count_X4_done rfl rfl rfl (by decide +kernel) ⟨Nat.le_of_ble_eq_true rfl, Nat.le_of_ble_eq_true rfl⟩) rfl rfl (Nat.le_of_ble_eq_true rfl) ⟨Nat.le_of_ble_eq_true rfl, Nat.le_of_ble_eq_true rfl⟩ dX8_count_56 (fun r6 ws6 H locs e6 hP hD hS => ?_)
    obtain ⟨e6a, e6b⟩ := e6
    rw [e6b] at hP hD
    rw [show r6 = nI 0 from e6a]
    exact W.iret hx hb hr (fun t ht hW => ⟨⟨_, _, rfl, by rw [z3]; rfl, by rw [ht]; exact hP, va_K.moved hW.alike hK, hD⟩, hS.F ht⟩) hS.2.2 dX8_count_59
  · refine lv_tableIn (off := 59) (tgt := 60) hx hb dX8_count_1 t1 t2 (by rw [z3]; rfl) (by decide) ?_
    refine lv_aload_n hx hb dX8_count_60 rfl (lv_at hl 0 rfl) ?_
    refine va_get (v := .ref (xa 11)) (ci := 8) (C := RX8) (T := TX8) (N := 11) hx hb hts hinX8 hown hK hP 43 (wX_0) rfl 6 (by decide) (hts (.fieldLink RX8 44 "LayoutSolver" "history" "LLayoutSolver$History;") (by decide +kernel)) (fun x h => h) rfl dX8_count_61 ?_
    refine gCalli (ws := wD cy ad S ++ wX cy ad xa P O) (As := []) (rest := []) (q0 := 54) (r0 := (RX4, TX4, 3)) hx hb hml hown hts hK hP hD hS hA hl.1 (wX_11) rfl (cH_undone0 l D cy _ _ wX_11) (cwV 0 hts gX8_count_X4_undone rfl rfl rfl (by decide +kernel) ⟨Nat.le_of_ble_eq_true rfl, Nat.le_of_ble_eq_true rfl⟩) rfl rfl (Nat.le_of_ble_eq_true rfl) ⟨Nat.le_of_ble_eq_true rfl, Nat.le_of_ble_eq_true rfl⟩ dX8_count_64 (fun r7 ws7 H locs e7 hP hD hS => ?_)
    obtain ⟨e7a, e7b⟩ := e7
    rw [e7b] at hP hD
    rw [show r7 = nI 0 from e7a]
    exact W.iret hx hb hr (fun t ht hW => ⟨⟨_, _, rfl, by rw [z3]; rfl, by rw [ht]; exact hP, va_K.moved hW.alike hK, hD⟩, hS.F ht⟩) hS.2.2 dX8_count_67
  · refine lv_tableIn (off := 67) (tgt := 68) hx hb dX8_count_1 t1 t2 (by rw [z3]; rfl) (by decide) ?_
    refine lv_aload_n hx hb dX8_count_68 rfl (lv_at hl 0 rfl) ?_
    refine va_get (v := .ref (xa 8)) (ci := 8) (C := RX8) (T := TX8) (N := 11) hx hb hts hinX8 hown hK hP 43 (wX_0) rfl 4 (by decide) (hts (.fieldLink RX8 33 "LayoutSolver" "layout" "LLayoutSolver$Layout;") (by decide +kernel)) (fun x h => h) rfl dX8_count_69 ?_
    refine gCalli (ws := wD cy ad S ++ wX cy ad xa P O) (As := []) (rest := []) (q0 := 51) (r0 := (RX5, TX5, 1)) hx hb hml hown hts hK hP hD hS hA hl.1 (wX_8) rfl (cY_req0 l D cy _ _ (fun _ => rfl) wX_8 wX_9) (cwV 0 hts gX8_count_X5_requiredOnes rfl rfl rfl (by decide +kernel) ⟨Nat.le_of_ble_eq_true rfl, Nat.le_of_ble_eq_true rfl⟩) rfl rfl (Nat.le_of_ble_eq_true rfl) ⟨Nat.le_of_ble_eq_true rfl, Nat.le_of_ble_eq_true rfl⟩ dX8_count_72 (fun r8 ws8 H locs e8 hP hD hS => ?_)
    obtain ⟨e8a, e8b⟩ := e8
    rw [e8b] at hP hD
    rw [show r8 = nI 0 from e8a]
    exact W.iret hx hb hr (fun t ht hW => ⟨⟨_, _, rfl, by rw [z3]; rfl, by rw [ht]; exact hP, va_K.moved hW.alike hK, hD⟩, hS.F ht⟩) hS.2.2 dX8_count_75
set_option maxHeartbeats 4000000 in
set_option maxRecDepth 100000 in
theorem cT_restore (l : Launch) (D : va_G) (cy : Nat → ClassId) (ad xa : Nat → Nat) (S : DS) (P O : CS) (sz : Nat) (x : Int32) : Met l yX8_restore wsX8_restore (rm9 1 23) (gPc D cy (wD cy ad S ++ wX cy ad xa P O) sz [.ref (xa 0), .int x]) (gQi D cy (wD cy ad S ++ wX cy ad xa P O) sz (fun r _ => r = (if x < 0 then -2 else if x < nI 2 then -5 else -2))) 0 0 (va_A (wD cy ad S ++ wX cy ad xa P O) sz) := by
  refine gHead (cc := cX8_restore) (maxL := 4) (ret := (some .int)) (by decide) rfl (Nat.le_of_ble_eq_true rfl) ?_
  intro p e s m below meth c ls hx hb hr hlocks hml hown hts hsz hP hK hD hS hA hl
  have hown : s.vm.findClass RX8 = some m.cls := hown
  have hinX8 : ∀ w ∈ u_ws RX8 TX8 11, w ∈ wsX8_restore := by decide +kernel
  have hl : lv_has ls 4 [(0, .ref (xa 0)), (1, .int x)] := hl
  refine lv_iload_n hx hb dX8_restore_0 rfl (lv_at hl 1 rfl) ?_
  refine lv_if_lt (tgt := 9) hx hb dX8_restore_1 (by decide) (fun c1 => ?_) (fun c1 => ?_)
  · skip
    refine lv_bipush (v := (-2)) hx hb dX8_restore_9 (by decide) ?_
    exact W.iret hx hb hr (fun t ht hW => ⟨⟨_, _, rfl, by simp [c1], by rw [ht]; exact hP, va_K.moved hW.alike hK, hD⟩, hS.F ht⟩) hS.2.2 dX8_restore_11
  · skip
    refine lv_iload_n hx hb dX8_restore_4 rfl (lv_at hl 1 rfl) ?_
    refine lv_iconst (v := nI 2) hx hb dX8_restore_5 (by decide) ?_
    refine lv_icmp_lt (tgt := 12) hx hb dX8_restore_6 (by decide) (fun c2 => ?_) (fun c2 => ?_)
    · skip
      obtain ⟨i0, hi0, hie⟩ := ixN 2 c1 c2 (by omega)
      rw [hie] at hl
      refine lv_aload_n hx hb dX8_restore_12 rfl (lv_at hl 0 rfl) ?_
      refine va_get (v := .ref (xa 10)) (ci := 8) (C := RX8) (T := TX8) (N := 11) hx hb hts hinX8 hown hK hP 43 (wX_0) rfl 5 (by decide) (hts (.fieldLink RX8 37 "LayoutSolver" "slots" "[LLayoutSolver$Layout;") (by decide +kernel)) (fun x h => h) rfl dX8_restore_13 ?_
      refine lv_iload_n hx hb dX8_restore_16 rfl (lv_at hl 1 rfl) ?_
      refine va_aldq (i := nI i0) hx hb hK hP 53 6 (wX_10) rfl (vp_in_nI (by omega) (by decide)) dX8_restore_17 ?_
      refine W.eq (g2 := F0 m 18 ls [.null]) rfl ?_
      refine lv_astore_nN (lv' := [(2, .null), (0, .ref (xa 0)), (1, .int (nI i0))]) hx hb dX8_restore_18 rfl hl (by decide) rfl (fun ls hl => ?_)
      refine lv_aload_nN hx hb dX8_restore_19 rfl (lv_at hl 0 rfl) ?_
      refine lv_ifnonnullN hx hb dX8_restore_20 ?_
      refine lv_bipush (v := (-5)) hx hb dX8_restore_23 (by decide) ?_
      exact W.iret hx hb hr (fun t ht hW => ⟨⟨_, _, rfl, by simp [c1, c2], by rw [ht]; exact hP, va_K.moved hW.alike hK, hD⟩, hS.F ht⟩) hS.2.2 dX8_restore_25
    · skip
      refine lv_bipush (v := (-2)) hx hb dX8_restore_9 (by decide) ?_
      exact W.iret hx hb hr (fun t ht hW => ⟨⟨_, _, rfl, by simp [c1, c2], by rw [ht]; exact hP, va_K.moved hW.alike hK, hD⟩, hS.F ht⟩) hS.2.2 dX8_restore_11
set_option maxHeartbeats 4000000 in
set_option maxRecDepth 100000 in
theorem cT_read (l : Launch) (D : va_G) (cy : Nat → ClassId) (ad xa : Nat → Nat) (S : DS) (P O : CS) (sz : Nat)  : Met l yX7_read wsX7_read (rm9 1 23) (gPc D cy (wD cy ad S ++ wX cy ad xa P O) sz [.ref (xa 6), .ref (xa 2)]) (gQi D cy (wD cy ad S ++ wX cy ad xa P O) sz (fun r ws' => r = nI 0 ∧ ws' = wD cy ad S ++ wX cy ad xa P O)) 0 0 (va_A (wD cy ad S ++ wX cy ad xa P O) sz) := by
  refine gHead (cc := cX7_read) (maxL := 3) (ret := (some .int)) (by decide) rfl (Nat.le_of_ble_eq_true rfl) ?_
  intro p e s m below meth c ls hx hb hr hlocks hml hown hts hsz hP hK hD hS hA hl
  have hown : s.vm.findClass RX7 = some m.cls := hown
  have hl : lv_has ls 3 [(0, .ref (xa 6)), (1, .ref (xa 2))] := hl
  refine lv_aload_n hx hb dX7_read_0 rfl (lv_at hl 0 rfl) ?_
  have hw9 : wZ (wD cy ad S ++ wX cy ad xa P O) 49 50 (xa 6, .inr (7, [.ref (xa 7), .int (nI 0), .int (nI 1), .int (nI 1), .int (nI 0), .int (nI 1), .int (nI 0), .int (nI 0), .int (nI 1)])) (xa 7, .inl (cy 1, 6, .inl (fun _ => 0))) = wD cy ad S ++ wX cy ad xa P O := wZ_self wX_6 wX_7
  rw [← hw9] at hP hD
  refine gCallv (ws := wZ (wD cy ad S ++ wX cy ad xa P O) 49 50 (xa 6, .inr (7, [.ref (xa 7), .int (nI 0), .int (nI 1), .int (nI 1), .int (nI 0), .int (nI 1), .int (nI 0), .int (nI 0), .int (nI 1)])) (xa 7, .inl (cy 1, 6, .inl (fun _ => 0)))) (As := []) (rest := []) (q0 := 49) (r0 := (RX7, TX7, 9)) hx hb hml hown hts hK hP hD (by rw [← hw9] at hS; exact hS) (by rw [← hw9] at hA; exact hA) hl.1 (wZ_i (by rw [wX_len2]; omega)) rfl (cR_begin l D cy _ (by omega) (by rw [wX_len2]; omega) (by rw [wX_len2]; omega) _) (cwV 0 hts gX7_read_X7_begin rfl rfl rfl (by decide +kernel) ⟨Nat.le_of_ble_eq_true rfl, Nat.le_of_ble_eq_true rfl⟩) rfl rfl (Nat.le_of_ble_eq_true rfl) ⟨Nat.le_of_ble_eq_true rfl, Nat.le_of_ble_eq_true rfl⟩ dX7_read_1 (fun ws9 H locs e9 hP hD hS => ?_)
  rw [beg0] at e9
  rw [show ws9 = _ from e9.trans hw9] at hP hD
  rw [hw9] at hS hD
  refine lv_iconst (v := nI 0) hx hb dX7_read_4 (by decide) ?_
  refine lv_istore_n (lv' := [(2, .int (nI 0)), (0, .ref (xa 6)), (1, .ref (xa 2))]) hx hb dX7_read_5 rfl hl (by decide) rfl (fun ls hl => ?_)
  refine lv_iload_n hx hb dX7_read_6 rfl (lv_at hl 0 rfl) ?_
  refine lv_aload_n hx hb dX7_read_7 rfl (lv_at hl 2 rfl) ?_
  refine gCalli (ws := wD cy ad S ++ wX cy ad xa P O) (As := []) (rest := [.int (nI 0)]) (q0 := 45) (r0 := (RX6, TX6, 2)) hx hb hml hown hts hK hP hD hS hA hl.1 (wX_2) rfl (cL_size l D cy _ _ (n := 0) (j := 0) (f := fun _ => 0) (by omega) wX_2) (cwV 0 hts gX7_read_X6_size rfl rfl rfl (by decide +kernel) ⟨Nat.le_of_ble_eq_true rfl, Nat.le_of_ble_eq_true rfl⟩) rfl rfl (Nat.le_of_ble_eq_true rfl) ⟨Nat.le_of_ble_eq_true rfl, Nat.le_of_ble_eq_true rfl⟩ dX7_read_8 (fun r1 ws1 H locs e1 hP hD hS => ?_)
  obtain ⟨e1a, e1b⟩ := e1
  rw [e1b] at hP hD
  rw [show r1 = nI 0 from e1a]
  refine lv_icmp_ge (tgt := 34) hx hb dX7_read_11 (by decide) (fun c2 => ?_) (fun c2 => ?_)
  · rw [nI_leI (by omega) (by omega)] at c2
    refine lv_aload_n hx hb dX7_read_34 rfl (lv_at hl 2 rfl) ?_
    refine gCalli (ws := wD cy ad S ++ wX cy ad xa P O) (As := []) (rest := []) (q0 := 45) (r0 := (RX6, TX6, 2)) hx hb hml hown hts hK hP hD hS hA hl.1 (wX_2) rfl (cL_size l D cy _ _ (n := 0) (j := 0) (f := fun _ => 0) (by omega) wX_2) (cwV 0 hts gX7_read_X6_size rfl rfl rfl (by decide +kernel) ⟨Nat.le_of_ble_eq_true rfl, Nat.le_of_ble_eq_true rfl⟩) rfl rfl (Nat.le_of_ble_eq_true rfl) ⟨Nat.le_of_ble_eq_true rfl, Nat.le_of_ble_eq_true rfl⟩ dX7_read_35 (fun r3 ws3 H locs e3 hP hD hS => ?_)
    obtain ⟨e3a, e3b⟩ := e3
    rw [e3b] at hP hD
    rw [show r3 = nI 0 from e3a]
    exact W.iret hx hb hr (fun t ht hW => ⟨⟨_, _, rfl, ⟨rfl, rfl⟩, by rw [ht]; exact hP, va_K.moved hW.alike hK, hD⟩, hS.F ht⟩) hS.2.2 dX7_read_38
  · exact absurd c2 (by rw [nI_leI (by omega) (by omega)]; omega)
set_option maxHeartbeats 4000000 in
set_option maxRecDepth 100000 in
theorem cT_fault (l : Launch) (D : va_G) (cy : Nat → ClassId) (ad xa : Nat → Nat) (S : DS) (P O : CS) (sz : Nat)  : Met l yX8_fault wsX8_fault (rm9 2 46) (gPc D cy (wD cy ad S ++ wX cy ad xa P O) sz [.ref (xa 0)]) (gQi D cy (wD cy ad S ++ wX cy ad xa P O) sz (fun r _ => r = nI 0)) 0 0 (va_A (wD cy ad S ++ wX cy ad xa P O) sz) := by
  refine gHead (cc := cX8_fault) (maxL := 2) (ret := (some .int)) (by decide) rfl (Nat.le_of_ble_eq_true rfl) ?_
  intro p e s m below meth c ls hx hb hr hlocks hml hown hts hsz hP hK hD hS hA hl
  have hown : s.vm.findClass RX8 = some m.cls := hown
  have hinX8 : ∀ w ∈ u_ws RX8 TX8 11, w ∈ wsX8_fault := by decide +kernel
  have hl : lv_has ls 2 [(0, .ref (xa 0))] := hl
  refine lv_aload_n hx hb dX8_fault_0 rfl (lv_at hl 0 rfl) ?_
  refine va_get (v := .ref (xa 6)) (ci := 8) (C := RX8) (T := TX8) (N := 11) hx hb hts hinX8 hown hK hP 43 (wX_0) rfl 3 (by decide) (hts (.fieldLink RX8 26 "LayoutSolver" "reader" "LLayoutSolver$Reader;") (by decide +kernel)) (fun x h => h) rfl dX8_fault_1 ?_
  refine lv_aload_n hx hb dX8_fault_4 rfl (lv_at hl 0 rfl) ?_
  refine va_get (v := .ref (xa 2)) (ci := 8) (C := RX8) (T := TX8) (N := 11) hx hb hts hinX8 hown hK hP 43 (wX_0) rfl 1 (by decide) (hts (.fieldLink RX8 16 "LayoutSolver" "text" "LLayoutSolver$Line;") (by decide +kernel)) (fun x h => h) rfl dX8_fault_5 ?_
  refine gCalli (ws := wD cy ad S ++ wX cy ad xa P O) (As := [.ref (xa 2)]) (rest := []) (q0 := 49) (r0 := (RX7, TX7, 9)) hx hb hml hown hts hK hP hD hS hA hl.1 (wX_6) rfl (cT_read l D cy ad xa S P O _) (cwV 1 hts gX8_fault_X7_read rfl rfl rfl (by decide +kernel) ⟨Nat.le_of_ble_eq_true rfl, Nat.le_of_ble_eq_true rfl⟩) rfl rfl (Nat.le_of_ble_eq_true rfl) ⟨Nat.le_of_ble_eq_true rfl, Nat.le_of_ble_eq_true rfl⟩ dX8_fault_8 (fun r1 ws1 H locs e1 hP hD hS => ?_)
  obtain ⟨e1a, e1b⟩ := e1
  rw [e1b] at hP hD
  rw [show r1 = nI 0 from e1a]
  have hP : va_P D vwCl (wD cy ad S ++ wX cy ad xa P O) H := hP
  have hD : va_D (va_A (wD cy ad S ++ wX cy ad xa P O) sz) (wD cy ad S ++ wX cy ad xa P O) := hD
  refine lv_istore_n (lv' := [(1, .int (nI 0)), (0, .ref (xa 0))]) hx hb dX8_fault_11 rfl hl (by decide) rfl (fun ls hl => ?_)
  refine lv_aload_n hx hb dX8_fault_12 rfl (lv_at hl 1 rfl) ?_
  refine va_get (v := .ref (xa 6)) (ci := 8) (C := RX8) (T := TX8) (N := 11) hx hb hts hinX8 hown hK hP 43 (wX_0) rfl 3 (by decide) (hts (.fieldLink RX8 26 "LayoutSolver" "reader" "LLayoutSolver$Reader;") (by decide +kernel)) (fun x h => h) rfl dX8_fault_13 ?_
  refine gCalli (ws := wD cy ad S ++ wX cy ad xa P O) (As := []) (rest := []) (q0 := 49) (r0 := (RX7, TX7, 9)) hx hb hml hown hts hK hP hD hS hA hl.1 (wX_6) rfl (cR_isAtEnd0 l D cy _ _ wX_6) (cwV 0 hts gX8_fault_X7_isAtEnd rfl rfl rfl (by decide +kernel) ⟨Nat.le_of_ble_eq_true rfl, Nat.le_of_ble_eq_true rfl⟩) rfl rfl (Nat.le_of_ble_eq_true rfl) ⟨Nat.le_of_ble_eq_true rfl, Nat.le_of_ble_eq_true rfl⟩ dX8_fault_16 (fun r2 ws2 H locs e2 hP hD hS => ?_)
  obtain ⟨e2a, e2b⟩ := e2
  rw [e2b] at hP hD
  rw [show r2 = nI 0 from e2a]
  refine lv_if_eq (tgt := 38) hx hb dX8_fault_19 (by decide) (fun c3 => ?_) (fun c3 => ?_)
  · skip
    refine lv_iload_n hx hb dX8_fault_38 rfl (lv_at hl 0 rfl) ?_
    exact W.iret hx hb hr (fun t ht hW => ⟨⟨_, _, rfl, rfl, by rw [ht]; exact hP, va_K.moved hW.alike hK, hD⟩, hS.F ht⟩) hS.2.2 dX8_fault_39
  · exact absurd c3 (by decide)
set_option maxHeartbeats 4000000 in
set_option maxRecDepth 100000 in
theorem cT_parse (l : Launch) (D : va_G) (cy : Nat → ClassId) (ad xa : Nat → Nat) (S : DS) (P O : CS) (sz : Nat)  : Met l yX8_parse wsX8_parse (rm9 2 46) (gPc D cy (wD cy ad S ++ wX cy ad xa P O) sz [.ref (xa 0)]) (gQi D cy (wD cy ad S ++ wX cy ad xa P O) sz (fun r _ => r = -5)) 0 0 (va_A (wD cy ad S ++ wX cy ad xa P O) sz) := by
  refine gHead (cc := cX8_parse) (maxL := 3) (ret := (some .int)) (by decide) rfl (Nat.le_of_ble_eq_true rfl) ?_
  intro p e s m below meth c ls hx hb hr hlocks hml hown hts hsz hP hK hD hS hA hl
  have hown : s.vm.findClass RX8 = some m.cls := hown
  have hinX8 : ∀ w ∈ u_ws RX8 TX8 11, w ∈ wsX8_parse := by decide +kernel
  have hinX7 : ∀ w ∈ u_ws RX7 TX7 9, w ∈ wsX8_parse := by decide +kernel
  have hl : lv_has ls 3 [(0, .ref (xa 0))] := hl
  refine lv_aload_n hx hb dX8_parse_0 rfl (lv_at hl 0 rfl) ?_
  refine va_get (v := .ref (xa 6)) (ci := 8) (C := RX8) (T := TX8) (N := 11) hx hb hts hinX8 hown hK hP 43 (wX_0) rfl 3 (by decide) (hts (.fieldLink RX8 26 "LayoutSolver" "reader" "LLayoutSolver$Reader;") (by decide +kernel)) (fun x h => h) rfl dX8_parse_1 ?_
  refine lv_aload_n hx hb dX8_parse_4 rfl (lv_at hl 0 rfl) ?_
  refine va_get (v := .ref (xa 2)) (ci := 8) (C := RX8) (T := TX8) (N := 11) hx hb hts hinX8 hown hK hP 43 (wX_0) rfl 1 (by decide) (hts (.fieldLink RX8 16 "LayoutSolver" "text" "LLayoutSolver$Line;") (by decide +kernel)) (fun x h => h) rfl dX8_parse_5 ?_
  refine gCalli (ws := wD cy ad S ++ wX cy ad xa P O) (As := [.ref (xa 2)]) (rest := []) (q0 := 49) (r0 := (RX7, TX7, 9)) hx hb hml hown hts hK hP hD hS hA hl.1 (wX_6) rfl (cT_read l D cy ad xa S P O _) (cwV 1 hts gX8_parse_X7_read rfl rfl rfl (by decide +kernel) ⟨Nat.le_of_ble_eq_true rfl, Nat.le_of_ble_eq_true rfl⟩) rfl rfl (Nat.le_of_ble_eq_true rfl) ⟨Nat.le_of_ble_eq_true rfl, Nat.le_of_ble_eq_true rfl⟩ dX8_parse_8 (fun r1 ws1 H locs e1 hP hD hS => ?_)
  obtain ⟨e1a, e1b⟩ := e1
  rw [e1b] at hP hD
  rw [show r1 = nI 0 from e1a]
  have hP : va_P D vwCl (wD cy ad S ++ wX cy ad xa P O) H := hP
  have hD : va_D (va_A (wD cy ad S ++ wX cy ad xa P O) sz) (wD cy ad S ++ wX cy ad xa P O) := hD
  refine lv_istore_n (lv' := [(1, .int (nI 0)), (0, .ref (xa 0))]) hx hb dX8_parse_11 rfl hl (by decide) rfl (fun ls hl => ?_)
  refine lv_iload_n hx hb dX8_parse_12 rfl (lv_at hl 0 rfl) ?_
  refine lv_aload_n hx hb dX8_parse_13 rfl (lv_at hl 1 rfl) ?_
  refine va_get (v := .ref (xa 2)) (ci := 8) (C := RX8) (T := TX8) (N := 11) hx hb hts hinX8 hown hK hP 43 (wX_0) rfl 1 (by decide) (hts (.fieldLink RX8 16 "LayoutSolver" "text" "LLayoutSolver$Line;") (by decide +kernel)) (fun x h => h) rfl dX8_parse_14 ?_
  refine gCalli (ws := wD cy ad S ++ wX cy ad xa P O) (As := []) (rest := [.int (nI 0)]) (q0 := 45) (r0 := (RX6, TX6, 2)) hx hb hml hown hts hK hP hD hS hA hl.1 (wX_2) rfl (cL_size l D cy _ _ (n := 0) (j := 0) (f := fun _ => 0) (by omega) wX_2) (cwV 0 hts gX8_parse_X6_size rfl rfl rfl (by decide +kernel) ⟨Nat.le_of_ble_eq_true rfl, Nat.le_of_ble_eq_true rfl⟩) rfl rfl (Nat.le_of_ble_eq_true rfl) ⟨Nat.le_of_ble_eq_true rfl, Nat.le_of_ble_eq_true rfl⟩ dX8_parse_17 (fun r2 ws2 H locs e2 hP hD hS => ?_)
  obtain ⟨e2a, e2b⟩ := e2
  rw [e2b] at hP hD
  rw [show r2 = nI 0 from e2a]
  refine lv_icmp_lt (tgt := 46) hx hb dX8_parse_20 (by decide) (fun c3 => ?_) (fun c3 => ?_)
  · exact absurd c3 (by rw [nI_ltI (by omega) (by omega)]; omega)
  · rw [nI_ltI (by omega) (by omega)] at c3
    refine lv_aload_n hx hb dX8_parse_23 rfl (lv_at hl 1 rfl) ?_
    refine va_get (v := .ref (xa 6)) (ci := 8) (C := RX8) (T := TX8) (N := 11) hx hb hts hinX8 hown hK hP 43 (wX_0) rfl 3 (by decide) (hts (.fieldLink RX8 26 "LayoutSolver" "reader" "LLayoutSolver$Reader;") (by decide +kernel)) (fun x h => h) rfl dX8_parse_24 ?_
    refine gCalli (ws := wD cy ad S ++ wX cy ad xa P O) (As := []) (rest := []) (q0 := 49) (r0 := (RX7, TX7, 9)) hx hb hml hown hts hK hP hD hS hA hl.1 (wX_6) rfl (cR_isAtEnd0 l D cy _ _ wX_6) (cwV 0 hts gX8_parse_X7_isAtEnd rfl rfl rfl (by decide +kernel) ⟨Nat.le_of_ble_eq_true rfl, Nat.le_of_ble_eq_true rfl⟩) rfl rfl (Nat.le_of_ble_eq_true rfl) ⟨Nat.le_of_ble_eq_true rfl, Nat.le_of_ble_eq_true rfl⟩ dX8_parse_27 (fun r4 ws4 H locs e4 hP hD hS => ?_)
    obtain ⟨e4a, e4b⟩ := e4
    rw [e4b] at hP hD
    rw [show r4 = nI 0 from e4a]
    refine lv_if_eq (tgt := 46) hx hb dX8_parse_30 (by decide) (fun c5 => ?_) (fun c5 => ?_)
    · skip
      refine lv_bipush (v := (-5)) hx hb dX8_parse_46 (by decide) ?_
      exact W.iret hx hb hr (fun t ht hW => ⟨⟨_, _, rfl, rfl, by rw [ht]; exact hP, va_K.moved hW.alike hK, hD⟩, hS.F ht⟩) hS.2.2 dX8_parse_48
    · exact absurd c5 (by decide)
