/-! p1: the class, calls that ask for solutions -/
def kSet (S : DS) : DS := kDes S (-1) (nI 1) (nI 4)
def kCo (S : DS) (P : CS) : CS := (kTell S P.1, dSc S)
set_option maxHeartbeats 4000000 in
set_option maxRecDepth 100000 in
theorem cF_findP (l : Launch) (D : va_G) (cy : Nat → ClassId) (ad xa : Nat → Nat) (S : DS) (P O : CS) (sz : Nat)  : Met l yX8_findCosts wsX8_findCosts (rm9 5 133) (gPc D cy (wD cy ad S ++ wX cy ad xa P O) sz [.ref (xa 0), .ref (xa 13)]) (gQv D cy (wD cy ad S ++ wX cy ad xa P O) sz (fun ws' => ∃ S1 : DS, S1 = kSet S ∧ ws' = wD cy ad S1 ++ wX cy ad xa (kCo S1 P) O)) 0 0 (va_A (wD cy ad S ++ wX cy ad xa P O) sz) := by
  refine gHead (cc := cX8_findCosts) (maxL := 2) (ret := none) (by decide) rfl (Nat.le_of_ble_eq_true rfl) ?_
  intro p e s m below meth c ls hx hb hr hlocks hml hown hts hsz hP hK hD hS hA hl
  have hown : s.vm.findClass RX8 = some m.cls := hown
  have hinX8 : ∀ w ∈ u_ws RX8 TX8 11, w ∈ wsX8_findCosts := by decide +kernel
  have hl : lv_has ls 2 [(0, .ref (xa 0)), (1, .ref (xa 13))] := hl
  refine lv_aload_n hx hb dX8_findCosts_0 rfl (lv_at hl 0 rfl) ?_
  refine va_get (v := .ref (ad 0)) (ci := 8) (C := RX8) (T := TX8) (N := 11) hx hb hts hinX8 hown hK hP 43 (wX_0) rfl 7 (by decide) (hts (.fieldLink RX8 51 "LayoutSolver" "dictionary" "LLayoutSolver$Dictionary;") (by decide +kernel)) (fun x h => h) rfl dX8_findCosts_1 ?_
  refine dCallv (As := []) (rest := []) hx hb hml hown hts hK hP hD hS hA hl.1 (cD_settle l D cy ad _ _ _) (cwV 0 hts gX8_findCosts_X3_settle rfl rfl rfl (by decide +kernel) ⟨Nat.le_of_ble_eq_true rfl, Nat.le_of_ble_eq_true rfl⟩) rfl rfl (Nat.le_of_ble_eq_true rfl) ⟨Nat.le_of_ble_eq_true rfl, Nat.le_of_ble_eq_true rfl⟩ dX8_findCosts_4 (fun S1 H locs e1 hP hD hS => ?_)
  have e1 : S1 = kSet S := e1
  have hP : va_P D vwCl (wD cy ad S1 ++ wX cy ad xa P O) H := hP
  have hD : va_D (va_A (wD cy ad S ++ wX cy ad xa P O) sz) (wD cy ad S1 ++ wX cy ad xa P O) := hD
  refine lv_aload_n hx hb dX8_findCosts_7 rfl (lv_at hl 0 rfl) ?_
  refine va_get (v := .ref (ad 0)) (ci := 8) (C := RX8) (T := TX8) (N := 11) hx hb hts hinX8 hown hK hP 43 (wX_0) rfl 7 (by decide) (hts (.fieldLink RX8 51 "LayoutSolver" "dictionary" "LLayoutSolver$Dictionary;") (by decide +kernel)) (fun x h => h) rfl dX8_findCosts_8 ?_
  refine lv_aload_n hx hb dX8_findCosts_11 rfl (lv_at hl 1 rfl) ?_
  have hz9 : wZ (wX cy ad xa P O) 13 14 (xa 13, .inr (2, [.ref (xa 14), .long (P).2])) (xa 14, .inl (cy 2, 4, .inr (.inl (P).1))) = wX cy ad xa P O := wZ_self rfl rfl
  have hP : va_P D vwCl (wD cy ad S1 ++ wZ (wX cy ad xa P O) 13 14 (xa 13, .inr (2, [.ref (xa 14), .long (P).2])) (xa 14, .inl (cy 2, 4, .inr (.inl (P).1)))) _ := (congrArg (fun x9 => va_P D vwCl (wD cy ad S1 ++ x9) _) hz9).mpr hP
  have hD : va_D (va_A (wD cy ad S ++ wX cy ad xa P O) sz) (wD cy ad S1 ++ wZ (wX cy ad xa P O) 13 14 (xa 13, .inr (2, [.ref (xa 14), .long (P).2])) (xa 14, .inl (cy 2, 4, .inr (.inl (P).1)))) := (congrArg (fun x9 => va_D (va_A (wD cy ad S ++ wX cy ad xa P O) sz) (wD cy ad S1 ++ x9)) hz9).mpr hD
  refine gCallv (ws := wD cy ad S1 ++ wZ (wX cy ad xa P O) 13 14 (xa 13, .inr (2, [.ref (xa 14), .long (P).2])) (xa 14, .inl (cy 2, 4, .inr (.inl (P).1)))) (As := [.ref (xa 13)]) (rest := []) (q0 := 0) (r0 := (RX3, TX3, 12)) hx hb hml hown hts hK hP hD hS hA hl.1 (wX_get (by decide)) rfl (cD_tellCosts l D cy ad _ _ _ (by decide) (by rw [wX_len]; decide) (by rw [wX_len]; decide) _ _) (cwV 1 hts gX8_findCosts_X3_tellCosts rfl rfl rfl (by decide +kernel) ⟨Nat.le_of_ble_eq_true rfl, Nat.le_of_ble_eq_true rfl⟩) rfl rfl (Nat.le_of_ble_eq_true rfl) ⟨Nat.le_of_ble_eq_true rfl, Nat.le_of_ble_eq_true rfl⟩ dX8_findCosts_12 (fun ws9 H locs e9 hP hD hS => ?_)
  rw [show ws9 = wD cy ad S1 ++ wX cy ad xa (kCo S1 P) O from e9.trans (congrArg (fun x9 => wD cy ad S1 ++ x9) rfl)] at hP hD
  exact W.vret hx hb hr (fun t ht hW => ⟨⟨_, rfl, ⟨S1, e1, rfl⟩, by rw [ht]; exact hP, va_K.moved hW.alike hK, hD⟩, hS.F ht⟩) hS.2.2 dX8_findCosts_15
set_option maxHeartbeats 4000000 in
set_option maxRecDepth 100000 in
theorem cF_findO (l : Launch) (D : va_G) (cy : Nat → ClassId) (ad xa : Nat → Nat) (S : DS) (P O : CS) (sz : Nat)  : Met l yX8_findCosts wsX8_findCosts (rm9 5 133) (gPc D cy (wD cy ad S ++ wX cy ad xa P O) sz [.ref (xa 0), .ref (xa 15)]) (gQv D cy (wD cy ad S ++ wX cy ad xa P O) sz (fun ws' => ∃ S1 : DS, S1 = kSet S ∧ ws' = wD cy ad S1 ++ wX cy ad xa P (kCo S1 O))) 0 0 (va_A (wD cy ad S ++ wX cy ad xa P O) sz) := by
  refine gHead (cc := cX8_findCosts) (maxL := 2) (ret := none) (by decide) rfl (Nat.le_of_ble_eq_true rfl) ?_
  intro p e s m below meth c ls hx hb hr hlocks hml hown hts hsz hP hK hD hS hA hl
  have hown : s.vm.findClass RX8 = some m.cls := hown
  have hinX8 : ∀ w ∈ u_ws RX8 TX8 11, w ∈ wsX8_findCosts := by decide +kernel
  have hl : lv_has ls 2 [(0, .ref (xa 0)), (1, .ref (xa 15))] := hl
  refine lv_aload_n hx hb dX8_findCosts_0 rfl (lv_at hl 0 rfl) ?_
  refine va_get (v := .ref (ad 0)) (ci := 8) (C := RX8) (T := TX8) (N := 11) hx hb hts hinX8 hown hK hP 43 (wX_0) rfl 7 (by decide) (hts (.fieldLink RX8 51 "LayoutSolver" "dictionary" "LLayoutSolver$Dictionary;") (by decide +kernel)) (fun x h => h) rfl dX8_findCosts_1 ?_
  refine dCallv (As := []) (rest := []) hx hb hml hown hts hK hP hD hS hA hl.1 (cD_settle l D cy ad _ _ _) (cwV 0 hts gX8_findCosts_X3_settle rfl rfl rfl (by decide +kernel) ⟨Nat.le_of_ble_eq_true rfl, Nat.le_of_ble_eq_true rfl⟩) rfl rfl (Nat.le_of_ble_eq_true rfl) ⟨Nat.le_of_ble_eq_true rfl, Nat.le_of_ble_eq_true rfl⟩ dX8_findCosts_4 (fun S1 H locs e1 hP hD hS => ?_)
  have e1 : S1 = kSet S := e1
  have hP : va_P D vwCl (wD cy ad S1 ++ wX cy ad xa P O) H := hP
  have hD : va_D (va_A (wD cy ad S ++ wX cy ad xa P O) sz) (wD cy ad S1 ++ wX cy ad xa P O) := hD
  refine lv_aload_n hx hb dX8_findCosts_7 rfl (lv_at hl 0 rfl) ?_
  refine va_get (v := .ref (ad 0)) (ci := 8) (C := RX8) (T := TX8) (N := 11) hx hb hts hinX8 hown hK hP 43 (wX_0) rfl 7 (by decide) (hts (.fieldLink RX8 51 "LayoutSolver" "dictionary" "LLayoutSolver$Dictionary;") (by decide +kernel)) (fun x h => h) rfl dX8_findCosts_8 ?_
  refine lv_aload_n hx hb dX8_findCosts_11 rfl (lv_at hl 1 rfl) ?_
  have hz9 : wZ (wX cy ad xa P O) 15 16 (xa 15, .inr (2, [.ref (xa 16), .long (O).2])) (xa 16, .inl (cy 2, 4, .inr (.inl (O).1))) = wX cy ad xa P O := wZ_self rfl rfl
  have hP : va_P D vwCl (wD cy ad S1 ++ wZ (wX cy ad xa P O) 15 16 (xa 15, .inr (2, [.ref (xa 16), .long (O).2])) (xa 16, .inl (cy 2, 4, .inr (.inl (O).1)))) _ := (congrArg (fun x9 => va_P D vwCl (wD cy ad S1 ++ x9) _) hz9).mpr hP
  have hD : va_D (va_A (wD cy ad S ++ wX cy ad xa P O) sz) (wD cy ad S1 ++ wZ (wX cy ad xa P O) 15 16 (xa 15, .inr (2, [.ref (xa 16), .long (O).2])) (xa 16, .inl (cy 2, 4, .inr (.inl (O).1)))) := (congrArg (fun x9 => va_D (va_A (wD cy ad S ++ wX cy ad xa P O) sz) (wD cy ad S1 ++ x9)) hz9).mpr hD
  refine gCallv (ws := wD cy ad S1 ++ wZ (wX cy ad xa P O) 15 16 (xa 15, .inr (2, [.ref (xa 16), .long (O).2])) (xa 16, .inl (cy 2, 4, .inr (.inl (O).1)))) (As := [.ref (xa 15)]) (rest := []) (q0 := 0) (r0 := (RX3, TX3, 12)) hx hb hml hown hts hK hP hD hS hA hl.1 (wX_get (by decide)) rfl (cD_tellCosts l D cy ad _ _ _ (by decide) (by rw [wX_len]; decide) (by rw [wX_len]; decide) _ _) (cwV 1 hts gX8_findCosts_X3_tellCosts rfl rfl rfl (by decide +kernel) ⟨Nat.le_of_ble_eq_true rfl, Nat.le_of_ble_eq_true rfl⟩) rfl rfl (Nat.le_of_ble_eq_true rfl) ⟨Nat.le_of_ble_eq_true rfl, Nat.le_of_ble_eq_true rfl⟩ dX8_findCosts_12 (fun ws9 H locs e9 hP hD hS => ?_)
  rw [show ws9 = wD cy ad S1 ++ wX cy ad xa P (kCo S1 O) from e9.trans (congrArg (fun x9 => wD cy ad S1 ++ x9) rfl)] at hP hD
  exact W.vret hx hb hr (fun t ht hW => ⟨⟨_, rfl, ⟨S1, e1, rfl⟩, by rw [ht]; exact hP, va_K.moved hW.alike hK, hD⟩, hS.F ht⟩) hS.2.2 dX8_findCosts_15
def kCoP (sums : Nat → Int64) (den : Int64) (x y : Int32) : Int64 := if x < 0 then 0 else if x ≤ nI 3 then kPart (sums x.toNatClampNeg) den y else 0
set_option maxHeartbeats 4000000 in
set_option maxRecDepth 100000 in
theorem cC_part (l : Launch) (D : va_G) (cy : Nat → ClassId) (ws : va_W) (sz : Nat) {i j a b : Nat} {sums : Nat → Int64} {den : Int64} (x y : Int32) (hi : ws[i]? = some (a, .inr (2, [.ref b, .long den]))) (hj : ws[j]? = some (b, .inl (cy 2, 4, .inr (.inl sums)))) : Met l yX2_part wsX2_part (rm9 2 60) (fPc D cy ws sz [.ref a, .int x, .int y]) (gQl D cy ws sz (fun r ws' => r = kCoP sums den x y ∧ ws' = ws)) 0 0 (va_A ws sz) := by
  refine fHead (cc := cX2_part) (maxL := 3) (ret := (some .long)) (by decide) rfl (Nat.le_of_ble_eq_true rfl) ?_
  intro p e s m below meth c ls hmn hkf hx hb hr hlocks hml hown hts hsz hP hK hD hS hA hl
  have hinX2 : ∀ w ∈ u_ws RX2 TX2 2, w ∈ wsX2_part := by decide +kernel
  have hown : s.vm.findClass RX2 = some m.cls := hown
  have hl : lv_has ls 3 [(0, .ref a), (1, .int x), (2, .int y)] := hl
  refine lv_iload_n hx hb dX2_part_0 rfl (lv_at hl 1 rfl) ?_
  refine lv_if_lt (tgt := 9) hx hb dX2_part_1 (by decide) (fun c1 => ?_) (fun c1 => ?_)
  · skip
    refine lv_lconst (v := 0) hx hb dX2_part_9 (by decide) ?_
    refine lv_goto (tgt := 27) hx hb dX2_part_10 (by decide) ?_
    exact W.lret hx hb hr (fun t ht hW => ⟨⟨_, _, rfl, ⟨by simp [kCoP, c1], rfl⟩, by rw [ht]; exact hP, va_K.moved hW.alike hK, hD⟩, hS.F ht⟩) hS.2.2 dX2_part_27
  · skip
    refine lv_iload_n hx hb dX2_part_4 rfl (lv_at hl 1 rfl) ?_
    refine lv_iconst (v := nI 3) hx hb dX2_part_5 (by decide) ?_
    refine lv_icmp_le (tgt := 13) hx hb dX2_part_6 (by decide) (fun c2 => ?_) (fun c2 => ?_)
    · skip
      obtain ⟨i0, hi0, hie⟩ := ixL 3 c1 (Int32.not_lt.mpr c2) (by omega)
      have qq8 : x.toNatClampNeg = i0 := (by rw [hie, nI_clamp (by omega)])
      rw [hie] at hl
      refine lv_aload_n hx hb dX2_part_13 rfl (lv_at hl 0 rfl) ?_
      refine va_get (v := .ref b) (ci := 2) (C := RX2) (T := TX2) (N := 2) hx hb hts hinX2 hown hK hP _ (hi) rfl 0 (by decide) (hts (.fieldLink RX2 9 "LayoutSolver$Costs" "sums" "[J") (by decide +kernel)) (fun x h => h) rfl dX2_part_14 ?_
      refine lv_iload_n hx hb dX2_part_17 rfl (lv_at hl 1 rfl) ?_
      refine va_lald (i := nI i0) hx hb hK hP _ 2 (hj) rfl (vp_in_nI (by omega) (by decide)) dX2_part_18 ?_
      rw [nI_clamp (show i0 < 2 ^ 31 by omega)]
      refine lv_aload_n hx hb dX2_part_19 rfl (lv_at hl 0 rfl) ?_
      refine va_get (v := .long den) (ci := 2) (C := RX2) (T := TX2) (N := 2) hx hb hts hinX2 hown hK hP _ (hi) rfl 1 (by decide) (hts (.fieldLink RX2 15 "LayoutSolver$Costs" "denominator" "J") (by decide +kernel)) (fun x h => h) rfl dX2_part_20 ?_
      refine lv_iload_n hx hb dX2_part_23 rfl (lv_at hl 2 rfl) ?_
      refine pCallNl (As := [.long (sums i0), .long den, .int y]) (rest := []) hx hb hml hown hts hP hS hA hl.1 (cS_partOf l _ _ _ _) ⟨va_cnB 3 hts gX2_part_X8_partOf_n19 rfl rfl rfl hkf.2.2.2.2.2.2.2.2.2 (hts (.initialized RX8) (by decide +kernel)) (by decide +kernel) ⟨Nat.le_of_ble_eq_true rfl, Nat.le_of_ble_eq_true rfl⟩, hts (.static yX8_partOf) (by decide +kernel), trivial⟩ rfl rfl (Nat.le_of_ble_eq_true rfl) ⟨Nat.le_of_ble_eq_true rfl, Nat.le_of_ble_eq_true rfl⟩ dX2_part_24 (fun r9 H locs e9 hP hS => ?_)
      rw [show r9 = kPart (sums i0) den y from e9]
      exact W.lret hx hb hr (fun t ht hW => ⟨⟨_, _, rfl, ⟨by rw [kCoP, if_neg c1, if_pos c2, qq8], rfl⟩, by rw [ht]; exact hP, va_K.moved hW.alike hK, hD⟩, hS.F ht⟩) hS.2.2 dX2_part_27
    · skip
      refine lv_lconst (v := 0) hx hb dX2_part_9 (by decide) ?_
      refine lv_goto (tgt := 27) hx hb dX2_part_10 (by decide) ?_
      exact W.lret hx hb hr (fun t ht hW => ⟨⟨_, _, rfl, ⟨by simp [kCoP, c1, c2], rfl⟩, by rw [ht]; exact hP, va_K.moved hW.alike hK, hD⟩, hS.F ht⟩) hS.2.2 dX2_part_27
set_option maxHeartbeats 4000000 in
set_option maxRecDepth 100000 in
theorem cT_cost (l : Launch) (D : va_G) (cy : Nat → ClassId) (ad xa : Nat → Nat) (S : DS) (P O : CS) (sz : Nat) (a1 a2 : Int32) : Met l yX8_cost wsX8_cost (rm9 6 160) (fPc D cy (wD cy ad S ++ wX cy ad xa P O) sz [.ref (xa 0), .int a1, .int a2]) (gQl D cy (wD cy ad S ++ wX cy ad xa P O) sz (fun r _ => r = (if k_isSoft a1 = 0 then (-1000000000000000002) else if k_isPart a2 = 0 then (-1000000000000000002) else kCoP (kCo (kSet S) P).1 (kCo (kSet S) P).2 a1 a2))) 0 0 (va_A (wD cy ad S ++ wX cy ad xa P O) sz) := by
  refine fHead (cc := cX8_cost) (maxL := 3) (ret := (some .long)) (by decide) rfl (Nat.le_of_ble_eq_true rfl) ?_
  intro p e s m below meth c ls hmn hkf hx hb hr hlocks hml hown hts hsz hP hK hD hS hA hl
  have hown : s.vm.findClass RX8 = some m.cls := hown
  have hinX8 : ∀ w ∈ u_ws RX8 TX8 11, w ∈ wsX8_cost := by decide +kernel
  have hl : lv_has ls 3 [(0, .ref (xa 0)), (1, .int a1), (2, .int a2)] := hl
  refine lv_iload_n hx hb dX8_cost_0 rfl (lv_at hl 1 rfl) ?_
  refine pCalli (As := [.int a1]) (rest := []) hx hb hml hown hts hP hS hA hl.1 (cS_isSoft l _ a1) (va_cwS 1 hts gX8_cost_X8_isSoft rfl rfl rfl (by decide +kernel) ⟨Nat.le_of_ble_eq_true rfl, Nat.le_of_ble_eq_true rfl⟩) rfl rfl (Nat.le_of_ble_eq_true rfl) ⟨Nat.le_of_ble_eq_true rfl, Nat.le_of_ble_eq_true rfl⟩ dX8_cost_1 (fun r1 H locs e1 hP hS => ?_)
  rw [show r1 = k_isSoft a1 from e1]
  refine lv_if_eq (tgt := 14) hx hb dX8_cost_4 (by decide) (fun c2 => ?_) (fun c2 => ?_)
  · skip
    refine lv_ldc2 (v := (-1000000000000000002)) hx hb hown (hts (.constantLong RX8 208 (-1000000000000000002)) (by decide +kernel)) dX8_cost_14 ?_
    exact W.lret hx hb hr (fun t ht hW => ⟨⟨_, _, rfl, by simp [c2], by rw [ht]; exact hP, va_K.moved hW.alike hK, hD⟩, hS.F ht⟩) hS.2.2 dX8_cost_17
  · skip
    refine lv_iload_n hx hb dX8_cost_7 rfl (lv_at hl 2 rfl) ?_
    refine pCalli (As := [.int a2]) (rest := []) hx hb hml hown hts hP hS hA hl.1 (cS_isPart l _ a2) (va_cwS 1 hts gX8_cost_X8_isPart rfl rfl rfl (by decide +kernel) ⟨Nat.le_of_ble_eq_true rfl, Nat.le_of_ble_eq_true rfl⟩) rfl rfl (Nat.le_of_ble_eq_true rfl) ⟨Nat.le_of_ble_eq_true rfl, Nat.le_of_ble_eq_true rfl⟩ dX8_cost_8 (fun r3 H locs e3 hP hS => ?_)
    rw [show r3 = k_isPart a2 from e3]
    refine lv_if_ne (tgt := 18) hx hb dX8_cost_11 (by decide) (fun c4 => ?_) (fun c4 => ?_)
    · skip
      refine lv_aload_n hx hb dX8_cost_18 rfl (lv_at hl 0 rfl) ?_
      refine lv_aload_n hx hb dX8_cost_19 rfl (lv_at hl 0 rfl) ?_
      refine va_get (v := .ref (xa 13)) (ci := 8) (C := RX8) (T := TX8) (N := 11) hx hb hts hinX8 hown hK hP 43 (wX_0) rfl 8 (by decide) (hts (.fieldLink RX8 58 "LayoutSolver" "present" "LLayoutSolver$Costs;") (by decide +kernel)) (fun x h => h) rfl dX8_cost_20 ?_
      refine gCallv (ws := wD cy ad S ++ wX cy ad xa P O) (As := [.ref (xa 13)]) (rest := []) (q0 := 43) (r0 := (RX8, TX8, 11)) hx hb hml hown hts hK hP hD hS hA hl.1 wX_0 rfl (cF_findP l D cy ad xa S P O _) (cwV 1 hts gX8_cost_X8_findCosts rfl rfl rfl (by decide +kernel) ⟨Nat.le_of_ble_eq_true rfl, Nat.le_of_ble_eq_true rfl⟩) rfl rfl (Nat.le_of_ble_eq_true rfl) ⟨Nat.le_of_ble_eq_true rfl, Nat.le_of_ble_eq_true rfl⟩ dX8_cost_23 (fun ws9 H locs e5 hP hD hS => ?_)
      obtain ⟨S5, hS5, e5⟩ := e5
      rw [show ws9 = _ from e5] at hP hD
      have hP : va_P D vwCl (wD cy ad S5 ++ wX cy ad xa (kCo S5 P) O) H := hP
      have hD : va_D (va_A (wD cy ad S ++ wX cy ad xa P O) sz) (wD cy ad S5 ++ wX cy ad xa (kCo S5 P) O) := hD
      refine lv_aload_n hx hb dX8_cost_26 rfl (lv_at hl 0 rfl) ?_
      refine va_get (v := .ref (xa 13)) (ci := 8) (C := RX8) (T := TX8) (N := 11) hx hb hts hinX8 hown hK hP 43 (wX_0) rfl 8 (by decide) (hts (.fieldLink RX8 58 "LayoutSolver" "present" "LLayoutSolver$Costs;") (by decide +kernel)) (fun x h => h) rfl dX8_cost_27 ?_
      refine lv_iload_n hx hb dX8_cost_30 rfl (lv_at hl 1 rfl) ?_
      refine lv_iload_n hx hb dX8_cost_31 rfl (lv_at hl 2 rfl) ?_
      refine fCalll (ws := wD cy ad S5 ++ wX cy ad xa (kCo S5 P) O) (As := [.int a1, .int a2]) (rest := []) (q0 := 56) (r0 := (RX2, TX2, 2)) hx hb hml hown hts hK hP hD hS hA hl.1 hkf (wX_13) rfl (cC_part l D cy _ _ a1 a2 wX_13 wX_14) (cwV 2 hts gX8_cost_X2_part rfl rfl rfl (by decide +kernel) ⟨Nat.le_of_ble_eq_true rfl, Nat.le_of_ble_eq_true rfl⟩) rfl rfl (Nat.le_of_ble_eq_true rfl) ⟨Nat.le_of_ble_eq_true rfl, Nat.le_of_ble_eq_true rfl⟩ dX8_cost_32 (fun r6 ws6 H locs e6 hP hD hS => ?_)
      obtain ⟨e6a, e6b⟩ := e6
      rw [e6b] at hP hD
      rw [show r6 = kCoP (kCo S5 P).1 (kCo S5 P).2 a1 a2 from e6a]
      exact W.lret hx hb hr (fun t ht hW => ⟨⟨_, _, rfl, by rw [if_neg c2, if_neg c4, ← hS5], by rw [ht]; exact hP, va_K.moved hW.alike hK, hD⟩, hS.F ht⟩) hS.2.2 dX8_cost_35
    · skip
      refine lv_ldc2 (v := (-1000000000000000002)) hx hb hown (hts (.constantLong RX8 208 (-1000000000000000002)) (by decide +kernel)) dX8_cost_14 ?_
      exact W.lret hx hb hr (fun t ht hW => ⟨⟨_, _, rfl, by simp [c2, c4], by rw [ht]; exact hP, va_K.moved hW.alike hK, hD⟩, hS.F ht⟩) hS.2.2 dX8_cost_17
def kVA (S : DS) (v sd pt lv : Int32) : Int64 := if k_isVariable v = 0 then (-1000000000000000001) else if k_isPart sd = 0 then (-1000000000000000002) else if k_isPart pt = 0 then (-1000000000000000002) else kPart (kNum (kGo S (15 + v.toNatClampNeg) (if sd = 0 then nI 1 else nI 0) lv) (15 + v.toNatClampNeg)) (dSc (kGo S (15 + v.toNatClampNeg) (if sd = 0 then nI 1 else nI 0) lv)) pt
set_option maxHeartbeats 4000000 in
set_option maxRecDepth 100000 in
theorem cT_variableAt (l : Launch) (D : va_G) (cy : Nat → ClassId) (ad xa : Nat → Nat) (S : DS) (P O : CS) (sz : Nat) (v sd pt lv : Int32) : Met l yX8_variableAt wsX8_variableAt (rm9 5 140) (gPc D cy (wD cy ad S ++ wX cy ad xa P O) sz [.ref (xa 0), .int v, .int sd, .int pt, .int lv]) (gQl D cy (wD cy ad S ++ wX cy ad xa P O) sz (fun r _ => r = kVA S v sd pt lv)) 0 0 (va_A (wD cy ad S ++ wX cy ad xa P O) sz) := by
  refine gHead (cc := cX8_variableAt) (maxL := 6) (ret := (some .long)) (by decide) rfl (Nat.le_of_ble_eq_true rfl) ?_
  intro p e s m below meth c ls hx hb hr hlocks hml hown hts hsz hP hK hD hS hA hl
  have hown : s.vm.findClass RX8 = some m.cls := hown
  have hinX8 : ∀ w ∈ u_ws RX8 TX8 11, w ∈ wsX8_variableAt := by decide +kernel
  have hl : lv_has ls 6 [(0, .ref (xa 0)), (1, .int v), (2, .int sd), (3, .int pt), (4, .int lv)] := hl
  refine lv_iload_n hx hb dX8_variableAt_0 rfl (lv_at hl 1 rfl) ?_
  refine pCalli (As := [.int v]) (rest := []) hx hb hml hown hts hP hS hA hl.1 (cS_isVariable l _ v) (va_cwS 1 hts gX8_variableAt_X8_isVariable rfl rfl rfl (by decide +kernel) ⟨Nat.le_of_ble_eq_true rfl, Nat.le_of_ble_eq_true rfl⟩) rfl rfl (Nat.le_of_ble_eq_true rfl) ⟨Nat.le_of_ble_eq_true rfl, Nat.le_of_ble_eq_true rfl⟩ dX8_variableAt_1 (fun r1 H locs e1 hP hS => ?_)
  rw [show r1 = k_isVariable v from e1]
  refine lv_if_ne (tgt := 11) hx hb dX8_variableAt_4 (by decide) (fun c2 => ?_) (fun c2 => ?_)
  · skip
    refine lv_iload_n hx hb dX8_variableAt_11 rfl (lv_at hl 2 rfl) ?_
    refine pCalli (As := [.int sd]) (rest := []) hx hb hml hown hts hP hS hA hl.1 (cS_isPart l _ sd) (va_cwS 1 hts gX8_variableAt_X8_isPart rfl rfl rfl (by decide +kernel) ⟨Nat.le_of_ble_eq_true rfl, Nat.le_of_ble_eq_true rfl⟩) rfl rfl (Nat.le_of_ble_eq_true rfl) ⟨Nat.le_of_ble_eq_true rfl, Nat.le_of_ble_eq_true rfl⟩ dX8_variableAt_12 (fun r3 H locs e3 hP hS => ?_)
    rw [show r3 = k_isPart sd from e3]
    refine lv_if_eq (tgt := 25) hx hb dX8_variableAt_15 (by decide) (fun c4 => ?_) (fun c4 => ?_)
    · skip
      refine lv_ldc2 (v := (-1000000000000000002)) hx hb hown (hts (.constantLong RX8 208 (-1000000000000000002)) (by decide +kernel)) dX8_variableAt_25 ?_
      exact W.lret hx hb hr (fun t ht hW => ⟨⟨_, _, rfl, by simp [kVA, c2, c4], by rw [ht]; exact hP, va_K.moved hW.alike hK, hD⟩, hS.F ht⟩) hS.2.2 dX8_variableAt_28
    · skip
      refine lv_iload_n hx hb dX8_variableAt_18 rfl (lv_at hl 3 rfl) ?_
      refine pCalli (As := [.int pt]) (rest := []) hx hb hml hown hts hP hS hA hl.1 (cS_isPart l _ pt) (va_cwS 1 hts gX8_variableAt_X8_isPart rfl rfl rfl (by decide +kernel) ⟨Nat.le_of_ble_eq_true rfl, Nat.le_of_ble_eq_true rfl⟩) rfl rfl (Nat.le_of_ble_eq_true rfl) ⟨Nat.le_of_ble_eq_true rfl, Nat.le_of_ble_eq_true rfl⟩ dX8_variableAt_19 (fun r5 H locs e5 hP hS => ?_)
      rw [show r5 = k_isPart pt from e5]
      refine lv_if_ne (tgt := 29) hx hb dX8_variableAt_22 (by decide) (fun c6 => ?_) (fun c6 => ?_)
      · skip
        obtain ⟨v0, hv0, hve⟩ := k_isVariable_ix c2
        have qq8 : v.toNatClampNeg = v0 := (by rw [hve, nI_clamp (by omega)])
        rw [hve] at hl
        refine lv_bipush (v := nI 15) hx hb dX8_variableAt_29 (by decide) ?_
        refine lv_iload_n hx hb dX8_variableAt_31 rfl (lv_at hl 1 rfl) ?_
        refine lv_iadd hx hb dX8_variableAt_32 ?_
        rw [nI_add]
        refine lv_istore (lv' := [(5, .int (nI (15 + v0))), (0, .ref (xa 0)), (1, .int (nI v0)), (2, .int sd), (3, .int pt), (4, .int lv)]) hx hb dX8_variableAt_33 hl (by decide) rfl (fun ls hl => ?_)
        refine lv_aload_n hx hb dX8_variableAt_35 rfl (lv_at hl 1 rfl) ?_
        refine va_get (v := .ref (ad 0)) (ci := 8) (C := RX8) (T := TX8) (N := 11) hx hb hts hinX8 hown hK hP 43 (wX_0) rfl 7 (by decide) (hts (.fieldLink RX8 51 "LayoutSolver" "dictionary" "LLayoutSolver$Dictionary;") (by decide +kernel)) (fun x h => h) rfl dX8_variableAt_36 ?_
        refine lv_iload hx hb dX8_variableAt_39 (lv_at hl 0 rfl) ?_
        refine lv_iload_n hx hb dX8_variableAt_41 rfl (lv_at hl 3 rfl) ?_
        refine lv_if_ne (tgt := 49) hx hb dX8_variableAt_42 (by decide) (fun c7 => ?_) (fun c7 => ?_)
        · skip
          refine lv_iconst (v := nI 0) hx hb dX8_variableAt_49 (by decide) ?_
          refine lv_iload hx hb dX8_variableAt_50 (lv_at hl 5 rfl) ?_
          refine dCallv (As := [.int (nI (15 + v0)), .int (nI 0), .int lv]) (rest := []) hx hb hml hown hts hK hP hD hS hA hl.1 (cD_goTo l D cy ad _ _ _ (r0 := (15 + v0)) (by omega) (nI 0) lv) (cwV 3 hts gX8_variableAt_X3_goTo rfl rfl rfl (by decide +kernel) ⟨Nat.le_of_ble_eq_true rfl, Nat.le_of_ble_eq_true rfl⟩) rfl rfl (Nat.le_of_ble_eq_true rfl) ⟨Nat.le_of_ble_eq_true rfl, Nat.le_of_ble_eq_true rfl⟩ dX8_variableAt_52 (fun S8 H locs e8 hP hD hS => ?_)
          have e8 : S8 = kGo S (15 + v0) (nI 0) lv := e8
          have hP : va_P D vwCl (wD cy ad S8 ++ wX cy ad xa P O) H := hP
          have hD : va_D (va_A (wD cy ad S ++ wX cy ad xa P O) sz) (wD cy ad S8 ++ wX cy ad xa P O) := hD
          refine lv_aload_n hx hb dX8_variableAt_55 rfl (lv_at hl 1 rfl) ?_
          refine va_get (v := .ref (ad 0)) (ci := 8) (C := RX8) (T := TX8) (N := 11) hx hb hts hinX8 hown hK hP 43 (wX_0) rfl 7 (by decide) (hts (.fieldLink RX8 51 "LayoutSolver" "dictionary" "LLayoutSolver$Dictionary;") (by decide +kernel)) (fun x h => h) rfl dX8_variableAt_56 ?_
          refine lv_iload hx hb dX8_variableAt_59 (lv_at hl 0 rfl) ?_
          refine dCalll (As := [.int (nI (15 + v0))]) (rest := []) hx hb hml hown hts hK hP hD hS hA hl.1 (cD_numerator l D cy ad _ _ _ (r0 := (15 + v0)) (by omega)) (cwV 1 hts gX8_variableAt_X3_numerator rfl rfl rfl (by decide +kernel) ⟨Nat.le_of_ble_eq_true rfl, Nat.le_of_ble_eq_true rfl⟩) rfl rfl (Nat.le_of_ble_eq_true rfl) ⟨Nat.le_of_ble_eq_true rfl, Nat.le_of_ble_eq_true rfl⟩ dX8_variableAt_61 (fun r9 S9 H locs e9 hP hD hS => ?_)
          obtain ⟨e9a, e9b⟩ := e9
          rw [show r9 = kNum S8 (15 + v0) from e9a]
          rw [e9b] at hP hD
          have hP : va_P D vwCl (wD cy ad S8 ++ wX cy ad xa P O) H := hP
          have hD : va_D (va_A (wD cy ad S ++ wX cy ad xa P O) sz) (wD cy ad S8 ++ wX cy ad xa P O) := hD
          refine lv_aload_n hx hb dX8_variableAt_64 rfl (lv_at hl 1 rfl) ?_
          refine va_get (v := .ref (ad 0)) (ci := 8) (C := RX8) (T := TX8) (N := 11) hx hb hts hinX8 hown hK hP 43 (wX_0) rfl 7 (by decide) (hts (.fieldLink RX8 51 "LayoutSolver" "dictionary" "LLayoutSolver$Dictionary;") (by decide +kernel)) (fun x h => h) rfl dX8_variableAt_65 ?_
          refine dCalll (As := []) (rest := [.long (kNum S8 (15 + v0))]) hx hb hml hown hts hK hP hD hS hA hl.1 (cD_denominator l D cy ad _ _ _) (cwV 0 hts gX8_variableAt_X3_denominator rfl rfl rfl (by decide +kernel) ⟨Nat.le_of_ble_eq_true rfl, Nat.le_of_ble_eq_true rfl⟩) rfl rfl (Nat.le_of_ble_eq_true rfl) ⟨Nat.le_of_ble_eq_true rfl, Nat.le_of_ble_eq_true rfl⟩ dX8_variableAt_68 (fun r10 S10 H locs e10 hP hD hS => ?_)
          obtain ⟨e10a, e10b⟩ := e10
          rw [show r10 = dSc S8 from e10a]
          rw [e10b] at hP hD
          have hP : va_P D vwCl (wD cy ad S8 ++ wX cy ad xa P O) H := hP
          have hD : va_D (va_A (wD cy ad S ++ wX cy ad xa P O) sz) (wD cy ad S8 ++ wX cy ad xa P O) := hD
          refine lv_iload_n hx hb dX8_variableAt_71 rfl (lv_at hl 4 rfl) ?_
          refine pCalll (As := [.long (kNum S8 (15 + v0)), .long (dSc S8), .int pt]) (rest := []) hx hb hml hown hts hP hS hA hl.1 (cS_partOf l _ (kNum S8 (15 + v0)) (dSc S8) pt) (va_cwS 3 hts gX8_variableAt_X8_partOf rfl rfl rfl (by decide +kernel) ⟨Nat.le_of_ble_eq_true rfl, Nat.le_of_ble_eq_true rfl⟩) rfl rfl (Nat.le_of_ble_eq_true rfl) ⟨Nat.le_of_ble_eq_true rfl, Nat.le_of_ble_eq_true rfl⟩ dX8_variableAt_72 (fun r11 H locs e11 hP hS => ?_)
          rw [show r11 = kPart (kNum S8 (15 + v0)) (dSc S8) pt from e11]
          exact W.lret hx hb hr (fun t ht hW => ⟨⟨_, _, rfl, by rw [kVA, if_neg c2, if_neg c4, if_neg c6, qq8, if_neg c7, e8], by rw [ht]; exact hP, va_K.moved hW.alike hK, hD⟩, hS.F ht⟩) hS.2.2 dX8_variableAt_75
        · skip
          refine lv_iconst (v := nI 1) hx hb dX8_variableAt_45 (by decide) ?_
          refine lv_goto (tgt := 50) hx hb dX8_variableAt_46 (by decide) ?_
          refine lv_iload hx hb dX8_variableAt_50 (lv_at hl 5 rfl) ?_
          refine dCallv (As := [.int (nI (15 + v0)), .int (nI 1), .int lv]) (rest := []) hx hb hml hown hts hK hP hD hS hA hl.1 (cD_goTo l D cy ad _ _ _ (r0 := (15 + v0)) (by omega) (nI 1) lv) (cwV 3 hts gX8_variableAt_X3_goTo rfl rfl rfl (by decide +kernel) ⟨Nat.le_of_ble_eq_true rfl, Nat.le_of_ble_eq_true rfl⟩) rfl rfl (Nat.le_of_ble_eq_true rfl) ⟨Nat.le_of_ble_eq_true rfl, Nat.le_of_ble_eq_true rfl⟩ dX8_variableAt_52 (fun S12 H locs e12 hP hD hS => ?_)
          have e12 : S12 = kGo S (15 + v0) (nI 1) lv := e12
          have hP : va_P D vwCl (wD cy ad S12 ++ wX cy ad xa P O) H := hP
          have hD : va_D (va_A (wD cy ad S ++ wX cy ad xa P O) sz) (wD cy ad S12 ++ wX cy ad xa P O) := hD
          refine lv_aload_n hx hb dX8_variableAt_55 rfl (lv_at hl 1 rfl) ?_
          refine va_get (v := .ref (ad 0)) (ci := 8) (C := RX8) (T := TX8) (N := 11) hx hb hts hinX8 hown hK hP 43 (wX_0) rfl 7 (by decide) (hts (.fieldLink RX8 51 "LayoutSolver" "dictionary" "LLayoutSolver$Dictionary;") (by decide +kernel)) (fun x h => h) rfl dX8_variableAt_56 ?_
          refine lv_iload hx hb dX8_variableAt_59 (lv_at hl 0 rfl) ?_
          refine dCalll (As := [.int (nI (15 + v0))]) (rest := []) hx hb hml hown hts hK hP hD hS hA hl.1 (cD_numerator l D cy ad _ _ _ (r0 := (15 + v0)) (by omega)) (cwV 1 hts gX8_variableAt_X3_numerator rfl rfl rfl (by decide +kernel) ⟨Nat.le_of_ble_eq_true rfl, Nat.le_of_ble_eq_true rfl⟩) rfl rfl (Nat.le_of_ble_eq_true rfl) ⟨Nat.le_of_ble_eq_true rfl, Nat.le_of_ble_eq_true rfl⟩ dX8_variableAt_61 (fun r13 S13 H locs e13 hP hD hS => ?_)
          obtain ⟨e13a, e13b⟩ := e13
          rw [show r13 = kNum S12 (15 + v0) from e13a]
          rw [e13b] at hP hD
          have hP : va_P D vwCl (wD cy ad S12 ++ wX cy ad xa P O) H := hP
          have hD : va_D (va_A (wD cy ad S ++ wX cy ad xa P O) sz) (wD cy ad S12 ++ wX cy ad xa P O) := hD
          refine lv_aload_n hx hb dX8_variableAt_64 rfl (lv_at hl 1 rfl) ?_
          refine va_get (v := .ref (ad 0)) (ci := 8) (C := RX8) (T := TX8) (N := 11) hx hb hts hinX8 hown hK hP 43 (wX_0) rfl 7 (by decide) (hts (.fieldLink RX8 51 "LayoutSolver" "dictionary" "LLayoutSolver$Dictionary;") (by decide +kernel)) (fun x h => h) rfl dX8_variableAt_65 ?_
          refine dCalll (As := []) (rest := [.long (kNum S12 (15 + v0))]) hx hb hml hown hts hK hP hD hS hA hl.1 (cD_denominator l D cy ad _ _ _) (cwV 0 hts gX8_variableAt_X3_denominator rfl rfl rfl (by decide +kernel) ⟨Nat.le_of_ble_eq_true rfl, Nat.le_of_ble_eq_true rfl⟩) rfl rfl (Nat.le_of_ble_eq_true rfl) ⟨Nat.le_of_ble_eq_true rfl, Nat.le_of_ble_eq_true rfl⟩ dX8_variableAt_68 (fun r14 S14 H locs e14 hP hD hS => ?_)
          obtain ⟨e14a, e14b⟩ := e14
          rw [show r14 = dSc S12 from e14a]
          rw [e14b] at hP hD
          have hP : va_P D vwCl (wD cy ad S12 ++ wX cy ad xa P O) H := hP
          have hD : va_D (va_A (wD cy ad S ++ wX cy ad xa P O) sz) (wD cy ad S12 ++ wX cy ad xa P O) := hD
          refine lv_iload_n hx hb dX8_variableAt_71 rfl (lv_at hl 4 rfl) ?_
          refine pCalll (As := [.long (kNum S12 (15 + v0)), .long (dSc S12), .int pt]) (rest := []) hx hb hml hown hts hP hS hA hl.1 (cS_partOf l _ (kNum S12 (15 + v0)) (dSc S12) pt) (va_cwS 3 hts gX8_variableAt_X8_partOf rfl rfl rfl (by decide +kernel) ⟨Nat.le_of_ble_eq_true rfl, Nat.le_of_ble_eq_true rfl⟩) rfl rfl (Nat.le_of_ble_eq_true rfl) ⟨Nat.le_of_ble_eq_true rfl, Nat.le_of_ble_eq_true rfl⟩ dX8_variableAt_72 (fun r15 H locs e15 hP hS => ?_)
          rw [show r15 = kPart (kNum S12 (15 + v0)) (dSc S12) pt from e15]
          exact W.lret hx hb hr (fun t ht hW => ⟨⟨_, _, rfl, by rw [kVA, if_neg c2, if_neg c4, if_neg c6, qq8, if_pos c7, e12], by rw [ht]; exact hP, va_K.moved hW.alike hK, hD⟩, hS.F ht⟩) hS.2.2 dX8_variableAt_75
      · skip
        refine lv_ldc2 (v := (-1000000000000000002)) hx hb hown (hts (.constantLong RX8 208 (-1000000000000000002)) (by decide +kernel)) dX8_variableAt_25 ?_
        exact W.lret hx hb hr (fun t ht hW => ⟨⟨_, _, rfl, by simp [kVA, c2, c4, c6], by rw [ht]; exact hP, va_K.moved hW.alike hK, hD⟩, hS.F ht⟩) hS.2.2 dX8_variableAt_28
  · skip
    refine lv_ldc2 (v := (-1000000000000000001)) hx hb hown (hts (.constantLong RX8 225 (-1000000000000000001)) (by decide +kernel)) dX8_variableAt_7 ?_
    exact W.lret hx hb hr (fun t ht hW => ⟨⟨_, _, rfl, by simp [kVA, c2], by rw [ht]; exact hP, va_K.moved hW.alike hK, hD⟩, hS.F ht⟩) hS.2.2 dX8_variableAt_10
set_option maxHeartbeats 4000000 in
set_option maxRecDepth 100000 in
theorem cT_low (l : Launch) (D : va_G) (cy : Nat → ClassId) (ad xa : Nat → Nat) (S : DS) (P O : CS) (sz : Nat) (v pt : Int32) : Met l yX8_low wsX8_low (rm9 6 170) (gPc D cy (wD cy ad S ++ wX cy ad xa P O) sz [.ref (xa 0), .int v, .int pt]) (gQl D cy (wD cy ad S ++ wX cy ad xa P O) sz (fun r _ => r = kVA S v (nI 0) pt (nI 4))) 0 0 (va_A (wD cy ad S ++ wX cy ad xa P O) sz) := by
  refine gHead (cc := cX8_low) (maxL := 3) (ret := (some .long)) (by decide) rfl (Nat.le_of_ble_eq_true rfl) ?_
  intro p e s m below meth c ls hx hb hr hlocks hml hown hts hsz hP hK hD hS hA hl
  have hown : s.vm.findClass RX8 = some m.cls := hown
  have hl : lv_has ls 3 [(0, .ref (xa 0)), (1, .int v), (2, .int pt)] := hl
  refine lv_aload_n hx hb dX8_low_0 rfl (lv_at hl 0 rfl) ?_
  refine lv_iload_n hx hb dX8_low_1 rfl (lv_at hl 1 rfl) ?_
  refine lv_iconst (v := nI 0) hx hb dX8_low_2 (by decide) ?_
  refine lv_iload_n hx hb dX8_low_3 rfl (lv_at hl 2 rfl) ?_
  refine lv_iconst (v := nI 4) hx hb dX8_low_4 (by decide) ?_
  refine gCalll (ws := wD cy ad S ++ wX cy ad xa P O) (As := [.int v, .int (nI 0), .int pt, .int (nI 4)]) (rest := []) (q0 := 43) (r0 := (RX8, TX8, 11)) hx hb hml hown hts hK hP hD hS hA hl.1 wX_0 rfl (cT_variableAt l D cy ad xa S P O _ v (nI 0) pt (nI 4)) (cwV 4 hts gX8_low_X8_variableAt rfl rfl rfl (by decide +kernel) ⟨Nat.le_of_ble_eq_true rfl, Nat.le_of_ble_eq_true rfl⟩) rfl rfl (Nat.le_of_ble_eq_true rfl) ⟨Nat.le_of_ble_eq_true rfl, Nat.le_of_ble_eq_true rfl⟩ dX8_low_5 (fun r9 ws9 H locs e9 hP hD hS => ?_)
  rw [show r9 = kVA S v (nI 0) pt (nI 4) from e9]
  exact W.lret hx hb hr (fun t ht hW => ⟨⟨_, _, rfl, rfl, by rw [ht]; exact hP, va_K.moved hW.alike hK, hD⟩, hS.F ht⟩) hS.2.2 dX8_low_8
set_option maxHeartbeats 4000000 in
set_option maxRecDepth 100000 in
theorem cT_high (l : Launch) (D : va_G) (cy : Nat → ClassId) (ad xa : Nat → Nat) (S : DS) (P O : CS) (sz : Nat) (v pt : Int32) : Met l yX8_high wsX8_high (rm9 6 170) (gPc D cy (wD cy ad S ++ wX cy ad xa P O) sz [.ref (xa 0), .int v, .int pt]) (gQl D cy (wD cy ad S ++ wX cy ad xa P O) sz (fun r _ => r = kVA S v (nI 1) pt (nI 4))) 0 0 (va_A (wD cy ad S ++ wX cy ad xa P O) sz) := by
  refine gHead (cc := cX8_high) (maxL := 3) (ret := (some .long)) (by decide) rfl (Nat.le_of_ble_eq_true rfl) ?_
  intro p e s m below meth c ls hx hb hr hlocks hml hown hts hsz hP hK hD hS hA hl
  have hown : s.vm.findClass RX8 = some m.cls := hown
  have hl : lv_has ls 3 [(0, .ref (xa 0)), (1, .int v), (2, .int pt)] := hl
  refine lv_aload_n hx hb dX8_high_0 rfl (lv_at hl 0 rfl) ?_
  refine lv_iload_n hx hb dX8_high_1 rfl (lv_at hl 1 rfl) ?_
  refine lv_iconst (v := nI 1) hx hb dX8_high_2 (by decide) ?_
  refine lv_iload_n hx hb dX8_high_3 rfl (lv_at hl 2 rfl) ?_
  refine lv_iconst (v := nI 4) hx hb dX8_high_4 (by decide) ?_
  refine gCalll (ws := wD cy ad S ++ wX cy ad xa P O) (As := [.int v, .int (nI 1), .int pt, .int (nI 4)]) (rest := []) (q0 := 43) (r0 := (RX8, TX8, 11)) hx hb hml hown hts hK hP hD hS hA hl.1 wX_0 rfl (cT_variableAt l D cy ad xa S P O _ v (nI 1) pt (nI 4)) (cwV 4 hts gX8_high_X8_variableAt rfl rfl rfl (by decide +kernel) ⟨Nat.le_of_ble_eq_true rfl, Nat.le_of_ble_eq_true rfl⟩) rfl rfl (Nat.le_of_ble_eq_true rfl) ⟨Nat.le_of_ble_eq_true rfl, Nat.le_of_ble_eq_true rfl⟩ dX8_high_5 (fun r9 ws9 H locs e9 hP hD hS => ?_)
  rw [show r9 = kVA S v (nI 1) pt (nI 4) from e9]
  exact W.lret hx hb hr (fun t ht hW => ⟨⟨_, _, rfl, rfl, by rw [ht]; exact hP, va_K.moved hW.alike hK, hD⟩, hS.F ht⟩) hS.2.2 dX8_high_8
set_option maxHeartbeats 4000000 in
set_option maxRecDepth 100000 in
theorem cT_reach (l : Launch) (D : va_G) (cy : Nat → ClassId) (ad xa : Nat → Nat) (S : DS) (P O : CS) (sz : Nat) (v sd pt : Int32) : Met l yX8_reach wsX8_reach (rm9 6 170) (gPc D cy (wD cy ad S ++ wX cy ad xa P O) sz [.ref (xa 0), .int v, .int sd, .int pt]) (gQl D cy (wD cy ad S ++ wX cy ad xa P O) sz (fun r _ => r = kVA S v sd pt (nI 1))) 0 0 (va_A (wD cy ad S ++ wX cy ad xa P O) sz) := by
  refine gHead (cc := cX8_reach) (maxL := 4) (ret := (some .long)) (by decide) rfl (Nat.le_of_ble_eq_true rfl) ?_
  intro p e s m below meth c ls hx hb hr hlocks hml hown hts hsz hP hK hD hS hA hl
  have hown : s.vm.findClass RX8 = some m.cls := hown
  have hl : lv_has ls 4 [(0, .ref (xa 0)), (1, .int v), (2, .int sd), (3, .int pt)] := hl
  refine lv_aload_n hx hb dX8_reach_0 rfl (lv_at hl 0 rfl) ?_
  refine lv_iload_n hx hb dX8_reach_1 rfl (lv_at hl 1 rfl) ?_
  refine lv_iload_n hx hb dX8_reach_2 rfl (lv_at hl 2 rfl) ?_
  refine lv_iload_n hx hb dX8_reach_3 rfl (lv_at hl 3 rfl) ?_
  refine lv_iconst (v := nI 1) hx hb dX8_reach_4 (by decide) ?_
  refine gCalll (ws := wD cy ad S ++ wX cy ad xa P O) (As := [.int v, .int sd, .int pt, .int (nI 1)]) (rest := []) (q0 := 43) (r0 := (RX8, TX8, 11)) hx hb hml hown hts hK hP hD hS hA hl.1 wX_0 rfl (cT_variableAt l D cy ad xa S P O _ v sd pt (nI 1)) (cwV 4 hts gX8_reach_X8_variableAt rfl rfl rfl (by decide +kernel) ⟨Nat.le_of_ble_eq_true rfl, Nat.le_of_ble_eq_true rfl⟩) rfl rfl (Nat.le_of_ble_eq_true rfl) ⟨Nat.le_of_ble_eq_true rfl, Nat.le_of_ble_eq_true rfl⟩ dX8_reach_5 (fun r9 ws9 H locs e9 hP hD hS => ?_)
  rw [show r9 = kVA S v sd pt (nI 1) from e9]
  exact W.lret hx hb hr (fun t ht hW => ⟨⟨_, _, rfl, rfl, by rw [ht]; exact hP, va_K.moved hW.alike hK, hD⟩, hS.F ht⟩) hS.2.2 dX8_reach_8
def kAmS1 (S : DS) (v : Nat) : DS := kGo S (15 + v) (nI 1) (nI 4)
def kAmS (S : DS) (v : Nat) : DS := kGo (kAmS1 S v) (15 + v) (nI 0) (nI 4)
def kAm (S : DS) (v : Nat) : Int32 := if lg_cmp (kNum (kAmS1 S v) (15 + v) * dSc (kAmS S v)) (kNum (kAmS S v) (15 + v) * dSc (kAmS1 S v)) = 0 then nI 0 else nI 1
set_option maxHeartbeats 4000000 in
set_option maxRecDepth 100000 in
theorem cT_isAmbiguous (l : Launch) (D : va_G) (cy : Nat → ClassId) (ad xa : Nat → Nat) (S : DS) (P O : CS) (sz : Nat) {v : Nat} (hv : v < 6) : Met l yX8_isAmbiguous wsX8_isAmbiguous (rm9 5 140) (gPc D cy (wD cy ad S ++ wX cy ad xa P O) sz [.ref (xa 0), .int (nI v)]) (gQi D cy (wD cy ad S ++ wX cy ad xa P O) sz (fun r ws' => r = kAm S v ∧ ∃ S2 : DS, S2 = kAmS S v ∧ ws' = wD cy ad S2 ++ wX cy ad xa P O)) 0 0 (va_A (wD cy ad S ++ wX cy ad xa P O) sz) := by
  refine gHead (cc := cX8_isAmbiguous) (maxL := 7) (ret := (some .boolean)) (by decide) rfl (Nat.le_of_ble_eq_true rfl) ?_
  intro p e s m below meth c ls hx hb hr hlocks hml hown hts hsz hP hK hD hS hA hl
  have hown : s.vm.findClass RX8 = some m.cls := hown
  have hinX8 : ∀ w ∈ u_ws RX8 TX8 11, w ∈ wsX8_isAmbiguous := by decide +kernel
  have hl : lv_has ls 7 [(0, .ref (xa 0)), (1, .int (nI v))] := hl
  refine lv_bipush (v := nI 15) hx hb dX8_isAmbiguous_0 (by decide) ?_
  refine lv_iload_n hx hb dX8_isAmbiguous_2 rfl (lv_at hl 1 rfl) ?_
  refine lv_iadd hx hb dX8_isAmbiguous_3 ?_
  rw [nI_add]
  refine lv_istore_n (lv' := [(2, .int (nI (15 + v))), (0, .ref (xa 0)), (1, .int (nI v))]) hx hb dX8_isAmbiguous_4 rfl hl (by decide) rfl (fun ls hl => ?_)
  refine lv_aload_n hx hb dX8_isAmbiguous_5 rfl (lv_at hl 1 rfl) ?_
  refine va_get (v := .ref (ad 0)) (ci := 8) (C := RX8) (T := TX8) (N := 11) hx hb hts hinX8 hown hK hP 43 (wX_0) rfl 7 (by decide) (hts (.fieldLink RX8 51 "LayoutSolver" "dictionary" "LLayoutSolver$Dictionary;") (by decide +kernel)) (fun x h => h) rfl dX8_isAmbiguous_6 ?_
  refine lv_iload_n hx hb dX8_isAmbiguous_9 rfl (lv_at hl 0 rfl) ?_
  refine lv_iconst (v := nI 1) hx hb dX8_isAmbiguous_10 (by decide) ?_
  refine lv_iconst (v := nI 4) hx hb dX8_isAmbiguous_11 (by decide) ?_
  refine dCallv (As := [.int (nI (15 + v)), .int (nI 1), .int (nI 4)]) (rest := []) hx hb hml hown hts hK hP hD hS hA hl.1 (cD_goTo l D cy ad _ _ _ (r0 := (15 + v)) (by omega) (nI 1) (nI 4)) (cwV 3 hts gX8_isAmbiguous_X3_goTo rfl rfl rfl (by decide +kernel) ⟨Nat.le_of_ble_eq_true rfl, Nat.le_of_ble_eq_true rfl⟩) rfl rfl (Nat.le_of_ble_eq_true rfl) ⟨Nat.le_of_ble_eq_true rfl, Nat.le_of_ble_eq_true rfl⟩ dX8_isAmbiguous_12 (fun S1 H locs e1 hP hD hS => ?_)
  have e1 : S1 = kGo S (15 + v) (nI 1) (nI 4) := e1
  have hP : va_P D vwCl (wD cy ad S1 ++ wX cy ad xa P O) H := hP
  have hD : va_D (va_A (wD cy ad S ++ wX cy ad xa P O) sz) (wD cy ad S1 ++ wX cy ad xa P O) := hD
  refine lv_aload_n hx hb dX8_isAmbiguous_15 rfl (lv_at hl 1 rfl) ?_
  refine va_get (v := .ref (ad 0)) (ci := 8) (C := RX8) (T := TX8) (N := 11) hx hb hts hinX8 hown hK hP 43 (wX_0) rfl 7 (by decide) (hts (.fieldLink RX8 51 "LayoutSolver" "dictionary" "LLayoutSolver$Dictionary;") (by decide +kernel)) (fun x h => h) rfl dX8_isAmbiguous_16 ?_
  refine lv_iload_n hx hb dX8_isAmbiguous_19 rfl (lv_at hl 0 rfl) ?_
  refine dCalll (As := [.int (nI (15 + v))]) (rest := []) hx hb hml hown hts hK hP hD hS hA hl.1 (cD_numerator l D cy ad _ _ _ (r0 := (15 + v)) (by omega)) (cwV 1 hts gX8_isAmbiguous_X3_numerator rfl rfl rfl (by decide +kernel) ⟨Nat.le_of_ble_eq_true rfl, Nat.le_of_ble_eq_true rfl⟩) rfl rfl (Nat.le_of_ble_eq_true rfl) ⟨Nat.le_of_ble_eq_true rfl, Nat.le_of_ble_eq_true rfl⟩ dX8_isAmbiguous_20 (fun r2 S2 H locs e2 hP hD hS => ?_)
  obtain ⟨e2a, e2b⟩ := e2
  rw [show r2 = kNum S1 (15 + v) from e2a]
  rw [e2b] at hP hD
  have hP : va_P D vwCl (wD cy ad S1 ++ wX cy ad xa P O) H := hP
  have hD : va_D (va_A (wD cy ad S ++ wX cy ad xa P O) sz) (wD cy ad S1 ++ wX cy ad xa P O) := hD
  refine lv_lstore_n (lv' := [(3, .long (kNum S1 (15 + v))), (2, .int (nI (15 + v))), (0, .ref (xa 0)), (1, .int (nI v))]) hx hb dX8_isAmbiguous_23 rfl hl (by decide) rfl (fun ls hl => ?_)
  refine lv_aload_n hx hb dX8_isAmbiguous_24 rfl (lv_at hl 2 rfl) ?_
  refine va_get (v := .ref (ad 0)) (ci := 8) (C := RX8) (T := TX8) (N := 11) hx hb hts hinX8 hown hK hP 43 (wX_0) rfl 7 (by decide) (hts (.fieldLink RX8 51 "LayoutSolver" "dictionary" "LLayoutSolver$Dictionary;") (by decide +kernel)) (fun x h => h) rfl dX8_isAmbiguous_25 ?_
  refine dCalll (As := []) (rest := []) hx hb hml hown hts hK hP hD hS hA hl.1 (cD_denominator l D cy ad _ _ _) (cwV 0 hts gX8_isAmbiguous_X3_denominator rfl rfl rfl (by decide +kernel) ⟨Nat.le_of_ble_eq_true rfl, Nat.le_of_ble_eq_true rfl⟩) rfl rfl (Nat.le_of_ble_eq_true rfl) ⟨Nat.le_of_ble_eq_true rfl, Nat.le_of_ble_eq_true rfl⟩ dX8_isAmbiguous_28 (fun r3 S3 H locs e3 hP hD hS => ?_)
  obtain ⟨e3a, e3b⟩ := e3
  rw [show r3 = dSc S1 from e3a]
  rw [e3b] at hP hD
  have hP : va_P D vwCl (wD cy ad S1 ++ wX cy ad xa P O) H := hP
  have hD : va_D (va_A (wD cy ad S ++ wX cy ad xa P O) sz) (wD cy ad S1 ++ wX cy ad xa P O) := hD
  refine lv_lstore (lv' := [(5, .long (dSc S1)), (3, .long (kNum S1 (15 + v))), (2, .int (nI (15 + v))), (0, .ref (xa 0)), (1, .int (nI v))]) hx hb dX8_isAmbiguous_31 hl (by decide) rfl (fun ls hl => ?_)
  refine lv_aload_n hx hb dX8_isAmbiguous_33 rfl (lv_at hl 3 rfl) ?_
  refine va_get (v := .ref (ad 0)) (ci := 8) (C := RX8) (T := TX8) (N := 11) hx hb hts hinX8 hown hK hP 43 (wX_0) rfl 7 (by decide) (hts (.fieldLink RX8 51 "LayoutSolver" "dictionary" "LLayoutSolver$Dictionary;") (by decide +kernel)) (fun x h => h) rfl dX8_isAmbiguous_34 ?_
  refine lv_iload_n hx hb dX8_isAmbiguous_37 rfl (lv_at hl 2 rfl) ?_
  refine lv_iconst (v := nI 0) hx hb dX8_isAmbiguous_38 (by decide) ?_
  refine lv_iconst (v := nI 4) hx hb dX8_isAmbiguous_39 (by decide) ?_
  refine dCallv (As := [.int (nI (15 + v)), .int (nI 0), .int (nI 4)]) (rest := []) hx hb hml hown hts hK hP hD hS hA hl.1 (cD_goTo l D cy ad _ _ _ (r0 := (15 + v)) (by omega) (nI 0) (nI 4)) (cwV 3 hts gX8_isAmbiguous_X3_goTo rfl rfl rfl (by decide +kernel) ⟨Nat.le_of_ble_eq_true rfl, Nat.le_of_ble_eq_true rfl⟩) rfl rfl (Nat.le_of_ble_eq_true rfl) ⟨Nat.le_of_ble_eq_true rfl, Nat.le_of_ble_eq_true rfl⟩ dX8_isAmbiguous_40 (fun S4 H locs e4 hP hD hS => ?_)
  have e4 : S4 = kGo S1 (15 + v) (nI 0) (nI 4) := e4
  have hP : va_P D vwCl (wD cy ad S4 ++ wX cy ad xa P O) H := hP
  have hD : va_D (va_A (wD cy ad S ++ wX cy ad xa P O) sz) (wD cy ad S4 ++ wX cy ad xa P O) := hD
  refine lv_lload_n hx hb dX8_isAmbiguous_43 rfl (lv_at hl 1 rfl) ?_
  refine lv_aload_n hx hb dX8_isAmbiguous_44 rfl (lv_at hl 3 rfl) ?_
  refine va_get (v := .ref (ad 0)) (ci := 8) (C := RX8) (T := TX8) (N := 11) hx hb hts hinX8 hown hK hP 43 (wX_0) rfl 7 (by decide) (hts (.fieldLink RX8 51 "LayoutSolver" "dictionary" "LLayoutSolver$Dictionary;") (by decide +kernel)) (fun x h => h) rfl dX8_isAmbiguous_45 ?_
  refine dCalll (As := []) (rest := [.long (kNum S1 (15 + v))]) hx hb hml hown hts hK hP hD hS hA hl.1 (cD_denominator l D cy ad _ _ _) (cwV 0 hts gX8_isAmbiguous_X3_denominator rfl rfl rfl (by decide +kernel) ⟨Nat.le_of_ble_eq_true rfl, Nat.le_of_ble_eq_true rfl⟩) rfl rfl (Nat.le_of_ble_eq_true rfl) ⟨Nat.le_of_ble_eq_true rfl, Nat.le_of_ble_eq_true rfl⟩ dX8_isAmbiguous_48 (fun r5 S5 H locs e5 hP hD hS => ?_)
  obtain ⟨e5a, e5b⟩ := e5
  rw [show r5 = dSc S4 from e5a]
  rw [e5b] at hP hD
  have hP : va_P D vwCl (wD cy ad S4 ++ wX cy ad xa P O) H := hP
  have hD : va_D (va_A (wD cy ad S ++ wX cy ad xa P O) sz) (wD cy ad S4 ++ wX cy ad xa P O) := hD
  refine lv_lmul hx hb dX8_isAmbiguous_51 ?_
  refine lv_aload_n hx hb dX8_isAmbiguous_52 rfl (lv_at hl 3 rfl) ?_
  refine va_get (v := .ref (ad 0)) (ci := 8) (C := RX8) (T := TX8) (N := 11) hx hb hts hinX8 hown hK hP 43 (wX_0) rfl 7 (by decide) (hts (.fieldLink RX8 51 "LayoutSolver" "dictionary" "LLayoutSolver$Dictionary;") (by decide +kernel)) (fun x h => h) rfl dX8_isAmbiguous_53 ?_
  refine lv_iload_n hx hb dX8_isAmbiguous_56 rfl (lv_at hl 2 rfl) ?_
  refine dCalll (As := [.int (nI (15 + v))]) (rest := [.long ((kNum S1 (15 + v)) * (dSc S4))]) hx hb hml hown hts hK hP hD hS hA hl.1 (cD_numerator l D cy ad _ _ _ (r0 := (15 + v)) (by omega)) (cwV 1 hts gX8_isAmbiguous_X3_numerator rfl rfl rfl (by decide +kernel) ⟨Nat.le_of_ble_eq_true rfl, Nat.le_of_ble_eq_true rfl⟩) rfl rfl (Nat.le_of_ble_eq_true rfl) ⟨Nat.le_of_ble_eq_true rfl, Nat.le_of_ble_eq_true rfl⟩ dX8_isAmbiguous_57 (fun r6 S6 H locs e6 hP hD hS => ?_)
  obtain ⟨e6a, e6b⟩ := e6
  rw [show r6 = kNum S4 (15 + v) from e6a]
  rw [e6b] at hP hD
  have hP : va_P D vwCl (wD cy ad S4 ++ wX cy ad xa P O) H := hP
  have hD : va_D (va_A (wD cy ad S ++ wX cy ad xa P O) sz) (wD cy ad S4 ++ wX cy ad xa P O) := hD
  refine lv_lload hx hb dX8_isAmbiguous_60 (lv_at hl 0 rfl) ?_
  refine lv_lmul hx hb dX8_isAmbiguous_62 ?_
  refine W.lcmp hx hb dX8_isAmbiguous_63 ?_
  refine lv_if_eq (tgt := 71) hx hb dX8_isAmbiguous_64 (by decide) (fun c7 => ?_) (fun c7 => ?_)
  · skip
    refine lv_iconst (v := nI 0) hx hb dX8_isAmbiguous_71 (by decide) ?_
    exact W.zret hx hb hr (by decide) (fun t ht hW => ⟨⟨_, _, rfl, ⟨by rw [kAm, kAmS, kAmS1, ← e1, ← e4]; exact (if_pos c7).symm, S4, by rw [kAmS, kAmS1, ← e1, ← e4], rfl⟩, by rw [ht]; exact hP, va_K.moved hW.alike hK, hD⟩, hS.F ht⟩) hS.2.2 dX8_isAmbiguous_72
  · skip
    refine lv_iconst (v := nI 1) hx hb dX8_isAmbiguous_67 (by decide) ?_
    refine lv_goto (tgt := 72) hx hb dX8_isAmbiguous_68 (by decide) ?_
    exact W.zret hx hb hr (by decide) (fun t ht hW => ⟨⟨_, _, rfl, ⟨by rw [kAm, kAmS, kAmS1, ← e1, ← e4]; exact (if_neg c7).symm, S4, by rw [kAmS, kAmS1, ← e1, ← e4], rfl⟩, by rw [ht]; exact hP, va_K.moved hW.alike hK, hD⟩, hS.F ht⟩) hS.2.2 dX8_isAmbiguous_72
def fAmb (k : Nat) (q : Int32 × DS) : Int32 × DS := (if kAm q.2 k = 0 then q.1 else q.1 ||| (nI 1 <<< (nI k &&& 31)), kAmS q.2 k)
set_option maxHeartbeats 4000000 in
set_option maxRecDepth 100000 in
theorem cT_ambiguous (l : Launch) (D : va_G) (cy : Nat → ClassId) (ad xa : Nat → Nat) (S : DS) (P O : CS) (sz : Nat)  : Met l yX8_ambiguous wsX8_ambiguous (rm9 6 170) (gPc D cy (wD cy ad S ++ wX cy ad xa P O) sz [.ref (xa 0)]) (gQi D cy (wD cy ad S ++ wX cy ad xa P O) sz (fun r _ => r = (lpN fAmb 6 0 (nI 0, S)).1)) 0 0 (va_A (wD cy ad S ++ wX cy ad xa P O) sz) := by
  refine gHead (cc := cX8_ambiguous) (maxL := 3) (ret := (some .int)) (by decide) rfl (Nat.le_of_ble_eq_true rfl) ?_
  intro p e s m below meth c ls hx hb hr hlocks hml hown hts hsz hP hK hD hS hA hl
  have hown : s.vm.findClass RX8 = some m.cls := hown
  have hl : lv_has ls 3 [(0, .ref (xa 0))] := hl
  refine lv_iconst (v := nI 0) hx hb dX8_ambiguous_0 (by decide) ?_
  refine lv_istore_n (lv' := [(1, .int (nI 0)), (0, .ref (xa 0))]) hx hb dX8_ambiguous_1 rfl hl (by decide) rfl (fun ls hl => ?_)
  refine lv_iconst (v := nI 0) hx hb dX8_ambiguous_2 (by decide) ?_
  refine lv_istore_n (lv' := [(2, .int (nI 0)), (1, .int (nI 0)), (0, .ref (xa 0))]) hx hb dX8_ambiguous_3 rfl hl (by decide) rfl (fun ls hl => ?_)
  have L4 : ∀ (n k : Nat) (q : Int32 × DS) (H : Heap) (locs : List Loc) (ls : Array Slot), k + n = 6 → va_P D vwCl (wD cy ad ((q).2) ++ wX cy ad xa P O) H → va_D (va_A (wD cy ad S ++ wX cy ad xa P O) sz) (wD cy ad ((q).2) ++ wX cy ad xa P O) → va_S (va_A (wD cy ad S ++ wX cy ad xa P O) sz) s.heap H locs → lv_has ls 3 [(2, .int (nI k)), (0, .ref (xa 0)), (1, .int q.1)] → (∀ (H : Heap) (locs : List Loc) (ls : Array Slot), va_P D vwCl (wD cy ad (((lpN (fAmb) n k q)).2) ++ wX cy ad xa P O) H → va_D (va_A (wD cy ad S ++ wX cy ad xa P O) sz) (wD cy ad (((lpN (fAmb) n k q)).2) ++ wX cy ad xa P O) → va_S (va_A (wD cy ad S ++ wX cy ad xa P O) sz) s.heap H locs → lv_has ls 3 [(2, .int (nI 6)), (0, .ref (xa 0)), (1, .int ((lpN (fAmb) n k q).1))] → W p l e (headSpec wsX8_ambiguous (rm9 6 170)).room s m ([.ref (xa 0)] : List Value).toArray below meth c H locs 0 0 (MQ below (gQi D cy (wD cy ad S ++ wX cy ad xa P O) sz (fun r _ => r = (lpN fAmb 6 0 (nI 0, S)).1)) ([.ref (xa 0)] : List Value).toArray s 0 0 (va_A (wD cy ad S ++ wX cy ad xa P O) sz)) (F0 m 30 ls [])) → W p l e (headSpec wsX8_ambiguous (rm9 6 170)).room s m ([.ref (xa 0)] : List Value).toArray below meth c H locs 0 0 (MQ below (gQi D cy (wD cy ad S ++ wX cy ad xa P O) sz (fun r _ => r = (lpN fAmb 6 0 (nI 0, S)).1)) ([.ref (xa 0)] : List Value).toArray s 0 0 (va_A (wD cy ad S ++ wX cy ad xa P O) sz)) (F0 m 4 ls []) := by
    intro n
    induction n with
    | zero =>
      intro k q H locs ls hk hP hD hS hl hex
      obtain rfl : 6 = k := by omega
      refine lv_iload_n hx hb dX8_ambiguous_4 rfl (lv_at hl 0 rfl) ?_
      refine lv_bipush (v := nI 6) hx hb dX8_ambiguous_5 (by decide) ?_
      refine lv_icmp_ge (tgt := 30) hx hb dX8_ambiguous_7 (by decide) (fun c1 => ?_) (fun c1 => ?_)
      · rw [nI_leI (by omega) (by omega)] at c1
        exact hex _ _ _ hP hD hS (lv_sub hl [0, 1, 2] rfl)
      · exact absurd c1 (by rw [nI_leI (by omega) (by omega)]; omega)
    | succ n ih =>
      intro k q H locs ls hk hP hD hS hl hex
      have hk4 : k < 6 := by omega
      refine lv_iload_n hx hb dX8_ambiguous_4 rfl (lv_at hl 0 rfl) ?_
      refine lv_bipush (v := nI 6) hx hb dX8_ambiguous_5 (by decide) ?_
      refine lv_icmp_ge (tgt := 30) hx hb dX8_ambiguous_7 (by decide) (fun c2 => ?_) (fun c2 => ?_)
      · exact absurd c2 (by rw [nI_leI (by omega) (by omega)]; omega)
      · rw [nI_leI (by omega) (by omega)] at c2
        refine lv_aload_n hx hb dX8_ambiguous_10 rfl (lv_at hl 1 rfl) ?_
        refine lv_iload_n hx hb dX8_ambiguous_11 rfl (lv_at hl 0 rfl) ?_
        refine gCalli (ws := wD cy ad ((q).2) ++ wX cy ad xa P O) (As := [.int (nI k)]) (rest := []) (q0 := 43) (r0 := (RX8, TX8, 11)) hx hb hml hown hts hK hP hD hS hA hl.1 wX_0 rfl (cT_isAmbiguous l D cy ad xa ((q).2) P O _ (v := k) (by omega)) (cwV 1 hts gX8_ambiguous_X8_isAmbiguous rfl rfl rfl (by decide +kernel) ⟨Nat.le_of_ble_eq_true rfl, Nat.le_of_ble_eq_true rfl⟩) rfl rfl (Nat.le_of_ble_eq_true rfl) ⟨Nat.le_of_ble_eq_true rfl, Nat.le_of_ble_eq_true rfl⟩ dX8_ambiguous_12 (fun r3 ws9 H locs e3 hP hD hS => ?_)
        obtain ⟨e3, S3, hS3, e3b⟩ := e3
        rw [show ws9 = _ from e3b] at hP hD
        rw [show r3 = kAm ((q).2) k from e3]
        refine lv_if_eq (tgt := 24) hx hb dX8_ambiguous_15 (by decide) (fun c4 => ?_) (fun c4 => ?_)
        · skip
          refine lv_iinc (v := nI (k + 1)) (lv' := [(2, .int (nI (k + 1))), (0, .ref (xa 0)), (1, .int q.1)]) hx hb dX8_ambiguous_24 hl (k := 0) rfl (nI_1 _) (by decide) rfl (fun ls hl => ?_)
          refine lv_goto (tgt := 4) hx hb dX8_ambiguous_27 (by decide) ?_
          have he : (fAmb) k q = (q.1, S3) := by rw [fAmb, ← hS3]; rw [if_pos c4]
          rw [lpN_s (f := fAmb), he] at hex
          exact ih ((k + 1)) (q.1, S3) _ _ _ (by omega) hP hD hS (lv_sub hl [0, 1, 2] rfl) hex
        · skip
          refine lv_iload_n hx hb dX8_ambiguous_18 rfl (lv_at hl 2 rfl) ?_
          refine lv_iconst (v := nI 1) hx hb dX8_ambiguous_19 (by decide) ?_
          refine lv_iload_n hx hb dX8_ambiguous_20 rfl (lv_at hl 0 rfl) ?_
          refine lv_ishl hx hb dX8_ambiguous_21 ?_
          refine lv_ior hx hb dX8_ambiguous_22 ?_
          refine lv_istore_n (lv' := [(1, .int (q.1 ||| ((nI 1) <<< ((nI k) &&& 31)))), (2, .int (nI k)), (0, .ref (xa 0))]) hx hb dX8_ambiguous_23 rfl hl (by decide) rfl (fun ls hl => ?_)
          refine lv_iinc (v := nI (k + 1)) (lv' := [(2, .int (nI (k + 1))), (1, .int (q.1 ||| ((nI 1) <<< ((nI k) &&& 31)))), (0, .ref (xa 0))]) hx hb dX8_ambiguous_24 hl (k := 1) rfl (nI_1 _) (by decide) rfl (fun ls hl => ?_)
          refine lv_goto (tgt := 4) hx hb dX8_ambiguous_27 (by decide) ?_
          have he : (fAmb) k q = (q.1 ||| ((nI 1) <<< ((nI k) &&& 31)), S3) := by rw [fAmb, ← hS3]; rw [if_neg c4]
          rw [lpN_s (f := fAmb), he] at hex
          exact ih ((k + 1)) (q.1 ||| ((nI 1) <<< ((nI k) &&& 31)), S3) _ _ _ (by omega) hP hD hS (lv_sub hl [0, 2, 1] rfl) hex
  refine L4 6 0 (nI 0, S) _ _ _ (by omega) hP hD hS (lv_sub hl [0, 2, 1] rfl) (fun H locs ls hP hD hS hl => ?_)
  refine lv_iload_n hx hb dX8_ambiguous_30 rfl (lv_at hl 2 rfl) ?_
  exact W.iret hx hb hr (fun t ht hW => ⟨⟨_, _, rfl, rfl, by rw [ht]; exact hP, va_K.moved hW.alike hK, hD⟩, hS.F ht⟩) hS.2.2 dX8_ambiguous_31
theorem wXp {cy : Nat → ClassId} {ad xa : Nat → Nat} {P O : CS} : ∀ v : Nat, v < 6 → (wX cy ad xa P O)[18 + v]? = some (xa (18 + v), .inr (1, [.ref (xa (24 + v)), .int (nI 1), .int (nI 0), .int (nI 0), .int (nI 1)]))
  | 0, _ => rfl
  | 1, _ => rfl
  | 2, _ => rfl
  | 3, _ => rfl
  | 4, _ => rfl
  | 5, _ => rfl
  | n + 6, h => absurd h (by omega)
theorem wXq {cy : Nat → ClassId} {ad xa : Nat → Nat} {P O : CS} : ∀ v : Nat, v < 6 → (wX cy ad xa P O)[24 + v]? = some (xa (24 + v), .inl (cy 1, 6, .inl (upd (fun _ => 0) v (nI 1))))
  | 0, _ => rfl
  | 1, _ => rfl
  | 2, _ => rfl
  | 3, _ => rfl
  | 4, _ => rfl
  | 5, _ => rfl
  | n + 6, h => absurd h (by omega)
def kPin (S : DS) (v : Nat) (x : Int32) : DS := kPl S 14 (upd (fun _ => 0) v (nI 1)) (nI 1) x (nI 0) (nI 1)
def kAt1 (S : DS) (v : Nat) (x : Int32) : DS := kSet (kPin S v x)
def kAt2 (S : DS) (v : Nat) (x : Int32) : DS := kLift (kAt1 S v x) (nI 14)
theorem k_isVariable_in {v : Nat} (hv : v < 6) : ¬ k_isVariable (nI v) = 0 := by
  rcases (show v = 0 ∨ v = 1 ∨ v = 2 ∨ v = 3 ∨ v = 4 ∨ v = 5 by omega) with rfl | rfl | rfl | rfl | rfl | rfl <;> decide
set_option maxHeartbeats 4000000 in
set_option maxRecDepth 100000 in
theorem cF_atP (l : Launch) (D : va_G) (cy : Nat → ClassId) (ad xa : Nat → Nat) (S : DS) (P O : CS) (sz : Nat) {v : Nat} (hv : v < 6) (x : Int32) : Met l yX8_findCostsAt wsX8_findCostsAt (rm9 6 160) (gPc D cy (wD cy ad S ++ wX cy ad xa P O) sz [.ref (xa 0), .int (nI v), .int x, .ref (xa 13)]) (gQv D cy (wD cy ad S ++ wX cy ad xa P O) sz (fun ws' => ∃ S1 : DS, S1 = kAt1 S v x ∧ ∃ S2 : DS, S2 = kLift S1 (nI 14) ∧ ws' = wD cy ad S2 ++ wX cy ad xa (kCo S1 P) O)) 0 0 (va_A (wD cy ad S ++ wX cy ad xa P O) sz) := by
  refine gHead (cc := cX8_findCostsAt) (maxL := 4) (ret := none) (by decide) rfl (Nat.le_of_ble_eq_true rfl) ?_
  intro p e s m below meth c ls hx hb hr hlocks hml hown hts hsz hP hK hD hS hA hl
  have hown : s.vm.findClass RX8 = some m.cls := hown
  have hinX8 : ∀ w ∈ u_ws RX8 TX8 11, w ∈ wsX8_findCostsAt := by decide +kernel
  have hl : lv_has ls 4 [(0, .ref (xa 0)), (1, .int (nI v)), (2, .int x), (3, .ref (xa 13))] := hl
  refine lv_iload_n hx hb dX8_findCostsAt_0 rfl (lv_at hl 1 rfl) ?_
  refine pCalli (As := [.int (nI v)]) (rest := []) hx hb hml hown hts hP hS hA hl.1 (cS_isVariable l _ (nI v)) (va_cwS 1 hts gX8_findCostsAt_X8_isVariable rfl rfl rfl (by decide +kernel) ⟨Nat.le_of_ble_eq_true rfl, Nat.le_of_ble_eq_true rfl⟩) rfl rfl (Nat.le_of_ble_eq_true rfl) ⟨Nat.le_of_ble_eq_true rfl, Nat.le_of_ble_eq_true rfl⟩ dX8_findCostsAt_1 (fun r1 H locs e1 hP hS => ?_)
  rw [show r1 = k_isVariable (nI v) from e1]
  refine lv_if_eq (tgt := 37) hx hb dX8_findCostsAt_4 (by decide) (fun c2 => ?_) (fun c2 => ?_)
  · exact absurd c2 (k_isVariable_in hv)
  · skip
    refine lv_aload_n hx hb dX8_findCostsAt_7 rfl (lv_at hl 0 rfl) ?_
    refine va_get (v := .ref (ad 0)) (ci := 8) (C := RX8) (T := TX8) (N := 11) hx hb hts hinX8 hown hK hP 43 (wX_0) rfl 7 (by decide) (hts (.fieldLink RX8 51 "LayoutSolver" "dictionary" "LLayoutSolver$Dictionary;") (by decide +kernel)) (fun x h => h) rfl dX8_findCostsAt_8 ?_
    refine lv_bipush (v := nI 14) hx hb dX8_findCostsAt_11 (by decide) ?_
    refine lv_aload_n hx hb dX8_findCostsAt_13 rfl (lv_at hl 0 rfl) ?_
    refine va_get (v := .ref (xa 17)) (ci := 8) (C := RX8) (T := TX8) (N := 11) hx hb hts hinX8 hown hK hP 43 (wX_0) rfl 10 (by decide) (hts (.fieldLink RX8 67 "LayoutSolver" "pins" "[LLayoutSolver$Constraint;") (by decide +kernel)) (fun x h => h) rfl dX8_findCostsAt_14 ?_
    refine lv_iload_n hx hb dX8_findCostsAt_17 rfl (lv_at hl 1 rfl) ?_
    refine va_aldq (i := nI v) hx hb hK hP 60 5 (wX_17) rfl (vp_in_nI (by omega) (by decide)) dX8_findCostsAt_18 ?_
    rw [nI_clamp (show v < 2 ^ 31 by omega)]
    refine W.eq (g2 := F0 m 19 ls [.ref (xa (18 + v)), .int (nI 14), .ref (ad 0)]) rfl ?_
    refine lv_iload_n hx hb dX8_findCostsAt_19 rfl (lv_at hl 2 rfl) ?_
    refine dCallv (As := [.int (nI 14), .ref (xa (18 + v)), .int x]) (rest := []) hx hb hml hown hts hK hP hD hS hA hl.1 (cD_placeWith l D cy ad _ _ _ (k := 14) (by omega) x (wXp v hv) (wXq v hv)) (cwV 3 hts gX8_findCostsAt_X3_placeWith rfl rfl rfl (by decide +kernel) ⟨Nat.le_of_ble_eq_true rfl, Nat.le_of_ble_eq_true rfl⟩) rfl rfl (Nat.le_of_ble_eq_true rfl) ⟨Nat.le_of_ble_eq_true rfl, Nat.le_of_ble_eq_true rfl⟩ dX8_findCostsAt_20 (fun S3 H locs e3 hP hD hS => ?_)
    have e3 : S3 = kPl S 14 (upd (fun _ => 0) v (nI 1)) (nI 1) x (nI 0) (nI 1) := e3
    have hP : va_P D vwCl (wD cy ad S3 ++ wX cy ad xa P O) H := hP
    have hD : va_D (va_A (wD cy ad S ++ wX cy ad xa P O) sz) (wD cy ad S3 ++ wX cy ad xa P O) := hD
    refine lv_aload_n hx hb dX8_findCostsAt_23 rfl (lv_at hl 0 rfl) ?_
    refine lv_aload_n hx hb dX8_findCostsAt_24 rfl (lv_at hl 3 rfl) ?_
    refine gCallv (ws := wD cy ad S3 ++ wX cy ad xa P O) (As := [.ref (xa 13)]) (rest := []) (q0 := 43) (r0 := (RX8, TX8, 11)) hx hb hml hown hts hK hP hD hS hA hl.1 wX_0 rfl (cF_findP l D cy ad xa S3 P O _) (cwV 1 hts gX8_findCostsAt_X8_findCosts rfl rfl rfl (by decide +kernel) ⟨Nat.le_of_ble_eq_true rfl, Nat.le_of_ble_eq_true rfl⟩) rfl rfl (Nat.le_of_ble_eq_true rfl) ⟨Nat.le_of_ble_eq_true rfl, Nat.le_of_ble_eq_true rfl⟩ dX8_findCostsAt_25 (fun ws9 H locs e4 hP hD hS => ?_)
    obtain ⟨S4, hS4, e4⟩ := e4
    rw [show ws9 = _ from e4] at hP hD
    have hP : va_P D vwCl (wD cy ad S4 ++ wX cy ad xa (kCo S4 P) O) H := hP
    have hD : va_D (va_A (wD cy ad S ++ wX cy ad xa P O) sz) (wD cy ad S4 ++ wX cy ad xa (kCo S4 P) O) := hD
    refine lv_aload_n hx hb dX8_findCostsAt_28 rfl (lv_at hl 0 rfl) ?_
    refine va_get (v := .ref (ad 0)) (ci := 8) (C := RX8) (T := TX8) (N := 11) hx hb hts hinX8 hown hK hP 43 (wX_0) rfl 7 (by decide) (hts (.fieldLink RX8 51 "LayoutSolver" "dictionary" "LLayoutSolver$Dictionary;") (by decide +kernel)) (fun x h => h) rfl dX8_findCostsAt_29 ?_
    refine lv_bipush (v := nI 14) hx hb dX8_findCostsAt_32 (by decide) ?_
    refine dCallv (As := [.int (nI 14)]) (rest := []) hx hb hml hown hts hK hP hD hS hA hl.1 (cD_lift l D cy ad _ _ _ (nI 14)) (cwV 1 hts gX8_findCostsAt_X3_lift rfl rfl rfl (by decide +kernel) ⟨Nat.le_of_ble_eq_true rfl, Nat.le_of_ble_eq_true rfl⟩) rfl rfl (Nat.le_of_ble_eq_true rfl) ⟨Nat.le_of_ble_eq_true rfl, Nat.le_of_ble_eq_true rfl⟩ dX8_findCostsAt_34 (fun S5 H locs e5 hP hD hS => ?_)
    have e5 : S5 = kLift S4 (nI 14) := e5
    have hP : va_P D vwCl (wD cy ad S5 ++ wX cy ad xa (kCo S4 P) O) H := hP
    have hD : va_D (va_A (wD cy ad S ++ wX cy ad xa P O) sz) (wD cy ad S5 ++ wX cy ad xa (kCo S4 P) O) := hD
    exact W.vret hx hb hr (fun t ht hW => ⟨⟨_, rfl, ⟨S4, by rw [kAt1, kPin, ← e3, ← hS4], S5, e5, rfl⟩, by rw [ht]; exact hP, va_K.moved hW.alike hK, hD⟩, hS.F ht⟩) hS.2.2 dX8_findCostsAt_37
set_option maxHeartbeats 4000000 in
set_option maxRecDepth 100000 in
theorem cF_atO (l : Launch) (D : va_G) (cy : Nat → ClassId) (ad xa : Nat → Nat) (S : DS) (P O : CS) (sz : Nat) {v : Nat} (hv : v < 6) (x : Int32) : Met l yX8_findCostsAt wsX8_findCostsAt (rm9 6 160) (gPc D cy (wD cy ad S ++ wX cy ad xa P O) sz [.ref (xa 0), .int (nI v), .int x, .ref (xa 15)]) (gQv D cy (wD cy ad S ++ wX cy ad xa P O) sz (fun ws' => ∃ S1 : DS, S1 = kAt1 S v x ∧ ∃ S2 : DS, S2 = kLift S1 (nI 14) ∧ ws' = wD cy ad S2 ++ wX cy ad xa P (kCo S1 O))) 0 0 (va_A (wD cy ad S ++ wX cy ad xa P O) sz) := by
  refine gHead (cc := cX8_findCostsAt) (maxL := 4) (ret := none) (by decide) rfl (Nat.le_of_ble_eq_true rfl) ?_
  intro p e s m below meth c ls hx hb hr hlocks hml hown hts hsz hP hK hD hS hA hl
  have hown : s.vm.findClass RX8 = some m.cls := hown
  have hinX8 : ∀ w ∈ u_ws RX8 TX8 11, w ∈ wsX8_findCostsAt := by decide +kernel
  have hl : lv_has ls 4 [(0, .ref (xa 0)), (1, .int (nI v)), (2, .int x), (3, .ref (xa 15))] := hl
  refine lv_iload_n hx hb dX8_findCostsAt_0 rfl (lv_at hl 1 rfl) ?_
  refine pCalli (As := [.int (nI v)]) (rest := []) hx hb hml hown hts hP hS hA hl.1 (cS_isVariable l _ (nI v)) (va_cwS 1 hts gX8_findCostsAt_X8_isVariable rfl rfl rfl (by decide +kernel) ⟨Nat.le_of_ble_eq_true rfl, Nat.le_of_ble_eq_true rfl⟩) rfl rfl (Nat.le_of_ble_eq_true rfl) ⟨Nat.le_of_ble_eq_true rfl, Nat.le_of_ble_eq_true rfl⟩ dX8_findCostsAt_1 (fun r1 H locs e1 hP hS => ?_)
  rw [show r1 = k_isVariable (nI v) from e1]
  refine lv_if_eq (tgt := 37) hx hb dX8_findCostsAt_4 (by decide) (fun c2 => ?_) (fun c2 => ?_)
  · exact absurd c2 (k_isVariable_in hv)
  · skip
    refine lv_aload_n hx hb dX8_findCostsAt_7 rfl (lv_at hl 0 rfl) ?_
    refine va_get (v := .ref (ad 0)) (ci := 8) (C := RX8) (T := TX8) (N := 11) hx hb hts hinX8 hown hK hP 43 (wX_0) rfl 7 (by decide) (hts (.fieldLink RX8 51 "LayoutSolver" "dictionary" "LLayoutSolver$Dictionary;") (by decide +kernel)) (fun x h => h) rfl dX8_findCostsAt_8 ?_
    refine lv_bipush (v := nI 14) hx hb dX8_findCostsAt_11 (by decide) ?_
    refine lv_aload_n hx hb dX8_findCostsAt_13 rfl (lv_at hl 0 rfl) ?_
    refine va_get (v := .ref (xa 17)) (ci := 8) (C := RX8) (T := TX8) (N := 11) hx hb hts hinX8 hown hK hP 43 (wX_0) rfl 10 (by decide) (hts (.fieldLink RX8 67 "LayoutSolver" "pins" "[LLayoutSolver$Constraint;") (by decide +kernel)) (fun x h => h) rfl dX8_findCostsAt_14 ?_
    refine lv_iload_n hx hb dX8_findCostsAt_17 rfl (lv_at hl 1 rfl) ?_
    refine va_aldq (i := nI v) hx hb hK hP 60 5 (wX_17) rfl (vp_in_nI (by omega) (by decide)) dX8_findCostsAt_18 ?_
    rw [nI_clamp (show v < 2 ^ 31 by omega)]
    refine W.eq (g2 := F0 m 19 ls [.ref (xa (18 + v)), .int (nI 14), .ref (ad 0)]) rfl ?_
    refine lv_iload_n hx hb dX8_findCostsAt_19 rfl (lv_at hl 2 rfl) ?_
    refine dCallv (As := [.int (nI 14), .ref (xa (18 + v)), .int x]) (rest := []) hx hb hml hown hts hK hP hD hS hA hl.1 (cD_placeWith l D cy ad _ _ _ (k := 14) (by omega) x (wXp v hv) (wXq v hv)) (cwV 3 hts gX8_findCostsAt_X3_placeWith rfl rfl rfl (by decide +kernel) ⟨Nat.le_of_ble_eq_true rfl, Nat.le_of_ble_eq_true rfl⟩) rfl rfl (Nat.le_of_ble_eq_true rfl) ⟨Nat.le_of_ble_eq_true rfl, Nat.le_of_ble_eq_true rfl⟩ dX8_findCostsAt_20 (fun S3 H locs e3 hP hD hS => ?_)
    have e3 : S3 = kPl S 14 (upd (fun _ => 0) v (nI 1)) (nI 1) x (nI 0) (nI 1) := e3
    have hP : va_P D vwCl (wD cy ad S3 ++ wX cy ad xa P O) H := hP
    have hD : va_D (va_A (wD cy ad S ++ wX cy ad xa P O) sz) (wD cy ad S3 ++ wX cy ad xa P O) := hD
    refine lv_aload_n hx hb dX8_findCostsAt_23 rfl (lv_at hl 0 rfl) ?_
    refine lv_aload_n hx hb dX8_findCostsAt_24 rfl (lv_at hl 3 rfl) ?_
    refine gCallv (ws := wD cy ad S3 ++ wX cy ad xa P O) (As := [.ref (xa 15)]) (rest := []) (q0 := 43) (r0 := (RX8, TX8, 11)) hx hb hml hown hts hK hP hD hS hA hl.1 wX_0 rfl (cF_findO l D cy ad xa S3 P O _) (cwV 1 hts gX8_findCostsAt_X8_findCosts rfl rfl rfl (by decide +kernel) ⟨Nat.le_of_ble_eq_true rfl, Nat.le_of_ble_eq_true rfl⟩) rfl rfl (Nat.le_of_ble_eq_true rfl) ⟨Nat.le_of_ble_eq_true rfl, Nat.le_of_ble_eq_true rfl⟩ dX8_findCostsAt_25 (fun ws9 H locs e4 hP hD hS => ?_)
    obtain ⟨S4, hS4, e4⟩ := e4
    rw [show ws9 = _ from e4] at hP hD
    have hP : va_P D vwCl (wD cy ad S4 ++ wX cy ad xa P (kCo S4 O)) H := hP
    have hD : va_D (va_A (wD cy ad S ++ wX cy ad xa P O) sz) (wD cy ad S4 ++ wX cy ad xa P (kCo S4 O)) := hD
    refine lv_aload_n hx hb dX8_findCostsAt_28 rfl (lv_at hl 0 rfl) ?_
    refine va_get (v := .ref (ad 0)) (ci := 8) (C := RX8) (T := TX8) (N := 11) hx hb hts hinX8 hown hK hP 43 (wX_0) rfl 7 (by decide) (hts (.fieldLink RX8 51 "LayoutSolver" "dictionary" "LLayoutSolver$Dictionary;") (by decide +kernel)) (fun x h => h) rfl dX8_findCostsAt_29 ?_
    refine lv_bipush (v := nI 14) hx hb dX8_findCostsAt_32 (by decide) ?_
    refine dCallv (As := [.int (nI 14)]) (rest := []) hx hb hml hown hts hK hP hD hS hA hl.1 (cD_lift l D cy ad _ _ _ (nI 14)) (cwV 1 hts gX8_findCostsAt_X3_lift rfl rfl rfl (by decide +kernel) ⟨Nat.le_of_ble_eq_true rfl, Nat.le_of_ble_eq_true rfl⟩) rfl rfl (Nat.le_of_ble_eq_true rfl) ⟨Nat.le_of_ble_eq_true rfl, Nat.le_of_ble_eq_true rfl⟩ dX8_findCostsAt_34 (fun S5 H locs e5 hP hD hS => ?_)
    have e5 : S5 = kLift S4 (nI 14) := e5
    have hP : va_P D vwCl (wD cy ad S5 ++ wX cy ad xa P (kCo S4 O)) H := hP
    have hD : va_D (va_A (wD cy ad S ++ wX cy ad xa P O) sz) (wD cy ad S5 ++ wX cy ad xa P (kCo S4 O)) := hD
    exact W.vret hx hb hr (fun t ht hW => ⟨⟨_, rfl, ⟨S4, by rw [kAt1, kPin, ← e3, ← hS4], S5, e5, rfl⟩, by rw [ht]; exact hP, va_K.moved hW.alike hK, hD⟩, hS.F ht⟩) hS.2.2 dX8_findCostsAt_37
set_option maxHeartbeats 4000000 in
set_option maxRecDepth 100000 in
theorem cT_force (l : Launch) (D : va_G) (cy : Nat → ClassId) (ad xa : Nat → Nat) (S : DS) (P O : CS) (sz : Nat) (v x a3 a4 : Int32) : Met l yX8_force wsX8_force (rm9 7 190) (fPc D cy (wD cy ad S ++ wX cy ad xa P O) sz [.ref (xa 0), .int v, .int x, .int a3, .int a4]) (gQl D cy (wD cy ad S ++ wX cy ad xa P O) sz (fun r _ => r = (if k_isVariable v = 0 then (-1000000000000000001) else if k_isWithin x (nI 1000) = 0 then (-1000000000000000002) else if k_isSoft a3 = 0 then (-1000000000000000002) else if k_isPart a4 = 0 then (-1000000000000000002) else if ¬ lg_cmp ((kCo (kAt1 S v.toNatClampNeg x) P).1 0) 0 = 0 then (-1000000000000000003) else kCoP (kCo (kAt1 S v.toNatClampNeg x) P).1 (kCo (kAt1 S v.toNatClampNeg x) P).2 a3 a4))) 0 0 (va_A (wD cy ad S ++ wX cy ad xa P O) sz) := by
  refine fHead (cc := cX8_force) (maxL := 5) (ret := (some .long)) (by decide) rfl (Nat.le_of_ble_eq_true rfl) ?_
  intro p e s m below meth c ls hmn hkf hx hb hr hlocks hml hown hts hsz hP hK hD hS hA hl
  have hown : s.vm.findClass RX8 = some m.cls := hown
  have hinX8 : ∀ w ∈ u_ws RX8 TX8 11, w ∈ wsX8_force := by decide +kernel
  have hl : lv_has ls 5 [(0, .ref (xa 0)), (1, .int v), (2, .int x), (3, .int a3), (4, .int a4)] := hl
  refine lv_iload_n hx hb dX8_force_0 rfl (lv_at hl 1 rfl) ?_
  refine pCalli (As := [.int v]) (rest := []) hx hb hml hown hts hP hS hA hl.1 (cS_isVariable l _ v) (va_cwS 1 hts gX8_force_X8_isVariable rfl rfl rfl (by decide +kernel) ⟨Nat.le_of_ble_eq_true rfl, Nat.le_of_ble_eq_true rfl⟩) rfl rfl (Nat.le_of_ble_eq_true rfl) ⟨Nat.le_of_ble_eq_true rfl, Nat.le_of_ble_eq_true rfl⟩ dX8_force_1 (fun r1 H locs e1 hP hS => ?_)
  rw [show r1 = k_isVariable v from e1]
  refine lv_if_ne (tgt := 11) hx hb dX8_force_4 (by decide) (fun c2 => ?_) (fun c2 => ?_)
  · skip
    refine lv_iload_n hx hb dX8_force_11 rfl (lv_at hl 2 rfl) ?_
    refine lv_sipush (v := nI 1000) hx hb dX8_force_12 (by decide) ?_
    refine pCalli (As := [.int x, .int (nI 1000)]) (rest := []) hx hb hml hown hts hP hS hA hl.1 (cS_isWithin l _ x (nI 1000)) (va_cwS 2 hts gX8_force_X8_isWithin rfl rfl rfl (by decide +kernel) ⟨Nat.le_of_ble_eq_true rfl, Nat.le_of_ble_eq_true rfl⟩) rfl rfl (Nat.le_of_ble_eq_true rfl) ⟨Nat.le_of_ble_eq_true rfl, Nat.le_of_ble_eq_true rfl⟩ dX8_force_15 (fun r3 H locs e3 hP hS => ?_)
    rw [show r3 = k_isWithin x (nI 1000) from e3]
    refine lv_if_eq (tgt := 36) hx hb dX8_force_18 (by decide) (fun c4 => ?_) (fun c4 => ?_)
    · skip
      refine lv_ldc2 (v := (-1000000000000000002)) hx hb hown (hts (.constantLong RX8 208 (-1000000000000000002)) (by decide +kernel)) dX8_force_36 ?_
      exact W.lret hx hb hr (fun t ht hW => ⟨⟨_, _, rfl, by simp [c2, c4], by rw [ht]; exact hP, va_K.moved hW.alike hK, hD⟩, hS.F ht⟩) hS.2.2 dX8_force_39
    · skip
      refine lv_iload_n hx hb dX8_force_21 rfl (lv_at hl 3 rfl) ?_
      refine pCalli (As := [.int a3]) (rest := []) hx hb hml hown hts hP hS hA hl.1 (cS_isSoft l _ a3) (va_cwS 1 hts gX8_force_X8_isSoft rfl rfl rfl (by decide +kernel) ⟨Nat.le_of_ble_eq_true rfl, Nat.le_of_ble_eq_true rfl⟩) rfl rfl (Nat.le_of_ble_eq_true rfl) ⟨Nat.le_of_ble_eq_true rfl, Nat.le_of_ble_eq_true rfl⟩ dX8_force_22 (fun r5 H locs e5 hP hS => ?_)
      rw [show r5 = k_isSoft a3 from e5]
      refine lv_if_eq (tgt := 36) hx hb dX8_force_25 (by decide) (fun c6 => ?_) (fun c6 => ?_)
      · skip
        refine lv_ldc2 (v := (-1000000000000000002)) hx hb hown (hts (.constantLong RX8 208 (-1000000000000000002)) (by decide +kernel)) dX8_force_36 ?_
        exact W.lret hx hb hr (fun t ht hW => ⟨⟨_, _, rfl, by simp [c2, c4, c6], by rw [ht]; exact hP, va_K.moved hW.alike hK, hD⟩, hS.F ht⟩) hS.2.2 dX8_force_39
      · skip
        refine lv_iload hx hb dX8_force_28 (lv_at hl 4 rfl) ?_
        refine pCalli (As := [.int a4]) (rest := []) hx hb hml hown hts hP hS hA hl.1 (cS_isPart l _ a4) (va_cwS 1 hts gX8_force_X8_isPart rfl rfl rfl (by decide +kernel) ⟨Nat.le_of_ble_eq_true rfl, Nat.le_of_ble_eq_true rfl⟩) rfl rfl (Nat.le_of_ble_eq_true rfl) ⟨Nat.le_of_ble_eq_true rfl, Nat.le_of_ble_eq_true rfl⟩ dX8_force_30 (fun r7 H locs e7 hP hS => ?_)
        rw [show r7 = k_isPart a4 from e7]
        refine lv_if_ne (tgt := 40) hx hb dX8_force_33 (by decide) (fun c8 => ?_) (fun c8 => ?_)
        · skip
          obtain ⟨v0, hv0, hve⟩ := k_isVariable_ix c2
          have qq8 : v.toNatClampNeg = v0 := (by rw [hve, nI_clamp (by omega)])
          rw [hve] at hl
          refine lv_aload_n hx hb dX8_force_40 rfl (lv_at hl 0 rfl) ?_
          refine lv_iload_n hx hb dX8_force_41 rfl (lv_at hl 1 rfl) ?_
          refine lv_iload_n hx hb dX8_force_42 rfl (lv_at hl 2 rfl) ?_
          refine lv_aload_n hx hb dX8_force_43 rfl (lv_at hl 0 rfl) ?_
          refine va_get (v := .ref (xa 13)) (ci := 8) (C := RX8) (T := TX8) (N := 11) hx hb hts hinX8 hown hK hP 43 (wX_0) rfl 8 (by decide) (hts (.fieldLink RX8 58 "LayoutSolver" "present" "LLayoutSolver$Costs;") (by decide +kernel)) (fun x h => h) rfl dX8_force_44 ?_
          refine gCallv (ws := wD cy ad S ++ wX cy ad xa P O) (As := [.int (nI v0), .int x, .ref (xa 13)]) (rest := []) (q0 := 43) (r0 := (RX8, TX8, 11)) hx hb hml hown hts hK hP hD hS hA hl.1 wX_0 rfl (cF_atP l D cy ad xa S P O _ hv0 x) (cwV 3 hts gX8_force_X8_findCostsAt rfl rfl rfl (by decide +kernel) ⟨Nat.le_of_ble_eq_true rfl, Nat.le_of_ble_eq_true rfl⟩) rfl rfl (Nat.le_of_ble_eq_true rfl) ⟨Nat.le_of_ble_eq_true rfl, Nat.le_of_ble_eq_true rfl⟩ dX8_force_47 (fun ws9 H locs e9 hP hD hS => ?_)
          obtain ⟨S9, hS9, T9, hT9, e9⟩ := e9
          rw [show ws9 = _ from e9] at hP hD
          have hP : va_P D vwCl (wD cy ad T9 ++ wX cy ad xa (kCo S9 P) O) H := hP
          have hD : va_D (va_A (wD cy ad S ++ wX cy ad xa P O) sz) (wD cy ad T9 ++ wX cy ad xa (kCo S9 P) O) := hD
          refine lv_aload_n hx hb dX8_force_50 rfl (lv_at hl 0 rfl) ?_
          refine va_get (v := .ref (xa 13)) (ci := 8) (C := RX8) (T := TX8) (N := 11) hx hb hts hinX8 hown hK hP 43 (wX_0) rfl 8 (by decide) (hts (.fieldLink RX8 58 "LayoutSolver" "present" "LLayoutSolver$Costs;") (by decide +kernel)) (fun x h => h) rfl dX8_force_51 ?_
          have hz10 : wZ (wD cy ad T9 ++ wX cy ad xa (kCo S9 P) O) 56 57 (xa 13, .inr (2, [.ref (xa 14), .long (kCo S9 P).2])) (xa 14, .inl (cy 2, 4, .inr (.inl (kCo S9 P).1))) = wD cy ad T9 ++ wX cy ad xa (kCo S9 P) O := wZ_self wX_13 wX_14
          rw [← hz10] at hP hD
          refine gCalli (ws := wZ (wD cy ad T9 ++ wX cy ad xa (kCo S9 P) O) 56 57 (xa 13, .inr (2, [.ref (xa 14), .long (kCo S9 P).2])) (xa 14, .inl (cy 2, 4, .inr (.inl (kCo S9 P).1)))) (As := []) (rest := []) (q0 := 56) (r0 := (RX2, TX2, 2)) hx hb hml hown hts hK hP hD hS hA hl.1 (wZ_i (by rw [wX_len2]; omega)) rfl (cC_isFeasible l D cy _ (by omega) (by rw [wX_len2]; omega) (by rw [wX_len2]; omega) _ _ _) (cwV 0 hts gX8_force_X2_isFeasible rfl rfl rfl (by decide +kernel) ⟨Nat.le_of_ble_eq_true rfl, Nat.le_of_ble_eq_true rfl⟩) rfl rfl (Nat.le_of_ble_eq_true rfl) ⟨Nat.le_of_ble_eq_true rfl, Nat.le_of_ble_eq_true rfl⟩ dX8_force_54 (fun r10 ws10 H locs e10 hP hD hS => ?_)
          obtain ⟨e10a, e10b⟩ := e10
          rw [show ws10 = wD cy ad T9 ++ wX cy ad xa (kCo S9 P) O from e10b.trans hz10] at hP hD
          rw [show r10 = (if ¬ lg_cmp ((kCo S9 P).1 0) 0 = 0 then nI 0 else nI 1) from e10a]
          refine lv_if_eq (tgt := 73) hx hb dX8_force_57 (by decide) (fun c11 => ?_) (fun c11 => ?_)
          · skip
            refine lv_ldc2 (v := (-1000000000000000003)) hx hb hown (hts (.constantLong RX8 267 (-1000000000000000003)) (by decide +kernel)) dX8_force_73 ?_
            exact W.lret hx hb hr (fun t ht hW => ⟨⟨_, _, rfl, by rw [if_neg c2, if_neg c4, if_neg c6, if_neg c8, qq8, ← hS9]; split <;> first | rfl | (rename_i hh; rw [if_neg hh] at c11; exact absurd c11 (by decide)) | (rename_i hh; rw [if_pos hh] at c11; exact absurd (by decide) c11), by rw [ht]; exact hP, va_K.moved hW.alike hK, hD⟩, hS.F ht⟩) hS.2.2 dX8_force_76
          · skip
            refine lv_aload_n hx hb dX8_force_60 rfl (lv_at hl 0 rfl) ?_
            refine va_get (v := .ref (xa 13)) (ci := 8) (C := RX8) (T := TX8) (N := 11) hx hb hts hinX8 hown hK hP 43 (wX_0) rfl 8 (by decide) (hts (.fieldLink RX8 58 "LayoutSolver" "present" "LLayoutSolver$Costs;") (by decide +kernel)) (fun x h => h) rfl dX8_force_61 ?_
            refine lv_iload_n hx hb dX8_force_64 rfl (lv_at hl 3 rfl) ?_
            refine lv_iload hx hb dX8_force_65 (lv_at hl 4 rfl) ?_
            refine fCalll (ws := wD cy ad T9 ++ wX cy ad xa (kCo S9 P) O) (As := [.int a3, .int a4]) (rest := []) (q0 := 56) (r0 := (RX2, TX2, 2)) hx hb hml hown hts hK hP hD hS hA hl.1 hkf (wX_13) rfl (cC_part l D cy _ _ a3 a4 wX_13 wX_14) (cwV 2 hts gX8_force_X2_part rfl rfl rfl (by decide +kernel) ⟨Nat.le_of_ble_eq_true rfl, Nat.le_of_ble_eq_true rfl⟩) rfl rfl (Nat.le_of_ble_eq_true rfl) ⟨Nat.le_of_ble_eq_true rfl, Nat.le_of_ble_eq_true rfl⟩ dX8_force_67 (fun r12 ws12 H locs e12 hP hD hS => ?_)
            obtain ⟨e12a, e12b⟩ := e12
            rw [e12b] at hP hD
            rw [show r12 = kCoP (kCo S9 P).1 (kCo S9 P).2 a3 a4 from e12a]
            refine lv_goto (tgt := 76) hx hb dX8_force_70 (by decide) ?_
            exact W.lret hx hb hr (fun t ht hW => ⟨⟨_, _, rfl, by rw [if_neg c2, if_neg c4, if_neg c6, if_neg c8, qq8, ← hS9]; split <;> first | rfl | (rename_i hh; rw [if_neg hh] at c11; exact absurd c11 (by decide)) | (rename_i hh; rw [if_pos hh] at c11; exact absurd (by decide) c11), by rw [ht]; exact hP, va_K.moved hW.alike hK, hD⟩, hS.F ht⟩) hS.2.2 dX8_force_76
        · skip
          refine lv_ldc2 (v := (-1000000000000000002)) hx hb hown (hts (.constantLong RX8 208 (-1000000000000000002)) (by decide +kernel)) dX8_force_36 ?_
          exact W.lret hx hb hr (fun t ht hW => ⟨⟨_, _, rfl, by simp [c2, c4, c6, c8], by rw [ht]; exact hP, va_K.moved hW.alike hK, hD⟩, hS.F ht⟩) hS.2.2 dX8_force_39
  · skip
    refine lv_ldc2 (v := (-1000000000000000001)) hx hb hown (hts (.constantLong RX8 225 (-1000000000000000001)) (by decide +kernel)) dX8_force_7 ?_
    exact W.lret hx hb hr (fun t ht hW => ⟨⟨_, _, rfl, by simp [c2], by rw [ht]; exact hP, va_K.moved hW.alike hK, hD⟩, hS.F ht⟩) hS.2.2 dX8_force_10
set_option maxHeartbeats 4000000 in
set_option maxRecDepth 100000 in
theorem cT_burdens (l : Launch) (D : va_G) (cy : Nat → ClassId) (ad xa : Nat → Nat) (S : DS) (P O : CS) (sz : Nat)  : Met l yX8_burdens wsX8_burdens (rm9 6 170) (gPc D cy (wD cy ad S ++ wX cy ad xa P O) sz [.ref (xa 0)]) (gQi D cy (wD cy ad S ++ wX cy ad xa P O) sz (fun r _ => r = nI 0)) 0 0 (va_A (wD cy ad S ++ wX cy ad xa P O) sz) := by
  refine gHead (cc := cX8_burdens) (maxL := 3) (ret := (some .int)) (by decide) rfl (Nat.le_of_ble_eq_true rfl) ?_
  intro p e s m below meth c ls hx hb hr hlocks hml hown hts hsz hP hK hD hS hA hl
  have hown : s.vm.findClass RX8 = some m.cls := hown
  have hinX8 : ∀ w ∈ u_ws RX8 TX8 11, w ∈ wsX8_burdens := by decide +kernel
  have hl : lv_has ls 3 [(0, .ref (xa 0))] := hl
  refine lv_aload_n hx hb dX8_burdens_0 rfl (lv_at hl 0 rfl) ?_
  refine lv_aload_n hx hb dX8_burdens_1 rfl (lv_at hl 0 rfl) ?_
  refine va_get (v := .ref (xa 13)) (ci := 8) (C := RX8) (T := TX8) (N := 11) hx hb hts hinX8 hown hK hP 43 (wX_0) rfl 8 (by decide) (hts (.fieldLink RX8 58 "LayoutSolver" "present" "LLayoutSolver$Costs;") (by decide +kernel)) (fun x h => h) rfl dX8_burdens_2 ?_
  refine gCallv (ws := wD cy ad S ++ wX cy ad xa P O) (As := [.ref (xa 13)]) (rest := []) (q0 := 43) (r0 := (RX8, TX8, 11)) hx hb hml hown hts hK hP hD hS hA hl.1 wX_0 rfl (cF_findP l D cy ad xa S P O _) (cwV 1 hts gX8_burdens_X8_findCosts rfl rfl rfl (by decide +kernel) ⟨Nat.le_of_ble_eq_true rfl, Nat.le_of_ble_eq_true rfl⟩) rfl rfl (Nat.le_of_ble_eq_true rfl) ⟨Nat.le_of_ble_eq_true rfl, Nat.le_of_ble_eq_true rfl⟩ dX8_burdens_5 (fun ws9 H locs e1 hP hD hS => ?_)
  obtain ⟨S1, hS1, e1⟩ := e1
  rw [show ws9 = _ from e1] at hP hD
  have hP : va_P D vwCl (wD cy ad S1 ++ wX cy ad xa (kCo S1 P) O) H := hP
  have hD : va_D (va_A (wD cy ad S ++ wX cy ad xa P O) sz) (wD cy ad S1 ++ wX cy ad xa (kCo S1 P) O) := hD
  refine lv_iconst (v := nI 0) hx hb dX8_burdens_8 (by decide) ?_
  refine lv_istore_n (lv' := [(1, .int (nI 0)), (0, .ref (xa 0))]) hx hb dX8_burdens_9 rfl hl (by decide) rfl (fun ls hl => ?_)
  refine lv_iconst (v := nI 0) hx hb dX8_burdens_10 (by decide) ?_
  refine lv_istore_n (lv' := [(2, .int (nI 0)), (1, .int (nI 0)), (0, .ref (xa 0))]) hx hb dX8_burdens_11 rfl hl (by decide) rfl (fun ls hl => ?_)
  have L12 : ∀ (n k : Nat) (q : Int32) (H : Heap) (locs : List Loc) (ls : Array Slot), k + n = 14 → va_P D vwCl (wD cy ad S1 ++ wX cy ad xa (kCo S1 P) O) H → va_D (va_A (wD cy ad S ++ wX cy ad xa P O) sz) (wD cy ad S1 ++ wX cy ad xa (kCo S1 P) O) → va_S (va_A (wD cy ad S ++ wX cy ad xa P O) sz) s.heap H locs → lv_has ls 3 [(2, .int (nI k)), (0, .ref (xa 0)), (1, .int q)] → (∀ (H : Heap) (locs : List Loc) (ls : Array Slot), va_P D vwCl (wD cy ad S1 ++ wX cy ad xa (kCo S1 P) O) H → va_D (va_A (wD cy ad S ++ wX cy ad xa P O) sz) (wD cy ad S1 ++ wX cy ad xa (kCo S1 P) O) → va_S (va_A (wD cy ad S ++ wX cy ad xa P O) sz) s.heap H locs → lv_has ls 3 [(2, .int (nI 14)), (0, .ref (xa 0)), (1, .int (lpN (fIdI) n k q))] → W p l e (headSpec wsX8_burdens (rm9 6 170)).room s m ([.ref (xa 0)] : List Value).toArray below meth c H locs 0 0 (MQ below (gQi D cy (wD cy ad S ++ wX cy ad xa P O) sz (fun r _ => r = nI 0)) ([.ref (xa 0)] : List Value).toArray s 0 0 (va_A (wD cy ad S ++ wX cy ad xa P O) sz)) (F0 m 87 ls [])) → W p l e (headSpec wsX8_burdens (rm9 6 170)).room s m ([.ref (xa 0)] : List Value).toArray below meth c H locs 0 0 (MQ below (gQi D cy (wD cy ad S ++ wX cy ad xa P O) sz (fun r _ => r = nI 0)) ([.ref (xa 0)] : List Value).toArray s 0 0 (va_A (wD cy ad S ++ wX cy ad xa P O) sz)) (F0 m 12 ls []) := by
    intro n
    induction n with
    | zero =>
      intro k q H locs ls hk hP hD hS hl hex
      obtain rfl : 14 = k := by omega
      refine lv_iload_n hx hb dX8_burdens_12 rfl (lv_at hl 0 rfl) ?_
      refine lv_bipush (v := nI 14) hx hb dX8_burdens_13 (by decide) ?_
      refine lv_icmp_ge (tgt := 87) hx hb dX8_burdens_15 (by decide) (fun c2 => ?_) (fun c2 => ?_)
      · rw [nI_leI (by omega) (by omega)] at c2
        exact hex _ _ _ hP hD hS (lv_sub hl [0, 1, 2] rfl)
      · exact absurd c2 (by rw [nI_leI (by omega) (by omega)]; omega)
    | succ n ih =>
      intro k q H locs ls hk hP hD hS hl hex
      have hk12 : k < 14 := by omega
      refine lv_iload_n hx hb dX8_burdens_12 rfl (lv_at hl 0 rfl) ?_
      refine lv_bipush (v := nI 14) hx hb dX8_burdens_13 (by decide) ?_
      refine lv_icmp_ge (tgt := 87) hx hb dX8_burdens_15 (by decide) (fun c3 => ?_) (fun c3 => ?_)
      · exact absurd c3 (by rw [nI_leI (by omega) (by omega)]; omega)
      · rw [nI_leI (by omega) (by omega)] at c3
        refine lv_aload_n hx hb dX8_burdens_18 rfl (lv_at hl 1 rfl) ?_
        refine va_get (v := .ref (xa 8)) (ci := 8) (C := RX8) (T := TX8) (N := 11) hx hb hts hinX8 hown hK hP 43 (wX_0) rfl 4 (by decide) (hts (.fieldLink RX8 33 "LayoutSolver" "layout" "LLayoutSolver$Layout;") (by decide +kernel)) (fun x h => h) rfl dX8_burdens_19 ?_
        refine lv_iload_n hx hb dX8_burdens_22 rfl (lv_at hl 0 rfl) ?_
        refine gCallq (ws := wD cy ad S1 ++ wX cy ad xa (kCo S1 P) O) (As := [.int (nI k)]) (rest := []) (q0 := 51) (r0 := (RX5, TX5, 1)) hx hb hml hown hts hK hP hD hS hA hl.1 (wX_8) rfl (cY_at l D cy _ _ (nI k) wX_8 wX_9) (cwV 1 hts gX8_burdens_X5_at rfl rfl rfl (by decide +kernel) ⟨Nat.le_of_ble_eq_true rfl, Nat.le_of_ble_eq_true rfl⟩) rfl rfl (Nat.le_of_ble_eq_true rfl) ⟨Nat.le_of_ble_eq_true rfl, Nat.le_of_ble_eq_true rfl⟩ dX8_burdens_23 (fun r4 ws4 H locs e4 hP hD hS => ?_)
        obtain ⟨e4a, e4b⟩ := e4
        rw [e4b] at hP hD
        rw [show r4 = none from e4a.trans kAtL_none] 
        refine W.eq (g2 := F0 m 26 ls [.null]) rfl ?_
        refine lv_ifnullN (tgt := 81) hx hb dX8_burdens_26 (by decide) ?_
        refine lv_iinc (v := nI (k + 1)) (lv' := [(2, .int (nI (k + 1))), (0, .ref (xa 0)), (1, .int q)]) hx hb dX8_burdens_81 hl (k := 0) rfl (nI_1 _) (by decide) rfl (fun ls hl => ?_)
        refine lv_goto (tgt := 12) hx hb dX8_burdens_84 (by decide) ?_
        have he : (fIdI) k q = q := rfl
        rw [lpN_s (f := fIdI), he] at hex
        exact ih ((k + 1)) q _ _ _ (by omega) hP hD hS (lv_sub hl [0, 1, 2] rfl) hex
  refine L12 14 0 (nI 0) _ _ _ (by omega) hP hD hS (lv_sub hl [0, 2, 1] rfl) (fun H locs ls hP hD hS hl => ?_)
  refine lv_iload_n hx hb dX8_burdens_87 rfl (lv_at hl 2 rfl) ?_
  exact W.iret hx hb hr (fun t ht hW => ⟨⟨_, _, rfl, fIdI_n, by rw [ht]; exact hP, va_K.moved hW.alike hK, hD⟩, hS.F ht⟩) hS.2.2 dX8_burdens_88
