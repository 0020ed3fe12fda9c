/-! p1: small methods of the class -/
def fIdI (_ : Nat) (q : Int32) : Int32 := q
def fIdU (_ : Nat) (q : Unit) : Unit := q
def fBegR (k : Nat) (f : Nat → Int32) : Nat → Int32 := upd f k (nI 0)
theorem fIdI_n {n k : Nat} {a : Int32} : lpN fIdI n k a = a := by
  induction n generalizing k with
  | zero => rfl
  | succ n ih => exact ih
def kAtL (f : Nat → Option Nat) (x : Int32) : Option Nat := if x < 0 then none else if x < nI 14 then f x.toNatClampNeg else none
set_option maxHeartbeats 4000000 in
set_option maxRecDepth 100000 in
theorem cY_at (l : Launch) (D : va_G) (cy : Nat → ClassId) (ws : va_W) (sz : Nat) {i j a b : Nat} {f : Nat → Option Nat} (x : Int32) (hi : ws[i]? = some (a, .inr (5, [.ref b]))) (hj : ws[j]? = some (b, .inl (cy 5, 14, .inr (.inr (.inr (.inr f)))))) : Met l yX5_at wsX5_at (rm9 0 0) (gPc D cy ws sz [.ref a, .int x]) (gQq D cy ws sz (fun r ws' => r = kAtL f x ∧ ws' = ws)) 0 0 (va_A ws sz) := by
  refine gHead (cc := cX5_at) (maxL := 2) (ret := (some (.object "LayoutSolver$Constraint"))) (by decide) rfl (Nat.le_of_ble_eq_true rfl) ?_
  intro p e s m below meth c ls hx hb hr hlocks hml hown hts hsz hP hK hD hS hA hl
  have hinX5 : ∀ w ∈ u_ws RX5 TX5 1, w ∈ wsX5_at := by decide +kernel
  have hown : s.vm.findClass RX5 = some m.cls := hown
  have hl : lv_has ls 2 [(0, .ref a), (1, .int x)] := hl
  refine lv_iload_n hx hb dX5_at_0 rfl (lv_at hl 1 rfl) ?_
  refine lv_if_lt (tgt := 10) hx hb dX5_at_1 (by decide) (fun c1 => ?_) (fun c1 => ?_)
  · skip
    refine lv_null hx hb dX5_at_10 ?_
    refine lv_goto (tgt := 20) hx hb dX5_at_11 (by decide) ?_
    exact W.aret (v := va_rf none) hx hb hr (Or.inl ⟨_, rfl⟩) (va_rf_or none) (fun t ht hW => ⟨⟨none, _, rfl, ⟨by simp [kAtL, c1], rfl⟩, by rw [ht]; exact hP, va_K.moved hW.alike hK, hD⟩, hS.F ht⟩) hS.2.2 dX5_at_20
  · skip
    refine lv_iload_n hx hb dX5_at_4 rfl (lv_at hl 1 rfl) ?_
    refine lv_bipush (v := nI 14) hx hb dX5_at_5 (by decide) ?_
    refine lv_icmp_lt (tgt := 14) hx hb dX5_at_7 (by decide) (fun c2 => ?_) (fun c2 => ?_)
    · skip
      obtain ⟨i0, hi0, hie⟩ := ixN 14 c1 c2 (by omega)
      have qq8 : x.toNatClampNeg = i0 := (by rw [hie, nI_clamp (by omega)])
      rw [hie] at hl
      refine lv_aload_n hx hb dX5_at_14 rfl (lv_at hl 0 rfl) ?_
      refine va_get (v := .ref b) (ci := 5) (C := RX5) (T := TX5) (N := 1) hx hb hts hinX5 hown hK hP _ (hi) rfl 0 (by decide) (hts (.fieldLink RX5 11 "LayoutSolver$Layout" "places" "[LLayoutSolver$Constraint;") (by decide +kernel)) (fun x h => h) rfl dX5_at_15 ?_
      refine lv_iload_n hx hb dX5_at_18 rfl (lv_at hl 1 rfl) ?_
      refine va_aldq (i := nI i0) hx hb hK hP _ 5 (hj) rfl (vp_in_nI (by omega) (by decide)) dX5_at_19 ?_
      rw [nI_clamp (show i0 < 2 ^ 31 by omega)]
      rcases hy3 : f i0 with _ | y3
      · refine W.eq (g2 := F0 m 20 ls [.null]) rfl ?_
        exact W.aret (v := va_rf none) hx hb hr (Or.inl ⟨_, rfl⟩) (va_rf_or none) (fun t ht hW => ⟨⟨none, _, rfl, ⟨by rw [kAtL, if_neg c1, if_pos c2, qq8, hy3], rfl⟩, by rw [ht]; exact hP, va_K.moved hW.alike hK, hD⟩, hS.F ht⟩) hS.2.2 dX5_at_20
      · refine W.eq (g2 := F0 m 20 ls [.ref y3]) rfl ?_
        exact W.aret (v := va_rf (some y3)) hx hb hr (Or.inl ⟨_, rfl⟩) (va_rf_or (some y3)) (fun t ht hW => ⟨⟨(some y3), _, rfl, ⟨by rw [kAtL, if_neg c1, if_pos c2, qq8, hy3], rfl⟩, by rw [ht]; exact hP, va_K.moved hW.alike hK, hD⟩, hS.F ht⟩) hS.2.2 dX5_at_20
    · skip
      refine lv_null hx hb dX5_at_10 ?_
      refine lv_goto (tgt := 20) hx hb dX5_at_11 (by decide) ?_
      exact W.aret (v := va_rf none) hx hb hr (Or.inl ⟨_, rfl⟩) (va_rf_or none) (fun t ht hW => ⟨⟨none, _, rfl, ⟨by simp [kAtL, c1, c2], rfl⟩, by rw [ht]; exact hP, va_K.moved hW.alike hK, hD⟩, hS.F ht⟩) hS.2.2 dX5_at_20
set_option maxHeartbeats 4000000 in
set_option maxRecDepth 100000 in
theorem cH_back0 (l : Launch) (D : va_G) (cy : Nat → ClassId) (ws : va_W) (sz : Nat) {i a b : Nat} (hi : ws[i]? = some (a, .inr (4, [.ref b, .int (nI 0), .int (nI 0)]))) : Met l yX4_back wsX4_back (rm9 0 0) (gPc D cy ws sz [.ref a]) (gQq D cy ws sz (fun r ws' => r = none ∧ ws' = ws)) 0 0 (va_A ws sz) := by
  refine gHead (cc := cX4_back) (maxL := 1) (ret := (some (.object "LayoutSolver$Change"))) (by decide) rfl (Nat.le_of_ble_eq_true rfl) ?_
  intro p e s m below meth c ls hx hb hr hlocks hml hown hts hsz hP hK hD hS hA hl
  have hinX4 : ∀ w ∈ u_ws RX4 TX4 3, w ∈ wsX4_back := by decide +kernel
  have hown : s.vm.findClass RX4 = some m.cls := hown
  have hl : lv_has ls 1 [(0, .ref a)] := hl
  refine lv_aload_n hx hb dX4_back_0 rfl (lv_at hl 0 rfl) ?_
  refine va_get (v := .int (nI 0)) (ci := 4) (C := RX4) (T := TX4) (N := 3) hx hb hts hinX4 hown hK hP _ (hi) rfl 1 (by decide) (hts (.fieldLink RX4 17 "LayoutSolver$History" "done" "I") (by decide +kernel)) (fun x h => h) rfl dX4_back_1 ?_
  refine lv_if_le (tgt := 16) hx hb dX4_back_4 (by decide) (fun c1 => ?_) (fun c1 => ?_)
  · skip
    refine lv_null hx hb dX4_back_16 ?_
    exact W.aret (v := va_rf none) hx hb hr (Or.inl ⟨_, rfl⟩) (va_rf_or none) (fun t ht hW => ⟨⟨none, _, rfl, ⟨rfl, rfl⟩, by rw [ht]; exact hP, va_K.moved hW.alike hK, hD⟩, hS.F ht⟩) hS.2.2 dX4_back_17
  · exact absurd c1 (by decide)
set_option maxHeartbeats 4000000 in
set_option maxRecDepth 100000 in
theorem cH_forth0 (l : Launch) (D : va_G) (cy : Nat → ClassId) (ws : va_W) (sz : Nat) {i a b : Nat} (hi : ws[i]? = some (a, .inr (4, [.ref b, .int (nI 0), .int (nI 0)]))) : Met l yX4_forth wsX4_forth (rm9 0 0) (gPc D cy ws sz [.ref a]) (gQq D cy ws sz (fun r ws' => r = none ∧ ws' = ws)) 0 0 (va_A ws sz) := by
  refine gHead (cc := cX4_forth) (maxL := 2) (ret := (some (.object "LayoutSolver$Change"))) (by decide) rfl (Nat.le_of_ble_eq_true rfl) ?_
  intro p e s m below meth c ls hx hb hr hlocks hml hown hts hsz hP hK hD hS hA hl
  have hinX4 : ∀ w ∈ u_ws RX4 TX4 3, w ∈ wsX4_forth := by decide +kernel
  have hown : s.vm.findClass RX4 = some m.cls := hown
  have hl : lv_has ls 2 [(0, .ref a)] := hl
  refine lv_aload_n hx hb dX4_forth_0 rfl (lv_at hl 0 rfl) ?_
  refine va_get (v := .int (nI 0)) (ci := 4) (C := RX4) (T := TX4) (N := 3) hx hb hts hinX4 hown hK hP _ (hi) rfl 2 (by decide) (hts (.fieldLink RX4 21 "LayoutSolver$History" "undone" "I") (by decide +kernel)) (fun x h => h) rfl dX4_forth_1 ?_
  refine lv_if_le (tgt := 23) hx hb dX4_forth_4 (by decide) (fun c1 => ?_) (fun c1 => ?_)
  · skip
    refine lv_null hx hb dX4_forth_23 ?_
    exact W.aret (v := va_rf none) hx hb hr (Or.inl ⟨_, rfl⟩) (va_rf_or none) (fun t ht hW => ⟨⟨none, _, rfl, ⟨rfl, rfl⟩, by rw [ht]; exact hP, va_K.moved hW.alike hK, hD⟩, hS.F ht⟩) hS.2.2 dX4_forth_24
  · exact absurd c1 (by decide)
set_option maxHeartbeats 4000000 in
set_option maxRecDepth 100000 in
theorem cH_done0 (l : Launch) (D : va_G) (cy : Nat → ClassId) (ws : va_W) (sz : Nat) {i a b : Nat} (hi : ws[i]? = some (a, .inr (4, [.ref b, .int (nI 0), .int (nI 0)]))) : Met l yX4_done wsX4_done (rm9 0 0) (gPc D cy ws sz [.ref a]) (gQi D cy ws sz (fun r ws' => r = nI 0 ∧ ws' = ws)) 0 0 (va_A ws sz) := by
  refine gHead (cc := cX4_done) (maxL := 1) (ret := (some .int)) (by decide) rfl (Nat.le_of_ble_eq_true rfl) ?_
  intro p e s m below meth c ls hx hb hr hlocks hml hown hts hsz hP hK hD hS hA hl
  have hinX4 : ∀ w ∈ u_ws RX4 TX4 3, w ∈ wsX4_done := by decide +kernel
  have hown : s.vm.findClass RX4 = some m.cls := hown
  have hl : lv_has ls 1 [(0, .ref a)] := hl
  refine lv_aload_n hx hb dX4_done_0 rfl (lv_at hl 0 rfl) ?_
  refine va_get (v := .int (nI 0)) (ci := 4) (C := RX4) (T := TX4) (N := 3) hx hb hts hinX4 hown hK hP _ (hi) rfl 1 (by decide) (hts (.fieldLink RX4 17 "LayoutSolver$History" "done" "I") (by decide +kernel)) (fun x h => h) rfl dX4_done_1 ?_
  exact W.iret hx hb hr (fun t ht hW => ⟨⟨_, _, rfl, ⟨rfl, rfl⟩, by rw [ht]; exact hP, va_K.moved hW.alike hK, hD⟩, hS.F ht⟩) hS.2.2 dX4_done_4
set_option maxHeartbeats 4000000 in
set_option maxRecDepth 100000 in
theorem cH_undone0 (l : Launch) (D : va_G) (cy : Nat → ClassId) (ws : va_W) (sz : Nat) {i a b : Nat} (hi : ws[i]? = some (a, .inr (4, [.ref b, .int (nI 0), .int (nI 0)]))) : Met l yX4_undone wsX4_undone (rm9 0 0) (gPc D cy ws sz [.ref a]) (gQi D cy ws sz (fun r ws' => r = nI 0 ∧ ws' = ws)) 0 0 (va_A ws sz) := by
  refine gHead (cc := cX4_undone) (maxL := 1) (ret := (some .int)) (by decide) rfl (Nat.le_of_ble_eq_true rfl) ?_
  intro p e s m below meth c ls hx hb hr hlocks hml hown hts hsz hP hK hD hS hA hl
  have hinX4 : ∀ w ∈ u_ws RX4 TX4 3, w ∈ wsX4_undone := by decide +kernel
  have hown : s.vm.findClass RX4 = some m.cls := hown
  have hl : lv_has ls 1 [(0, .ref a)] := hl
  refine lv_aload_n hx hb dX4_undone_0 rfl (lv_at hl 0 rfl) ?_
  refine va_get (v := .int (nI 0)) (ci := 4) (C := RX4) (T := TX4) (N := 3) hx hb hts hinX4 hown hK hP _ (hi) rfl 2 (by decide) (hts (.fieldLink RX4 21 "LayoutSolver$History" "undone" "I") (by decide +kernel)) (fun x h => h) rfl dX4_undone_1 ?_
  exact W.iret hx hb hr (fun t ht hW => ⟨⟨_, _, rfl, ⟨rfl, rfl⟩, by rw [ht]; exact hP, va_K.moved hW.alike hK, hD⟩, hS.F ht⟩) hS.2.2 dX4_undone_4
set_option maxHeartbeats 4000000 in
set_option maxRecDepth 100000 in
theorem cJ_bits0 (l : Launch) (sz : Nat)  : Met l yJ6_bitCount_0f7a4 wsJ6_bitCount_0f7a4 (rm9 0 0) (pPc sz [.int (nI 0)]) (pQi sz (fun r => r = nI 0)) 0 0 (fun q => sz ≤ q) := by
  refine pHead (cc := cJ6_bitCount_0f7a4) (maxL := 1) (ret := (some .int)) (by decide) rfl (Nat.le_of_ble_eq_true rfl) ?_
  intro p e s m below meth c ls hx hb hr hlocks hml hown hts hsz hS hl
  have hown : s.vm.findClass RJ6 = some m.cls := hown
  have hl : lv_has ls 1 [(0, .int (nI 0))] := hl
  refine lv_iload_n hx hb dJ6_bitCount_0f7a4_0 rfl (lv_at hl 0 rfl) ?_
  refine lv_iload_n hx hb dJ6_bitCount_0f7a4_1 rfl (lv_at hl 0 rfl) ?_
  refine lv_iconst (v := nI 1) hx hb dJ6_bitCount_0f7a4_2 (by decide) ?_
  refine lv_iushr (v := ((nI 0).toUInt32 >>> ((nI 1).toUInt32 &&& Int32.toUInt32 31)).toInt32) hx hb dJ6_bitCount_0f7a4_3 rfl ?_
  rw [show ((nI 0).toUInt32 >>> ((nI 1).toUInt32 &&& Int32.toUInt32 31)).toInt32 = nI 0 from by decide]
  refine lv_ldcw (v := nI 1431655765) hx hb hown (hts (.constant RJ6 265 (1431655765)) (by decide +kernel)) dJ6_bitCount_0f7a4_4 ?_
  refine lv_iand hx hb dJ6_bitCount_0f7a4_7 ?_
  rw [show (nI 0) &&& (nI 1431655765) = nI 0 from by decide]
  refine lv_isub hx hb dJ6_bitCount_0f7a4_8 ?_
  rw [show (nI 0) - (nI 0) = nI 0 from by decide]
  refine lv_istore_n (lv' := [(0, .int (nI 0))]) hx hb dJ6_bitCount_0f7a4_9 rfl hl (by decide) rfl (fun ls hl => ?_)
  refine lv_iload_n hx hb dJ6_bitCount_0f7a4_10 rfl (lv_at hl 0 rfl) ?_
  refine lv_ldcw (v := nI 858993459) hx hb hown (hts (.constant RJ6 266 (858993459)) (by decide +kernel)) dJ6_bitCount_0f7a4_11 ?_
  refine lv_iand hx hb dJ6_bitCount_0f7a4_14 ?_
  rw [show (nI 0) &&& (nI 858993459) = nI 0 from by decide]
  refine lv_iload_n hx hb dJ6_bitCount_0f7a4_15 rfl (lv_at hl 0 rfl) ?_
  refine lv_iconst (v := nI 2) hx hb dJ6_bitCount_0f7a4_16 (by decide) ?_
  refine lv_iushr (v := ((nI 0).toUInt32 >>> ((nI 2).toUInt32 &&& Int32.toUInt32 31)).toInt32) hx hb dJ6_bitCount_0f7a4_17 rfl ?_
  rw [show ((nI 0).toUInt32 >>> ((nI 2).toUInt32 &&& Int32.toUInt32 31)).toInt32 = nI 0 from by decide]
  refine lv_ldcw (v := nI 858993459) hx hb hown (hts (.constant RJ6 266 (858993459)) (by decide +kernel)) dJ6_bitCount_0f7a4_18 ?_
  refine lv_iand hx hb dJ6_bitCount_0f7a4_21 ?_
  rw [show (nI 0) &&& (nI 858993459) = nI 0 from by decide]
  refine lv_iadd hx hb dJ6_bitCount_0f7a4_22 ?_
  rw [nI_add]
  rw [show nI (0 + 0) = nI 0 from by decide]
  refine lv_istore_n (lv' := [(0, .int (nI 0))]) hx hb dJ6_bitCount_0f7a4_23 rfl hl (by decide) rfl (fun ls hl => ?_)
  refine lv_iload_n hx hb dJ6_bitCount_0f7a4_24 rfl (lv_at hl 0 rfl) ?_
  refine lv_iload_n hx hb dJ6_bitCount_0f7a4_25 rfl (lv_at hl 0 rfl) ?_
  refine lv_iconst (v := nI 4) hx hb dJ6_bitCount_0f7a4_26 (by decide) ?_
  refine lv_iushr (v := ((nI 0).toUInt32 >>> ((nI 4).toUInt32 &&& Int32.toUInt32 31)).toInt32) hx hb dJ6_bitCount_0f7a4_27 rfl ?_
  rw [show ((nI 0).toUInt32 >>> ((nI 4).toUInt32 &&& Int32.toUInt32 31)).toInt32 = nI 0 from by decide]
  refine lv_iadd hx hb dJ6_bitCount_0f7a4_28 ?_
  rw [nI_add]
  rw [show nI (0 + 0) = nI 0 from by decide]
  refine lv_ldcw (v := nI 252645135) hx hb hown (hts (.constant RJ6 267 (252645135)) (by decide +kernel)) dJ6_bitCount_0f7a4_29 ?_
  refine lv_iand hx hb dJ6_bitCount_0f7a4_32 ?_
  rw [show (nI 0) &&& (nI 252645135) = nI 0 from by decide]
  refine lv_istore_n (lv' := [(0, .int (nI 0))]) hx hb dJ6_bitCount_0f7a4_33 rfl hl (by decide) rfl (fun ls hl => ?_)
  refine lv_iload_n hx hb dJ6_bitCount_0f7a4_34 rfl (lv_at hl 0 rfl) ?_
  refine lv_iload_n hx hb dJ6_bitCount_0f7a4_35 rfl (lv_at hl 0 rfl) ?_
  refine lv_bipush (v := nI 8) hx hb dJ6_bitCount_0f7a4_36 (by decide) ?_
  refine lv_iushr (v := ((nI 0).toUInt32 >>> ((nI 8).toUInt32 &&& Int32.toUInt32 31)).toInt32) hx hb dJ6_bitCount_0f7a4_38 rfl ?_
  rw [show ((nI 0).toUInt32 >>> ((nI 8).toUInt32 &&& Int32.toUInt32 31)).toInt32 = nI 0 from by decide]
  refine lv_iadd hx hb dJ6_bitCount_0f7a4_39 ?_
  rw [nI_add]
  rw [show nI (0 + 0) = nI 0 from by decide]
  refine lv_istore_n (lv' := [(0, .int (nI 0))]) hx hb dJ6_bitCount_0f7a4_40 rfl hl (by decide) rfl (fun ls hl => ?_)
  refine lv_iload_n hx hb dJ6_bitCount_0f7a4_41 rfl (lv_at hl 0 rfl) ?_
  refine lv_iload_n hx hb dJ6_bitCount_0f7a4_42 rfl (lv_at hl 0 rfl) ?_
  refine lv_bipush (v := nI 16) hx hb dJ6_bitCount_0f7a4_43 (by decide) ?_
  refine lv_iushr (v := ((nI 0).toUInt32 >>> ((nI 16).toUInt32 &&& Int32.toUInt32 31)).toInt32) hx hb dJ6_bitCount_0f7a4_45 rfl ?_
  rw [show ((nI 0).toUInt32 >>> ((nI 16).toUInt32 &&& Int32.toUInt32 31)).toInt32 = nI 0 from by decide]
  refine lv_iadd hx hb dJ6_bitCount_0f7a4_46 ?_
  rw [nI_add]
  rw [show nI (0 + 0) = nI 0 from by decide]
  refine lv_istore_n (lv' := [(0, .int (nI 0))]) hx hb dJ6_bitCount_0f7a4_47 rfl hl (by decide) rfl (fun ls hl => ?_)
  refine lv_iload_n hx hb dJ6_bitCount_0f7a4_48 rfl (lv_at hl 0 rfl) ?_
  refine lv_bipush (v := nI 63) hx hb dJ6_bitCount_0f7a4_49 (by decide) ?_
  refine lv_iand hx hb dJ6_bitCount_0f7a4_51 ?_
  rw [show (nI 0) &&& (nI 63) = nI 0 from by decide]
  exact W.iret hx hb hr (fun t ht hW => ⟨⟨_, (), rfl, rfl, trivial⟩, hS.F ht⟩) hS.2.2 dJ6_bitCount_0f7a4_52
set_option maxHeartbeats 4000000 in
set_option maxRecDepth 100000 in
theorem cY_size0 (l : Launch) (D : va_G) (cy : Nat → ClassId) (ws : va_W) (sz : Nat) {i j a b : Nat} {f : Nat → Option Nat} (hf0 : kMask f = nI 0) (hi : ws[i]? = some (a, .inr (5, [.ref b]))) (hj : ws[j]? = some (b, .inl (cy 5, 14, .inr (.inr (.inr (.inr f)))))) : Met l yX5_size wsX5_size (rm9 1 23) (gPc D cy ws sz [.ref a]) (gQi D cy ws sz (fun r ws' => r = nI 0 ∧ ws' = ws)) 0 0 (va_A ws sz) := by
  refine gHead (cc := cX5_size) (maxL := 1) (ret := (some .int)) (by decide) rfl (Nat.le_of_ble_eq_true rfl) ?_
  intro p e s m below meth c ls hx hb hr hlocks hml hown hts hsz hP hK hD hS hA hl
  have hinX5 : ∀ w ∈ u_ws RX5 TX5 1, w ∈ wsX5_size := by decide +kernel
  have hown : s.vm.findClass RX5 = some m.cls := hown
  have hl : lv_has ls 1 [(0, .ref a)] := hl
  refine lv_aload_n hx hb dX5_size_0 rfl (lv_at hl 0 rfl) ?_
  refine gCalli (ws := ws) (As := []) (rest := []) (q0 := i) (r0 := (RX5, TX5, 1)) hx hb hml hown hts hK hP hD hS hA hl.1 (hi) rfl (cY_mask l D cy _ _ hi hj) (cwV 0 hts gX5_size_X5_mask rfl rfl rfl (by decide +kernel) ⟨Nat.le_of_ble_eq_true rfl, Nat.le_of_ble_eq_true rfl⟩) rfl rfl (Nat.le_of_ble_eq_true rfl) ⟨Nat.le_of_ble_eq_true rfl, Nat.le_of_ble_eq_true rfl⟩ dX5_size_1 (fun r1 ws9 H locs e1 hP hD hS => ?_)
  obtain ⟨e1a, e1b⟩ := e1
  rw [e1a]
  rw [e1b] at hP hD
  rw [hf0]
  refine pCalli (As := [.int (nI 0)]) (rest := []) hx hb hml hown hts hP hS hA hl.1 (cJ_bits0 l _ ) (va_cwS 1 hts gX5_size_J6_bitCount_0f7a4 rfl rfl rfl (by decide +kernel) ⟨Nat.le_of_ble_eq_true rfl, Nat.le_of_ble_eq_true rfl⟩) rfl rfl (Nat.le_of_ble_eq_true rfl) ⟨Nat.le_of_ble_eq_true rfl, Nat.le_of_ble_eq_true rfl⟩ dX5_size_4 (fun r2 H locs e2 hP hS => ?_)
  rw [show r2 = nI 0 from e2]
  exact W.iret hx hb hr (fun t ht hW => ⟨⟨_, _, rfl, ⟨rfl, rfl⟩, by rw [ht]; exact hP, va_K.moved hW.alike hK, hD⟩, hS.F ht⟩) hS.2.2 dX5_size_7
set_option maxHeartbeats 4000000 in
set_option maxRecDepth 100000 in
theorem cY_req0 (l : Launch) (D : va_G) (cy : Nat → ClassId) (ws : va_W) (sz : Nat) {i j a b : Nat} {f : Nat → Option Nat} (hf0 : ∀ k : Nat, f k = none) (hi : ws[i]? = some (a, .inr (5, [.ref b]))) (hj : ws[j]? = some (b, .inl (cy 5, 14, .inr (.inr (.inr (.inr f)))))) : Met l yX5_requiredOnes wsX5_requiredOnes (rm9 0 0) (gPc D cy ws sz [.ref a]) (gQi D cy ws sz (fun r ws' => r = nI 0 ∧ ws' = ws)) 0 0 (va_A ws sz) := by
  refine gHead (cc := cX5_requiredOnes) (maxL := 4) (ret := (some .int)) (by decide) rfl (Nat.le_of_ble_eq_true rfl) ?_
  intro p e s m below meth c ls hx hb hr hlocks hml hown hts hsz hP hK hD hS hA hl
  have hinX5 : ∀ w ∈ u_ws RX5 TX5 1, w ∈ wsX5_requiredOnes := by decide +kernel
  have hown : s.vm.findClass RX5 = some m.cls := hown
  have hl : lv_has ls 4 [(0, .ref a)] := hl
  refine lv_iconst (v := nI 0) hx hb dX5_requiredOnes_0 (by decide) ?_
  refine lv_istore_n (lv' := [(1, .int (nI 0)), (0, .ref a)]) hx hb dX5_requiredOnes_1 rfl hl (by decide) rfl (fun ls hl => ?_)
  refine lv_iconst (v := nI 0) hx hb dX5_requiredOnes_2 (by decide) ?_
  refine lv_istore_n (lv' := [(2, .int (nI 0)), (1, .int (nI 0)), (0, .ref a)]) hx hb dX5_requiredOnes_3 rfl hl (by decide) rfl (fun ls hl => ?_)
  have L4 : ∀ (n k : Nat) (q : Int32) (H : Heap) (locs : List Loc) (ls : Array Slot), k + n = 14 → va_P D vwCl (ws) H → va_D (va_A ws sz) (ws) → va_S (va_A ws sz) s.heap H locs → lv_has ls 4 [(2, .int (nI k)), (0, .ref a), (1, .int q)] → (∀ (H : Heap) (locs : List Loc) (ls : Array Slot), va_P D vwCl (ws) H → va_D (va_A ws sz) (ws) → va_S (va_A ws sz) s.heap H locs → lv_has ls 4 [(2, .int (nI 14)), (0, .ref a), (1, .int (lpN (fIdI) n k q))] → W p l e (headSpec wsX5_requiredOnes (rm9 0 0)).room s m ([.ref a] : List Value).toArray below meth c H locs 0 0 (MQ below (gQi D cy ws sz (fun r ws' => r = nI 0 ∧ ws' = ws)) ([.ref a] : List Value).toArray s 0 0 (va_A ws sz)) (F0 m 37 ls [])) → W p l e (headSpec wsX5_requiredOnes (rm9 0 0)).room s m ([.ref a] : List Value).toArray below meth c H locs 0 0 (MQ below (gQi D cy ws sz (fun r ws' => r = nI 0 ∧ ws' = ws)) ([.ref a] : List Value).toArray s 0 0 (va_A ws sz)) (F0 m 4 ls []) := by
    intro n
    induction n with
    | zero =>
      intro k q H locs ls hk hP hD hS hl hex
      obtain rfl : 14 = k := by omega
      refine lv_iload_n hx hb dX5_requiredOnes_4 rfl (lv_at hl 0 rfl) ?_
      refine lv_bipush (v := nI 14) hx hb dX5_requiredOnes_5 (by decide) ?_
      refine lv_icmp_ge (tgt := 37) hx hb dX5_requiredOnes_7 (by decide) (fun c1 => ?_) (fun c1 => ?_)
      · rw [nI_leI (by omega) (by omega)] at c1
        exact hex _ _ _ hP hD hS (lv_sub hl [0, 1, 2] rfl)
      · exact absurd c1 (by rw [nI_leI (by omega) (by omega)]; omega)
    | succ n ih =>
      intro k q H locs ls hk hP hD hS hl hex
      have hk4 : k < 14 := by omega
      refine lv_iload_n hx hb dX5_requiredOnes_4 rfl (lv_at hl 0 rfl) ?_
      refine lv_bipush (v := nI 14) hx hb dX5_requiredOnes_5 (by decide) ?_
      refine lv_icmp_ge (tgt := 37) hx hb dX5_requiredOnes_7 (by decide) (fun c2 => ?_) (fun c2 => ?_)
      · exact absurd c2 (by rw [nI_leI (by omega) (by omega)]; omega)
      · rw [nI_leI (by omega) (by omega)] at c2
        refine lv_aload_n hx hb dX5_requiredOnes_10 rfl (lv_at hl 1 rfl) ?_
        refine va_get (v := .ref b) (ci := 5) (C := RX5) (T := TX5) (N := 1) hx hb hts hinX5 hown hK hP _ (hi) rfl 0 (by decide) (hts (.fieldLink RX5 11 "LayoutSolver$Layout" "places" "[LLayoutSolver$Constraint;") (by decide +kernel)) (fun x h => h) rfl dX5_requiredOnes_11 ?_
        refine lv_iload_n hx hb dX5_requiredOnes_14 rfl (lv_at hl 0 rfl) ?_
        refine va_aldq (i := nI k) hx hb hK hP _ 5 (hj) rfl (vp_in_nI (by omega) (by decide)) dX5_requiredOnes_15 ?_
        rw [nI_clamp (show k < 2 ^ 31 by omega)]
        rcases hy3 : f k with _ | y3
        · refine W.eq (g2 := F0 m 16 ls [.null]) rfl ?_
          refine lv_astore_nN (lv' := [(3, .null), (2, .int (nI k)), (0, .ref a), (1, .int q)]) hx hb dX5_requiredOnes_16 rfl hl (by decide) rfl (fun ls hl => ?_)
          refine lv_aload_nN hx hb dX5_requiredOnes_17 rfl (lv_at hl 0 rfl) ?_
          refine lv_ifnullN (tgt := 31) hx hb dX5_requiredOnes_18 (by decide) ?_
          refine lv_iinc (v := nI (k + 1)) (lv' := [(2, .int (nI (k + 1))), (3, .null), (0, .ref a), (1, .int q)]) hx hb dX5_requiredOnes_31 hl (k := 1) rfl (nI_1 _) (by decide) rfl (fun ls hl => ?_)
          refine lv_goto (tgt := 4) hx hb dX5_requiredOnes_34 (by decide) ?_
          have he : (fIdI) k q = q := rfl
          rw [lpN_s (f := fIdI), he] at hex
          exact ih ((k + 1)) q _ _ _ (by omega) hP hD hS (lv_sub hl [0, 2, 3] rfl) hex
        · refine W.eq (g2 := F0 m 16 ls [.ref y3]) rfl ?_
          exact absurd (hy3.symm.trans (hf0 _)) (by simp)
  refine L4 14 0 (nI 0) _ _ _ (by omega) hP hD hS (lv_sub hl [0, 2, 1] rfl) (fun H locs ls hP hD hS hl => ?_)
  refine lv_iload_n hx hb dX5_requiredOnes_37 rfl (lv_at hl 2 rfl) ?_
  exact W.iret hx hb hr (fun t ht hW => ⟨⟨_, _, rfl, ⟨fIdI_n, rfl⟩, by rw [ht]; exact hP, va_K.moved hW.alike hK, hD⟩, hS.F ht⟩) hS.2.2 dX5_requiredOnes_38
set_option maxHeartbeats 4000000 in
set_option maxRecDepth 100000 in
theorem cR_begin (l : Launch) (D : va_G) (cy : Nat → ClassId) (ws : va_W) {i j a b : Nat} (hij : i ≠ j) (hi : i < ws.length) (hj : j < ws.length) (sz : Nat)  : Met l yX7_begin wsX7_begin (rm9 0 0) (gPc D cy (wZ ws i j (a, .inr (7, [.ref b, .int (nI 0), .int (nI 1), .int (nI 1), .int (nI 0), .int (nI 1), .int (nI 0), .int (nI 0), .int (nI 1)])) (b, .inl (cy 1, 6, .inl (fun _ => 0)))) sz [.ref a]) (gQv D cy (wZ ws i j (a, .inr (7, [.ref b, .int (nI 0), .int (nI 1), .int (nI 1), .int (nI 0), .int (nI 1), .int (nI 0), .int (nI 0), .int (nI 1)])) (b, .inl (cy 1, 6, .inl (fun _ => 0)))) sz (fun ws' => ws' = wZ ws i j (a, .inr (7, [.ref b, .int (nI 0), .int (nI 1), .int (nI 1), .int (nI 0), .int (nI 1), .int (nI 0), .int (nI 0), .int (nI 1)])) (b, .inl (cy 1, 6, .inl (lpN fBegR 6 0 (fun _ => 0)))))) 0 0 (va_A (wZ ws i j (a, .inr (7, [.ref b, .int (nI 0), .int (nI 1), .int (nI 1), .int (nI 0), .int (nI 1), .int (nI 0), .int (nI 0), .int (nI 1)])) (b, .inl (cy 1, 6, .inl (fun _ => 0)))) sz) := by
  refine gHead (cc := cX7_begin) (maxL := 2) (ret := none) (by decide) rfl (Nat.le_of_ble_eq_true rfl) ?_
  intro p e s m below meth c ls hx hb hr hlocks hml hown hts hsz hP hK hD hS hA hl
  have hin : ∀ w ∈ u_ws RX7 TX7 9, w ∈ wsX7_begin := by decide +kernel
  have hown : s.vm.findClass RX7 = some m.cls := hown
  have hl : lv_has ls 2 [(0, .ref a)] := hl
  refine lv_iconst (v := nI 0) hx hb dX7_begin_0 (by decide) ?_
  refine lv_istore_n (lv' := [(1, .int (nI 0)), (0, .ref a)]) hx hb dX7_begin_1 rfl hl (by decide) rfl (fun ls hl => ?_)
  have L2 : ∀ (n k : Nat) (q : Nat → Int32) (H : Heap) (locs : List Loc) (ls : Array Slot), k + n = 6 → va_P D vwCl (wZ ws i j (a, .inr (7, [.ref b, .int (nI 0), .int (nI 1), .int (nI 1), .int (nI 0), .int (nI 1), .int (nI 0), .int (nI 0), .int (nI 1)])) (b, .inl (cy 1, 6, .inl q))) H → va_D (va_A (wZ ws i j (a, .inr (7, [.ref b, .int (nI 0), .int (nI 1), .int (nI 1), .int (nI 0), .int (nI 1), .int (nI 0), .int (nI 0), .int (nI 1)])) (b, .inl (cy 1, 6, .inl (fun _ => 0)))) sz) (wZ ws i j (a, .inr (7, [.ref b, .int (nI 0), .int (nI 1), .int (nI 1), .int (nI 0), .int (nI 1), .int (nI 0), .int (nI 0), .int (nI 1)])) (b, .inl (cy 1, 6, .inl q))) → va_S (va_A (wZ ws i j (a, .inr (7, [.ref b, .int (nI 0), .int (nI 1), .int (nI 1), .int (nI 0), .int (nI 1), .int (nI 0), .int (nI 0), .int (nI 1)])) (b, .inl (cy 1, 6, .inl (fun _ => 0)))) sz) s.heap H locs → lv_has ls 2 [(1, .int (nI k)), (0, .ref a)] → (∀ (H : Heap) (locs : List Loc) (ls : Array Slot), va_P D vwCl (wZ ws i j (a, .inr (7, [.ref b, .int (nI 0), .int (nI 1), .int (nI 1), .int (nI 0), .int (nI 1), .int (nI 0), .int (nI 0), .int (nI 1)])) (b, .inl (cy 1, 6, .inl (lpN (fBegR) n k q)))) H → va_D (va_A (wZ ws i j (a, .inr (7, [.ref b, .int (nI 0), .int (nI 1), .int (nI 1), .int (nI 0), .int (nI 1), .int (nI 0), .int (nI 0), .int (nI 1)])) (b, .inl (cy 1, 6, .inl (fun _ => 0)))) sz) (wZ ws i j (a, .inr (7, [.ref b, .int (nI 0), .int (nI 1), .int (nI 1), .int (nI 0), .int (nI 1), .int (nI 0), .int (nI 0), .int (nI 1)])) (b, .inl (cy 1, 6, .inl (lpN (fBegR) n k q)))) → va_S (va_A (wZ ws i j (a, .inr (7, [.ref b, .int (nI 0), .int (nI 1), .int (nI 1), .int (nI 0), .int (nI 1), .int (nI 0), .int (nI 0), .int (nI 1)])) (b, .inl (cy 1, 6, .inl (fun _ => 0)))) sz) s.heap H locs → lv_has ls 2 [(1, .int (nI 6)), (0, .ref a)] → W p l e (headSpec wsX7_begin (rm9 0 0)).room s m ([.ref a] : List Value).toArray below meth c H locs 0 0 (MQ below (gQv D cy (wZ ws i j (a, .inr (7, [.ref b, .int (nI 0), .int (nI 1), .int (nI 1), .int (nI 0), .int (nI 1), .int (nI 0), .int (nI 0), .int (nI 1)])) (b, .inl (cy 1, 6, .inl (fun _ => 0)))) sz (fun ws' => ws' = wZ ws i j (a, .inr (7, [.ref b, .int (nI 0), .int (nI 1), .int (nI 1), .int (nI 0), .int (nI 1), .int (nI 0), .int (nI 0), .int (nI 1)])) (b, .inl (cy 1, 6, .inl (lpN fBegR 6 0 (fun _ => 0)))))) ([.ref a] : List Value).toArray s 0 0 (va_A (wZ ws i j (a, .inr (7, [.ref b, .int (nI 0), .int (nI 1), .int (nI 1), .int (nI 0), .int (nI 1), .int (nI 0), .int (nI 0), .int (nI 1)])) (b, .inl (cy 1, 6, .inl (fun _ => 0)))) sz)) (F0 m 21 ls [])) → W p l e (headSpec wsX7_begin (rm9 0 0)).room s m ([.ref a] : List Value).toArray below meth c H locs 0 0 (MQ below (gQv D cy (wZ ws i j (a, .inr (7, [.ref b, .int (nI 0), .int (nI 1), .int (nI 1), .int (nI 0), .int (nI 1), .int (nI 0), .int (nI 0), .int (nI 1)])) (b, .inl (cy 1, 6, .inl (fun _ => 0)))) sz (fun ws' => ws' = wZ ws i j (a, .inr (7, [.ref b, .int (nI 0), .int (nI 1), .int (nI 1), .int (nI 0), .int (nI 1), .int (nI 0), .int (nI 0), .int (nI 1)])) (b, .inl (cy 1, 6, .inl (lpN fBegR 6 0 (fun _ => 0)))))) ([.ref a] : List Value).toArray s 0 0 (va_A (wZ ws i j (a, .inr (7, [.ref b, .int (nI 0), .int (nI 1), .int (nI 1), .int (nI 0), .int (nI 1), .int (nI 0), .int (nI 0), .int (nI 1)])) (b, .inl (cy 1, 6, .inl (fun _ => 0)))) sz)) (F0 m 2 ls []) := by
    intro n
    induction n with
    | zero =>
      intro k q H locs ls hk hP hD hS hl hex
      obtain rfl : 6 = k := by omega
      refine lv_iload_n hx hb dX7_begin_2 rfl (lv_at hl 0 rfl) ?_
      refine lv_bipush (v := nI 6) hx hb dX7_begin_3 (by decide) ?_
      refine lv_icmp_ge (tgt := 21) hx hb dX7_begin_5 (by decide) (fun c1 => ?_) (fun c1 => ?_)
      · rw [nI_leI (by omega) (by omega)] at c1
        exact hex _ _ _ hP hD hS (lv_sub hl [0, 1] rfl)
      · exact absurd c1 (by rw [nI_leI (by omega) (by omega)]; omega)
    | succ n ih =>
      intro k q H locs ls hk hP hD hS hl hex
      have hk2 : k < 6 := by omega
      refine lv_iload_n hx hb dX7_begin_2 rfl (lv_at hl 0 rfl) ?_
      refine lv_bipush (v := nI 6) hx hb dX7_begin_3 (by decide) ?_
      refine lv_icmp_ge (tgt := 21) hx hb dX7_begin_5 (by decide) (fun c2 => ?_) (fun c2 => ?_)
      · exact absurd c2 (by rw [nI_leI (by omega) (by omega)]; omega)
      · rw [nI_leI (by omega) (by omega)] at c2
        refine lv_aload_n hx hb dX7_begin_8 rfl (lv_at hl 1 rfl) ?_
        refine va_get (v := .ref b) (ci := 7) (C := RX7) (T := TX7) (N := 9) hx hb hts hin hown hK hP _ (wZ_i hi) rfl 0 (by decide) (hts (.fieldLink RX7 9 "LayoutSolver$Reader" "coefficients" "[I") (by decide +kernel)) (fun x h => h) rfl dX7_begin_9 ?_
        refine lv_iload_n hx hb dX7_begin_12 rfl (lv_at hl 0 rfl) ?_
        refine lv_iconst (v := nI 0) hx hb dX7_begin_13 (by decide) ?_
        refine va_iast (i := nI k) hx hb hK hP hD hS _ 1 (wZ_j hij hj) rfl (vp_in_nI (by omega) (by decide)) dX7_begin_14 (fun H locs hP hD hS => ?_)
        rw [nI_clamp (show k < 2 ^ 31 by omega)] at hP hD
        rw [wZ_sj hij] at hP hD
        have hP : va_P D vwCl (wZ ws i j (a, .inr (7, [.ref b, .int (nI 0), .int (nI 1), .int (nI 1), .int (nI 0), .int (nI 1), .int (nI 0), .int (nI 0), .int (nI 1)])) (b, .inl (cy 1, 6, .inl (upd q k (nI 0))))) H := hP
        have hD : va_D (va_A (wZ ws i j (a, .inr (7, [.ref b, .int (nI 0), .int (nI 1), .int (nI 1), .int (nI 0), .int (nI 1), .int (nI 0), .int (nI 0), .int (nI 1)])) (b, .inl (cy 1, 6, .inl (fun _ => 0)))) sz) (wZ ws i j (a, .inr (7, [.ref b, .int (nI 0), .int (nI 1), .int (nI 1), .int (nI 0), .int (nI 1), .int (nI 0), .int (nI 0), .int (nI 1)])) (b, .inl (cy 1, 6, .inl (upd q k (nI 0))))) := hD
        refine lv_iinc (v := nI (k + 1)) (lv' := [(1, .int (nI (k + 1))), (0, .ref a)]) hx hb dX7_begin_15 hl (k := 0) rfl (nI_1 _) (by decide) rfl (fun ls hl => ?_)
        refine lv_goto (tgt := 2) hx hb dX7_begin_18 (by decide) ?_
        have he : (fBegR) k q = (upd q k (nI 0)) := rfl
        rw [lpN_s (f := fBegR), he] at hex
        exact ih ((k + 1)) (upd q k (nI 0)) _ _ _ (by omega) hP hD hS (lv_sub hl [0, 1] rfl) hex
  refine L2 6 0 (fun _ => 0) _ _ _ (by omega) hP hD hS (lv_sub hl [0, 1] rfl) (fun H locs ls hP hD hS hl => ?_)
  refine lv_aload_n hx hb dX7_begin_21 rfl (lv_at hl 1 rfl) ?_
  refine lv_iconst (v := nI 0) hx hb dX7_begin_22 (by decide) ?_
  refine va_put (v := .int (nI 0)) (ty := .int) (ci := 7) (C := RX7) (T := TX7) (N := 9) hx hb hts hin tyX7 tyX7_ok nmX7 hown hK hP hD hS _ (wZ_i hi) rfl 1 (by decide) (hts (.fieldLink RX7 15 "LayoutSolver$Reader" "state" "I") (by decide +kernel)) (fun x h => h) rfl rfl rfl rfl (Nat.le_of_ble_eq_true rfl) dX7_begin_23 (fun H locs hP hD hS => ?_)
  rw [wZ_si] at hP hD
  have hP : va_P D vwCl (wZ ws i j (a, .inr (7, [.ref b, .int (nI 0), .int (nI 1), .int (nI 1), .int (nI 0), .int (nI 1), .int (nI 0), .int (nI 0), .int (nI 1)])) (b, .inl (cy 1, 6, .inl (lpN (fBegR) 6 0 (fun _ => 0))))) H := hP
  have hD : va_D (va_A (wZ ws i j (a, .inr (7, [.ref b, .int (nI 0), .int (nI 1), .int (nI 1), .int (nI 0), .int (nI 1), .int (nI 0), .int (nI 0), .int (nI 1)])) (b, .inl (cy 1, 6, .inl (fun _ => 0)))) sz) (wZ ws i j (a, .inr (7, [.ref b, .int (nI 0), .int (nI 1), .int (nI 1), .int (nI 0), .int (nI 1), .int (nI 0), .int (nI 0), .int (nI 1)])) (b, .inl (cy 1, 6, .inl (lpN (fBegR) 6 0 (fun _ => 0))))) := hD
  refine lv_aload_n hx hb dX7_begin_26 rfl (lv_at hl 1 rfl) ?_
  refine lv_iconst (v := nI 1) hx hb dX7_begin_27 (by decide) ?_
  refine va_put (v := .int (nI 1)) (ty := .int) (ci := 7) (C := RX7) (T := TX7) (N := 9) hx hb hts hin tyX7 tyX7_ok nmX7 hown hK hP hD hS _ (wZ_i hi) rfl 2 (by decide) (hts (.fieldLink RX7 19 "LayoutSolver$Reader" "sign" "I") (by decide +kernel)) (fun x h => h) rfl rfl rfl rfl (Nat.le_of_ble_eq_true rfl) dX7_begin_28 (fun H locs hP hD hS => ?_)
  rw [wZ_si] at hP hD
  have hP : va_P D vwCl (wZ ws i j (a, .inr (7, [.ref b, .int (nI 0), .int (nI 1), .int (nI 1), .int (nI 0), .int (nI 1), .int (nI 0), .int (nI 0), .int (nI 1)])) (b, .inl (cy 1, 6, .inl (lpN (fBegR) 6 0 (fun _ => 0))))) H := hP
  have hD : va_D (va_A (wZ ws i j (a, .inr (7, [.ref b, .int (nI 0), .int (nI 1), .int (nI 1), .int (nI 0), .int (nI 1), .int (nI 0), .int (nI 0), .int (nI 1)])) (b, .inl (cy 1, 6, .inl (fun _ => 0)))) sz) (wZ ws i j (a, .inr (7, [.ref b, .int (nI 0), .int (nI 1), .int (nI 1), .int (nI 0), .int (nI 1), .int (nI 0), .int (nI 0), .int (nI 1)])) (b, .inl (cy 1, 6, .inl (lpN (fBegR) 6 0 (fun _ => 0))))) := hD
  refine lv_aload_n hx hb dX7_begin_31 rfl (lv_at hl 1 rfl) ?_
  refine lv_iconst (v := nI 1) hx hb dX7_begin_32 (by decide) ?_
  refine va_put (v := .int (nI 1)) (ty := .int) (ci := 7) (C := RX7) (T := TX7) (N := 9) hx hb hts hin tyX7 tyX7_ok nmX7 hown hK hP hD hS _ (wZ_i hi) rfl 3 (by decide) (hts (.fieldLink RX7 22 "LayoutSolver$Reader" "factor" "I") (by decide +kernel)) (fun x h => h) rfl rfl rfl rfl (Nat.le_of_ble_eq_true rfl) dX7_begin_33 (fun H locs hP hD hS => ?_)
  rw [wZ_si] at hP hD
  have hP : va_P D vwCl (wZ ws i j (a, .inr (7, [.ref b, .int (nI 0), .int (nI 1), .int (nI 1), .int (nI 0), .int (nI 1), .int (nI 0), .int (nI 0), .int (nI 1)])) (b, .inl (cy 1, 6, .inl (lpN (fBegR) 6 0 (fun _ => 0))))) H := hP
  have hD : va_D (va_A (wZ ws i j (a, .inr (7, [.ref b, .int (nI 0), .int (nI 1), .int (nI 1), .int (nI 0), .int (nI 1), .int (nI 0), .int (nI 0), .int (nI 1)])) (b, .inl (cy 1, 6, .inl (fun _ => 0)))) sz) (wZ ws i j (a, .inr (7, [.ref b, .int (nI 0), .int (nI 1), .int (nI 1), .int (nI 0), .int (nI 1), .int (nI 0), .int (nI 0), .int (nI 1)])) (b, .inl (cy 1, 6, .inl (lpN (fBegR) 6 0 (fun _ => 0))))) := hD
  refine lv_aload_n hx hb dX7_begin_36 rfl (lv_at hl 1 rfl) ?_
  refine lv_iconst (v := nI 1) hx hb dX7_begin_37 (by decide) ?_
  refine va_put (v := .int (nI 1)) (ty := .int) (ci := 7) (C := RX7) (T := TX7) (N := 9) hx hb hts hin tyX7 tyX7_ok nmX7 hown hK hP hD hS _ (wZ_i hi) rfl 5 (by decide) (hts (.fieldLink RX7 28 "LayoutSolver$Reader" "constantSign" "I") (by decide +kernel)) (fun x h => h) rfl rfl rfl rfl (Nat.le_of_ble_eq_true rfl) dX7_begin_38 (fun H locs hP hD hS => ?_)
  rw [wZ_si] at hP hD
  have hP : va_P D vwCl (wZ ws i j (a, .inr (7, [.ref b, .int (nI 0), .int (nI 1), .int (nI 1), .int (nI 0), .int (nI 1), .int (nI 0), .int (nI 0), .int (nI 1)])) (b, .inl (cy 1, 6, .inl (lpN (fBegR) 6 0 (fun _ => 0))))) H := hP
  have hD : va_D (va_A (wZ ws i j (a, .inr (7, [.ref b, .int (nI 0), .int (nI 1), .int (nI 1), .int (nI 0), .int (nI 1), .int (nI 0), .int (nI 0), .int (nI 1)])) (b, .inl (cy 1, 6, .inl (fun _ => 0)))) sz) (wZ ws i j (a, .inr (7, [.ref b, .int (nI 0), .int (nI 1), .int (nI 1), .int (nI 0), .int (nI 1), .int (nI 0), .int (nI 0), .int (nI 1)])) (b, .inl (cy 1, 6, .inl (lpN (fBegR) 6 0 (fun _ => 0))))) := hD
  refine lv_aload_n hx hb dX7_begin_41 rfl (lv_at hl 1 rfl) ?_
  refine lv_iconst (v := nI 0) hx hb dX7_begin_42 (by decide) ?_
  refine va_put (v := .int (nI 0)) (ty := .int) (ci := 7) (C := RX7) (T := TX7) (N := 9) hx hb hts hin tyX7 tyX7_ok nmX7 hown hK hP hD hS _ (wZ_i hi) rfl 6 (by decide) (hts (.fieldLink RX7 31 "LayoutSolver$Reader" "number" "I") (by decide +kernel)) (fun x h => h) rfl rfl rfl rfl (Nat.le_of_ble_eq_true rfl) dX7_begin_43 (fun H locs hP hD hS => ?_)
  rw [wZ_si] at hP hD
  have hP : va_P D vwCl (wZ ws i j (a, .inr (7, [.ref b, .int (nI 0), .int (nI 1), .int (nI 1), .int (nI 0), .int (nI 1), .int (nI 0), .int (nI 0), .int (nI 1)])) (b, .inl (cy 1, 6, .inl (lpN (fBegR) 6 0 (fun _ => 0))))) H := hP
  have hD : va_D (va_A (wZ ws i j (a, .inr (7, [.ref b, .int (nI 0), .int (nI 1), .int (nI 1), .int (nI 0), .int (nI 1), .int (nI 0), .int (nI 0), .int (nI 1)])) (b, .inl (cy 1, 6, .inl (fun _ => 0)))) sz) (wZ ws i j (a, .inr (7, [.ref b, .int (nI 0), .int (nI 1), .int (nI 1), .int (nI 0), .int (nI 1), .int (nI 0), .int (nI 0), .int (nI 1)])) (b, .inl (cy 1, 6, .inl (lpN (fBegR) 6 0 (fun _ => 0))))) := hD
  refine lv_aload_n hx hb dX7_begin_46 rfl (lv_at hl 1 rfl) ?_
  refine lv_iconst (v := nI 0) hx hb dX7_begin_47 (by decide) ?_
  refine va_put (v := .int (nI 0)) (ty := .int) (ci := 7) (C := RX7) (T := TX7) (N := 9) hx hb hts hin tyX7 tyX7_ok nmX7 hown hK hP hD hS _ (wZ_i hi) rfl 7 (by decide) (hts (.fieldLink RX7 34 "LayoutSolver$Reader" "strength" "I") (by decide +kernel)) (fun x h => h) rfl rfl rfl rfl (Nat.le_of_ble_eq_true rfl) dX7_begin_48 (fun H locs hP hD hS => ?_)
  rw [wZ_si] at hP hD
  have hP : va_P D vwCl (wZ ws i j (a, .inr (7, [.ref b, .int (nI 0), .int (nI 1), .int (nI 1), .int (nI 0), .int (nI 1), .int (nI 0), .int (nI 0), .int (nI 1)])) (b, .inl (cy 1, 6, .inl (lpN (fBegR) 6 0 (fun _ => 0))))) H := hP
  have hD : va_D (va_A (wZ ws i j (a, .inr (7, [.ref b, .int (nI 0), .int (nI 1), .int (nI 1), .int (nI 0), .int (nI 1), .int (nI 0), .int (nI 0), .int (nI 1)])) (b, .inl (cy 1, 6, .inl (fun _ => 0)))) sz) (wZ ws i j (a, .inr (7, [.ref b, .int (nI 0), .int (nI 1), .int (nI 1), .int (nI 0), .int (nI 1), .int (nI 0), .int (nI 0), .int (nI 1)])) (b, .inl (cy 1, 6, .inl (lpN (fBegR) 6 0 (fun _ => 0))))) := hD
  refine lv_aload_n hx hb dX7_begin_51 rfl (lv_at hl 1 rfl) ?_
  refine lv_iconst (v := nI 1) hx hb dX7_begin_52 (by decide) ?_
  refine va_put (v := .int (nI 1)) (ty := .int) (ci := 7) (C := RX7) (T := TX7) (N := 9) hx hb hts hin tyX7 tyX7_ok nmX7 hown hK hP hD hS _ (wZ_i hi) rfl 8 (by decide) (hts (.fieldLink RX7 37 "LayoutSolver$Reader" "weight" "I") (by decide +kernel)) (fun x h => h) rfl rfl rfl rfl (Nat.le_of_ble_eq_true rfl) dX7_begin_53 (fun H locs hP hD hS => ?_)
  rw [wZ_si] at hP hD
  have hP : va_P D vwCl (wZ ws i j (a, .inr (7, [.ref b, .int (nI 0), .int (nI 1), .int (nI 1), .int (nI 0), .int (nI 1), .int (nI 0), .int (nI 0), .int (nI 1)])) (b, .inl (cy 1, 6, .inl (lpN (fBegR) 6 0 (fun _ => 0))))) H := hP
  have hD : va_D (va_A (wZ ws i j (a, .inr (7, [.ref b, .int (nI 0), .int (nI 1), .int (nI 1), .int (nI 0), .int (nI 1), .int (nI 0), .int (nI 0), .int (nI 1)])) (b, .inl (cy 1, 6, .inl (fun _ => 0)))) sz) (wZ ws i j (a, .inr (7, [.ref b, .int (nI 0), .int (nI 1), .int (nI 1), .int (nI 0), .int (nI 1), .int (nI 0), .int (nI 0), .int (nI 1)])) (b, .inl (cy 1, 6, .inl (lpN (fBegR) 6 0 (fun _ => 0))))) := hD
  exact W.vret hx hb hr (fun t ht hW => ⟨⟨_, rfl, rfl, by rw [ht]; exact hP, va_K.moved hW.alike hK, hD⟩, hS.F ht⟩) hS.2.2 dX7_begin_56
theorem beg0 : lpN fBegR 6 0 (fun _ => (0 : Int32)) = fun _ => 0 := by
  funext j
  simp only [lpN, fBegR, upd]
  repeat (first | rfl | split)
set_option maxHeartbeats 4000000 in
set_option maxRecDepth 100000 in
theorem cR_isAtEnd0 (l : Launch) (D : va_G) (cy : Nat → ClassId) (ws : va_W) (sz : Nat) {i a b : Nat} (hi : ws[i]? = some (a, .inr (7, [.ref b, .int (nI 0), .int (nI 1), .int (nI 1), .int (nI 0), .int (nI 1), .int (nI 0), .int (nI 0), .int (nI 1)]))) : Met l yX7_isAtEnd wsX7_isAtEnd (rm9 0 0) (gPc D cy ws sz [.ref a]) (gQi D cy ws sz (fun r ws' => r = nI 0 ∧ ws' = ws)) 0 0 (va_A ws sz) := by
  refine gHead (cc := cX7_isAtEnd) (maxL := 1) (ret := (some .boolean)) (by decide) rfl (Nat.le_of_ble_eq_true rfl) ?_
  intro p e s m below meth c ls hx hb hr hlocks hml hown hts hsz hP hK hD hS hA hl
  have hinX7 : ∀ w ∈ u_ws RX7 TX7 9, w ∈ wsX7_isAtEnd := by decide +kernel
  have hown : s.vm.findClass RX7 = some m.cls := hown
  have hl : lv_has ls 1 [(0, .ref a)] := hl
  refine lv_aload_n hx hb dX7_isAtEnd_0 rfl (lv_at hl 0 rfl) ?_
  refine va_get (v := .int (nI 0)) (ci := 7) (C := RX7) (T := TX7) (N := 9) hx hb hts hinX7 hown hK hP _ (hi) rfl 1 (by decide) (hts (.fieldLink RX7 15 "LayoutSolver$Reader" "state" "I") (by decide +kernel)) (fun x h => h) rfl dX7_isAtEnd_1 ?_
  refine lv_bipush (v := nI 6) hx hb dX7_isAtEnd_4 (by decide) ?_
  refine lv_icmp_eq (tgt := 27) hx hb dX7_isAtEnd_6 (by decide) (fun c1 => ?_) (fun c1 => ?_)
  · exact absurd c1 (by rw [nI_eq (by omega) (by omega)]; omega)
  · rw [nI_eq (by omega) (by omega)] at c1
    refine lv_aload_n hx hb dX7_isAtEnd_9 rfl (lv_at hl 0 rfl) ?_
    refine va_get (v := .int (nI 0)) (ci := 7) (C := RX7) (T := TX7) (N := 9) hx hb hts hinX7 hown hK hP _ (hi) rfl 1 (by decide) (hts (.fieldLink RX7 15 "LayoutSolver$Reader" "state" "I") (by decide +kernel)) (fun x h => h) rfl dX7_isAtEnd_10 ?_
    refine lv_bipush (v := nI 8) hx hb dX7_isAtEnd_13 (by decide) ?_
    refine lv_icmp_eq (tgt := 27) hx hb dX7_isAtEnd_15 (by decide) (fun c2 => ?_) (fun c2 => ?_)
    · exact absurd c2 (by rw [nI_eq (by omega) (by omega)]; omega)
    · rw [nI_eq (by omega) (by omega)] at c2
      refine lv_aload_n hx hb dX7_isAtEnd_18 rfl (lv_at hl 0 rfl) ?_
      refine va_get (v := .int (nI 0)) (ci := 7) (C := RX7) (T := TX7) (N := 9) hx hb hts hinX7 hown hK hP _ (hi) rfl 1 (by decide) (hts (.fieldLink RX7 15 "LayoutSolver$Reader" "state" "I") (by decide +kernel)) (fun x h => h) rfl dX7_isAtEnd_19 ?_
      refine lv_bipush (v := nI 9) hx hb dX7_isAtEnd_22 (by decide) ?_
      refine lv_icmp_ne (tgt := 31) hx hb dX7_isAtEnd_24 (by decide) (fun c3 => ?_) (fun c3 => ?_)
      · rw [nI_eq (by omega) (by omega)] at c3
        refine lv_iconst (v := nI 0) hx hb dX7_isAtEnd_31 (by decide) ?_
        exact W.zret hx hb hr (by decide) (fun t ht hW => ⟨⟨_, _, rfl, ⟨rfl, rfl⟩, by rw [ht]; exact hP, va_K.moved hW.alike hK, hD⟩, hS.F ht⟩) hS.2.2 dX7_isAtEnd_32
      · exact absurd c3 (by rw [nI_eq (by omega) (by omega)]; omega)
