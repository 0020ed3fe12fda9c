/-! p1: the class, best -/
theorem wX_setPs {cy : Nat → ClassId} {ad xa : Nat → Nat} {P O : CS} {S : DS} {f : Nat → Int64} : (wD cy ad S ++ wX cy ad xa P O).set 57 (xa 14, .inl (cy 2, 4, .inr (.inl f))) = wD cy ad S ++ wX cy ad xa (f, P.2) O := by
  rw [List.set_append_right _ _ (by rw [wD_len]; omega), wD_len]; rfl
theorem wX_setPd {cy : Nat → ClassId} {ad xa : Nat → Nat} {P O : CS} {S : DS} {v : Int64} : (wD cy ad S ++ wX cy ad xa P O).set 56 (xa 13, .inr (2, [.ref (xa 14), .long v])) = wD cy ad S ++ wX cy ad xa (P.1, v) O := by
  rw [List.set_append_right _ _ (by rw [wD_len]; omega), wD_len]; rfl
set_option maxHeartbeats 4000000 in
set_option maxRecDepth 100000 in
theorem cC_copyPO (l : Launch) (D : va_G) (cy : Nat → ClassId) (ad xa : Nat → Nat) (S : DS) (P O : CS) (sz : Nat)  : Met l yX2_copy wsX2_copy (rm9 0 0) (gPc D cy (wD cy ad S ++ wX cy ad xa P O) sz [.ref (xa 13), .ref (xa 15)]) (gQv D cy (wD cy ad S ++ wX cy ad xa P O) sz (fun ws' => ws' = wD cy ad S ++ wX cy ad xa (lpN (fCp O.1) 4 0 P.1, O.2) O)) 0 0 (va_A (wD cy ad S ++ wX cy ad xa P O) sz) := by
  refine gHead (cc := cX2_copy) (maxL := 3) (ret := none) (by decide) rfl (Nat.le_of_ble_eq_true rfl) ?_
  intro p e s m below meth c ls hx hb hr hlocks hml hown hts hsz hP hK hD hS hA hl
  have hown : s.vm.findClass RX2 = some m.cls := hown
  have hl : lv_has ls 3 [(0, .ref (xa 13)), (1, .ref (xa 15))] := hl
  have hinX2 : ∀ w ∈ u_ws RX2 TX2 2, w ∈ wsX2_copy := by decide +kernel
  refine lv_iconst (v := nI 0) hx hb dX2_copy_0 (by decide) ?_
  refine lv_istore_n (lv' := [(2, .int (nI 0)), (0, .ref (xa 13)), (1, .ref (xa 15))]) hx hb dX2_copy_1 rfl hl (by decide) rfl (fun ls hl => ?_)
  have L2 : ∀ (n k : Nat) (q : Nat → Int64) (H : Heap) (locs : List Loc) (ls : Array Slot), k + n = 4 → va_P D vwCl (wD cy ad S ++ wX cy ad xa (q, P.2) O) H → va_D (va_A (wD cy ad S ++ wX cy ad xa P O) sz) (wD cy ad S ++ wX cy ad xa (q, P.2) O) → va_S (va_A (wD cy ad S ++ wX cy ad xa P O) sz) s.heap H locs → lv_has ls 3 [(2, .int (nI k)), (0, .ref (xa 13)), (1, .ref (xa 15))] → (∀ (H : Heap) (locs : List Loc) (ls : Array Slot), va_P D vwCl (wD cy ad S ++ wX cy ad xa ((lpN (fCp O.1) n k q), P.2) O) H → va_D (va_A (wD cy ad S ++ wX cy ad xa P O) sz) (wD cy ad S ++ wX cy ad xa ((lpN (fCp O.1) n k q), P.2) O) → va_S (va_A (wD cy ad S ++ wX cy ad xa P O) sz) s.heap H locs → lv_has ls 3 [(2, .int (nI 4)), (0, .ref (xa 13)), (1, .ref (xa 15))] → W p l e (headSpec wsX2_copy (rm9 0 0)).room s m ([.ref (xa 13), .ref (xa 15)] : List Value).toArray below meth c H locs 0 0 (MQ below (gQv D cy (wD cy ad S ++ wX cy ad xa P O) sz (fun ws' => ws' = wD cy ad S ++ wX cy ad xa (lpN (fCp O.1) 4 0 P.1, O.2) O)) ([.ref (xa 13), .ref (xa 15)] : List Value).toArray s 0 0 (va_A (wD cy ad S ++ wX cy ad xa P O) sz)) (F0 m 25 ls [])) → W p l e (headSpec wsX2_copy (rm9 0 0)).room s m ([.ref (xa 13), .ref (xa 15)] : List Value).toArray below meth c H locs 0 0 (MQ below (gQv D cy (wD cy ad S ++ wX cy ad xa P O) sz (fun ws' => ws' = wD cy ad S ++ wX cy ad xa (lpN (fCp O.1) 4 0 P.1, O.2) O)) ([.ref (xa 13), .ref (xa 15)] : List Value).toArray s 0 0 (va_A (wD cy ad S ++ wX cy ad xa P O) sz)) (F0 m 2 ls []) := by
    intro n
    induction n with
    | zero =>
      intro k q H locs ls hk hP hD hS hl hex
      obtain rfl : 4 = k := by omega
      refine lv_iload_n hx hb dX2_copy_2 rfl (lv_at hl 0 rfl) ?_
      refine lv_iconst (v := nI 3) hx hb dX2_copy_3 (by decide) ?_
      refine lv_icmp_gt (tgt := 25) hx hb dX2_copy_4 (by decide) (fun c1 => ?_) (fun c1 => ?_)
      · rw [nI_ltI (by omega) (by omega)] at c1
        exact hex _ _ _ hP hD hS (lv_sub hl [0, 1, 2] rfl)
      · exact absurd c1 (by rw [nI_ltI (by omega) (by omega)]; omega)
    | succ n ih =>
      intro k q H locs ls hk hP hD hS hl hex
      have hk2 : k < 4 := by omega
      refine lv_iload_n hx hb dX2_copy_2 rfl (lv_at hl 0 rfl) ?_
      refine lv_iconst (v := nI 3) hx hb dX2_copy_3 (by decide) ?_
      refine lv_icmp_gt (tgt := 25) hx hb dX2_copy_4 (by decide) (fun c2 => ?_) (fun c2 => ?_)
      · exact absurd c2 (by rw [nI_ltI (by omega) (by omega)]; omega)
      · rw [nI_ltI (by omega) (by omega)] at c2
        refine lv_aload_n hx hb dX2_copy_7 rfl (lv_at hl 1 rfl) ?_
        refine va_get (v := .ref (xa 14)) (ci := 2) (C := RX2) (T := TX2) (N := 2) hx hb hts hinX2 hown hK hP 56 (wX_13) rfl 0 (by decide) (hts (.fieldLink RX2 9 "LayoutSolver$Costs" "sums" "[J") (by decide +kernel)) (fun x h => h) rfl dX2_copy_8 ?_
        refine lv_iload_n hx hb dX2_copy_11 rfl (lv_at hl 0 rfl) ?_
        refine lv_aload_n hx hb dX2_copy_12 rfl (lv_at hl 2 rfl) ?_
        refine va_get (v := .ref (xa 16)) (ci := 2) (C := RX2) (T := TX2) (N := 2) hx hb hts hinX2 hown hK hP 58 (wX_15) rfl 0 (by decide) (hts (.fieldLink RX2 9 "LayoutSolver$Costs" "sums" "[J") (by decide +kernel)) (fun x h => h) rfl dX2_copy_13 ?_
        refine lv_iload_n hx hb dX2_copy_16 rfl (lv_at hl 0 rfl) ?_
        refine va_lald (i := nI k) hx hb hK hP 59 2 (wX_16) rfl (vp_in_nI (by omega) (by decide)) dX2_copy_17 ?_
        rw [nI_clamp (show k < 2 ^ 31 by omega)]
        refine va_last (i := nI k) hx hb hK hP hD hS 57 2 (wX_14) rfl (vp_in_nI (by omega) (by decide)) dX2_copy_18 (fun H locs hP hD hS => ?_)
        rw [nI_clamp (show k < 2 ^ 31 by omega), wX_setPs] at hP hD
        refine lv_iinc (v := nI (k + 1)) (lv' := [(2, .int (nI (k + 1))), (0, .ref (xa 13)), (1, .ref (xa 15))]) hx hb dX2_copy_19 hl (k := 0) rfl (nI_1 _) (by decide) rfl (fun ls hl => ?_)
        refine lv_goto (tgt := 2) hx hb dX2_copy_22 (by decide) ?_
        have he : (fCp O.1) k q = (vp_updL (q, P.2).1 k (O.1 k)) := rfl
        rw [lpN_s (f := fCp O.1), he] at hex
        exact ih ((k + 1)) (vp_updL (q, P.2).1 k (O.1 k)) _ _ _ (by omega) hP hD hS (lv_sub hl [0, 1, 2] rfl) hex
  refine L2 4 0 P.1 _ _ _ (by omega) hP hD hS (lv_sub hl [0, 1, 2] rfl) (fun H locs ls hP hD hS hl => ?_)
  refine lv_aload_n hx hb dX2_copy_25 rfl (lv_at hl 1 rfl) ?_
  refine lv_aload_n hx hb dX2_copy_26 rfl (lv_at hl 2 rfl) ?_
  refine va_get (v := .long O.2) (ci := 2) (C := RX2) (T := TX2) (N := 2) hx hb hts hinX2 hown hK hP 58 (wX_15) rfl 1 (by decide) (hts (.fieldLink RX2 15 "LayoutSolver$Costs" "denominator" "J") (by decide +kernel)) (fun x h => h) rfl dX2_copy_27 ?_
  refine va_put (v := .long O.2) (ty := .long) (ci := 2) (C := RX2) (T := TX2) (N := 2) hx hb hts hinX2 tyX2 tyX2_ok nmX2 hown hK hP hD hS 56 (wX_13) rfl 1 (by decide) (hts (.fieldLink RX2 15 "LayoutSolver$Costs" "denominator" "J") (by decide +kernel)) (fun x h => h) rfl rfl rfl rfl (Nat.le_of_ble_eq_true rfl) dX2_copy_30 (fun H locs hP hD hS => ?_)
  rw [show ([.ref (xa 14), .long (((lpN (fCp O.1) 4 0 P.1), P.2)).2] : List Value).set 1 (.long O.2) = [.ref (xa 14), .long O.2] from rfl, wX_setPd] at hP hD
  exact W.vret hx hb hr (fun t ht hW => ⟨⟨_, rfl, rfl, by rw [ht]; exact hP, va_K.moved hW.alike hK, hD⟩, hS.F ht⟩) hS.2.2 dX2_copy_33
set_option maxHeartbeats 4000000 in
set_option maxRecDepth 100000 in
theorem cC_cmpOP0 (l : Launch) (D : va_G) (cy : Nat → ClassId) (ad xa : Nat → Nat) (S : DS) (P O : CS) (sz : Nat) (hP0 : ∀ s : Nat, s < 4 → P.1 s = 0) (hO0 : ∀ s : Nat, s < 4 → O.1 s = 0) : Met l yX2_compareWith wsX2_compareWith (rm9 1 23) (gPc D cy (wD cy ad S ++ wX cy ad xa P O) sz [.ref (xa 15), .ref (xa 13)]) (gQi D cy (wD cy ad S ++ wX cy ad xa P O) sz (fun r ws' => r = nI 0 ∧ ws' = wD cy ad S ++ wX cy ad xa P O)) 0 0 (va_A (wD cy ad S ++ wX cy ad xa P O) sz) := by
  refine gHead (cc := cX2_compareWith) (maxL := 4) (ret := (some .int)) (by decide) rfl (Nat.le_of_ble_eq_true rfl) ?_
  intro p e s m below meth c ls hx hb hr hlocks hml hown hts hsz hP hK hD hS hA hl
  have hown : s.vm.findClass RX2 = some m.cls := hown
  have hl : lv_has ls 4 [(0, .ref (xa 15)), (1, .ref (xa 13))] := hl
  have hinX2 : ∀ w ∈ u_ws RX2 TX2 2, w ∈ wsX2_compareWith := by decide +kernel
  refine lv_iconst (v := nI 1) hx hb dX2_compareWith_0 (by decide) ?_
  refine lv_istore_n (lv' := [(2, .int (nI 1)), (0, .ref (xa 15)), (1, .ref (xa 13))]) hx hb dX2_compareWith_1 rfl hl (by decide) rfl (fun ls hl => ?_)
  have L2 : ∀ (n k : Nat) (q : Unit) (H : Heap) (locs : List Loc) (ls : Array Slot), k + n = 4 → 1 ≤ k → va_P D vwCl (wD cy ad S ++ wX cy ad xa P O) H → va_D (va_A (wD cy ad S ++ wX cy ad xa P O) sz) (wD cy ad S ++ wX cy ad xa P O) → va_S (va_A (wD cy ad S ++ wX cy ad xa P O) sz) s.heap H locs → lv_has ls 4 [(2, .int (nI k)), (0, .ref (xa 15)), (1, .ref (xa 13))] → (∀ (H : Heap) (locs : List Loc) (ls : Array Slot), va_P D vwCl (wD cy ad S ++ wX cy ad xa P O) H → va_D (va_A (wD cy ad S ++ wX cy ad xa P O) sz) (wD cy ad S ++ wX cy ad xa P O) → va_S (va_A (wD cy ad S ++ wX cy ad xa P O) sz) s.heap H locs → lv_has ls 4 [(2, .int (nI 4)), (0, .ref (xa 15)), (1, .ref (xa 13))] → W p l e (headSpec wsX2_compareWith (rm9 1 23)).room s m ([.ref (xa 15), .ref (xa 13)] : List Value).toArray below meth c H locs 0 0 (MQ below (gQi D cy (wD cy ad S ++ wX cy ad xa P O) sz (fun r ws' => r = nI 0 ∧ ws' = wD cy ad S ++ wX cy ad xa P O)) ([.ref (xa 15), .ref (xa 13)] : List Value).toArray s 0 0 (va_A (wD cy ad S ++ wX cy ad xa P O) sz)) (F0 m 45 ls [])) → W p l e (headSpec wsX2_compareWith (rm9 1 23)).room s m ([.ref (xa 15), .ref (xa 13)] : List Value).toArray below meth c H locs 0 0 (MQ below (gQi D cy (wD cy ad S ++ wX cy ad xa P O) sz (fun r ws' => r = nI 0 ∧ ws' = wD cy ad S ++ wX cy ad xa P O)) ([.ref (xa 15), .ref (xa 13)] : List Value).toArray s 0 0 (va_A (wD cy ad S ++ wX cy ad xa P O) sz)) (F0 m 2 ls []) := by
    intro n
    induction n with
    | zero =>
      intro k q H locs ls hk hlo hP hD hS hl hex
      obtain rfl : 4 = k := by omega
      refine lv_iload_n hx hb dX2_compareWith_2 rfl (lv_at hl 0 rfl) ?_
      refine lv_iconst (v := nI 3) hx hb dX2_compareWith_3 (by decide) ?_
      refine lv_icmp_gt (tgt := 45) hx hb dX2_compareWith_4 (by decide) (fun c1 => ?_) (fun c1 => ?_)
      · rw [nI_ltI (by omega) (by omega)] at c1
        exact hex _ _ _ hP hD hS (lv_sub hl [0, 1, 2] rfl)
      · exact absurd c1 (by rw [nI_ltI (by omega) (by omega)]; omega)
    | succ n ih =>
      intro k q H locs ls hk hlo hP hD hS hl hex
      have hk2 : k < 4 := by omega
      refine lv_iload_n hx hb dX2_compareWith_2 rfl (lv_at hl 0 rfl) ?_
      refine lv_iconst (v := nI 3) hx hb dX2_compareWith_3 (by decide) ?_
      refine lv_icmp_gt (tgt := 45) hx hb dX2_compareWith_4 (by decide) (fun c2 => ?_) (fun c2 => ?_)
      · exact absurd c2 (by rw [nI_ltI (by omega) (by omega)]; omega)
      · rw [nI_ltI (by omega) (by omega)] at c2
        refine lv_aload_n hx hb dX2_compareWith_7 rfl (lv_at hl 1 rfl) ?_
        refine va_get (v := .ref (xa 16)) (ci := 2) (C := RX2) (T := TX2) (N := 2) hx hb hts hinX2 hown hK hP 58 (wX_15) rfl 0 (by decide) (hts (.fieldLink RX2 9 "LayoutSolver$Costs" "sums" "[J") (by decide +kernel)) (fun x h => h) rfl dX2_compareWith_8 ?_
        refine lv_iload_n hx hb dX2_compareWith_11 rfl (lv_at hl 0 rfl) ?_
        refine va_lald (i := nI k) hx hb hK hP 59 2 (wX_16) rfl (vp_in_nI (by omega) (by decide)) dX2_compareWith_12 ?_
        rw [nI_clamp (show k < 2 ^ 31 by omega)]
        refine lv_aload_n hx hb dX2_compareWith_13 rfl (lv_at hl 2 rfl) ?_
        refine va_get (v := .long P.2) (ci := 2) (C := RX2) (T := TX2) (N := 2) hx hb hts hinX2 hown hK hP 56 (wX_13) rfl 1 (by decide) (hts (.fieldLink RX2 15 "LayoutSolver$Costs" "denominator" "J") (by decide +kernel)) (fun x h => h) rfl dX2_compareWith_14 ?_
        refine lv_lmul hx hb dX2_compareWith_17 ?_
        refine lv_aload_n hx hb dX2_compareWith_18 rfl (lv_at hl 2 rfl) ?_
        refine va_get (v := .ref (xa 14)) (ci := 2) (C := RX2) (T := TX2) (N := 2) hx hb hts hinX2 hown hK hP 56 (wX_13) rfl 0 (by decide) (hts (.fieldLink RX2 9 "LayoutSolver$Costs" "sums" "[J") (by decide +kernel)) (fun x h => h) rfl dX2_compareWith_19 ?_
        refine lv_iload_n hx hb dX2_compareWith_22 rfl (lv_at hl 0 rfl) ?_
        refine va_lald (i := nI k) hx hb hK hP 57 2 (wX_14) rfl (vp_in_nI (by omega) (by decide)) dX2_compareWith_23 ?_
        rw [nI_clamp (show k < 2 ^ 31 by omega)]
        refine lv_aload_n hx hb dX2_compareWith_24 rfl (lv_at hl 1 rfl) ?_
        refine va_get (v := .long O.2) (ci := 2) (C := RX2) (T := TX2) (N := 2) hx hb hts hinX2 hown hK hP 58 (wX_15) rfl 1 (by decide) (hts (.fieldLink RX2 15 "LayoutSolver$Costs" "denominator" "J") (by decide +kernel)) (fun x h => h) rfl dX2_compareWith_25 ?_
        refine lv_lmul hx hb dX2_compareWith_28 ?_
        refine pCalli (As := [.long ((O.1 k) * P.2), .long ((P.1 k) * O.2)]) (rest := []) hx hb hml hown hts hP hS hA hl.1 (cJ_cmp l _ ((O.1 k) * P.2) ((P.1 k) * O.2)) (va_cwS 2 hts gX2_compareWith_J13_compare_74951 rfl rfl rfl (by decide +kernel) ⟨Nat.le_of_ble_eq_true rfl, Nat.le_of_ble_eq_true rfl⟩) rfl rfl (Nat.le_of_ble_eq_true rfl) ⟨Nat.le_of_ble_eq_true rfl, Nat.le_of_ble_eq_true rfl⟩ dX2_compareWith_29 (fun r3 H locs e3 hP hS => ?_)
        rw [show r3 = cmpL ((O.1 k) * P.2) ((P.1 k) * O.2) from e3]
        rw [show cmpL ((O.1 k) * P.2) ((P.1 k) * O.2) = nI 0 from by rw [hP0 _ (by omega), hO0 _ (by omega), Int64.zero_mul, Int64.zero_mul]; decide]
        refine lv_istore_n (lv' := [(3, .int (nI 0)), (2, .int (nI k)), (0, .ref (xa 15)), (1, .ref (xa 13))]) hx hb dX2_compareWith_32 rfl hl (by decide) rfl (fun ls hl => ?_)
        refine lv_iload_n hx hb dX2_compareWith_33 rfl (lv_at hl 0 rfl) ?_
        refine lv_if_eq (tgt := 39) hx hb dX2_compareWith_34 (by decide) (fun c4 => ?_) (fun c4 => ?_)
        · skip
          refine lv_iinc (v := nI (k + 1)) (lv' := [(2, .int (nI (k + 1))), (3, .int (nI 0)), (0, .ref (xa 15)), (1, .ref (xa 13))]) hx hb dX2_compareWith_39 hl (k := 1) rfl (nI_1 _) (by decide) rfl (fun ls hl => ?_)
          refine lv_goto (tgt := 2) hx hb dX2_compareWith_42 (by decide) ?_
          exact ih ((k + 1)) () _ _ _ (by omega) (by omega) hP hD hS (lv_sub hl [0, 2, 3] rfl) hex
        · exact absurd c4 (by decide)
  refine L2 3 1 () _ _ _ (by omega) (by omega) hP hD hS (lv_sub hl [0, 1, 2] rfl) (fun H locs ls hP hD hS hl => ?_)
  refine lv_iconst (v := nI 0) hx hb dX2_compareWith_45 (by decide) ?_
  exact W.iret hx hb hr (fun t ht hW => ⟨⟨_, _, rfl, ⟨rfl, rfl⟩, by rw [ht]; exact hP, va_K.moved hW.alike hK, hD⟩, hS.F ht⟩) hS.2.2 dX2_compareWith_46
def kOkF (v : Nat) (F : DS → Prop) : Prop := ∀ (S : DS) (x : Int32), F S → ¬ k_isWithin x (nI 1000) = 0 → F (kLift (kAt1 S v x) (nI 14)) ∧ dSc (kAt1 S v x) = 1 ∧ ∀ (f : Nat → Int64) (s : Nat), s < 4 → kTell (kAt1 S v x) f s = 0
theorem fCp4 {g f : Nat → Int64} {s : Nat} (hs : s < 4) : lpN (fCp g) 4 0 f s = g s := by
  rcases (show s = 0 ∨ s = 1 ∨ s = 2 ∨ s = 3 by omega) with rfl | rfl | rfl | rfl <;> simp [lpN, fCp, vp_updL]
theorem i32_s {x : Int32} (h0 : -20000 ≤ x.toInt) (h1 : x.toInt ≤ 20000) : (x + 1).toInt = x.toInt + 1 := by
  rw [Int32.toInt_add, show (1 : Int32).toInt = 1 from rfl]
  exact Int.bmod_eq_of_le (by omega) (by omega)
theorem nI_int {n : Nat} (hn : n < 2 ^ 31) : (nI n).toInt = n := by
  unfold nI
  exact Int32.toInt_ofNat_of_lt hn
theorem i32_a {x : Int32} {n : Nat} (hn : n ≤ 20000) (h0 : -20000 ≤ x.toInt) (h1 : x.toInt ≤ 20000) : (x + nI n).toInt = x.toInt + n := by
  rw [Int32.toInt_add, nI_int (by omega)]
  exact Int.bmod_eq_of_le (by omega) (by omega)
theorem kW_of {x : Int32} (h : ¬ k_isWithin x (nI 1000) = 0) : -1000 ≤ x.toInt ∧ x.toInt ≤ 1000 := by
  unfold k_isWithin at h
  by_cases h0 : x < -(nI 1000)
  · exact absurd (by rw [if_pos h0]; rfl) h
  by_cases h1 : nI 1000 < x
  · exact absurd (by rw [if_neg h0, if_pos h1]; rfl) h
  rw [Int32.lt_iff_toInt_lt] at h0 h1
  rw [show (-(nI 1000) : Int32).toInt = -1000 by decide] at h0
  rw [show (nI 1000 : Int32).toInt = 1000 by decide] at h1
  omega
theorem kW_to {x : Int32} (h0 : -1000 ≤ x.toInt) (h1 : x.toInt ≤ 1000) : ¬ k_isWithin x (nI 1000) = 0 := by
  unfold k_isWithin
  rw [if_neg (by rw [Int32.lt_iff_toInt_lt, show (-(nI 1000) : Int32).toInt = -1000 by decide]; omega), if_neg (by rw [Int32.lt_iff_toInt_lt, show (nI 1000 : Int32).toInt = 1000 by decide]; omega)]
  decide
set_option maxHeartbeats 4000000 in
set_option maxRecDepth 100000 in
theorem cT_best (l : Launch) (D : va_G) (cy : Nat → ClassId) (ad xa : Nat → Nat) (S : DS) (P O : CS) (sz : Nat) {F : DS → Prop} (hF0 : F S) (hF : ∀ v0 : Nat, v0 < 6 → kOkF v0 F) (v a2 a3 : Int32) : Met l yX8_best wsX8_best (rm9 7 190) (gPc D cy (wD cy ad S ++ wX cy ad xa P O) sz [.ref (xa 0), .int v, .int a2, .int a3]) (gQi D cy (wD cy ad S ++ wX cy ad xa P O) sz (fun r _ => r = (if k_isVariable v = 0 then -1 else if k_isWithin a2 (nI 1000) = 0 then -2 else if a3 < a2 then -2 else if a2 + nI 15 < a3 then -2 else if nI 1000 < a3 then -2 else a2 + nI 10000))) 0 0 (va_A (wD cy ad S ++ wX cy ad xa P O) sz) := by
  refine gHead (cc := cX8_best) (maxL := 6) (ret := (some .int)) (by decide) rfl (Nat.le_of_ble_eq_true rfl) ?_
  intro p e s m below meth c ls hx hb hr hlocks hml hown hts hsz hP hK hD hS hA hl
  have hown : s.vm.findClass RX8 = some m.cls := hown
  have hinX8 : ∀ w ∈ u_ws RX8 TX8 11, w ∈ wsX8_best := by decide +kernel
  have hl : lv_has ls 6 [(0, .ref (xa 0)), (1, .int v), (2, .int a2), (3, .int a3)] := hl
  refine lv_iload_n hx hb dX8_best_0 rfl (lv_at hl 1 rfl) ?_
  refine pCalli (As := [.int v]) (rest := []) hx hb hml hown hts hP hS hA hl.1 (cS_isVariable l _ v) (va_cwS 1 hts gX8_best_X8_isVariable rfl rfl rfl (by decide +kernel) ⟨Nat.le_of_ble_eq_true rfl, Nat.le_of_ble_eq_true rfl⟩) rfl rfl (Nat.le_of_ble_eq_true rfl) ⟨Nat.le_of_ble_eq_true rfl, Nat.le_of_ble_eq_true rfl⟩ dX8_best_1 (fun r1 H locs e1 hP hS => ?_)
  rw [show r1 = k_isVariable v from e1]
  refine lv_if_ne (tgt := 9) hx hb dX8_best_4 (by decide) (fun c2 => ?_) (fun c2 => ?_)
  · skip
    refine lv_iload_n hx hb dX8_best_9 rfl (lv_at hl 2 rfl) ?_
    refine lv_sipush (v := nI 1000) hx hb dX8_best_10 (by decide) ?_
    refine pCalli (As := [.int a2, .int (nI 1000)]) (rest := []) hx hb hml hown hts hP hS hA hl.1 (cS_isWithin l _ a2 (nI 1000)) (va_cwS 2 hts gX8_best_X8_isWithin rfl rfl rfl (by decide +kernel) ⟨Nat.le_of_ble_eq_true rfl, Nat.le_of_ble_eq_true rfl⟩) rfl rfl (Nat.le_of_ble_eq_true rfl) ⟨Nat.le_of_ble_eq_true rfl, Nat.le_of_ble_eq_true rfl⟩ dX8_best_13 (fun r3 H locs e3 hP hS => ?_)
    rw [show r3 = k_isWithin a2 (nI 1000) from e3]
    refine lv_if_eq (tgt := 39) hx hb dX8_best_16 (by decide) (fun c4 => ?_) (fun c4 => ?_)
    · skip
      refine lv_bipush (v := (-2)) hx hb dX8_best_39 (by decide) ?_
      exact W.iret hx hb hr (fun t ht hW => ⟨⟨_, _, rfl, by simp_all, by rw [ht]; exact hP, va_K.moved hW.alike hK, hD⟩, hS.F ht⟩) hS.2.2 dX8_best_41
    · skip
      refine lv_iload_n hx hb dX8_best_19 rfl (lv_at hl 3 rfl) ?_
      refine lv_iload_n hx hb dX8_best_20 rfl (lv_at hl 2 rfl) ?_
      refine lv_icmp_lt (tgt := 39) hx hb dX8_best_21 (by decide) (fun c5 => ?_) (fun c5 => ?_)
      · skip
        refine lv_bipush (v := (-2)) hx hb dX8_best_39 (by decide) ?_
        exact W.iret hx hb hr (fun t ht hW => ⟨⟨_, _, rfl, by simp_all, by rw [ht]; exact hP, va_K.moved hW.alike hK, hD⟩, hS.F ht⟩) hS.2.2 dX8_best_41
      · skip
        refine lv_iload_n hx hb dX8_best_24 rfl (lv_at hl 3 rfl) ?_
        refine lv_iload_n hx hb dX8_best_25 rfl (lv_at hl 2 rfl) ?_
        refine lv_bipush (v := nI 15) hx hb dX8_best_26 (by decide) ?_
        refine lv_iadd hx hb dX8_best_28 ?_
        refine lv_icmp_gt (tgt := 39) hx hb dX8_best_29 (by decide) (fun c6 => ?_) (fun c6 => ?_)
        · skip
          refine lv_bipush (v := (-2)) hx hb dX8_best_39 (by decide) ?_
          exact W.iret hx hb hr (fun t ht hW => ⟨⟨_, _, rfl, by simp_all, by rw [ht]; exact hP, va_K.moved hW.alike hK, hD⟩, hS.F ht⟩) hS.2.2 dX8_best_41
        · skip
          refine lv_iload_n hx hb dX8_best_32 rfl (lv_at hl 3 rfl) ?_
          refine lv_sipush (v := nI 1000) hx hb dX8_best_33 (by decide) ?_
          refine lv_icmp_le (tgt := 42) hx hb dX8_best_36 (by decide) (fun c7 => ?_) (fun c7 => ?_)
          · skip
            obtain ⟨v0, hv0, hve⟩ := k_isVariable_ix c2
            have qq8 : v.toNatClampNeg = v0 := (by rw [hve, nI_clamp (by omega)])
            rw [hve] at hl
            obtain ⟨hw1, hw2⟩ := kW_of c4
            have hb1 : a2.toInt ≤ a3.toInt := by have := c5; rw [Int32.lt_iff_toInt_lt] at this; omega
            have hb2 : a3.toInt ≤ 1000 := by have := Int32.le_iff_toInt_le.mp c7; rw [show (nI 1000 : Int32).toInt = 1000 by decide] at this; exact this
            refine lv_bipush (v := (-6)) hx hb dX8_best_42 (by decide) ?_
            refine lv_istore (lv' := [(4, .int (-6)), (0, .ref (xa 0)), (1, .int (nI v0)), (2, .int a2), (3, .int a3)]) hx hb dX8_best_44 hl (by decide) rfl (fun ls hl => ?_)
            refine lv_iload_n hx hb dX8_best_46 rfl (lv_at hl 3 rfl) ?_
            refine lv_istore (lv' := [(5, .int a2), (4, .int (-6)), (0, .ref (xa 0)), (1, .int (nI v0)), (2, .int a2), (3, .int a3)]) hx hb dX8_best_47 hl (by decide) rfl (fun ls hl => ?_)
            have L49 : ∀ (n : Nat) (x found : Int32) (S7 : DS) (P7 O7 : CS) (H : Heap) (locs : List Loc) (ls : Array Slot), a3.toInt + 1 - x.toInt = n → a2.toInt ≤ x.toInt → F S7 → ((x = a2 ∧ found = -6) ∨ (found = a2 + nI 10000 ∧ ∀ s : Nat, s < 4 → P7.1 s = 0)) → va_P D vwCl (wD cy ad S7 ++ wX cy ad xa P7 O7) H → va_D (va_A (wD cy ad S ++ wX cy ad xa P O) sz) (wD cy ad S7 ++ wX cy ad xa P7 O7) → va_S (va_A (wD cy ad S ++ wX cy ad xa P O) sz) s.heap H locs → lv_has ls 6 [(5, .int x), (4, .int found), (1, .int (nI v0)), (0, .ref (xa 0)), (2, .int a2), (3, .int a3)] → W p l e (headSpec wsX8_best (rm9 7 190)).room s m ([.ref (xa 0), .int v, .int a2, .int a3] : List Value).toArray below meth c H locs 0 0 (MQ below (gQi D cy (wD cy ad S ++ wX cy ad xa P O) sz (fun r _ => r = (if k_isVariable v = 0 then -1 else if k_isWithin a2 (nI 1000) = 0 then -2 else if a3 < a2 then -2 else if a2 + nI 15 < a3 then -2 else if nI 1000 < a3 then -2 else a2 + nI 10000))) ([.ref (xa 0), .int v, .int a2, .int a3] : List Value).toArray s 0 0 (va_A (wD cy ad S ++ wX cy ad xa P O) sz)) (F0 m 49 ls []) := by
              intro n
              induction n with
              | zero =>
                intro x found S7 P7 O7 H locs ls hn hx2 hFS hfo hP hD hS hl
                refine lv_iload hx hb dX8_best_49 (lv_at hl 0 rfl) ?_
                refine lv_iload_n hx hb dX8_best_51 rfl (lv_at hl 5 rfl) ?_
                refine lv_icmp_gt (tgt := 122) hx hb dX8_best_52 (by decide) (fun c8 => ?_) (fun c8 => ?_)
                · skip
                  obtain rfl : found = a2 + nI 10000 := by
                    rcases hfo with ⟨h9, h8⟩ | ⟨h9, h8⟩
                    · rw [h9] at hn; omega
                    · exact h9
                  refine lv_iload hx hb dX8_best_122 (lv_at hl 1 rfl) ?_
                  exact W.iret hx hb hr (fun t ht hW => ⟨⟨_, _, rfl, by rw [if_neg c2, if_neg c4, if_neg c5, if_neg c6, if_neg (Int32.not_lt.mpr c7)], by rw [ht]; exact hP, va_K.moved hW.alike hK, hD⟩, hS.F ht⟩) hS.2.2 dX8_best_124
                · skip
                  exact absurd (show a3 < x by rw [Int32.lt_iff_toInt_lt]; omega) c8
              | succ n ih =>
                intro x found S7 P7 O7 H locs ls hn hx2 hFS hfo hP hD hS hl
                obtain ⟨hF2, hF3, hF4⟩ := hF v0 hv0 S7 x hFS (kW_to (by omega) (by omega))
                rcases hfo with ⟨hxa, rfl⟩ | ⟨rfl, hp9⟩
                ·
                  refine lv_iload hx hb dX8_best_49 (lv_at hl 0 rfl) ?_
                  refine lv_iload_n hx hb dX8_best_51 rfl (lv_at hl 5 rfl) ?_
                  refine lv_icmp_gt (tgt := 122) hx hb dX8_best_52 (by decide) (fun c9 => ?_) (fun c9 => ?_)
                  · skip
                    exact absurd c9 (by rw [Int32.lt_iff_toInt_lt]; omega)
                  · skip
                    refine lv_aload_n hx hb dX8_best_55 rfl (lv_at hl 3 rfl) ?_
                    refine lv_iload_n hx hb dX8_best_56 rfl (lv_at hl 2 rfl) ?_
                    refine lv_iload hx hb dX8_best_57 (lv_at hl 0 rfl) ?_
                    refine lv_aload_n hx hb dX8_best_59 rfl (lv_at hl 3 rfl) ?_
                    refine va_get (v := .ref (xa 15)) (ci := 8) (C := RX8) (T := TX8) (N := 11) hx hb hts hinX8 hown hK hP 43 (wX_0) rfl 9 (by decide) (hts (.fieldLink RX8 62 "LayoutSolver" "other" "LLayoutSolver$Costs;") (by decide +kernel)) (fun x h => h) rfl dX8_best_60 ?_
                    refine gCallv (ws := wD cy ad S7 ++ wX cy ad xa P7 O7) (As := [.int (nI v0), .int x, .ref (xa 15)]) (rest := []) (q0 := 43) (r0 := (RX8, TX8, 11)) hx hb hml hown hts hK hP hD hS hA hl.1 wX_0 rfl (cF_atO l D cy ad xa S7 P7 O7 _ hv0 x) (cwV 3 hts gX8_best_X8_findCostsAt rfl rfl rfl (by decide +kernel) ⟨Nat.le_of_ble_eq_true rfl, Nat.le_of_ble_eq_true rfl⟩) rfl rfl (Nat.le_of_ble_eq_true rfl) ⟨Nat.le_of_ble_eq_true rfl, Nat.le_of_ble_eq_true rfl⟩ dX8_best_63 (fun ws9 H locs e10 hP hD hS => ?_)
                    obtain ⟨S10, hS10, T10, hT10, e10⟩ := e10
                    rw [show ws9 = _ from e10] at hP hD
                    have hP : va_P D vwCl (wD cy ad T10 ++ wX cy ad xa P7 (kCo S10 O7)) H := hP
                    have hD : va_D (va_A (wD cy ad S ++ wX cy ad xa P O) sz) (wD cy ad T10 ++ wX cy ad xa P7 (kCo S10 O7)) := hD
                    rw [← hS10] at hF2 hF3 hF4
                    rw [← hT10] at hF2
                    have hz9 : ∀ s : Nat, s < 4 → (kCo S10 O7).1 s = 0 := fun s hs => hF4 _ s hs
                    refine lv_aload_n hx hb dX8_best_66 rfl (lv_at hl 3 rfl) ?_
                    refine va_get (v := .ref (xa 15)) (ci := 8) (C := RX8) (T := TX8) (N := 11) hx hb hts hinX8 hown hK hP 43 (wX_0) rfl 9 (by decide) (hts (.fieldLink RX8 62 "LayoutSolver" "other" "LLayoutSolver$Costs;") (by decide +kernel)) (fun x h => h) rfl dX8_best_67 ?_
                    have hz11 : wZ (wD cy ad T10 ++ wX cy ad xa P7 (kCo S10 O7)) 58 59 (xa 15, .inr (2, [.ref (xa 16), .long (kCo S10 O7).2])) (xa 16, .inl (cy 2, 4, .inr (.inl (kCo S10 O7).1))) = wD cy ad T10 ++ wX cy ad xa P7 (kCo S10 O7) := wZ_self wX_15 wX_16
                    rw [← hz11] at hP hD
                    refine gCalli (ws := wZ (wD cy ad T10 ++ wX cy ad xa P7 (kCo S10 O7)) 58 59 (xa 15, .inr (2, [.ref (xa 16), .long (kCo S10 O7).2])) (xa 16, .inl (cy 2, 4, .inr (.inl (kCo S10 O7).1)))) (As := []) (rest := []) (q0 := 58) (r0 := (RX2, TX2, 2)) hx hb hml hown hts hK hP hD hS hA hl.1 (wZ_i (by rw [wX_len2]; omega)) rfl (cC_isFeasible l D cy _ (by omega) (by rw [wX_len2]; omega) (by rw [wX_len2]; omega) _ _ _) (cwV 0 hts gX8_best_X2_isFeasible rfl rfl rfl (by decide +kernel) ⟨Nat.le_of_ble_eq_true rfl, Nat.le_of_ble_eq_true rfl⟩) rfl rfl (Nat.le_of_ble_eq_true rfl) ⟨Nat.le_of_ble_eq_true rfl, Nat.le_of_ble_eq_true rfl⟩ dX8_best_70 (fun r11 ws11 H locs e11 hP hD hS => ?_)
                    obtain ⟨e11a, e11b⟩ := e11
                    rw [show ws11 = wD cy ad T10 ++ wX cy ad xa P7 (kCo S10 O7) from e11b.trans hz11] at hP hD
                    rw [show r11 = (if ¬ lg_cmp ((kCo S10 O7).1 0) 0 = 0 then nI 0 else nI 1) from e11a]
                    rw [show (if ¬ lg_cmp ((kCo S10 O7).1 0) 0 = 0 then nI 0 else nI 1) = nI 1 from by rw [hz9 0 (by omega)]; rfl]
                    refine lv_if_eq (tgt := 116) hx hb dX8_best_73 (by decide) (fun c12 => ?_) (fun c12 => ?_)
                    · exact absurd c12 (by decide)
                    · skip
                      refine lv_iload hx hb dX8_best_76 (lv_at hl 1 rfl) ?_
                      refine lv_bipush (v := (-6)) hx hb dX8_best_78 (by decide) ?_
                      refine lv_icmp_eq (tgt := 97) hx hb dX8_best_80 (by decide) (fun c80 => ?_) (fun c80 => absurd rfl c80)
                      refine lv_iload hx hb dX8_best_97 (lv_at hl 0 rfl) ?_
                      refine lv_sipush (v := nI 10000) hx hb dX8_best_99 (by decide) ?_
                      refine lv_iadd hx hb dX8_best_102 ?_
                      refine lv_istore (lv' := [(4, .int (x + (nI 10000))), (5, .int x), (1, .int (nI v0)), (0, .ref (xa 0)), (2, .int a2), (3, .int a3)]) hx hb dX8_best_103 hl (by decide) rfl (fun ls hl => ?_)
                      refine lv_aload_n hx hb dX8_best_105 rfl (lv_at hl 3 rfl) ?_
                      refine va_get (v := .ref (xa 13)) (ci := 8) (C := RX8) (T := TX8) (N := 11) hx hb hts hinX8 hown hK hP 43 (wX_0) rfl 8 (by decide) (hts (.fieldLink RX8 58 "LayoutSolver" "present" "LLayoutSolver$Costs;") (by decide +kernel)) (fun x h => h) rfl dX8_best_106 ?_
                      refine lv_aload_n hx hb dX8_best_109 rfl (lv_at hl 3 rfl) ?_
                      refine va_get (v := .ref (xa 15)) (ci := 8) (C := RX8) (T := TX8) (N := 11) hx hb hts hinX8 hown hK hP 43 (wX_0) rfl 9 (by decide) (hts (.fieldLink RX8 62 "LayoutSolver" "other" "LLayoutSolver$Costs;") (by decide +kernel)) (fun x h => h) rfl dX8_best_110 ?_
                      have hz8 := hz9
                      replace hz9 : ∀ s : Nat, s < 4 → lpN (fCp (kCo S10 O7).1) 4 0 P7.1 s = 0 := fun s hs => (fCp4 hs).trans (hz8 s hs)
                      refine gCallv (ws := wD cy ad T10 ++ wX cy ad xa P7 (kCo S10 O7)) (As := [.ref (xa 15)]) (rest := []) (q0 := 56) (r0 := (RX2, TX2, 2)) hx hb hml hown hts hK hP hD hS hA hl.1 wX_13 rfl (cC_copyPO l D cy ad xa T10 P7 (kCo S10 O7) _) (cwV 1 hts gX8_best_X2_copy rfl rfl rfl (by decide +kernel) ⟨Nat.le_of_ble_eq_true rfl, Nat.le_of_ble_eq_true rfl⟩) rfl rfl (Nat.le_of_ble_eq_true rfl) ⟨Nat.le_of_ble_eq_true rfl, Nat.le_of_ble_eq_true rfl⟩ dX8_best_113 (fun ws9 H locs e9 hP hD hS => ?_)
                      rw [show ws9 = wD cy ad T10 ++ wX cy ad xa (lpN (fCp (kCo S10 O7).1) 4 0 P7.1, (kCo S10 O7).2) (kCo S10 O7) from e9] at hP hD
                      refine lv_iinc (v := x + 1) (lv' := [(5, .int (x + 1)), (4, .int (x + (nI 10000))), (1, .int (nI v0)), (0, .ref (xa 0)), (2, .int a2), (3, .int a3)]) hx hb dX8_best_116 hl (k := 1) rfl rfl (by decide) rfl (fun ls hl => ?_)
                      refine lv_goto (tgt := 49) hx hb dX8_best_119 (by decide) ?_
                      exact ih _ _ _ _ _ _ _ _ (by rw [i32_s (by omega) (by omega)]; omega) (by rw [i32_s (by omega) (by omega)]; omega) hF2 (Or.inr ⟨by rw [hxa], hz9⟩) hP hD hS (lv_sub hl [0, 1, 2, 3, 4, 5] rfl)
                ·
                  refine lv_iload hx hb dX8_best_49 (lv_at hl 0 rfl) ?_
                  refine lv_iload_n hx hb dX8_best_51 rfl (lv_at hl 5 rfl) ?_
                  refine lv_icmp_gt (tgt := 122) hx hb dX8_best_52 (by decide) (fun c13 => ?_) (fun c13 => ?_)
                  · skip
                    exact absurd c13 (by rw [Int32.lt_iff_toInt_lt]; omega)
                  · skip
                    refine lv_aload_n hx hb dX8_best_55 rfl (lv_at hl 3 rfl) ?_
                    refine lv_iload_n hx hb dX8_best_56 rfl (lv_at hl 2 rfl) ?_
                    refine lv_iload hx hb dX8_best_57 (lv_at hl 0 rfl) ?_
                    refine lv_aload_n hx hb dX8_best_59 rfl (lv_at hl 3 rfl) ?_
                    refine va_get (v := .ref (xa 15)) (ci := 8) (C := RX8) (T := TX8) (N := 11) hx hb hts hinX8 hown hK hP 43 (wX_0) rfl 9 (by decide) (hts (.fieldLink RX8 62 "LayoutSolver" "other" "LLayoutSolver$Costs;") (by decide +kernel)) (fun x h => h) rfl dX8_best_60 ?_
                    refine gCallv (ws := wD cy ad S7 ++ wX cy ad xa P7 O7) (As := [.int (nI v0), .int x, .ref (xa 15)]) (rest := []) (q0 := 43) (r0 := (RX8, TX8, 11)) hx hb hml hown hts hK hP hD hS hA hl.1 wX_0 rfl (cF_atO l D cy ad xa S7 P7 O7 _ hv0 x) (cwV 3 hts gX8_best_X8_findCostsAt rfl rfl rfl (by decide +kernel) ⟨Nat.le_of_ble_eq_true rfl, Nat.le_of_ble_eq_true rfl⟩) rfl rfl (Nat.le_of_ble_eq_true rfl) ⟨Nat.le_of_ble_eq_true rfl, Nat.le_of_ble_eq_true rfl⟩ dX8_best_63 (fun ws9 H locs e14 hP hD hS => ?_)
                    obtain ⟨S14, hS14, T14, hT14, e14⟩ := e14
                    rw [show ws9 = _ from e14] at hP hD
                    have hP : va_P D vwCl (wD cy ad T14 ++ wX cy ad xa P7 (kCo S14 O7)) H := hP
                    have hD : va_D (va_A (wD cy ad S ++ wX cy ad xa P O) sz) (wD cy ad T14 ++ wX cy ad xa P7 (kCo S14 O7)) := hD
                    rw [← hS14] at hF2 hF3 hF4
                    rw [← hT14] at hF2
                    have hz9 : ∀ s : Nat, s < 4 → (kCo S14 O7).1 s = 0 := fun s hs => hF4 _ s hs
                    refine lv_aload_n hx hb dX8_best_66 rfl (lv_at hl 3 rfl) ?_
                    refine va_get (v := .ref (xa 15)) (ci := 8) (C := RX8) (T := TX8) (N := 11) hx hb hts hinX8 hown hK hP 43 (wX_0) rfl 9 (by decide) (hts (.fieldLink RX8 62 "LayoutSolver" "other" "LLayoutSolver$Costs;") (by decide +kernel)) (fun x h => h) rfl dX8_best_67 ?_
                    have hz15 : wZ (wD cy ad T14 ++ wX cy ad xa P7 (kCo S14 O7)) 58 59 (xa 15, .inr (2, [.ref (xa 16), .long (kCo S14 O7).2])) (xa 16, .inl (cy 2, 4, .inr (.inl (kCo S14 O7).1))) = wD cy ad T14 ++ wX cy ad xa P7 (kCo S14 O7) := wZ_self wX_15 wX_16
                    rw [← hz15] at hP hD
                    refine gCalli (ws := wZ (wD cy ad T14 ++ wX cy ad xa P7 (kCo S14 O7)) 58 59 (xa 15, .inr (2, [.ref (xa 16), .long (kCo S14 O7).2])) (xa 16, .inl (cy 2, 4, .inr (.inl (kCo S14 O7).1)))) (As := []) (rest := []) (q0 := 58) (r0 := (RX2, TX2, 2)) hx hb hml hown hts hK hP hD hS hA hl.1 (wZ_i (by rw [wX_len2]; omega)) rfl (cC_isFeasible l D cy _ (by omega) (by rw [wX_len2]; omega) (by rw [wX_len2]; omega) _ _ _) (cwV 0 hts gX8_best_X2_isFeasible rfl rfl rfl (by decide +kernel) ⟨Nat.le_of_ble_eq_true rfl, Nat.le_of_ble_eq_true rfl⟩) rfl rfl (Nat.le_of_ble_eq_true rfl) ⟨Nat.le_of_ble_eq_true rfl, Nat.le_of_ble_eq_true rfl⟩ dX8_best_70 (fun r15 ws15 H locs e15 hP hD hS => ?_)
                    obtain ⟨e15a, e15b⟩ := e15
                    rw [show ws15 = wD cy ad T14 ++ wX cy ad xa P7 (kCo S14 O7) from e15b.trans hz15] at hP hD
                    rw [show r15 = (if ¬ lg_cmp ((kCo S14 O7).1 0) 0 = 0 then nI 0 else nI 1) from e15a]
                    rw [show (if ¬ lg_cmp ((kCo S14 O7).1 0) 0 = 0 then nI 0 else nI 1) = nI 1 from by rw [hz9 0 (by omega)]; rfl]
                    refine lv_if_eq (tgt := 116) hx hb dX8_best_73 (by decide) (fun c16 => ?_) (fun c16 => ?_)
                    · exact absurd c16 (by decide)
                    · skip
                      refine lv_iload hx hb dX8_best_76 (lv_at hl 1 rfl) ?_
                      refine lv_bipush (v := (-6)) hx hb dX8_best_78 (by decide) ?_
                      refine lv_icmp_eq (tgt := 97) hx hb dX8_best_80 (by decide) (fun c80 => absurd (congrArg Int32.toInt c80) (by rw [i32_a (by omega) (by omega) (by omega), show (-6 : Int32).toInt = -6 by decide]; omega)) (fun c80 => ?_)
                      refine lv_aload_n hx hb dX8_best_83 rfl (lv_at hl 3 rfl) ?_
                      refine va_get (v := .ref (xa 15)) (ci := 8) (C := RX8) (T := TX8) (N := 11) hx hb hts hinX8 hown hK hP 43 (wX_0) rfl 9 (by decide) (hts (.fieldLink RX8 62 "LayoutSolver" "other" "LLayoutSolver$Costs;") (by decide +kernel)) (fun x h => h) rfl dX8_best_84 ?_
                      refine lv_aload_n hx hb dX8_best_87 rfl (lv_at hl 3 rfl) ?_
                      refine va_get (v := .ref (xa 13)) (ci := 8) (C := RX8) (T := TX8) (N := 11) hx hb hts hinX8 hown hK hP 43 (wX_0) rfl 8 (by decide) (hts (.fieldLink RX8 58 "LayoutSolver" "present" "LLayoutSolver$Costs;") (by decide +kernel)) (fun x h => h) rfl dX8_best_88 ?_
                      refine gCalli (ws := wD cy ad T14 ++ wX cy ad xa P7 (kCo S14 O7)) (As := [.ref (xa 13)]) (rest := []) (q0 := 58) (r0 := (RX2, TX2, 2)) hx hb hml hown hts hK hP hD hS hA hl.1 (wX_15) rfl (cC_cmpOP0 l D cy ad xa T14 P7 (kCo S14 O7) _ hp9 hz9) (cwV 1 hts gX8_best_X2_compareWith rfl rfl rfl (by decide +kernel) ⟨Nat.le_of_ble_eq_true rfl, Nat.le_of_ble_eq_true rfl⟩) rfl rfl (Nat.le_of_ble_eq_true rfl) ⟨Nat.le_of_ble_eq_true rfl, Nat.le_of_ble_eq_true rfl⟩ dX8_best_91 (fun r17 ws17 H locs e17 hP hD hS => ?_)
                      obtain ⟨e17a, e17b⟩ := e17
                      rw [e17b] at hP hD
                      rw [show r17 = nI 0 from e17a]
                      have hP : va_P D vwCl (wD cy ad T14 ++ wX cy ad xa P7 (kCo S14 O7)) H := hP
                      have hD : va_D (va_A (wD cy ad S ++ wX cy ad xa P O) sz) (wD cy ad T14 ++ wX cy ad xa P7 (kCo S14 O7)) := hD
                      refine lv_if_ge (tgt := 116) hx hb dX8_best_94 (by decide) (fun c18 => ?_) (fun c18 => ?_)
                      · skip
                        refine lv_iinc (v := x + 1) (lv' := [(5, .int (x + 1)), (4, .int (a2 + nI 10000)), (1, .int (nI v0)), (0, .ref (xa 0)), (2, .int a2), (3, .int a3)]) hx hb dX8_best_116 hl (k := 0) rfl rfl (by decide) rfl (fun ls hl => ?_)
                        refine lv_goto (tgt := 49) hx hb dX8_best_119 (by decide) ?_
                        exact ih _ _ _ _ _ _ _ _ (by rw [i32_s (by omega) (by omega)]; omega) (by rw [i32_s (by omega) (by omega)]; omega) hF2 (Or.inr ⟨rfl, hp9⟩) hP hD hS (lv_sub hl [0, 1, 2, 3, 4, 5] rfl)
                      · exact absurd c18 (by decide)
            exact L49 _ _ _ _ _ _ _ _ _ (by rw [Int.toNat_of_nonneg]; omega) (Int.le_refl _) hF0 (Or.inl ⟨rfl, rfl⟩) hP hD hS (lv_sub hl [0, 1, 3, 2, 4, 5] rfl)
          · skip
            refine lv_bipush (v := (-2)) hx hb dX8_best_39 (by decide) ?_
            exact W.iret hx hb hr (fun t ht hW => ⟨⟨_, _, rfl, by simp_all, by rw [ht]; exact hP, va_K.moved hW.alike hK, hD⟩, hS.F ht⟩) hS.2.2 dX8_best_41
  · skip
    refine lv_iconst (v := -1) hx hb dX8_best_7 (by decide) ?_
    exact W.iret hx hb hr (fun t ht hW => ⟨⟨_, _, rfl, by simp_all, by rw [ht]; exact hP, va_K.moved hW.alike hK, hD⟩, hS.F ht⟩) hS.2.2 dX8_best_8
