/-! going to a point, asking there, lifting a row, the limits -/
def kGo (S : DS) (r : Nat) (b lv : Int32) : DS := kDes S (nI r) (if b = 0 then -1 else nI 1) lv
def fVi (S : DS) (k : Nat) (v : Int64) : Int64 := if dI S 2 k = 0 then v else if ¬ dI S 4 k = 0 then v else v + kCost S k
def kVio (S : DS) : Int64 := lpN (fVi S) 27 0 0
/-- isFeasible: the state behind it, and the answer -/
def kFe (S : DS) : DS := kDes S (-1) (nI 1) (nI 1)
def kFeB (S : DS) : Int32 := if ¬ lg_cmp (kVio (kFe S)) 0 = 0 then nI 0 else nI 1
def kNum (S : DS) (r : Nat) : Int64 := dRo S r 6 + (dI S 3 r).toInt64 * dSc S
def kSgn (S : DS) (r : Nat) : Int32 := cmpL (dRo S r 6) 0
def kLift1 (S : DS) (r : Nat) : DS := sI (sI S 8 r (-1)) 2 r (nI 0)
/-- lift -/
def kLift (S : DS) (row : Int32) : DS := if row < 0 then S else if nI 14 < row then S else if dI S 8 row.toNatClampNeg < 0 then kLift1 S row.toNatClampNeg else if nI 6 ≤ dI S 8 row.toNatClampNeg then kLift1 S row.toNatClampNeg
  else kLift1 (sI S 9 (dI S 8 row.toNatClampNeg).toNatClampNeg (-1)) row.toNatClampNeg
/-- startLimit -/
def kLim (S : DS) (r c : Nat) (x : Int32) : DS := sI (sI (sI (sI (sI (sRo (sRo S r c 1) r 6 (-x).toInt64) 2 r (nI 1)) 3 r x) 5 r (if x ≤ 0 then nI 0 else nI 1)) 6 r (if x ≤ 0 then nI 1 else nI 0)) 7 r (if x ≤ 0 then nI 1 else -1)
set_option maxHeartbeats 4000000 in
set_option maxRecDepth 100000 in
theorem cD_settle (l : Launch) (D : va_G) (cy : Nat → ClassId) (ad : Nat → Nat) (X : va_W) (S : DS) (sz : Nat)  : Met l yX3_settle wsX3_settle (rm9 4 106) (dPc D cy ad X S sz [.ref (ad 0)]) (dQv D cy ad X S sz (fun S' => S' = kDes S (-1) (nI 1) (nI 4))) 0 0 (dA cy ad X S sz) := by
  refine dHead (cc := cX3_settle) (maxL := 1) (ret := none) (by decide) rfl (Nat.le_of_ble_eq_true rfl) ?_
  intro p e s m below meth c ls hx hb hr hlocks hml hown hts hsz hP hK hD hS hA hl
  have hin : ∀ w ∈ u_ws RX3 TX3 12, w ∈ wsX3_settle := by decide +kernel
  have hown : s.vm.findClass RX3 = some m.cls := hown
  have hl : lv_has ls 1 [(0, .ref (ad 0))] := hl
  refine lv_aload_n hx hb dX3_settle_0 rfl (lv_at hl 0 rfl) ?_
  refine lv_iconst (v := -1) hx hb dX3_settle_1 (by decide) ?_
  refine lv_iconst (v := nI 1) hx hb dX3_settle_2 (by decide) ?_
  refine lv_iconst (v := nI 4) hx hb dX3_settle_3 (by decide) ?_
  refine dCallv (As := [.int (-1), .int (nI 1), .int (nI 4)]) (rest := []) hx hb hml hown hts hK hP hD hS hA hl.1 (cD_descend l D cy ad _ _ _ (-1) (nI 1) (nI 4) (Or.inl rfl)) (cwV 3 hts gX3_settle_X3_descend rfl rfl rfl (by decide +kernel) ⟨Nat.le_of_ble_eq_true rfl, Nat.le_of_ble_eq_true rfl⟩) rfl rfl (Nat.le_of_ble_eq_true rfl) ⟨Nat.le_of_ble_eq_true rfl, Nat.le_of_ble_eq_true rfl⟩ dX3_settle_4 (fun S1 H locs e1 hP hD hS => ?_)
  rw [show S1 = _ from e1] at hP hD
  exact W.vret hx hb hr (fun t ht hW => ⟨⟨_, rfl, rfl, by rw [ht]; exact hP, va_K.moved hW.alike hK, hD⟩, hS.F ht⟩) hS.2.2 dX3_settle_7
set_option maxHeartbeats 4000000 in
set_option maxRecDepth 100000 in
theorem cD_goTo (l : Launch) (D : va_G) (cy : Nat → ClassId) (ad : Nat → Nat) (X : va_W) (S : DS) (sz : Nat) {r0 : Nat} (hr0 : r0 < 27) (b lv : Int32) : Met l yX3_goTo wsX3_goTo (rm9 4 106) (dPc D cy ad X S sz [.ref (ad 0), .int (nI r0), .int b, .int lv]) (dQv D cy ad X S sz (fun S' => S' = kGo S r0 b lv)) 0 0 (dA cy ad X S sz) := by
  refine dHead (cc := cX3_goTo) (maxL := 4) (ret := none) (by decide) rfl (Nat.le_of_ble_eq_true rfl) ?_
  intro p e s m below meth c ls hx hb hr hlocks hml hown hts hsz hP hK hD hS hA hl
  have hin : ∀ w ∈ u_ws RX3 TX3 12, w ∈ wsX3_goTo := by decide +kernel
  have hown : s.vm.findClass RX3 = some m.cls := hown
  have hl : lv_has ls 4 [(0, .ref (ad 0)), (1, .int (nI r0)), (2, .int b), (3, .int lv)] := hl
  refine lv_aload_n hx hb dX3_goTo_0 rfl (lv_at hl 0 rfl) ?_
  refine lv_iload_n hx hb dX3_goTo_1 rfl (lv_at hl 1 rfl) ?_
  refine lv_if_lt (tgt := 11) hx hb dX3_goTo_2 (by decide) (fun c1 => ?_) (fun c1 => ?_)
  · exact absurd c1 (nI_pos (by omega))
  · skip
    refine lv_iload_n hx hb dX3_goTo_5 rfl (lv_at hl 1 rfl) ?_
    refine lv_bipush (v := nI 27) hx hb dX3_goTo_6 (by decide) ?_
    refine lv_icmp_lt (tgt := 15) hx hb dX3_goTo_8 (by decide) (fun c2 => ?_) (fun c2 => ?_)
    · rw [nI_ltI (by omega) (by omega)] at c2
      refine lv_iload_n hx hb dX3_goTo_15 rfl (lv_at hl 1 rfl) ?_
      refine lv_iload_n hx hb dX3_goTo_16 rfl (lv_at hl 2 rfl) ?_
      refine lv_if_eq (tgt := 24) hx hb dX3_goTo_17 (by decide) (fun c3 => ?_) (fun c3 => ?_)
      · skip
        refine lv_iconst (v := -1) hx hb dX3_goTo_24 (by decide) ?_
        refine lv_iload_n hx hb dX3_goTo_25 rfl (lv_at hl 3 rfl) ?_
        refine dCallv (As := [.int (nI r0), .int (-1), .int lv]) (rest := []) hx hb hml hown hts hK hP hD hS hA hl.1 (cD_descend l D cy ad _ _ _ (nI r0) (-1) lv (Or.inr ⟨r0, hr0, rfl⟩)) (cwV 3 hts gX3_goTo_X3_descend rfl rfl rfl (by decide +kernel) ⟨Nat.le_of_ble_eq_true rfl, Nat.le_of_ble_eq_true rfl⟩) rfl rfl (Nat.le_of_ble_eq_true rfl) ⟨Nat.le_of_ble_eq_true rfl, Nat.le_of_ble_eq_true rfl⟩ dX3_goTo_26 (fun S4 H locs e4 hP hD hS => ?_)
        rw [show S4 = _ from e4] at hP hD
        exact W.vret hx hb hr (fun t ht hW => ⟨⟨_, rfl, by simp [kGo, c1, c3, c2], by rw [ht]; exact hP, va_K.moved hW.alike hK, hD⟩, hS.F ht⟩) hS.2.2 dX3_goTo_29
      · skip
        refine lv_iconst (v := nI 1) hx hb dX3_goTo_20 (by decide) ?_
        refine lv_goto (tgt := 25) hx hb dX3_goTo_21 (by decide) ?_
        refine lv_iload_n hx hb dX3_goTo_25 rfl (lv_at hl 3 rfl) ?_
        refine dCallv (As := [.int (nI r0), .int (nI 1), .int lv]) (rest := []) hx hb hml hown hts hK hP hD hS hA hl.1 (cD_descend l D cy ad _ _ _ (nI r0) (nI 1) lv (Or.inr ⟨r0, hr0, rfl⟩)) (cwV 3 hts gX3_goTo_X3_descend rfl rfl rfl (by decide +kernel) ⟨Nat.le_of_ble_eq_true rfl, Nat.le_of_ble_eq_true rfl⟩) rfl rfl (Nat.le_of_ble_eq_true rfl) ⟨Nat.le_of_ble_eq_true rfl, Nat.le_of_ble_eq_true rfl⟩ dX3_goTo_26 (fun S5 H locs e5 hP hD hS => ?_)
        rw [show S5 = _ from e5] at hP hD
        exact W.vret hx hb hr (fun t ht hW => ⟨⟨_, rfl, by simp [kGo, c1, c3, c2], by rw [ht]; exact hP, va_K.moved hW.alike hK, hD⟩, hS.F ht⟩) hS.2.2 dX3_goTo_29
    · exact absurd c2 (by rw [nI_ltI (by omega) (by omega)]; omega)
set_option maxHeartbeats 4000000 in
set_option maxRecDepth 100000 in
theorem cD_isFeasible (l : Launch) (D : va_G) (cy : Nat → ClassId) (ad : Nat → Nat) (X : va_W) (S : DS) (sz : Nat)  : Met l yX3_isFeasible wsX3_isFeasible (rm9 4 106) (dPc D cy ad X S sz [.ref (ad 0)]) (dQi D cy ad X S sz (fun r S' => r = kFeB S ∧ S' = kFe S)) 0 0 (dA cy ad X S sz) := by
  refine dHead (cc := cX3_isFeasible) (maxL := 4) (ret := (some .boolean)) (by decide) rfl (Nat.le_of_ble_eq_true rfl) ?_
  intro p e s m below meth c ls hx hb hr hlocks hml hown hts hsz hP hK hD hS hA hl
  have hin : ∀ w ∈ u_ws RX3 TX3 12, w ∈ wsX3_isFeasible := by decide +kernel
  have hown : s.vm.findClass RX3 = some m.cls := hown
  have hl : lv_has ls 4 [(0, .ref (ad 0))] := hl
  refine lv_aload_n hx hb dX3_isFeasible_0 rfl (lv_at hl 0 rfl) ?_
  refine lv_iconst (v := -1) hx hb dX3_isFeasible_1 (by decide) ?_
  refine lv_iconst (v := nI 1) hx hb dX3_isFeasible_2 (by decide) ?_
  refine lv_iconst (v := nI 1) hx hb dX3_isFeasible_3 (by decide) ?_
  refine dCallv (As := [.int (-1), .int (nI 1), .int (nI 1)]) (rest := []) hx hb hml hown hts hK hP hD hS hA hl.1 (cD_descend l D cy ad _ _ _ (-1) (nI 1) (nI 1) (Or.inl rfl)) (cwV 3 hts gX3_isFeasible_X3_descend rfl rfl rfl (by decide +kernel) ⟨Nat.le_of_ble_eq_true rfl, Nat.le_of_ble_eq_true rfl⟩) rfl rfl (Nat.le_of_ble_eq_true rfl) ⟨Nat.le_of_ble_eq_true rfl, Nat.le_of_ble_eq_true rfl⟩ dX3_isFeasible_4 (fun S1 H locs e1 hP hD hS => ?_)
  rw [show S1 = _ from e1] at hP hD
  have hk1 : kDes S (-1) (nI 1) (nI 1) = kFe S := rfl
  rw [hk1] at hP hD
  refine lv_lconst (v := 0) hx hb dX3_isFeasible_7 (by decide) ?_
  refine lv_lstore_n (lv' := [(1, .long 0), (0, .ref (ad 0))]) hx hb dX3_isFeasible_8 rfl hl (by decide) rfl (fun ls hl => ?_)
  refine lv_iconst (v := nI 0) hx hb dX3_isFeasible_9 (by decide) ?_
  refine lv_istore_n (lv' := [(3, .int (nI 0)), (1, .long 0), (0, .ref (ad 0))]) hx hb dX3_isFeasible_10 rfl hl (by decide) rfl (fun ls hl => ?_)
  have L11 : ∀ (n k : Nat) (q : Int64) (H : Heap) (locs : List Loc) (ls : Array Slot), k + n = 27 → va_P D vwCl (wD cy ad (kFe S) ++ X) H → va_D (dA cy ad X S sz) (wD cy ad (kFe S) ++ X) → va_S (dA cy ad X S sz) s.heap H locs → lv_has ls 4 [(3, .int (nI k)), (0, .ref (ad 0)), (1, .long q)] → (∀ (H : Heap) (locs : List Loc) (ls : Array Slot), va_P D vwCl (wD cy ad (kFe S) ++ X) H → va_D (dA cy ad X S sz) (wD cy ad (kFe S) ++ X) → va_S (dA cy ad X S sz) s.heap H locs → lv_has ls 4 [(3, .int (nI 27)), (0, .ref (ad 0)), (1, .long (lpN (fVi (kFe S)) n k q))] → W p l e (headSpec wsX3_isFeasible (rm9 4 106)).room s m ([.ref (ad 0)] : List Value).toArray below meth c H locs 0 0 (MQ below (dQi D cy ad X S sz (fun r S' => r = kFeB S ∧ S' = kFe S)) ([.ref (ad 0)] : List Value).toArray s 0 0 (dA cy ad X S sz)) (F0 m 49 ls [])) → W p l e (headSpec wsX3_isFeasible (rm9 4 106)).room s m ([.ref (ad 0)] : List Value).toArray below meth c H locs 0 0 (MQ below (dQi D cy ad X S sz (fun r S' => r = kFeB S ∧ S' = kFe S)) ([.ref (ad 0)] : List Value).toArray s 0 0 (dA cy ad X S sz)) (F0 m 11 ls []) := by
    intro n
    induction n with
    | zero =>
      intro k q H locs ls hk hP hD hS hl hex
      obtain rfl : k = 27 := by omega
      refine lv_iload_n hx hb dX3_isFeasible_11 rfl (lv_at hl 0 rfl) ?_
      refine lv_bipush (v := nI 27) hx hb dX3_isFeasible_12 (by decide) ?_
      refine lv_icmp_ge (tgt := 49) hx hb dX3_isFeasible_14 (by decide) (fun c2 => ?_) (fun c2 => ?_)
      · rw [nI_leI (by omega) (by omega)] at c2
        exact hex _ _ _ hP hD hS (lv_sub hl [0, 1, 2] rfl)
      · exact absurd c2 (by rw [nI_leI (by omega) (by omega)]; omega)
    | succ n ih =>
      intro k q H locs ls hk hP hD hS hl hex
      have hk11 : k < 27 := by omega
      refine lv_iload_n hx hb dX3_isFeasible_11 rfl (lv_at hl 0 rfl) ?_
      refine lv_bipush (v := nI 27) hx hb dX3_isFeasible_12 (by decide) ?_
      refine lv_icmp_ge (tgt := 49) hx hb dX3_isFeasible_14 (by decide) (fun c3 => ?_) (fun c3 => ?_)
      · exact absurd c3 (by rw [nI_leI (by omega) (by omega)]; omega)
      · rw [nI_leI (by omega) (by omega)] at c3
        refine lv_aload_n hx hb dX3_isFeasible_17 rfl (lv_at hl 1 rfl) ?_
        refine rD_get (v := .ref (ad 2)) hx hb hts hin hown hK hP 2 (by decide) rfl (by decide +kernel) dX3_isFeasible_18 ?_
        refine lv_iload_n hx hb dX3_isFeasible_21 rfl (lv_at hl 0 rfl) ?_
        refine rD_zld (i := k) hx hb hK hP (by omega) dX3_isFeasible_22 ?_
        refine lv_if_eq (tgt := 43) hx hb dX3_isFeasible_23 (by decide) (fun c4 => ?_) (fun c4 => ?_)
        · skip
          refine lv_iinc (v := nI (k + 1)) (lv' := [(3, .int (nI (k + 1))), (0, .ref (ad 0)), (1, .long q)]) hx hb dX3_isFeasible_43 hl (k := 0) rfl (nI_1 _) (by decide) rfl (fun ls hl => ?_)
          refine lv_goto (tgt := 11) hx hb dX3_isFeasible_46 (by decide) ?_
          have he : (fVi (kFe S)) k q = q := by simp [fVi, c4, c3]
          rw [lpN_s, he] at hex
          exact ih ((k + 1)) q _ _ _ (by omega) hP hD hS (lv_sub hl [0, 1, 2] rfl) hex
        · skip
          refine lv_aload_n hx hb dX3_isFeasible_26 rfl (lv_at hl 1 rfl) ?_
          refine rD_get (v := .ref (ad 4)) hx hb hts hin hown hK hP 4 (by decide) rfl (by decide +kernel) dX3_isFeasible_27 ?_
          refine lv_iload_n hx hb dX3_isFeasible_30 rfl (lv_at hl 0 rfl) ?_
          refine rD_ild (i := k) hx hb hK hP 4 (by decide) (by decide) (by omega) dX3_isFeasible_31 ?_
          refine lv_if_ne (tgt := 43) hx hb dX3_isFeasible_32 (by decide) (fun c5 => ?_) (fun c5 => ?_)
          · skip
            refine lv_iinc (v := nI (k + 1)) (lv' := [(3, .int (nI (k + 1))), (0, .ref (ad 0)), (1, .long q)]) hx hb dX3_isFeasible_43 hl (k := 0) rfl (nI_1 _) (by decide) rfl (fun ls hl => ?_)
            refine lv_goto (tgt := 11) hx hb dX3_isFeasible_46 (by decide) ?_
            have he : (fVi (kFe S)) k q = q := by simp [fVi, c4, c5, c3]
            rw [lpN_s, he] at hex
            exact ih ((k + 1)) q _ _ _ (by omega) hP hD hS (lv_sub hl [0, 1, 2] rfl) hex
          · skip
            refine lv_lload_n hx hb dX3_isFeasible_35 rfl (lv_at hl 2 rfl) ?_
            refine lv_aload_n hx hb dX3_isFeasible_36 rfl (lv_at hl 1 rfl) ?_
            refine lv_iload_n hx hb dX3_isFeasible_37 rfl (lv_at hl 0 rfl) ?_
            refine dCalll (As := [.int (nI k)]) (rest := [.long q]) hx hb hml hown hts hK hP hD hS hA hl.1 (cD_costOf l D cy ad _ _ _ (k := k) (by omega)) (cwV 1 hts gX3_isFeasible_X3_costOf rfl rfl rfl (by decide +kernel) ⟨Nat.le_of_ble_eq_true rfl, Nat.le_of_ble_eq_true rfl⟩) rfl rfl (Nat.le_of_ble_eq_true rfl) ⟨Nat.le_of_ble_eq_true rfl, Nat.le_of_ble_eq_true rfl⟩ dX3_isFeasible_38 (fun r6 S6 H locs e6 hP hD hS => ?_)
            obtain ⟨e6a, e6b⟩ := e6
            rw [e6a]
            rw [e6b] at hP hD
            refine lv_ladd hx hb dX3_isFeasible_41 ?_
            refine lv_lstore_n (lv' := [(1, .long (q + (kCost (kFe S) k))), (3, .int (nI k)), (0, .ref (ad 0))]) hx hb dX3_isFeasible_42 rfl hl (by decide) rfl (fun ls hl => ?_)
            refine lv_iinc (v := nI (k + 1)) (lv' := [(3, .int (nI (k + 1))), (1, .long (q + (kCost (kFe S) k))), (0, .ref (ad 0))]) hx hb dX3_isFeasible_43 hl (k := 1) rfl (nI_1 _) (by decide) rfl (fun ls hl => ?_)
            refine lv_goto (tgt := 11) hx hb dX3_isFeasible_46 (by decide) ?_
            have he : (fVi (kFe S)) k q = (q + (kCost (kFe S) k)) := by simp [fVi, c4, c5, c3]
            rw [lpN_s, he] at hex
            exact ih ((k + 1)) (q + (kCost (kFe S) k)) _ _ _ (by omega) hP hD hS (lv_sub hl [0, 2, 1] rfl) hex
  refine L11 27 0 0 _ _ _ (by omega) hP hD hS (lv_sub hl [0, 2, 1] rfl) (fun H locs ls hP hD hS hl => ?_)
  refine lv_lload_n hx hb dX3_isFeasible_49 rfl (lv_at hl 2 rfl) ?_
  refine lv_lconst (v := 0) hx hb dX3_isFeasible_50 (by decide) ?_
  refine W.lcmp hx hb dX3_isFeasible_51 ?_
  refine lv_if_ne (tgt := 59) hx hb dX3_isFeasible_52 (by decide) (fun c7 => ?_) (fun c7 => ?_)
  · skip
    refine lv_iconst (v := nI 0) hx hb dX3_isFeasible_59 (by decide) ?_
    exact W.zret hx hb hr (by decide) (fun t ht hW => ⟨⟨_, _, rfl, ⟨by simp [kFeB, kVio, c7], rfl⟩, by rw [ht]; exact hP, va_K.moved hW.alike hK, hD⟩, hS.F ht⟩) hS.2.2 dX3_isFeasible_60
  · skip
    refine lv_iconst (v := nI 1) hx hb dX3_isFeasible_55 (by decide) ?_
    refine lv_goto (tgt := 60) hx hb dX3_isFeasible_56 (by decide) ?_
    exact W.zret hx hb hr (by decide) (fun t ht hW => ⟨⟨_, _, rfl, ⟨by simp [kFeB, kVio, c7], rfl⟩, by rw [ht]; exact hP, va_K.moved hW.alike hK, hD⟩, hS.F ht⟩) hS.2.2 dX3_isFeasible_60
set_option maxHeartbeats 4000000 in
set_option maxRecDepth 100000 in
theorem cD_denominator (l : Launch) (D : va_G) (cy : Nat → ClassId) (ad : Nat → Nat) (X : va_W) (S : DS) (sz : Nat)  : Met l yX3_denominator wsX3_denominator (rm9 0 0) (dPc D cy ad X S sz [.ref (ad 0)]) (dQl D cy ad X S sz (fun r S' => r = dSc S ∧ S' = S)) 0 0 (dA cy ad X S sz) := by
  refine dHead (cc := cX3_denominator) (maxL := 1) (ret := (some .long)) (by decide) rfl (Nat.le_of_ble_eq_true rfl) ?_
  intro p e s m below meth c ls hx hb hr hlocks hml hown hts hsz hP hK hD hS hA hl
  have hin : ∀ w ∈ u_ws RX3 TX3 12, w ∈ wsX3_denominator := by decide +kernel
  have hown : s.vm.findClass RX3 = some m.cls := hown
  have hl : lv_has ls 1 [(0, .ref (ad 0))] := hl
  refine lv_aload_n hx hb dX3_denominator_0 rfl (lv_at hl 0 rfl) ?_
  refine rD_get (v := .long (dSc S)) hx hb hts hin hown hK hP 1 (by decide) rfl (by decide +kernel) dX3_denominator_1 ?_
  exact W.lret hx hb hr (fun t ht hW => ⟨⟨_, _, rfl, ⟨rfl, rfl⟩, by rw [ht]; exact hP, va_K.moved hW.alike hK, hD⟩, hS.F ht⟩) hS.2.2 dX3_denominator_4
set_option maxHeartbeats 4000000 in
set_option maxRecDepth 100000 in
theorem cD_numerator (l : Launch) (D : va_G) (cy : Nat → ClassId) (ad : Nat → Nat) (X : va_W) (S : DS) (sz : Nat) {r0 : Nat} (hr0 : r0 < 27) : Met l yX3_numerator wsX3_numerator (rm9 0 0) (dPc D cy ad X S sz [.ref (ad 0), .int (nI r0)]) (dQl D cy ad X S sz (fun r S' => r = kNum S r0 ∧ S' = S)) 0 0 (dA cy ad X S sz) := by
  refine dHead (cc := cX3_numerator) (maxL := 2) (ret := (some .long)) (by decide) rfl (Nat.le_of_ble_eq_true rfl) ?_
  intro p e s m below meth c ls hx hb hr hlocks hml hown hts hsz hP hK hD hS hA hl
  have hin : ∀ w ∈ u_ws RX3 TX3 12, w ∈ wsX3_numerator := by decide +kernel
  have hown : s.vm.findClass RX3 = some m.cls := hown
  have hl : lv_has ls 2 [(0, .ref (ad 0)), (1, .int (nI r0))] := hl
  refine lv_iload_n hx hb dX3_numerator_0 rfl (lv_at hl 1 rfl) ?_
  refine lv_if_lt (tgt := 10) hx hb dX3_numerator_1 (by decide) (fun c1 => ?_) (fun c1 => ?_)
  · exact absurd c1 (nI_pos (by omega))
  · skip
    refine lv_iload_n hx hb dX3_numerator_4 rfl (lv_at hl 1 rfl) ?_
    refine lv_bipush (v := nI 27) hx hb dX3_numerator_5 (by decide) ?_
    refine lv_icmp_lt (tgt := 14) hx hb dX3_numerator_7 (by decide) (fun c2 => ?_) (fun c2 => ?_)
    · rw [nI_ltI (by omega) (by omega)] at c2
      refine lv_aload_n hx hb dX3_numerator_14 rfl (lv_at hl 0 rfl) ?_
      refine rD_get (v := .ref (ad 1)) hx hb hts hin hown hK hP 0 (by decide) rfl (by decide +kernel) dX3_numerator_15 ?_
      refine lv_iload_n hx hb dX3_numerator_18 rfl (lv_at hl 1 rfl) ?_
      refine rD_row (i := r0) hx hb hK hP (by omega) dX3_numerator_19 ?_
      refine lv_bipush (v := nI 6) hx hb dX3_numerator_20 (by decide) ?_
      refine rD_lld (n := r0) (i := 6) hx hb hK hP (by omega) (by omega) dX3_numerator_22 ?_
      refine lv_aload_n hx hb dX3_numerator_23 rfl (lv_at hl 0 rfl) ?_
      refine rD_get (v := .ref (ad 3)) hx hb hts hin hown hK hP 3 (by decide) rfl (by decide +kernel) dX3_numerator_24 ?_
      refine lv_iload_n hx hb dX3_numerator_27 rfl (lv_at hl 1 rfl) ?_
      refine rD_ild (i := r0) hx hb hK hP 3 (by decide) (by decide) (by omega) dX3_numerator_28 ?_
      refine lv_i2l hx hb dX3_numerator_29 (v := (dI S 3 r0).toInt64) rfl ?_
      refine lv_aload_n hx hb dX3_numerator_30 rfl (lv_at hl 0 rfl) ?_
      refine rD_get (v := .long (dSc S)) hx hb hts hin hown hK hP 1 (by decide) rfl (by decide +kernel) dX3_numerator_31 ?_
      refine lv_lmul hx hb dX3_numerator_34 ?_
      refine lv_ladd hx hb dX3_numerator_35 ?_
      exact W.lret hx hb hr (fun t ht hW => ⟨⟨_, _, rfl, ⟨rfl, rfl⟩, by rw [ht]; exact hP, va_K.moved hW.alike hK, hD⟩, hS.F ht⟩) hS.2.2 dX3_numerator_36
    · exact absurd c2 (by rw [nI_ltI (by omega) (by omega)]; omega)
set_option maxHeartbeats 4000000 in
set_option maxRecDepth 100000 in
theorem cD_signOf (l : Launch) (D : va_G) (cy : Nat → ClassId) (ad : Nat → Nat) (X : va_W) (S : DS) (sz : Nat) {r0 : Nat} (hr0 : r0 < 27) : Met l yX3_signOf wsX3_signOf (rm9 1 23) (dPc D cy ad X S sz [.ref (ad 0), .int (nI r0)]) (dQi D cy ad X S sz (fun r S' => r = kSgn S r0 ∧ S' = S)) 0 0 (dA cy ad X S sz) := by
  refine dHead (cc := cX3_signOf) (maxL := 2) (ret := (some .int)) (by decide) rfl (Nat.le_of_ble_eq_true rfl) ?_
  intro p e s m below meth c ls hx hb hr hlocks hml hown hts hsz hP hK hD hS hA hl
  have hin : ∀ w ∈ u_ws RX3 TX3 12, w ∈ wsX3_signOf := by decide +kernel
  have hown : s.vm.findClass RX3 = some m.cls := hown
  have hl : lv_has ls 2 [(0, .ref (ad 0)), (1, .int (nI r0))] := hl
  refine lv_iload_n hx hb dX3_signOf_0 rfl (lv_at hl 1 rfl) ?_
  refine lv_if_lt (tgt := 10) hx hb dX3_signOf_1 (by decide) (fun c1 => ?_) (fun c1 => ?_)
  · exact absurd c1 (nI_pos (by omega))
  · skip
    refine lv_iload_n hx hb dX3_signOf_4 rfl (lv_at hl 1 rfl) ?_
    refine lv_bipush (v := nI 27) hx hb dX3_signOf_5 (by decide) ?_
    refine lv_icmp_lt (tgt := 14) hx hb dX3_signOf_7 (by decide) (fun c2 => ?_) (fun c2 => ?_)
    · rw [nI_ltI (by omega) (by omega)] at c2
      refine lv_aload_n hx hb dX3_signOf_14 rfl (lv_at hl 0 rfl) ?_
      refine rD_get (v := .ref (ad 1)) hx hb hts hin hown hK hP 0 (by decide) rfl (by decide +kernel) dX3_signOf_15 ?_
      refine lv_iload_n hx hb dX3_signOf_18 rfl (lv_at hl 1 rfl) ?_
      refine rD_row (i := r0) hx hb hK hP (by omega) dX3_signOf_19 ?_
      refine lv_bipush (v := nI 6) hx hb dX3_signOf_20 (by decide) ?_
      refine rD_lld (n := r0) (i := 6) hx hb hK hP (by omega) (by omega) dX3_signOf_22 ?_
      refine lv_lconst (v := 0) hx hb dX3_signOf_23 (by decide) ?_
      refine pCalli (As := [.long (dRo S r0 6), .long 0]) (rest := []) hx hb hml hown hts hP hS hA hl.1 (cJ_cmp l _ (dRo S r0 6) 0) (va_cwS 2 hts gX3_signOf_J13_compare_74951 rfl rfl rfl (by decide +kernel) ⟨Nat.le_of_ble_eq_true rfl, Nat.le_of_ble_eq_true rfl⟩) rfl rfl (Nat.le_of_ble_eq_true rfl) ⟨Nat.le_of_ble_eq_true rfl, Nat.le_of_ble_eq_true rfl⟩ dX3_signOf_24 (fun r3 H locs e3 hP hS => ?_)
      rw [show r3 = cmpL (dRo S r0 6) 0 from e3]
      exact W.iret hx hb hr (fun t ht hW => ⟨⟨_, _, rfl, ⟨rfl, rfl⟩, by rw [ht]; exact hP, va_K.moved hW.alike hK, hD⟩, hS.F ht⟩) hS.2.2 dX3_signOf_27
    · exact absurd c2 (by rw [nI_ltI (by omega) (by omega)]; omega)
set_option maxHeartbeats 4000000 in
set_option maxRecDepth 100000 in
theorem cD_lift (l : Launch) (D : va_G) (cy : Nat → ClassId) (ad : Nat → Nat) (X : va_W) (S : DS) (sz : Nat) (row : Int32) : Met l yX3_lift wsX3_lift (rm9 0 0) (dPc D cy ad X S sz [.ref (ad 0), .int row]) (dQv D cy ad X S sz (fun S' => S' = kLift S row)) 0 0 (dA cy ad X S sz) := by
  refine dHead (cc := cX3_lift) (maxL := 3) (ret := none) (by decide) rfl (Nat.le_of_ble_eq_true rfl) ?_
  intro p e s m below meth c ls hx hb hr hlocks hml hown hts hsz hP hK hD hS hA hl
  have hin : ∀ w ∈ u_ws RX3 TX3 12, w ∈ wsX3_lift := by decide +kernel
  have hown : s.vm.findClass RX3 = some m.cls := hown
  have hl : lv_has ls 3 [(0, .ref (ad 0)), (1, .int row)] := hl
  refine lv_iload_n hx hb dX3_lift_0 rfl (lv_at hl 1 rfl) ?_
  refine lv_if_lt (tgt := 10) hx hb dX3_lift_1 (by decide) (fun c1 => ?_) (fun c1 => ?_)
  · skip
    exact W.vret hx hb hr (fun t ht hW => ⟨⟨_, rfl, by simp only [kLift]; rw [if_pos c1], by rw [ht]; exact hP, va_K.moved hW.alike hK, hD⟩, hS.F ht⟩) hS.2.2 dX3_lift_10
  · skip
    refine lv_iload_n hx hb dX3_lift_4 rfl (lv_at hl 1 rfl) ?_
    refine lv_bipush (v := nI 14) hx hb dX3_lift_5 (by decide) ?_
    refine lv_icmp_le (tgt := 11) hx hb dX3_lift_7 (by decide) (fun c2 => ?_) (fun c2 => ?_)
    · skip
      obtain ⟨r0, hr0, hre⟩ := ixL 14 c1 (by rw [Int32.not_lt]; exact c2) (by decide)
      have qq8 : row.toNatClampNeg = r0 := (by rw [hre, nI_clamp (by omega)])
      rw [hre] at hl
      refine lv_aload_n hx hb dX3_lift_11 rfl (lv_at hl 0 rfl) ?_
      refine rD_get (v := .ref (ad 8)) hx hb hts hin hown hK hP 8 (by decide) rfl (by decide +kernel) dX3_lift_12 ?_
      refine lv_iload_n hx hb dX3_lift_15 rfl (lv_at hl 1 rfl) ?_
      refine rD_ild (i := r0) hx hb hK hP 8 (by decide) (by decide) (by omega) dX3_lift_16 ?_
      refine lv_istore_n (lv' := [(2, .int (dI S 8 r0)), (0, .ref (ad 0)), (1, .int (nI r0))]) hx hb dX3_lift_17 rfl hl (by decide) rfl (fun ls hl => ?_)
      refine lv_iload_n hx hb dX3_lift_18 rfl (lv_at hl 0 rfl) ?_
      refine lv_if_lt (tgt := 35) hx hb dX3_lift_19 (by decide) (fun c3 => ?_) (fun c3 => ?_)
      · skip
        refine lv_aload_n hx hb dX3_lift_35 rfl (lv_at hl 1 rfl) ?_
        refine rD_get (v := .ref (ad 8)) hx hb hts hin hown hK hP 8 (by decide) rfl (by decide +kernel) dX3_lift_36 ?_
        refine lv_iload_n hx hb dX3_lift_39 rfl (lv_at hl 2 rfl) ?_
        refine lv_iconst (v := -1) hx hb dX3_lift_40 (by decide) ?_
        refine rD_ist (i := r0) hx hb hK hP hD hS 8 (by decide) (by decide) (by omega) dX3_lift_41 (fun H locs hP hD hS => ?_)
        refine lv_aload_n hx hb dX3_lift_42 rfl (lv_at hl 1 rfl) ?_
        refine rD_get (v := .ref (ad 2)) hx hb hts hin hown hK hP 2 (by decide) rfl (by decide +kernel) dX3_lift_43 ?_
        refine lv_iload_n hx hb dX3_lift_46 rfl (lv_at hl 2 rfl) ?_
        refine lv_iconst (v := nI 0) hx hb dX3_lift_47 (by decide) ?_
        refine rD_zst (i := r0) hx hb hK hP hD hS (by omega) (by decide) dX3_lift_48 (fun H locs hP hD hS => ?_)
        exact W.vret hx hb hr (fun t ht hW => ⟨⟨_, rfl, by simp only [kLift]; rw [if_neg c1, if_neg (by rw [Int32.not_lt]; exact c2), qq8, if_pos c3]; rfl, by rw [ht]; exact hP, va_K.moved hW.alike hK, hD⟩, hS.F ht⟩) hS.2.2 dX3_lift_49
      · skip
        refine lv_iload_n hx hb dX3_lift_22 rfl (lv_at hl 0 rfl) ?_
        refine lv_bipush (v := nI 6) hx hb dX3_lift_23 (by decide) ?_
        refine lv_icmp_ge (tgt := 35) hx hb dX3_lift_25 (by decide) (fun c4 => ?_) (fun c4 => ?_)
        · skip
          refine lv_aload_n hx hb dX3_lift_35 rfl (lv_at hl 1 rfl) ?_
          refine rD_get (v := .ref (ad 8)) hx hb hts hin hown hK hP 8 (by decide) rfl (by decide +kernel) dX3_lift_36 ?_
          refine lv_iload_n hx hb dX3_lift_39 rfl (lv_at hl 2 rfl) ?_
          refine lv_iconst (v := -1) hx hb dX3_lift_40 (by decide) ?_
          refine rD_ist (i := r0) hx hb hK hP hD hS 8 (by decide) (by decide) (by omega) dX3_lift_41 (fun H locs hP hD hS => ?_)
          refine lv_aload_n hx hb dX3_lift_42 rfl (lv_at hl 1 rfl) ?_
          refine rD_get (v := .ref (ad 2)) hx hb hts hin hown hK hP 2 (by decide) rfl (by decide +kernel) dX3_lift_43 ?_
          refine lv_iload_n hx hb dX3_lift_46 rfl (lv_at hl 2 rfl) ?_
          refine lv_iconst (v := nI 0) hx hb dX3_lift_47 (by decide) ?_
          refine rD_zst (i := r0) hx hb hK hP hD hS (by omega) (by decide) dX3_lift_48 (fun H locs hP hD hS => ?_)
          exact W.vret hx hb hr (fun t ht hW => ⟨⟨_, rfl, by simp only [kLift]; rw [if_neg c1, if_neg (by rw [Int32.not_lt]; exact c2), qq8, if_neg c3, if_pos c4]; rfl, by rw [ht]; exact hP, va_K.moved hW.alike hK, hD⟩, hS.F ht⟩) hS.2.2 dX3_lift_49
        · skip
          obtain ⟨c0, hc0, hce⟩ := ixN 6 c3 (Int32.not_le.mp c4) (by decide)
          have qq9 : (dI S 8 r0).toNatClampNeg = c0 := (by rw [hce, nI_clamp (by omega)])
          rw [hce] at hl
          refine lv_aload_n hx hb dX3_lift_28 rfl (lv_at hl 1 rfl) ?_
          refine rD_get (v := .ref (ad 9)) hx hb hts hin hown hK hP 9 (by decide) rfl (by decide +kernel) dX3_lift_29 ?_
          refine lv_iload_n hx hb dX3_lift_32 rfl (lv_at hl 0 rfl) ?_
          refine lv_iconst (v := -1) hx hb dX3_lift_33 (by decide) ?_
          refine rD_ist9 (i := c0) hx hb hK hP hD hS (by omega) dX3_lift_34 (fun H locs hP hD hS => ?_)
          refine lv_aload_n hx hb dX3_lift_35 rfl (lv_at hl 1 rfl) ?_
          refine rD_get (v := .ref (ad 8)) hx hb hts hin hown hK hP 8 (by decide) rfl (by decide +kernel) dX3_lift_36 ?_
          refine lv_iload_n hx hb dX3_lift_39 rfl (lv_at hl 2 rfl) ?_
          refine lv_iconst (v := -1) hx hb dX3_lift_40 (by decide) ?_
          refine rD_ist (i := r0) hx hb hK hP hD hS 8 (by decide) (by decide) (by omega) dX3_lift_41 (fun H locs hP hD hS => ?_)
          refine lv_aload_n hx hb dX3_lift_42 rfl (lv_at hl 1 rfl) ?_
          refine rD_get (v := .ref (ad 2)) hx hb hts hin hown hK hP 2 (by decide) rfl (by decide +kernel) dX3_lift_43 ?_
          refine lv_iload_n hx hb dX3_lift_46 rfl (lv_at hl 2 rfl) ?_
          refine lv_iconst (v := nI 0) hx hb dX3_lift_47 (by decide) ?_
          refine rD_zst (i := r0) hx hb hK hP hD hS (by omega) (by decide) dX3_lift_48 (fun H locs hP hD hS => ?_)
          exact W.vret hx hb hr (fun t ht hW => ⟨⟨_, rfl, by simp only [kLift]; rw [if_neg c1, if_neg (by rw [Int32.not_lt]; exact c2), qq8, if_neg c3, if_neg c4, qq9]; rfl, by rw [ht]; exact hP, va_K.moved hW.alike hK, hD⟩, hS.F ht⟩) hS.2.2 dX3_lift_49
    · skip
      exact W.vret hx hb hr (fun t ht hW => ⟨⟨_, rfl, by simp only [kLift]; rw [if_neg c1, if_pos (Int32.not_le.mp c2)], by rw [ht]; exact hP, va_K.moved hW.alike hK, hD⟩, hS.F ht⟩) hS.2.2 dX3_lift_10
set_option maxHeartbeats 4000000 in
set_option maxRecDepth 100000 in
theorem cD_startLimit (l : Launch) (D : va_G) (cy : Nat → ClassId) (ad : Nat → Nat) (X : va_W) (S : DS) (sz : Nat) {r0 c0 : Nat} (hr0 : r0 < 27) (hc0 : c0 < 6) (x : Int32) : Met l yX3_startLimit wsX3_startLimit (rm9 0 0) (dPc D cy ad X S sz [.ref (ad 0), .int (nI r0), .int (nI c0), .int x]) (dQv D cy ad X S sz (fun S' => S' = kLim S r0 c0 x)) 0 0 (dA cy ad X S sz) := by
  refine dHead (cc := cX3_startLimit) (maxL := 4) (ret := none) (by decide) rfl (Nat.le_of_ble_eq_true rfl) ?_
  intro p e s m below meth c ls hx hb hr hlocks hml hown hts hsz hP hK hD hS hA hl
  have hin : ∀ w ∈ u_ws RX3 TX3 12, w ∈ wsX3_startLimit := by decide +kernel
  have hown : s.vm.findClass RX3 = some m.cls := hown
  have hl : lv_has ls 4 [(0, .ref (ad 0)), (1, .int (nI r0)), (2, .int (nI c0)), (3, .int x)] := hl
  refine lv_aload_n hx hb dX3_startLimit_0 rfl (lv_at hl 0 rfl) ?_
  refine rD_get (v := .ref (ad 1)) hx hb hts hin hown hK hP 0 (by decide) rfl (by decide +kernel) dX3_startLimit_1 ?_
  refine lv_iload_n hx hb dX3_startLimit_4 rfl (lv_at hl 1 rfl) ?_
  refine rD_row (i := r0) hx hb hK hP (by omega) dX3_startLimit_5 ?_
  refine lv_iload_n hx hb dX3_startLimit_6 rfl (lv_at hl 2 rfl) ?_
  refine lv_lconst (v := 1) hx hb dX3_startLimit_7 (by decide) ?_
  refine rD_lst (n := r0) (i := c0) hx hb hK hP hD hS (by omega) (by omega) dX3_startLimit_8 (fun H locs hP hD hS => ?_)
  refine lv_aload_n hx hb dX3_startLimit_9 rfl (lv_at hl 0 rfl) ?_
  refine rD_get (v := .ref (ad 1)) hx hb hts hin hown hK hP 0 (by decide) rfl (by decide +kernel) dX3_startLimit_10 ?_
  refine lv_iload_n hx hb dX3_startLimit_13 rfl (lv_at hl 1 rfl) ?_
  refine rD_row (i := r0) hx hb hK hP (by omega) dX3_startLimit_14 ?_
  refine lv_bipush (v := nI 6) hx hb dX3_startLimit_15 (by decide) ?_
  refine lv_iload_n hx hb dX3_startLimit_17 rfl (lv_at hl 3 rfl) ?_
  refine lv_ineg hx hb dX3_startLimit_18 ?_
  refine lv_i2l hx hb dX3_startLimit_19 (v := (-x).toInt64) rfl ?_
  refine rD_lst (n := r0) (i := 6) hx hb hK hP hD hS (by omega) (by omega) dX3_startLimit_20 (fun H locs hP hD hS => ?_)
  refine lv_aload_n hx hb dX3_startLimit_21 rfl (lv_at hl 0 rfl) ?_
  refine rD_get (v := .ref (ad 2)) hx hb hts hin hown hK hP 2 (by decide) rfl (by decide +kernel) dX3_startLimit_22 ?_
  refine lv_iload_n hx hb dX3_startLimit_25 rfl (lv_at hl 1 rfl) ?_
  refine lv_iconst (v := nI 1) hx hb dX3_startLimit_26 (by decide) ?_
  refine rD_zst (i := r0) hx hb hK hP hD hS (by omega) (by decide) dX3_startLimit_27 (fun H locs hP hD hS => ?_)
  refine lv_aload_n hx hb dX3_startLimit_28 rfl (lv_at hl 0 rfl) ?_
  refine rD_get (v := .ref (ad 3)) hx hb hts hin hown hK hP 3 (by decide) rfl (by decide +kernel) dX3_startLimit_29 ?_
  refine lv_iload_n hx hb dX3_startLimit_32 rfl (lv_at hl 1 rfl) ?_
  refine lv_iload_n hx hb dX3_startLimit_33 rfl (lv_at hl 3 rfl) ?_
  refine rD_ist (i := r0) hx hb hK hP hD hS 3 (by decide) (by decide) (by omega) dX3_startLimit_34 (fun H locs hP hD hS => ?_)
  refine lv_aload_n hx hb dX3_startLimit_35 rfl (lv_at hl 0 rfl) ?_
  refine rD_get (v := .ref (ad 5)) hx hb hts hin hown hK hP 5 (by decide) rfl (by decide +kernel) dX3_startLimit_36 ?_
  refine lv_iload_n hx hb dX3_startLimit_39 rfl (lv_at hl 1 rfl) ?_
  refine lv_iload_n hx hb dX3_startLimit_40 rfl (lv_at hl 3 rfl) ?_
  refine lv_if_le (tgt := 48) hx hb dX3_startLimit_41 (by decide) (fun c1 => ?_) (fun c1 => ?_)
  · skip
    refine lv_iconst (v := nI 0) hx hb dX3_startLimit_48 (by decide) ?_
    refine rD_ist (i := r0) hx hb hK hP hD hS 5 (by decide) (by decide) (by omega) dX3_startLimit_49 (fun H locs hP hD hS => ?_)
    refine lv_aload_n hx hb dX3_startLimit_50 rfl (lv_at hl 0 rfl) ?_
    refine rD_get (v := .ref (ad 6)) hx hb hts hin hown hK hP 6 (by decide) rfl (by decide +kernel) dX3_startLimit_51 ?_
    refine lv_iload_n hx hb dX3_startLimit_54 rfl (lv_at hl 1 rfl) ?_
    refine lv_iload_n hx hb dX3_startLimit_55 rfl (lv_at hl 3 rfl) ?_
    refine lv_if_le (tgt := 63) hx hb dX3_startLimit_56 (by decide) (fun c2 => ?_) (fun c2 => ?_)
    · skip
      refine lv_iconst (v := nI 1) hx hb dX3_startLimit_63 (by decide) ?_
      refine rD_ist (i := r0) hx hb hK hP hD hS 6 (by decide) (by decide) (by omega) dX3_startLimit_64 (fun H locs hP hD hS => ?_)
      refine lv_aload_n hx hb dX3_startLimit_65 rfl (lv_at hl 0 rfl) ?_
      refine rD_get (v := .ref (ad 7)) hx hb hts hin hown hK hP 7 (by decide) rfl (by decide +kernel) dX3_startLimit_66 ?_
      refine lv_iload_n hx hb dX3_startLimit_69 rfl (lv_at hl 1 rfl) ?_
      refine lv_iload_n hx hb dX3_startLimit_70 rfl (lv_at hl 3 rfl) ?_
      refine lv_if_le (tgt := 78) hx hb dX3_startLimit_71 (by decide) (fun c3 => ?_) (fun c3 => ?_)
      · skip
        refine lv_iconst (v := nI 1) hx hb dX3_startLimit_78 (by decide) ?_
        refine rD_ist (i := r0) hx hb hK hP hD hS 7 (by decide) (by decide) (by omega) dX3_startLimit_79 (fun H locs hP hD hS => ?_)
        exact W.vret hx hb hr (fun t ht hW => ⟨⟨_, rfl, by simp [kLim, c3], by rw [ht]; exact hP, va_K.moved hW.alike hK, hD⟩, hS.F ht⟩) hS.2.2 dX3_startLimit_80
      · exact absurd c2 c3
    · exact absurd c1 c2
  · skip
    refine lv_iconst (v := nI 1) hx hb dX3_startLimit_44 (by decide) ?_
    refine lv_goto (tgt := 49) hx hb dX3_startLimit_45 (by decide) ?_
    refine rD_ist (i := r0) hx hb hK hP hD hS 5 (by decide) (by decide) (by omega) dX3_startLimit_49 (fun H locs hP hD hS => ?_)
    refine lv_aload_n hx hb dX3_startLimit_50 rfl (lv_at hl 0 rfl) ?_
    refine rD_get (v := .ref (ad 6)) hx hb hts hin hown hK hP 6 (by decide) rfl (by decide +kernel) dX3_startLimit_51 ?_
    refine lv_iload_n hx hb dX3_startLimit_54 rfl (lv_at hl 1 rfl) ?_
    refine lv_iload_n hx hb dX3_startLimit_55 rfl (lv_at hl 3 rfl) ?_
    refine lv_if_le (tgt := 63) hx hb dX3_startLimit_56 (by decide) (fun c4 => ?_) (fun c4 => ?_)
    · exact absurd c4 c1
    · skip
      refine lv_iconst (v := nI 0) hx hb dX3_startLimit_59 (by decide) ?_
      refine lv_goto (tgt := 64) hx hb dX3_startLimit_60 (by decide) ?_
      refine rD_ist (i := r0) hx hb hK hP hD hS 6 (by decide) (by decide) (by omega) dX3_startLimit_64 (fun H locs hP hD hS => ?_)
      refine lv_aload_n hx hb dX3_startLimit_65 rfl (lv_at hl 0 rfl) ?_
      refine rD_get (v := .ref (ad 7)) hx hb hts hin hown hK hP 7 (by decide) rfl (by decide +kernel) dX3_startLimit_66 ?_
      refine lv_iload_n hx hb dX3_startLimit_69 rfl (lv_at hl 1 rfl) ?_
      refine lv_iload_n hx hb dX3_startLimit_70 rfl (lv_at hl 3 rfl) ?_
      refine lv_if_le (tgt := 78) hx hb dX3_startLimit_71 (by decide) (fun c5 => ?_) (fun c5 => ?_)
      · exact absurd c5 c4
      · skip
        refine lv_iconst (v := -1) hx hb dX3_startLimit_74 (by decide) ?_
        refine lv_goto (tgt := 79) hx hb dX3_startLimit_75 (by decide) ?_
        refine rD_ist (i := r0) hx hb hK hP hD hS 7 (by decide) (by decide) (by omega) dX3_startLimit_79 (fun H locs hP hD hS => ?_)
        exact W.vret hx hb hr (fun t ht hW => ⟨⟨_, rfl, by simp [kLim, c5], by rw [ht]; exact hP, va_K.moved hW.alike hK, hD⟩, hS.F ht⟩) hS.2.2 dX3_startLimit_80
