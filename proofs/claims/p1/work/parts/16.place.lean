/-! a constraint gets a row -/
theorem wX_r {cy : Nat → ClassId} {ad : Nat → Nat} {S : DS} {X : va_W} {i : Nat} {e : Nat × va_E} (h : X[i]? = some e) : (wD cy ad S ++ X)[43 + i]? = some e := by
  rw [List.getElem?_append_right (by rw [wD_len]; omega), wD_len, show 43 + i - 43 = i by omega, h]
def fAV (k v : Nat) (x : Int32) (i : Nat) (S : DS) : DS := sRo S k i (dRo S k i + x.toInt64 * dRo S (15 + v) i)
def kAV1 (S : DS) (k : Nat) (x : Int32) : DS := sRo S k 6 (dRo S k 6 + (x * nI 1000).toInt64 * dSc S)
/-- addVariable -/
def kAV (S : DS) (k : Nat) (x : Int32) (v : Nat) : DS := if x = 0 then S else kAV1 (lpN (fAV k v x) 7 0 S) k x
def fPl (k : Nat) (f : Nat → Int32) (v : Nat) (S : DS) : DS := kAV S k (f v) v
def kPl1 (S : DS) (k : Nat) (con : Int32) : DS := sRo (lpN (fZr k) 7 0 S) k 6 (-(dSc (lpN (fZr k) 7 0 S)) * con.toInt64)
def kPl2 (S : DS) (k : Nat) (rel con str wei : Int32) : DS := sI (sI (sI (sI (sI S 2 k (nI 1)) 3 k con) 4 k str) 5 k (kAbove rel wei)) 6 k (kBelow rel wei)
/-- placeWith, of a row k < 15 -/
def kPl (S : DS) (k : Nat) (f : Nat → Int32) (rel con str wei : Int32) : DS :=
  sI (kPl2 (lpN (fPl k f) 6 0 (kPl1 (kLift S (nI k)) k con)) k rel con str wei) 7 k (if 0 ≤ lg_cmp (dRo (kPl2 (lpN (fPl k f) 6 0 (kPl1 (kLift S (nI k)) k con)) k rel con str wei) k 6) 0 then nI 1 else -1)
set_option maxHeartbeats 4000000 in
set_option maxRecDepth 100000 in
theorem cD_addVariable (l : Launch) (D : va_G) (cy : Nat → ClassId) (ad : Nat → Nat) (X : va_W) (S : DS) (sz : Nat) {k v : Nat} (hk : k < 27) (hv : v < 6) (x : Int32) : Met l yX3_addVariable wsX3_addVariable (rm9 0 0) (dPc D cy ad X S sz [.ref (ad 0), .ref (ad (11 + k)), .int x, .int (nI v)]) (dQv D cy ad X S sz (fun S' => S' = kAV S k x v)) 0 0 (dA cy ad X S sz) := by
  refine dHead (cc := cX3_addVariable) (maxL := 6) (ret := none) (by decide) rfl (Nat.le_of_ble_eq_true rfl) ?_
  intro p e s m below meth c ls hx hb hr hlocks hml hown hts hsz hP hK hD hS hA hl
  have hin : ∀ w ∈ u_ws RX3 TX3 12, w ∈ wsX3_addVariable := by decide +kernel
  have hown : s.vm.findClass RX3 = some m.cls := hown
  have hl : lv_has ls 6 [(0, .ref (ad 0)), (1, .ref (ad (11 + k))), (2, .int x), (3, .int (nI v))] := hl
  refine lv_iload_n hx hb dX3_addVariable_0 rfl (lv_at hl 2 rfl) ?_
  refine lv_if_eq (tgt := 21) hx hb dX3_addVariable_1 (by decide) (fun c1 => ?_) (fun c1 => ?_)
  · skip
    exact W.vret hx hb hr (fun t ht hW => ⟨⟨_, rfl, by simp only [kAV]; rw [if_pos c1], by rw [ht]; exact hP, va_K.moved hW.alike hK, hD⟩, hS.F ht⟩) hS.2.2 dX3_addVariable_21
  · skip
    refine lv_iload_n hx hb dX3_addVariable_4 rfl (lv_at hl 3 rfl) ?_
    refine lv_if_lt (tgt := 21) hx hb dX3_addVariable_5 (by decide) (fun c2 => ?_) (fun c2 => ?_)
    · exact absurd c2 (nI_pos (by omega))
    · skip
      refine lv_iload_n hx hb dX3_addVariable_8 rfl (lv_at hl 3 rfl) ?_
      refine lv_bipush (v := nI 6) hx hb dX3_addVariable_9 (by decide) ?_
      refine lv_icmp_ge (tgt := 21) hx hb dX3_addVariable_11 (by decide) (fun c3 => ?_) (fun c3 => ?_)
      · exact absurd c3 (by rw [nI_leI (by omega) (by omega)]; omega)
      · rw [nI_leI (by omega) (by omega)] at c3
        refine lv_aload_n hx hb dX3_addVariable_14 rfl (lv_at hl 1 rfl) ?_
        refine rD_alen (n := k) hx hb hK hP (by omega) dX3_addVariable_15 ?_
        refine lv_bipush (v := nI 6) hx hb dX3_addVariable_16 (by decide) ?_
        refine lv_icmp_gt (tgt := 22) hx hb dX3_addVariable_18 (by decide) (fun c4 => ?_) (fun c4 => ?_)
        · rw [nI_ltI (by omega) (by omega)] at c4
          refine lv_aload_n hx hb dX3_addVariable_22 rfl (lv_at hl 0 rfl) ?_
          refine rD_get (v := .ref (ad 1)) hx hb hts hin hown hK hP 0 (by decide) rfl (by decide +kernel) dX3_addVariable_23 ?_
          refine lv_bipush (v := nI 15) hx hb dX3_addVariable_26 (by decide) ?_
          refine lv_iload_n hx hb dX3_addVariable_28 rfl (lv_at hl 3 rfl) ?_
          refine lv_iadd hx hb dX3_addVariable_29 ?_
          rw [nI_add]
          refine rD_row (i := (15 + v)) hx hb hK hP (by omega) dX3_addVariable_30 ?_
          refine lv_astore (lv' := [(4, .ref (ad (11 + (15 + v)))), (0, .ref (ad 0)), (1, .ref (ad (11 + k))), (2, .int x), (3, .int (nI v))]) hx hb dX3_addVariable_31 hl (by decide) rfl (fun ls hl => ?_)
          refine lv_iconst (v := nI 0) hx hb dX3_addVariable_33 (by decide) ?_
          refine lv_istore (lv' := [(5, .int (nI 0)), (4, .ref (ad (11 + (15 + v)))), (0, .ref (ad 0)), (1, .ref (ad (11 + k))), (2, .int x), (3, .int (nI v))]) hx hb dX3_addVariable_34 hl (by decide) rfl (fun ls hl => ?_)
          have L36 : ∀ (n i : Nat) (U : DS) (H : Heap) (locs : List Loc) (ls : Array Slot), i + n = 7 → va_P D vwCl (wD cy ad U ++ X) H → va_D (dA cy ad X S sz) (wD cy ad U ++ X) → va_S (dA cy ad X S sz) s.heap H locs → lv_has ls 6 [(5, .int (nI i)), (0, .ref (ad 0)), (1, .ref (ad (11 + k))), (2, .int x), (3, .int (nI v)), (4, .ref (ad (11 + (15 + v))))] → (∀ (H : Heap) (locs : List Loc) (ls : Array Slot), va_P D vwCl (wD cy ad (lpN (fAV k v x) n i U) ++ X) H → va_D (dA cy ad X S sz) (wD cy ad (lpN (fAV k v x) n i U) ++ X) → va_S (dA cy ad X S sz) s.heap H locs → lv_has ls 6 [(5, .int (nI 7)), (0, .ref (ad 0)), (1, .ref (ad (11 + k))), (2, .int x), (3, .int (nI v)), (4, .ref (ad (11 + (15 + v))))] → W p l e (headSpec wsX3_addVariable (rm9 0 0)).room s m ([.ref (ad 0), .ref (ad (11 + k)), .int x, .int (nI v)] : List Value).toArray below meth c H locs 0 0 (MQ below (dQv D cy ad X S sz (fun S' => S' = kAV S k x v)) ([.ref (ad 0), .ref (ad (11 + k)), .int x, .int (nI v)] : List Value).toArray s 0 0 (dA cy ad X S sz)) (F0 m 64 ls [])) → W p l e (headSpec wsX3_addVariable (rm9 0 0)).room s m ([.ref (ad 0), .ref (ad (11 + k)), .int x, .int (nI v)] : List Value).toArray below meth c H locs 0 0 (MQ below (dQv D cy ad X S sz (fun S' => S' = kAV S k x v)) ([.ref (ad 0), .ref (ad (11 + k)), .int x, .int (nI v)] : List Value).toArray s 0 0 (dA cy ad X S sz)) (F0 m 36 ls []) := by
            intro n
            induction n with
            | zero =>
              intro i U H locs ls hk hP hD hS hl hex
              obtain rfl : 7 = i := by omega
              refine lv_iload hx hb dX3_addVariable_36 (lv_at hl 0 rfl) ?_
              refine lv_bipush (v := nI 6) hx hb dX3_addVariable_38 (by decide) ?_
              refine lv_icmp_gt (tgt := 64) hx hb dX3_addVariable_40 (by decide) (fun c5 => ?_) (fun c5 => ?_)
              · rw [nI_ltI (by omega) (by omega)] at c5
                exact hex _ _ _ hP hD hS (lv_sub hl [0, 1, 2, 3, 4, 5] rfl)
              · exact absurd c5 (by rw [nI_ltI (by omega) (by omega)]; omega)
            | succ n ih =>
              intro i U H locs ls hk hP hD hS hl hex
              have hk36 : i < 7 := by omega
              refine lv_iload hx hb dX3_addVariable_36 (lv_at hl 0 rfl) ?_
              refine lv_bipush (v := nI 6) hx hb dX3_addVariable_38 (by decide) ?_
              refine lv_icmp_gt (tgt := 64) hx hb dX3_addVariable_40 (by decide) (fun c6 => ?_) (fun c6 => ?_)
              · exact absurd c6 (by rw [nI_ltI (by omega) (by omega)]; omega)
              · rw [nI_ltI (by omega) (by omega)] at c6
                refine lv_aload_n hx hb dX3_addVariable_43 rfl (lv_at hl 2 rfl) ?_
                refine lv_iload hx hb dX3_addVariable_44 (lv_at hl 0 rfl) ?_
                refine lv_dup2_11 hx hb dX3_addVariable_46 rfl rfl ?_
                refine rD_lld (n := k) (i := i) hx hb hK hP (by omega) (by omega) dX3_addVariable_47 ?_
                refine lv_iload_n hx hb dX3_addVariable_48 rfl (lv_at hl 3 rfl) ?_
                refine lv_i2l hx hb dX3_addVariable_49 (v := x.toInt64) rfl ?_
                refine lv_aload hx hb dX3_addVariable_50 (lv_at hl 5 rfl) ?_
                refine lv_iload hx hb dX3_addVariable_52 (lv_at hl 0 rfl) ?_
                refine rD_lld (n := (15 + v)) (i := i) hx hb hK hP (by omega) (by omega) dX3_addVariable_54 ?_
                refine lv_lmul hx hb dX3_addVariable_55 ?_
                refine lv_ladd hx hb dX3_addVariable_56 ?_
                refine rD_lst (n := k) (i := i) hx hb hK hP hD hS (by omega) (by omega) dX3_addVariable_57 (fun H locs hP hD hS => ?_)
                refine lv_iinc (v := nI (i + 1)) (lv' := [(5, .int (nI (i + 1))), (0, .ref (ad 0)), (1, .ref (ad (11 + k))), (2, .int x), (3, .int (nI v)), (4, .ref (ad (11 + (15 + v))))]) hx hb dX3_addVariable_58 hl (k := 0) rfl (nI_1 _) (by decide) rfl (fun ls hl => ?_)
                refine lv_goto (tgt := 36) hx hb dX3_addVariable_61 (by decide) ?_
                have he : (fAV k v x) i U = (sRo U k i ((dRo U k i) + (x.toInt64 * (dRo U (15 + v) i)))) := rfl
                rw [lpN_s, he] at hex
                exact ih ((i + 1)) (sRo U k i ((dRo U k i) + (x.toInt64 * (dRo U (15 + v) i)))) _ _ _ (by omega) hP hD hS (lv_sub hl [0, 1, 2, 3, 4, 5] rfl) hex
          refine L36 7 0 S _ _ _ (by omega) hP hD hS (lv_sub hl [0, 2, 3, 4, 5, 1] rfl) (fun H locs ls hP hD hS hl => ?_)
          refine lv_aload_n hx hb dX3_addVariable_64 rfl (lv_at hl 2 rfl) ?_
          refine lv_bipush (v := nI 6) hx hb dX3_addVariable_65 (by decide) ?_
          refine lv_dup2_11 hx hb dX3_addVariable_67 rfl rfl ?_
          refine rD_lld (n := k) (i := 6) hx hb hK hP (by omega) (by omega) dX3_addVariable_68 ?_
          refine lv_iload_n hx hb dX3_addVariable_69 rfl (lv_at hl 3 rfl) ?_
          refine lv_sipush (v := nI 1000) hx hb dX3_addVariable_70 (by decide) ?_
          refine lv_imul hx hb dX3_addVariable_73 ?_
          refine lv_i2l hx hb dX3_addVariable_74 (v := (x * (nI 1000)).toInt64) rfl ?_
          refine lv_aload_n hx hb dX3_addVariable_75 rfl (lv_at hl 1 rfl) ?_
          refine rD_get (v := .long (dSc (lpN (fAV k v x) 7 0 S))) hx hb hts hin hown hK hP 1 (by decide) rfl (by decide +kernel) dX3_addVariable_76 ?_
          refine lv_lmul hx hb dX3_addVariable_79 ?_
          refine lv_ladd hx hb dX3_addVariable_80 ?_
          refine rD_lst (n := k) (i := 6) hx hb hK hP hD hS (by omega) (by omega) dX3_addVariable_81 (fun H locs hP hD hS => ?_)
          exact W.vret hx hb hr (fun t ht hW => ⟨⟨_, rfl, by simp only [kAV]; rw [if_neg c1]; rfl, by rw [ht]; exact hP, va_K.moved hW.alike hK, hD⟩, hS.F ht⟩) hS.2.2 dX3_addVariable_82
        · exact absurd c4 (by rw [nI_ltI (by omega) (by omega)]; omega)
set_option maxHeartbeats 4000000 in
set_option maxRecDepth 100000 in
theorem cD_placeWith (l : Launch) (D : va_G) (cy : Nat → ClassId) (ad : Nat → Nat) (X : va_W) (S : DS) (sz : Nat) {k : Nat} (hk : k < 15) (con : Int32) {i j a b : Nat} {rel con0 str wei : Int32} {f : Nat → Int32} (hi : X[i]? = some (a, .inr (1, [.ref b, .int rel, .int con0, .int str, .int wei]))) (hj : X[j]? = some (b, .inl (cy 1, 6, .inl f))) : Met l yX3_placeWith wsX3_placeWith (rm9 1 30) (dPc D cy ad X S sz [.ref (ad 0), .int (nI k), .ref a, .int con]) (dQv D cy ad X S sz (fun S' => S' = kPl S k f rel con str wei)) 0 0 (dA cy ad X S sz) := by
  refine dHead (cc := cX3_placeWith) (maxL := 6) (ret := none) (by decide) rfl (Nat.le_of_ble_eq_true rfl) ?_
  intro p e s m below meth c ls hx hb hr hlocks hml hown hts hsz hP hK hD hS hA hl
  have hin : ∀ w ∈ u_ws RX3 TX3 12, w ∈ wsX3_placeWith := by decide +kernel
  have hown : s.vm.findClass RX3 = some m.cls := hown
  have hl : lv_has ls 6 [(0, .ref (ad 0)), (1, .int (nI k)), (2, .ref a), (3, .int con)] := hl
  have hin1 : ∀ w ∈ u_ws RX1 TX1 5, w ∈ wsX3_placeWith := by decide +kernel
  refine lv_aload_n hx hb dX3_placeWith_0 rfl (lv_at hl 0 rfl) ?_
  refine lv_iload_n hx hb dX3_placeWith_1 rfl (lv_at hl 1 rfl) ?_
  refine dCallv (As := [.int (nI k)]) (rest := []) hx hb hml hown hts hK hP hD hS hA hl.1 (cD_lift l D cy ad _ _ _ (nI k)) (cwV 1 hts gX3_placeWith_X3_lift rfl rfl rfl (by decide +kernel) ⟨Nat.le_of_ble_eq_true rfl, Nat.le_of_ble_eq_true rfl⟩) rfl rfl (Nat.le_of_ble_eq_true rfl) ⟨Nat.le_of_ble_eq_true rfl, Nat.le_of_ble_eq_true rfl⟩ dX3_placeWith_2 (fun S1 H locs e1 hP hD hS => ?_)
  rw [show S1 = _ from e1] at hP hD
  refine lv_iload_n hx hb dX3_placeWith_5 rfl (lv_at hl 1 rfl) ?_
  refine lv_if_lt (tgt := 19) hx hb dX3_placeWith_6 (by decide) (fun c2 => ?_) (fun c2 => ?_)
  · exact absurd c2 (nI_pos (by omega))
  · skip
    refine lv_iload_n hx hb dX3_placeWith_9 rfl (lv_at hl 1 rfl) ?_
    refine lv_bipush (v := nI 14) hx hb dX3_placeWith_10 (by decide) ?_
    refine lv_icmp_gt (tgt := 19) hx hb dX3_placeWith_12 (by decide) (fun c3 => ?_) (fun c3 => ?_)
    · exact absurd c3 (by rw [nI_ltI (by omega) (by omega)]; omega)
    · rw [nI_ltI (by omega) (by omega)] at c3
      refine lv_aload_n hx hb dX3_placeWith_15 rfl (lv_at hl 2 rfl) ?_
      refine lv_ifnonnull (tgt := 20) hx hb dX3_placeWith_16 (by decide) ?_
      refine lv_aload_n hx hb dX3_placeWith_20 rfl (lv_at hl 0 rfl) ?_
      refine rD_get (v := .ref (ad 1)) hx hb hts hin hown hK hP 0 (by decide) rfl (by decide +kernel) dX3_placeWith_21 ?_
      refine lv_iload_n hx hb dX3_placeWith_24 rfl (lv_at hl 1 rfl) ?_
      refine rD_row (i := k) hx hb hK hP (by omega) dX3_placeWith_25 ?_
      refine lv_astore (lv' := [(4, .ref (ad (11 + k))), (0, .ref (ad 0)), (1, .int (nI k)), (2, .ref a), (3, .int con)]) hx hb dX3_placeWith_26 hl (by decide) rfl (fun ls hl => ?_)
      refine lv_iconst (v := nI 0) hx hb dX3_placeWith_28 (by decide) ?_
      refine lv_istore (lv' := [(5, .int (nI 0)), (4, .ref (ad (11 + k))), (0, .ref (ad 0)), (1, .int (nI k)), (2, .ref a), (3, .int con)]) hx hb dX3_placeWith_29 hl (by decide) rfl (fun ls hl => ?_)
      have L31 : ∀ (n i2 : Nat) (U : DS) (H : Heap) (locs : List Loc) (ls : Array Slot), i2 + n = 7 → va_P D vwCl (wD cy ad U ++ X) H → va_D (dA cy ad X S sz) (wD cy ad U ++ X) → va_S (dA cy ad X S sz) s.heap H locs → lv_has ls 6 [(5, .int (nI i2)), (0, .ref (ad 0)), (1, .int (nI k)), (2, .ref a), (3, .int con), (4, .ref (ad (11 + k)))] → (∀ (H : Heap) (locs : List Loc) (ls : Array Slot), va_P D vwCl (wD cy ad (lpN (fZr k) n i2 U) ++ X) H → va_D (dA cy ad X S sz) (wD cy ad (lpN (fZr k) n i2 U) ++ X) → va_S (dA cy ad X S sz) s.heap H locs → lv_has ls 6 [(5, .int (nI 7)), (0, .ref (ad 0)), (1, .int (nI k)), (2, .ref a), (3, .int con), (4, .ref (ad (11 + k)))] → W p l e (headSpec wsX3_placeWith (rm9 1 30)).room s m ([.ref (ad 0), .int (nI k), .ref a, .int con] : List Value).toArray below meth c H locs 0 0 (MQ below (dQv D cy ad X S sz (fun S' => S' = kPl S k f rel con str wei)) ([.ref (ad 0), .int (nI k), .ref a, .int con] : List Value).toArray s 0 0 (dA cy ad X S sz)) (F0 m 50 ls [])) → W p l e (headSpec wsX3_placeWith (rm9 1 30)).room s m ([.ref (ad 0), .int (nI k), .ref a, .int con] : List Value).toArray below meth c H locs 0 0 (MQ below (dQv D cy ad X S sz (fun S' => S' = kPl S k f rel con str wei)) ([.ref (ad 0), .int (nI k), .ref a, .int con] : List Value).toArray s 0 0 (dA cy ad X S sz)) (F0 m 31 ls []) := by
        intro n
        induction n with
        | zero =>
          intro i2 U H locs ls hk hP hD hS hl hex
          obtain rfl : 7 = i2 := by omega
          refine lv_iload hx hb dX3_placeWith_31 (lv_at hl 0 rfl) ?_
          refine lv_bipush (v := nI 6) hx hb dX3_placeWith_33 (by decide) ?_
          refine lv_icmp_gt (tgt := 50) hx hb dX3_placeWith_35 (by decide) (fun c4 => ?_) (fun c4 => ?_)
          · rw [nI_ltI (by omega) (by omega)] at c4
            exact hex _ _ _ hP hD hS (lv_sub hl [0, 1, 2, 3, 4, 5] rfl)
          · exact absurd c4 (by rw [nI_ltI (by omega) (by omega)]; omega)
        | succ n ih =>
          intro i2 U H locs ls hk hP hD hS hl hex
          have hk31 : i2 < 7 := by omega
          refine lv_iload hx hb dX3_placeWith_31 (lv_at hl 0 rfl) ?_
          refine lv_bipush (v := nI 6) hx hb dX3_placeWith_33 (by decide) ?_
          refine lv_icmp_gt (tgt := 50) hx hb dX3_placeWith_35 (by decide) (fun c5 => ?_) (fun c5 => ?_)
          · exact absurd c5 (by rw [nI_ltI (by omega) (by omega)]; omega)
          · rw [nI_ltI (by omega) (by omega)] at c5
            refine lv_aload hx hb dX3_placeWith_38 (lv_at hl 5 rfl) ?_
            refine lv_iload hx hb dX3_placeWith_40 (lv_at hl 0 rfl) ?_
            refine lv_lconst (v := 0) hx hb dX3_placeWith_42 (by decide) ?_
            refine rD_lst (n := k) (i := i2) hx hb hK hP hD hS (by omega) (by omega) dX3_placeWith_43 (fun H locs hP hD hS => ?_)
            refine lv_iinc (v := nI (i2 + 1)) (lv' := [(5, .int (nI (i2 + 1))), (0, .ref (ad 0)), (1, .int (nI k)), (2, .ref a), (3, .int con), (4, .ref (ad (11 + k)))]) hx hb dX3_placeWith_44 hl (k := 0) rfl (nI_1 _) (by decide) rfl (fun ls hl => ?_)
            refine lv_goto (tgt := 31) hx hb dX3_placeWith_47 (by decide) ?_
            have he : (fZr k) i2 U = (sRo U k i2 0) := rfl
            rw [lpN_s, he] at hex
            exact ih ((i2 + 1)) (sRo U k i2 0) _ _ _ (by omega) hP hD hS (lv_sub hl [0, 1, 2, 3, 4, 5] rfl) hex
      refine L31 7 0 (kLift S (nI k)) _ _ _ (by omega) hP hD hS (lv_sub hl [0, 2, 3, 4, 5, 1] rfl) (fun H locs ls hP hD hS hl => ?_)
      refine lv_aload hx hb dX3_placeWith_50 (lv_at hl 5 rfl) ?_
      refine lv_bipush (v := nI 6) hx hb dX3_placeWith_52 (by decide) ?_
      refine lv_aload_n hx hb dX3_placeWith_54 rfl (lv_at hl 1 rfl) ?_
      refine rD_get (v := .long (dSc (lpN (fZr k) 7 0 (kLift S (nI k))))) hx hb hts hin hown hK hP 1 (by decide) rfl (by decide +kernel) dX3_placeWith_55 ?_
      refine lv_lneg hx hb dX3_placeWith_58 ?_
      refine lv_iload_n hx hb dX3_placeWith_59 rfl (lv_at hl 4 rfl) ?_
      refine lv_i2l hx hb dX3_placeWith_60 (v := con.toInt64) rfl ?_
      refine lv_lmul hx hb dX3_placeWith_61 ?_
      refine rD_lst (n := k) (i := 6) hx hb hK hP hD hS (by omega) (by omega) dX3_placeWith_62 (fun H locs hP hD hS => ?_)
      have hk1 : sRo (lpN (fZr k) 7 0 (kLift S (nI k))) k 6 ((-(dSc (lpN (fZr k) 7 0 (kLift S (nI k))))) * con.toInt64) = kPl1 (kLift S (nI k)) k con := rfl
      rw [hk1] at hP hD
      refine lv_iconst (v := nI 0) hx hb dX3_placeWith_63 (by decide) ?_
      refine lv_istore (lv' := [(5, .int (nI 0)), (0, .ref (ad 0)), (1, .int (nI k)), (2, .ref a), (3, .int con), (4, .ref (ad (11 + k)))]) hx hb dX3_placeWith_64 hl (by decide) rfl (fun ls hl => ?_)
      have L66 : ∀ (n v : Nat) (U : DS) (H : Heap) (locs : List Loc) (ls : Array Slot), v + n = 6 → va_P D vwCl (wD cy ad U ++ X) H → va_D (dA cy ad X S sz) (wD cy ad U ++ X) → va_S (dA cy ad X S sz) s.heap H locs → lv_has ls 6 [(5, .int (nI v)), (0, .ref (ad 0)), (1, .int (nI k)), (2, .ref a), (3, .int con), (4, .ref (ad (11 + k)))] → (∀ (H : Heap) (locs : List Loc) (ls : Array Slot), va_P D vwCl (wD cy ad (lpN (fPl k f) n v U) ++ X) H → va_D (dA cy ad X S sz) (wD cy ad (lpN (fPl k f) n v U) ++ X) → va_S (dA cy ad X S sz) s.heap H locs → lv_has ls 6 [(5, .int (nI 6)), (0, .ref (ad 0)), (1, .int (nI k)), (2, .ref a), (3, .int con), (4, .ref (ad (11 + k)))] → W p l e (headSpec wsX3_placeWith (rm9 1 30)).room s m ([.ref (ad 0), .int (nI k), .ref a, .int con] : List Value).toArray below meth c H locs 0 0 (MQ below (dQv D cy ad X S sz (fun S' => S' = kPl S k f rel con str wei)) ([.ref (ad 0), .int (nI k), .ref a, .int con] : List Value).toArray s 0 0 (dA cy ad X S sz)) (F0 m 93 ls [])) → W p l e (headSpec wsX3_placeWith (rm9 1 30)).room s m ([.ref (ad 0), .int (nI k), .ref a, .int con] : List Value).toArray below meth c H locs 0 0 (MQ below (dQv D cy ad X S sz (fun S' => S' = kPl S k f rel con str wei)) ([.ref (ad 0), .int (nI k), .ref a, .int con] : List Value).toArray s 0 0 (dA cy ad X S sz)) (F0 m 66 ls []) := by
        intro n
        induction n with
        | zero =>
          intro v U H locs ls hk hP hD hS hl hex
          obtain rfl : 6 = v := by omega
          refine lv_iload hx hb dX3_placeWith_66 (lv_at hl 0 rfl) ?_
          refine lv_bipush (v := nI 6) hx hb dX3_placeWith_68 (by decide) ?_
          refine lv_icmp_ge (tgt := 93) hx hb dX3_placeWith_70 (by decide) (fun c6 => ?_) (fun c6 => ?_)
          · rw [nI_leI (by omega) (by omega)] at c6
            exact hex _ _ _ hP hD hS (lv_sub hl [0, 1, 2, 3, 4, 5] rfl)
          · exact absurd c6 (by rw [nI_leI (by omega) (by omega)]; omega)
        | succ n ih =>
          intro v U H locs ls hk hP hD hS hl hex
          have hk66 : v < 6 := by omega
          refine lv_iload hx hb dX3_placeWith_66 (lv_at hl 0 rfl) ?_
          refine lv_bipush (v := nI 6) hx hb dX3_placeWith_68 (by decide) ?_
          refine lv_icmp_ge (tgt := 93) hx hb dX3_placeWith_70 (by decide) (fun c7 => ?_) (fun c7 => ?_)
          · exact absurd c7 (by rw [nI_leI (by omega) (by omega)]; omega)
          · rw [nI_leI (by omega) (by omega)] at c7
            refine lv_aload_n hx hb dX3_placeWith_73 rfl (lv_at hl 1 rfl) ?_
            refine lv_aload hx hb dX3_placeWith_74 (lv_at hl 5 rfl) ?_
            refine lv_aload_n hx hb dX3_placeWith_76 rfl (lv_at hl 3 rfl) ?_
            refine lv_iload hx hb dX3_placeWith_77 (lv_at hl 0 rfl) ?_
            refine gCalli (ws := wD cy ad U ++ X) (As := [.int (nI v)]) (rest := [.ref (ad (11 + k)), .ref (ad 0)]) (q0 := 43 + i) (r0 := (RX1, TX1, 5)) hx hb hml hown hts hK hP hD hS hA hl.1 (wX_r hi) rfl (cK_coefficient l D cy _ _ (v := v) (by omega) (wX_r hi) (wX_r hj)) (cwV 1 hts gX3_placeWith_X1_coefficient rfl rfl rfl (by decide +kernel) ⟨Nat.le_of_ble_eq_true rfl, Nat.le_of_ble_eq_true rfl⟩) rfl rfl (Nat.le_of_ble_eq_true rfl) ⟨Nat.le_of_ble_eq_true rfl, Nat.le_of_ble_eq_true rfl⟩ dX3_placeWith_79 (fun r8 ws9 H locs e8 hP hD hS => ?_)
            obtain ⟨e8a, e8b⟩ := e8
            rw [e8a]
            rw [e8b] at hP hD
            refine lv_iload hx hb dX3_placeWith_82 (lv_at hl 0 rfl) ?_
            refine dCallv (As := [.ref (ad (11 + k)), .int (f v), .int (nI v)]) (rest := []) hx hb hml hown hts hK hP hD hS hA hl.1 (cD_addVariable l D cy ad _ _ _ (k := k) (v := v) (by omega) (by omega) (f v)) (cwV 3 hts gX3_placeWith_X3_addVariable rfl rfl rfl (by decide +kernel) ⟨Nat.le_of_ble_eq_true rfl, Nat.le_of_ble_eq_true rfl⟩) rfl rfl (Nat.le_of_ble_eq_true rfl) ⟨Nat.le_of_ble_eq_true rfl, Nat.le_of_ble_eq_true rfl⟩ dX3_placeWith_84 (fun S9 H locs e9 hP hD hS => ?_)
            rw [show S9 = _ from e9] at hP hD
            refine lv_iinc (v := nI (v + 1)) (lv' := [(5, .int (nI (v + 1))), (0, .ref (ad 0)), (1, .int (nI k)), (2, .ref a), (3, .int con), (4, .ref (ad (11 + k)))]) hx hb dX3_placeWith_87 hl (k := 0) rfl (nI_1 _) (by decide) rfl (fun ls hl => ?_)
            refine lv_goto (tgt := 66) hx hb dX3_placeWith_90 (by decide) ?_
            have he : (fPl k f) v U = (kAV U k (f v) v) := rfl
            rw [lpN_s, he] at hex
            exact ih ((v + 1)) (kAV U k (f v) v) _ _ _ (by omega) hP hD hS (lv_sub hl [0, 1, 2, 3, 4, 5] rfl) hex
      refine L66 6 0 (kPl1 (kLift S (nI k)) k con) _ _ _ (by omega) hP hD hS (lv_sub hl [0, 1, 2, 3, 4, 5] rfl) (fun H locs ls hP hD hS hl => ?_)
      refine lv_aload_n hx hb dX3_placeWith_93 rfl (lv_at hl 1 rfl) ?_
      refine rD_get (v := .ref (ad 2)) hx hb hts hin hown hK hP 2 (by decide) rfl (by decide +kernel) dX3_placeWith_94 ?_
      refine lv_iload_n hx hb dX3_placeWith_97 rfl (lv_at hl 2 rfl) ?_
      refine lv_iconst (v := nI 1) hx hb dX3_placeWith_98 (by decide) ?_
      refine rD_zst (i := k) hx hb hK hP hD hS (by omega) (by decide) dX3_placeWith_99 (fun H locs hP hD hS => ?_)
      refine lv_aload_n hx hb dX3_placeWith_100 rfl (lv_at hl 1 rfl) ?_
      refine rD_get (v := .ref (ad 3)) hx hb hts hin hown hK hP 3 (by decide) rfl (by decide +kernel) dX3_placeWith_101 ?_
      refine lv_iload_n hx hb dX3_placeWith_104 rfl (lv_at hl 2 rfl) ?_
      refine lv_iload_n hx hb dX3_placeWith_105 rfl (lv_at hl 4 rfl) ?_
      refine rD_ist (i := k) hx hb hK hP hD hS 3 (by decide) (by decide) (by omega) dX3_placeWith_106 (fun H locs hP hD hS => ?_)
      refine lv_aload_n hx hb dX3_placeWith_107 rfl (lv_at hl 1 rfl) ?_
      refine rD_get (v := .ref (ad 4)) hx hb hts hin hown hK hP 4 (by decide) rfl (by decide +kernel) dX3_placeWith_108 ?_
      refine lv_iload_n hx hb dX3_placeWith_111 rfl (lv_at hl 2 rfl) ?_
      refine lv_aload_n hx hb dX3_placeWith_112 rfl (lv_at hl 3 rfl) ?_
      refine va_get (v := .int str) (ci := 1) (C := RX1) (T := TX1) (N := 5) hx hb hts hin1 hown hK hP _ (wX_r hi) rfl 3 (by decide) (hts (.fieldLink RX3 78 "LayoutSolver$Constraint" "strength" "I") (by decide +kernel)) (fun x h => h) rfl dX3_placeWith_113 ?_
      refine rD_ist (i := k) hx hb hK hP hD hS 4 (by decide) (by decide) (by omega) dX3_placeWith_116 (fun H locs hP hD hS => ?_)
      refine lv_aload_n hx hb dX3_placeWith_117 rfl (lv_at hl 1 rfl) ?_
      refine rD_get (v := .ref (ad 5)) hx hb hts hin hown hK hP 5 (by decide) rfl (by decide +kernel) dX3_placeWith_118 ?_
      refine lv_iload_n hx hb dX3_placeWith_121 rfl (lv_at hl 2 rfl) ?_
      refine lv_aload_n hx hb dX3_placeWith_122 rfl (lv_at hl 3 rfl) ?_
      refine gCalli (ws := wD cy ad (sI (sI (sI (lpN (fPl k f) 6 0 (kPl1 (kLift S (nI k)) k con)) 2 k (nI 1)) 3 k con) 4 k str) ++ X) (As := []) (rest := [.int (nI k), .ref (ad 5)]) (q0 := 43 + i) (r0 := (RX1, TX1, 5)) hx hb hml hown hts hK hP hD hS hA hl.1 (wX_r hi) rfl (cK_costAbove l D cy _ _ (j := j) (f := f) (wX_r hi)) (cwV 0 hts gX3_placeWith_X1_costAbove rfl rfl rfl (by decide +kernel) ⟨Nat.le_of_ble_eq_true rfl, Nat.le_of_ble_eq_true rfl⟩) rfl rfl (Nat.le_of_ble_eq_true rfl) ⟨Nat.le_of_ble_eq_true rfl, Nat.le_of_ble_eq_true rfl⟩ dX3_placeWith_123 (fun r10 ws9 H locs e10 hP hD hS => ?_)
      obtain ⟨e10a, e10b⟩ := e10
      rw [e10a]
      rw [e10b] at hP hD
      refine rD_ist (i := k) hx hb hK hP hD hS 5 (by decide) (by decide) (by omega) dX3_placeWith_126 (fun H locs hP hD hS => ?_)
      refine lv_aload_n hx hb dX3_placeWith_127 rfl (lv_at hl 1 rfl) ?_
      refine rD_get (v := .ref (ad 6)) hx hb hts hin hown hK hP 6 (by decide) rfl (by decide +kernel) dX3_placeWith_128 ?_
      refine lv_iload_n hx hb dX3_placeWith_131 rfl (lv_at hl 2 rfl) ?_
      refine lv_aload_n hx hb dX3_placeWith_132 rfl (lv_at hl 3 rfl) ?_
      refine gCalli (ws := wD cy ad (sI (sI (sI (sI (lpN (fPl k f) 6 0 (kPl1 (kLift S (nI k)) k con)) 2 k (nI 1)) 3 k con) 4 k str) 5 k (kAbove rel wei)) ++ X) (As := []) (rest := [.int (nI k), .ref (ad 6)]) (q0 := 43 + i) (r0 := (RX1, TX1, 5)) hx hb hml hown hts hK hP hD hS hA hl.1 (wX_r hi) rfl (cK_costBelow l D cy _ _ (j := j) (f := f) (wX_r hi)) (cwV 0 hts gX3_placeWith_X1_costBelow rfl rfl rfl (by decide +kernel) ⟨Nat.le_of_ble_eq_true rfl, Nat.le_of_ble_eq_true rfl⟩) rfl rfl (Nat.le_of_ble_eq_true rfl) ⟨Nat.le_of_ble_eq_true rfl, Nat.le_of_ble_eq_true rfl⟩ dX3_placeWith_133 (fun r11 ws9 H locs e11 hP hD hS => ?_)
      obtain ⟨e11a, e11b⟩ := e11
      rw [e11a]
      rw [e11b] at hP hD
      refine rD_ist (i := k) hx hb hK hP hD hS 6 (by decide) (by decide) (by omega) dX3_placeWith_136 (fun H locs hP hD hS => ?_)
      have hk2 : sI (sI (sI (sI (sI (lpN (fPl k f) 6 0 (kPl1 (kLift S (nI k)) k con)) 2 k (nI 1)) 3 k con) 4 k str) 5 k (kAbove rel wei)) 6 k (kBelow rel wei) = kPl2 (lpN (fPl k f) 6 0 (kPl1 (kLift S (nI k)) k con)) k rel con str wei := rfl
      rw [hk2] at hP hD
      refine lv_aload_n hx hb dX3_placeWith_137 rfl (lv_at hl 1 rfl) ?_
      refine rD_get (v := .ref (ad 7)) hx hb hts hin hown hK hP 7 (by decide) rfl (by decide +kernel) dX3_placeWith_138 ?_
      refine lv_iload_n hx hb dX3_placeWith_141 rfl (lv_at hl 2 rfl) ?_
      refine lv_aload hx hb dX3_placeWith_142 (lv_at hl 5 rfl) ?_
      refine lv_bipush (v := nI 6) hx hb dX3_placeWith_144 (by decide) ?_
      refine rD_lld (n := k) (i := 6) hx hb hK hP (by omega) (by omega) dX3_placeWith_146 ?_
      refine lv_lconst (v := 0) hx hb dX3_placeWith_147 (by decide) ?_
      refine W.lcmp hx hb dX3_placeWith_148 ?_
      refine lv_if_ge (tgt := 156) hx hb dX3_placeWith_149 (by decide) (fun c12 => ?_) (fun c12 => ?_)
      · skip
        refine lv_iconst (v := nI 1) hx hb dX3_placeWith_156 (by decide) ?_
        refine rD_ist (i := k) hx hb hK hP hD hS 7 (by decide) (by decide) (by omega) dX3_placeWith_157 (fun H locs hP hD hS => ?_)
        exact W.vret hx hb hr (fun t ht hW => ⟨⟨_, rfl, by simp only [kPl]; rw [if_pos c12], by rw [ht]; exact hP, va_K.moved hW.alike hK, hD⟩, hS.F ht⟩) hS.2.2 dX3_placeWith_158
      · skip
        refine lv_iconst (v := -1) hx hb dX3_placeWith_152 (by decide) ?_
        refine lv_goto (tgt := 157) hx hb dX3_placeWith_153 (by decide) ?_
        refine rD_ist (i := k) hx hb hK hP hD hS 7 (by decide) (by decide) (by omega) dX3_placeWith_157 (fun H locs hP hD hS => ?_)
        exact W.vret hx hb hr (fun t ht hW => ⟨⟨_, rfl, by simp only [kPl]; rw [if_neg c12], by rw [ht]; exact hP, va_K.moved hW.alike hK, hD⟩, hS.F ht⟩) hS.2.2 dX3_placeWith_158
