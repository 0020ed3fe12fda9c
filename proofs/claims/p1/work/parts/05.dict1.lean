/-- n rounds of f, from the number k on -/
def lpN {α : Type} (f : Nat → α → α) : Nat → Nat → α → α
  | 0, _, a => a
  | n + 1, k, a => lpN f n (k + 1) (f k a)
theorem lpN_s {α : Type} {f : Nat → α → α} {n k : Nat} {a : α} : lpN f (n + 1) k a = lpN f n (k + 1) (f k a) := rfl
theorem ixN {x : Int32} (N : Nat) (h0 : ¬ x < 0) (h1 : x < nI N) (hN : N < 2 ^ 31) : ∃ k : Nat, k < N ∧ x = nI k := by
  rcases pk_ix x hN with h | h | h
  · exact absurd h h0
  · exact absurd h (Int32.not_le.mpr h1)
  · exact h
theorem ixL {x : Int32} (N : Nat) (h0 : ¬ x < 0) (h1 : ¬ nI N < x) (hN : N + 1 < 2 ^ 31) : ∃ k : Nat, k < N + 1 ∧ x = nI k := by
  rcases pk_ix x hN with h | h | h
  · exact absurd h h0
  · have h2 : nI N < nI (N + 1) := nI_lt (by omega) hN
    exact absurd (Int32.lt_of_lt_of_le h2 h) h1
  · exact h
/-- what the excess of a row costs -/
def kCost (S : DS) (k : Nat) : Int64 := if lg_cmp (dRo S k 6) 0 ≤ 0 then (dI S 6 k).toInt64 * -dRo S k 6 else (dI S 5 k).toInt64 * dRo S k 6
/-- slopes of a level, with those of a row -/
def kAdd1 (L k : Nat) (f : Int32) (c : Nat) (S : DS) : DS := sSl S L c (dSl S L c + f.toInt64 * dRo S k c)
def kAdd (S : DS) (lv : Int32) (k : Nat) (f : Int32) : DS := if f = 0 then S else if lv < 0 then S else if nI 4 < lv then S else lpN (kAdd1 lv.toNatClampNeg k f) 6 0 S
set_option maxHeartbeats 4000000 in
set_option maxRecDepth 100000 in
theorem cJ_cmp (l : Launch) (sz : Nat) (x y : Int64) : Met l yJ13_compare_74951 wsJ13_compare_74951 (rm9 0 0) (pPc sz [.long x, .long y]) (pQi sz (fun r => r = cmpL x y)) 0 0 (fun q => sz ≤ q) := by
  refine pHead (cc := cJ13_compare_74951) (maxL := 4) (ret := (some .int)) (by decide) rfl (Nat.le_of_ble_eq_true rfl) ?_
  intro p e s m below meth c ls hx hb hr hlocks hml hown hts hsz hS hl
  have hown : s.vm.findClass RJ13 = some m.cls := hown
  have hl : lv_has ls 4 [(0, .long x), (2, .long y)] := hl
  refine lv_lload_n hx hb dJ13_compare_74951_0 rfl (lv_at hl 0 rfl) ?_
  refine lv_lload_n hx hb dJ13_compare_74951_1 rfl (lv_at hl 1 rfl) ?_
  refine W.lcmp hx hb dJ13_compare_74951_2 ?_
  refine lv_if_ge (tgt := 10) hx hb dJ13_compare_74951_3 (by decide) (fun c1 => ?_) (fun c1 => ?_)
  · skip
    refine lv_lload_n hx hb dJ13_compare_74951_10 rfl (lv_at hl 0 rfl) ?_
    refine lv_lload_n hx hb dJ13_compare_74951_11 rfl (lv_at hl 1 rfl) ?_
    refine W.lcmp hx hb dJ13_compare_74951_12 ?_
    refine lv_if_ne (tgt := 20) hx hb dJ13_compare_74951_13 (by decide) (fun c2 => ?_) (fun c2 => ?_)
    · skip
      refine lv_iconst (v := nI 1) hx hb dJ13_compare_74951_20 (by decide) ?_
      exact W.iret hx hb hr (fun t ht hW => ⟨⟨_, (), rfl, by simp [cmpL, nI_0, c1, c2], trivial⟩, hS.F ht⟩) hS.2.2 dJ13_compare_74951_21
    · skip
      refine lv_iconst (v := nI 0) hx hb dJ13_compare_74951_16 (by decide) ?_
      refine lv_goto (tgt := 21) hx hb dJ13_compare_74951_17 (by decide) ?_
      exact W.iret hx hb hr (fun t ht hW => ⟨⟨_, (), rfl, by simp [cmpL, nI_0, c1, c2], trivial⟩, hS.F ht⟩) hS.2.2 dJ13_compare_74951_21
  · skip
    refine lv_iconst (v := -1) hx hb dJ13_compare_74951_6 (by decide) ?_
    refine lv_goto (tgt := 21) hx hb dJ13_compare_74951_7 (by decide) ?_
    exact W.iret hx hb hr (fun t ht hW => ⟨⟨_, (), rfl, by simp [cmpL, nI_0, c1], trivial⟩, hS.F ht⟩) hS.2.2 dJ13_compare_74951_21
set_option maxHeartbeats 4000000 in
set_option maxRecDepth 100000 in
theorem cD_costOf (l : Launch) (D : va_G) (cy : Nat → ClassId) (ad : Nat → Nat) (X : va_W) (S : DS) (sz : Nat) {k : Nat} (hk : k < 27) : Met l yX3_costOf wsX3_costOf (rm9 0 0) (dPc D cy ad X S sz [.ref (ad 0), .int (nI k)]) (dQl D cy ad X S sz (fun r S' => r = kCost S k ∧ S' = S)) 0 0 (dA cy ad X S sz) := by
  refine dHead (cc := cX3_costOf) (maxL := 4) (ret := (some .long)) (by decide) rfl (Nat.le_of_ble_eq_true rfl) ?_
  intro p e s m below meth c ls hx hb hr hlocks hml hown hts hsz hP hK hD hS hA hl
  have hin : ∀ w ∈ u_ws RX3 TX3 12, w ∈ wsX3_costOf := by decide +kernel
  have hown : s.vm.findClass RX3 = some m.cls := hown
  have hl : lv_has ls 4 [(0, .ref (ad 0)), (1, .int (nI k))] := hl
  refine lv_iload_n hx hb dX3_costOf_0 rfl (lv_at hl 1 rfl) ?_
  refine lv_if_lt (tgt := 10) hx hb dX3_costOf_1 (by decide) (fun c1 => ?_) (fun c1 => ?_)
  · exact absurd c1 (nI_pos (by omega))
  · skip
    refine lv_iload_n hx hb dX3_costOf_4 rfl (lv_at hl 1 rfl) ?_
    refine lv_bipush (v := nI 27) hx hb dX3_costOf_5 (by decide) ?_
    refine lv_icmp_lt (tgt := 12) hx hb dX3_costOf_7 (by decide) (fun c2 => ?_) (fun c2 => ?_)
    · rw [nI_ltI (by omega) (by omega)] at c2
      refine lv_aload_n hx hb dX3_costOf_12 rfl (lv_at hl 0 rfl) ?_
      refine rD_get (v := .ref (ad 1)) hx hb hts hin hown hK hP 0 (by decide) rfl (by decide +kernel) dX3_costOf_13 ?_
      refine lv_iload_n hx hb dX3_costOf_16 rfl (lv_at hl 1 rfl) ?_
      refine rD_row (i := k) hx hb hK hP (by omega) dX3_costOf_17 ?_
      refine lv_bipush (v := nI 6) hx hb dX3_costOf_18 (by decide) ?_
      refine rD_lld (n := k) (i := 6) hx hb hK hP (by omega) (by omega) dX3_costOf_20 ?_
      refine lv_lstore_n (lv' := [(2, .long (dRo S k 6)), (0, .ref (ad 0)), (1, .int (nI k))]) hx hb dX3_costOf_21 rfl hl (by decide) rfl (fun ls hl => ?_)
      refine lv_lload_n hx hb dX3_costOf_22 rfl (lv_at hl 0 rfl) ?_
      refine lv_lconst (v := 0) hx hb dX3_costOf_23 (by decide) ?_
      refine W.lcmp hx hb dX3_costOf_24 ?_
      refine lv_if_le (tgt := 40) hx hb dX3_costOf_25 (by decide) (fun c3 => ?_) (fun c3 => ?_)
      · skip
        refine lv_aload_n hx hb dX3_costOf_40 rfl (lv_at hl 1 rfl) ?_
        refine rD_get (v := .ref (ad 6)) hx hb hts hin hown hK hP 6 (by decide) rfl (by decide +kernel) dX3_costOf_41 ?_
        refine lv_iload_n hx hb dX3_costOf_44 rfl (lv_at hl 2 rfl) ?_
        refine rD_ild (i := k) hx hb hK hP 6 (by decide) (by decide) (by omega) dX3_costOf_45 ?_
        refine lv_i2l hx hb dX3_costOf_46 (v := (dI S 6 k).toInt64) rfl ?_
        refine lv_lload_n hx hb dX3_costOf_47 rfl (lv_at hl 0 rfl) ?_
        refine lv_lneg hx hb dX3_costOf_48 ?_
        refine lv_lmul hx hb dX3_costOf_49 ?_
        exact W.lret hx hb hr (fun t ht hW => ⟨⟨_, _, rfl, ⟨by simp [kCost, c1, c3, c2], rfl⟩, by rw [ht]; exact hP, va_K.moved hW.alike hK, hD⟩, hS.F ht⟩) hS.2.2 dX3_costOf_50
      · skip
        refine lv_aload_n hx hb dX3_costOf_28 rfl (lv_at hl 1 rfl) ?_
        refine rD_get (v := .ref (ad 5)) hx hb hts hin hown hK hP 5 (by decide) rfl (by decide +kernel) dX3_costOf_29 ?_
        refine lv_iload_n hx hb dX3_costOf_32 rfl (lv_at hl 2 rfl) ?_
        refine rD_ild (i := k) hx hb hK hP 5 (by decide) (by decide) (by omega) dX3_costOf_33 ?_
        refine lv_i2l hx hb dX3_costOf_34 (v := (dI S 5 k).toInt64) rfl ?_
        refine lv_lload_n hx hb dX3_costOf_35 rfl (lv_at hl 0 rfl) ?_
        refine lv_lmul hx hb dX3_costOf_36 ?_
        refine lv_goto (tgt := 50) hx hb dX3_costOf_37 (by decide) ?_
        exact W.lret hx hb hr (fun t ht hW => ⟨⟨_, _, rfl, ⟨by simp [kCost, c1, c3, c2], rfl⟩, by rw [ht]; exact hP, va_K.moved hW.alike hK, hD⟩, hS.F ht⟩) hS.2.2 dX3_costOf_50
    · exact absurd c2 (by rw [nI_ltI (by omega) (by omega)]; omega)
set_option maxHeartbeats 4000000 in
set_option maxRecDepth 100000 in
theorem cD_addSlopes (l : Launch) (D : va_G) (cy : Nat → ClassId) (ad : Nat → Nat) (X : va_W) (S : DS) (sz : Nat) {k : Nat} (hk : k < 27) (lv f : Int32) : Met l yX3_addSlopes wsX3_addSlopes (rm9 0 0) (dPc D cy ad X S sz [.ref (ad 0), .int lv, .int (nI k), .int f]) (dQv D cy ad X S sz (fun S' => S' = kAdd S lv k f)) 0 0 (dA cy ad X S sz) := by
  refine dHead (cc := cX3_addSlopes) (maxL := 5) (ret := none) (by decide) rfl (Nat.le_of_ble_eq_true rfl) ?_
  intro p e s m below meth c ls hx hb hr hlocks hml hown hts hsz hP hK hD hS hA hl
  have hin : ∀ w ∈ u_ws RX3 TX3 12, w ∈ wsX3_addSlopes := by decide +kernel
  have hown : s.vm.findClass RX3 = some m.cls := hown
  have hl : lv_has ls 5 [(0, .ref (ad 0)), (1, .int lv), (2, .int (nI k)), (3, .int f)] := hl
  refine lv_iload_n hx hb dX3_addSlopes_0 rfl (lv_at hl 3 rfl) ?_
  refine lv_if_eq (tgt := 23) hx hb dX3_addSlopes_1 (by decide) (fun c1 => ?_) (fun c1 => ?_)
  · skip
    exact W.vret hx hb hr (fun t ht hW => ⟨⟨_, rfl, by simp [kAdd, c1], by rw [ht]; exact hP, va_K.moved hW.alike hK, hD⟩, hS.F ht⟩) hS.2.2 dX3_addSlopes_23
  · skip
    refine lv_iload_n hx hb dX3_addSlopes_4 rfl (lv_at hl 1 rfl) ?_
    refine lv_if_lt (tgt := 23) hx hb dX3_addSlopes_5 (by decide) (fun c2 => ?_) (fun c2 => ?_)
    · skip
      exact W.vret hx hb hr (fun t ht hW => ⟨⟨_, rfl, by simp [kAdd, c1, c2], by rw [ht]; exact hP, va_K.moved hW.alike hK, hD⟩, hS.F ht⟩) hS.2.2 dX3_addSlopes_23
    · skip
      refine lv_iload_n hx hb dX3_addSlopes_8 rfl (lv_at hl 1 rfl) ?_
      refine lv_iconst (v := nI 4) hx hb dX3_addSlopes_9 (by decide) ?_
      refine lv_icmp_gt (tgt := 23) hx hb dX3_addSlopes_10 (by decide) (fun c3 => ?_) (fun c3 => ?_)
      · skip
        exact W.vret hx hb hr (fun t ht hW => ⟨⟨_, rfl, by simp [kAdd, c1, c2, c3], by rw [ht]; exact hP, va_K.moved hW.alike hK, hD⟩, hS.F ht⟩) hS.2.2 dX3_addSlopes_23
      · skip
        refine lv_iload_n hx hb dX3_addSlopes_13 rfl (lv_at hl 2 rfl) ?_
        refine lv_if_lt (tgt := 23) hx hb dX3_addSlopes_14 (by decide) (fun c4 => ?_) (fun c4 => ?_)
        · exact absurd c4 (nI_pos (by omega))
        · skip
          refine lv_iload_n hx hb dX3_addSlopes_17 rfl (lv_at hl 2 rfl) ?_
          refine lv_bipush (v := nI 27) hx hb dX3_addSlopes_18 (by decide) ?_
          refine lv_icmp_lt (tgt := 24) hx hb dX3_addSlopes_20 (by decide) (fun c5 => ?_) (fun c5 => ?_)
          · rw [nI_ltI (by omega) (by omega)] at c5
            obtain ⟨L, hL, hlv⟩ := ixL 4 c2 c3 (by decide)
            rw [hlv] at hl
            refine lv_iconst (v := nI 0) hx hb dX3_addSlopes_24 (by decide) ?_
            refine lv_istore (lv' := [(4, .int (nI 0)), (0, .ref (ad 0)), (1, .int (nI L)), (2, .int (nI k)), (3, .int f)]) hx hb dX3_addSlopes_25 hl (by decide) rfl (fun ls hl => ?_)
            have L27 : ∀ (n j : Nat) (U : DS) (H : Heap) (locs : List Loc) (ls : Array Slot), j + n = 6 → va_P D vwCl (wD cy ad U ++ X) H → va_D (dA cy ad X S sz) (wD cy ad U ++ X) → va_S (dA cy ad X S sz) s.heap H locs → lv_has ls 5 [(4, .int (nI j)), (0, .ref (ad 0)), (1, .int (nI L)), (2, .int (nI k)), (3, .int f)] → (∀ (H : Heap) (locs : List Loc) (ls : Array Slot), va_P D vwCl (wD cy ad (lpN (kAdd1 L k f) n j U) ++ X) H → va_D (dA cy ad X S sz) (wD cy ad (lpN (kAdd1 L k f) n j U) ++ X) → va_S (dA cy ad X S sz) s.heap H locs → lv_has ls 5 [(4, .int (nI 6)), (0, .ref (ad 0)), (1, .int (nI L)), (2, .int (nI k)), (3, .int f)] → W p l e (headSpec wsX3_addSlopes (rm9 0 0)).room s m ([.ref (ad 0), .int lv, .int (nI k), .int f] : List Value).toArray below meth c H locs 0 0 (MQ below (dQv D cy ad X S sz (fun S' => S' = kAdd S lv k f)) ([.ref (ad 0), .int lv, .int (nI k), .int f] : List Value).toArray s 0 0 (dA cy ad X S sz)) (F0 m 64 ls [])) → W p l e (headSpec wsX3_addSlopes (rm9 0 0)).room s m ([.ref (ad 0), .int lv, .int (nI k), .int f] : List Value).toArray below meth c H locs 0 0 (MQ below (dQv D cy ad X S sz (fun S' => S' = kAdd S lv k f)) ([.ref (ad 0), .int lv, .int (nI k), .int f] : List Value).toArray s 0 0 (dA cy ad X S sz)) (F0 m 27 ls []) := by
              intro n
              induction n with
              | zero =>
                intro j U H locs ls hk hP hD hS hl hex
                obtain rfl : j = 6 := by omega
                refine lv_iload hx hb dX3_addSlopes_27 (lv_at hl 0 rfl) ?_
                refine lv_bipush (v := nI 6) hx hb dX3_addSlopes_29 (by decide) ?_
                refine lv_icmp_ge (tgt := 64) hx hb dX3_addSlopes_31 (by decide) (fun c6 => ?_) (fun c6 => ?_)
                · rw [nI_leI (by omega) (by omega)] at c6
                  exact hex _ _ _ hP hD hS (lv_sub hl [0, 1, 2, 3, 4] rfl)
                · exact absurd c6 (by rw [nI_leI (by omega) (by omega)]; omega)
              | succ n ih =>
                intro j U H locs ls hk hP hD hS hl hex
                have hk27 : j < 6 := by omega
                refine lv_iload hx hb dX3_addSlopes_27 (lv_at hl 0 rfl) ?_
                refine lv_bipush (v := nI 6) hx hb dX3_addSlopes_29 (by decide) ?_
                refine lv_icmp_ge (tgt := 64) hx hb dX3_addSlopes_31 (by decide) (fun c7 => ?_) (fun c7 => ?_)
                · exact absurd c7 (by rw [nI_leI (by omega) (by omega)]; omega)
                · rw [nI_leI (by omega) (by omega)] at c7
                  refine lv_aload_n hx hb dX3_addSlopes_34 rfl (lv_at hl 1 rfl) ?_
                  refine rD_get (v := .ref (ad 10)) hx hb hts hin hown hK hP 10 (by decide) rfl (by decide +kernel) dX3_addSlopes_35 ?_
                  refine lv_iload_n hx hb dX3_addSlopes_38 rfl (lv_at hl 2 rfl) ?_
                  refine rD_slo (i := L) hx hb hK hP (by omega) dX3_addSlopes_39 ?_
                  refine lv_iload hx hb dX3_addSlopes_40 (lv_at hl 0 rfl) ?_
                  refine lv_dup2_11 hx hb dX3_addSlopes_42 rfl rfl ?_
                  refine rD_sld (n := L) (i := j) hx hb hK hP (by omega) (by omega) dX3_addSlopes_43 ?_
                  refine lv_iload_n hx hb dX3_addSlopes_44 rfl (lv_at hl 4 rfl) ?_
                  refine lv_i2l hx hb dX3_addSlopes_45 (v := f.toInt64) rfl ?_
                  refine lv_aload_n hx hb dX3_addSlopes_46 rfl (lv_at hl 1 rfl) ?_
                  refine rD_get (v := .ref (ad 1)) hx hb hts hin hown hK hP 0 (by decide) rfl (by decide +kernel) dX3_addSlopes_47 ?_
                  refine lv_iload_n hx hb dX3_addSlopes_50 rfl (lv_at hl 3 rfl) ?_
                  refine rD_row (i := k) hx hb hK hP (by omega) dX3_addSlopes_51 ?_
                  refine lv_iload hx hb dX3_addSlopes_52 (lv_at hl 0 rfl) ?_
                  refine rD_lld (n := k) (i := j) hx hb hK hP (by omega) (by omega) dX3_addSlopes_54 ?_
                  refine lv_lmul hx hb dX3_addSlopes_55 ?_
                  refine lv_ladd hx hb dX3_addSlopes_56 ?_
                  refine rD_sst (n := L) (i := j) hx hb hK hP hD hS (by omega) (by omega) dX3_addSlopes_57 (fun H locs hP hD hS => ?_)
                  refine lv_iinc (v := nI (j + 1)) (lv' := [(4, .int (nI (j + 1))), (0, .ref (ad 0)), (1, .int (nI L)), (2, .int (nI k)), (3, .int f)]) hx hb dX3_addSlopes_58 hl (k := 0) rfl (nI_1 _) (by decide) rfl (fun ls hl => ?_)
                  refine lv_goto (tgt := 27) hx hb dX3_addSlopes_61 (by decide) ?_
                  have he : (kAdd1 L k f) j U = (sSl U L j ((dSl U L j) + (f.toInt64 * (dRo U k j)))) := rfl
                  rw [lpN_s, he] at hex
                  exact ih ((j + 1)) (sSl U L j ((dSl U L j) + (f.toInt64 * (dRo U k j)))) _ _ _ (by omega) hP hD hS (lv_sub hl [0, 1, 2, 3, 4] rfl) hex
            refine L27 6 0 S _ _ _ (by omega) hP hD hS (lv_sub hl [0, 1, 2, 3, 4] rfl) (fun H locs ls hP hD hS hl => ?_)
            exact W.vret hx hb hr (fun t ht hW => ⟨⟨_, rfl, by have e9 : lv.toNatClampNeg = L := (by rw [hlv, nI_clamp (by omega)]); simp [kAdd, e9, c1, c2, c3, c4, c5], by rw [ht]; exact hP, va_K.moved hW.alike hK, hD⟩, hS.F ht⟩) hS.2.2 dX3_addSlopes_64
          · exact absurd c5 (by rw [nI_ltI (by omega) (by omega)]; omega)
