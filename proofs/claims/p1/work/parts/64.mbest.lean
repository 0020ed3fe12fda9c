/-! p1: the reference, best -/
theorem jW_of {x : Int32} (h : ¬ j_in x (-1000) (nI 1000) = 0) : -1000 ≤ x.toInt ∧ x.toInt ≤ 1000 := by
  unfold j_in at h
  by_cases h0 : x < -1000
  · exact absurd (by rw [if_pos h0]; rfl) h
  by_cases h1 : nI 1000 < x
  · exact absurd (by rw [if_neg h0, if_pos h1]; rfl) h
  rw [Int32.lt_iff_toInt_lt] at h0 h1
  rw [show ((-1000) : Int32).toInt = -1000 by decide] at h0
  rw [show (nI 1000 : Int32).toInt = 1000 by decide] at h1
  omega
theorem jW_to {x : Int32} (h0 : -1000 ≤ x.toInt) (h1 : x.toInt ≤ 1000) : ¬ j_in x (-1000) (nI 1000) = 0 := by
  unfold j_in
  rw [if_neg (by rw [Int32.lt_iff_toInt_lt, show ((-1000) : Int32).toInt = -1000 by decide]; omega), if_neg (by rw [Int32.lt_iff_toInt_lt, show (nI 1000 : Int32).toInt = 1000 by decide]; omega)]
  decide
theorem jW_3 {x a : Int32} (h : ¬ j_in x a (nI 1000) = 0) : a.toInt ≤ x.toInt ∧ x.toInt ≤ 1000 := by
  unfold j_in at h
  by_cases h0 : x < a
  · exact absurd (by rw [if_pos h0]; rfl) h
  by_cases h1 : nI 1000 < x
  · exact absurd (by rw [if_neg h0, if_pos h1]; rfl) h
  rw [Int32.lt_iff_toInt_lt] at h0 h1
  rw [show (nI 1000 : Int32).toInt = 1000 by decide] at h1
  omega
def kOkM (v : Nat) (F : MS → Prop) : Prop := (∀ S : MS, F S → F (jKeep S)) ∧ ∀ (S : MS) (x : Int32), F S → ¬ j_in x (-1000) (nI 1000) = 0 → ∃ Z : MS, jSolves (jFo S v x) (nI 32767) (nI 1) Z ∧ F (jFoE Z) ∧ (∀ s : Nat, 1 ≤ s → s < 4 → a13 Z s = 0) ∧ ∀ s : Nat, s < 4 → a19 Z s = a19 S s
theorem keep19 {S : MS} {s : Nat} (h1 : 1 ≤ s) (h4 : s < 4) : a19 (jKeep S) s = a13 S s := by
  rcases (show s = 1 ∨ s = 2 ∨ s = 3 by omega) with rfl | rfl | rfl <;> rfl
set_option maxHeartbeats 4000000 in
set_option maxRecDepth 100000 in
theorem cN_best (l : Launch) (D : va_G) (cy : Nat → ClassId) (ad : Nat → Nat) (X : va_W) (S : MS) (sz : Nat) {F : MS → Prop} (hF0 : F S) (hF : ∀ v0 : Nat, v0 < 6 → kOkM v0 F) (v b2 b3 : Int32) : Met l yX9_best wsX9_best (rm9 6 160) (gPc D cy (wM cy ad S ++ X) sz [.ref (ad 0), .int v, .int b2, .int b3]) (gQi D cy (wM cy ad S ++ X) sz (fun r _ => r = (if j_isVariable v = 0 then -1 else if j_in b2 (-1000) (nI 1000) = 0 then -2 else if j_in b3 b2 (nI 1000) = 0 then -2 else if b2 + nI 15 < b3 then -2 else b2 + nI 10000))) 0 0 (va_A (wM cy ad S ++ X) sz) := by
  refine gHead (cc := cX9_best) (maxL := 6) (ret := (some .int)) (by decide) rfl (Nat.le_of_ble_eq_true rfl) ?_
  intro p e s m below meth c ls hx hb hr hlocks hml hown hts hsz hP hK hD hS hA hl
  have hin : ∀ w ∈ u_ws RX9 TX9 36, w ∈ wsX9_best := by decide +kernel
  have hown : s.vm.findClass RX9 = some m.cls := hown
  have hl : lv_has ls 6 [(0, .ref (ad 0)), (1, .int v), (2, .int b2), (3, .int b3)] := hl
  refine lv_iload_n hx hb dX9_best_0 rfl (lv_at hl 1 rfl) ?_
  refine pCalli (As := [.int v]) (rest := []) hx hb hml hown hts hP hS hA hl.1 (cM_isVariable l _ v) (va_cwS 1 hts gX9_best_X9_isVariable rfl rfl rfl (by decide +kernel) ⟨Nat.le_of_ble_eq_true rfl, Nat.le_of_ble_eq_true rfl⟩) rfl rfl (Nat.le_of_ble_eq_true rfl) ⟨Nat.le_of_ble_eq_true rfl, Nat.le_of_ble_eq_true rfl⟩ dX9_best_1 (fun r1 H locs e1 hP hS => ?_)
  rw [show r1 = j_isVariable v from e1]
  refine lv_if_ne (tgt := 9) hx hb dX9_best_4 (by decide) (fun c2 => ?_) (fun c2 => ?_)
  · skip
    refine lv_iload_n hx hb dX9_best_9 rfl (lv_at hl 2 rfl) ?_
    refine lv_sipush (v := (-1000)) hx hb dX9_best_10 (by decide) ?_
    refine lv_sipush (v := nI 1000) hx hb dX9_best_13 (by decide) ?_
    refine pCalli (As := [.int b2, .int (-1000), .int (nI 1000)]) (rest := []) hx hb hml hown hts hP hS hA hl.1 (cM_in l _ b2 (-1000) (nI 1000)) (va_cwS 3 hts gX9_best_X9_in rfl rfl rfl (by decide +kernel) ⟨Nat.le_of_ble_eq_true rfl, Nat.le_of_ble_eq_true rfl⟩) rfl rfl (Nat.le_of_ble_eq_true rfl) ⟨Nat.le_of_ble_eq_true rfl, Nat.le_of_ble_eq_true rfl⟩ dX9_best_16 (fun r3 H locs e3 hP hS => ?_)
    rw [show r3 = j_in b2 (-1000) (nI 1000) from e3]
    refine lv_if_eq (tgt := 41) hx hb dX9_best_19 (by decide) (fun c4 => ?_) (fun c4 => ?_)
    · skip
      refine lv_bipush (v := (-2)) hx hb dX9_best_41 (by decide) ?_
      exact W.iret hx hb hr (fun t ht hW => ⟨⟨_, _, rfl, by simp_all, by rw [ht]; exact hP, va_K.moved hW.alike hK, hD⟩, hS.F ht⟩) hS.2.2 dX9_best_43
    · skip
      refine lv_iload_n hx hb dX9_best_22 rfl (lv_at hl 3 rfl) ?_
      refine lv_iload_n hx hb dX9_best_23 rfl (lv_at hl 2 rfl) ?_
      refine lv_sipush (v := nI 1000) hx hb dX9_best_24 (by decide) ?_
      refine pCalli (As := [.int b3, .int b2, .int (nI 1000)]) (rest := []) hx hb hml hown hts hP hS hA hl.1 (cM_in l _ b3 b2 (nI 1000)) (va_cwS 3 hts gX9_best_X9_in rfl rfl rfl (by decide +kernel) ⟨Nat.le_of_ble_eq_true rfl, Nat.le_of_ble_eq_true rfl⟩) rfl rfl (Nat.le_of_ble_eq_true rfl) ⟨Nat.le_of_ble_eq_true rfl, Nat.le_of_ble_eq_true rfl⟩ dX9_best_27 (fun r5 H locs e5 hP hS => ?_)
      rw [show r5 = j_in b3 b2 (nI 1000) from e5]
      refine lv_if_eq (tgt := 41) hx hb dX9_best_30 (by decide) (fun c6 => ?_) (fun c6 => ?_)
      · skip
        refine lv_bipush (v := (-2)) hx hb dX9_best_41 (by decide) ?_
        exact W.iret hx hb hr (fun t ht hW => ⟨⟨_, _, rfl, by simp_all, by rw [ht]; exact hP, va_K.moved hW.alike hK, hD⟩, hS.F ht⟩) hS.2.2 dX9_best_43
      · skip
        refine lv_iload_n hx hb dX9_best_33 rfl (lv_at hl 3 rfl) ?_
        refine lv_iload_n hx hb dX9_best_34 rfl (lv_at hl 2 rfl) ?_
        refine lv_bipush (v := nI 15) hx hb dX9_best_35 (by decide) ?_
        refine lv_iadd hx hb dX9_best_37 ?_
        refine lv_icmp_le (tgt := 44) hx hb dX9_best_38 (by decide) (fun c7 => ?_) (fun c7 => ?_)
        · skip
          obtain ⟨v0, hv0, hve⟩ := j_isVar_ix c2
          have qq8 : v.toNatClampNeg = v0 := (by rw [hve, nI_clamp (by omega)])
          rw [hve] at hl
          obtain ⟨hw1, hw2⟩ := jW_of c4
          obtain ⟨hb1, hb2⟩ := jW_3 c6
          refine lv_bipush (v := (-6)) hx hb dX9_best_44 (by decide) ?_
          refine lv_istore (lv' := [(4, .int (-6)), (0, .ref (ad 0)), (1, .int (nI v0)), (2, .int b2), (3, .int b3)]) hx hb dX9_best_46 hl (by decide) rfl (fun ls hl => ?_)
          refine lv_iload_n hx hb dX9_best_48 rfl (lv_at hl 3 rfl) ?_
          refine lv_istore (lv' := [(5, .int b2), (4, .int (-6)), (0, .ref (ad 0)), (1, .int (nI v0)), (2, .int b2), (3, .int b3)]) hx hb dX9_best_49 hl (by decide) rfl (fun ls hl => ?_)
          have L51 : ∀ (n : Nat) (x found : Int32) (S7 : MS) (H : Heap) (locs : List Loc) (ls : Array Slot), b3.toInt + 1 - x.toInt = n → b2.toInt ≤ x.toInt → F S7 → ((x = b2 ∧ found = -6) ∨ (found = b2 + nI 10000 ∧ ∀ s : Nat, 1 ≤ s → s < 4 → a19 S7 s = 0)) → va_P D vwCl (wM cy ad S7 ++ X) H → va_D (va_A (wM cy ad S ++ X) sz) (wM cy ad S7 ++ X) → va_S (va_A (wM cy ad S ++ X) sz) s.heap H locs → lv_has ls 6 [(5, .int x), (4, .int found), (1, .int (nI v0)), (0, .ref (ad 0)), (2, .int b2), (3, .int b3)] → W p l e (headSpec wsX9_best (rm9 6 160)).room s m ([.ref (ad 0), .int v, .int b2, .int b3] : List Value).toArray below meth c H locs 0 0 (MQ below (gQi D cy (wM cy ad S ++ X) sz (fun r _ => r = (if j_isVariable v = 0 then -1 else if j_in b2 (-1000) (nI 1000) = 0 then -2 else if j_in b3 b2 (nI 1000) = 0 then -2 else if b2 + nI 15 < b3 then -2 else b2 + nI 10000))) ([.ref (ad 0), .int v, .int b2, .int b3] : List Value).toArray s 0 0 (va_A (wM cy ad S ++ X) sz)) (F0 m 51 ls []) := by
            intro n
            induction n with
            | zero =>
              intro x found S7 H locs ls hn hx2 hFS hfo hP hD hS hl
              refine lv_iload hx hb dX9_best_51 (lv_at hl 0 rfl) ?_
              refine lv_iload_n hx hb dX9_best_53 rfl (lv_at hl 5 rfl) ?_
              refine lv_icmp_gt (tgt := 99) hx hb dX9_best_54 (by decide) (fun c8 => ?_) (fun c8 => ?_)
              · skip
                obtain rfl : found = b2 + nI 10000 := by
                  rcases hfo with ⟨h9, h8⟩ | ⟨h9, h8⟩
                  · rw [h9] at hn; omega
                  · exact h9
                refine lv_iload hx hb dX9_best_99 (lv_at hl 1 rfl) ?_
                exact W.iret hx hb hr (fun t ht hW => ⟨⟨_, _, rfl, by rw [if_neg c2, if_neg c4, if_neg c6, if_neg (Int32.not_lt.mpr c7)], by rw [ht]; exact hP, va_K.moved hW.alike hK, hD⟩, hS.F ht⟩) hS.2.2 dX9_best_101
              · skip
                exact absurd (show b3 < x by rw [Int32.lt_iff_toInt_lt]; omega) c8
            | succ n ih =>
              intro x found S7 H locs ls hn hx2 hFS hfo hP hD hS hl
              obtain ⟨hK9, hF1⟩ := hF v0 hv0
              obtain ⟨Z, hs9, hF2, hz9, hu9⟩ := hF1 S7 x hFS (jW_to (by omega) (by omega))
              rcases hfo with ⟨hxa, rfl⟩ | ⟨rfl, hp9⟩
              ·
                refine lv_iload hx hb dX9_best_51 (lv_at hl 0 rfl) ?_
                refine lv_iload_n hx hb dX9_best_53 rfl (lv_at hl 5 rfl) ?_
                refine lv_icmp_gt (tgt := 99) hx hb dX9_best_54 (by decide) (fun c9 => ?_) (fun c9 => ?_)
                · skip
                  exact absurd c9 (by rw [Int32.lt_iff_toInt_lt]; omega)
                · skip
                  refine lv_aload_n hx hb dX9_best_57 rfl (lv_at hl 3 rfl) ?_
                  refine lv_iload_n hx hb dX9_best_58 rfl (lv_at hl 2 rfl) ?_
                  refine lv_iload hx hb dX9_best_59 (lv_at hl 0 rfl) ?_
                  refine gCalli (ws := wM cy ad S7 ++ X) (As := [.int (nI v0), .int x]) (rest := []) (q0 := 0) (r0 := (RX9, TX9, 36)) hx hb hml hown hts hK hP hD hS hA hl.1 wM_0 rfl (cN_isForced l D cy ad X S7 _ hv0 x (Or.inr rfl) hs9) (cwV 2 hts gX9_best_X9_isForced rfl rfl rfl (by decide +kernel) ⟨Nat.le_of_ble_eq_true rfl, Nat.le_of_ble_eq_true rfl⟩) rfl rfl (Nat.le_of_ble_eq_true rfl) ⟨Nat.le_of_ble_eq_true rfl, Nat.le_of_ble_eq_true rfl⟩ dX9_best_61 (fun r10 ws10 H locs e10 hP hD hS => ?_)
                  obtain ⟨e10a, e10b⟩ := e10
                  rw [show r10 = nI 1 from e10a]
                  rw [e10b] at hP hD
                  have hP : va_P D vwCl (wM cy ad (jFoE Z) ++ X) H := hP
                  have hD : va_D (va_A (wM cy ad S ++ X) sz) (wM cy ad (jFoE Z) ++ X) := hD
                  refine lv_if_eq (tgt := 93) hx hb dX9_best_64 (by decide) (fun c11 => ?_) (fun c11 => ?_)
                  · exact absurd c11 (by decide)
                  · skip
                    refine lv_iload hx hb dX9_best_67 (lv_at hl 1 rfl) ?_
                    refine lv_bipush (v := (-6)) hx hb dX9_best_69 (by decide) ?_
                    refine lv_icmp_eq (tgt := 81) hx hb dX9_best_71 (by decide) (fun c71 => ?_) (fun c71 => absurd rfl c71)
                    refine lv_iload hx hb dX9_best_81 (lv_at hl 0 rfl) ?_
                    refine lv_sipush (v := nI 10000) hx hb dX9_best_83 (by decide) ?_
                    refine lv_iadd hx hb dX9_best_86 ?_
                    refine lv_istore (lv' := [(4, .int (x + (nI 10000))), (5, .int x), (1, .int (nI v0)), (0, .ref (ad 0)), (2, .int b2), (3, .int b3)]) hx hb dX9_best_87 hl (by decide) rfl (fun ls hl => ?_)
                    refine lv_aload_n hx hb dX9_best_89 rfl (lv_at hl 3 rfl) ?_
                    refine gCallv (ws := wM cy ad (jFoE Z) ++ X) (As := []) (rest := []) (q0 := 0) (r0 := (RX9, TX9, 36)) hx hb hml hown hts hK hP hD hS hA hl.1 wM_0 rfl (cN_keep l D cy ad X (jFoE Z) _) (cwV 0 hts gX9_best_X9_keepCosts rfl rfl rfl (by decide +kernel) ⟨Nat.le_of_ble_eq_true rfl, Nat.le_of_ble_eq_true rfl⟩) rfl rfl (Nat.le_of_ble_eq_true rfl) ⟨Nat.le_of_ble_eq_true rfl, Nat.le_of_ble_eq_true rfl⟩ dX9_best_90 (fun ws12 H locs e12 hP hD hS => ?_)
                    rw [show ws12 = _ from e12] at hP hD
                    have hP : va_P D vwCl (wM cy ad (jKeep (jFoE Z)) ++ X) H := hP
                    have hD : va_D (va_A (wM cy ad S ++ X) sz) (wM cy ad (jKeep (jFoE Z)) ++ X) := hD
                    refine lv_iinc (v := x + 1) (lv' := [(5, .int (x + 1)), (4, .int (x + (nI 10000))), (1, .int (nI v0)), (0, .ref (ad 0)), (2, .int b2), (3, .int b3)]) hx hb dX9_best_93 hl (k := 1) rfl rfl (by decide) rfl (fun ls hl => ?_)
                    refine lv_goto (tgt := 51) hx hb dX9_best_96 (by decide) ?_
                    exact ih _ _ _ _ _ _ (by rw [i32_s (by omega) (by omega)]; omega) (by rw [i32_s (by omega) (by omega)]; omega) (hK9 _ hF2) (Or.inr ⟨by rw [hxa], fun s h1 h4 => (keep19 h1 h4).trans (hz9 s h1 h4)⟩) hP hD hS (lv_sub hl [0, 1, 2, 3, 4, 5] rfl)
              ·
                refine lv_iload hx hb dX9_best_51 (lv_at hl 0 rfl) ?_
                refine lv_iload_n hx hb dX9_best_53 rfl (lv_at hl 5 rfl) ?_
                refine lv_icmp_gt (tgt := 99) hx hb dX9_best_54 (by decide) (fun c13 => ?_) (fun c13 => ?_)
                · skip
                  exact absurd c13 (by rw [Int32.lt_iff_toInt_lt]; omega)
                · skip
                  refine lv_aload_n hx hb dX9_best_57 rfl (lv_at hl 3 rfl) ?_
                  refine lv_iload_n hx hb dX9_best_58 rfl (lv_at hl 2 rfl) ?_
                  refine lv_iload hx hb dX9_best_59 (lv_at hl 0 rfl) ?_
                  refine gCalli (ws := wM cy ad S7 ++ X) (As := [.int (nI v0), .int x]) (rest := []) (q0 := 0) (r0 := (RX9, TX9, 36)) hx hb hml hown hts hK hP hD hS hA hl.1 wM_0 rfl (cN_isForced l D cy ad X S7 _ hv0 x (Or.inr rfl) hs9) (cwV 2 hts gX9_best_X9_isForced rfl rfl rfl (by decide +kernel) ⟨Nat.le_of_ble_eq_true rfl, Nat.le_of_ble_eq_true rfl⟩) rfl rfl (Nat.le_of_ble_eq_true rfl) ⟨Nat.le_of_ble_eq_true rfl, Nat.le_of_ble_eq_true rfl⟩ dX9_best_61 (fun r14 ws14 H locs e14 hP hD hS => ?_)
                  obtain ⟨e14a, e14b⟩ := e14
                  rw [show r14 = nI 1 from e14a]
                  rw [e14b] at hP hD
                  have hP : va_P D vwCl (wM cy ad (jFoE Z) ++ X) H := hP
                  have hD : va_D (va_A (wM cy ad S ++ X) sz) (wM cy ad (jFoE Z) ++ X) := hD
                  refine lv_if_eq (tgt := 93) hx hb dX9_best_64 (by decide) (fun c15 => ?_) (fun c15 => ?_)
                  · exact absurd c15 (by decide)
                  · skip
                    refine lv_iload hx hb dX9_best_67 (lv_at hl 1 rfl) ?_
                    refine lv_bipush (v := (-6)) hx hb dX9_best_69 (by decide) ?_
                    refine lv_icmp_eq (tgt := 81) hx hb dX9_best_71 (by decide) (fun c71 => absurd (congrArg Int32.toInt c71) (by rw [i32_a (by omega) (by omega) (by omega), show (-6 : Int32).toInt = -6 by decide]; omega)) (fun c71 => ?_)
                    refine lv_aload_n hx hb dX9_best_74 rfl (lv_at hl 3 rfl) ?_
                    refine gCalli (ws := wM cy ad (jFoE Z) ++ X) (As := []) (rest := []) (q0 := 0) (r0 := (RX9, TX9, 36)) hx hb hml hown hts hK hP hD hS hA hl.1 wM_0 rfl (cN_cmp0 l D cy ad X (jFoE Z) _ hz9 (fun s h1 h4 => (hu9 s h4).trans (hp9 s h1 h4))) (cwV 0 hts gX9_best_X9_compare rfl rfl rfl (by decide +kernel) ⟨Nat.le_of_ble_eq_true rfl, Nat.le_of_ble_eq_true rfl⟩) rfl rfl (Nat.le_of_ble_eq_true rfl) ⟨Nat.le_of_ble_eq_true rfl, Nat.le_of_ble_eq_true rfl⟩ dX9_best_75 (fun r16 ws16 H locs e16 hP hD hS => ?_)
                    obtain ⟨e16a, e16b⟩ := e16
                    rw [show r16 = nI 0 from e16a]
                    rw [e16b] at hP hD
                    refine lv_if_ge (tgt := 93) hx hb dX9_best_78 (by decide) (fun c17 => ?_) (fun c17 => ?_)
                    · skip
                      refine lv_iinc (v := x + 1) (lv' := [(5, .int (x + 1)), (4, .int (b2 + nI 10000)), (1, .int (nI v0)), (0, .ref (ad 0)), (2, .int b2), (3, .int b3)]) hx hb dX9_best_93 hl (k := 0) rfl rfl (by decide) rfl (fun ls hl => ?_)
                      refine lv_goto (tgt := 51) hx hb dX9_best_96 (by decide) ?_
                      exact ih _ _ _ _ _ _ (by rw [i32_s (by omega) (by omega)]; omega) (by rw [i32_s (by omega) (by omega)]; omega) hF2 (Or.inr ⟨rfl, fun s h1 h4 => (hu9 s h4).trans (hp9 s h1 h4)⟩) hP hD hS (lv_sub hl [0, 1, 2, 3, 4, 5] rfl)
                    · exact absurd c17 (by decide)
          exact L51 _ _ _ _ _ _ _ (by rw [Int.toNat_of_nonneg]; omega) (Int.le_refl _) hF0 (Or.inl ⟨rfl, rfl⟩) hP hD hS (lv_sub hl [0, 1, 3, 2, 4, 5] rfl)
        · skip
          refine lv_bipush (v := (-2)) hx hb dX9_best_41 (by decide) ?_
          exact W.iret hx hb hr (fun t ht hW => ⟨⟨_, _, rfl, by simp_all, by rw [ht]; exact hP, va_K.moved hW.alike hK, hD⟩, hS.F ht⟩) hS.2.2 dX9_best_43
  · skip
    refine lv_iconst (v := -1) hx hb dX9_best_7 (by decide) ?_
    exact W.iret hx hb hr (fun t ht hW => ⟨⟨_, _, rfl, by simp_all, by rw [ht]; exact hP, va_K.moved hW.alike hK, hD⟩, hS.F ht⟩) hS.2.2 dX9_best_8
