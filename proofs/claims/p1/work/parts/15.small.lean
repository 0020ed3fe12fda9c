set_option maxHeartbeats 4000000 in
set_option maxRecDepth 100000 in
theorem cS_partOf (l : Launch) (sz : Nat) (u d : Int64) (part : Int32) : Met l yX8_partOf wsX8_partOf (rm9 1 21) (pPc sz [.long u, .long d, .int part]) (pQl sz (fun r => r = kPart u d part)) 0 0 (fun q => sz ≤ q) := by
  refine pHead (cc := cX8_partOf) (maxL := 12) (ret := (some .long)) (by decide) rfl (Nat.le_of_ble_eq_true rfl) ?_
  intro p e s m below meth c ls hx hb hr hlocks hml hown hts hsz hS hl
  have hown : s.vm.findClass RX8 = some m.cls := hown
  have hl : lv_has ls 12 [(0, .long u), (2, .long d), (4, .int part)] := hl
  refine lv_lload_n hx hb dX8_partOf_0 rfl (lv_at hl 1 rfl) ?_
  refine lv_lstore (lv' := [(5, .long d), (0, .long u), (2, .long d), (4, .int part)]) hx hb dX8_partOf_1 hl (by decide) rfl (fun ls hl => ?_)
  refine lv_lload_n hx hb dX8_partOf_3 rfl (lv_at hl 1 rfl) ?_
  refine va_mabs_long hx hb (hml.trans hl.1.symm) (own := RX8) (index := 310) hown (hts _ (List.mem_of_elem_eq_true (by decide +kernel))) (hts _ (List.mem_of_elem_eq_true (by decide +kernel))) (hts _ (List.mem_of_elem_eq_true (by decide +kernel))) (hts _ (List.mem_of_elem_eq_true (by decide +kernel))) (Nat.le_of_ble_eq_true rfl) (Nat.le_of_ble_eq_true rfl) (Nat.zero_le _) (Nat.zero_le _) dX8_partOf_4 ?_
  refine W.eq (g2 := F0 m 7 ls [.long (absL u)]) rfl ?_
  refine lv_lstore (lv' := [(7, .long (absL u)), (5, .long d), (0, .long u), (2, .long d), (4, .int part)]) hx hb dX8_partOf_7 hl (by decide) rfl (fun ls hl => ?_)
  refine lv_iconst (v := nI 0) hx hb dX8_partOf_9 (by decide) ?_
  refine lv_istore (lv' := [(9, .int (nI 0)), (7, .long (absL u)), (5, .long d), (0, .long u), (2, .long d), (4, .int part)]) hx hb dX8_partOf_10 hl (by decide) rfl (fun ls hl => ?_)
  have L12 : ∀ (n k : Nat) (d1 : Int64) (r1 : Int64) (H : Heap) (locs : List Loc) (ls : Array Slot), k + n = 200 → va_S (fun q => sz ≤ q) s.heap H locs → lv_has ls 12 [(9, .int (nI k)), (0, .long u), (2, .long d), (4, .int part), (5, .long d1), (7, .long r1)] → (∀ (H : Heap) (locs : List Loc) (ls : Array Slot), va_S (fun q => sz ≤ q) s.heap H locs → lv_has ls 12 [(0, .long u), (2, .long d), (4, .int part), (5, .long (gcdN n d1 r1))] → W p l e (headSpec wsX8_partOf (rm9 1 21)).room s m ([.long u, .long d, .int part] : List Value).toArray below meth c H locs 0 0 (MQ below (pQl sz (fun r => r = kPart u d part)) ([.long u, .long d, .int part] : List Value).toArray s 0 0 (fun q => sz ≤ q)) (F0 m 48 ls [])) → W p l e (headSpec wsX8_partOf (rm9 1 21)).room s m ([.long u, .long d, .int part] : List Value).toArray below meth c H locs 0 0 (MQ below (pQl sz (fun r => r = kPart u d part)) ([.long u, .long d, .int part] : List Value).toArray s 0 0 (fun q => sz ≤ q)) (F0 m 12 ls []) := by
    intro n
    induction n with
    | zero =>
      intro k d1 r1 H locs ls hk hS hl hex
      obtain rfl : k = 200 := by omega
      refine lv_iload hx hb dX8_partOf_12 (lv_at hl 0 rfl) ?_
      refine lv_sipush (v := nI 200) hx hb dX8_partOf_14 (by decide) ?_
      refine lv_icmp_ge (tgt := 48) hx hb dX8_partOf_17 (by decide) (fun c1 => ?_) (fun c1 => ?_)
      · rw [nI_leI (by omega) (by omega)] at c1
        exact hex _ _ _ hS (lv_sub hl [1, 2, 3, 4] rfl)
      · exact absurd c1 (by rw [nI_leI (by omega) (by omega)]; omega)
    | succ n ih =>
      intro k d1 r1 H locs ls hk hS hl hex
      have hk12 : k < 200 := by omega
      refine lv_iload hx hb dX8_partOf_12 (lv_at hl 0 rfl) ?_
      refine lv_sipush (v := nI 200) hx hb dX8_partOf_14 (by decide) ?_
      refine lv_icmp_ge (tgt := 48) hx hb dX8_partOf_17 (by decide) (fun c2 => ?_) (fun c2 => ?_)
      · exact absurd c2 (by rw [nI_leI (by omega) (by omega)]; omega)
      · rw [nI_leI (by omega) (by omega)] at c2
        refine lv_lload hx hb dX8_partOf_20 (lv_at hl 5 rfl) ?_
        refine lv_lconst (v := 0) hx hb dX8_partOf_22 (by decide) ?_
        refine W.lcmp hx hb dX8_partOf_23 ?_
        refine lv_if_eq (tgt := 48) hx hb dX8_partOf_24 (by decide) (fun c3 => ?_) (fun c3 => ?_)
        · skip
          exact hex _ _ _ hS (by rw [gcdN_s, if_neg (fun q => q c3)]; exact lv_sub hl [1, 2, 3, 4] rfl)
        · skip
          refine lv_lload hx hb dX8_partOf_27 (lv_at hl 4 rfl) ?_
          refine lv_lload hx hb dX8_partOf_29 (lv_at hl 5 rfl) ?_
          refine lv_lrem hx hb dX8_partOf_31 (lc0 c3) ?_
          refine lv_lstore (lv' := [(10, .long (d1 - d1 / r1 * r1)), (9, .int (nI k)), (0, .long u), (2, .long d), (4, .int part), (5, .long d1), (7, .long r1)]) hx hb dX8_partOf_32 hl (by decide) rfl (fun ls hl => ?_)
          refine lv_lload hx hb dX8_partOf_34 (lv_at hl 6 rfl) ?_
          refine lv_lstore (lv' := [(5, .long r1), (10, .long (d1 - d1 / r1 * r1)), (9, .int (nI k)), (0, .long u), (2, .long d), (4, .int part), (7, .long r1)]) hx hb dX8_partOf_36 hl (by decide) rfl (fun ls hl => ?_)
          refine lv_lload hx hb dX8_partOf_38 (lv_at hl 1 rfl) ?_
          refine lv_lstore (lv' := [(7, .long (d1 - d1 / r1 * r1)), (5, .long r1), (10, .long (d1 - d1 / r1 * r1)), (9, .int (nI k)), (0, .long u), (2, .long d), (4, .int part)]) hx hb dX8_partOf_40 hl (by decide) rfl (fun ls hl => ?_)
          refine lv_iinc (v := nI (k + 1)) (lv' := [(9, .int (nI (k + 1))), (7, .long (d1 - d1 / r1 * r1)), (5, .long r1), (10, .long (d1 - d1 / r1 * r1)), (0, .long u), (2, .long d), (4, .int part)]) hx hb dX8_partOf_42 hl (k := 3) rfl (nI_1 _) (by decide) rfl (fun ls hl => ?_)
          refine lv_goto (tgt := 12) hx hb dX8_partOf_45 (by decide) ?_
          exact ih (k + 1) r1 (d1 - d1 / r1 * r1) _ _ _ (by omega) hS (lv_sub hl [0, 4, 5, 6, 2, 1] rfl) (fun H locs ls hS hl => hex H locs ls hS (by rw [gcdN_s, if_pos c3]; exact hl))
  refine L12 200 0 d (absL u) _ _ _ (by omega) hS (lv_sub hl [0, 3, 4, 5, 2, 1] rfl) (fun H locs ls hS hl => ?_)
  refine lv_lload hx hb dX8_partOf_48 (lv_at hl 3 rfl) ?_
  refine lv_lconst (v := 0) hx hb dX8_partOf_50 (by decide) ?_
  refine W.lcmp hx hb dX8_partOf_51 ?_
  refine lv_if_gt (tgt := 66) hx hb dX8_partOf_52 (by decide) (fun c4 => ?_) (fun c4 => ?_)
  · skip
    refine lv_iload hx hb dX8_partOf_66 (lv_at hl 2 rfl) ?_
    refine lv_if_ne (tgt := 78) hx hb dX8_partOf_68 (by decide) (fun c5 => ?_) (fun c5 => ?_)
    · skip
      refine lv_lload_n hx hb dX8_partOf_78 rfl (lv_at hl 1 rfl) ?_
      refine lv_lload hx hb dX8_partOf_79 (lv_at hl 3 rfl) ?_
      refine lv_ldiv hx hb dX8_partOf_81 (lc_pos c4) ?_
      exact W.lret hx hb hr (fun t ht hW => ⟨⟨_, (), rfl, by simp only [kPart]; simp [c4, c5], trivial⟩, hS.F ht⟩) hS.2.2 dX8_partOf_82
    · skip
      refine lv_lload_n hx hb dX8_partOf_71 rfl (lv_at hl 0 rfl) ?_
      refine lv_lload hx hb dX8_partOf_72 (lv_at hl 3 rfl) ?_
      refine lv_ldiv hx hb dX8_partOf_74 (lc_pos c4) ?_
      refine lv_goto (tgt := 82) hx hb dX8_partOf_75 (by decide) ?_
      exact W.lret hx hb hr (fun t ht hW => ⟨⟨_, (), rfl, by simp only [kPart]; simp [c4, c5], trivial⟩, hS.F ht⟩) hS.2.2 dX8_partOf_82
  · skip
    refine lv_iload hx hb dX8_partOf_55 (lv_at hl 2 rfl) ?_
    refine lv_if_ne (tgt := 64) hx hb dX8_partOf_57 (by decide) (fun c6 => ?_) (fun c6 => ?_)
    · skip
      refine lv_lconst (v := 1) hx hb dX8_partOf_64 (by decide) ?_
      exact W.lret hx hb hr (fun t ht hW => ⟨⟨_, (), rfl, by simp only [kPart]; simp [c4, c6], trivial⟩, hS.F ht⟩) hS.2.2 dX8_partOf_65
    · skip
      refine lv_lconst (v := 0) hx hb dX8_partOf_60 (by decide) ?_
      refine lv_goto (tgt := 65) hx hb dX8_partOf_61 (by decide) ?_
      exact W.lret hx hb hr (fun t ht hW => ⟨⟨_, (), rfl, by simp only [kPart]; simp [c4, c6], trivial⟩, hS.F ht⟩) hS.2.2 dX8_partOf_65
def allzN (f : Nat → Int32) : Nat → Nat → Int32
  | 0, _ => nI 1
  | n + 1, k => if f k = 0 then allzN f n (k + 1) else nI 0
theorem allzN_s {f : Nat → Int32} {n k : Nat} : allzN f (n + 1) k = if f k = 0 then allzN f n (k + 1) else nI 0 := rfl
def k_isAllZero (f : Nat → Int32) : Int32 := allzN f 6 0
set_option maxHeartbeats 4000000 in
set_option maxRecDepth 100000 in
theorem cS_isAllZero (l : Launch) (D : va_G) (cy : Nat → ClassId) (ws : va_W) (sz : Nat) {j b : Nat} {f : Nat → Int32} (hj : ws[j]? = some (b, .inl (cy 1, 6, .inl f))) : Met l yX8_isAllZero wsX8_isAllZero (rm9 0 0) (gPc D cy ws sz [.ref b]) (gQi D cy ws sz (fun r ws' => r = k_isAllZero f ∧ ws' = ws)) 0 0 (va_A ws sz) := by
  refine gHead (cc := cX8_isAllZero) (maxL := 2) (ret := (some .boolean)) (by decide) rfl (Nat.le_of_ble_eq_true rfl) ?_
  intro p e s m below meth c ls hx hb hr hlocks hml hown hts hsz hP hK hD hS hA hl
  have hown : s.vm.findClass RX8 = some m.cls := hown
  have hl : lv_has ls 2 [(0, .ref b)] := hl
  refine lv_iconst (v := nI 0) hx hb dX8_isAllZero_0 (by decide) ?_
  refine lv_istore_n (lv' := [(1, .int (nI 0)), (0, .ref b)]) hx hb dX8_isAllZero_1 rfl hl (by decide) rfl (fun ls hl => ?_)
  have L2 : ∀ (n k : Nat) (H : Heap) (locs : List Loc) (ls : Array Slot), k + n = 6 → allzN f n k = k_isAllZero f → va_P D vwCl ws H → va_D (va_A ws sz) ws → va_S (va_A ws sz) s.heap H locs → lv_has ls 2 [(1, .int (nI k)), (0, .ref b)] → W p l e (headSpec wsX8_isAllZero (rm9 0 0)).room s m ([.ref b] : List Value).toArray below meth c H locs 0 0 (MQ below (gQi D cy ws sz (fun r ws' => r = k_isAllZero f ∧ ws' = ws)) ([.ref b] : List Value).toArray s 0 0 (va_A ws sz)) (F0 m 2 ls []) := by
    intro n
    induction n with
    | zero =>
      intro k H locs ls hk he hP hD hS hl
      obtain rfl : k = 6 := by omega
      refine lv_iload_n hx hb dX8_isAllZero_2 rfl (lv_at hl 0 rfl) ?_
      refine lv_aload_n hx hb dX8_isAllZero_3 rfl (lv_at hl 1 rfl) ?_
      refine va_alen (v := nI 6) hx hb hK hP _ 1 (hj) rfl rfl dX8_isAllZero_4 ?_
      refine lv_icmp_ge (tgt := 22) hx hb dX8_isAllZero_5 (by decide) (fun c1 => ?_) (fun c1 => ?_)
      · rw [nI_leI (by omega) (by omega)] at c1
        refine lv_iconst (v := nI 1) hx hb dX8_isAllZero_22 (by decide) ?_
        exact W.zret hx hb hr (by decide) (fun t ht hW => ⟨⟨_, _, rfl, ⟨he, rfl⟩, by rw [ht]; exact hP, va_K.moved hW.alike hK, hD⟩, hS.F ht⟩) hS.2.2 dX8_isAllZero_23
      · exact absurd c1 (by rw [nI_leI (by omega) (by omega)]; omega)
    | succ n ih =>
      intro k H locs ls hk he hP hD hS hl
      have hk2 : k < 6 := by omega
      refine lv_iload_n hx hb dX8_isAllZero_2 rfl (lv_at hl 0 rfl) ?_
      refine lv_aload_n hx hb dX8_isAllZero_3 rfl (lv_at hl 1 rfl) ?_
      refine va_alen (v := nI 6) hx hb hK hP _ 1 (hj) rfl rfl dX8_isAllZero_4 ?_
      refine lv_icmp_ge (tgt := 22) hx hb dX8_isAllZero_5 (by decide) (fun c2 => ?_) (fun c2 => ?_)
      · exact absurd c2 (by rw [nI_leI (by omega) (by omega)]; omega)
      · rw [nI_leI (by omega) (by omega)] at c2
        refine lv_aload_n hx hb dX8_isAllZero_8 rfl (lv_at hl 1 rfl) ?_
        refine lv_iload_n hx hb dX8_isAllZero_9 rfl (lv_at hl 0 rfl) ?_
        refine va_iald (i := nI k) hx hb hK hP _ 1 (hj) rfl (vp_in_nI (by omega) (by decide)) dX8_isAllZero_10 ?_
        rw [nI_clamp (show k < 2 ^ 31 by omega)]
        refine lv_if_eq (tgt := 16) hx hb dX8_isAllZero_11 (by decide) (fun c3 => ?_) (fun c3 => ?_)
        · skip
          refine lv_iinc (v := nI (k + 1)) (lv' := [(1, .int (nI (k + 1))), (0, .ref b)]) hx hb dX8_isAllZero_16 hl (k := 0) rfl (nI_1 _) (by decide) rfl (fun ls hl => ?_)
          refine lv_goto (tgt := 2) hx hb dX8_isAllZero_19 (by decide) ?_
          exact ih (k + 1) _ _ _ (by omega) (by rw [← he, allzN_s, if_pos c3]) hP hD hS (lv_sub hl [0, 1] rfl)
        · skip
          refine lv_iconst (v := nI 0) hx hb dX8_isAllZero_14 (by decide) ?_
          exact W.zret hx hb hr (by decide) (fun t ht hW => ⟨⟨_, _, rfl, ⟨by rw [← he, allzN_s, if_neg c3], rfl⟩, by rw [ht]; exact hP, va_K.moved hW.alike hK, hD⟩, hS.F ht⟩) hS.2.2 dX8_isAllZero_15
  exact L2 6 0 _ _ _ (by omega) rfl hP hD hS (lv_sub hl [0, 1] rfl)
def kAbove (rel wei : Int32) : Int32 := if ¬ rel = nI 2 then wei else nI 0
def kBelow (rel wei : Int32) : Int32 := if ¬ rel = 0 then wei else nI 0
def k_vars (f : Nat → Int32) : Int32 := lpN (fun k q => if f k = 0 then q else q ||| (nI 1 <<< nI k)) 6 0 (nI 0)
def fVars (f : Nat → Int32) (k : Nat) (q : Int32) : Int32 := if f k = 0 then q else q ||| (nI 1 <<< nI k)
set_option maxHeartbeats 4000000 in
set_option maxRecDepth 100000 in
theorem cK_coefficient (l : Launch) (D : va_G) (cy : Nat → ClassId) (ws : va_W) (sz : Nat) {i j a b : Nat} {rel con str wei : Int32} {f : Nat → Int32} {v : Nat} (hv : v < 6) (hi : ws[i]? = some (a, .inr (1, [.ref b, .int rel, .int con, .int str, .int wei]))) (hj : ws[j]? = some (b, .inl (cy 1, 6, .inl f))) : Met l yX1_coefficient wsX1_coefficient (rm9 0 0) (gPc D cy ws sz [.ref a, .int (nI v)]) (gQi D cy ws sz (fun r ws' => r = f v ∧ ws' = ws)) 0 0 (va_A ws sz) := by
  refine gHead (cc := cX1_coefficient) (maxL := 2) (ret := (some .int)) (by decide) rfl (Nat.le_of_ble_eq_true rfl) ?_
  intro p e s m below meth c ls hx hb hr hlocks hml hown hts hsz hP hK hD hS hA hl
  have hinX1 : ∀ w ∈ u_ws RX1 TX1 5, w ∈ wsX1_coefficient := by decide +kernel
  have hown : s.vm.findClass RX1 = some m.cls := hown
  have hl : lv_has ls 2 [(0, .ref a), (1, .int (nI v))] := hl
  refine lv_iload_n hx hb dX1_coefficient_0 rfl (lv_at hl 1 rfl) ?_
  refine lv_if_lt (tgt := 13) hx hb dX1_coefficient_1 (by decide) (fun c1 => ?_) (fun c1 => ?_)
  · exact absurd c1 (nI_pos (by omega))
  · skip
    refine lv_iload_n hx hb dX1_coefficient_4 rfl (lv_at hl 1 rfl) ?_
    refine lv_aload_n hx hb dX1_coefficient_5 rfl (lv_at hl 0 rfl) ?_
    refine va_get (v := .ref b) (ci := 1) (C := RX1) (T := TX1) (N := 5) hx hb hts hinX1 hown hK hP _ (hi) rfl 0 (by decide) (hts (.fieldLink RX1 9 "LayoutSolver$Constraint" "coefficients" "[I") (by decide +kernel)) (fun x h => h) rfl dX1_coefficient_6 ?_
    refine va_alen (v := nI 6) hx hb hK hP _ 1 (hj) rfl rfl dX1_coefficient_9 ?_
    refine lv_icmp_lt (tgt := 17) hx hb dX1_coefficient_10 (by decide) (fun c2 => ?_) (fun c2 => ?_)
    · rw [nI_ltI (by omega) (by omega)] at c2
      refine lv_aload_n hx hb dX1_coefficient_17 rfl (lv_at hl 0 rfl) ?_
      refine va_get (v := .ref b) (ci := 1) (C := RX1) (T := TX1) (N := 5) hx hb hts hinX1 hown hK hP _ (hi) rfl 0 (by decide) (hts (.fieldLink RX1 9 "LayoutSolver$Constraint" "coefficients" "[I") (by decide +kernel)) (fun x h => h) rfl dX1_coefficient_18 ?_
      refine lv_iload_n hx hb dX1_coefficient_21 rfl (lv_at hl 1 rfl) ?_
      refine va_iald (i := nI v) hx hb hK hP _ 1 (hj) rfl (vp_in_nI (by omega) (by decide)) dX1_coefficient_22 ?_
      rw [nI_clamp (show v < 2 ^ 31 by omega)]
      exact W.iret hx hb hr (fun t ht hW => ⟨⟨_, _, rfl, ⟨rfl, rfl⟩, by rw [ht]; exact hP, va_K.moved hW.alike hK, hD⟩, hS.F ht⟩) hS.2.2 dX1_coefficient_23
    · exact absurd c2 (by rw [nI_ltI (by omega) (by omega)]; omega)
set_option maxHeartbeats 4000000 in
set_option maxRecDepth 100000 in
theorem cK_costAbove (l : Launch) (D : va_G) (cy : Nat → ClassId) (ws : va_W) (sz : Nat) {i j a b : Nat} {rel con str wei : Int32} {f : Nat → Int32} (hi : ws[i]? = some (a, .inr (1, [.ref b, .int rel, .int con, .int str, .int wei]))) : Met l yX1_costAbove wsX1_costAbove (rm9 0 0) (gPc D cy ws sz [.ref a]) (gQi D cy ws sz (fun r ws' => r = kAbove rel wei ∧ ws' = ws)) 0 0 (va_A ws sz) := by
  refine gHead (cc := cX1_costAbove) (maxL := 1) (ret := (some .int)) (by decide) rfl (Nat.le_of_ble_eq_true rfl) ?_
  intro p e s m below meth c ls hx hb hr hlocks hml hown hts hsz hP hK hD hS hA hl
  have hinX1 : ∀ w ∈ u_ws RX1 TX1 5, w ∈ wsX1_costAbove := by decide +kernel
  have hown : s.vm.findClass RX1 = some m.cls := hown
  have hl : lv_has ls 1 [(0, .ref a)] := hl
  refine lv_aload_n hx hb dX1_costAbove_0 rfl (lv_at hl 0 rfl) ?_
  refine va_get (v := .int rel) (ci := 1) (C := RX1) (T := TX1) (N := 5) hx hb hts hinX1 hown hK hP _ (hi) rfl 1 (by decide) (hts (.fieldLink RX1 15 "LayoutSolver$Constraint" "relation" "I") (by decide +kernel)) (fun x h => h) rfl dX1_costAbove_1 ?_
  refine lv_iconst (v := nI 2) hx hb dX1_costAbove_4 (by decide) ?_
  refine lv_icmp_ne (tgt := 12) hx hb dX1_costAbove_5 (by decide) (fun c1 => ?_) (fun c1 => ?_)
  · skip
    refine lv_aload_n hx hb dX1_costAbove_12 rfl (lv_at hl 0 rfl) ?_
    refine va_get (v := .int wei) (ci := 1) (C := RX1) (T := TX1) (N := 5) hx hb hts hinX1 hown hK hP _ (hi) rfl 4 (by decide) (hts (.fieldLink RX1 25 "LayoutSolver$Constraint" "weight" "I") (by decide +kernel)) (fun x h => h) rfl dX1_costAbove_13 ?_
    exact W.iret hx hb hr (fun t ht hW => ⟨⟨_, _, rfl, ⟨by simp [kAbove, c1], rfl⟩, by rw [ht]; exact hP, va_K.moved hW.alike hK, hD⟩, hS.F ht⟩) hS.2.2 dX1_costAbove_16
  · skip
    refine lv_iconst (v := nI 0) hx hb dX1_costAbove_8 (by decide) ?_
    refine lv_goto (tgt := 16) hx hb dX1_costAbove_9 (by decide) ?_
    exact W.iret hx hb hr (fun t ht hW => ⟨⟨_, _, rfl, ⟨by simp [kAbove, c1], rfl⟩, by rw [ht]; exact hP, va_K.moved hW.alike hK, hD⟩, hS.F ht⟩) hS.2.2 dX1_costAbove_16
set_option maxHeartbeats 4000000 in
set_option maxRecDepth 100000 in
theorem cK_costBelow (l : Launch) (D : va_G) (cy : Nat → ClassId) (ws : va_W) (sz : Nat) {i j a b : Nat} {rel con str wei : Int32} {f : Nat → Int32} (hi : ws[i]? = some (a, .inr (1, [.ref b, .int rel, .int con, .int str, .int wei]))) : Met l yX1_costBelow wsX1_costBelow (rm9 0 0) (gPc D cy ws sz [.ref a]) (gQi D cy ws sz (fun r ws' => r = kBelow rel wei ∧ ws' = ws)) 0 0 (va_A ws sz) := by
  refine gHead (cc := cX1_costBelow) (maxL := 1) (ret := (some .int)) (by decide) rfl (Nat.le_of_ble_eq_true rfl) ?_
  intro p e s m below meth c ls hx hb hr hlocks hml hown hts hsz hP hK hD hS hA hl
  have hinX1 : ∀ w ∈ u_ws RX1 TX1 5, w ∈ wsX1_costBelow := by decide +kernel
  have hown : s.vm.findClass RX1 = some m.cls := hown
  have hl : lv_has ls 1 [(0, .ref a)] := hl
  refine lv_aload_n hx hb dX1_costBelow_0 rfl (lv_at hl 0 rfl) ?_
  refine va_get (v := .int rel) (ci := 1) (C := RX1) (T := TX1) (N := 5) hx hb hts hinX1 hown hK hP _ (hi) rfl 1 (by decide) (hts (.fieldLink RX1 15 "LayoutSolver$Constraint" "relation" "I") (by decide +kernel)) (fun x h => h) rfl dX1_costBelow_1 ?_
  refine lv_if_ne (tgt := 11) hx hb dX1_costBelow_4 (by decide) (fun c1 => ?_) (fun c1 => ?_)
  · skip
    refine lv_aload_n hx hb dX1_costBelow_11 rfl (lv_at hl 0 rfl) ?_
    refine va_get (v := .int wei) (ci := 1) (C := RX1) (T := TX1) (N := 5) hx hb hts hinX1 hown hK hP _ (hi) rfl 4 (by decide) (hts (.fieldLink RX1 25 "LayoutSolver$Constraint" "weight" "I") (by decide +kernel)) (fun x h => h) rfl dX1_costBelow_12 ?_
    exact W.iret hx hb hr (fun t ht hW => ⟨⟨_, _, rfl, ⟨by simp [kBelow, c1], rfl⟩, by rw [ht]; exact hP, va_K.moved hW.alike hK, hD⟩, hS.F ht⟩) hS.2.2 dX1_costBelow_15
  · skip
    refine lv_iconst (v := nI 0) hx hb dX1_costBelow_7 (by decide) ?_
    refine lv_goto (tgt := 15) hx hb dX1_costBelow_8 (by decide) ?_
    exact W.iret hx hb hr (fun t ht hW => ⟨⟨_, _, rfl, ⟨by simp [kBelow, c1], rfl⟩, by rw [ht]; exact hP, va_K.moved hW.alike hK, hD⟩, hS.F ht⟩) hS.2.2 dX1_costBelow_15
