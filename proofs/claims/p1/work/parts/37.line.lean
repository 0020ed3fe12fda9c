/-! a line of characters -/
set_option maxHeartbeats 4000000 in
set_option maxRecDepth 100000 in
theorem cL_size (l : Launch) (D : va_G) (cy : Nat → ClassId) (ws : va_W) (sz : Nat) {i j a b n : Nat} {f : Nat → Int32} (hn : n ≤ 40) (hi : ws[i]? = some (a, .inr (6, [.ref b, .int (nI n)]))) : Met l yX6_size wsX6_size (rm9 0 0) (gPc D cy ws sz [.ref a]) (gQi D cy ws sz (fun r ws' => r = nI n ∧ ws' = ws)) 0 0 (va_A ws sz) := by
  refine gHead (cc := cX6_size) (maxL := 1) (ret := (some .int)) (by decide) rfl (Nat.le_of_ble_eq_true rfl) ?_
  intro p e s m below meth c ls hx hb hr hlocks hml hown hts hsz hP hK hD hS hA hl
  have hinX6 : ∀ w ∈ u_ws RX6 TX6 2, w ∈ wsX6_size := by decide +kernel
  have hown : s.vm.findClass RX6 = some m.cls := hown
  have hl : lv_has ls 1 [(0, .ref a)] := hl
  refine lv_aload_n hx hb dX6_size_0 rfl (lv_at hl 0 rfl) ?_
  refine va_get (v := .int (nI n)) (ci := 6) (C := RX6) (T := TX6) (N := 2) hx hb hts hinX6 hown hK hP _ (hi) rfl 1 (by decide) (hts (.fieldLink RX6 15 "LayoutSolver$Line" "length" "I") (by decide +kernel)) (fun x h => h) rfl dX6_size_1 ?_
  exact W.iret hx hb hr (fun t ht hW => ⟨⟨_, _, rfl, ⟨rfl, rfl⟩, by rw [ht]; exact hP, va_K.moved hW.alike hK, hD⟩, hS.F ht⟩) hS.2.2 dX6_size_4
set_option maxHeartbeats 4000000 in
set_option maxRecDepth 100000 in
theorem cL_isFull (l : Launch) (D : va_G) (cy : Nat → ClassId) (ws : va_W) (sz : Nat) {i j a b n : Nat} {f : Nat → Int32} (hn : n ≤ 40) (hi : ws[i]? = some (a, .inr (6, [.ref b, .int (nI n)]))) : Met l yX6_isFull wsX6_isFull (rm9 0 0) (gPc D cy ws sz [.ref a]) (gQi D cy ws sz (fun r ws' => r = (if n < 40 then nI 0 else nI 1) ∧ ws' = ws)) 0 0 (va_A ws sz) := by
  refine gHead (cc := cX6_isFull) (maxL := 1) (ret := (some .boolean)) (by decide) rfl (Nat.le_of_ble_eq_true rfl) ?_
  intro p e s m below meth c ls hx hb hr hlocks hml hown hts hsz hP hK hD hS hA hl
  have hinX6 : ∀ w ∈ u_ws RX6 TX6 2, w ∈ wsX6_isFull := by decide +kernel
  have hown : s.vm.findClass RX6 = some m.cls := hown
  have hl : lv_has ls 1 [(0, .ref a)] := hl
  refine lv_aload_n hx hb dX6_isFull_0 rfl (lv_at hl 0 rfl) ?_
  refine va_get (v := .int (nI n)) (ci := 6) (C := RX6) (T := TX6) (N := 2) hx hb hts hinX6 hown hK hP _ (hi) rfl 1 (by decide) (hts (.fieldLink RX6 15 "LayoutSolver$Line" "length" "I") (by decide +kernel)) (fun x h => h) rfl dX6_isFull_1 ?_
  refine lv_bipush (v := nI 40) hx hb dX6_isFull_4 (by decide) ?_
  refine lv_icmp_lt (tgt := 13) hx hb dX6_isFull_6 (by decide) (fun c1 => ?_) (fun c1 => ?_)
  · rw [nI_ltI (by omega) (by omega)] at c1
    refine lv_iconst (v := nI 0) hx hb dX6_isFull_13 (by decide) ?_
    exact W.zret hx hb hr (by decide) (fun t ht hW => ⟨⟨_, _, rfl, ⟨(if_pos c1).symm, rfl⟩, by rw [ht]; exact hP, va_K.moved hW.alike hK, hD⟩, hS.F ht⟩) hS.2.2 dX6_isFull_14
  · rw [nI_ltI (by omega) (by omega)] at c1
    refine lv_iconst (v := nI 1) hx hb dX6_isFull_9 (by decide) ?_
    refine lv_goto (tgt := 14) hx hb dX6_isFull_10 (by decide) ?_
    exact W.zret hx hb hr (by decide) (fun t ht hW => ⟨⟨_, _, rfl, ⟨(if_neg (by omega)).symm, rfl⟩, by rw [ht]; exact hP, va_K.moved hW.alike hK, hD⟩, hS.F ht⟩) hS.2.2 dX6_isFull_14
set_option maxHeartbeats 4000000 in
set_option maxRecDepth 100000 in
theorem cL_clear (l : Launch) (D : va_G) (cy : Nat → ClassId) (ws : va_W) {i j a b : Nat} (hij : i ≠ j) (hi : i < ws.length) (hj : j < ws.length) (sz : Nat) {n : Nat} (hn : n ≤ 40) (f : Nat → Int32) : Met l yX6_clear wsX6_clear (rm9 0 0) (gPc D cy (wZ ws i j (a, .inr (6, [.ref b, .int (nI n)])) (b, .inl (cy 0, 40, .inl f))) sz [.ref a]) (gQv D cy (wZ ws i j (a, .inr (6, [.ref b, .int (nI n)])) (b, .inl (cy 0, 40, .inl f))) sz (fun ws' => ws' = wZ ws i j (a, .inr (6, [.ref b, .int (nI 0)])) (b, .inl (cy 0, 40, .inl f)))) 0 0 (va_A (wZ ws i j (a, .inr (6, [.ref b, .int (nI n)])) (b, .inl (cy 0, 40, .inl f))) sz) := by
  refine gHead (cc := cX6_clear) (maxL := 1) (ret := none) (by decide) rfl (Nat.le_of_ble_eq_true rfl) ?_
  intro p e s m below meth c ls hx hb hr hlocks hml hown hts hsz hP hK hD hS hA hl
  have hin : ∀ w ∈ u_ws RX6 TX6 2, w ∈ wsX6_clear := by decide +kernel
  have hown : s.vm.findClass RX6 = some m.cls := hown
  have hl : lv_has ls 1 [(0, .ref a)] := hl
  refine lv_aload_n hx hb dX6_clear_0 rfl (lv_at hl 0 rfl) ?_
  refine lv_iconst (v := nI 0) hx hb dX6_clear_1 (by decide) ?_
  refine va_put (v := .int (nI 0)) (ty := .int) (ci := 6) (C := RX6) (T := TX6) (N := 2) hx hb hts hin tyX6 tyX6_ok nmX6 hown hK hP hD hS _ (wZ_i hi) rfl 1 (by decide) (hts (.fieldLink RX6 15 "LayoutSolver$Line" "length" "I") (by decide +kernel)) (fun x h => h) rfl rfl rfl rfl (Nat.le_of_ble_eq_true rfl) dX6_clear_2 (fun H locs hP hD hS => ?_)
  rw [wZ_si] at hP hD
  have hP : va_P D vwCl (wZ ws i j (a, .inr (6, [.ref b, .int (nI 0)])) (b, .inl (cy 0, 40, .inl f))) H := hP
  have hD : va_D (va_A (wZ ws i j (a, .inr (6, [.ref b, .int (nI n)])) (b, .inl (cy 0, 40, .inl f))) sz) (wZ ws i j (a, .inr (6, [.ref b, .int (nI 0)])) (b, .inl (cy 0, 40, .inl f))) := hD
  exact W.vret hx hb hr (fun t ht hW => ⟨⟨_, rfl, rfl, by rw [ht]; exact hP, va_K.moved hW.alike hK, hD⟩, hS.F ht⟩) hS.2.2 dX6_clear_5
set_option maxHeartbeats 4000000 in
set_option maxRecDepth 100000 in
theorem cL_append (l : Launch) (D : va_G) (cy : Nat → ClassId) (ws : va_W) {i j a b : Nat} (hij : i ≠ j) (hi : i < ws.length) (hj : j < ws.length) (sz : Nat) {n : Nat} (hn : n ≤ 40) (f : Nat → Int32) (x : Int32) (hch : vp_nar .char x = x) : Met l yX6_append wsX6_append (rm9 0 0) (gPc D cy (wZ ws i j (a, .inr (6, [.ref b, .int (nI n)])) (b, .inl (cy 0, 40, .inl f))) sz [.ref a, .int x]) (gQv D cy (wZ ws i j (a, .inr (6, [.ref b, .int (nI n)])) (b, .inl (cy 0, 40, .inl f))) sz (fun ws' => ws' = if n < 40 then wZ ws i j (a, .inr (6, [.ref b, .int (nI (n + 1))])) (b, .inl (cy 0, 40, .inl (upd f n x))) else wZ ws i j (a, .inr (6, [.ref b, .int (nI n)])) (b, .inl (cy 0, 40, .inl f)))) 0 0 (va_A (wZ ws i j (a, .inr (6, [.ref b, .int (nI n)])) (b, .inl (cy 0, 40, .inl f))) sz) := by
  refine gHead (cc := cX6_append) (maxL := 2) (ret := none) (by decide) rfl (Nat.le_of_ble_eq_true rfl) ?_
  intro p e s m below meth c ls hx hb hr hlocks hml hown hts hsz hP hK hD hS hA hl
  have hin : ∀ w ∈ u_ws RX6 TX6 2, w ∈ wsX6_append := by decide +kernel
  have hown : s.vm.findClass RX6 = some m.cls := hown
  have hl : lv_has ls 2 [(0, .ref a), (1, .int x)] := hl
  refine lv_aload_n hx hb dX6_append_0 rfl (lv_at hl 0 rfl) ?_
  refine va_get (v := .int (nI n)) (ci := 6) (C := RX6) (T := TX6) (N := 2) hx hb hts hin hown hK hP _ (wZ_i hi) rfl 1 (by decide) (hts (.fieldLink RX6 15 "LayoutSolver$Line" "length" "I") (by decide +kernel)) (fun x h => h) rfl dX6_append_1 ?_
  refine lv_if_lt (tgt := 36) hx hb dX6_append_4 (by decide) (fun c1 => ?_) (fun c1 => ?_)
  · exact absurd c1 (nI_pos (by omega))
  · skip
    refine lv_aload_n hx hb dX6_append_7 rfl (lv_at hl 0 rfl) ?_
    refine va_get (v := .int (nI n)) (ci := 6) (C := RX6) (T := TX6) (N := 2) hx hb hts hin hown hK hP _ (wZ_i hi) rfl 1 (by decide) (hts (.fieldLink RX6 15 "LayoutSolver$Line" "length" "I") (by decide +kernel)) (fun x h => h) rfl dX6_append_8 ?_
    refine lv_bipush (v := nI 40) hx hb dX6_append_11 (by decide) ?_
    refine lv_icmp_ge (tgt := 36) hx hb dX6_append_13 (by decide) (fun c2 => ?_) (fun c2 => ?_)
    · rw [nI_leI (by omega) (by omega)] at c2
      exact W.vret hx hb hr (fun t ht hW => ⟨⟨_, rfl, (if_neg (by omega)).symm, by rw [ht]; exact hP, va_K.moved hW.alike hK, hD⟩, hS.F ht⟩) hS.2.2 dX6_append_36
    · rw [nI_leI (by omega) (by omega)] at c2
      refine lv_aload_n hx hb dX6_append_16 rfl (lv_at hl 0 rfl) ?_
      refine va_get (v := .ref b) (ci := 6) (C := RX6) (T := TX6) (N := 2) hx hb hts hin hown hK hP _ (wZ_i hi) rfl 0 (by decide) (hts (.fieldLink RX6 9 "LayoutSolver$Line" "characters" "[C") (by decide +kernel)) (fun x h => h) rfl dX6_append_17 ?_
      refine lv_aload_n hx hb dX6_append_20 rfl (lv_at hl 0 rfl) ?_
      refine va_get (v := .int (nI n)) (ci := 6) (C := RX6) (T := TX6) (N := 2) hx hb hts hin hown hK hP _ (wZ_i hi) rfl 1 (by decide) (hts (.fieldLink RX6 15 "LayoutSolver$Line" "length" "I") (by decide +kernel)) (fun x h => h) rfl dX6_append_21 ?_
      refine lv_iload_n hx hb dX6_append_24 rfl (lv_at hl 1 rfl) ?_
      refine va_cast (i := nI n) hx hb hK hP hD hS _ 0 (wZ_j hij hj) rfl (vp_in_nI (by omega) (by decide)) dX6_append_25 (fun H locs hP hD hS => ?_)
      rw [nI_clamp (show n < 2 ^ 31 by omega)] at hP hD
      rw [show vp_nar .char x = x from hch] at hP hD
      rw [wZ_sj hij] at hP hD
      have hP : va_P D vwCl (wZ ws i j (a, .inr (6, [.ref b, .int (nI n)])) (b, .inl (cy 0, 40, .inl (upd f n x)))) H := hP
      have hD : va_D (va_A (wZ ws i j (a, .inr (6, [.ref b, .int (nI n)])) (b, .inl (cy 0, 40, .inl f))) sz) (wZ ws i j (a, .inr (6, [.ref b, .int (nI n)])) (b, .inl (cy 0, 40, .inl (upd f n x)))) := hD
      refine lv_aload_n hx hb dX6_append_26 rfl (lv_at hl 0 rfl) ?_
      refine lv_dup hx hb dX6_append_27 rfl ?_
      refine va_get (v := .int (nI n)) (ci := 6) (C := RX6) (T := TX6) (N := 2) hx hb hts hin hown hK hP _ (wZ_i hi) rfl 1 (by decide) (hts (.fieldLink RX6 15 "LayoutSolver$Line" "length" "I") (by decide +kernel)) (fun x h => h) rfl dX6_append_28 ?_
      refine lv_iconst (v := nI 1) hx hb dX6_append_31 (by decide) ?_
      refine lv_iadd hx hb dX6_append_32 ?_
      rw [nI_add]
      refine va_put (v := .int (nI (n + 1))) (ty := .int) (ci := 6) (C := RX6) (T := TX6) (N := 2) hx hb hts hin tyX6 tyX6_ok nmX6 hown hK hP hD hS _ (wZ_i hi) rfl 1 (by decide) (hts (.fieldLink RX6 15 "LayoutSolver$Line" "length" "I") (by decide +kernel)) (fun x h => h) rfl rfl rfl rfl (Nat.le_of_ble_eq_true rfl) dX6_append_33 (fun H locs hP hD hS => ?_)
      rw [wZ_si] at hP hD
      have hP : va_P D vwCl (wZ ws i j (a, .inr (6, [.ref b, .int (nI (n + 1))])) (b, .inl (cy 0, 40, .inl (upd f n x)))) H := hP
      have hD : va_D (va_A (wZ ws i j (a, .inr (6, [.ref b, .int (nI n)])) (b, .inl (cy 0, 40, .inl f))) sz) (wZ ws i j (a, .inr (6, [.ref b, .int (nI (n + 1))])) (b, .inl (cy 0, 40, .inl (upd f n x)))) := hD
      exact W.vret hx hb hr (fun t ht hW => ⟨⟨_, rfl, (if_pos (by omega)).symm, by rw [ht]; exact hP, va_K.moved hW.alike hK, hD⟩, hS.F ht⟩) hS.2.2 dX6_append_36
def kAt (f : Nat → Int32) (n : Nat) (x : Int32) : Int32 := if x < 0 then nI 0 else if nI n ≤ x then nI 0 else f x.toNatClampNeg
set_option maxHeartbeats 4000000 in
set_option maxRecDepth 100000 in
theorem cL_at (l : Launch) (D : va_G) (cy : Nat → ClassId) (ws : va_W) (sz : Nat) {i j a b n : Nat} {f : Nat → Int32} (hn : n ≤ 40) (hfc : ∀ k : Nat, k < 40 → narrow .char (.int (f k)) = .int (f k)) (x : Int32) (hi : ws[i]? = some (a, .inr (6, [.ref b, .int (nI n)]))) (hj : ws[j]? = some (b, .inl (cy 0, 40, .inl f))) : Met l yX6_at wsX6_at (rm9 0 0) (gPc D cy ws sz [.ref a, .int x]) (gQi D cy ws sz (fun r ws' => r = kAt f n x ∧ ws' = ws)) 0 0 (va_A ws sz) := by
  refine gHead (cc := cX6_at) (maxL := 2) (ret := (some .char)) (by decide) rfl (Nat.le_of_ble_eq_true rfl) ?_
  intro p e s m below meth c ls hx hb hr hlocks hml hown hts hsz hP hK hD hS hA hl
  have hinX6 : ∀ w ∈ u_ws RX6 TX6 2, w ∈ wsX6_at := by decide +kernel
  have hown : s.vm.findClass RX6 = some m.cls := hown
  have hl : lv_has ls 2 [(0, .ref a), (1, .int x)] := hl
  refine lv_iload_n hx hb dX6_at_0 rfl (lv_at hl 1 rfl) ?_
  refine lv_if_lt (tgt := 18) hx hb dX6_at_1 (by decide) (fun c1 => ?_) (fun c1 => ?_)
  · skip
    refine lv_iconst (v := nI 0) hx hb dX6_at_18 (by decide) ?_
    refine lv_goto (tgt := 28) hx hb dX6_at_19 (by decide) ?_
    exact W.zret hx hb hr (by rfl) (fun t ht hW => ⟨⟨_, _, rfl, ⟨by simp [kAt, c1], rfl⟩, by rw [ht]; exact hP, va_K.moved hW.alike hK, hD⟩, hS.F ht⟩) hS.2.2 dX6_at_28
  · skip
    refine lv_iload_n hx hb dX6_at_4 rfl (lv_at hl 1 rfl) ?_
    refine lv_aload_n hx hb dX6_at_5 rfl (lv_at hl 0 rfl) ?_
    refine va_get (v := .int (nI n)) (ci := 6) (C := RX6) (T := TX6) (N := 2) hx hb hts hinX6 hown hK hP _ (hi) rfl 1 (by decide) (hts (.fieldLink RX6 15 "LayoutSolver$Line" "length" "I") (by decide +kernel)) (fun x h => h) rfl dX6_at_6 ?_
    refine lv_icmp_ge (tgt := 18) hx hb dX6_at_9 (by decide) (fun c2 => ?_) (fun c2 => ?_)
    · skip
      refine lv_iconst (v := nI 0) hx hb dX6_at_18 (by decide) ?_
      refine lv_goto (tgt := 28) hx hb dX6_at_19 (by decide) ?_
      exact W.zret hx hb hr (by rfl) (fun t ht hW => ⟨⟨_, _, rfl, ⟨by simp [kAt, c1, c2], rfl⟩, by rw [ht]; exact hP, va_K.moved hW.alike hK, hD⟩, hS.F ht⟩) hS.2.2 dX6_at_28
    · skip
      obtain ⟨i0, hi0, hie⟩ := ixN n c1 (Int32.not_le.mp c2) (by omega)
      have qq8 : x.toNatClampNeg = i0 := (by rw [hie, nI_clamp (by omega)])
      rw [hie] at hl
      refine lv_iload_n hx hb dX6_at_12 rfl (lv_at hl 1 rfl) ?_
      refine lv_bipush (v := nI 40) hx hb dX6_at_13 (by decide) ?_
      refine lv_icmp_lt (tgt := 22) hx hb dX6_at_15 (by decide) (fun c3 => ?_) (fun c3 => ?_)
      · rw [nI_ltI (by omega) (by omega)] at c3
        refine lv_aload_n hx hb dX6_at_22 rfl (lv_at hl 0 rfl) ?_
        refine va_get (v := .ref b) (ci := 6) (C := RX6) (T := TX6) (N := 2) hx hb hts hinX6 hown hK hP _ (hi) rfl 0 (by decide) (hts (.fieldLink RX6 9 "LayoutSolver$Line" "characters" "[C") (by decide +kernel)) (fun x h => h) rfl dX6_at_23 ?_
        refine lv_iload_n hx hb dX6_at_26 rfl (lv_at hl 1 rfl) ?_
        refine va_cald (i := nI i0) hx hb hK hP _ 0 (hj) rfl (vp_in_nI (by omega) (by decide)) dX6_at_27 ?_
        rw [nI_clamp (show i0 < 2 ^ 31 by omega)]
        exact W.zret hx hb hr (by exact hfc _ (by omega)) (fun t ht hW => ⟨⟨_, _, rfl, ⟨by simp [kAt, qq8, c1, c2], rfl⟩, by rw [ht]; exact hP, va_K.moved hW.alike hK, hD⟩, hS.F ht⟩) hS.2.2 dX6_at_28
      · exact absurd c3 (by rw [nI_ltI (by omega) (by omega)]; omega)
