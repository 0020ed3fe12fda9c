/-! p1: the reference, calls that ask for solutions -/
/-- findLeast of a constraint, or a variable, ends in S2 -/
def jLeast (S : MS) (c9 : Nat) (x9 by9 : Int32) (S2 : MS) : Prop := ∃ (R C n9 : Nat) (V : MS) (g : Int64), jOk S R C ∧ R ≤ 36 ∧ C ≤ 21 ∧ leRun R C n9 (jFL S c9 x9 by9 R C).2 = some V ∧ jGcd n9 (jAbs (jUp V by9 (jFL S c9 x9 by9 R C).1 R)) (aG V 16) = some g ∧ ¬ g = 0 ∧ S2 = jFound V by9 (jFL S c9 x9 by9 R C).1 R g
theorem cM_findLeast2 (l : Launch) (D : va_G) (cy : Nat → ClassId) (ad : Nat → Nat) (X : va_W) (S : MS) (sz : Nat) {c9 : Nat} (hc : c9 < 15) {x9 by9 : Int32} {S2 : MS} (h : jLeast S c9 x9 by9 S2) : Met l yX9_findLeast wsX9_findLeast (rm9 3 85) (gPc D cy (wM cy ad S ++ X) sz [.ref (ad 0), .int (nI c9), .int x9, .int by9]) (gQv D cy (wM cy ad S ++ X) sz (fun ws' => ws' = wM cy ad S2 ++ X)) 0 0 (va_A (wM cy ad S ++ X) sz) := by
  obtain ⟨R, C, n9, V, g, h1, h2, h3, h4, h5, h6, h7⟩ := h
  rw [h7]
  exact cM_findLeast l D cy ad X S sz h1 h2 h3 hc x9 by9 h4 h5 h6
theorem j_in_13 {x : Int32} (h : ¬ j_in x (nI 1) (nI 3) = 0) : ∃ k : Nat, k < 4 ∧ x = nI k := by
  unfold j_in at h
  by_cases h0 : x < nI 1
  · exact absurd (by rw [if_pos h0]; rfl) h
  by_cases h1 : nI 3 < x
  · exact absurd (by rw [if_neg h0, if_pos h1]; rfl) h
  exact ixL 3 (fun q => h0 (Int32.lt_of_lt_of_le q (by decide))) h1 (by omega)
set_option maxHeartbeats 4000000 in
set_option maxRecDepth 100000 in
theorem cN_cost (l : Launch) (D : va_G) (cy : Nat → ClassId) (ad : Nat → Nat) (X : va_W) (S : MS) (sz : Nat) {b9 : Int32} {Z : MS} (h18 : aF S 18 = 0) (hs : jSolves S (nI 32767) b9 Z) (x y : Int32) : Met l yX9_cost wsX9_cost (rm9 6 160) (gPc D cy (wM cy ad S ++ X) sz [.ref (ad 0), .int x, .int y]) (gQl D cy (wM cy ad S ++ X) sz (fun r _ => r = (if j_in x (nI 1) (nI 3) = 0 then (-1000000000000000002) else if j_isPart y = 0 then (-1000000000000000002) else if y = 0 then a13 Z x.toNatClampNeg else a14 Z x.toNatClampNeg))) 0 0 (va_A (wM cy ad S ++ X) sz) := by
  refine gHead (cc := cX9_cost) (maxL := 3) (ret := (some .long)) (by decide) rfl (Nat.le_of_ble_eq_true rfl) ?_
  intro p e s m below meth c ls hx hb hr hlocks hml hown hts hsz hP hK hD hS hA hl
  have hin : ∀ w ∈ u_ws RX9 TX9 36, w ∈ wsX9_cost := by decide +kernel
  have hown : s.vm.findClass RX9 = some m.cls := hown
  have hl : lv_has ls 3 [(0, .ref (ad 0)), (1, .int x), (2, .int y)] := hl
  refine lv_iload_n hx hb dX9_cost_0 rfl (lv_at hl 1 rfl) ?_
  refine lv_iconst (v := nI 1) hx hb dX9_cost_1 (by decide) ?_
  refine lv_iconst (v := nI 3) hx hb dX9_cost_2 (by decide) ?_
  refine pCalli (As := [.int x, .int (nI 1), .int (nI 3)]) (rest := []) hx hb hml hown hts hP hS hA hl.1 (cM_in l _ x (nI 1) (nI 3)) (va_cwS 3 hts gX9_cost_X9_in rfl rfl rfl (by decide +kernel) ⟨Nat.le_of_ble_eq_true rfl, Nat.le_of_ble_eq_true rfl⟩) rfl rfl (Nat.le_of_ble_eq_true rfl) ⟨Nat.le_of_ble_eq_true rfl, Nat.le_of_ble_eq_true rfl⟩ dX9_cost_3 (fun r1 H locs e1 hP hS => ?_)
  rw [show r1 = j_in x (nI 1) (nI 3) from e1]
  refine lv_if_eq (tgt := 16) hx hb dX9_cost_6 (by decide) (fun c2 => ?_) (fun c2 => ?_)
  · skip
    refine lv_ldc2 (v := (-1000000000000000002)) hx hb hown (hts (.constantLong RX9 284 (-1000000000000000002)) (by decide +kernel)) dX9_cost_16 ?_
    exact W.lret hx hb hr (fun t ht hW => ⟨⟨_, _, rfl, by simp [c2], by rw [ht]; exact hP, va_K.moved hW.alike hK, hD⟩, hS.F ht⟩) hS.2.2 dX9_cost_19
  · skip
    refine lv_iload_n hx hb dX9_cost_9 rfl (lv_at hl 2 rfl) ?_
    refine pCalli (As := [.int y]) (rest := []) hx hb hml hown hts hP hS hA hl.1 (cM_isPart l _ y) (va_cwS 1 hts gX9_cost_X9_isPart rfl rfl rfl (by decide +kernel) ⟨Nat.le_of_ble_eq_true rfl, Nat.le_of_ble_eq_true rfl⟩) rfl rfl (Nat.le_of_ble_eq_true rfl) ⟨Nat.le_of_ble_eq_true rfl, Nat.le_of_ble_eq_true rfl⟩ dX9_cost_10 (fun r3 H locs e3 hP hS => ?_)
    rw [show r3 = j_isPart y from e3]
    refine lv_if_ne (tgt := 20) hx hb dX9_cost_13 (by decide) (fun c4 => ?_) (fun c4 => ?_)
    · skip
      obtain ⟨i0, hi0, hie⟩ := j_in_13 c2
      have qq8 : x.toNatClampNeg = i0 := (by rw [hie, nI_clamp (by omega)])
      rw [hie] at hl
      refine lv_aload_n hx hb dX9_cost_20 rfl (lv_at hl 0 rfl) ?_
      refine gCallv (ws := wM cy ad S ++ X) (As := []) (rest := []) (q0 := 0) (r0 := (RX9, TX9, 36)) hx hb hml hown hts hK hP hD hS hA hl.1 wM_0 rfl (cM_solve l D cy ad X S _ (b9 := b9) (Z := Z) (Z2 := j18 Z (nI 1)) (fun _ => ⟨hs, rfl⟩) (fun h9 => absurd h18 h9)) (cwV 0 hts gX9_cost_X9_solve rfl rfl rfl (by decide +kernel) ⟨Nat.le_of_ble_eq_true rfl, Nat.le_of_ble_eq_true rfl⟩) rfl rfl (Nat.le_of_ble_eq_true rfl) ⟨Nat.le_of_ble_eq_true rfl, Nat.le_of_ble_eq_true rfl⟩ dX9_cost_21 (fun ws5 H locs e5 hP hD hS => ?_)
      rw [show ws5 = _ from e5] at hP hD
      have hP : va_P D vwCl (wM cy ad (j18 Z (nI 1)) ++ X) H := hP
      have hD : va_D (va_A (wM cy ad S ++ X) sz) (wM cy ad (j18 Z (nI 1)) ++ X) := hD
      refine lv_iload_n hx hb dX9_cost_24 rfl (lv_at hl 2 rfl) ?_
      refine lv_if_ne (tgt := 37) hx hb dX9_cost_25 (by decide) (fun c6 => ?_) (fun c6 => ?_)
      · skip
        refine lv_aload_n hx hb dX9_cost_37 rfl (lv_at hl 0 rfl) ?_
        refine rM_get (v := .ref (ad 14)) hx hb hts hin hown hK hP 20 (by decide) rfl (by decide +kernel) dX9_cost_38 ?_
        refine lv_iload_n hx hb dX9_cost_41 rfl (lv_at hl 1 rfl) ?_
        refine rM_ld14 (i := i0) hx hb hK hP (by omega) dX9_cost_42 ?_
        refine W.eq (g2 := F0 m 43 ls [.long ((a14 (j18 Z (nI 1))) i0)]) rfl ?_
        exact W.lret hx hb hr (fun t ht hW => ⟨⟨_, _, rfl, by rw [if_neg c2, if_neg c4, qq8, if_neg c6], by rw [ht]; exact hP, va_K.moved hW.alike hK, hD⟩, hS.F ht⟩) hS.2.2 dX9_cost_43
      · skip
        refine lv_aload_n hx hb dX9_cost_28 rfl (lv_at hl 0 rfl) ?_
        refine rM_get (v := .ref (ad 13)) hx hb hts hin hown hK hP 19 (by decide) rfl (by decide +kernel) dX9_cost_29 ?_
        refine lv_iload_n hx hb dX9_cost_32 rfl (lv_at hl 1 rfl) ?_
        refine rM_ld13 (i := i0) hx hb hK hP (by omega) dX9_cost_33 ?_
        refine W.eq (g2 := F0 m 34 ls [.long ((a13 (j18 Z (nI 1))) i0)]) rfl ?_
        refine lv_goto (tgt := 43) hx hb dX9_cost_34 (by decide) ?_
        exact W.lret hx hb hr (fun t ht hW => ⟨⟨_, _, rfl, by rw [if_neg c2, if_neg c4, qq8, if_pos c6], by rw [ht]; exact hP, va_K.moved hW.alike hK, hD⟩, hS.F ht⟩) hS.2.2 dX9_cost_43
    · skip
      refine lv_ldc2 (v := (-1000000000000000002)) hx hb hown (hts (.constantLong RX9 284 (-1000000000000000002)) (by decide +kernel)) dX9_cost_16 ?_
      exact W.lret hx hb hr (fun t ht hW => ⟨⟨_, _, rfl, by simp [c2, c4], by rw [ht]; exact hP, va_K.moved hW.alike hK, hD⟩, hS.F ht⟩) hS.2.2 dX9_cost_19
def jEnd (E : Nat → MS) (v pt : Int32) : Int64 := if j_isVariable v = 0 then (-1000000000000000001) else if j_isPart pt = 0 then (-1000000000000000002) else if ¬ pt = 0 then aG (E v.toNatClampNeg) 22 else aG (E v.toNatClampNeg) 21
theorem j_isVar_ix {v : Int32} (h : ¬ j_isVariable v = 0) : ∃ k : Nat, k < 6 ∧ v = nI k := j_in_ne (N := 5) (by omega) h
set_option maxHeartbeats 4000000 in
set_option maxRecDepth 100000 in
theorem cN_end (l : Launch) (D : va_G) (cy : Nat → ClassId) (ad : Nat → Nat) (X : va_W) (S : MS) (sz : Nat) {b9 : Int32} {Z : MS} (h18 : aF S 18 = 0) (hs : jSolves S (nI 32767) b9 Z) {E : Nat → MS} (v by9 pt : Int32) (hE : ∀ v0 : Nat, v0 < 6 → jLeast (j18 Z (nI 1)) 0 (nI v0) by9 (E v0)) : Met l yX9_end wsX9_end (rm9 6 160) (gPc D cy (wM cy ad S ++ X) sz [.ref (ad 0), .int v, .int by9, .int pt]) (gQl D cy (wM cy ad S ++ X) sz (fun r _ => r = jEnd E v pt)) 0 0 (va_A (wM cy ad S ++ X) sz) := by
  refine gHead (cc := cX9_end) (maxL := 4) (ret := (some .long)) (by decide) rfl (Nat.le_of_ble_eq_true rfl) ?_
  intro p e s m below meth c ls hx hb hr hlocks hml hown hts hsz hP hK hD hS hA hl
  have hin : ∀ w ∈ u_ws RX9 TX9 36, w ∈ wsX9_end := by decide +kernel
  have hown : s.vm.findClass RX9 = some m.cls := hown
  have hl : lv_has ls 4 [(0, .ref (ad 0)), (1, .int v), (2, .int by9), (3, .int pt)] := hl
  refine lv_iload_n hx hb dX9_end_0 rfl (lv_at hl 1 rfl) ?_
  refine pCalli (As := [.int v]) (rest := []) hx hb hml hown hts hP hS hA hl.1 (cM_isVariable l _ v) (va_cwS 1 hts gX9_end_X9_isVariable rfl rfl rfl (by decide +kernel) ⟨Nat.le_of_ble_eq_true rfl, Nat.le_of_ble_eq_true rfl⟩) rfl rfl (Nat.le_of_ble_eq_true rfl) ⟨Nat.le_of_ble_eq_true rfl, Nat.le_of_ble_eq_true rfl⟩ dX9_end_1 (fun r1 H locs e1 hP hS => ?_)
  rw [show r1 = j_isVariable v from e1]
  refine lv_if_ne (tgt := 11) hx hb dX9_end_4 (by decide) (fun c2 => ?_) (fun c2 => ?_)
  · skip
    refine lv_iload_n hx hb dX9_end_11 rfl (lv_at hl 3 rfl) ?_
    refine pCalli (As := [.int pt]) (rest := []) hx hb hml hown hts hP hS hA hl.1 (cM_isPart l _ pt) (va_cwS 1 hts gX9_end_X9_isPart rfl rfl rfl (by decide +kernel) ⟨Nat.le_of_ble_eq_true rfl, Nat.le_of_ble_eq_true rfl⟩) rfl rfl (Nat.le_of_ble_eq_true rfl) ⟨Nat.le_of_ble_eq_true rfl, Nat.le_of_ble_eq_true rfl⟩ dX9_end_12 (fun r3 H locs e3 hP hS => ?_)
    rw [show r3 = j_isPart pt from e3]
    refine lv_if_ne (tgt := 22) hx hb dX9_end_15 (by decide) (fun c4 => ?_) (fun c4 => ?_)
    · skip
      obtain ⟨v0, hv0, hve⟩ := j_isVar_ix c2
      have qq8 : v.toNatClampNeg = v0 := (by rw [hve, nI_clamp (by omega)])
      rw [hve] at hl
      refine lv_aload_n hx hb dX9_end_22 rfl (lv_at hl 0 rfl) ?_
      refine gCallv (ws := wM cy ad S ++ X) (As := []) (rest := []) (q0 := 0) (r0 := (RX9, TX9, 36)) hx hb hml hown hts hK hP hD hS hA hl.1 wM_0 rfl (cM_solve l D cy ad X S _ (b9 := b9) (Z := Z) (Z2 := j18 Z (nI 1)) (fun _ => ⟨hs, rfl⟩) (fun h9 => absurd h18 h9)) (cwV 0 hts gX9_end_X9_solve rfl rfl rfl (by decide +kernel) ⟨Nat.le_of_ble_eq_true rfl, Nat.le_of_ble_eq_true rfl⟩) rfl rfl (Nat.le_of_ble_eq_true rfl) ⟨Nat.le_of_ble_eq_true rfl, Nat.le_of_ble_eq_true rfl⟩ dX9_end_23 (fun ws5 H locs e5 hP hD hS => ?_)
      rw [show ws5 = _ from e5] at hP hD
      have hP : va_P D vwCl (wM cy ad (j18 Z (nI 1)) ++ X) H := hP
      have hD : va_D (va_A (wM cy ad S ++ X) sz) (wM cy ad (j18 Z (nI 1)) ++ X) := hD
      refine lv_aload_n hx hb dX9_end_26 rfl (lv_at hl 0 rfl) ?_
      refine lv_iconst (v := nI 0) hx hb dX9_end_27 (by decide) ?_
      refine lv_iload_n hx hb dX9_end_28 rfl (lv_at hl 1 rfl) ?_
      refine lv_iload_n hx hb dX9_end_29 rfl (lv_at hl 2 rfl) ?_
      refine gCallv (ws := wM cy ad (j18 Z (nI 1)) ++ X) (As := [.int (nI 0), .int (nI v0), .int by9]) (rest := []) (q0 := 0) (r0 := (RX9, TX9, 36)) hx hb hml hown hts hK hP hD hS hA hl.1 wM_0 rfl (cM_findLeast2 l D cy ad X _ _ (c9 := 0) (by omega) (hE v0 hv0)) (cwV 3 hts gX9_end_X9_findLeast rfl rfl rfl (by decide +kernel) ⟨Nat.le_of_ble_eq_true rfl, Nat.le_of_ble_eq_true rfl⟩) rfl rfl (Nat.le_of_ble_eq_true rfl) ⟨Nat.le_of_ble_eq_true rfl, Nat.le_of_ble_eq_true rfl⟩ dX9_end_30 (fun ws6 H locs e6 hP hD hS => ?_)
      rw [show ws6 = _ from e6] at hP hD
      have hP : va_P D vwCl (wM cy ad (E v0) ++ X) H := hP
      have hD : va_D (va_A (wM cy ad S ++ X) sz) (wM cy ad (E v0) ++ X) := hD
      refine lv_aload_n hx hb dX9_end_33 rfl (lv_at hl 0 rfl) ?_
      refine lv_iload_n hx hb dX9_end_34 rfl (lv_at hl 3 rfl) ?_
      refine gCalll (ws := wM cy ad (E v0) ++ X) (As := [.int pt]) (rest := []) (q0 := 0) (r0 := (RX9, TX9, 36)) hx hb hml hown hts hK hP hD hS hA hl.1 wM_0 rfl (cM_found l D cy ad X (E v0) _ pt) (cwV 1 hts gX9_end_X9_found rfl rfl rfl (by decide +kernel) ⟨Nat.le_of_ble_eq_true rfl, Nat.le_of_ble_eq_true rfl⟩) rfl rfl (Nat.le_of_ble_eq_true rfl) ⟨Nat.le_of_ble_eq_true rfl, Nat.le_of_ble_eq_true rfl⟩ dX9_end_35 (fun r7 ws7 H locs e7 hP hD hS => ?_)
      obtain ⟨e7a, e7b⟩ := e7
      rw [show r7 = (if ¬ pt = 0 then aG (E v0) 22 else aG (E v0) 21) from e7a]
      rw [e7b] at hP hD
      exact W.lret hx hb hr (fun t ht hW => ⟨⟨_, _, rfl, by rw [jEnd, if_neg c2, if_neg c4, qq8], by rw [ht]; exact hP, va_K.moved hW.alike hK, hD⟩, hS.F ht⟩) hS.2.2 dX9_end_38
    · skip
      refine lv_ldc2 (v := (-1000000000000000002)) hx hb hown (hts (.constantLong RX9 284 (-1000000000000000002)) (by decide +kernel)) dX9_end_18 ?_
      exact W.lret hx hb hr (fun t ht hW => ⟨⟨_, _, rfl, by simp [jEnd, c2, c4], by rw [ht]; exact hP, va_K.moved hW.alike hK, hD⟩, hS.F ht⟩) hS.2.2 dX9_end_21
  · skip
    refine lv_ldc2 (v := (-1000000000000000001)) hx hb hown (hts (.constantLong RX9 289 (-1000000000000000001)) (by decide +kernel)) dX9_end_7 ?_
    exact W.lret hx hb hr (fun t ht hW => ⟨⟨_, _, rfl, by simp [jEnd, c2], by rw [ht]; exact hP, va_K.moved hW.alike hK, hD⟩, hS.F ht⟩) hS.2.2 dX9_end_10
set_option maxHeartbeats 4000000 in
set_option maxRecDepth 100000 in
theorem cN_low (l : Launch) (D : va_G) (cy : Nat → ClassId) (ad : Nat → Nat) (X : va_W) (S : MS) (sz : Nat) {b9 : Int32} {Z : MS} (h18 : aF S 18 = 0) (hs : jSolves S (nI 32767) b9 Z) {E : Nat → MS} (v pt : Int32) (hE : ∀ v0 : Nat, v0 < 6 → jLeast (j18 Z (nI 1)) 0 (nI v0) (nI 1) (E v0)) : Met l yX9_low wsX9_low (rm9 7 190) (gPc D cy (wM cy ad S ++ X) sz [.ref (ad 0), .int v, .int pt]) (gQl D cy (wM cy ad S ++ X) sz (fun r _ => r = jEnd E v pt)) 0 0 (va_A (wM cy ad S ++ X) sz) := by
  refine gHead (cc := cX9_low) (maxL := 3) (ret := (some .long)) (by decide) rfl (Nat.le_of_ble_eq_true rfl) ?_
  intro p e s m below meth c ls hx hb hr hlocks hml hown hts hsz hP hK hD hS hA hl
  have hin : ∀ w ∈ u_ws RX9 TX9 36, w ∈ wsX9_low := by decide +kernel
  have hown : s.vm.findClass RX9 = some m.cls := hown
  have hl : lv_has ls 3 [(0, .ref (ad 0)), (1, .int v), (2, .int pt)] := hl
  refine lv_aload_n hx hb dX9_low_0 rfl (lv_at hl 0 rfl) ?_
  refine lv_iload_n hx hb dX9_low_1 rfl (lv_at hl 1 rfl) ?_
  refine lv_iconst (v := nI 1) hx hb dX9_low_2 (by decide) ?_
  refine lv_iload_n hx hb dX9_low_3 rfl (lv_at hl 2 rfl) ?_
  refine gCalll (ws := wM cy ad S ++ X) (As := [.int v, .int (nI 1), .int pt]) (rest := []) (q0 := 0) (r0 := (RX9, TX9, 36)) hx hb hml hown hts hK hP hD hS hA hl.1 wM_0 rfl (cN_end l D cy ad X S _ h18 hs v (nI 1) pt hE) (cwV 3 hts gX9_low_X9_end rfl rfl rfl (by decide +kernel) ⟨Nat.le_of_ble_eq_true rfl, Nat.le_of_ble_eq_true rfl⟩) rfl rfl (Nat.le_of_ble_eq_true rfl) ⟨Nat.le_of_ble_eq_true rfl, Nat.le_of_ble_eq_true rfl⟩ dX9_low_4 (fun r9 ws9 H locs e9 hP hD hS => ?_)
  rw [show r9 = jEnd E v pt from e9]
  exact W.lret hx hb hr (fun t ht hW => ⟨⟨_, _, rfl, rfl, by rw [ht]; exact hP, va_K.moved hW.alike hK, hD⟩, hS.F ht⟩) hS.2.2 dX9_low_7
set_option maxHeartbeats 4000000 in
set_option maxRecDepth 100000 in
theorem cN_high (l : Launch) (D : va_G) (cy : Nat → ClassId) (ad : Nat → Nat) (X : va_W) (S : MS) (sz : Nat) {b9 : Int32} {Z : MS} (h18 : aF S 18 = 0) (hs : jSolves S (nI 32767) b9 Z) {E : Nat → MS} (v pt : Int32) (hE : ∀ v0 : Nat, v0 < 6 → jLeast (j18 Z (nI 1)) 0 (nI v0) (-1) (E v0)) : Met l yX9_high wsX9_high (rm9 7 190) (gPc D cy (wM cy ad S ++ X) sz [.ref (ad 0), .int v, .int pt]) (gQl D cy (wM cy ad S ++ X) sz (fun r _ => r = jEnd E v pt)) 0 0 (va_A (wM cy ad S ++ X) sz) := by
  refine gHead (cc := cX9_high) (maxL := 3) (ret := (some .long)) (by decide) rfl (Nat.le_of_ble_eq_true rfl) ?_
  intro p e s m below meth c ls hx hb hr hlocks hml hown hts hsz hP hK hD hS hA hl
  have hin : ∀ w ∈ u_ws RX9 TX9 36, w ∈ wsX9_high := by decide +kernel
  have hown : s.vm.findClass RX9 = some m.cls := hown
  have hl : lv_has ls 3 [(0, .ref (ad 0)), (1, .int v), (2, .int pt)] := hl
  refine lv_aload_n hx hb dX9_high_0 rfl (lv_at hl 0 rfl) ?_
  refine lv_iload_n hx hb dX9_high_1 rfl (lv_at hl 1 rfl) ?_
  refine lv_iconst (v := -1) hx hb dX9_high_2 (by decide) ?_
  refine lv_iload_n hx hb dX9_high_3 rfl (lv_at hl 2 rfl) ?_
  refine gCalll (ws := wM cy ad S ++ X) (As := [.int v, .int (-1), .int pt]) (rest := []) (q0 := 0) (r0 := (RX9, TX9, 36)) hx hb hml hown hts hK hP hD hS hA hl.1 wM_0 rfl (cN_end l D cy ad X S _ h18 hs v (-1) pt hE) (cwV 3 hts gX9_high_X9_end rfl rfl rfl (by decide +kernel) ⟨Nat.le_of_ble_eq_true rfl, Nat.le_of_ble_eq_true rfl⟩) rfl rfl (Nat.le_of_ble_eq_true rfl) ⟨Nat.le_of_ble_eq_true rfl, Nat.le_of_ble_eq_true rfl⟩ dX9_high_4 (fun r9 ws9 H locs e9 hP hD hS => ?_)
  rw [show r9 = jEnd E v pt from e9]
  exact W.lret hx hb hr (fun t ht hW => ⟨⟨_, _, rfl, rfl, by rw [ht]; exact hP, va_K.moved hW.alike hK, hD⟩, hS.F ht⟩) hS.2.2 dX9_high_7
set_option maxHeartbeats 4000000 in
set_option maxRecDepth 100000 in
theorem cN_reach (l : Launch) (D : va_G) (cy : Nat → ClassId) (ad : Nat → Nat) (X : va_W) (S : MS) (sz : Nat) {b9 : Int32} {Z : MS} (hs : jPoss S (nI 32767) b9 Z) {E : Int32 → Nat → MS} (v sd pt : Int32) (hE : ∀ (by9 : Int32) (v0 : Nat), (by9 = nI 1 ∨ by9 = -1) → v0 < 6 → jLeast Z 0 (nI v0) by9 (E by9 v0)) : Met l yX9_reach wsX9_reach (rm9 5 140) (gPc D cy (wM cy ad S ++ X) sz [.ref (ad 0), .int v, .int sd, .int pt]) (gQl D cy (wM cy ad S ++ X) sz (fun r _ => r = (if j_isVariable v = 0 then (-1000000000000000001) else if j_isPart sd = 0 then (-1000000000000000002) else if j_isPart pt = 0 then (-1000000000000000002) else jEnd (E (if sd = 0 then nI 1 else -1)) v pt))) 0 0 (va_A (wM cy ad S ++ X) sz) := by
  refine gHead (cc := cX9_reach) (maxL := 4) (ret := (some .long)) (by decide) rfl (Nat.le_of_ble_eq_true rfl) ?_
  intro p e s m below meth c ls hx hb hr hlocks hml hown hts hsz hP hK hD hS hA hl
  have hin : ∀ w ∈ u_ws RX9 TX9 36, w ∈ wsX9_reach := by decide +kernel
  have hown : s.vm.findClass RX9 = some m.cls := hown
  have hl : lv_has ls 4 [(0, .ref (ad 0)), (1, .int v), (2, .int sd), (3, .int pt)] := hl
  refine lv_iload_n hx hb dX9_reach_0 rfl (lv_at hl 1 rfl) ?_
  refine pCalli (As := [.int v]) (rest := []) hx hb hml hown hts hP hS hA hl.1 (cM_isVariable l _ v) (va_cwS 1 hts gX9_reach_X9_isVariable rfl rfl rfl (by decide +kernel) ⟨Nat.le_of_ble_eq_true rfl, Nat.le_of_ble_eq_true rfl⟩) rfl rfl (Nat.le_of_ble_eq_true rfl) ⟨Nat.le_of_ble_eq_true rfl, Nat.le_of_ble_eq_true rfl⟩ dX9_reach_1 (fun r1 H locs e1 hP hS => ?_)
  rw [show r1 = j_isVariable v from e1]
  refine lv_if_ne (tgt := 11) hx hb dX9_reach_4 (by decide) (fun c2 => ?_) (fun c2 => ?_)
  · skip
    refine lv_iload_n hx hb dX9_reach_11 rfl (lv_at hl 2 rfl) ?_
    refine pCalli (As := [.int sd]) (rest := []) hx hb hml hown hts hP hS hA hl.1 (cM_isPart l _ sd) (va_cwS 1 hts gX9_reach_X9_isPart rfl rfl rfl (by decide +kernel) ⟨Nat.le_of_ble_eq_true rfl, Nat.le_of_ble_eq_true rfl⟩) rfl rfl (Nat.le_of_ble_eq_true rfl) ⟨Nat.le_of_ble_eq_true rfl, Nat.le_of_ble_eq_true rfl⟩ dX9_reach_12 (fun r3 H locs e3 hP hS => ?_)
    rw [show r3 = j_isPart sd from e3]
    refine lv_if_eq (tgt := 25) hx hb dX9_reach_15 (by decide) (fun c4 => ?_) (fun c4 => ?_)
    · skip
      refine lv_ldc2 (v := (-1000000000000000002)) hx hb hown (hts (.constantLong RX9 284 (-1000000000000000002)) (by decide +kernel)) dX9_reach_25 ?_
      exact W.lret hx hb hr (fun t ht hW => ⟨⟨_, _, rfl, by simp [c2, c4], by rw [ht]; exact hP, va_K.moved hW.alike hK, hD⟩, hS.F ht⟩) hS.2.2 dX9_reach_28
    · skip
      refine lv_iload_n hx hb dX9_reach_18 rfl (lv_at hl 3 rfl) ?_
      refine pCalli (As := [.int pt]) (rest := []) hx hb hml hown hts hP hS hA hl.1 (cM_isPart l _ pt) (va_cwS 1 hts gX9_reach_X9_isPart rfl rfl rfl (by decide +kernel) ⟨Nat.le_of_ble_eq_true rfl, Nat.le_of_ble_eq_true rfl⟩) rfl rfl (Nat.le_of_ble_eq_true rfl) ⟨Nat.le_of_ble_eq_true rfl, Nat.le_of_ble_eq_true rfl⟩ dX9_reach_19 (fun r5 H locs e5 hP hS => ?_)
      rw [show r5 = j_isPart pt from e5]
      refine lv_if_ne (tgt := 29) hx hb dX9_reach_22 (by decide) (fun c6 => ?_) (fun c6 => ?_)
      · skip
        obtain ⟨v0, hv0, hve⟩ := j_isVar_ix c2
        have qq8 : v.toNatClampNeg = v0 := (by rw [hve, nI_clamp (by omega)])
        rw [hve] at hl
        refine lv_aload_n hx hb dX9_reach_29 rfl (lv_at hl 0 rfl) ?_
        refine lv_sipush (v := nI 32767) hx hb dX9_reach_30 (by decide) ?_
        refine gCalli (ws := wM cy ad S ++ X) (As := [.int (nI 32767)]) (rest := []) (q0 := 0) (r0 := (RX9, TX9, 36)) hx hb hml hown hts hK hP hD hS hA hl.1 wM_0 rfl (cM_isPossible l D cy ad X S _ hs) (cwV 1 hts gX9_reach_X9_isPossible rfl rfl rfl (by decide +kernel) ⟨Nat.le_of_ble_eq_true rfl, Nat.le_of_ble_eq_true rfl⟩) rfl rfl (Nat.le_of_ble_eq_true rfl) ⟨Nat.le_of_ble_eq_true rfl, Nat.le_of_ble_eq_true rfl⟩ dX9_reach_33 (fun r7 ws7 H locs e7 hP hD hS => ?_)
        obtain ⟨e7a, e7b⟩ := e7
        rw [show r7 = b9 from e7a]
        rw [e7b] at hP hD
        have hP : va_P D vwCl (wM cy ad Z ++ X) H := hP
        have hD : va_D (va_A (wM cy ad S ++ X) sz) (wM cy ad Z ++ X) := hD
        refine lv_pop hx hb dX9_reach_36 rfl ?_
        refine lv_aload_n hx hb dX9_reach_37 rfl (lv_at hl 0 rfl) ?_
        refine lv_iconst (v := nI 0) hx hb dX9_reach_38 (by decide) ?_
        refine lv_iload_n hx hb dX9_reach_39 rfl (lv_at hl 1 rfl) ?_
        refine lv_iload_n hx hb dX9_reach_40 rfl (lv_at hl 2 rfl) ?_
        refine lv_if_ne (tgt := 48) hx hb dX9_reach_41 (by decide) (fun c8 => ?_) (fun c8 => ?_)
        · skip
          refine lv_iconst (v := -1) hx hb dX9_reach_48 (by decide) ?_
          refine gCallv (ws := wM cy ad Z ++ X) (As := [.int (nI 0), .int (nI v0), .int (-1)]) (rest := []) (q0 := 0) (r0 := (RX9, TX9, 36)) hx hb hml hown hts hK hP hD hS hA hl.1 wM_0 rfl (cM_findLeast2 l D cy ad X _ _ (c9 := 0) (by omega) (hE (-1) v0 (Or.inr rfl) hv0)) (cwV 3 hts gX9_reach_X9_findLeast rfl rfl rfl (by decide +kernel) ⟨Nat.le_of_ble_eq_true rfl, Nat.le_of_ble_eq_true rfl⟩) rfl rfl (Nat.le_of_ble_eq_true rfl) ⟨Nat.le_of_ble_eq_true rfl, Nat.le_of_ble_eq_true rfl⟩ dX9_reach_49 (fun ws9 H locs e9 hP hD hS => ?_)
          rw [show ws9 = _ from e9] at hP hD
          have hP : va_P D vwCl (wM cy ad (E (-1) v0) ++ X) H := hP
          have hD : va_D (va_A (wM cy ad S ++ X) sz) (wM cy ad (E (-1) v0) ++ X) := hD
          refine lv_aload_n hx hb dX9_reach_52 rfl (lv_at hl 0 rfl) ?_
          refine lv_iload_n hx hb dX9_reach_53 rfl (lv_at hl 3 rfl) ?_
          refine gCalll (ws := wM cy ad (E (-1) v0) ++ X) (As := [.int pt]) (rest := []) (q0 := 0) (r0 := (RX9, TX9, 36)) hx hb hml hown hts hK hP hD hS hA hl.1 wM_0 rfl (cM_found l D cy ad X (E (-1) v0) _ pt) (cwV 1 hts gX9_reach_X9_found rfl rfl rfl (by decide +kernel) ⟨Nat.le_of_ble_eq_true rfl, Nat.le_of_ble_eq_true rfl⟩) rfl rfl (Nat.le_of_ble_eq_true rfl) ⟨Nat.le_of_ble_eq_true rfl, Nat.le_of_ble_eq_true rfl⟩ dX9_reach_54 (fun r10 ws10 H locs e10 hP hD hS => ?_)
          obtain ⟨e10a, e10b⟩ := e10
          rw [show r10 = (if ¬ pt = 0 then aG (E (-1) v0) 22 else aG (E (-1) v0) 21) from e10a]
          rw [e10b] at hP hD
          exact W.lret hx hb hr (fun t ht hW => ⟨⟨_, _, rfl, by rw [if_neg c2, if_neg c4, if_neg c6, jEnd, if_neg c2, if_neg c6, qq8, if_neg c8], by rw [ht]; exact hP, va_K.moved hW.alike hK, hD⟩, hS.F ht⟩) hS.2.2 dX9_reach_57
        · skip
          refine lv_iconst (v := nI 1) hx hb dX9_reach_44 (by decide) ?_
          refine lv_goto (tgt := 49) hx hb dX9_reach_45 (by decide) ?_
          refine gCallv (ws := wM cy ad Z ++ X) (As := [.int (nI 0), .int (nI v0), .int (nI 1)]) (rest := []) (q0 := 0) (r0 := (RX9, TX9, 36)) hx hb hml hown hts hK hP hD hS hA hl.1 wM_0 rfl (cM_findLeast2 l D cy ad X _ _ (c9 := 0) (by omega) (hE (nI 1) v0 (Or.inl rfl) hv0)) (cwV 3 hts gX9_reach_X9_findLeast rfl rfl rfl (by decide +kernel) ⟨Nat.le_of_ble_eq_true rfl, Nat.le_of_ble_eq_true rfl⟩) rfl rfl (Nat.le_of_ble_eq_true rfl) ⟨Nat.le_of_ble_eq_true rfl, Nat.le_of_ble_eq_true rfl⟩ dX9_reach_49 (fun ws11 H locs e11 hP hD hS => ?_)
          rw [show ws11 = _ from e11] at hP hD
          have hP : va_P D vwCl (wM cy ad (E (nI 1) v0) ++ X) H := hP
          have hD : va_D (va_A (wM cy ad S ++ X) sz) (wM cy ad (E (nI 1) v0) ++ X) := hD
          refine lv_aload_n hx hb dX9_reach_52 rfl (lv_at hl 0 rfl) ?_
          refine lv_iload_n hx hb dX9_reach_53 rfl (lv_at hl 3 rfl) ?_
          refine gCalll (ws := wM cy ad (E (nI 1) v0) ++ X) (As := [.int pt]) (rest := []) (q0 := 0) (r0 := (RX9, TX9, 36)) hx hb hml hown hts hK hP hD hS hA hl.1 wM_0 rfl (cM_found l D cy ad X (E (nI 1) v0) _ pt) (cwV 1 hts gX9_reach_X9_found rfl rfl rfl (by decide +kernel) ⟨Nat.le_of_ble_eq_true rfl, Nat.le_of_ble_eq_true rfl⟩) rfl rfl (Nat.le_of_ble_eq_true rfl) ⟨Nat.le_of_ble_eq_true rfl, Nat.le_of_ble_eq_true rfl⟩ dX9_reach_54 (fun r12 ws12 H locs e12 hP hD hS => ?_)
          obtain ⟨e12a, e12b⟩ := e12
          rw [show r12 = (if ¬ pt = 0 then aG (E (nI 1) v0) 22 else aG (E (nI 1) v0) 21) from e12a]
          rw [e12b] at hP hD
          exact W.lret hx hb hr (fun t ht hW => ⟨⟨_, _, rfl, by rw [if_neg c2, if_neg c4, if_neg c6, jEnd, if_neg c2, if_neg c6, qq8, if_pos c8], by rw [ht]; exact hP, va_K.moved hW.alike hK, hD⟩, hS.F ht⟩) hS.2.2 dX9_reach_57
      · skip
        refine lv_ldc2 (v := (-1000000000000000002)) hx hb hown (hts (.constantLong RX9 284 (-1000000000000000002)) (by decide +kernel)) dX9_reach_25 ?_
        exact W.lret hx hb hr (fun t ht hW => ⟨⟨_, _, rfl, by simp [c2, c4, c6], by rw [ht]; exact hP, va_K.moved hW.alike hK, hD⟩, hS.F ht⟩) hS.2.2 dX9_reach_28
  · skip
    refine lv_ldc2 (v := (-1000000000000000001)) hx hb hown (hts (.constantLong RX9 289 (-1000000000000000001)) (by decide +kernel)) dX9_reach_7 ?_
    exact W.lret hx hb hr (fun t ht hW => ⟨⟨_, _, rfl, by simp [c2], by rw [ht]; exact hP, va_K.moved hW.alike hK, hD⟩, hS.F ht⟩) hS.2.2 dX9_reach_10
def fAm9 (k : Nat) (q : Int32) : Int32 := q ||| (nI 1 <<< (nI k &&& 31))
theorem lc_ne {x y : Int64} (h : lg_cmp x y = 0) : x = y := by
  by_cases e : x = y
  · exact e
  · exact absurd h (by unfold lg_cmp; repeat (split <;> try simp_all))
set_option maxHeartbeats 4000000 in
set_option maxRecDepth 100000 in
theorem cN_ambiguous (l : Launch) (D : va_G) (cy : Nat → ClassId) (ad : Nat → Nat) (X : va_W) (S : MS) (sz : Nat) {b9 : Int32} {Z : MS} (h18 : aF S 18 = 0) (hs : jSolves S (nI 32767) b9 Z) {E1 U : Nat → MS} (hU0 : U 0 = j18 Z (nI 1)) (hE1 : ∀ v0 : Nat, v0 < 6 → jLeast (U v0) 0 (nI v0) (nI 1) (E1 v0)) (hE2 : ∀ v0 : Nat, v0 < 6 → jLeast (E1 v0) 0 (nI v0) (-1) (U (v0 + 1))) (hne : ∀ v0 : Nat, v0 < 6 → ¬ aG (E1 v0) 21 = aG (U (v0 + 1)) 21) : Met l yX9_ambiguous wsX9_ambiguous (rm9 6 160) (gPc D cy (wM cy ad S ++ X) sz [.ref (ad 0)]) (gQi D cy (wM cy ad S ++ X) sz (fun r _ => r = lpN fAm9 6 0 (nI 0))) 0 0 (va_A (wM cy ad S ++ X) sz) := by
  refine gHead (cc := cX9_ambiguous) (maxL := 7) (ret := (some .int)) (by decide) rfl (Nat.le_of_ble_eq_true rfl) ?_
  intro p e s m below meth c ls hx hb hr hlocks hml hown hts hsz hP hK hD hS hA hl
  have hin : ∀ w ∈ u_ws RX9 TX9 36, w ∈ wsX9_ambiguous := by decide +kernel
  have hown : s.vm.findClass RX9 = some m.cls := hown
  have hl : lv_has ls 7 [(0, .ref (ad 0))] := hl
  refine lv_aload_n hx hb dX9_ambiguous_0 rfl (lv_at hl 0 rfl) ?_
  refine gCallv (ws := wM cy ad S ++ X) (As := []) (rest := []) (q0 := 0) (r0 := (RX9, TX9, 36)) hx hb hml hown hts hK hP hD hS hA hl.1 wM_0 rfl (cM_solve l D cy ad X S _ (b9 := b9) (Z := Z) (Z2 := U 0) (fun _ => ⟨hs, hU0⟩) (fun h9 => absurd h18 h9)) (cwV 0 hts gX9_ambiguous_X9_solve rfl rfl rfl (by decide +kernel) ⟨Nat.le_of_ble_eq_true rfl, Nat.le_of_ble_eq_true rfl⟩) rfl rfl (Nat.le_of_ble_eq_true rfl) ⟨Nat.le_of_ble_eq_true rfl, Nat.le_of_ble_eq_true rfl⟩ dX9_ambiguous_1 (fun ws1 H locs e1 hP hD hS => ?_)
  rw [show ws1 = _ from e1] at hP hD
  have hP : va_P D vwCl (wM cy ad (U 0) ++ X) H := hP
  have hD : va_D (va_A (wM cy ad S ++ X) sz) (wM cy ad (U 0) ++ X) := hD
  refine lv_iconst (v := nI 0) hx hb dX9_ambiguous_4 (by decide) ?_
  refine lv_istore_n (lv' := [(1, .int (nI 0)), (0, .ref (ad 0))]) hx hb dX9_ambiguous_5 rfl hl (by decide) rfl (fun ls hl => ?_)
  refine lv_iconst (v := nI 0) hx hb dX9_ambiguous_6 (by decide) ?_
  refine lv_istore_n (lv' := [(2, .int (nI 0)), (1, .int (nI 0)), (0, .ref (ad 0))]) hx hb dX9_ambiguous_7 rfl hl (by decide) rfl (fun ls hl => ?_)
  have L8 : ∀ (n k : Nat) (q : Int32) (H : Heap) (locs : List Loc) (ls : Array Slot), k + n = 6 → va_P D vwCl (wM cy ad (U k) ++ X) H → va_D (va_A (wM cy ad S ++ X) sz) (wM cy ad (U k) ++ X) → va_S (va_A (wM cy ad S ++ X) sz) s.heap H locs → lv_has ls 7 [(2, .int (nI k)), (0, .ref (ad 0)), (1, .int q)] → (∀ (H : Heap) (locs : List Loc) (ls : Array Slot), va_P D vwCl (wM cy ad (U 6) ++ X) H → va_D (va_A (wM cy ad S ++ X) sz) (wM cy ad (U 6) ++ X) → va_S (va_A (wM cy ad S ++ X) sz) s.heap H locs → lv_has ls 7 [(2, .int (nI 6)), (0, .ref (ad 0)), (1, .int (lpN (fAm9) n k q))] → W p l e (headSpec wsX9_ambiguous (rm9 6 160)).room s m ([.ref (ad 0)] : List Value).toArray below meth c H locs 0 0 (MQ below (gQi D cy (wM cy ad S ++ X) sz (fun r _ => r = lpN fAm9 6 0 (nI 0))) ([.ref (ad 0)] : List Value).toArray s 0 0 (va_A (wM cy ad S ++ X) sz)) (F0 m 74 ls [])) → W p l e (headSpec wsX9_ambiguous (rm9 6 160)).room s m ([.ref (ad 0)] : List Value).toArray below meth c H locs 0 0 (MQ below (gQi D cy (wM cy ad S ++ X) sz (fun r _ => r = lpN fAm9 6 0 (nI 0))) ([.ref (ad 0)] : List Value).toArray s 0 0 (va_A (wM cy ad S ++ X) sz)) (F0 m 8 ls []) := by
    intro n
    induction n with
    | zero =>
      intro k q H locs ls hk hP hD hS hl hex
      obtain rfl : 6 = k := by omega
      refine lv_iload_n hx hb dX9_ambiguous_8 rfl (lv_at hl 0 rfl) ?_
      refine lv_bipush (v := nI 6) hx hb dX9_ambiguous_9 (by decide) ?_
      refine lv_icmp_ge (tgt := 74) hx hb dX9_ambiguous_11 (by decide) (fun c2 => ?_) (fun c2 => ?_)
      · rw [nI_leI (by omega) (by omega)] at c2
        exact hex _ _ _ hP hD hS (lv_sub hl [0, 1, 2] rfl)
      · exact absurd c2 (by rw [nI_leI (by omega) (by omega)]; omega)
    | succ n ih =>
      intro k q H locs ls hk hP hD hS hl hex
      have hk8 : k < 6 := by omega
      refine lv_iload_n hx hb dX9_ambiguous_8 rfl (lv_at hl 0 rfl) ?_
      refine lv_bipush (v := nI 6) hx hb dX9_ambiguous_9 (by decide) ?_
      refine lv_icmp_ge (tgt := 74) hx hb dX9_ambiguous_11 (by decide) (fun c3 => ?_) (fun c3 => ?_)
      · exact absurd c3 (by rw [nI_leI (by omega) (by omega)]; omega)
      · rw [nI_leI (by omega) (by omega)] at c3
        refine lv_aload_n hx hb dX9_ambiguous_14 rfl (lv_at hl 1 rfl) ?_
        refine lv_iconst (v := nI 0) hx hb dX9_ambiguous_15 (by decide) ?_
        refine lv_iload_n hx hb dX9_ambiguous_16 rfl (lv_at hl 0 rfl) ?_
        refine lv_iconst (v := nI 1) hx hb dX9_ambiguous_17 (by decide) ?_
        refine gCallv (ws := wM cy ad (U k) ++ X) (As := [.int (nI 0), .int (nI k), .int (nI 1)]) (rest := []) (q0 := 0) (r0 := (RX9, TX9, 36)) hx hb hml hown hts hK hP hD hS hA hl.1 wM_0 rfl (cM_findLeast2 l D cy ad X _ _ (c9 := 0) (by omega) (hE1 k (by omega))) (cwV 3 hts gX9_ambiguous_X9_findLeast rfl rfl rfl (by decide +kernel) ⟨Nat.le_of_ble_eq_true rfl, Nat.le_of_ble_eq_true rfl⟩) rfl rfl (Nat.le_of_ble_eq_true rfl) ⟨Nat.le_of_ble_eq_true rfl, Nat.le_of_ble_eq_true rfl⟩ dX9_ambiguous_18 (fun ws4 H locs e4 hP hD hS => ?_)
        rw [show ws4 = _ from e4] at hP hD
        have hP : va_P D vwCl (wM cy ad (E1 k) ++ X) H := hP
        have hD : va_D (va_A (wM cy ad S ++ X) sz) (wM cy ad (E1 k) ++ X) := hD
        refine lv_aload_n hx hb dX9_ambiguous_21 rfl (lv_at hl 1 rfl) ?_
        refine rM_get (v := .long (aG (E1 k) 21)) hx hb hts hin hown hK hP 21 (by decide) rfl (by decide +kernel) dX9_ambiguous_22 ?_
        refine lv_lstore_n (lv' := [(3, .long (aG (E1 k) 21)), (2, .int (nI k)), (0, .ref (ad 0)), (1, .int q)]) hx hb dX9_ambiguous_25 rfl hl (by decide) rfl (fun ls hl => ?_)
        refine lv_aload_n hx hb dX9_ambiguous_26 rfl (lv_at hl 2 rfl) ?_
        refine rM_get (v := .long (aG (E1 k) 22)) hx hb hts hin hown hK hP 22 (by decide) rfl (by decide +kernel) dX9_ambiguous_27 ?_
        refine lv_lstore (lv' := [(5, .long (aG (E1 k) 22)), (3, .long (aG (E1 k) 21)), (2, .int (nI k)), (0, .ref (ad 0)), (1, .int q)]) hx hb dX9_ambiguous_30 hl (by decide) rfl (fun ls hl => ?_)
        refine lv_aload_n hx hb dX9_ambiguous_32 rfl (lv_at hl 3 rfl) ?_
        refine lv_iconst (v := nI 0) hx hb dX9_ambiguous_33 (by decide) ?_
        refine lv_iload_n hx hb dX9_ambiguous_34 rfl (lv_at hl 2 rfl) ?_
        refine lv_iconst (v := -1) hx hb dX9_ambiguous_35 (by decide) ?_
        refine gCallv (ws := wM cy ad (E1 k) ++ X) (As := [.int (nI 0), .int (nI k), .int (-1)]) (rest := []) (q0 := 0) (r0 := (RX9, TX9, 36)) hx hb hml hown hts hK hP hD hS hA hl.1 wM_0 rfl (cM_findLeast2 l D cy ad X _ _ (c9 := 0) (by omega) (hE2 k (by omega))) (cwV 3 hts gX9_ambiguous_X9_findLeast rfl rfl rfl (by decide +kernel) ⟨Nat.le_of_ble_eq_true rfl, Nat.le_of_ble_eq_true rfl⟩) rfl rfl (Nat.le_of_ble_eq_true rfl) ⟨Nat.le_of_ble_eq_true rfl, Nat.le_of_ble_eq_true rfl⟩ dX9_ambiguous_36 (fun ws5 H locs e5 hP hD hS => ?_)
        rw [show ws5 = _ from e5] at hP hD
        have hP : va_P D vwCl (wM cy ad (U (k + 1)) ++ X) H := hP
        have hD : va_D (va_A (wM cy ad S ++ X) sz) (wM cy ad (U (k + 1)) ++ X) := hD
        refine lv_iload_n hx hb dX9_ambiguous_39 rfl (lv_at hl 4 rfl) ?_
        refine lv_lload_n hx hb dX9_ambiguous_40 rfl (lv_at hl 1 rfl) ?_
        refine lv_aload_n hx hb dX9_ambiguous_41 rfl (lv_at hl 3 rfl) ?_
        refine rM_get (v := .long (aG (U (k + 1)) 21)) hx hb hts hin hown hK hP 21 (by decide) rfl (by decide +kernel) dX9_ambiguous_42 ?_
        refine W.lcmp hx hb dX9_ambiguous_45 ?_
        refine lv_if_ne (tgt := 63) hx hb dX9_ambiguous_46 (by decide) (fun c6 => ?_) (fun c6 => ?_)
        · skip
          refine lv_iconst (v := nI 1) hx hb dX9_ambiguous_63 (by decide) ?_
          refine lv_iload_n hx hb dX9_ambiguous_64 rfl (lv_at hl 2 rfl) ?_
          refine lv_ishl hx hb dX9_ambiguous_65 ?_
          refine lv_ior hx hb dX9_ambiguous_66 ?_
          refine lv_istore_n (lv' := [(1, .int (q ||| ((nI 1) <<< ((nI k) &&& 31)))), (5, .long (aG (E1 k) 22)), (3, .long (aG (E1 k) 21)), (2, .int (nI k)), (0, .ref (ad 0))]) hx hb dX9_ambiguous_67 rfl hl (by decide) rfl (fun ls hl => ?_)
          refine lv_iinc (v := nI (k + 1)) (lv' := [(2, .int (nI (k + 1))), (1, .int (q ||| ((nI 1) <<< ((nI k) &&& 31)))), (5, .long (aG (E1 k) 22)), (3, .long (aG (E1 k) 21)), (0, .ref (ad 0))]) hx hb dX9_ambiguous_68 hl (k := 3) rfl (nI_1 _) (by decide) rfl (fun ls hl => ?_)
          refine lv_goto (tgt := 8) hx hb dX9_ambiguous_71 (by decide) ?_
          have he : (fAm9) k q = (q ||| ((nI 1) <<< ((nI k) &&& 31))) := rfl
          rw [lpN_s (f := fAm9), he] at hex
          exact ih ((k + 1)) (q ||| ((nI 1) <<< ((nI k) &&& 31))) _ _ _ (by omega) hP hD hS (lv_sub hl [0, 4, 1] rfl) hex
        · skip
          exact absurd (lc_ne c6) (hne _ (by omega))
  refine L8 6 0 (nI 0) _ _ _ (by omega) hP hD hS (lv_sub hl [0, 2, 1] rfl) (fun H locs ls hP hD hS hl => ?_)
  refine lv_iload_n hx hb dX9_ambiguous_74 rfl (lv_at hl 2 rfl) ?_
  exact W.iret hx hb hr (fun t ht hW => ⟨⟨_, _, rfl, rfl, by rw [ht]; exact hP, va_K.moved hW.alike hK, hD⟩, hS.F ht⟩) hS.2.2 dX9_ambiguous_75
def fKp (f g f2 g2 : Nat → Int64) (k : Nat) (q : (Nat → Int64) × (Nat → Int64)) : (Nat → Int64) × (Nat → Int64) := (vp_updL q.1 k (f k), vp_updL q.2 k (g k))
def jKeep (S : MS) : MS := mk9 (aF S) (aG S) (a1 S) (a2 S) (a3 S) (a4 S) (a5 S) (a6 S) (a7 S) (a8 S) (a9 S) (a10 S) (a11 S) (a12 S) (a13 S) (a14 S) (a15 S) (a16 S) (a17 S) (a18 S) (lpN (fKp (a13 S) (a14 S) (a19 S) (a20 S)) 3 1 (a19 S, a20 S)).1 (lpN (fKp (a13 S) (a14 S) (a19 S) (a20 S)) 3 1 (a19 S, a20 S)).2
set_option maxHeartbeats 4000000 in
set_option maxRecDepth 100000 in
theorem cN_keep (l : Launch) (D : va_G) (cy : Nat → ClassId) (ad : Nat → Nat) (X : va_W) (S : MS) (sz : Nat)  : Met l yX9_keepCosts wsX9_keepCosts (rm9 0 0) (gPc D cy (wM cy ad S ++ X) sz [.ref (ad 0)]) (gQv D cy (wM cy ad S ++ X) sz (fun ws' => ws' = wM cy ad (jKeep S) ++ X)) 0 0 (va_A (wM cy ad S ++ X) sz) := by
  refine gHead (cc := cX9_keepCosts) (maxL := 2) (ret := none) (by decide) rfl (Nat.le_of_ble_eq_true rfl) ?_
  intro p e s m below meth c ls hx hb hr hlocks hml hown hts hsz hP hK hD hS hA hl
  have hin : ∀ w ∈ u_ws RX9 TX9 36, w ∈ wsX9_keepCosts := by decide +kernel
  have hown : s.vm.findClass RX9 = some m.cls := hown
  have hl : lv_has ls 2 [(0, .ref (ad 0))] := hl
  refine lv_iconst (v := nI 1) hx hb dX9_keepCosts_0 (by decide) ?_
  refine lv_istore_n (lv' := [(1, .int (nI 1)), (0, .ref (ad 0))]) hx hb dX9_keepCosts_1 rfl hl (by decide) rfl (fun ls hl => ?_)
  have L2 : ∀ (n k : Nat) (q : (Nat → Int64) × (Nat → Int64)) (H : Heap) (locs : List Loc) (ls : Array Slot), k + n = 4 → 1 ≤ k → va_P D vwCl (wM cy ad (mk9 (aF S) (aG S) (a1 S) (a2 S) (a3 S) (a4 S) (a5 S) (a6 S) (a7 S) (a8 S) (a9 S) (a10 S) (a11 S) (a12 S) (a13 S) (a14 S) (a15 S) (a16 S) (a17 S) (a18 S) ((q).1) ((q).2)) ++ X) H → va_D (va_A (wM cy ad S ++ X) sz) (wM cy ad (mk9 (aF S) (aG S) (a1 S) (a2 S) (a3 S) (a4 S) (a5 S) (a6 S) (a7 S) (a8 S) (a9 S) (a10 S) (a11 S) (a12 S) (a13 S) (a14 S) (a15 S) (a16 S) (a17 S) (a18 S) ((q).1) ((q).2)) ++ X) → va_S (va_A (wM cy ad S ++ X) sz) s.heap H locs → lv_has ls 2 [(1, .int (nI k)), (0, .ref (ad 0))] → (∀ (H : Heap) (locs : List Loc) (ls : Array Slot), va_P D vwCl (wM cy ad (mk9 (aF S) (aG S) (a1 S) (a2 S) (a3 S) (a4 S) (a5 S) (a6 S) (a7 S) (a8 S) (a9 S) (a10 S) (a11 S) (a12 S) (a13 S) (a14 S) (a15 S) (a16 S) (a17 S) (a18 S) (((lpN (fKp (a13 S) (a14 S) (a19 S) (a20 S)) n k q)).1) (((lpN (fKp (a13 S) (a14 S) (a19 S) (a20 S)) n k q)).2)) ++ X) H → va_D (va_A (wM cy ad S ++ X) sz) (wM cy ad (mk9 (aF S) (aG S) (a1 S) (a2 S) (a3 S) (a4 S) (a5 S) (a6 S) (a7 S) (a8 S) (a9 S) (a10 S) (a11 S) (a12 S) (a13 S) (a14 S) (a15 S) (a16 S) (a17 S) (a18 S) (((lpN (fKp (a13 S) (a14 S) (a19 S) (a20 S)) n k q)).1) (((lpN (fKp (a13 S) (a14 S) (a19 S) (a20 S)) n k q)).2)) ++ X) → va_S (va_A (wM cy ad S ++ X) sz) s.heap H locs → lv_has ls 2 [(1, .int (nI 4)), (0, .ref (ad 0))] → W p l e (headSpec wsX9_keepCosts (rm9 0 0)).room s m ([.ref (ad 0)] : List Value).toArray below meth c H locs 0 0 (MQ below (gQv D cy (wM cy ad S ++ X) sz (fun ws' => ws' = wM cy ad (jKeep S) ++ X)) ([.ref (ad 0)] : List Value).toArray s 0 0 (va_A (wM cy ad S ++ X) sz)) (F0 m 37 ls [])) → W p l e (headSpec wsX9_keepCosts (rm9 0 0)).room s m ([.ref (ad 0)] : List Value).toArray below meth c H locs 0 0 (MQ below (gQv D cy (wM cy ad S ++ X) sz (fun ws' => ws' = wM cy ad (jKeep S) ++ X)) ([.ref (ad 0)] : List Value).toArray s 0 0 (va_A (wM cy ad S ++ X) sz)) (F0 m 2 ls []) := by
    intro n
    induction n with
    | zero =>
      intro k q H locs ls hk hlo hP hD hS hl hex
      obtain rfl : 4 = k := by omega
      refine lv_iload_n hx hb dX9_keepCosts_2 rfl (lv_at hl 0 rfl) ?_
      refine lv_iconst (v := nI 3) hx hb dX9_keepCosts_3 (by decide) ?_
      refine lv_icmp_gt (tgt := 37) hx hb dX9_keepCosts_4 (by decide) (fun c1 => ?_) (fun c1 => ?_)
      · rw [nI_ltI (by omega) (by omega)] at c1
        exact hex _ _ _ hP hD hS (lv_sub hl [0, 1] rfl)
      · exact absurd c1 (by rw [nI_ltI (by omega) (by omega)]; omega)
    | succ n ih =>
      intro k q H locs ls hk hlo hP hD hS hl hex
      have hk2 : k < 4 := by omega
      refine lv_iload_n hx hb dX9_keepCosts_2 rfl (lv_at hl 0 rfl) ?_
      refine lv_iconst (v := nI 3) hx hb dX9_keepCosts_3 (by decide) ?_
      refine lv_icmp_gt (tgt := 37) hx hb dX9_keepCosts_4 (by decide) (fun c2 => ?_) (fun c2 => ?_)
      · exact absurd c2 (by rw [nI_ltI (by omega) (by omega)]; omega)
      · rw [nI_ltI (by omega) (by omega)] at c2
        refine lv_aload_n hx hb dX9_keepCosts_7 rfl (lv_at hl 1 rfl) ?_
        refine rM_get (v := .ref (ad 19)) hx hb hts hin hown hK hP 34 (by decide) rfl (by decide +kernel) dX9_keepCosts_8 ?_
        refine lv_iload_n hx hb dX9_keepCosts_11 rfl (lv_at hl 0 rfl) ?_
        refine lv_aload_n hx hb dX9_keepCosts_12 rfl (lv_at hl 1 rfl) ?_
        refine rM_get (v := .ref (ad 13)) hx hb hts hin hown hK hP 19 (by decide) rfl (by decide +kernel) dX9_keepCosts_13 ?_
        refine lv_iload_n hx hb dX9_keepCosts_16 rfl (lv_at hl 0 rfl) ?_
        refine rM_ld13 (i := k) hx hb hK hP (by omega) dX9_keepCosts_17 ?_
        refine W.eq (g2 := F0 m 18 ls [.long (a13 S k), .int (nI k), .ref (ad 19)]) rfl ?_
        refine rM_st19 (i := k) hx hb hK hP hD hS (by omega) dX9_keepCosts_18 (fun H locs hP hD hS => ?_)
        have hP : va_P D vwCl (wM cy ad (mk9 (aF S) (aG S) (a1 S) (a2 S) (a3 S) (a4 S) (a5 S) (a6 S) (a7 S) (a8 S) (a9 S) (a10 S) (a11 S) (a12 S) (a13 S) (a14 S) (a15 S) (a16 S) (a17 S) (a18 S) (vp_updL ((q).1) k (a13 S k)) ((q).2)) ++ X) H := hP
        have hD : va_D (va_A (wM cy ad S ++ X) sz) (wM cy ad (mk9 (aF S) (aG S) (a1 S) (a2 S) (a3 S) (a4 S) (a5 S) (a6 S) (a7 S) (a8 S) (a9 S) (a10 S) (a11 S) (a12 S) (a13 S) (a14 S) (a15 S) (a16 S) (a17 S) (a18 S) (vp_updL ((q).1) k (a13 S k)) ((q).2)) ++ X) := hD
        refine lv_aload_n hx hb dX9_keepCosts_19 rfl (lv_at hl 1 rfl) ?_
        refine rM_get (v := .ref (ad 20)) hx hb hts hin hown hK hP 35 (by decide) rfl (by decide +kernel) dX9_keepCosts_20 ?_
        refine lv_iload_n hx hb dX9_keepCosts_23 rfl (lv_at hl 0 rfl) ?_
        refine lv_aload_n hx hb dX9_keepCosts_24 rfl (lv_at hl 1 rfl) ?_
        refine rM_get (v := .ref (ad 14)) hx hb hts hin hown hK hP 20 (by decide) rfl (by decide +kernel) dX9_keepCosts_25 ?_
        refine lv_iload_n hx hb dX9_keepCosts_28 rfl (lv_at hl 0 rfl) ?_
        refine rM_ld14 (i := k) hx hb hK hP (by omega) dX9_keepCosts_29 ?_
        refine W.eq (g2 := F0 m 30 ls [.long (a14 S k), .int (nI k), .ref (ad 20)]) rfl ?_
        refine rM_st20 (i := k) hx hb hK hP hD hS (by omega) dX9_keepCosts_30 (fun H locs hP hD hS => ?_)
        have hP : va_P D vwCl (wM cy ad (mk9 (aF S) (aG S) (a1 S) (a2 S) (a3 S) (a4 S) (a5 S) (a6 S) (a7 S) (a8 S) (a9 S) (a10 S) (a11 S) (a12 S) (a13 S) (a14 S) (a15 S) (a16 S) (a17 S) (a18 S) (vp_updL ((q).1) k (a13 S k)) (vp_updL ((q).2) k (a14 S k))) ++ X) H := hP
        have hD : va_D (va_A (wM cy ad S ++ X) sz) (wM cy ad (mk9 (aF S) (aG S) (a1 S) (a2 S) (a3 S) (a4 S) (a5 S) (a6 S) (a7 S) (a8 S) (a9 S) (a10 S) (a11 S) (a12 S) (a13 S) (a14 S) (a15 S) (a16 S) (a17 S) (a18 S) (vp_updL ((q).1) k (a13 S k)) (vp_updL ((q).2) k (a14 S k))) ++ X) := hD
        refine lv_iinc (v := nI (k + 1)) (lv' := [(1, .int (nI (k + 1))), (0, .ref (ad 0))]) hx hb dX9_keepCosts_31 hl (k := 0) rfl (nI_1 _) (by decide) rfl (fun ls hl => ?_)
        refine lv_goto (tgt := 2) hx hb dX9_keepCosts_34 (by decide) ?_
        have he : (fKp (a13 S) (a14 S) (a19 S) (a20 S)) k q = (vp_updL ((q).1) k (a13 S k), vp_updL ((q).2) k (a14 S k)) := rfl
        rw [lpN_s (f := fKp (a13 S) (a14 S) (a19 S) (a20 S)), he] at hex
        exact ih ((k + 1)) (vp_updL ((q).1) k (a13 S k), vp_updL ((q).2) k (a14 S k)) _ _ _ (by omega) (by omega) hP hD hS (lv_sub hl [0, 1] rfl) hex
  refine L2 3 1 (a19 S, a20 S) _ _ _ (by omega) (by omega) hP hD hS (lv_sub hl [0, 1] rfl) (fun H locs ls hP hD hS hl => ?_)
  exact W.vret hx hb hr (fun t ht hW => ⟨⟨_, rfl, rfl, by rw [ht]; exact hP, va_K.moved hW.alike hK, hD⟩, hS.F ht⟩) hS.2.2 dX9_keepCosts_37
theorem jKeep_of {S : MS} {c w : Nat} : jOf (jKeep S) c w = jOf S c w := rfl
theorem j18_of {S : MS} {v : Int32} {c w : Nat} : jOf (j18 S v) c w = jOf S c w := rfl
set_option maxHeartbeats 4000000 in
set_option maxRecDepth 100000 in
theorem cN_burdens (l : Launch) (D : va_G) (cy : Nat → ClassId) (ad : Nat → Nat) (X : va_W) (S : MS) (sz : Nat) {b9 : Int32} {Z : MS} (h18 : aF S 18 = 0) (hs : jSolves S (nI 32767) b9 Z) (hone : ∀ c : Nat, c < 15 → jOf Z c 10 = 0) : Met l yX9_burdens wsX9_burdens (rm9 6 160) (gPc D cy (wM cy ad S ++ X) sz [.ref (ad 0)]) (gQi D cy (wM cy ad S ++ X) sz (fun r _ => r = nI 0)) 0 0 (va_A (wM cy ad S ++ X) sz) := by
  refine gHead (cc := cX9_burdens) (maxL := 3) (ret := (some .int)) (by decide) rfl (Nat.le_of_ble_eq_true rfl) ?_
  intro p e s m below meth c ls hx hb hr hlocks hml hown hts hsz hP hK hD hS hA hl
  have hin : ∀ w ∈ u_ws RX9 TX9 36, w ∈ wsX9_burdens := by decide +kernel
  have hown : s.vm.findClass RX9 = some m.cls := hown
  have hl : lv_has ls 3 [(0, .ref (ad 0))] := hl
  refine lv_aload_n hx hb dX9_burdens_0 rfl (lv_at hl 0 rfl) ?_
  refine gCallv (ws := wM cy ad S ++ X) (As := []) (rest := []) (q0 := 0) (r0 := (RX9, TX9, 36)) hx hb hml hown hts hK hP hD hS hA hl.1 wM_0 rfl (cM_solve l D cy ad X S _ (b9 := b9) (Z := Z) (Z2 := j18 Z (nI 1)) (fun _ => ⟨hs, rfl⟩) (fun h9 => absurd h18 h9)) (cwV 0 hts gX9_burdens_X9_solve rfl rfl rfl (by decide +kernel) ⟨Nat.le_of_ble_eq_true rfl, Nat.le_of_ble_eq_true rfl⟩) rfl rfl (Nat.le_of_ble_eq_true rfl) ⟨Nat.le_of_ble_eq_true rfl, Nat.le_of_ble_eq_true rfl⟩ dX9_burdens_1 (fun ws1 H locs e1 hP hD hS => ?_)
  rw [show ws1 = _ from e1] at hP hD
  have hP : va_P D vwCl (wM cy ad (j18 Z (nI 1)) ++ X) H := hP
  have hD : va_D (va_A (wM cy ad S ++ X) sz) (wM cy ad (j18 Z (nI 1)) ++ X) := hD
  refine lv_aload_n hx hb dX9_burdens_4 rfl (lv_at hl 0 rfl) ?_
  refine gCallv (ws := wM cy ad (j18 Z (nI 1)) ++ X) (As := []) (rest := []) (q0 := 0) (r0 := (RX9, TX9, 36)) hx hb hml hown hts hK hP hD hS hA hl.1 wM_0 rfl (cN_keep l D cy ad X (j18 Z (nI 1)) _) (cwV 0 hts gX9_burdens_X9_keepCosts rfl rfl rfl (by decide +kernel) ⟨Nat.le_of_ble_eq_true rfl, Nat.le_of_ble_eq_true rfl⟩) rfl rfl (Nat.le_of_ble_eq_true rfl) ⟨Nat.le_of_ble_eq_true rfl, Nat.le_of_ble_eq_true rfl⟩ dX9_burdens_5 (fun ws2 H locs e2 hP hD hS => ?_)
  rw [show ws2 = _ from e2] at hP hD
  have hP : va_P D vwCl (wM cy ad (jKeep (j18 Z (nI 1))) ++ X) H := hP
  have hD : va_D (va_A (wM cy ad S ++ X) sz) (wM cy ad (jKeep (j18 Z (nI 1))) ++ X) := hD
  obtain ⟨S5, hS5, hone5⟩ : ∃ S5 : MS, S5 = jKeep (j18 Z (nI 1)) ∧ ∀ c : Nat, c < 15 → jOf S5 c 10 = 0 := ⟨_, rfl, fun c hc => by rw [jKeep_of, j18_of]; exact hone c hc⟩
  rw [← hS5] at hP hD
  refine lv_iconst (v := nI 0) hx hb dX9_burdens_8 (by decide) ?_
  refine lv_istore_n (lv' := [(1, .int (nI 0)), (0, .ref (ad 0))]) hx hb dX9_burdens_9 rfl hl (by decide) rfl (fun ls hl => ?_)
  refine lv_iconst (v := nI 0) hx hb dX9_burdens_10 (by decide) ?_
  refine lv_istore_n (lv' := [(2, .int (nI 0)), (1, .int (nI 0)), (0, .ref (ad 0))]) hx hb dX9_burdens_11 rfl hl (by decide) rfl (fun ls hl => ?_)
  have L12 : ∀ (n k : Nat) (q : Int32) (H : Heap) (locs : List Loc) (ls : Array Slot), k + n = 14 → va_P D vwCl (wM cy ad S5 ++ X) H → va_D (va_A (wM cy ad S ++ X) sz) (wM cy ad S5 ++ X) → va_S (va_A (wM cy ad S ++ X) sz) s.heap H locs → lv_has ls 3 [(2, .int (nI k)), (0, .ref (ad 0)), (1, .int q)] → (∀ (H : Heap) (locs : List Loc) (ls : Array Slot), va_P D vwCl (wM cy ad S5 ++ X) H → va_D (va_A (wM cy ad S ++ X) sz) (wM cy ad S5 ++ X) → va_S (va_A (wM cy ad S ++ X) sz) s.heap H locs → lv_has ls 3 [(2, .int (nI 14)), (0, .ref (ad 0)), (1, .int (lpN (fIdI) n k q))] → W p l e (headSpec wsX9_burdens (rm9 6 160)).room s m ([.ref (ad 0)] : List Value).toArray below meth c H locs 0 0 (MQ below (gQi D cy (wM cy ad S ++ X) sz (fun r _ => r = nI 0)) ([.ref (ad 0)] : List Value).toArray s 0 0 (va_A (wM cy ad S ++ X) sz)) (F0 m 63 ls [])) → W p l e (headSpec wsX9_burdens (rm9 6 160)).room s m ([.ref (ad 0)] : List Value).toArray below meth c H locs 0 0 (MQ below (gQi D cy (wM cy ad S ++ X) sz (fun r _ => r = nI 0)) ([.ref (ad 0)] : List Value).toArray s 0 0 (va_A (wM cy ad S ++ X) sz)) (F0 m 12 ls []) := by
    intro n
    induction n with
    | zero =>
      intro k q H locs ls hk hP hD hS hl hex
      obtain rfl : 14 = k := by omega
      refine lv_iload_n hx hb dX9_burdens_12 rfl (lv_at hl 0 rfl) ?_
      refine lv_bipush (v := nI 14) hx hb dX9_burdens_13 (by decide) ?_
      refine lv_icmp_ge (tgt := 63) hx hb dX9_burdens_15 (by decide) (fun c3 => ?_) (fun c3 => ?_)
      · rw [nI_leI (by omega) (by omega)] at c3
        exact hex _ _ _ hP hD hS (lv_sub hl [0, 1, 2] rfl)
      · exact absurd c3 (by rw [nI_leI (by omega) (by omega)]; omega)
    | succ n ih =>
      intro k q H locs ls hk hP hD hS hl hex
      have hk12 : k < 14 := by omega
      refine lv_iload_n hx hb dX9_burdens_12 rfl (lv_at hl 0 rfl) ?_
      refine lv_bipush (v := nI 14) hx hb dX9_burdens_13 (by decide) ?_
      refine lv_icmp_ge (tgt := 63) hx hb dX9_burdens_15 (by decide) (fun c4 => ?_) (fun c4 => ?_)
      · exact absurd c4 (by rw [nI_leI (by omega) (by omega)]; omega)
      · rw [nI_leI (by omega) (by omega)] at c4
        refine lv_aload_n hx hb dX9_burdens_18 rfl (lv_at hl 1 rfl) ?_
        refine lv_iload_n hx hb dX9_burdens_19 rfl (lv_at hl 0 rfl) ?_
        refine gCalli (ws := wM cy ad S5 ++ X) (As := [.int (nI k)]) (rest := []) (q0 := 0) (r0 := (RX9, TX9, 36)) hx hb hml hown hts hK hP hD hS hA hl.1 wM_0 rfl (cM_isThere l D cy ad X S5 _ (c9 := k) (by omega)) (cwV 1 hts gX9_burdens_X9_isThere rfl rfl rfl (by decide +kernel) ⟨Nat.le_of_ble_eq_true rfl, Nat.le_of_ble_eq_true rfl⟩) rfl rfl (Nat.le_of_ble_eq_true rfl) ⟨Nat.le_of_ble_eq_true rfl, Nat.le_of_ble_eq_true rfl⟩ dX9_burdens_20 (fun r5 ws5 H locs e5 hP hD hS => ?_)
        obtain ⟨e5a, e5b⟩ := e5
        rw [show r5 = jThere S5 k from e5a]
        rw [e5b] at hP hD
        rw [jThere_0 (S := S5) (hone5 _ (by omega))]
        refine lv_if_eq (tgt := 57) hx hb dX9_burdens_23 (by decide) (fun c6 => ?_) (fun c6 => ?_)
        · skip
          refine lv_iinc (v := nI (k + 1)) (lv' := [(2, .int (nI (k + 1))), (0, .ref (ad 0)), (1, .int q)]) hx hb dX9_burdens_57 hl (k := 0) rfl (nI_1 _) (by decide) rfl (fun ls hl => ?_)
          refine lv_goto (tgt := 12) hx hb dX9_burdens_60 (by decide) ?_
          have he : (fIdI) k q = q := rfl
          rw [lpN_s (f := fIdI), he] at hex
          exact ih ((k + 1)) q _ _ _ (by omega) hP hD hS (lv_sub hl [0, 1, 2] rfl) hex
        · exact absurd c6 (by decide)
  refine L12 14 0 (nI 0) _ _ _ (by omega) hP hD hS (lv_sub hl [0, 2, 1] rfl) (fun H locs ls hP hD hS hl => ?_)
  refine lv_aload_n hx hb dX9_burdens_63 rfl (lv_at hl 1 rfl) ?_
  refine lv_iconst (v := nI 0) hx hb dX9_burdens_64 (by decide) ?_
  refine rM_put18 (v := nI 0) hx hb hts hin hown hK hP hD hS (rfl) (rfl) (by decide +kernel) dX9_burdens_65 (fun H locs hP hD hS => ?_)
  have hP : va_P D vwCl (wM cy ad (mk9 (upd (aF S5) 18 (nI 0)) (aG S5) (a1 S5) (a2 S5) (a3 S5) (a4 S5) (a5 S5) (a6 S5) (a7 S5) (a8 S5) (a9 S5) (a10 S5) (a11 S5) (a12 S5) (a13 S5) (a14 S5) (a15 S5) (a16 S5) (a17 S5) (a18 S5) (a19 S5) (a20 S5)) ++ X) H := hP
  have hD : va_D (va_A (wM cy ad S ++ X) sz) (wM cy ad (mk9 (upd (aF S5) 18 (nI 0)) (aG S5) (a1 S5) (a2 S5) (a3 S5) (a4 S5) (a5 S5) (a6 S5) (a7 S5) (a8 S5) (a9 S5) (a10 S5) (a11 S5) (a12 S5) (a13 S5) (a14 S5) (a15 S5) (a16 S5) (a17 S5) (a18 S5) (a19 S5) (a20 S5)) ++ X) := hD
  refine lv_iload_n hx hb dX9_burdens_68 rfl (lv_at hl 2 rfl) ?_
  exact W.iret hx hb hr (fun t ht hW => ⟨⟨_, _, rfl, fIdI_n, by rw [ht]; exact hP, va_K.moved hW.alike hK, hD⟩, hS.F ht⟩) hS.2.2 dX9_burdens_69
