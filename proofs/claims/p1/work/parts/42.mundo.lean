/-! the reference: undo and redo -/
set_option maxHeartbeats 4000000 in
set_option maxRecDepth 100000 in
theorem cM_undo0 (l : Launch) (D : va_G) (cy : Nat → ClassId) (ad : Nat → Nat) (X : va_W) (S : MS) (sz : Nat) (hu : aF S 9 = nI 0) : Met l yX9_undo wsX9_undo (rm9 1 24) (gPc D cy (wM cy ad S ++ X) sz [.ref (ad 0)]) (gQi D cy (wM cy ad S ++ X) sz (fun r ws' => r = -5 ∧ ws' = wM cy ad S ++ X)) 0 0 (va_A (wM cy ad S ++ X) sz) := by
  refine gHead (cc := cX9_undo) (maxL := 1) (ret := (some .int)) (by decide) rfl (Nat.le_of_ble_eq_true rfl) ?_
  intro p e s m below meth c ls hx hb hr hlocks hml hown hts hsz hP hK hD hS hA hl
  have hin : ∀ w ∈ u_ws RX9 TX9 36, w ∈ wsX9_undo := by decide +kernel
  have hown : s.vm.findClass RX9 = some m.cls := hown
  have hl : lv_has ls 1 [(0, .ref (ad 0))] := hl
  refine lv_aload_n hx hb dX9_undo_0 rfl (lv_at hl 0 rfl) ?_
  refine rM_get (v := .int (aF S 9)) hx hb hts hin hown hK hP 9 (by decide) rfl (by decide +kernel) dX9_undo_1 ?_
  rw [hu]
  refine lv_if_ne (tgt := 10) hx hb dX9_undo_4 (by decide) (fun c1 => ?_) (fun c1 => ?_)
  · exact absurd c1 (by decide)
  · skip
    refine lv_bipush (v := (-5)) hx hb dX9_undo_7 (by decide) ?_
    exact W.iret hx hb hr (fun t ht hW => ⟨⟨_, _, rfl, ⟨rfl, rfl⟩, by rw [ht]; exact hP, va_K.moved hW.alike hK, hD⟩, hS.F ht⟩) hS.2.2 dX9_undo_9
set_option maxHeartbeats 4000000 in
set_option maxRecDepth 100000 in
theorem cM_redo0 (l : Launch) (D : va_G) (cy : Nat → ClassId) (ad : Nat → Nat) (X : va_W) (S : MS) (sz : Nat) (hv : aF S 10 = nI 0) : Met l yX9_redo wsX9_redo (rm9 1 24) (gPc D cy (wM cy ad S ++ X) sz [.ref (ad 0)]) (gQi D cy (wM cy ad S ++ X) sz (fun r ws' => r = -5 ∧ ws' = wM cy ad S ++ X)) 0 0 (va_A (wM cy ad S ++ X) sz) := by
  refine gHead (cc := cX9_redo) (maxL := 1) (ret := (some .int)) (by decide) rfl (Nat.le_of_ble_eq_true rfl) ?_
  intro p e s m below meth c ls hx hb hr hlocks hml hown hts hsz hP hK hD hS hA hl
  have hin : ∀ w ∈ u_ws RX9 TX9 36, w ∈ wsX9_redo := by decide +kernel
  have hown : s.vm.findClass RX9 = some m.cls := hown
  have hl : lv_has ls 1 [(0, .ref (ad 0))] := hl
  refine lv_aload_n hx hb dX9_redo_0 rfl (lv_at hl 0 rfl) ?_
  refine rM_get (v := .int (aF S 10)) hx hb hts hin hown hK hP 10 (by decide) rfl (by decide +kernel) dX9_redo_1 ?_
  rw [hv]
  refine lv_if_ne (tgt := 10) hx hb dX9_redo_4 (by decide) (fun c1 => ?_) (fun c1 => ?_)
  · exact absurd c1 (by decide)
  · skip
    refine lv_bipush (v := (-5)) hx hb dX9_redo_7 (by decide) ?_
    exact W.iret hx hb hr (fun t ht hW => ⟨⟨_, _, rfl, ⟨rfl, rfl⟩, by rw [ht]; exact hP, va_K.moved hW.alike hK, hD⟩, hS.F ht⟩) hS.2.2 dX9_redo_9
def jUndo (S : MS) (u v c9 : Nat) : MS := mk9 (upd (upd (upd (aF S) 9 (nI (u + 1 - 1))) 10 (nI (v + 1))) 18 (nI 0)) (aG S) (lpN (fCo (a7 S) (11 * c9) (11 * (u + 1 - 1))) 11 0 (a1 S)) (a2 S) (a3 S) (a4 S) (a5 S) (a6 S) (a7 S) (a8 S) (a9 S) (a10 S) (a11 S) (a12 S) (a13 S) (a14 S) (a15 S) (a16 S) (a17 S) (a18 S) (a19 S) (a20 S)
set_option maxHeartbeats 4000000 in
set_option maxRecDepth 100000 in
theorem cM_undo1 (l : Launch) (D : va_G) (cy : Nat → ClassId) (ad : Nat → Nat) (X : va_W) (S : MS) (sz : Nat) {u v c9 : Nat} (hu : aF S 9 = nI (u + 1)) (hu20 : u + 1 ≤ 20) (hv : aF S 10 = nI v) (hc : c9 < 15) (hce : a6 S (u + 1 - 1) = nI c9) : Met l yX9_undo wsX9_undo (rm9 1 24) (gPc D cy (wM cy ad S ++ X) sz [.ref (ad 0)]) (gQi D cy (wM cy ad S ++ X) sz (fun r ws' => r = nI 1 ∧ ws' = wM cy ad (jUndo S u v c9) ++ X)) 0 0 (va_A (wM cy ad S ++ X) sz) := by
  refine gHead (cc := cX9_undo) (maxL := 1) (ret := (some .int)) (by decide) rfl (Nat.le_of_ble_eq_true rfl) ?_
  intro p e s m below meth c ls hx hb hr hlocks hml hown hts hsz hP hK hD hS hA hl
  have hin : ∀ w ∈ u_ws RX9 TX9 36, w ∈ wsX9_undo := by decide +kernel
  have hown : s.vm.findClass RX9 = some m.cls := hown
  have hl : lv_has ls 1 [(0, .ref (ad 0))] := hl
  refine lv_aload_n hx hb dX9_undo_0 rfl (lv_at hl 0 rfl) ?_
  refine rM_get (v := .int (aF S 9)) hx hb hts hin hown hK hP 9 (by decide) rfl (by decide +kernel) dX9_undo_1 ?_
  rw [hu]
  refine lv_if_ne (tgt := 10) hx hb dX9_undo_4 (by decide) (fun c1 => ?_) (fun c1 => ?_)
  · skip
    refine lv_aload_n hx hb dX9_undo_10 rfl (lv_at hl 0 rfl) ?_
    refine lv_dup hx hb dX9_undo_11 rfl ?_
    refine rM_get (v := .int (aF S 9)) hx hb hts hin hown hK hP 9 (by decide) rfl (by decide +kernel) dX9_undo_12 ?_
    rw [hu]
    refine lv_iconst (v := nI 1) hx hb dX9_undo_15 (by decide) ?_
    refine lv_isub hx hb dX9_undo_16 ?_
    rw [pk_sub (by omega)]
    refine rM_put9 (v := nI ((u + 1) - 1)) hx hb hts hin hown hK hP hD hS (by decide +kernel) dX9_undo_17 (fun H locs hP hD hS => ?_)
    have hP : va_P D vwCl (wM cy ad (mk9 (upd (aF S) 9 (nI ((u + 1) - 1))) (aG S) (a1 S) (a2 S) (a3 S) (a4 S) (a5 S) (a6 S) (a7 S) (a8 S) (a9 S) (a10 S) (a11 S) (a12 S) (a13 S) (a14 S) (a15 S) (a16 S) (a17 S) (a18 S) (a19 S) (a20 S)) ++ X) H := hP
    have hD : va_D (va_A (wM cy ad S ++ X) sz) (wM cy ad (mk9 (upd (aF S) 9 (nI ((u + 1) - 1))) (aG S) (a1 S) (a2 S) (a3 S) (a4 S) (a5 S) (a6 S) (a7 S) (a8 S) (a9 S) (a10 S) (a11 S) (a12 S) (a13 S) (a14 S) (a15 S) (a16 S) (a17 S) (a18 S) (a19 S) (a20 S)) ++ X) := hD
    refine lv_aload_n hx hb dX9_undo_20 rfl (lv_at hl 0 rfl) ?_
    refine lv_dup hx hb dX9_undo_21 rfl ?_
    refine rM_get (v := .int (aF S 10)) hx hb hts hin hown hK hP 10 (by decide) rfl (by decide +kernel) dX9_undo_22 ?_
    rw [hv]
    refine lv_iconst (v := nI 1) hx hb dX9_undo_25 (by decide) ?_
    refine lv_iadd hx hb dX9_undo_26 ?_
    rw [nI_add]
    refine rM_put10 (v := nI (v + 1)) hx hb hts hin hown hK hP hD hS (by decide +kernel) dX9_undo_27 (fun H locs hP hD hS => ?_)
    have hP : va_P D vwCl (wM cy ad (mk9 (upd (upd (aF S) 9 (nI ((u + 1) - 1))) 10 (nI (v + 1))) (aG S) (a1 S) (a2 S) (a3 S) (a4 S) (a5 S) (a6 S) (a7 S) (a8 S) (a9 S) (a10 S) (a11 S) (a12 S) (a13 S) (a14 S) (a15 S) (a16 S) (a17 S) (a18 S) (a19 S) (a20 S)) ++ X) H := hP
    have hD : va_D (va_A (wM cy ad S ++ X) sz) (wM cy ad (mk9 (upd (upd (aF S) 9 (nI ((u + 1) - 1))) 10 (nI (v + 1))) (aG S) (a1 S) (a2 S) (a3 S) (a4 S) (a5 S) (a6 S) (a7 S) (a8 S) (a9 S) (a10 S) (a11 S) (a12 S) (a13 S) (a14 S) (a15 S) (a16 S) (a17 S) (a18 S) (a19 S) (a20 S)) ++ X) := hD
    refine lv_aload_n hx hb dX9_undo_30 rfl (lv_at hl 0 rfl) ?_
    refine lv_aload_n hx hb dX9_undo_31 rfl (lv_at hl 0 rfl) ?_
    refine rM_get (v := .ref (ad 6)) hx hb hts hin hown hK hP 6 (by decide) rfl (by decide +kernel) dX9_undo_32 ?_
    refine lv_aload_n hx hb dX9_undo_35 rfl (lv_at hl 0 rfl) ?_
    refine rM_get (v := .int (nI ((u + 1) - 1))) hx hb hts hin hown hK hP 9 (by decide) rfl (by decide +kernel) dX9_undo_36 ?_
    refine rM_ld6 (i := ((u + 1) - 1)) hx hb hK hP (by omega) dX9_undo_39 ?_
    refine W.eq (g2 := F0 m 40 ls [.int (a6 S ((u + 1) - 1)), .ref (ad 0)]) rfl ?_
    rw [hce]
    refine lv_aload_n hx hb dX9_undo_40 rfl (lv_at hl 0 rfl) ?_
    refine rM_get (v := .ref (ad 7)) hx hb hts hin hown hK hP 7 (by decide) rfl (by decide +kernel) dX9_undo_41 ?_
    refine lv_bipush (v := nI 11) hx hb dX9_undo_44 (by decide) ?_
    refine lv_aload_n hx hb dX9_undo_46 rfl (lv_at hl 0 rfl) ?_
    refine rM_get (v := .int (nI ((u + 1) - 1))) hx hb hts hin hown hK hP 9 (by decide) rfl (by decide +kernel) dX9_undo_47 ?_
    refine lv_imul hx hb dX9_undo_50 ?_
    rw [pk_mul]
    refine gCallv (ws := wM cy ad (mk9 (upd (upd (aF S) 9 (nI ((u + 1) - 1))) 10 (nI (v + 1))) (aG S) (a1 S) (a2 S) (a3 S) (a4 S) (a5 S) (a6 S) (a7 S) (a8 S) (a9 S) (a10 S) (a11 S) (a12 S) (a13 S) (a14 S) (a15 S) (a16 S) (a17 S) (a18 S) (a19 S) (a20 S)) ++ X) (As := [.int (nI c9), .ref (ad 7), .int (nI (11 * ((u + 1) - 1)))]) (rest := []) (q0 := 0) (r0 := (RX9, TX9, 36)) hx hb hml hown hts hK hP hD hS hA hl.1 wM_0 rfl (cM_copyIn7 l D cy ad X (mk9 (upd (upd (aF S) 9 (nI ((u + 1) - 1))) 10 (nI (v + 1))) (aG S) (a1 S) (a2 S) (a3 S) (a4 S) (a5 S) (a6 S) (a7 S) (a8 S) (a9 S) (a10 S) (a11 S) (a12 S) (a13 S) (a14 S) (a15 S) (a16 S) (a17 S) (a18 S) (a19 S) (a20 S)) _ (c9 := c9) (o9 := 11 * (u + 1 - 1)) hc (by omega)) (cwV 3 hts gX9_undo_X9_copyIn rfl rfl rfl (by decide +kernel) ⟨Nat.le_of_ble_eq_true rfl, Nat.le_of_ble_eq_true rfl⟩) rfl rfl (Nat.le_of_ble_eq_true rfl) ⟨Nat.le_of_ble_eq_true rfl, Nat.le_of_ble_eq_true rfl⟩ dX9_undo_51 (fun ws2 H locs e2 hP hD hS => ?_)
    rw [show ws2 = _ from e2] at hP hD
    have hP : va_P D vwCl (wM cy ad (mk9 (upd (upd (upd (aF S) 9 (nI ((u + 1) - 1))) 10 (nI (v + 1))) 18 (nI 0)) (aG S) (lpN (fCo (a7 S) (11 * c9) (11 * (u + 1 - 1))) 11 0 (a1 S)) (a2 S) (a3 S) (a4 S) (a5 S) (a6 S) (a7 S) (a8 S) (a9 S) (a10 S) (a11 S) (a12 S) (a13 S) (a14 S) (a15 S) (a16 S) (a17 S) (a18 S) (a19 S) (a20 S)) ++ X) H := hP
    have hD : va_D (va_A (wM cy ad S ++ X) sz) (wM cy ad (mk9 (upd (upd (upd (aF S) 9 (nI ((u + 1) - 1))) 10 (nI (v + 1))) 18 (nI 0)) (aG S) (lpN (fCo (a7 S) (11 * c9) (11 * (u + 1 - 1))) 11 0 (a1 S)) (a2 S) (a3 S) (a4 S) (a5 S) (a6 S) (a7 S) (a8 S) (a9 S) (a10 S) (a11 S) (a12 S) (a13 S) (a14 S) (a15 S) (a16 S) (a17 S) (a18 S) (a19 S) (a20 S)) ++ X) := hD
    refine lv_iconst (v := nI 1) hx hb dX9_undo_54 (by decide) ?_
    exact W.iret hx hb hr (fun t ht hW => ⟨⟨_, _, rfl, ⟨rfl, rfl⟩, by rw [ht]; exact hP, va_K.moved hW.alike hK, hD⟩, hS.F ht⟩) hS.2.2 dX9_undo_55
  · exact absurd c1 (nI_ne0 (by omega) (by omega))
def jRedo (S : MS) (u v c9 : Nat) : MS := mk9 (upd (upd (upd (aF S) 18 (nI 0)) 9 (nI (u + 1))) 10 (nI (v + 1 - 1))) (aG S) (lpN (fCo (a8 S) (11 * c9) (11 * u)) 11 0 (a1 S)) (a2 S) (a3 S) (a4 S) (a5 S) (a6 S) (a7 S) (a8 S) (a9 S) (a10 S) (a11 S) (a12 S) (a13 S) (a14 S) (a15 S) (a16 S) (a17 S) (a18 S) (a19 S) (a20 S)
set_option maxHeartbeats 4000000 in
set_option maxRecDepth 100000 in
theorem cM_redo1 (l : Launch) (D : va_G) (cy : Nat → ClassId) (ad : Nat → Nat) (X : va_W) (S : MS) (sz : Nat) {u v c9 : Nat} (hu : aF S 9 = nI u) (hu20 : u + 1 ≤ 20) (hv : aF S 10 = nI (v + 1)) (hv20 : v + 1 ≤ 20) (hc : c9 < 15) (hce : a6 S u = nI c9) : Met l yX9_redo wsX9_redo (rm9 1 24) (gPc D cy (wM cy ad S ++ X) sz [.ref (ad 0)]) (gQi D cy (wM cy ad S ++ X) sz (fun r ws' => r = nI 1 ∧ ws' = wM cy ad (jRedo S u v c9) ++ X)) 0 0 (va_A (wM cy ad S ++ X) sz) := by
  refine gHead (cc := cX9_redo) (maxL := 1) (ret := (some .int)) (by decide) rfl (Nat.le_of_ble_eq_true rfl) ?_
  intro p e s m below meth c ls hx hb hr hlocks hml hown hts hsz hP hK hD hS hA hl
  have hin : ∀ w ∈ u_ws RX9 TX9 36, w ∈ wsX9_redo := by decide +kernel
  have hown : s.vm.findClass RX9 = some m.cls := hown
  have hl : lv_has ls 1 [(0, .ref (ad 0))] := hl
  refine lv_aload_n hx hb dX9_redo_0 rfl (lv_at hl 0 rfl) ?_
  refine rM_get (v := .int (aF S 10)) hx hb hts hin hown hK hP 10 (by decide) rfl (by decide +kernel) dX9_redo_1 ?_
  rw [hv]
  refine lv_if_ne (tgt := 10) hx hb dX9_redo_4 (by decide) (fun c1 => ?_) (fun c1 => ?_)
  · skip
    refine lv_aload_n hx hb dX9_redo_10 rfl (lv_at hl 0 rfl) ?_
    refine lv_aload_n hx hb dX9_redo_11 rfl (lv_at hl 0 rfl) ?_
    refine rM_get (v := .ref (ad 6)) hx hb hts hin hown hK hP 6 (by decide) rfl (by decide +kernel) dX9_redo_12 ?_
    refine lv_aload_n hx hb dX9_redo_15 rfl (lv_at hl 0 rfl) ?_
    refine rM_get (v := .int (aF S 9)) hx hb hts hin hown hK hP 9 (by decide) rfl (by decide +kernel) dX9_redo_16 ?_
    rw [hu]
    refine rM_ld6 (i := u) hx hb hK hP (by omega) dX9_redo_19 ?_
    refine W.eq (g2 := F0 m 20 ls [.int (a6 S u), .ref (ad 0)]) rfl ?_
    rw [hce]
    refine lv_aload_n hx hb dX9_redo_20 rfl (lv_at hl 0 rfl) ?_
    refine rM_get (v := .ref (ad 8)) hx hb hts hin hown hK hP 8 (by decide) rfl (by decide +kernel) dX9_redo_21 ?_
    refine lv_bipush (v := nI 11) hx hb dX9_redo_24 (by decide) ?_
    refine lv_aload_n hx hb dX9_redo_26 rfl (lv_at hl 0 rfl) ?_
    refine rM_get (v := .int (aF S 9)) hx hb hts hin hown hK hP 9 (by decide) rfl (by decide +kernel) dX9_redo_27 ?_
    rw [hu]
    refine lv_imul hx hb dX9_redo_30 ?_
    rw [pk_mul]
    refine gCallv (ws := wM cy ad S ++ X) (As := [.int (nI c9), .ref (ad 8), .int (nI (11 * u))]) (rest := []) (q0 := 0) (r0 := (RX9, TX9, 36)) hx hb hml hown hts hK hP hD hS hA hl.1 wM_0 rfl (cM_copyIn8 l D cy ad X (S) _ (c9 := c9) (o9 := 11 * u) hc (by omega)) (cwV 3 hts gX9_redo_X9_copyIn rfl rfl rfl (by decide +kernel) ⟨Nat.le_of_ble_eq_true rfl, Nat.le_of_ble_eq_true rfl⟩) rfl rfl (Nat.le_of_ble_eq_true rfl) ⟨Nat.le_of_ble_eq_true rfl, Nat.le_of_ble_eq_true rfl⟩ dX9_redo_31 (fun ws2 H locs e2 hP hD hS => ?_)
    rw [show ws2 = _ from e2] at hP hD
    have hP : va_P D vwCl (wM cy ad (mk9 (upd (aF S) 18 (nI 0)) (aG S) (lpN (fCo (a8 S) (11 * c9) (11 * u)) 11 0 (a1 S)) (a2 S) (a3 S) (a4 S) (a5 S) (a6 S) (a7 S) (a8 S) (a9 S) (a10 S) (a11 S) (a12 S) (a13 S) (a14 S) (a15 S) (a16 S) (a17 S) (a18 S) (a19 S) (a20 S)) ++ X) H := hP
    have hD : va_D (va_A (wM cy ad S ++ X) sz) (wM cy ad (mk9 (upd (aF S) 18 (nI 0)) (aG S) (lpN (fCo (a8 S) (11 * c9) (11 * u)) 11 0 (a1 S)) (a2 S) (a3 S) (a4 S) (a5 S) (a6 S) (a7 S) (a8 S) (a9 S) (a10 S) (a11 S) (a12 S) (a13 S) (a14 S) (a15 S) (a16 S) (a17 S) (a18 S) (a19 S) (a20 S)) ++ X) := hD
    refine lv_aload_n hx hb dX9_redo_34 rfl (lv_at hl 0 rfl) ?_
    refine lv_dup hx hb dX9_redo_35 rfl ?_
    refine rM_get (v := .int (aF S 9)) hx hb hts hin hown hK hP 9 (by decide) rfl (by decide +kernel) dX9_redo_36 ?_
    rw [hu]
    refine lv_iconst (v := nI 1) hx hb dX9_redo_39 (by decide) ?_
    refine lv_iadd hx hb dX9_redo_40 ?_
    rw [nI_add]
    refine rM_put9 (v := nI (u + 1)) hx hb hts hin hown hK hP hD hS (by decide +kernel) dX9_redo_41 (fun H locs hP hD hS => ?_)
    have hP : va_P D vwCl (wM cy ad (mk9 (upd (upd (aF S) 18 (nI 0)) 9 (nI (u + 1))) (aG S) (lpN (fCo (a8 S) (11 * c9) (11 * u)) 11 0 (a1 S)) (a2 S) (a3 S) (a4 S) (a5 S) (a6 S) (a7 S) (a8 S) (a9 S) (a10 S) (a11 S) (a12 S) (a13 S) (a14 S) (a15 S) (a16 S) (a17 S) (a18 S) (a19 S) (a20 S)) ++ X) H := hP
    have hD : va_D (va_A (wM cy ad S ++ X) sz) (wM cy ad (mk9 (upd (upd (aF S) 18 (nI 0)) 9 (nI (u + 1))) (aG S) (lpN (fCo (a8 S) (11 * c9) (11 * u)) 11 0 (a1 S)) (a2 S) (a3 S) (a4 S) (a5 S) (a6 S) (a7 S) (a8 S) (a9 S) (a10 S) (a11 S) (a12 S) (a13 S) (a14 S) (a15 S) (a16 S) (a17 S) (a18 S) (a19 S) (a20 S)) ++ X) := hD
    refine lv_aload_n hx hb dX9_redo_44 rfl (lv_at hl 0 rfl) ?_
    refine lv_dup hx hb dX9_redo_45 rfl ?_
    refine rM_get (v := .int (aF S 10)) hx hb hts hin hown hK hP 10 (by decide) rfl (by decide +kernel) dX9_redo_46 ?_
    rw [hv]
    refine lv_iconst (v := nI 1) hx hb dX9_redo_49 (by decide) ?_
    refine lv_isub hx hb dX9_redo_50 ?_
    rw [pk_sub (by omega)]
    refine rM_put10 (v := nI ((v + 1) - 1)) hx hb hts hin hown hK hP hD hS (by decide +kernel) dX9_redo_51 (fun H locs hP hD hS => ?_)
    have hP : va_P D vwCl (wM cy ad (mk9 (upd (upd (upd (aF S) 18 (nI 0)) 9 (nI (u + 1))) 10 (nI ((v + 1) - 1))) (aG S) (lpN (fCo (a8 S) (11 * c9) (11 * u)) 11 0 (a1 S)) (a2 S) (a3 S) (a4 S) (a5 S) (a6 S) (a7 S) (a8 S) (a9 S) (a10 S) (a11 S) (a12 S) (a13 S) (a14 S) (a15 S) (a16 S) (a17 S) (a18 S) (a19 S) (a20 S)) ++ X) H := hP
    have hD : va_D (va_A (wM cy ad S ++ X) sz) (wM cy ad (mk9 (upd (upd (upd (aF S) 18 (nI 0)) 9 (nI (u + 1))) 10 (nI ((v + 1) - 1))) (aG S) (lpN (fCo (a8 S) (11 * c9) (11 * u)) 11 0 (a1 S)) (a2 S) (a3 S) (a4 S) (a5 S) (a6 S) (a7 S) (a8 S) (a9 S) (a10 S) (a11 S) (a12 S) (a13 S) (a14 S) (a15 S) (a16 S) (a17 S) (a18 S) (a19 S) (a20 S)) ++ X) := hD
    refine lv_iconst (v := nI 1) hx hb dX9_redo_54 (by decide) ?_
    exact W.iret hx hb hr (fun t ht hW => ⟨⟨_, _, rfl, ⟨rfl, rfl⟩, by rw [ht]; exact hP, va_K.moved hW.alike hK, hD⟩, hS.F ht⟩) hS.2.2 dX9_redo_55
  · exact absurd c1 (nI_ne0 (by omega) (by omega))
