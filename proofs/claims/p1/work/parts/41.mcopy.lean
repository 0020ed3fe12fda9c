/-! the reference: a constraint is copied out of the list, and into it -/
def fCo (g : Nat → Int32) (o1 o2 k : Nat) (f : Nat → Int32) : Nat → Int32 := upd f (o1 + k) (g (o2 + k))
def jOut15 (S : MS) (c9 o9 : Nat) : MS := mk9 (aF S) (aG S) (a1 S) (a2 S) (a3 S) (a4 S) (a5 S) (a6 S) (a7 S) (a8 S) (a9 S) (a10 S) (a11 S) (a12 S) (a13 S) (a14 S) (lpN (fCo (a1 S) o9 (11 * c9)) 11 0 (a15 S)) (a16 S) (a17 S) (a18 S) (a19 S) (a20 S)
set_option maxHeartbeats 4000000 in
set_option maxRecDepth 100000 in
theorem cM_copyOut15 (l : Launch) (D : va_G) (cy : Nat → ClassId) (ad : Nat → Nat) (X : va_W) (S : MS) (sz : Nat) {c9 o9 : Nat} (hc : c9 < 15) (ha : o9 + 11 ≤ 11) : Met l yX9_copyOut wsX9_copyOut (rm9 0 0) (gPc D cy (wM cy ad S ++ X) sz [.ref (ad 0), .int (nI c9), .ref (ad 15), .int (nI o9)]) (gQv D cy (wM cy ad S ++ X) sz (fun ws' => ws' = wM cy ad (jOut15 S c9 o9) ++ X)) 0 0 (va_A (wM cy ad S ++ X) sz) := by
  refine gHead (cc := cX9_copyOut) (maxL := 5) (ret := none) (by decide) rfl (Nat.le_of_ble_eq_true rfl) ?_
  intro p e s m below meth c ls hx hb hr hlocks hml hown hts hsz hP hK hD hS hA hl
  have hin : ∀ w ∈ u_ws RX9 TX9 36, w ∈ wsX9_copyOut := by decide +kernel
  have hown : s.vm.findClass RX9 = some m.cls := hown
  have hl : lv_has ls 5 [(0, .ref (ad 0)), (1, .int (nI c9)), (2, .ref (ad 15)), (3, .int (nI o9))] := hl
  refine lv_iconst (v := nI 0) hx hb dX9_copyOut_0 (by decide) ?_
  refine lv_istore (lv' := [(4, .int (nI 0)), (0, .ref (ad 0)), (1, .int (nI c9)), (2, .ref (ad 15)), (3, .int (nI o9))]) hx hb dX9_copyOut_1 hl (by decide) rfl (fun ls hl => ?_)
  have L3 : ∀ (n k : Nat) (u : Nat → Int32) (H : Heap) (locs : List Loc) (ls : Array Slot), k + n = 11 → va_P D vwCl (wM cy ad (mk9 (aF S) (aG S) (a1 S) (a2 S) (a3 S) (a4 S) (a5 S) (a6 S) (a7 S) (a8 S) (a9 S) (a10 S) (a11 S) (a12 S) (a13 S) (a14 S) u (a16 S) (a17 S) (a18 S) (a19 S) (a20 S)) ++ X) H → va_D (va_A (wM cy ad S ++ X) sz) (wM cy ad (mk9 (aF S) (aG S) (a1 S) (a2 S) (a3 S) (a4 S) (a5 S) (a6 S) (a7 S) (a8 S) (a9 S) (a10 S) (a11 S) (a12 S) (a13 S) (a14 S) u (a16 S) (a17 S) (a18 S) (a19 S) (a20 S)) ++ X) → va_S (va_A (wM cy ad S ++ X) sz) s.heap H locs → lv_has ls 5 [(4, .int (nI k)), (0, .ref (ad 0)), (1, .int (nI c9)), (2, .ref (ad 15)), (3, .int (nI o9))] → (∀ (H : Heap) (locs : List Loc) (ls : Array Slot), va_P D vwCl (wM cy ad (mk9 (aF S) (aG S) (a1 S) (a2 S) (a3 S) (a4 S) (a5 S) (a6 S) (a7 S) (a8 S) (a9 S) (a10 S) (a11 S) (a12 S) (a13 S) (a14 S) (lpN (fCo (a1 S) o9 (11 * c9)) n k u) (a16 S) (a17 S) (a18 S) (a19 S) (a20 S)) ++ X) H → va_D (va_A (wM cy ad S ++ X) sz) (wM cy ad (mk9 (aF S) (aG S) (a1 S) (a2 S) (a3 S) (a4 S) (a5 S) (a6 S) (a7 S) (a8 S) (a9 S) (a10 S) (a11 S) (a12 S) (a13 S) (a14 S) (lpN (fCo (a1 S) o9 (11 * c9)) n k u) (a16 S) (a17 S) (a18 S) (a19 S) (a20 S)) ++ X) → va_S (va_A (wM cy ad S ++ X) sz) s.heap H locs → lv_has ls 5 [(4, .int (nI 11)), (0, .ref (ad 0)), (1, .int (nI c9)), (2, .ref (ad 15)), (3, .int (nI o9))] → W p l e (headSpec wsX9_copyOut (rm9 0 0)).room s m ([.ref (ad 0), .int (nI c9), .ref (ad 15), .int (nI o9)] : List Value).toArray below meth c H locs 0 0 (MQ below (gQv D cy (wM cy ad S ++ X) sz (fun ws' => ws' = wM cy ad (jOut15 S c9 o9) ++ X)) ([.ref (ad 0), .int (nI c9), .ref (ad 15), .int (nI o9)] : List Value).toArray s 0 0 (va_A (wM cy ad S ++ X) sz)) (F0 m 34 ls [])) → W p l e (headSpec wsX9_copyOut (rm9 0 0)).room s m ([.ref (ad 0), .int (nI c9), .ref (ad 15), .int (nI o9)] : List Value).toArray below meth c H locs 0 0 (MQ below (gQv D cy (wM cy ad S ++ X) sz (fun ws' => ws' = wM cy ad (jOut15 S c9 o9) ++ X)) ([.ref (ad 0), .int (nI c9), .ref (ad 15), .int (nI o9)] : List Value).toArray s 0 0 (va_A (wM cy ad S ++ X) sz)) (F0 m 3 ls []) := by
    intro n
    induction n with
    | zero =>
      intro k u H locs ls hk hP hD hS hl hex
      obtain rfl : 11 = k := by omega
      refine lv_iload hx hb dX9_copyOut_3 (lv_at hl 0 rfl) ?_
      refine lv_bipush (v := nI 11) hx hb dX9_copyOut_5 (by decide) ?_
      refine lv_icmp_ge (tgt := 34) hx hb dX9_copyOut_7 (by decide) (fun c1 => ?_) (fun c1 => ?_)
      · rw [nI_leI (by omega) (by omega)] at c1
        exact hex _ _ _ hP hD hS (lv_sub hl [0, 1, 2, 3, 4] rfl)
      · exact absurd c1 (by rw [nI_leI (by omega) (by omega)]; omega)
    | succ n ih =>
      intro k u H locs ls hk hP hD hS hl hex
      have hk3 : k < 11 := by omega
      refine lv_iload hx hb dX9_copyOut_3 (lv_at hl 0 rfl) ?_
      refine lv_bipush (v := nI 11) hx hb dX9_copyOut_5 (by decide) ?_
      refine lv_icmp_ge (tgt := 34) hx hb dX9_copyOut_7 (by decide) (fun c2 => ?_) (fun c2 => ?_)
      · exact absurd c2 (by rw [nI_leI (by omega) (by omega)]; omega)
      · rw [nI_leI (by omega) (by omega)] at c2
        refine lv_aload_n hx hb dX9_copyOut_10 rfl (lv_at hl 3 rfl) ?_
        refine lv_iload_n hx hb dX9_copyOut_11 rfl (lv_at hl 4 rfl) ?_
        refine lv_iload hx hb dX9_copyOut_12 (lv_at hl 0 rfl) ?_
        refine lv_iadd hx hb dX9_copyOut_14 ?_
        rw [nI_add]
        refine lv_aload_n hx hb dX9_copyOut_15 rfl (lv_at hl 1 rfl) ?_
        refine rM_get (v := .ref (ad 1)) hx hb hts hin hown hK hP 0 (by decide) rfl (by decide +kernel) dX9_copyOut_16 ?_
        refine lv_bipush (v := nI 11) hx hb dX9_copyOut_19 (by decide) ?_
        refine lv_iload_n hx hb dX9_copyOut_21 rfl (lv_at hl 2 rfl) ?_
        refine lv_imul hx hb dX9_copyOut_22 ?_
        rw [pk_mul]
        refine lv_iload hx hb dX9_copyOut_23 (lv_at hl 0 rfl) ?_
        refine lv_iadd hx hb dX9_copyOut_25 ?_
        rw [nI_add]
        refine rM_ld1 (i := ((11 * c9) + k)) hx hb hK hP (by omega) dX9_copyOut_26 ?_
        refine W.eq (g2 := F0 m 27 ls [.int (a1 S ((11 * c9) + k)), .int (nI (o9 + k)), .ref (ad 15)]) rfl ?_
        refine rM_st15 (i := (o9 + k)) hx hb hK hP hD hS (by omega) dX9_copyOut_27 (fun H locs hP hD hS => ?_)
        have hP : va_P D vwCl (wM cy ad (mk9 (aF S) (aG S) (a1 S) (a2 S) (a3 S) (a4 S) (a5 S) (a6 S) (a7 S) (a8 S) (a9 S) (a10 S) (a11 S) (a12 S) (a13 S) (a14 S) (upd u (o9 + k) (a1 S ((11 * c9) + k))) (a16 S) (a17 S) (a18 S) (a19 S) (a20 S)) ++ X) H := hP
        have hD : va_D (va_A (wM cy ad S ++ X) sz) (wM cy ad (mk9 (aF S) (aG S) (a1 S) (a2 S) (a3 S) (a4 S) (a5 S) (a6 S) (a7 S) (a8 S) (a9 S) (a10 S) (a11 S) (a12 S) (a13 S) (a14 S) (upd u (o9 + k) (a1 S ((11 * c9) + k))) (a16 S) (a17 S) (a18 S) (a19 S) (a20 S)) ++ X) := hD
        refine lv_iinc (v := nI (k + 1)) (lv' := [(4, .int (nI (k + 1))), (0, .ref (ad 0)), (1, .int (nI c9)), (2, .ref (ad 15)), (3, .int (nI o9))]) hx hb dX9_copyOut_28 hl (k := 0) rfl (nI_1 _) (by decide) rfl (fun ls hl => ?_)
        refine lv_goto (tgt := 3) hx hb dX9_copyOut_31 (by decide) ?_
        have he : (fCo (a1 S) o9 (11 * c9)) k u = (upd u (o9 + k) (a1 S ((11 * c9) + k))) := rfl
        rw [lpN_s (f := fCo (a1 S) o9 (11 * c9)), he] at hex
        exact ih ((k + 1)) (upd u (o9 + k) (a1 S ((11 * c9) + k))) _ _ _ (by omega) hP hD hS (lv_sub hl [0, 1, 2, 3, 4] rfl) hex
  refine L3 11 0 (a15 S) _ _ _ (by omega) hP hD hS (lv_sub hl [0, 1, 2, 3, 4] rfl) (fun H locs ls hP hD hS hl => ?_)
  exact W.vret hx hb hr (fun t ht hW => ⟨⟨_, rfl, rfl, by rw [ht]; exact hP, va_K.moved hW.alike hK, hD⟩, hS.F ht⟩) hS.2.2 dX9_copyOut_34
def jOut8 (S : MS) (c9 o9 : Nat) : MS := mk9 (aF S) (aG S) (a1 S) (a2 S) (a3 S) (a4 S) (a5 S) (a6 S) (a7 S) (lpN (fCo (a1 S) o9 (11 * c9)) 11 0 (a8 S)) (a9 S) (a10 S) (a11 S) (a12 S) (a13 S) (a14 S) (a15 S) (a16 S) (a17 S) (a18 S) (a19 S) (a20 S)
set_option maxHeartbeats 4000000 in
set_option maxRecDepth 100000 in
theorem cM_copyOut8 (l : Launch) (D : va_G) (cy : Nat → ClassId) (ad : Nat → Nat) (X : va_W) (S : MS) (sz : Nat) {c9 o9 : Nat} (hc : c9 < 15) (ha : o9 + 11 ≤ 220) : Met l yX9_copyOut wsX9_copyOut (rm9 0 0) (gPc D cy (wM cy ad S ++ X) sz [.ref (ad 0), .int (nI c9), .ref (ad 8), .int (nI o9)]) (gQv D cy (wM cy ad S ++ X) sz (fun ws' => ws' = wM cy ad (jOut8 S c9 o9) ++ X)) 0 0 (va_A (wM cy ad S ++ X) sz) := by
  refine gHead (cc := cX9_copyOut) (maxL := 5) (ret := none) (by decide) rfl (Nat.le_of_ble_eq_true rfl) ?_
  intro p e s m below meth c ls hx hb hr hlocks hml hown hts hsz hP hK hD hS hA hl
  have hin : ∀ w ∈ u_ws RX9 TX9 36, w ∈ wsX9_copyOut := by decide +kernel
  have hown : s.vm.findClass RX9 = some m.cls := hown
  have hl : lv_has ls 5 [(0, .ref (ad 0)), (1, .int (nI c9)), (2, .ref (ad 8)), (3, .int (nI o9))] := hl
  refine lv_iconst (v := nI 0) hx hb dX9_copyOut_0 (by decide) ?_
  refine lv_istore (lv' := [(4, .int (nI 0)), (0, .ref (ad 0)), (1, .int (nI c9)), (2, .ref (ad 8)), (3, .int (nI o9))]) hx hb dX9_copyOut_1 hl (by decide) rfl (fun ls hl => ?_)
  have L3 : ∀ (n k : Nat) (u : Nat → Int32) (H : Heap) (locs : List Loc) (ls : Array Slot), k + n = 11 → va_P D vwCl (wM cy ad (mk9 (aF S) (aG S) (a1 S) (a2 S) (a3 S) (a4 S) (a5 S) (a6 S) (a7 S) u (a9 S) (a10 S) (a11 S) (a12 S) (a13 S) (a14 S) (a15 S) (a16 S) (a17 S) (a18 S) (a19 S) (a20 S)) ++ X) H → va_D (va_A (wM cy ad S ++ X) sz) (wM cy ad (mk9 (aF S) (aG S) (a1 S) (a2 S) (a3 S) (a4 S) (a5 S) (a6 S) (a7 S) u (a9 S) (a10 S) (a11 S) (a12 S) (a13 S) (a14 S) (a15 S) (a16 S) (a17 S) (a18 S) (a19 S) (a20 S)) ++ X) → va_S (va_A (wM cy ad S ++ X) sz) s.heap H locs → lv_has ls 5 [(4, .int (nI k)), (0, .ref (ad 0)), (1, .int (nI c9)), (2, .ref (ad 8)), (3, .int (nI o9))] → (∀ (H : Heap) (locs : List Loc) (ls : Array Slot), va_P D vwCl (wM cy ad (mk9 (aF S) (aG S) (a1 S) (a2 S) (a3 S) (a4 S) (a5 S) (a6 S) (a7 S) (lpN (fCo (a1 S) o9 (11 * c9)) n k u) (a9 S) (a10 S) (a11 S) (a12 S) (a13 S) (a14 S) (a15 S) (a16 S) (a17 S) (a18 S) (a19 S) (a20 S)) ++ X) H → va_D (va_A (wM cy ad S ++ X) sz) (wM cy ad (mk9 (aF S) (aG S) (a1 S) (a2 S) (a3 S) (a4 S) (a5 S) (a6 S) (a7 S) (lpN (fCo (a1 S) o9 (11 * c9)) n k u) (a9 S) (a10 S) (a11 S) (a12 S) (a13 S) (a14 S) (a15 S) (a16 S) (a17 S) (a18 S) (a19 S) (a20 S)) ++ X) → va_S (va_A (wM cy ad S ++ X) sz) s.heap H locs → lv_has ls 5 [(4, .int (nI 11)), (0, .ref (ad 0)), (1, .int (nI c9)), (2, .ref (ad 8)), (3, .int (nI o9))] → W p l e (headSpec wsX9_copyOut (rm9 0 0)).room s m ([.ref (ad 0), .int (nI c9), .ref (ad 8), .int (nI o9)] : List Value).toArray below meth c H locs 0 0 (MQ below (gQv D cy (wM cy ad S ++ X) sz (fun ws' => ws' = wM cy ad (jOut8 S c9 o9) ++ X)) ([.ref (ad 0), .int (nI c9), .ref (ad 8), .int (nI o9)] : List Value).toArray s 0 0 (va_A (wM cy ad S ++ X) sz)) (F0 m 34 ls [])) → W p l e (headSpec wsX9_copyOut (rm9 0 0)).room s m ([.ref (ad 0), .int (nI c9), .ref (ad 8), .int (nI o9)] : List Value).toArray below meth c H locs 0 0 (MQ below (gQv D cy (wM cy ad S ++ X) sz (fun ws' => ws' = wM cy ad (jOut8 S c9 o9) ++ X)) ([.ref (ad 0), .int (nI c9), .ref (ad 8), .int (nI o9)] : List Value).toArray s 0 0 (va_A (wM cy ad S ++ X) sz)) (F0 m 3 ls []) := by
    intro n
    induction n with
    | zero =>
      intro k u H locs ls hk hP hD hS hl hex
      obtain rfl : 11 = k := by omega
      refine lv_iload hx hb dX9_copyOut_3 (lv_at hl 0 rfl) ?_
      refine lv_bipush (v := nI 11) hx hb dX9_copyOut_5 (by decide) ?_
      refine lv_icmp_ge (tgt := 34) hx hb dX9_copyOut_7 (by decide) (fun c1 => ?_) (fun c1 => ?_)
      · rw [nI_leI (by omega) (by omega)] at c1
        exact hex _ _ _ hP hD hS (lv_sub hl [0, 1, 2, 3, 4] rfl)
      · exact absurd c1 (by rw [nI_leI (by omega) (by omega)]; omega)
    | succ n ih =>
      intro k u H locs ls hk hP hD hS hl hex
      have hk3 : k < 11 := by omega
      refine lv_iload hx hb dX9_copyOut_3 (lv_at hl 0 rfl) ?_
      refine lv_bipush (v := nI 11) hx hb dX9_copyOut_5 (by decide) ?_
      refine lv_icmp_ge (tgt := 34) hx hb dX9_copyOut_7 (by decide) (fun c2 => ?_) (fun c2 => ?_)
      · exact absurd c2 (by rw [nI_leI (by omega) (by omega)]; omega)
      · rw [nI_leI (by omega) (by omega)] at c2
        refine lv_aload_n hx hb dX9_copyOut_10 rfl (lv_at hl 3 rfl) ?_
        refine lv_iload_n hx hb dX9_copyOut_11 rfl (lv_at hl 4 rfl) ?_
        refine lv_iload hx hb dX9_copyOut_12 (lv_at hl 0 rfl) ?_
        refine lv_iadd hx hb dX9_copyOut_14 ?_
        rw [nI_add]
        refine lv_aload_n hx hb dX9_copyOut_15 rfl (lv_at hl 1 rfl) ?_
        refine rM_get (v := .ref (ad 1)) hx hb hts hin hown hK hP 0 (by decide) rfl (by decide +kernel) dX9_copyOut_16 ?_
        refine lv_bipush (v := nI 11) hx hb dX9_copyOut_19 (by decide) ?_
        refine lv_iload_n hx hb dX9_copyOut_21 rfl (lv_at hl 2 rfl) ?_
        refine lv_imul hx hb dX9_copyOut_22 ?_
        rw [pk_mul]
        refine lv_iload hx hb dX9_copyOut_23 (lv_at hl 0 rfl) ?_
        refine lv_iadd hx hb dX9_copyOut_25 ?_
        rw [nI_add]
        refine rM_ld1 (i := ((11 * c9) + k)) hx hb hK hP (by omega) dX9_copyOut_26 ?_
        refine W.eq (g2 := F0 m 27 ls [.int (a1 S ((11 * c9) + k)), .int (nI (o9 + k)), .ref (ad 8)]) rfl ?_
        refine rM_st8 (i := (o9 + k)) hx hb hK hP hD hS (by omega) dX9_copyOut_27 (fun H locs hP hD hS => ?_)
        have hP : va_P D vwCl (wM cy ad (mk9 (aF S) (aG S) (a1 S) (a2 S) (a3 S) (a4 S) (a5 S) (a6 S) (a7 S) (upd u (o9 + k) (a1 S ((11 * c9) + k))) (a9 S) (a10 S) (a11 S) (a12 S) (a13 S) (a14 S) (a15 S) (a16 S) (a17 S) (a18 S) (a19 S) (a20 S)) ++ X) H := hP
        have hD : va_D (va_A (wM cy ad S ++ X) sz) (wM cy ad (mk9 (aF S) (aG S) (a1 S) (a2 S) (a3 S) (a4 S) (a5 S) (a6 S) (a7 S) (upd u (o9 + k) (a1 S ((11 * c9) + k))) (a9 S) (a10 S) (a11 S) (a12 S) (a13 S) (a14 S) (a15 S) (a16 S) (a17 S) (a18 S) (a19 S) (a20 S)) ++ X) := hD
        refine lv_iinc (v := nI (k + 1)) (lv' := [(4, .int (nI (k + 1))), (0, .ref (ad 0)), (1, .int (nI c9)), (2, .ref (ad 8)), (3, .int (nI o9))]) hx hb dX9_copyOut_28 hl (k := 0) rfl (nI_1 _) (by decide) rfl (fun ls hl => ?_)
        refine lv_goto (tgt := 3) hx hb dX9_copyOut_31 (by decide) ?_
        have he : (fCo (a1 S) o9 (11 * c9)) k u = (upd u (o9 + k) (a1 S ((11 * c9) + k))) := rfl
        rw [lpN_s (f := fCo (a1 S) o9 (11 * c9)), he] at hex
        exact ih ((k + 1)) (upd u (o9 + k) (a1 S ((11 * c9) + k))) _ _ _ (by omega) hP hD hS (lv_sub hl [0, 1, 2, 3, 4] rfl) hex
  refine L3 11 0 (a8 S) _ _ _ (by omega) hP hD hS (lv_sub hl [0, 1, 2, 3, 4] rfl) (fun H locs ls hP hD hS hl => ?_)
  exact W.vret hx hb hr (fun t ht hW => ⟨⟨_, rfl, rfl, by rw [ht]; exact hP, va_K.moved hW.alike hK, hD⟩, hS.F ht⟩) hS.2.2 dX9_copyOut_34
def jIn15 (S : MS) (c9 o9 : Nat) : MS := mk9 (upd (aF S) 18 (nI 0)) (aG S) (lpN (fCo (a15 S) (11 * c9) o9) 11 0 (a1 S)) (a2 S) (a3 S) (a4 S) (a5 S) (a6 S) (a7 S) (a8 S) (a9 S) (a10 S) (a11 S) (a12 S) (a13 S) (a14 S) (a15 S) (a16 S) (a17 S) (a18 S) (a19 S) (a20 S)
set_option maxHeartbeats 4000000 in
set_option maxRecDepth 100000 in
theorem cM_copyIn15 (l : Launch) (D : va_G) (cy : Nat → ClassId) (ad : Nat → Nat) (X : va_W) (S : MS) (sz : Nat) {c9 o9 : Nat} (hc : c9 < 15) (ha : o9 + 11 ≤ 11) : Met l yX9_copyIn wsX9_copyIn (rm9 0 0) (gPc D cy (wM cy ad S ++ X) sz [.ref (ad 0), .int (nI c9), .ref (ad 15), .int (nI o9)]) (gQv D cy (wM cy ad S ++ X) sz (fun ws' => ws' = wM cy ad (jIn15 S c9 o9) ++ X)) 0 0 (va_A (wM cy ad S ++ X) sz) := by
  refine gHead (cc := cX9_copyIn) (maxL := 5) (ret := none) (by decide) rfl (Nat.le_of_ble_eq_true rfl) ?_
  intro p e s m below meth c ls hx hb hr hlocks hml hown hts hsz hP hK hD hS hA hl
  have hin : ∀ w ∈ u_ws RX9 TX9 36, w ∈ wsX9_copyIn := by decide +kernel
  have hown : s.vm.findClass RX9 = some m.cls := hown
  have hl : lv_has ls 5 [(0, .ref (ad 0)), (1, .int (nI c9)), (2, .ref (ad 15)), (3, .int (nI o9))] := hl
  refine lv_iconst (v := nI 0) hx hb dX9_copyIn_0 (by decide) ?_
  refine lv_istore (lv' := [(4, .int (nI 0)), (0, .ref (ad 0)), (1, .int (nI c9)), (2, .ref (ad 15)), (3, .int (nI o9))]) hx hb dX9_copyIn_1 hl (by decide) rfl (fun ls hl => ?_)
  have L3 : ∀ (n k : Nat) (u : Nat → Int32) (H : Heap) (locs : List Loc) (ls : Array Slot), k + n = 11 → va_P D vwCl (wM cy ad (mk9 (aF S) (aG S) u (a2 S) (a3 S) (a4 S) (a5 S) (a6 S) (a7 S) (a8 S) (a9 S) (a10 S) (a11 S) (a12 S) (a13 S) (a14 S) (a15 S) (a16 S) (a17 S) (a18 S) (a19 S) (a20 S)) ++ X) H → va_D (va_A (wM cy ad S ++ X) sz) (wM cy ad (mk9 (aF S) (aG S) u (a2 S) (a3 S) (a4 S) (a5 S) (a6 S) (a7 S) (a8 S) (a9 S) (a10 S) (a11 S) (a12 S) (a13 S) (a14 S) (a15 S) (a16 S) (a17 S) (a18 S) (a19 S) (a20 S)) ++ X) → va_S (va_A (wM cy ad S ++ X) sz) s.heap H locs → lv_has ls 5 [(4, .int (nI k)), (0, .ref (ad 0)), (1, .int (nI c9)), (2, .ref (ad 15)), (3, .int (nI o9))] → (∀ (H : Heap) (locs : List Loc) (ls : Array Slot), va_P D vwCl (wM cy ad (mk9 (aF S) (aG S) (lpN (fCo (a15 S) (11 * c9) o9) n k u) (a2 S) (a3 S) (a4 S) (a5 S) (a6 S) (a7 S) (a8 S) (a9 S) (a10 S) (a11 S) (a12 S) (a13 S) (a14 S) (a15 S) (a16 S) (a17 S) (a18 S) (a19 S) (a20 S)) ++ X) H → va_D (va_A (wM cy ad S ++ X) sz) (wM cy ad (mk9 (aF S) (aG S) (lpN (fCo (a15 S) (11 * c9) o9) n k u) (a2 S) (a3 S) (a4 S) (a5 S) (a6 S) (a7 S) (a8 S) (a9 S) (a10 S) (a11 S) (a12 S) (a13 S) (a14 S) (a15 S) (a16 S) (a17 S) (a18 S) (a19 S) (a20 S)) ++ X) → va_S (va_A (wM cy ad S ++ X) sz) s.heap H locs → lv_has ls 5 [(4, .int (nI 11)), (0, .ref (ad 0)), (1, .int (nI c9)), (2, .ref (ad 15)), (3, .int (nI o9))] → W p l e (headSpec wsX9_copyIn (rm9 0 0)).room s m ([.ref (ad 0), .int (nI c9), .ref (ad 15), .int (nI o9)] : List Value).toArray below meth c H locs 0 0 (MQ below (gQv D cy (wM cy ad S ++ X) sz (fun ws' => ws' = wM cy ad (jIn15 S c9 o9) ++ X)) ([.ref (ad 0), .int (nI c9), .ref (ad 15), .int (nI o9)] : List Value).toArray s 0 0 (va_A (wM cy ad S ++ X) sz)) (F0 m 34 ls [])) → W p l e (headSpec wsX9_copyIn (rm9 0 0)).room s m ([.ref (ad 0), .int (nI c9), .ref (ad 15), .int (nI o9)] : List Value).toArray below meth c H locs 0 0 (MQ below (gQv D cy (wM cy ad S ++ X) sz (fun ws' => ws' = wM cy ad (jIn15 S c9 o9) ++ X)) ([.ref (ad 0), .int (nI c9), .ref (ad 15), .int (nI o9)] : List Value).toArray s 0 0 (va_A (wM cy ad S ++ X) sz)) (F0 m 3 ls []) := by
    intro n
    induction n with
    | zero =>
      intro k u H locs ls hk hP hD hS hl hex
      obtain rfl : 11 = k := by omega
      refine lv_iload hx hb dX9_copyIn_3 (lv_at hl 0 rfl) ?_
      refine lv_bipush (v := nI 11) hx hb dX9_copyIn_5 (by decide) ?_
      refine lv_icmp_ge (tgt := 34) hx hb dX9_copyIn_7 (by decide) (fun c1 => ?_) (fun c1 => ?_)
      · rw [nI_leI (by omega) (by omega)] at c1
        exact hex _ _ _ hP hD hS (lv_sub hl [0, 1, 2, 3, 4] rfl)
      · exact absurd c1 (by rw [nI_leI (by omega) (by omega)]; omega)
    | succ n ih =>
      intro k u H locs ls hk hP hD hS hl hex
      have hk3 : k < 11 := by omega
      refine lv_iload hx hb dX9_copyIn_3 (lv_at hl 0 rfl) ?_
      refine lv_bipush (v := nI 11) hx hb dX9_copyIn_5 (by decide) ?_
      refine lv_icmp_ge (tgt := 34) hx hb dX9_copyIn_7 (by decide) (fun c2 => ?_) (fun c2 => ?_)
      · exact absurd c2 (by rw [nI_leI (by omega) (by omega)]; omega)
      · rw [nI_leI (by omega) (by omega)] at c2
        refine lv_aload_n hx hb dX9_copyIn_10 rfl (lv_at hl 1 rfl) ?_
        refine rM_get (v := .ref (ad 1)) hx hb hts hin hown hK hP 0 (by decide) rfl (by decide +kernel) dX9_copyIn_11 ?_
        refine lv_bipush (v := nI 11) hx hb dX9_copyIn_14 (by decide) ?_
        refine lv_iload_n hx hb dX9_copyIn_16 rfl (lv_at hl 2 rfl) ?_
        refine lv_imul hx hb dX9_copyIn_17 ?_
        rw [pk_mul]
        refine lv_iload hx hb dX9_copyIn_18 (lv_at hl 0 rfl) ?_
        refine lv_iadd hx hb dX9_copyIn_20 ?_
        rw [nI_add]
        refine lv_aload_n hx hb dX9_copyIn_21 rfl (lv_at hl 3 rfl) ?_
        refine lv_iload_n hx hb dX9_copyIn_22 rfl (lv_at hl 4 rfl) ?_
        refine lv_iload hx hb dX9_copyIn_23 (lv_at hl 0 rfl) ?_
        refine lv_iadd hx hb dX9_copyIn_25 ?_
        rw [nI_add]
        refine rM_ld15 (i := (o9 + k)) hx hb hK hP (by omega) dX9_copyIn_26 ?_
        refine W.eq (g2 := F0 m 27 ls [.int (a15 S (o9 + k)), .int (nI ((11 * c9) + k)), .ref (ad 1)]) rfl ?_
        refine rM_st1 (i := ((11 * c9) + k)) hx hb hK hP hD hS (by omega) dX9_copyIn_27 (fun H locs hP hD hS => ?_)
        have hP : va_P D vwCl (wM cy ad (mk9 (aF S) (aG S) (upd u ((11 * c9) + k) (a15 S (o9 + k))) (a2 S) (a3 S) (a4 S) (a5 S) (a6 S) (a7 S) (a8 S) (a9 S) (a10 S) (a11 S) (a12 S) (a13 S) (a14 S) (a15 S) (a16 S) (a17 S) (a18 S) (a19 S) (a20 S)) ++ X) H := hP
        have hD : va_D (va_A (wM cy ad S ++ X) sz) (wM cy ad (mk9 (aF S) (aG S) (upd u ((11 * c9) + k) (a15 S (o9 + k))) (a2 S) (a3 S) (a4 S) (a5 S) (a6 S) (a7 S) (a8 S) (a9 S) (a10 S) (a11 S) (a12 S) (a13 S) (a14 S) (a15 S) (a16 S) (a17 S) (a18 S) (a19 S) (a20 S)) ++ X) := hD
        refine lv_iinc (v := nI (k + 1)) (lv' := [(4, .int (nI (k + 1))), (0, .ref (ad 0)), (1, .int (nI c9)), (2, .ref (ad 15)), (3, .int (nI o9))]) hx hb dX9_copyIn_28 hl (k := 0) rfl (nI_1 _) (by decide) rfl (fun ls hl => ?_)
        refine lv_goto (tgt := 3) hx hb dX9_copyIn_31 (by decide) ?_
        have he : (fCo (a15 S) (11 * c9) o9) k u = (upd u ((11 * c9) + k) (a15 S (o9 + k))) := rfl
        rw [lpN_s (f := fCo (a15 S) (11 * c9) o9), he] at hex
        exact ih ((k + 1)) (upd u ((11 * c9) + k) (a15 S (o9 + k))) _ _ _ (by omega) hP hD hS (lv_sub hl [0, 1, 2, 3, 4] rfl) hex
  refine L3 11 0 (a1 S) _ _ _ (by omega) hP hD hS (lv_sub hl [0, 1, 2, 3, 4] rfl) (fun H locs ls hP hD hS hl => ?_)
  refine lv_aload_n hx hb dX9_copyIn_34 rfl (lv_at hl 1 rfl) ?_
  refine lv_iconst (v := nI 0) hx hb dX9_copyIn_35 (by decide) ?_
  refine rM_put18 (v := nI 0) hx hb hts hin hown hK hP hD hS (by decide) (by decide) (by decide +kernel) dX9_copyIn_36 (fun H locs hP hD hS => ?_)
  have hP : va_P D vwCl (wM cy ad (mk9 (upd (aF S) 18 (nI 0)) (aG S) (lpN (fCo (a15 S) (11 * c9) o9) 11 0 (a1 S)) (a2 S) (a3 S) (a4 S) (a5 S) (a6 S) (a7 S) (a8 S) (a9 S) (a10 S) (a11 S) (a12 S) (a13 S) (a14 S) (a15 S) (a16 S) (a17 S) (a18 S) (a19 S) (a20 S)) ++ X) H := hP
  have hD : va_D (va_A (wM cy ad S ++ X) sz) (wM cy ad (mk9 (upd (aF S) 18 (nI 0)) (aG S) (lpN (fCo (a15 S) (11 * c9) o9) 11 0 (a1 S)) (a2 S) (a3 S) (a4 S) (a5 S) (a6 S) (a7 S) (a8 S) (a9 S) (a10 S) (a11 S) (a12 S) (a13 S) (a14 S) (a15 S) (a16 S) (a17 S) (a18 S) (a19 S) (a20 S)) ++ X) := hD
  exact W.vret hx hb hr (fun t ht hW => ⟨⟨_, rfl, rfl, by rw [ht]; exact hP, va_K.moved hW.alike hK, hD⟩, hS.F ht⟩) hS.2.2 dX9_copyIn_39
def jIn7 (S : MS) (c9 o9 : Nat) : MS := mk9 (upd (aF S) 18 (nI 0)) (aG S) (lpN (fCo (a7 S) (11 * c9) o9) 11 0 (a1 S)) (a2 S) (a3 S) (a4 S) (a5 S) (a6 S) (a7 S) (a8 S) (a9 S) (a10 S) (a11 S) (a12 S) (a13 S) (a14 S) (a15 S) (a16 S) (a17 S) (a18 S) (a19 S) (a20 S)
set_option maxHeartbeats 4000000 in
set_option maxRecDepth 100000 in
theorem cM_copyIn7 (l : Launch) (D : va_G) (cy : Nat → ClassId) (ad : Nat → Nat) (X : va_W) (S : MS) (sz : Nat) {c9 o9 : Nat} (hc : c9 < 15) (ha : o9 + 11 ≤ 220) : Met l yX9_copyIn wsX9_copyIn (rm9 0 0) (gPc D cy (wM cy ad S ++ X) sz [.ref (ad 0), .int (nI c9), .ref (ad 7), .int (nI o9)]) (gQv D cy (wM cy ad S ++ X) sz (fun ws' => ws' = wM cy ad (jIn7 S c9 o9) ++ X)) 0 0 (va_A (wM cy ad S ++ X) sz) := by
  refine gHead (cc := cX9_copyIn) (maxL := 5) (ret := none) (by decide) rfl (Nat.le_of_ble_eq_true rfl) ?_
  intro p e s m below meth c ls hx hb hr hlocks hml hown hts hsz hP hK hD hS hA hl
  have hin : ∀ w ∈ u_ws RX9 TX9 36, w ∈ wsX9_copyIn := by decide +kernel
  have hown : s.vm.findClass RX9 = some m.cls := hown
  have hl : lv_has ls 5 [(0, .ref (ad 0)), (1, .int (nI c9)), (2, .ref (ad 7)), (3, .int (nI o9))] := hl
  refine lv_iconst (v := nI 0) hx hb dX9_copyIn_0 (by decide) ?_
  refine lv_istore (lv' := [(4, .int (nI 0)), (0, .ref (ad 0)), (1, .int (nI c9)), (2, .ref (ad 7)), (3, .int (nI o9))]) hx hb dX9_copyIn_1 hl (by decide) rfl (fun ls hl => ?_)
  have L3 : ∀ (n k : Nat) (u : Nat → Int32) (H : Heap) (locs : List Loc) (ls : Array Slot), k + n = 11 → va_P D vwCl (wM cy ad (mk9 (aF S) (aG S) u (a2 S) (a3 S) (a4 S) (a5 S) (a6 S) (a7 S) (a8 S) (a9 S) (a10 S) (a11 S) (a12 S) (a13 S) (a14 S) (a15 S) (a16 S) (a17 S) (a18 S) (a19 S) (a20 S)) ++ X) H → va_D (va_A (wM cy ad S ++ X) sz) (wM cy ad (mk9 (aF S) (aG S) u (a2 S) (a3 S) (a4 S) (a5 S) (a6 S) (a7 S) (a8 S) (a9 S) (a10 S) (a11 S) (a12 S) (a13 S) (a14 S) (a15 S) (a16 S) (a17 S) (a18 S) (a19 S) (a20 S)) ++ X) → va_S (va_A (wM cy ad S ++ X) sz) s.heap H locs → lv_has ls 5 [(4, .int (nI k)), (0, .ref (ad 0)), (1, .int (nI c9)), (2, .ref (ad 7)), (3, .int (nI o9))] → (∀ (H : Heap) (locs : List Loc) (ls : Array Slot), va_P D vwCl (wM cy ad (mk9 (aF S) (aG S) (lpN (fCo (a7 S) (11 * c9) o9) n k u) (a2 S) (a3 S) (a4 S) (a5 S) (a6 S) (a7 S) (a8 S) (a9 S) (a10 S) (a11 S) (a12 S) (a13 S) (a14 S) (a15 S) (a16 S) (a17 S) (a18 S) (a19 S) (a20 S)) ++ X) H → va_D (va_A (wM cy ad S ++ X) sz) (wM cy ad (mk9 (aF S) (aG S) (lpN (fCo (a7 S) (11 * c9) o9) n k u) (a2 S) (a3 S) (a4 S) (a5 S) (a6 S) (a7 S) (a8 S) (a9 S) (a10 S) (a11 S) (a12 S) (a13 S) (a14 S) (a15 S) (a16 S) (a17 S) (a18 S) (a19 S) (a20 S)) ++ X) → va_S (va_A (wM cy ad S ++ X) sz) s.heap H locs → lv_has ls 5 [(4, .int (nI 11)), (0, .ref (ad 0)), (1, .int (nI c9)), (2, .ref (ad 7)), (3, .int (nI o9))] → W p l e (headSpec wsX9_copyIn (rm9 0 0)).room s m ([.ref (ad 0), .int (nI c9), .ref (ad 7), .int (nI o9)] : List Value).toArray below meth c H locs 0 0 (MQ below (gQv D cy (wM cy ad S ++ X) sz (fun ws' => ws' = wM cy ad (jIn7 S c9 o9) ++ X)) ([.ref (ad 0), .int (nI c9), .ref (ad 7), .int (nI o9)] : List Value).toArray s 0 0 (va_A (wM cy ad S ++ X) sz)) (F0 m 34 ls [])) → W p l e (headSpec wsX9_copyIn (rm9 0 0)).room s m ([.ref (ad 0), .int (nI c9), .ref (ad 7), .int (nI o9)] : List Value).toArray below meth c H locs 0 0 (MQ below (gQv D cy (wM cy ad S ++ X) sz (fun ws' => ws' = wM cy ad (jIn7 S c9 o9) ++ X)) ([.ref (ad 0), .int (nI c9), .ref (ad 7), .int (nI o9)] : List Value).toArray s 0 0 (va_A (wM cy ad S ++ X) sz)) (F0 m 3 ls []) := by
    intro n
    induction n with
    | zero =>
      intro k u H locs ls hk hP hD hS hl hex
      obtain rfl : 11 = k := by omega
      refine lv_iload hx hb dX9_copyIn_3 (lv_at hl 0 rfl) ?_
      refine lv_bipush (v := nI 11) hx hb dX9_copyIn_5 (by decide) ?_
      refine lv_icmp_ge (tgt := 34) hx hb dX9_copyIn_7 (by decide) (fun c1 => ?_) (fun c1 => ?_)
      · rw [nI_leI (by omega) (by omega)] at c1
        exact hex _ _ _ hP hD hS (lv_sub hl [0, 1, 2, 3, 4] rfl)
      · exact absurd c1 (by rw [nI_leI (by omega) (by omega)]; omega)
    | succ n ih =>
      intro k u H locs ls hk hP hD hS hl hex
      have hk3 : k < 11 := by omega
      refine lv_iload hx hb dX9_copyIn_3 (lv_at hl 0 rfl) ?_
      refine lv_bipush (v := nI 11) hx hb dX9_copyIn_5 (by decide) ?_
      refine lv_icmp_ge (tgt := 34) hx hb dX9_copyIn_7 (by decide) (fun c2 => ?_) (fun c2 => ?_)
      · exact absurd c2 (by rw [nI_leI (by omega) (by omega)]; omega)
      · rw [nI_leI (by omega) (by omega)] at c2
        refine lv_aload_n hx hb dX9_copyIn_10 rfl (lv_at hl 1 rfl) ?_
        refine rM_get (v := .ref (ad 1)) hx hb hts hin hown hK hP 0 (by decide) rfl (by decide +kernel) dX9_copyIn_11 ?_
        refine lv_bipush (v := nI 11) hx hb dX9_copyIn_14 (by decide) ?_
        refine lv_iload_n hx hb dX9_copyIn_16 rfl (lv_at hl 2 rfl) ?_
        refine lv_imul hx hb dX9_copyIn_17 ?_
        rw [pk_mul]
        refine lv_iload hx hb dX9_copyIn_18 (lv_at hl 0 rfl) ?_
        refine lv_iadd hx hb dX9_copyIn_20 ?_
        rw [nI_add]
        refine lv_aload_n hx hb dX9_copyIn_21 rfl (lv_at hl 3 rfl) ?_
        refine lv_iload_n hx hb dX9_copyIn_22 rfl (lv_at hl 4 rfl) ?_
        refine lv_iload hx hb dX9_copyIn_23 (lv_at hl 0 rfl) ?_
        refine lv_iadd hx hb dX9_copyIn_25 ?_
        rw [nI_add]
        refine rM_ld7 (i := (o9 + k)) hx hb hK hP (by omega) dX9_copyIn_26 ?_
        refine W.eq (g2 := F0 m 27 ls [.int (a7 S (o9 + k)), .int (nI ((11 * c9) + k)), .ref (ad 1)]) rfl ?_
        refine rM_st1 (i := ((11 * c9) + k)) hx hb hK hP hD hS (by omega) dX9_copyIn_27 (fun H locs hP hD hS => ?_)
        have hP : va_P D vwCl (wM cy ad (mk9 (aF S) (aG S) (upd u ((11 * c9) + k) (a7 S (o9 + k))) (a2 S) (a3 S) (a4 S) (a5 S) (a6 S) (a7 S) (a8 S) (a9 S) (a10 S) (a11 S) (a12 S) (a13 S) (a14 S) (a15 S) (a16 S) (a17 S) (a18 S) (a19 S) (a20 S)) ++ X) H := hP
        have hD : va_D (va_A (wM cy ad S ++ X) sz) (wM cy ad (mk9 (aF S) (aG S) (upd u ((11 * c9) + k) (a7 S (o9 + k))) (a2 S) (a3 S) (a4 S) (a5 S) (a6 S) (a7 S) (a8 S) (a9 S) (a10 S) (a11 S) (a12 S) (a13 S) (a14 S) (a15 S) (a16 S) (a17 S) (a18 S) (a19 S) (a20 S)) ++ X) := hD
        refine lv_iinc (v := nI (k + 1)) (lv' := [(4, .int (nI (k + 1))), (0, .ref (ad 0)), (1, .int (nI c9)), (2, .ref (ad 7)), (3, .int (nI o9))]) hx hb dX9_copyIn_28 hl (k := 0) rfl (nI_1 _) (by decide) rfl (fun ls hl => ?_)
        refine lv_goto (tgt := 3) hx hb dX9_copyIn_31 (by decide) ?_
        have he : (fCo (a7 S) (11 * c9) o9) k u = (upd u ((11 * c9) + k) (a7 S (o9 + k))) := rfl
        rw [lpN_s (f := fCo (a7 S) (11 * c9) o9), he] at hex
        exact ih ((k + 1)) (upd u ((11 * c9) + k) (a7 S (o9 + k))) _ _ _ (by omega) hP hD hS (lv_sub hl [0, 1, 2, 3, 4] rfl) hex
  refine L3 11 0 (a1 S) _ _ _ (by omega) hP hD hS (lv_sub hl [0, 1, 2, 3, 4] rfl) (fun H locs ls hP hD hS hl => ?_)
  refine lv_aload_n hx hb dX9_copyIn_34 rfl (lv_at hl 1 rfl) ?_
  refine lv_iconst (v := nI 0) hx hb dX9_copyIn_35 (by decide) ?_
  refine rM_put18 (v := nI 0) hx hb hts hin hown hK hP hD hS (by decide) (by decide) (by decide +kernel) dX9_copyIn_36 (fun H locs hP hD hS => ?_)
  have hP : va_P D vwCl (wM cy ad (mk9 (upd (aF S) 18 (nI 0)) (aG S) (lpN (fCo (a7 S) (11 * c9) o9) 11 0 (a1 S)) (a2 S) (a3 S) (a4 S) (a5 S) (a6 S) (a7 S) (a8 S) (a9 S) (a10 S) (a11 S) (a12 S) (a13 S) (a14 S) (a15 S) (a16 S) (a17 S) (a18 S) (a19 S) (a20 S)) ++ X) H := hP
  have hD : va_D (va_A (wM cy ad S ++ X) sz) (wM cy ad (mk9 (upd (aF S) 18 (nI 0)) (aG S) (lpN (fCo (a7 S) (11 * c9) o9) 11 0 (a1 S)) (a2 S) (a3 S) (a4 S) (a5 S) (a6 S) (a7 S) (a8 S) (a9 S) (a10 S) (a11 S) (a12 S) (a13 S) (a14 S) (a15 S) (a16 S) (a17 S) (a18 S) (a19 S) (a20 S)) ++ X) := hD
  exact W.vret hx hb hr (fun t ht hW => ⟨⟨_, rfl, rfl, by rw [ht]; exact hP, va_K.moved hW.alike hK, hD⟩, hS.F ht⟩) hS.2.2 dX9_copyIn_39
def jIn8 (S : MS) (c9 o9 : Nat) : MS := mk9 (upd (aF S) 18 (nI 0)) (aG S) (lpN (fCo (a8 S) (11 * c9) o9) 11 0 (a1 S)) (a2 S) (a3 S) (a4 S) (a5 S) (a6 S) (a7 S) (a8 S) (a9 S) (a10 S) (a11 S) (a12 S) (a13 S) (a14 S) (a15 S) (a16 S) (a17 S) (a18 S) (a19 S) (a20 S)
set_option maxHeartbeats 4000000 in
set_option maxRecDepth 100000 in
theorem cM_copyIn8 (l : Launch) (D : va_G) (cy : Nat → ClassId) (ad : Nat → Nat) (X : va_W) (S : MS) (sz : Nat) {c9 o9 : Nat} (hc : c9 < 15) (ha : o9 + 11 ≤ 220) : Met l yX9_copyIn wsX9_copyIn (rm9 0 0) (gPc D cy (wM cy ad S ++ X) sz [.ref (ad 0), .int (nI c9), .ref (ad 8), .int (nI o9)]) (gQv D cy (wM cy ad S ++ X) sz (fun ws' => ws' = wM cy ad (jIn8 S c9 o9) ++ X)) 0 0 (va_A (wM cy ad S ++ X) sz) := by
  refine gHead (cc := cX9_copyIn) (maxL := 5) (ret := none) (by decide) rfl (Nat.le_of_ble_eq_true rfl) ?_
  intro p e s m below meth c ls hx hb hr hlocks hml hown hts hsz hP hK hD hS hA hl
  have hin : ∀ w ∈ u_ws RX9 TX9 36, w ∈ wsX9_copyIn := by decide +kernel
  have hown : s.vm.findClass RX9 = some m.cls := hown
  have hl : lv_has ls 5 [(0, .ref (ad 0)), (1, .int (nI c9)), (2, .ref (ad 8)), (3, .int (nI o9))] := hl
  refine lv_iconst (v := nI 0) hx hb dX9_copyIn_0 (by decide) ?_
  refine lv_istore (lv' := [(4, .int (nI 0)), (0, .ref (ad 0)), (1, .int (nI c9)), (2, .ref (ad 8)), (3, .int (nI o9))]) hx hb dX9_copyIn_1 hl (by decide) rfl (fun ls hl => ?_)
  have L3 : ∀ (n k : Nat) (u : Nat → Int32) (H : Heap) (locs : List Loc) (ls : Array Slot), k + n = 11 → va_P D vwCl (wM cy ad (mk9 (aF S) (aG S) u (a2 S) (a3 S) (a4 S) (a5 S) (a6 S) (a7 S) (a8 S) (a9 S) (a10 S) (a11 S) (a12 S) (a13 S) (a14 S) (a15 S) (a16 S) (a17 S) (a18 S) (a19 S) (a20 S)) ++ X) H → va_D (va_A (wM cy ad S ++ X) sz) (wM cy ad (mk9 (aF S) (aG S) u (a2 S) (a3 S) (a4 S) (a5 S) (a6 S) (a7 S) (a8 S) (a9 S) (a10 S) (a11 S) (a12 S) (a13 S) (a14 S) (a15 S) (a16 S) (a17 S) (a18 S) (a19 S) (a20 S)) ++ X) → va_S (va_A (wM cy ad S ++ X) sz) s.heap H locs → lv_has ls 5 [(4, .int (nI k)), (0, .ref (ad 0)), (1, .int (nI c9)), (2, .ref (ad 8)), (3, .int (nI o9))] → (∀ (H : Heap) (locs : List Loc) (ls : Array Slot), va_P D vwCl (wM cy ad (mk9 (aF S) (aG S) (lpN (fCo (a8 S) (11 * c9) o9) n k u) (a2 S) (a3 S) (a4 S) (a5 S) (a6 S) (a7 S) (a8 S) (a9 S) (a10 S) (a11 S) (a12 S) (a13 S) (a14 S) (a15 S) (a16 S) (a17 S) (a18 S) (a19 S) (a20 S)) ++ X) H → va_D (va_A (wM cy ad S ++ X) sz) (wM cy ad (mk9 (aF S) (aG S) (lpN (fCo (a8 S) (11 * c9) o9) n k u) (a2 S) (a3 S) (a4 S) (a5 S) (a6 S) (a7 S) (a8 S) (a9 S) (a10 S) (a11 S) (a12 S) (a13 S) (a14 S) (a15 S) (a16 S) (a17 S) (a18 S) (a19 S) (a20 S)) ++ X) → va_S (va_A (wM cy ad S ++ X) sz) s.heap H locs → lv_has ls 5 [(4, .int (nI 11)), (0, .ref (ad 0)), (1, .int (nI c9)), (2, .ref (ad 8)), (3, .int (nI o9))] → W p l e (headSpec wsX9_copyIn (rm9 0 0)).room s m ([.ref (ad 0), .int (nI c9), .ref (ad 8), .int (nI o9)] : List Value).toArray below meth c H locs 0 0 (MQ below (gQv D cy (wM cy ad S ++ X) sz (fun ws' => ws' = wM cy ad (jIn8 S c9 o9) ++ X)) ([.ref (ad 0), .int (nI c9), .ref (ad 8), .int (nI o9)] : List Value).toArray s 0 0 (va_A (wM cy ad S ++ X) sz)) (F0 m 34 ls [])) → W p l e (headSpec wsX9_copyIn (rm9 0 0)).room s m ([.ref (ad 0), .int (nI c9), .ref (ad 8), .int (nI o9)] : List Value).toArray below meth c H locs 0 0 (MQ below (gQv D cy (wM cy ad S ++ X) sz (fun ws' => ws' = wM cy ad (jIn8 S c9 o9) ++ X)) ([.ref (ad 0), .int (nI c9), .ref (ad 8), .int (nI o9)] : List Value).toArray s 0 0 (va_A (wM cy ad S ++ X) sz)) (F0 m 3 ls []) := by
    intro n
    induction n with
    | zero =>
      intro k u H locs ls hk hP hD hS hl hex
      obtain rfl : 11 = k := by omega
      refine lv_iload hx hb dX9_copyIn_3 (lv_at hl 0 rfl) ?_
      refine lv_bipush (v := nI 11) hx hb dX9_copyIn_5 (by decide) ?_
      refine lv_icmp_ge (tgt := 34) hx hb dX9_copyIn_7 (by decide) (fun c1 => ?_) (fun c1 => ?_)
      · rw [nI_leI (by omega) (by omega)] at c1
        exact hex _ _ _ hP hD hS (lv_sub hl [0, 1, 2, 3, 4] rfl)
      · exact absurd c1 (by rw [nI_leI (by omega) (by omega)]; omega)
    | succ n ih =>
      intro k u H locs ls hk hP hD hS hl hex
      have hk3 : k < 11 := by omega
      refine lv_iload hx hb dX9_copyIn_3 (lv_at hl 0 rfl) ?_
      refine lv_bipush (v := nI 11) hx hb dX9_copyIn_5 (by decide) ?_
      refine lv_icmp_ge (tgt := 34) hx hb dX9_copyIn_7 (by decide) (fun c2 => ?_) (fun c2 => ?_)
      · exact absurd c2 (by rw [nI_leI (by omega) (by omega)]; omega)
      · rw [nI_leI (by omega) (by omega)] at c2
        refine lv_aload_n hx hb dX9_copyIn_10 rfl (lv_at hl 1 rfl) ?_
        refine rM_get (v := .ref (ad 1)) hx hb hts hin hown hK hP 0 (by decide) rfl (by decide +kernel) dX9_copyIn_11 ?_
        refine lv_bipush (v := nI 11) hx hb dX9_copyIn_14 (by decide) ?_
        refine lv_iload_n hx hb dX9_copyIn_16 rfl (lv_at hl 2 rfl) ?_
        refine lv_imul hx hb dX9_copyIn_17 ?_
        rw [pk_mul]
        refine lv_iload hx hb dX9_copyIn_18 (lv_at hl 0 rfl) ?_
        refine lv_iadd hx hb dX9_copyIn_20 ?_
        rw [nI_add]
        refine lv_aload_n hx hb dX9_copyIn_21 rfl (lv_at hl 3 rfl) ?_
        refine lv_iload_n hx hb dX9_copyIn_22 rfl (lv_at hl 4 rfl) ?_
        refine lv_iload hx hb dX9_copyIn_23 (lv_at hl 0 rfl) ?_
        refine lv_iadd hx hb dX9_copyIn_25 ?_
        rw [nI_add]
        refine rM_ld8 (i := (o9 + k)) hx hb hK hP (by omega) dX9_copyIn_26 ?_
        refine W.eq (g2 := F0 m 27 ls [.int (a8 S (o9 + k)), .int (nI ((11 * c9) + k)), .ref (ad 1)]) rfl ?_
        refine rM_st1 (i := ((11 * c9) + k)) hx hb hK hP hD hS (by omega) dX9_copyIn_27 (fun H locs hP hD hS => ?_)
        have hP : va_P D vwCl (wM cy ad (mk9 (aF S) (aG S) (upd u ((11 * c9) + k) (a8 S (o9 + k))) (a2 S) (a3 S) (a4 S) (a5 S) (a6 S) (a7 S) (a8 S) (a9 S) (a10 S) (a11 S) (a12 S) (a13 S) (a14 S) (a15 S) (a16 S) (a17 S) (a18 S) (a19 S) (a20 S)) ++ X) H := hP
        have hD : va_D (va_A (wM cy ad S ++ X) sz) (wM cy ad (mk9 (aF S) (aG S) (upd u ((11 * c9) + k) (a8 S (o9 + k))) (a2 S) (a3 S) (a4 S) (a5 S) (a6 S) (a7 S) (a8 S) (a9 S) (a10 S) (a11 S) (a12 S) (a13 S) (a14 S) (a15 S) (a16 S) (a17 S) (a18 S) (a19 S) (a20 S)) ++ X) := hD
        refine lv_iinc (v := nI (k + 1)) (lv' := [(4, .int (nI (k + 1))), (0, .ref (ad 0)), (1, .int (nI c9)), (2, .ref (ad 8)), (3, .int (nI o9))]) hx hb dX9_copyIn_28 hl (k := 0) rfl (nI_1 _) (by decide) rfl (fun ls hl => ?_)
        refine lv_goto (tgt := 3) hx hb dX9_copyIn_31 (by decide) ?_
        have he : (fCo (a8 S) (11 * c9) o9) k u = (upd u ((11 * c9) + k) (a8 S (o9 + k))) := rfl
        rw [lpN_s (f := fCo (a8 S) (11 * c9) o9), he] at hex
        exact ih ((k + 1)) (upd u ((11 * c9) + k) (a8 S (o9 + k))) _ _ _ (by omega) hP hD hS (lv_sub hl [0, 1, 2, 3, 4] rfl) hex
  refine L3 11 0 (a1 S) _ _ _ (by omega) hP hD hS (lv_sub hl [0, 1, 2, 3, 4] rfl) (fun H locs ls hP hD hS hl => ?_)
  refine lv_aload_n hx hb dX9_copyIn_34 rfl (lv_at hl 1 rfl) ?_
  refine lv_iconst (v := nI 0) hx hb dX9_copyIn_35 (by decide) ?_
  refine rM_put18 (v := nI 0) hx hb hts hin hown hK hP hD hS (by decide) (by decide) (by decide +kernel) dX9_copyIn_36 (fun H locs hP hD hS => ?_)
  have hP : va_P D vwCl (wM cy ad (mk9 (upd (aF S) 18 (nI 0)) (aG S) (lpN (fCo (a8 S) (11 * c9) o9) 11 0 (a1 S)) (a2 S) (a3 S) (a4 S) (a5 S) (a6 S) (a7 S) (a8 S) (a9 S) (a10 S) (a11 S) (a12 S) (a13 S) (a14 S) (a15 S) (a16 S) (a17 S) (a18 S) (a19 S) (a20 S)) ++ X) H := hP
  have hD : va_D (va_A (wM cy ad S ++ X) sz) (wM cy ad (mk9 (upd (aF S) 18 (nI 0)) (aG S) (lpN (fCo (a8 S) (11 * c9) o9) 11 0 (a1 S)) (a2 S) (a3 S) (a4 S) (a5 S) (a6 S) (a7 S) (a8 S) (a9 S) (a10 S) (a11 S) (a12 S) (a13 S) (a14 S) (a15 S) (a16 S) (a17 S) (a18 S) (a19 S) (a20 S)) ++ X) := hD
  exact W.vret hx hb hr (fun t ht hW => ⟨⟨_, rfl, rfl, by rw [ht]; exact hP, va_K.moved hW.alike hK, hD⟩, hS.F ht⟩) hS.2.2 dX9_copyIn_39
set_option maxHeartbeats 4000000 in
set_option maxRecDepth 100000 in
theorem cM_keep (l : Launch) (D : va_G) (cy : Nat → ClassId) (ad : Nat → Nat) (X : va_W) (S : MS) (sz : Nat) {c9 : Nat} (hc : c9 < 15) : Met l yX9_keep wsX9_keep (rm9 1 24) (gPc D cy (wM cy ad S ++ X) sz [.ref (ad 0), .int (nI c9)]) (gQv D cy (wM cy ad S ++ X) sz (fun ws' => ws' = wM cy ad (jOut15 S c9 0) ++ X)) 0 0 (va_A (wM cy ad S ++ X) sz) := by
  refine gHead (cc := cX9_keep) (maxL := 2) (ret := none) (by decide) rfl (Nat.le_of_ble_eq_true rfl) ?_
  intro p e s m below meth c ls hx hb hr hlocks hml hown hts hsz hP hK hD hS hA hl
  have hin : ∀ w ∈ u_ws RX9 TX9 36, w ∈ wsX9_keep := by decide +kernel
  have hown : s.vm.findClass RX9 = some m.cls := hown
  have hl : lv_has ls 2 [(0, .ref (ad 0)), (1, .int (nI c9))] := hl
  refine lv_aload_n hx hb dX9_keep_0 rfl (lv_at hl 0 rfl) ?_
  refine lv_iload_n hx hb dX9_keep_1 rfl (lv_at hl 1 rfl) ?_
  refine lv_aload_n hx hb dX9_keep_2 rfl (lv_at hl 0 rfl) ?_
  refine rM_get (v := .ref (ad 15)) hx hb hts hin hown hK hP 23 (by decide) rfl (by decide +kernel) dX9_keep_3 ?_
  refine lv_iconst (v := nI 0) hx hb dX9_keep_6 (by decide) ?_
  refine gCallv (ws := wM cy ad S ++ X) (As := [.int (nI c9), .ref (ad 15), .int (nI 0)]) (rest := []) (q0 := 0) (r0 := (RX9, TX9, 36)) hx hb hml hown hts hK hP hD hS hA hl.1 wM_0 rfl (cM_copyOut15 l D cy ad X S _ (c9 := c9) (o9 := 0) hc (by omega)) (cwV 3 hts gX9_keep_X9_copyOut rfl rfl rfl (by decide +kernel) ⟨Nat.le_of_ble_eq_true rfl, Nat.le_of_ble_eq_true rfl⟩) rfl rfl (Nat.le_of_ble_eq_true rfl) ⟨Nat.le_of_ble_eq_true rfl, Nat.le_of_ble_eq_true rfl⟩ dX9_keep_7 (fun ws1 H locs e1 hP hD hS => ?_)
  rw [show ws1 = _ from e1] at hP hD
  have hP : va_P D vwCl (wM cy ad (jOut15 S c9 0) ++ X) H := hP
  have hD : va_D (va_A (wM cy ad S ++ X) sz) (wM cy ad (jOut15 S c9 0) ++ X) := hD
  exact W.vret hx hb hr (fun t ht hW => ⟨⟨_, rfl, rfl, by rw [ht]; exact hP, va_K.moved hW.alike hK, hD⟩, hS.F ht⟩) hS.2.2 dX9_keep_10
def jPut4 (S : MS) (c9 : Nat) (rel con str wei : Int32) : MS := mk9 (aF S) (aG S) (upd (upd (upd (upd (upd (lpN (fCo (a4 S) (11 * c9) 0) 6 0 (a1 S)) (11 * c9 + 6) rel) (11 * c9 + 7) con) (11 * c9 + 8) str) (11 * c9 + 9) wei) (11 * c9 + 10) (nI 1)) (a2 S) (a3 S) (a4 S) (a5 S) (a6 S) (a7 S) (a8 S) (a9 S) (a10 S) (a11 S) (a12 S) (a13 S) (a14 S) (a15 S) (a16 S) (a17 S) (a18 S) (a19 S) (a20 S)
set_option maxHeartbeats 4000000 in
set_option maxRecDepth 100000 in
theorem cM_put4 (l : Launch) (D : va_G) (cy : Nat → ClassId) (ad : Nat → Nat) (X : va_W) (S : MS) (sz : Nat) {c9 : Nat} (hc : c9 < 15) (rel con str wei : Int32) : Met l yX9_put wsX9_put (rm9 0 0) (gPc D cy (wM cy ad S ++ X) sz [.ref (ad 0), .int (nI c9), .ref (ad 4), .int rel, .int con, .int str, .int wei]) (gQv D cy (wM cy ad S ++ X) sz (fun ws' => ws' = wM cy ad (jPut4 S c9 rel con str wei) ++ X)) 0 0 (va_A (wM cy ad S ++ X) sz) := by
  refine gHead (cc := cX9_put) (maxL := 8) (ret := none) (by decide) rfl (Nat.le_of_ble_eq_true rfl) ?_
  intro p e s m below meth c ls hx hb hr hlocks hml hown hts hsz hP hK hD hS hA hl
  have hin : ∀ w ∈ u_ws RX9 TX9 36, w ∈ wsX9_put := by decide +kernel
  have hown : s.vm.findClass RX9 = some m.cls := hown
  have hl : lv_has ls 8 [(0, .ref (ad 0)), (1, .int (nI c9)), (2, .ref (ad 4)), (3, .int rel), (4, .int con), (5, .int str), (6, .int wei)] := hl
  refine lv_iconst (v := nI 0) hx hb dX9_put_0 (by decide) ?_
  refine lv_istore (lv' := [(7, .int (nI 0)), (0, .ref (ad 0)), (1, .int (nI c9)), (2, .ref (ad 4)), (3, .int rel), (4, .int con), (5, .int str), (6, .int wei)]) hx hb dX9_put_1 hl (by decide) rfl (fun ls hl => ?_)
  have L3 : ∀ (n k : Nat) (u : Nat → Int32) (H : Heap) (locs : List Loc) (ls : Array Slot), k + n = 6 → va_P D vwCl (wM cy ad (mk9 (aF S) (aG S) u (a2 S) (a3 S) (a4 S) (a5 S) (a6 S) (a7 S) (a8 S) (a9 S) (a10 S) (a11 S) (a12 S) (a13 S) (a14 S) (a15 S) (a16 S) (a17 S) (a18 S) (a19 S) (a20 S)) ++ X) H → va_D (va_A (wM cy ad S ++ X) sz) (wM cy ad (mk9 (aF S) (aG S) u (a2 S) (a3 S) (a4 S) (a5 S) (a6 S) (a7 S) (a8 S) (a9 S) (a10 S) (a11 S) (a12 S) (a13 S) (a14 S) (a15 S) (a16 S) (a17 S) (a18 S) (a19 S) (a20 S)) ++ X) → va_S (va_A (wM cy ad S ++ X) sz) s.heap H locs → lv_has ls 8 [(7, .int (nI k)), (0, .ref (ad 0)), (1, .int (nI c9)), (2, .ref (ad 4)), (3, .int rel), (4, .int con), (5, .int str), (6, .int wei)] → (∀ (H : Heap) (locs : List Loc) (ls : Array Slot), va_P D vwCl (wM cy ad (mk9 (aF S) (aG S) (lpN (fCo (a4 S) (11 * c9) 0) n k u) (a2 S) (a3 S) (a4 S) (a5 S) (a6 S) (a7 S) (a8 S) (a9 S) (a10 S) (a11 S) (a12 S) (a13 S) (a14 S) (a15 S) (a16 S) (a17 S) (a18 S) (a19 S) (a20 S)) ++ X) H → va_D (va_A (wM cy ad S ++ X) sz) (wM cy ad (mk9 (aF S) (aG S) (lpN (fCo (a4 S) (11 * c9) 0) n k u) (a2 S) (a3 S) (a4 S) (a5 S) (a6 S) (a7 S) (a8 S) (a9 S) (a10 S) (a11 S) (a12 S) (a13 S) (a14 S) (a15 S) (a16 S) (a17 S) (a18 S) (a19 S) (a20 S)) ++ X) → va_S (va_A (wM cy ad S ++ X) sz) s.heap H locs → lv_has ls 8 [(7, .int (nI 6)), (0, .ref (ad 0)), (1, .int (nI c9)), (2, .ref (ad 4)), (3, .int rel), (4, .int con), (5, .int str), (6, .int wei)] → W p l e (headSpec wsX9_put (rm9 0 0)).room s m ([.ref (ad 0), .int (nI c9), .ref (ad 4), .int rel, .int con, .int str, .int wei] : List Value).toArray below meth c H locs 0 0 (MQ below (gQv D cy (wM cy ad S ++ X) sz (fun ws' => ws' = wM cy ad (jPut4 S c9 rel con str wei) ++ X)) ([.ref (ad 0), .int (nI c9), .ref (ad 4), .int rel, .int con, .int str, .int wei] : List Value).toArray s 0 0 (va_A (wM cy ad S ++ X) sz)) (F0 m 32 ls [])) → W p l e (headSpec wsX9_put (rm9 0 0)).room s m ([.ref (ad 0), .int (nI c9), .ref (ad 4), .int rel, .int con, .int str, .int wei] : List Value).toArray below meth c H locs 0 0 (MQ below (gQv D cy (wM cy ad S ++ X) sz (fun ws' => ws' = wM cy ad (jPut4 S c9 rel con str wei) ++ X)) ([.ref (ad 0), .int (nI c9), .ref (ad 4), .int rel, .int con, .int str, .int wei] : List Value).toArray s 0 0 (va_A (wM cy ad S ++ X) sz)) (F0 m 3 ls []) := by
    intro n
    induction n with
    | zero =>
      intro k u H locs ls hk hP hD hS hl hex
      obtain rfl : 6 = k := by omega
      refine lv_iload hx hb dX9_put_3 (lv_at hl 0 rfl) ?_
      refine lv_bipush (v := nI 6) hx hb dX9_put_5 (by decide) ?_
      refine lv_icmp_ge (tgt := 32) hx hb dX9_put_7 (by decide) (fun c1 => ?_) (fun c1 => ?_)
      · rw [nI_leI (by omega) (by omega)] at c1
        exact hex _ _ _ hP hD hS (lv_sub hl [0, 1, 2, 3, 4, 5, 6, 7] rfl)
      · exact absurd c1 (by rw [nI_leI (by omega) (by omega)]; omega)
    | succ n ih =>
      intro k u H locs ls hk hP hD hS hl hex
      have hk3 : k < 6 := by omega
      refine lv_iload hx hb dX9_put_3 (lv_at hl 0 rfl) ?_
      refine lv_bipush (v := nI 6) hx hb dX9_put_5 (by decide) ?_
      refine lv_icmp_ge (tgt := 32) hx hb dX9_put_7 (by decide) (fun c2 => ?_) (fun c2 => ?_)
      · exact absurd c2 (by rw [nI_leI (by omega) (by omega)]; omega)
      · rw [nI_leI (by omega) (by omega)] at c2
        refine lv_aload_n hx hb dX9_put_10 rfl (lv_at hl 1 rfl) ?_
        refine rM_get (v := .ref (ad 1)) hx hb hts hin hown hK hP 0 (by decide) rfl (by decide +kernel) dX9_put_11 ?_
        refine lv_bipush (v := nI 11) hx hb dX9_put_14 (by decide) ?_
        refine lv_iload_n hx hb dX9_put_16 rfl (lv_at hl 2 rfl) ?_
        refine lv_imul hx hb dX9_put_17 ?_
        rw [pk_mul]
        refine lv_iload hx hb dX9_put_18 (lv_at hl 0 rfl) ?_
        refine lv_iadd hx hb dX9_put_20 ?_
        rw [nI_add]
        refine lv_aload_n hx hb dX9_put_21 rfl (lv_at hl 3 rfl) ?_
        refine lv_iload hx hb dX9_put_22 (lv_at hl 0 rfl) ?_
        refine rM_ld4 (i := k) hx hb hK hP (by omega) dX9_put_24 ?_
        refine W.eq (g2 := F0 m 25 ls [.int (a4 S k), .int (nI ((11 * c9) + k)), .ref (ad 1)]) rfl ?_
        refine rM_st1 (i := ((11 * c9) + k)) hx hb hK hP hD hS (by omega) dX9_put_25 (fun H locs hP hD hS => ?_)
        have hP : va_P D vwCl (wM cy ad (mk9 (aF S) (aG S) (upd u ((11 * c9) + k) (a4 S k)) (a2 S) (a3 S) (a4 S) (a5 S) (a6 S) (a7 S) (a8 S) (a9 S) (a10 S) (a11 S) (a12 S) (a13 S) (a14 S) (a15 S) (a16 S) (a17 S) (a18 S) (a19 S) (a20 S)) ++ X) H := hP
        have hD : va_D (va_A (wM cy ad S ++ X) sz) (wM cy ad (mk9 (aF S) (aG S) (upd u ((11 * c9) + k) (a4 S k)) (a2 S) (a3 S) (a4 S) (a5 S) (a6 S) (a7 S) (a8 S) (a9 S) (a10 S) (a11 S) (a12 S) (a13 S) (a14 S) (a15 S) (a16 S) (a17 S) (a18 S) (a19 S) (a20 S)) ++ X) := hD
        refine lv_iinc (v := nI (k + 1)) (lv' := [(7, .int (nI (k + 1))), (0, .ref (ad 0)), (1, .int (nI c9)), (2, .ref (ad 4)), (3, .int rel), (4, .int con), (5, .int str), (6, .int wei)]) hx hb dX9_put_26 hl (k := 0) rfl (nI_1 _) (by decide) rfl (fun ls hl => ?_)
        refine lv_goto (tgt := 3) hx hb dX9_put_29 (by decide) ?_
        have he : (fCo (a4 S) (11 * c9) 0) k u = (upd u ((11 * c9) + k) (a4 S k)) := by simp [fCo]
        rw [lpN_s (f := fCo (a4 S) (11 * c9) 0), he] at hex
        exact ih ((k + 1)) (upd u ((11 * c9) + k) (a4 S k)) _ _ _ (by omega) hP hD hS (lv_sub hl [0, 1, 2, 3, 4, 5, 6, 7] rfl) hex
  refine L3 6 0 (a1 S) _ _ _ (by omega) hP hD hS (lv_sub hl [0, 1, 2, 3, 4, 5, 6, 7] rfl) (fun H locs ls hP hD hS hl => ?_)
  refine lv_aload_n hx hb dX9_put_32 rfl (lv_at hl 1 rfl) ?_
  refine rM_get (v := .ref (ad 1)) hx hb hts hin hown hK hP 0 (by decide) rfl (by decide +kernel) dX9_put_33 ?_
  refine lv_bipush (v := nI 11) hx hb dX9_put_36 (by decide) ?_
  refine lv_iload_n hx hb dX9_put_38 rfl (lv_at hl 2 rfl) ?_
  refine lv_imul hx hb dX9_put_39 ?_
  rw [pk_mul]
  refine lv_bipush (v := nI 6) hx hb dX9_put_40 (by decide) ?_
  refine lv_iadd hx hb dX9_put_42 ?_
  rw [nI_add]
  refine lv_iload_n hx hb dX9_put_43 rfl (lv_at hl 4 rfl) ?_
  refine rM_st1 (i := ((11 * c9) + 6)) hx hb hK hP hD hS (by omega) dX9_put_44 (fun H locs hP hD hS => ?_)
  have hP : va_P D vwCl (wM cy ad (mk9 (aF S) (aG S) (upd (lpN (fCo (a4 S) (11 * c9) 0) 6 0 (a1 S)) ((11 * c9) + 6) rel) (a2 S) (a3 S) (a4 S) (a5 S) (a6 S) (a7 S) (a8 S) (a9 S) (a10 S) (a11 S) (a12 S) (a13 S) (a14 S) (a15 S) (a16 S) (a17 S) (a18 S) (a19 S) (a20 S)) ++ X) H := hP
  have hD : va_D (va_A (wM cy ad S ++ X) sz) (wM cy ad (mk9 (aF S) (aG S) (upd (lpN (fCo (a4 S) (11 * c9) 0) 6 0 (a1 S)) ((11 * c9) + 6) rel) (a2 S) (a3 S) (a4 S) (a5 S) (a6 S) (a7 S) (a8 S) (a9 S) (a10 S) (a11 S) (a12 S) (a13 S) (a14 S) (a15 S) (a16 S) (a17 S) (a18 S) (a19 S) (a20 S)) ++ X) := hD
  refine lv_aload_n hx hb dX9_put_45 rfl (lv_at hl 1 rfl) ?_
  refine rM_get (v := .ref (ad 1)) hx hb hts hin hown hK hP 0 (by decide) rfl (by decide +kernel) dX9_put_46 ?_
  refine lv_bipush (v := nI 11) hx hb dX9_put_49 (by decide) ?_
  refine lv_iload_n hx hb dX9_put_51 rfl (lv_at hl 2 rfl) ?_
  refine lv_imul hx hb dX9_put_52 ?_
  rw [pk_mul]
  refine lv_bipush (v := nI 7) hx hb dX9_put_53 (by decide) ?_
  refine lv_iadd hx hb dX9_put_55 ?_
  rw [nI_add]
  refine lv_iload hx hb dX9_put_56 (lv_at hl 5 rfl) ?_
  refine rM_st1 (i := ((11 * c9) + 7)) hx hb hK hP hD hS (by omega) dX9_put_58 (fun H locs hP hD hS => ?_)
  have hP : va_P D vwCl (wM cy ad (mk9 (aF S) (aG S) (upd (upd (lpN (fCo (a4 S) (11 * c9) 0) 6 0 (a1 S)) ((11 * c9) + 6) rel) ((11 * c9) + 7) con) (a2 S) (a3 S) (a4 S) (a5 S) (a6 S) (a7 S) (a8 S) (a9 S) (a10 S) (a11 S) (a12 S) (a13 S) (a14 S) (a15 S) (a16 S) (a17 S) (a18 S) (a19 S) (a20 S)) ++ X) H := hP
  have hD : va_D (va_A (wM cy ad S ++ X) sz) (wM cy ad (mk9 (aF S) (aG S) (upd (upd (lpN (fCo (a4 S) (11 * c9) 0) 6 0 (a1 S)) ((11 * c9) + 6) rel) ((11 * c9) + 7) con) (a2 S) (a3 S) (a4 S) (a5 S) (a6 S) (a7 S) (a8 S) (a9 S) (a10 S) (a11 S) (a12 S) (a13 S) (a14 S) (a15 S) (a16 S) (a17 S) (a18 S) (a19 S) (a20 S)) ++ X) := hD
  refine lv_aload_n hx hb dX9_put_59 rfl (lv_at hl 1 rfl) ?_
  refine rM_get (v := .ref (ad 1)) hx hb hts hin hown hK hP 0 (by decide) rfl (by decide +kernel) dX9_put_60 ?_
  refine lv_bipush (v := nI 11) hx hb dX9_put_63 (by decide) ?_
  refine lv_iload_n hx hb dX9_put_65 rfl (lv_at hl 2 rfl) ?_
  refine lv_imul hx hb dX9_put_66 ?_
  rw [pk_mul]
  refine lv_bipush (v := nI 8) hx hb dX9_put_67 (by decide) ?_
  refine lv_iadd hx hb dX9_put_69 ?_
  rw [nI_add]
  refine lv_iload hx hb dX9_put_70 (lv_at hl 6 rfl) ?_
  refine rM_st1 (i := ((11 * c9) + 8)) hx hb hK hP hD hS (by omega) dX9_put_72 (fun H locs hP hD hS => ?_)
  have hP : va_P D vwCl (wM cy ad (mk9 (aF S) (aG S) (upd (upd (upd (lpN (fCo (a4 S) (11 * c9) 0) 6 0 (a1 S)) ((11 * c9) + 6) rel) ((11 * c9) + 7) con) ((11 * c9) + 8) str) (a2 S) (a3 S) (a4 S) (a5 S) (a6 S) (a7 S) (a8 S) (a9 S) (a10 S) (a11 S) (a12 S) (a13 S) (a14 S) (a15 S) (a16 S) (a17 S) (a18 S) (a19 S) (a20 S)) ++ X) H := hP
  have hD : va_D (va_A (wM cy ad S ++ X) sz) (wM cy ad (mk9 (aF S) (aG S) (upd (upd (upd (lpN (fCo (a4 S) (11 * c9) 0) 6 0 (a1 S)) ((11 * c9) + 6) rel) ((11 * c9) + 7) con) ((11 * c9) + 8) str) (a2 S) (a3 S) (a4 S) (a5 S) (a6 S) (a7 S) (a8 S) (a9 S) (a10 S) (a11 S) (a12 S) (a13 S) (a14 S) (a15 S) (a16 S) (a17 S) (a18 S) (a19 S) (a20 S)) ++ X) := hD
  refine lv_aload_n hx hb dX9_put_73 rfl (lv_at hl 1 rfl) ?_
  refine rM_get (v := .ref (ad 1)) hx hb hts hin hown hK hP 0 (by decide) rfl (by decide +kernel) dX9_put_74 ?_
  refine lv_bipush (v := nI 11) hx hb dX9_put_77 (by decide) ?_
  refine lv_iload_n hx hb dX9_put_79 rfl (lv_at hl 2 rfl) ?_
  refine lv_imul hx hb dX9_put_80 ?_
  rw [pk_mul]
  refine lv_bipush (v := nI 9) hx hb dX9_put_81 (by decide) ?_
  refine lv_iadd hx hb dX9_put_83 ?_
  rw [nI_add]
  refine lv_iload hx hb dX9_put_84 (lv_at hl 7 rfl) ?_
  refine rM_st1 (i := ((11 * c9) + 9)) hx hb hK hP hD hS (by omega) dX9_put_86 (fun H locs hP hD hS => ?_)
  have hP : va_P D vwCl (wM cy ad (mk9 (aF S) (aG S) (upd (upd (upd (upd (lpN (fCo (a4 S) (11 * c9) 0) 6 0 (a1 S)) ((11 * c9) + 6) rel) ((11 * c9) + 7) con) ((11 * c9) + 8) str) ((11 * c9) + 9) wei) (a2 S) (a3 S) (a4 S) (a5 S) (a6 S) (a7 S) (a8 S) (a9 S) (a10 S) (a11 S) (a12 S) (a13 S) (a14 S) (a15 S) (a16 S) (a17 S) (a18 S) (a19 S) (a20 S)) ++ X) H := hP
  have hD : va_D (va_A (wM cy ad S ++ X) sz) (wM cy ad (mk9 (aF S) (aG S) (upd (upd (upd (upd (lpN (fCo (a4 S) (11 * c9) 0) 6 0 (a1 S)) ((11 * c9) + 6) rel) ((11 * c9) + 7) con) ((11 * c9) + 8) str) ((11 * c9) + 9) wei) (a2 S) (a3 S) (a4 S) (a5 S) (a6 S) (a7 S) (a8 S) (a9 S) (a10 S) (a11 S) (a12 S) (a13 S) (a14 S) (a15 S) (a16 S) (a17 S) (a18 S) (a19 S) (a20 S)) ++ X) := hD
  refine lv_aload_n hx hb dX9_put_87 rfl (lv_at hl 1 rfl) ?_
  refine rM_get (v := .ref (ad 1)) hx hb hts hin hown hK hP 0 (by decide) rfl (by decide +kernel) dX9_put_88 ?_
  refine lv_bipush (v := nI 11) hx hb dX9_put_91 (by decide) ?_
  refine lv_iload_n hx hb dX9_put_93 rfl (lv_at hl 2 rfl) ?_
  refine lv_imul hx hb dX9_put_94 ?_
  rw [pk_mul]
  refine lv_bipush (v := nI 10) hx hb dX9_put_95 (by decide) ?_
  refine lv_iadd hx hb dX9_put_97 ?_
  rw [nI_add]
  refine lv_iconst (v := nI 1) hx hb dX9_put_98 (by decide) ?_
  refine rM_st1 (i := ((11 * c9) + 10)) hx hb hK hP hD hS (by omega) dX9_put_99 (fun H locs hP hD hS => ?_)
  have hP : va_P D vwCl (wM cy ad (mk9 (aF S) (aG S) (upd (upd (upd (upd (upd (lpN (fCo (a4 S) (11 * c9) 0) 6 0 (a1 S)) ((11 * c9) + 6) rel) ((11 * c9) + 7) con) ((11 * c9) + 8) str) ((11 * c9) + 9) wei) ((11 * c9) + 10) (nI 1)) (a2 S) (a3 S) (a4 S) (a5 S) (a6 S) (a7 S) (a8 S) (a9 S) (a10 S) (a11 S) (a12 S) (a13 S) (a14 S) (a15 S) (a16 S) (a17 S) (a18 S) (a19 S) (a20 S)) ++ X) H := hP
  have hD : va_D (va_A (wM cy ad S ++ X) sz) (wM cy ad (mk9 (aF S) (aG S) (upd (upd (upd (upd (upd (lpN (fCo (a4 S) (11 * c9) 0) 6 0 (a1 S)) ((11 * c9) + 6) rel) ((11 * c9) + 7) con) ((11 * c9) + 8) str) ((11 * c9) + 9) wei) ((11 * c9) + 10) (nI 1)) (a2 S) (a3 S) (a4 S) (a5 S) (a6 S) (a7 S) (a8 S) (a9 S) (a10 S) (a11 S) (a12 S) (a13 S) (a14 S) (a15 S) (a16 S) (a17 S) (a18 S) (a19 S) (a20 S)) ++ X) := hD
  exact W.vret hx hb hr (fun t ht hW => ⟨⟨_, rfl, rfl, by rw [ht]; exact hP, va_K.moved hW.alike hK, hD⟩, hS.F ht⟩) hS.2.2 dX9_put_100
def jPut16 (S : MS) (c9 : Nat) (rel con str wei : Int32) : MS := mk9 (aF S) (aG S) (upd (upd (upd (upd (upd (lpN (fCo (a16 S) (11 * c9) 0) 6 0 (a1 S)) (11 * c9 + 6) rel) (11 * c9 + 7) con) (11 * c9 + 8) str) (11 * c9 + 9) wei) (11 * c9 + 10) (nI 1)) (a2 S) (a3 S) (a4 S) (a5 S) (a6 S) (a7 S) (a8 S) (a9 S) (a10 S) (a11 S) (a12 S) (a13 S) (a14 S) (a15 S) (a16 S) (a17 S) (a18 S) (a19 S) (a20 S)
set_option maxHeartbeats 4000000 in
set_option maxRecDepth 100000 in
theorem cM_put16 (l : Launch) (D : va_G) (cy : Nat → ClassId) (ad : Nat → Nat) (X : va_W) (S : MS) (sz : Nat) {c9 : Nat} (hc : c9 < 15) (rel con str wei : Int32) : Met l yX9_put wsX9_put (rm9 0 0) (gPc D cy (wM cy ad S ++ X) sz [.ref (ad 0), .int (nI c9), .ref (ad 16), .int rel, .int con, .int str, .int wei]) (gQv D cy (wM cy ad S ++ X) sz (fun ws' => ws' = wM cy ad (jPut16 S c9 rel con str wei) ++ X)) 0 0 (va_A (wM cy ad S ++ X) sz) := by
  refine gHead (cc := cX9_put) (maxL := 8) (ret := none) (by decide) rfl (Nat.le_of_ble_eq_true rfl) ?_
  intro p e s m below meth c ls hx hb hr hlocks hml hown hts hsz hP hK hD hS hA hl
  have hin : ∀ w ∈ u_ws RX9 TX9 36, w ∈ wsX9_put := by decide +kernel
  have hown : s.vm.findClass RX9 = some m.cls := hown
  have hl : lv_has ls 8 [(0, .ref (ad 0)), (1, .int (nI c9)), (2, .ref (ad 16)), (3, .int rel), (4, .int con), (5, .int str), (6, .int wei)] := hl
  refine lv_iconst (v := nI 0) hx hb dX9_put_0 (by decide) ?_
  refine lv_istore (lv' := [(7, .int (nI 0)), (0, .ref (ad 0)), (1, .int (nI c9)), (2, .ref (ad 16)), (3, .int rel), (4, .int con), (5, .int str), (6, .int wei)]) hx hb dX9_put_1 hl (by decide) rfl (fun ls hl => ?_)
  have L3 : ∀ (n k : Nat) (u : Nat → Int32) (H : Heap) (locs : List Loc) (ls : Array Slot), k + n = 6 → va_P D vwCl (wM cy ad (mk9 (aF S) (aG S) u (a2 S) (a3 S) (a4 S) (a5 S) (a6 S) (a7 S) (a8 S) (a9 S) (a10 S) (a11 S) (a12 S) (a13 S) (a14 S) (a15 S) (a16 S) (a17 S) (a18 S) (a19 S) (a20 S)) ++ X) H → va_D (va_A (wM cy ad S ++ X) sz) (wM cy ad (mk9 (aF S) (aG S) u (a2 S) (a3 S) (a4 S) (a5 S) (a6 S) (a7 S) (a8 S) (a9 S) (a10 S) (a11 S) (a12 S) (a13 S) (a14 S) (a15 S) (a16 S) (a17 S) (a18 S) (a19 S) (a20 S)) ++ X) → va_S (va_A (wM cy ad S ++ X) sz) s.heap H locs → lv_has ls 8 [(7, .int (nI k)), (0, .ref (ad 0)), (1, .int (nI c9)), (2, .ref (ad 16)), (3, .int rel), (4, .int con), (5, .int str), (6, .int wei)] → (∀ (H : Heap) (locs : List Loc) (ls : Array Slot), va_P D vwCl (wM cy ad (mk9 (aF S) (aG S) (lpN (fCo (a16 S) (11 * c9) 0) n k u) (a2 S) (a3 S) (a4 S) (a5 S) (a6 S) (a7 S) (a8 S) (a9 S) (a10 S) (a11 S) (a12 S) (a13 S) (a14 S) (a15 S) (a16 S) (a17 S) (a18 S) (a19 S) (a20 S)) ++ X) H → va_D (va_A (wM cy ad S ++ X) sz) (wM cy ad (mk9 (aF S) (aG S) (lpN (fCo (a16 S) (11 * c9) 0) n k u) (a2 S) (a3 S) (a4 S) (a5 S) (a6 S) (a7 S) (a8 S) (a9 S) (a10 S) (a11 S) (a12 S) (a13 S) (a14 S) (a15 S) (a16 S) (a17 S) (a18 S) (a19 S) (a20 S)) ++ X) → va_S (va_A (wM cy ad S ++ X) sz) s.heap H locs → lv_has ls 8 [(7, .int (nI 6)), (0, .ref (ad 0)), (1, .int (nI c9)), (2, .ref (ad 16)), (3, .int rel), (4, .int con), (5, .int str), (6, .int wei)] → W p l e (headSpec wsX9_put (rm9 0 0)).room s m ([.ref (ad 0), .int (nI c9), .ref (ad 16), .int rel, .int con, .int str, .int wei] : List Value).toArray below meth c H locs 0 0 (MQ below (gQv D cy (wM cy ad S ++ X) sz (fun ws' => ws' = wM cy ad (jPut16 S c9 rel con str wei) ++ X)) ([.ref (ad 0), .int (nI c9), .ref (ad 16), .int rel, .int con, .int str, .int wei] : List Value).toArray s 0 0 (va_A (wM cy ad S ++ X) sz)) (F0 m 32 ls [])) → W p l e (headSpec wsX9_put (rm9 0 0)).room s m ([.ref (ad 0), .int (nI c9), .ref (ad 16), .int rel, .int con, .int str, .int wei] : List Value).toArray below meth c H locs 0 0 (MQ below (gQv D cy (wM cy ad S ++ X) sz (fun ws' => ws' = wM cy ad (jPut16 S c9 rel con str wei) ++ X)) ([.ref (ad 0), .int (nI c9), .ref (ad 16), .int rel, .int con, .int str, .int wei] : List Value).toArray s 0 0 (va_A (wM cy ad S ++ X) sz)) (F0 m 3 ls []) := by
    intro n
    induction n with
    | zero =>
      intro k u H locs ls hk hP hD hS hl hex
      obtain rfl : 6 = k := by omega
      refine lv_iload hx hb dX9_put_3 (lv_at hl 0 rfl) ?_
      refine lv_bipush (v := nI 6) hx hb dX9_put_5 (by decide) ?_
      refine lv_icmp_ge (tgt := 32) hx hb dX9_put_7 (by decide) (fun c1 => ?_) (fun c1 => ?_)
      · rw [nI_leI (by omega) (by omega)] at c1
        exact hex _ _ _ hP hD hS (lv_sub hl [0, 1, 2, 3, 4, 5, 6, 7] rfl)
      · exact absurd c1 (by rw [nI_leI (by omega) (by omega)]; omega)
    | succ n ih =>
      intro k u H locs ls hk hP hD hS hl hex
      have hk3 : k < 6 := by omega
      refine lv_iload hx hb dX9_put_3 (lv_at hl 0 rfl) ?_
      refine lv_bipush (v := nI 6) hx hb dX9_put_5 (by decide) ?_
      refine lv_icmp_ge (tgt := 32) hx hb dX9_put_7 (by decide) (fun c2 => ?_) (fun c2 => ?_)
      · exact absurd c2 (by rw [nI_leI (by omega) (by omega)]; omega)
      · rw [nI_leI (by omega) (by omega)] at c2
        refine lv_aload_n hx hb dX9_put_10 rfl (lv_at hl 1 rfl) ?_
        refine rM_get (v := .ref (ad 1)) hx hb hts hin hown hK hP 0 (by decide) rfl (by decide +kernel) dX9_put_11 ?_
        refine lv_bipush (v := nI 11) hx hb dX9_put_14 (by decide) ?_
        refine lv_iload_n hx hb dX9_put_16 rfl (lv_at hl 2 rfl) ?_
        refine lv_imul hx hb dX9_put_17 ?_
        rw [pk_mul]
        refine lv_iload hx hb dX9_put_18 (lv_at hl 0 rfl) ?_
        refine lv_iadd hx hb dX9_put_20 ?_
        rw [nI_add]
        refine lv_aload_n hx hb dX9_put_21 rfl (lv_at hl 3 rfl) ?_
        refine lv_iload hx hb dX9_put_22 (lv_at hl 0 rfl) ?_
        refine rM_ld16 (i := k) hx hb hK hP (by omega) dX9_put_24 ?_
        refine W.eq (g2 := F0 m 25 ls [.int (a16 S k), .int (nI ((11 * c9) + k)), .ref (ad 1)]) rfl ?_
        refine rM_st1 (i := ((11 * c9) + k)) hx hb hK hP hD hS (by omega) dX9_put_25 (fun H locs hP hD hS => ?_)
        have hP : va_P D vwCl (wM cy ad (mk9 (aF S) (aG S) (upd u ((11 * c9) + k) (a16 S k)) (a2 S) (a3 S) (a4 S) (a5 S) (a6 S) (a7 S) (a8 S) (a9 S) (a10 S) (a11 S) (a12 S) (a13 S) (a14 S) (a15 S) (a16 S) (a17 S) (a18 S) (a19 S) (a20 S)) ++ X) H := hP
        have hD : va_D (va_A (wM cy ad S ++ X) sz) (wM cy ad (mk9 (aF S) (aG S) (upd u ((11 * c9) + k) (a16 S k)) (a2 S) (a3 S) (a4 S) (a5 S) (a6 S) (a7 S) (a8 S) (a9 S) (a10 S) (a11 S) (a12 S) (a13 S) (a14 S) (a15 S) (a16 S) (a17 S) (a18 S) (a19 S) (a20 S)) ++ X) := hD
        refine lv_iinc (v := nI (k + 1)) (lv' := [(7, .int (nI (k + 1))), (0, .ref (ad 0)), (1, .int (nI c9)), (2, .ref (ad 16)), (3, .int rel), (4, .int con), (5, .int str), (6, .int wei)]) hx hb dX9_put_26 hl (k := 0) rfl (nI_1 _) (by decide) rfl (fun ls hl => ?_)
        refine lv_goto (tgt := 3) hx hb dX9_put_29 (by decide) ?_
        have he : (fCo (a16 S) (11 * c9) 0) k u = (upd u ((11 * c9) + k) (a16 S k)) := by simp [fCo]
        rw [lpN_s (f := fCo (a16 S) (11 * c9) 0), he] at hex
        exact ih ((k + 1)) (upd u ((11 * c9) + k) (a16 S k)) _ _ _ (by omega) hP hD hS (lv_sub hl [0, 1, 2, 3, 4, 5, 6, 7] rfl) hex
  refine L3 6 0 (a1 S) _ _ _ (by omega) hP hD hS (lv_sub hl [0, 1, 2, 3, 4, 5, 6, 7] rfl) (fun H locs ls hP hD hS hl => ?_)
  refine lv_aload_n hx hb dX9_put_32 rfl (lv_at hl 1 rfl) ?_
  refine rM_get (v := .ref (ad 1)) hx hb hts hin hown hK hP 0 (by decide) rfl (by decide +kernel) dX9_put_33 ?_
  refine lv_bipush (v := nI 11) hx hb dX9_put_36 (by decide) ?_
  refine lv_iload_n hx hb dX9_put_38 rfl (lv_at hl 2 rfl) ?_
  refine lv_imul hx hb dX9_put_39 ?_
  rw [pk_mul]
  refine lv_bipush (v := nI 6) hx hb dX9_put_40 (by decide) ?_
  refine lv_iadd hx hb dX9_put_42 ?_
  rw [nI_add]
  refine lv_iload_n hx hb dX9_put_43 rfl (lv_at hl 4 rfl) ?_
  refine rM_st1 (i := ((11 * c9) + 6)) hx hb hK hP hD hS (by omega) dX9_put_44 (fun H locs hP hD hS => ?_)
  have hP : va_P D vwCl (wM cy ad (mk9 (aF S) (aG S) (upd (lpN (fCo (a16 S) (11 * c9) 0) 6 0 (a1 S)) ((11 * c9) + 6) rel) (a2 S) (a3 S) (a4 S) (a5 S) (a6 S) (a7 S) (a8 S) (a9 S) (a10 S) (a11 S) (a12 S) (a13 S) (a14 S) (a15 S) (a16 S) (a17 S) (a18 S) (a19 S) (a20 S)) ++ X) H := hP
  have hD : va_D (va_A (wM cy ad S ++ X) sz) (wM cy ad (mk9 (aF S) (aG S) (upd (lpN (fCo (a16 S) (11 * c9) 0) 6 0 (a1 S)) ((11 * c9) + 6) rel) (a2 S) (a3 S) (a4 S) (a5 S) (a6 S) (a7 S) (a8 S) (a9 S) (a10 S) (a11 S) (a12 S) (a13 S) (a14 S) (a15 S) (a16 S) (a17 S) (a18 S) (a19 S) (a20 S)) ++ X) := hD
  refine lv_aload_n hx hb dX9_put_45 rfl (lv_at hl 1 rfl) ?_
  refine rM_get (v := .ref (ad 1)) hx hb hts hin hown hK hP 0 (by decide) rfl (by decide +kernel) dX9_put_46 ?_
  refine lv_bipush (v := nI 11) hx hb dX9_put_49 (by decide) ?_
  refine lv_iload_n hx hb dX9_put_51 rfl (lv_at hl 2 rfl) ?_
  refine lv_imul hx hb dX9_put_52 ?_
  rw [pk_mul]
  refine lv_bipush (v := nI 7) hx hb dX9_put_53 (by decide) ?_
  refine lv_iadd hx hb dX9_put_55 ?_
  rw [nI_add]
  refine lv_iload hx hb dX9_put_56 (lv_at hl 5 rfl) ?_
  refine rM_st1 (i := ((11 * c9) + 7)) hx hb hK hP hD hS (by omega) dX9_put_58 (fun H locs hP hD hS => ?_)
  have hP : va_P D vwCl (wM cy ad (mk9 (aF S) (aG S) (upd (upd (lpN (fCo (a16 S) (11 * c9) 0) 6 0 (a1 S)) ((11 * c9) + 6) rel) ((11 * c9) + 7) con) (a2 S) (a3 S) (a4 S) (a5 S) (a6 S) (a7 S) (a8 S) (a9 S) (a10 S) (a11 S) (a12 S) (a13 S) (a14 S) (a15 S) (a16 S) (a17 S) (a18 S) (a19 S) (a20 S)) ++ X) H := hP
  have hD : va_D (va_A (wM cy ad S ++ X) sz) (wM cy ad (mk9 (aF S) (aG S) (upd (upd (lpN (fCo (a16 S) (11 * c9) 0) 6 0 (a1 S)) ((11 * c9) + 6) rel) ((11 * c9) + 7) con) (a2 S) (a3 S) (a4 S) (a5 S) (a6 S) (a7 S) (a8 S) (a9 S) (a10 S) (a11 S) (a12 S) (a13 S) (a14 S) (a15 S) (a16 S) (a17 S) (a18 S) (a19 S) (a20 S)) ++ X) := hD
  refine lv_aload_n hx hb dX9_put_59 rfl (lv_at hl 1 rfl) ?_
  refine rM_get (v := .ref (ad 1)) hx hb hts hin hown hK hP 0 (by decide) rfl (by decide +kernel) dX9_put_60 ?_
  refine lv_bipush (v := nI 11) hx hb dX9_put_63 (by decide) ?_
  refine lv_iload_n hx hb dX9_put_65 rfl (lv_at hl 2 rfl) ?_
  refine lv_imul hx hb dX9_put_66 ?_
  rw [pk_mul]
  refine lv_bipush (v := nI 8) hx hb dX9_put_67 (by decide) ?_
  refine lv_iadd hx hb dX9_put_69 ?_
  rw [nI_add]
  refine lv_iload hx hb dX9_put_70 (lv_at hl 6 rfl) ?_
  refine rM_st1 (i := ((11 * c9) + 8)) hx hb hK hP hD hS (by omega) dX9_put_72 (fun H locs hP hD hS => ?_)
  have hP : va_P D vwCl (wM cy ad (mk9 (aF S) (aG S) (upd (upd (upd (lpN (fCo (a16 S) (11 * c9) 0) 6 0 (a1 S)) ((11 * c9) + 6) rel) ((11 * c9) + 7) con) ((11 * c9) + 8) str) (a2 S) (a3 S) (a4 S) (a5 S) (a6 S) (a7 S) (a8 S) (a9 S) (a10 S) (a11 S) (a12 S) (a13 S) (a14 S) (a15 S) (a16 S) (a17 S) (a18 S) (a19 S) (a20 S)) ++ X) H := hP
  have hD : va_D (va_A (wM cy ad S ++ X) sz) (wM cy ad (mk9 (aF S) (aG S) (upd (upd (upd (lpN (fCo (a16 S) (11 * c9) 0) 6 0 (a1 S)) ((11 * c9) + 6) rel) ((11 * c9) + 7) con) ((11 * c9) + 8) str) (a2 S) (a3 S) (a4 S) (a5 S) (a6 S) (a7 S) (a8 S) (a9 S) (a10 S) (a11 S) (a12 S) (a13 S) (a14 S) (a15 S) (a16 S) (a17 S) (a18 S) (a19 S) (a20 S)) ++ X) := hD
  refine lv_aload_n hx hb dX9_put_73 rfl (lv_at hl 1 rfl) ?_
  refine rM_get (v := .ref (ad 1)) hx hb hts hin hown hK hP 0 (by decide) rfl (by decide +kernel) dX9_put_74 ?_
  refine lv_bipush (v := nI 11) hx hb dX9_put_77 (by decide) ?_
  refine lv_iload_n hx hb dX9_put_79 rfl (lv_at hl 2 rfl) ?_
  refine lv_imul hx hb dX9_put_80 ?_
  rw [pk_mul]
  refine lv_bipush (v := nI 9) hx hb dX9_put_81 (by decide) ?_
  refine lv_iadd hx hb dX9_put_83 ?_
  rw [nI_add]
  refine lv_iload hx hb dX9_put_84 (lv_at hl 7 rfl) ?_
  refine rM_st1 (i := ((11 * c9) + 9)) hx hb hK hP hD hS (by omega) dX9_put_86 (fun H locs hP hD hS => ?_)
  have hP : va_P D vwCl (wM cy ad (mk9 (aF S) (aG S) (upd (upd (upd (upd (lpN (fCo (a16 S) (11 * c9) 0) 6 0 (a1 S)) ((11 * c9) + 6) rel) ((11 * c9) + 7) con) ((11 * c9) + 8) str) ((11 * c9) + 9) wei) (a2 S) (a3 S) (a4 S) (a5 S) (a6 S) (a7 S) (a8 S) (a9 S) (a10 S) (a11 S) (a12 S) (a13 S) (a14 S) (a15 S) (a16 S) (a17 S) (a18 S) (a19 S) (a20 S)) ++ X) H := hP
  have hD : va_D (va_A (wM cy ad S ++ X) sz) (wM cy ad (mk9 (aF S) (aG S) (upd (upd (upd (upd (lpN (fCo (a16 S) (11 * c9) 0) 6 0 (a1 S)) ((11 * c9) + 6) rel) ((11 * c9) + 7) con) ((11 * c9) + 8) str) ((11 * c9) + 9) wei) (a2 S) (a3 S) (a4 S) (a5 S) (a6 S) (a7 S) (a8 S) (a9 S) (a10 S) (a11 S) (a12 S) (a13 S) (a14 S) (a15 S) (a16 S) (a17 S) (a18 S) (a19 S) (a20 S)) ++ X) := hD
  refine lv_aload_n hx hb dX9_put_87 rfl (lv_at hl 1 rfl) ?_
  refine rM_get (v := .ref (ad 1)) hx hb hts hin hown hK hP 0 (by decide) rfl (by decide +kernel) dX9_put_88 ?_
  refine lv_bipush (v := nI 11) hx hb dX9_put_91 (by decide) ?_
  refine lv_iload_n hx hb dX9_put_93 rfl (lv_at hl 2 rfl) ?_
  refine lv_imul hx hb dX9_put_94 ?_
  rw [pk_mul]
  refine lv_bipush (v := nI 10) hx hb dX9_put_95 (by decide) ?_
  refine lv_iadd hx hb dX9_put_97 ?_
  rw [nI_add]
  refine lv_iconst (v := nI 1) hx hb dX9_put_98 (by decide) ?_
  refine rM_st1 (i := ((11 * c9) + 10)) hx hb hK hP hD hS (by omega) dX9_put_99 (fun H locs hP hD hS => ?_)
  have hP : va_P D vwCl (wM cy ad (mk9 (aF S) (aG S) (upd (upd (upd (upd (upd (lpN (fCo (a16 S) (11 * c9) 0) 6 0 (a1 S)) ((11 * c9) + 6) rel) ((11 * c9) + 7) con) ((11 * c9) + 8) str) ((11 * c9) + 9) wei) ((11 * c9) + 10) (nI 1)) (a2 S) (a3 S) (a4 S) (a5 S) (a6 S) (a7 S) (a8 S) (a9 S) (a10 S) (a11 S) (a12 S) (a13 S) (a14 S) (a15 S) (a16 S) (a17 S) (a18 S) (a19 S) (a20 S)) ++ X) H := hP
  have hD : va_D (va_A (wM cy ad S ++ X) sz) (wM cy ad (mk9 (aF S) (aG S) (upd (upd (upd (upd (upd (lpN (fCo (a16 S) (11 * c9) 0) 6 0 (a1 S)) ((11 * c9) + 6) rel) ((11 * c9) + 7) con) ((11 * c9) + 8) str) ((11 * c9) + 9) wei) ((11 * c9) + 10) (nI 1)) (a2 S) (a3 S) (a4 S) (a5 S) (a6 S) (a7 S) (a8 S) (a9 S) (a10 S) (a11 S) (a12 S) (a13 S) (a14 S) (a15 S) (a16 S) (a17 S) (a18 S) (a19 S) (a20 S)) ++ X) := hD
  exact W.vret hx hb hr (fun t ht hW => ⟨⟨_, rfl, rfl, by rw [ht]; exact hP, va_K.moved hW.alike hK, hD⟩, hS.F ht⟩) hS.2.2 dX9_put_100
def jPut18 (S : MS) (c9 : Nat) (rel con str wei : Int32) : MS := mk9 (aF S) (aG S) (upd (upd (upd (upd (upd (lpN (fCo (a18 S) (11 * c9) 0) 6 0 (a1 S)) (11 * c9 + 6) rel) (11 * c9 + 7) con) (11 * c9 + 8) str) (11 * c9 + 9) wei) (11 * c9 + 10) (nI 1)) (a2 S) (a3 S) (a4 S) (a5 S) (a6 S) (a7 S) (a8 S) (a9 S) (a10 S) (a11 S) (a12 S) (a13 S) (a14 S) (a15 S) (a16 S) (a17 S) (a18 S) (a19 S) (a20 S)
set_option maxHeartbeats 4000000 in
set_option maxRecDepth 100000 in
theorem cM_put18 (l : Launch) (D : va_G) (cy : Nat → ClassId) (ad : Nat → Nat) (X : va_W) (S : MS) (sz : Nat) {c9 : Nat} (hc : c9 < 15) (rel con str wei : Int32) : Met l yX9_put wsX9_put (rm9 0 0) (gPc D cy (wM cy ad S ++ X) sz [.ref (ad 0), .int (nI c9), .ref (ad 18), .int rel, .int con, .int str, .int wei]) (gQv D cy (wM cy ad S ++ X) sz (fun ws' => ws' = wM cy ad (jPut18 S c9 rel con str wei) ++ X)) 0 0 (va_A (wM cy ad S ++ X) sz) := by
  refine gHead (cc := cX9_put) (maxL := 8) (ret := none) (by decide) rfl (Nat.le_of_ble_eq_true rfl) ?_
  intro p e s m below meth c ls hx hb hr hlocks hml hown hts hsz hP hK hD hS hA hl
  have hin : ∀ w ∈ u_ws RX9 TX9 36, w ∈ wsX9_put := by decide +kernel
  have hown : s.vm.findClass RX9 = some m.cls := hown
  have hl : lv_has ls 8 [(0, .ref (ad 0)), (1, .int (nI c9)), (2, .ref (ad 18)), (3, .int rel), (4, .int con), (5, .int str), (6, .int wei)] := hl
  refine lv_iconst (v := nI 0) hx hb dX9_put_0 (by decide) ?_
  refine lv_istore (lv' := [(7, .int (nI 0)), (0, .ref (ad 0)), (1, .int (nI c9)), (2, .ref (ad 18)), (3, .int rel), (4, .int con), (5, .int str), (6, .int wei)]) hx hb dX9_put_1 hl (by decide) rfl (fun ls hl => ?_)
  have L3 : ∀ (n k : Nat) (u : Nat → Int32) (H : Heap) (locs : List Loc) (ls : Array Slot), k + n = 6 → va_P D vwCl (wM cy ad (mk9 (aF S) (aG S) u (a2 S) (a3 S) (a4 S) (a5 S) (a6 S) (a7 S) (a8 S) (a9 S) (a10 S) (a11 S) (a12 S) (a13 S) (a14 S) (a15 S) (a16 S) (a17 S) (a18 S) (a19 S) (a20 S)) ++ X) H → va_D (va_A (wM cy ad S ++ X) sz) (wM cy ad (mk9 (aF S) (aG S) u (a2 S) (a3 S) (a4 S) (a5 S) (a6 S) (a7 S) (a8 S) (a9 S) (a10 S) (a11 S) (a12 S) (a13 S) (a14 S) (a15 S) (a16 S) (a17 S) (a18 S) (a19 S) (a20 S)) ++ X) → va_S (va_A (wM cy ad S ++ X) sz) s.heap H locs → lv_has ls 8 [(7, .int (nI k)), (0, .ref (ad 0)), (1, .int (nI c9)), (2, .ref (ad 18)), (3, .int rel), (4, .int con), (5, .int str), (6, .int wei)] → (∀ (H : Heap) (locs : List Loc) (ls : Array Slot), va_P D vwCl (wM cy ad (mk9 (aF S) (aG S) (lpN (fCo (a18 S) (11 * c9) 0) n k u) (a2 S) (a3 S) (a4 S) (a5 S) (a6 S) (a7 S) (a8 S) (a9 S) (a10 S) (a11 S) (a12 S) (a13 S) (a14 S) (a15 S) (a16 S) (a17 S) (a18 S) (a19 S) (a20 S)) ++ X) H → va_D (va_A (wM cy ad S ++ X) sz) (wM cy ad (mk9 (aF S) (aG S) (lpN (fCo (a18 S) (11 * c9) 0) n k u) (a2 S) (a3 S) (a4 S) (a5 S) (a6 S) (a7 S) (a8 S) (a9 S) (a10 S) (a11 S) (a12 S) (a13 S) (a14 S) (a15 S) (a16 S) (a17 S) (a18 S) (a19 S) (a20 S)) ++ X) → va_S (va_A (wM cy ad S ++ X) sz) s.heap H locs → lv_has ls 8 [(7, .int (nI 6)), (0, .ref (ad 0)), (1, .int (nI c9)), (2, .ref (ad 18)), (3, .int rel), (4, .int con), (5, .int str), (6, .int wei)] → W p l e (headSpec wsX9_put (rm9 0 0)).room s m ([.ref (ad 0), .int (nI c9), .ref (ad 18), .int rel, .int con, .int str, .int wei] : List Value).toArray below meth c H locs 0 0 (MQ below (gQv D cy (wM cy ad S ++ X) sz (fun ws' => ws' = wM cy ad (jPut18 S c9 rel con str wei) ++ X)) ([.ref (ad 0), .int (nI c9), .ref (ad 18), .int rel, .int con, .int str, .int wei] : List Value).toArray s 0 0 (va_A (wM cy ad S ++ X) sz)) (F0 m 32 ls [])) → W p l e (headSpec wsX9_put (rm9 0 0)).room s m ([.ref (ad 0), .int (nI c9), .ref (ad 18), .int rel, .int con, .int str, .int wei] : List Value).toArray below meth c H locs 0 0 (MQ below (gQv D cy (wM cy ad S ++ X) sz (fun ws' => ws' = wM cy ad (jPut18 S c9 rel con str wei) ++ X)) ([.ref (ad 0), .int (nI c9), .ref (ad 18), .int rel, .int con, .int str, .int wei] : List Value).toArray s 0 0 (va_A (wM cy ad S ++ X) sz)) (F0 m 3 ls []) := by
    intro n
    induction n with
    | zero =>
      intro k u H locs ls hk hP hD hS hl hex
      obtain rfl : 6 = k := by omega
      refine lv_iload hx hb dX9_put_3 (lv_at hl 0 rfl) ?_
      refine lv_bipush (v := nI 6) hx hb dX9_put_5 (by decide) ?_
      refine lv_icmp_ge (tgt := 32) hx hb dX9_put_7 (by decide) (fun c1 => ?_) (fun c1 => ?_)
      · rw [nI_leI (by omega) (by omega)] at c1
        exact hex _ _ _ hP hD hS (lv_sub hl [0, 1, 2, 3, 4, 5, 6, 7] rfl)
      · exact absurd c1 (by rw [nI_leI (by omega) (by omega)]; omega)
    | succ n ih =>
      intro k u H locs ls hk hP hD hS hl hex
      have hk3 : k < 6 := by omega
      refine lv_iload hx hb dX9_put_3 (lv_at hl 0 rfl) ?_
      refine lv_bipush (v := nI 6) hx hb dX9_put_5 (by decide) ?_
      refine lv_icmp_ge (tgt := 32) hx hb dX9_put_7 (by decide) (fun c2 => ?_) (fun c2 => ?_)
      · exact absurd c2 (by rw [nI_leI (by omega) (by omega)]; omega)
      · rw [nI_leI (by omega) (by omega)] at c2
        refine lv_aload_n hx hb dX9_put_10 rfl (lv_at hl 1 rfl) ?_
        refine rM_get (v := .ref (ad 1)) hx hb hts hin hown hK hP 0 (by decide) rfl (by decide +kernel) dX9_put_11 ?_
        refine lv_bipush (v := nI 11) hx hb dX9_put_14 (by decide) ?_
        refine lv_iload_n hx hb dX9_put_16 rfl (lv_at hl 2 rfl) ?_
        refine lv_imul hx hb dX9_put_17 ?_
        rw [pk_mul]
        refine lv_iload hx hb dX9_put_18 (lv_at hl 0 rfl) ?_
        refine lv_iadd hx hb dX9_put_20 ?_
        rw [nI_add]
        refine lv_aload_n hx hb dX9_put_21 rfl (lv_at hl 3 rfl) ?_
        refine lv_iload hx hb dX9_put_22 (lv_at hl 0 rfl) ?_
        refine rM_ld18 (i := k) hx hb hK hP (by omega) dX9_put_24 ?_
        refine W.eq (g2 := F0 m 25 ls [.int (a18 S k), .int (nI ((11 * c9) + k)), .ref (ad 1)]) rfl ?_
        refine rM_st1 (i := ((11 * c9) + k)) hx hb hK hP hD hS (by omega) dX9_put_25 (fun H locs hP hD hS => ?_)
        have hP : va_P D vwCl (wM cy ad (mk9 (aF S) (aG S) (upd u ((11 * c9) + k) (a18 S k)) (a2 S) (a3 S) (a4 S) (a5 S) (a6 S) (a7 S) (a8 S) (a9 S) (a10 S) (a11 S) (a12 S) (a13 S) (a14 S) (a15 S) (a16 S) (a17 S) (a18 S) (a19 S) (a20 S)) ++ X) H := hP
        have hD : va_D (va_A (wM cy ad S ++ X) sz) (wM cy ad (mk9 (aF S) (aG S) (upd u ((11 * c9) + k) (a18 S k)) (a2 S) (a3 S) (a4 S) (a5 S) (a6 S) (a7 S) (a8 S) (a9 S) (a10 S) (a11 S) (a12 S) (a13 S) (a14 S) (a15 S) (a16 S) (a17 S) (a18 S) (a19 S) (a20 S)) ++ X) := hD
        refine lv_iinc (v := nI (k + 1)) (lv' := [(7, .int (nI (k + 1))), (0, .ref (ad 0)), (1, .int (nI c9)), (2, .ref (ad 18)), (3, .int rel), (4, .int con), (5, .int str), (6, .int wei)]) hx hb dX9_put_26 hl (k := 0) rfl (nI_1 _) (by decide) rfl (fun ls hl => ?_)
        refine lv_goto (tgt := 3) hx hb dX9_put_29 (by decide) ?_
        have he : (fCo (a18 S) (11 * c9) 0) k u = (upd u ((11 * c9) + k) (a18 S k)) := by simp [fCo]
        rw [lpN_s (f := fCo (a18 S) (11 * c9) 0), he] at hex
        exact ih ((k + 1)) (upd u ((11 * c9) + k) (a18 S k)) _ _ _ (by omega) hP hD hS (lv_sub hl [0, 1, 2, 3, 4, 5, 6, 7] rfl) hex
  refine L3 6 0 (a1 S) _ _ _ (by omega) hP hD hS (lv_sub hl [0, 1, 2, 3, 4, 5, 6, 7] rfl) (fun H locs ls hP hD hS hl => ?_)
  refine lv_aload_n hx hb dX9_put_32 rfl (lv_at hl 1 rfl) ?_
  refine rM_get (v := .ref (ad 1)) hx hb hts hin hown hK hP 0 (by decide) rfl (by decide +kernel) dX9_put_33 ?_
  refine lv_bipush (v := nI 11) hx hb dX9_put_36 (by decide) ?_
  refine lv_iload_n hx hb dX9_put_38 rfl (lv_at hl 2 rfl) ?_
  refine lv_imul hx hb dX9_put_39 ?_
  rw [pk_mul]
  refine lv_bipush (v := nI 6) hx hb dX9_put_40 (by decide) ?_
  refine lv_iadd hx hb dX9_put_42 ?_
  rw [nI_add]
  refine lv_iload_n hx hb dX9_put_43 rfl (lv_at hl 4 rfl) ?_
  refine rM_st1 (i := ((11 * c9) + 6)) hx hb hK hP hD hS (by omega) dX9_put_44 (fun H locs hP hD hS => ?_)
  have hP : va_P D vwCl (wM cy ad (mk9 (aF S) (aG S) (upd (lpN (fCo (a18 S) (11 * c9) 0) 6 0 (a1 S)) ((11 * c9) + 6) rel) (a2 S) (a3 S) (a4 S) (a5 S) (a6 S) (a7 S) (a8 S) (a9 S) (a10 S) (a11 S) (a12 S) (a13 S) (a14 S) (a15 S) (a16 S) (a17 S) (a18 S) (a19 S) (a20 S)) ++ X) H := hP
  have hD : va_D (va_A (wM cy ad S ++ X) sz) (wM cy ad (mk9 (aF S) (aG S) (upd (lpN (fCo (a18 S) (11 * c9) 0) 6 0 (a1 S)) ((11 * c9) + 6) rel) (a2 S) (a3 S) (a4 S) (a5 S) (a6 S) (a7 S) (a8 S) (a9 S) (a10 S) (a11 S) (a12 S) (a13 S) (a14 S) (a15 S) (a16 S) (a17 S) (a18 S) (a19 S) (a20 S)) ++ X) := hD
  refine lv_aload_n hx hb dX9_put_45 rfl (lv_at hl 1 rfl) ?_
  refine rM_get (v := .ref (ad 1)) hx hb hts hin hown hK hP 0 (by decide) rfl (by decide +kernel) dX9_put_46 ?_
  refine lv_bipush (v := nI 11) hx hb dX9_put_49 (by decide) ?_
  refine lv_iload_n hx hb dX9_put_51 rfl (lv_at hl 2 rfl) ?_
  refine lv_imul hx hb dX9_put_52 ?_
  rw [pk_mul]
  refine lv_bipush (v := nI 7) hx hb dX9_put_53 (by decide) ?_
  refine lv_iadd hx hb dX9_put_55 ?_
  rw [nI_add]
  refine lv_iload hx hb dX9_put_56 (lv_at hl 5 rfl) ?_
  refine rM_st1 (i := ((11 * c9) + 7)) hx hb hK hP hD hS (by omega) dX9_put_58 (fun H locs hP hD hS => ?_)
  have hP : va_P D vwCl (wM cy ad (mk9 (aF S) (aG S) (upd (upd (lpN (fCo (a18 S) (11 * c9) 0) 6 0 (a1 S)) ((11 * c9) + 6) rel) ((11 * c9) + 7) con) (a2 S) (a3 S) (a4 S) (a5 S) (a6 S) (a7 S) (a8 S) (a9 S) (a10 S) (a11 S) (a12 S) (a13 S) (a14 S) (a15 S) (a16 S) (a17 S) (a18 S) (a19 S) (a20 S)) ++ X) H := hP
  have hD : va_D (va_A (wM cy ad S ++ X) sz) (wM cy ad (mk9 (aF S) (aG S) (upd (upd (lpN (fCo (a18 S) (11 * c9) 0) 6 0 (a1 S)) ((11 * c9) + 6) rel) ((11 * c9) + 7) con) (a2 S) (a3 S) (a4 S) (a5 S) (a6 S) (a7 S) (a8 S) (a9 S) (a10 S) (a11 S) (a12 S) (a13 S) (a14 S) (a15 S) (a16 S) (a17 S) (a18 S) (a19 S) (a20 S)) ++ X) := hD
  refine lv_aload_n hx hb dX9_put_59 rfl (lv_at hl 1 rfl) ?_
  refine rM_get (v := .ref (ad 1)) hx hb hts hin hown hK hP 0 (by decide) rfl (by decide +kernel) dX9_put_60 ?_
  refine lv_bipush (v := nI 11) hx hb dX9_put_63 (by decide) ?_
  refine lv_iload_n hx hb dX9_put_65 rfl (lv_at hl 2 rfl) ?_
  refine lv_imul hx hb dX9_put_66 ?_
  rw [pk_mul]
  refine lv_bipush (v := nI 8) hx hb dX9_put_67 (by decide) ?_
  refine lv_iadd hx hb dX9_put_69 ?_
  rw [nI_add]
  refine lv_iload hx hb dX9_put_70 (lv_at hl 6 rfl) ?_
  refine rM_st1 (i := ((11 * c9) + 8)) hx hb hK hP hD hS (by omega) dX9_put_72 (fun H locs hP hD hS => ?_)
  have hP : va_P D vwCl (wM cy ad (mk9 (aF S) (aG S) (upd (upd (upd (lpN (fCo (a18 S) (11 * c9) 0) 6 0 (a1 S)) ((11 * c9) + 6) rel) ((11 * c9) + 7) con) ((11 * c9) + 8) str) (a2 S) (a3 S) (a4 S) (a5 S) (a6 S) (a7 S) (a8 S) (a9 S) (a10 S) (a11 S) (a12 S) (a13 S) (a14 S) (a15 S) (a16 S) (a17 S) (a18 S) (a19 S) (a20 S)) ++ X) H := hP
  have hD : va_D (va_A (wM cy ad S ++ X) sz) (wM cy ad (mk9 (aF S) (aG S) (upd (upd (upd (lpN (fCo (a18 S) (11 * c9) 0) 6 0 (a1 S)) ((11 * c9) + 6) rel) ((11 * c9) + 7) con) ((11 * c9) + 8) str) (a2 S) (a3 S) (a4 S) (a5 S) (a6 S) (a7 S) (a8 S) (a9 S) (a10 S) (a11 S) (a12 S) (a13 S) (a14 S) (a15 S) (a16 S) (a17 S) (a18 S) (a19 S) (a20 S)) ++ X) := hD
  refine lv_aload_n hx hb dX9_put_73 rfl (lv_at hl 1 rfl) ?_
  refine rM_get (v := .ref (ad 1)) hx hb hts hin hown hK hP 0 (by decide) rfl (by decide +kernel) dX9_put_74 ?_
  refine lv_bipush (v := nI 11) hx hb dX9_put_77 (by decide) ?_
  refine lv_iload_n hx hb dX9_put_79 rfl (lv_at hl 2 rfl) ?_
  refine lv_imul hx hb dX9_put_80 ?_
  rw [pk_mul]
  refine lv_bipush (v := nI 9) hx hb dX9_put_81 (by decide) ?_
  refine lv_iadd hx hb dX9_put_83 ?_
  rw [nI_add]
  refine lv_iload hx hb dX9_put_84 (lv_at hl 7 rfl) ?_
  refine rM_st1 (i := ((11 * c9) + 9)) hx hb hK hP hD hS (by omega) dX9_put_86 (fun H locs hP hD hS => ?_)
  have hP : va_P D vwCl (wM cy ad (mk9 (aF S) (aG S) (upd (upd (upd (upd (lpN (fCo (a18 S) (11 * c9) 0) 6 0 (a1 S)) ((11 * c9) + 6) rel) ((11 * c9) + 7) con) ((11 * c9) + 8) str) ((11 * c9) + 9) wei) (a2 S) (a3 S) (a4 S) (a5 S) (a6 S) (a7 S) (a8 S) (a9 S) (a10 S) (a11 S) (a12 S) (a13 S) (a14 S) (a15 S) (a16 S) (a17 S) (a18 S) (a19 S) (a20 S)) ++ X) H := hP
  have hD : va_D (va_A (wM cy ad S ++ X) sz) (wM cy ad (mk9 (aF S) (aG S) (upd (upd (upd (upd (lpN (fCo (a18 S) (11 * c9) 0) 6 0 (a1 S)) ((11 * c9) + 6) rel) ((11 * c9) + 7) con) ((11 * c9) + 8) str) ((11 * c9) + 9) wei) (a2 S) (a3 S) (a4 S) (a5 S) (a6 S) (a7 S) (a8 S) (a9 S) (a10 S) (a11 S) (a12 S) (a13 S) (a14 S) (a15 S) (a16 S) (a17 S) (a18 S) (a19 S) (a20 S)) ++ X) := hD
  refine lv_aload_n hx hb dX9_put_87 rfl (lv_at hl 1 rfl) ?_
  refine rM_get (v := .ref (ad 1)) hx hb hts hin hown hK hP 0 (by decide) rfl (by decide +kernel) dX9_put_88 ?_
  refine lv_bipush (v := nI 11) hx hb dX9_put_91 (by decide) ?_
  refine lv_iload_n hx hb dX9_put_93 rfl (lv_at hl 2 rfl) ?_
  refine lv_imul hx hb dX9_put_94 ?_
  rw [pk_mul]
  refine lv_bipush (v := nI 10) hx hb dX9_put_95 (by decide) ?_
  refine lv_iadd hx hb dX9_put_97 ?_
  rw [nI_add]
  refine lv_iconst (v := nI 1) hx hb dX9_put_98 (by decide) ?_
  refine rM_st1 (i := ((11 * c9) + 10)) hx hb hK hP hD hS (by omega) dX9_put_99 (fun H locs hP hD hS => ?_)
  have hP : va_P D vwCl (wM cy ad (mk9 (aF S) (aG S) (upd (upd (upd (upd (upd (lpN (fCo (a18 S) (11 * c9) 0) 6 0 (a1 S)) ((11 * c9) + 6) rel) ((11 * c9) + 7) con) ((11 * c9) + 8) str) ((11 * c9) + 9) wei) ((11 * c9) + 10) (nI 1)) (a2 S) (a3 S) (a4 S) (a5 S) (a6 S) (a7 S) (a8 S) (a9 S) (a10 S) (a11 S) (a12 S) (a13 S) (a14 S) (a15 S) (a16 S) (a17 S) (a18 S) (a19 S) (a20 S)) ++ X) H := hP
  have hD : va_D (va_A (wM cy ad S ++ X) sz) (wM cy ad (mk9 (aF S) (aG S) (upd (upd (upd (upd (upd (lpN (fCo (a18 S) (11 * c9) 0) 6 0 (a1 S)) ((11 * c9) + 6) rel) ((11 * c9) + 7) con) ((11 * c9) + 8) str) ((11 * c9) + 9) wei) ((11 * c9) + 10) (nI 1)) (a2 S) (a3 S) (a4 S) (a5 S) (a6 S) (a7 S) (a8 S) (a9 S) (a10 S) (a11 S) (a12 S) (a13 S) (a14 S) (a15 S) (a16 S) (a17 S) (a18 S) (a19 S) (a20 S)) ++ X) := hD
  exact W.vret hx hb hr (fun t ht hW => ⟨⟨_, rfl, rfl, by rw [ht]; exact hP, va_K.moved hW.alike hK, hD⟩, hS.F ht⟩) hS.2.2 dX9_put_100
