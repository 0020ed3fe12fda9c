/-! the reference: a constraint's rows -/
def jBy (S : MS) (c9 : Nat) : Int32 := if ¬ jOf S c9 6 = 0 then nI 1 else -1
def jAddCon (S : MS) (R C c9 : Nat) : MS := if jOf S c9 8 = 0 then (if ¬ jOf S c9 6 = nI 1 then jAddRow S R c9 (nI (j_ahead c9)) (jBy S c9) else jAddRow (jAddRow S R c9 (nI (j_ahead c9)) (jBy S c9)) (R + 1) c9 (nI (j_lack c9)) (-(jBy S c9))) else mk9 (upd (aF (jAddRow S R c9 (nI (j_ahead c9)) (jBy S c9))) 15 (nI (C + 1))) (aG (jAddRow S R c9 (nI (j_ahead c9)) (jBy S c9))) (a1 (jAddRow S R c9 (nI (j_ahead c9)) (jBy S c9))) (a2 (jAddRow S R c9 (nI (j_ahead c9)) (jBy S c9))) (a3 (jAddRow S R c9 (nI (j_ahead c9)) (jBy S c9))) (a4 (jAddRow S R c9 (nI (j_ahead c9)) (jBy S c9))) (a5 (jAddRow S R c9 (nI (j_ahead c9)) (jBy S c9))) (a6 (jAddRow S R c9 (nI (j_ahead c9)) (jBy S c9))) (a7 (jAddRow S R c9 (nI (j_ahead c9)) (jBy S c9))) (a8 (jAddRow S R c9 (nI (j_ahead c9)) (jBy S c9))) (vp_updL (a9 (jAddRow S R c9 (nI (j_ahead c9)) (jBy S c9))) (22 * (R + 1 - 1) + (C + 1)) 1) (a10 (jAddRow S R c9 (nI (j_ahead c9)) (jBy S c9))) (upd (a11 (jAddRow S R c9 (nI (j_ahead c9)) (jBy S c9))) (C + 1) (nI (j_lack c9))) (a12 (jAddRow S R c9 (nI (j_ahead c9)) (jBy S c9))) (a13 (jAddRow S R c9 (nI (j_ahead c9)) (jBy S c9))) (a14 (jAddRow S R c9 (nI (j_ahead c9)) (jBy S c9))) (a15 (jAddRow S R c9 (nI (j_ahead c9)) (jBy S c9))) (a16 (jAddRow S R c9 (nI (j_ahead c9)) (jBy S c9))) (a17 (jAddRow S R c9 (nI (j_ahead c9)) (jBy S c9))) (a18 (jAddRow S R c9 (nI (j_ahead c9)) (jBy S c9))) (a19 (jAddRow S R c9 (nI (j_ahead c9)) (jBy S c9))) (a20 (jAddRow S R c9 (nI (j_ahead c9)) (jBy S c9)))
set_option maxHeartbeats 4000000 in
set_option maxRecDepth 100000 in
theorem cM_addConstraint (l : Launch) (D : va_G) (cy : Nat → ClassId) (ad : Nat → Nat) (X : va_W) (S : MS) (sz : Nat) {R C c9 : Nat} (hR : aF S 14 = nI R) (hC : aF S 15 = nI C) (hR34 : R ≤ 34) (hC20 : C ≤ 20) (hc : c9 < 15) : Met l yX9_addConstraint wsX9_addConstraint (rm9 2 50) (gPc D cy (wM cy ad S ++ X) sz [.ref (ad 0), .int (nI c9)]) (gQv D cy (wM cy ad S ++ X) sz (fun ws' => ws' = wM cy ad (jAddCon S R C c9) ++ X)) 0 0 (va_A (wM cy ad S ++ X) sz) := by
  refine gHead (cc := cX9_addConstraint) (maxL := 3) (ret := none) (by decide) rfl (Nat.le_of_ble_eq_true rfl) ?_
  intro p e s m below meth c ls hx hb hr hlocks hml hown hts hsz hP hK hD hS hA hl
  have hin : ∀ w ∈ u_ws RX9 TX9 36, w ∈ wsX9_addConstraint := by decide +kernel
  have hown : s.vm.findClass RX9 = some m.cls := hown
  have hl : lv_has ls 3 [(0, .ref (ad 0)), (1, .int (nI c9))] := hl
  have J15 : ∀ (by9 : Int32) (H : Heap) (locs : List Loc) (ls : Array Slot), by9 = jBy S c9 → va_P D vwCl (wM cy ad S ++ X) H → va_D (va_A (wM cy ad S ++ X) sz) (wM cy ad S ++ X) → va_S (va_A (wM cy ad S ++ X) sz) s.heap H locs → lv_has ls 3 [(0, .ref (ad 0)), (1, .int (nI c9))] → W p l e (headSpec wsX9_addConstraint (rm9 2 50)).room s m ([.ref (ad 0), .int (nI c9)] : List Value).toArray below meth c H locs 0 0 (MQ below (gQv D cy (wM cy ad S ++ X) sz (fun ws' => ws' = wM cy ad (jAddCon S R C c9) ++ X)) ([.ref (ad 0), .int (nI c9)] : List Value).toArray s 0 0 (va_A (wM cy ad S ++ X) sz)) (F0 m 15 ls [.int by9]) := by
    intro by9 H locs ls hby9 hP hD hS hl
    refine lv_istore_n (lv' := [(2, .int by9), (0, .ref (ad 0)), (1, .int (nI c9))]) hx hb dX9_addConstraint_15 rfl hl (by decide) rfl (fun ls hl => ?_)
    rw [hby9] at hl
    refine lv_aload_n hx hb dX9_addConstraint_16 rfl (lv_at hl 1 rfl) ?_
    refine lv_iload_n hx hb dX9_addConstraint_17 rfl (lv_at hl 2 rfl) ?_
    refine lv_iload_n hx hb dX9_addConstraint_18 rfl (lv_at hl 2 rfl) ?_
    refine pCalli (As := [.int (nI c9)]) (rest := [.int (nI c9), .ref (ad 0)]) hx hb hml hown hts hP hS hA hl.1 (cM_ahead l _ (c9 := c9) hc) (va_cwS 1 hts gX9_addConstraint_X9_ahead rfl rfl rfl (by decide +kernel) ⟨Nat.le_of_ble_eq_true rfl, Nat.le_of_ble_eq_true rfl⟩) rfl rfl (Nat.le_of_ble_eq_true rfl) ⟨Nat.le_of_ble_eq_true rfl, Nat.le_of_ble_eq_true rfl⟩ dX9_addConstraint_19 (fun r1 H locs e1 hP hS => ?_)
    rw [show r1 = nI (j_ahead c9) from e1]
    refine lv_iload_n hx hb dX9_addConstraint_22 rfl (lv_at hl 0 rfl) ?_
    refine gCallv (ws := wM cy ad S ++ X) (As := [.int (nI c9), .int (nI (j_ahead c9)), .int (jBy S c9)]) (rest := []) (q0 := 0) (r0 := (RX9, TX9, 36)) hx hb hml hown hts hK hP hD hS hA hl.1 wM_0 rfl (cM_addRow l D cy ad X _ _ (R := R) hR (by omega) hc _ _) (cwV 3 hts gX9_addConstraint_X9_addRow rfl rfl rfl (by decide +kernel) ⟨Nat.le_of_ble_eq_true rfl, Nat.le_of_ble_eq_true rfl⟩) rfl rfl (Nat.le_of_ble_eq_true rfl) ⟨Nat.le_of_ble_eq_true rfl, Nat.le_of_ble_eq_true rfl⟩ dX9_addConstraint_23 (fun ws2 H locs e2 hP hD hS => ?_)
    rw [show ws2 = _ from e2] at hP hD
    have hP : va_P D vwCl (wM cy ad (jAddRow S R c9 (nI (j_ahead c9)) (jBy S c9)) ++ X) H := hP
    have hD : va_D (va_A (wM cy ad S ++ X) sz) (wM cy ad (jAddRow S R c9 (nI (j_ahead c9)) (jBy S c9)) ++ X) := hD
    refine lv_aload_n hx hb dX9_addConstraint_26 rfl (lv_at hl 1 rfl) ?_
    refine lv_iload_n hx hb dX9_addConstraint_27 rfl (lv_at hl 2 rfl) ?_
    refine lv_bipush (v := nI 8) hx hb dX9_addConstraint_28 (by decide) ?_
    refine gCalli (ws := wM cy ad (jAddRow S R c9 (nI (j_ahead c9)) (jBy S c9)) ++ X) (As := [.int (nI c9), .int (nI 8)]) (rest := []) (q0 := 0) (r0 := (RX9, TX9, 36)) hx hb hml hown hts hK hP hD hS hA hl.1 wM_0 rfl (cM_of l D cy ad X _ _ (c9 := c9) (w9 := 8) (by omega) (by omega)) (cwV 2 hts gX9_addConstraint_X9_of rfl rfl rfl (by decide +kernel) ⟨Nat.le_of_ble_eq_true rfl, Nat.le_of_ble_eq_true rfl⟩) rfl rfl (Nat.le_of_ble_eq_true rfl) ⟨Nat.le_of_ble_eq_true rfl, Nat.le_of_ble_eq_true rfl⟩ dX9_addConstraint_30 (fun r3 ws3 H locs e3 hP hD hS => ?_)
    obtain ⟨e3a, e3b⟩ := e3
    rw [show r3 = jOf S c9 8 from e3a]
    rw [e3b] at hP hD
    refine lv_if_eq (tgt := 82) hx hb dX9_addConstraint_33 (by decide) (fun c4 => ?_) (fun c4 => ?_)
    · skip
      refine lv_aload_n hx hb dX9_addConstraint_82 rfl (lv_at hl 1 rfl) ?_
      refine lv_iload_n hx hb dX9_addConstraint_83 rfl (lv_at hl 2 rfl) ?_
      refine lv_bipush (v := nI 6) hx hb dX9_addConstraint_84 (by decide) ?_
      refine gCalli (ws := wM cy ad (jAddRow S R c9 (nI (j_ahead c9)) (jBy S c9)) ++ X) (As := [.int (nI c9), .int (nI 6)]) (rest := []) (q0 := 0) (r0 := (RX9, TX9, 36)) hx hb hml hown hts hK hP hD hS hA hl.1 wM_0 rfl (cM_of l D cy ad X _ _ (c9 := c9) (w9 := 6) (by omega) (by omega)) (cwV 2 hts gX9_addConstraint_X9_of rfl rfl rfl (by decide +kernel) ⟨Nat.le_of_ble_eq_true rfl, Nat.le_of_ble_eq_true rfl⟩) rfl rfl (Nat.le_of_ble_eq_true rfl) ⟨Nat.le_of_ble_eq_true rfl, Nat.le_of_ble_eq_true rfl⟩ dX9_addConstraint_86 (fun r5 ws5 H locs e5 hP hD hS => ?_)
      obtain ⟨e5a, e5b⟩ := e5
      rw [show r5 = jOf S c9 6 from e5a]
      rw [e5b] at hP hD
      refine lv_iconst (v := nI 1) hx hb dX9_addConstraint_89 (by decide) ?_
      refine lv_icmp_ne (tgt := 104) hx hb dX9_addConstraint_90 (by decide) (fun c6 => ?_) (fun c6 => ?_)
      · skip
        exact W.vret hx hb hr (fun t ht hW => ⟨⟨_, rfl, by simp only [jAddCon]; rw [if_pos c4, if_pos c6], by rw [ht]; exact hP, va_K.moved hW.alike hK, hD⟩, hS.F ht⟩) hS.2.2 dX9_addConstraint_104
      · skip
        refine lv_aload_n hx hb dX9_addConstraint_93 rfl (lv_at hl 1 rfl) ?_
        refine lv_iload_n hx hb dX9_addConstraint_94 rfl (lv_at hl 2 rfl) ?_
        refine lv_iload_n hx hb dX9_addConstraint_95 rfl (lv_at hl 2 rfl) ?_
        refine pCalli (As := [.int (nI c9)]) (rest := [.int (nI c9), .ref (ad 0)]) hx hb hml hown hts hP hS hA hl.1 (cM_lack l _ (c9 := c9) hc) (va_cwS 1 hts gX9_addConstraint_X9_lack rfl rfl rfl (by decide +kernel) ⟨Nat.le_of_ble_eq_true rfl, Nat.le_of_ble_eq_true rfl⟩) rfl rfl (Nat.le_of_ble_eq_true rfl) ⟨Nat.le_of_ble_eq_true rfl, Nat.le_of_ble_eq_true rfl⟩ dX9_addConstraint_96 (fun r7 H locs e7 hP hS => ?_)
        rw [show r7 = nI (j_lack c9) from e7]
        refine lv_iload_n hx hb dX9_addConstraint_99 rfl (lv_at hl 0 rfl) ?_
        refine lv_ineg hx hb dX9_addConstraint_100 ?_
        refine gCallv (ws := wM cy ad (jAddRow S R c9 (nI (j_ahead c9)) (jBy S c9)) ++ X) (As := [.int (nI c9), .int (nI (j_lack c9)), .int (-(jBy S c9))]) (rest := []) (q0 := 0) (r0 := (RX9, TX9, 36)) hx hb hml hown hts hK hP hD hS hA hl.1 wM_0 rfl (cM_addRow l D cy ad X _ _ (R := R + 1) rfl (by omega) hc _ _) (cwV 3 hts gX9_addConstraint_X9_addRow rfl rfl rfl (by decide +kernel) ⟨Nat.le_of_ble_eq_true rfl, Nat.le_of_ble_eq_true rfl⟩) rfl rfl (Nat.le_of_ble_eq_true rfl) ⟨Nat.le_of_ble_eq_true rfl, Nat.le_of_ble_eq_true rfl⟩ dX9_addConstraint_101 (fun ws8 H locs e8 hP hD hS => ?_)
        rw [show ws8 = _ from e8] at hP hD
        have hP : va_P D vwCl (wM cy ad (jAddRow (jAddRow S R c9 (nI (j_ahead c9)) (jBy S c9)) (R + 1) c9 (nI (j_lack c9)) (-(jBy S c9))) ++ X) H := hP
        have hD : va_D (va_A (wM cy ad S ++ X) sz) (wM cy ad (jAddRow (jAddRow S R c9 (nI (j_ahead c9)) (jBy S c9)) (R + 1) c9 (nI (j_lack c9)) (-(jBy S c9))) ++ X) := hD
        exact W.vret hx hb hr (fun t ht hW => ⟨⟨_, rfl, by simp only [jAddCon]; rw [if_pos c4, if_neg (fun q => q c6)], by rw [ht]; exact hP, va_K.moved hW.alike hK, hD⟩, hS.F ht⟩) hS.2.2 dX9_addConstraint_104
    · skip
      refine lv_aload_n hx hb dX9_addConstraint_36 rfl (lv_at hl 1 rfl) ?_
      refine lv_dup hx hb dX9_addConstraint_37 rfl ?_
      refine rM_get (v := .int (aF (jAddRow S R c9 (nI (j_ahead c9)) (jBy S c9)) 15)) hx hb hts hin hown hK hP 15 (by decide) rfl (by decide +kernel) dX9_addConstraint_38 ?_
      rw [(show aF (jAddRow S R c9 (nI (j_ahead c9)) (jBy S c9)) 15 = nI C from hC)]
      refine lv_iconst (v := nI 1) hx hb dX9_addConstraint_41 (by decide) ?_
      refine lv_iadd hx hb dX9_addConstraint_42 ?_
      rw [nI_add]
      refine rM_put15 (v := nI (C + 1)) hx hb hts hin hown hK hP hD hS (by decide +kernel) dX9_addConstraint_43 (fun H locs hP hD hS => ?_)
      have hP : va_P D vwCl (wM cy ad (mk9 (upd (aF (jAddRow S R c9 (nI (j_ahead c9)) (jBy S c9))) 15 (nI (C + 1))) (aG (jAddRow S R c9 (nI (j_ahead c9)) (jBy S c9))) (a1 (jAddRow S R c9 (nI (j_ahead c9)) (jBy S c9))) (a2 (jAddRow S R c9 (nI (j_ahead c9)) (jBy S c9))) (a3 (jAddRow S R c9 (nI (j_ahead c9)) (jBy S c9))) (a4 (jAddRow S R c9 (nI (j_ahead c9)) (jBy S c9))) (a5 (jAddRow S R c9 (nI (j_ahead c9)) (jBy S c9))) (a6 (jAddRow S R c9 (nI (j_ahead c9)) (jBy S c9))) (a7 (jAddRow S R c9 (nI (j_ahead c9)) (jBy S c9))) (a8 (jAddRow S R c9 (nI (j_ahead c9)) (jBy S c9))) (a9 (jAddRow S R c9 (nI (j_ahead c9)) (jBy S c9))) (a10 (jAddRow S R c9 (nI (j_ahead c9)) (jBy S c9))) (a11 (jAddRow S R c9 (nI (j_ahead c9)) (jBy S c9))) (a12 (jAddRow S R c9 (nI (j_ahead c9)) (jBy S c9))) (a13 (jAddRow S R c9 (nI (j_ahead c9)) (jBy S c9))) (a14 (jAddRow S R c9 (nI (j_ahead c9)) (jBy S c9))) (a15 (jAddRow S R c9 (nI (j_ahead c9)) (jBy S c9))) (a16 (jAddRow S R c9 (nI (j_ahead c9)) (jBy S c9))) (a17 (jAddRow S R c9 (nI (j_ahead c9)) (jBy S c9))) (a18 (jAddRow S R c9 (nI (j_ahead c9)) (jBy S c9))) (a19 (jAddRow S R c9 (nI (j_ahead c9)) (jBy S c9))) (a20 (jAddRow S R c9 (nI (j_ahead c9)) (jBy S c9)))) ++ X) H := hP
      have hD : va_D (va_A (wM cy ad S ++ X) sz) (wM cy ad (mk9 (upd (aF (jAddRow S R c9 (nI (j_ahead c9)) (jBy S c9))) 15 (nI (C + 1))) (aG (jAddRow S R c9 (nI (j_ahead c9)) (jBy S c9))) (a1 (jAddRow S R c9 (nI (j_ahead c9)) (jBy S c9))) (a2 (jAddRow S R c9 (nI (j_ahead c9)) (jBy S c9))) (a3 (jAddRow S R c9 (nI (j_ahead c9)) (jBy S c9))) (a4 (jAddRow S R c9 (nI (j_ahead c9)) (jBy S c9))) (a5 (jAddRow S R c9 (nI (j_ahead c9)) (jBy S c9))) (a6 (jAddRow S R c9 (nI (j_ahead c9)) (jBy S c9))) (a7 (jAddRow S R c9 (nI (j_ahead c9)) (jBy S c9))) (a8 (jAddRow S R c9 (nI (j_ahead c9)) (jBy S c9))) (a9 (jAddRow S R c9 (nI (j_ahead c9)) (jBy S c9))) (a10 (jAddRow S R c9 (nI (j_ahead c9)) (jBy S c9))) (a11 (jAddRow S R c9 (nI (j_ahead c9)) (jBy S c9))) (a12 (jAddRow S R c9 (nI (j_ahead c9)) (jBy S c9))) (a13 (jAddRow S R c9 (nI (j_ahead c9)) (jBy S c9))) (a14 (jAddRow S R c9 (nI (j_ahead c9)) (jBy S c9))) (a15 (jAddRow S R c9 (nI (j_ahead c9)) (jBy S c9))) (a16 (jAddRow S R c9 (nI (j_ahead c9)) (jBy S c9))) (a17 (jAddRow S R c9 (nI (j_ahead c9)) (jBy S c9))) (a18 (jAddRow S R c9 (nI (j_ahead c9)) (jBy S c9))) (a19 (jAddRow S R c9 (nI (j_ahead c9)) (jBy S c9))) (a20 (jAddRow S R c9 (nI (j_ahead c9)) (jBy S c9)))) ++ X) := hD
      refine lv_aload_n hx hb dX9_addConstraint_46 rfl (lv_at hl 1 rfl) ?_
      refine rM_get (v := .ref (ad 11)) hx hb hts hin hown hK hP 13 (by decide) rfl (by decide +kernel) dX9_addConstraint_47 ?_
      refine lv_aload_n hx hb dX9_addConstraint_50 rfl (lv_at hl 1 rfl) ?_
      refine rM_get (v := .int (nI (C + 1))) hx hb hts hin hown hK hP 15 (by decide) rfl (by decide +kernel) dX9_addConstraint_51 ?_
      refine lv_iload_n hx hb dX9_addConstraint_54 rfl (lv_at hl 2 rfl) ?_
      refine pCalli (As := [.int (nI c9)]) (rest := [.int (nI (C + 1)), .ref (ad 11)]) hx hb hml hown hts hP hS hA hl.1 (cM_lack l _ (c9 := c9) hc) (va_cwS 1 hts gX9_addConstraint_X9_lack rfl rfl rfl (by decide +kernel) ⟨Nat.le_of_ble_eq_true rfl, Nat.le_of_ble_eq_true rfl⟩) rfl rfl (Nat.le_of_ble_eq_true rfl) ⟨Nat.le_of_ble_eq_true rfl, Nat.le_of_ble_eq_true rfl⟩ dX9_addConstraint_55 (fun r9 H locs e9 hP hS => ?_)
      rw [show r9 = nI (j_lack c9) from e9]
      refine rM_st11 (i := (C + 1)) hx hb hK hP hD hS (by omega) dX9_addConstraint_58 (fun H locs hP hD hS => ?_)
      have hP : va_P D vwCl (wM cy ad (mk9 (upd (aF (jAddRow S R c9 (nI (j_ahead c9)) (jBy S c9))) 15 (nI (C + 1))) (aG (jAddRow S R c9 (nI (j_ahead c9)) (jBy S c9))) (a1 (jAddRow S R c9 (nI (j_ahead c9)) (jBy S c9))) (a2 (jAddRow S R c9 (nI (j_ahead c9)) (jBy S c9))) (a3 (jAddRow S R c9 (nI (j_ahead c9)) (jBy S c9))) (a4 (jAddRow S R c9 (nI (j_ahead c9)) (jBy S c9))) (a5 (jAddRow S R c9 (nI (j_ahead c9)) (jBy S c9))) (a6 (jAddRow S R c9 (nI (j_ahead c9)) (jBy S c9))) (a7 (jAddRow S R c9 (nI (j_ahead c9)) (jBy S c9))) (a8 (jAddRow S R c9 (nI (j_ahead c9)) (jBy S c9))) (a9 (jAddRow S R c9 (nI (j_ahead c9)) (jBy S c9))) (a10 (jAddRow S R c9 (nI (j_ahead c9)) (jBy S c9))) (upd (a11 (jAddRow S R c9 (nI (j_ahead c9)) (jBy S c9))) (C + 1) (nI (j_lack c9))) (a12 (jAddRow S R c9 (nI (j_ahead c9)) (jBy S c9))) (a13 (jAddRow S R c9 (nI (j_ahead c9)) (jBy S c9))) (a14 (jAddRow S R c9 (nI (j_ahead c9)) (jBy S c9))) (a15 (jAddRow S R c9 (nI (j_ahead c9)) (jBy S c9))) (a16 (jAddRow S R c9 (nI (j_ahead c9)) (jBy S c9))) (a17 (jAddRow S R c9 (nI (j_ahead c9)) (jBy S c9))) (a18 (jAddRow S R c9 (nI (j_ahead c9)) (jBy S c9))) (a19 (jAddRow S R c9 (nI (j_ahead c9)) (jBy S c9))) (a20 (jAddRow S R c9 (nI (j_ahead c9)) (jBy S c9)))) ++ X) H := hP
      have hD : va_D (va_A (wM cy ad S ++ X) sz) (wM cy ad (mk9 (upd (aF (jAddRow S R c9 (nI (j_ahead c9)) (jBy S c9))) 15 (nI (C + 1))) (aG (jAddRow S R c9 (nI (j_ahead c9)) (jBy S c9))) (a1 (jAddRow S R c9 (nI (j_ahead c9)) (jBy S c9))) (a2 (jAddRow S R c9 (nI (j_ahead c9)) (jBy S c9))) (a3 (jAddRow S R c9 (nI (j_ahead c9)) (jBy S c9))) (a4 (jAddRow S R c9 (nI (j_ahead c9)) (jBy S c9))) (a5 (jAddRow S R c9 (nI (j_ahead c9)) (jBy S c9))) (a6 (jAddRow S R c9 (nI (j_ahead c9)) (jBy S c9))) (a7 (jAddRow S R c9 (nI (j_ahead c9)) (jBy S c9))) (a8 (jAddRow S R c9 (nI (j_ahead c9)) (jBy S c9))) (a9 (jAddRow S R c9 (nI (j_ahead c9)) (jBy S c9))) (a10 (jAddRow S R c9 (nI (j_ahead c9)) (jBy S c9))) (upd (a11 (jAddRow S R c9 (nI (j_ahead c9)) (jBy S c9))) (C + 1) (nI (j_lack c9))) (a12 (jAddRow S R c9 (nI (j_ahead c9)) (jBy S c9))) (a13 (jAddRow S R c9 (nI (j_ahead c9)) (jBy S c9))) (a14 (jAddRow S R c9 (nI (j_ahead c9)) (jBy S c9))) (a15 (jAddRow S R c9 (nI (j_ahead c9)) (jBy S c9))) (a16 (jAddRow S R c9 (nI (j_ahead c9)) (jBy S c9))) (a17 (jAddRow S R c9 (nI (j_ahead c9)) (jBy S c9))) (a18 (jAddRow S R c9 (nI (j_ahead c9)) (jBy S c9))) (a19 (jAddRow S R c9 (nI (j_ahead c9)) (jBy S c9))) (a20 (jAddRow S R c9 (nI (j_ahead c9)) (jBy S c9)))) ++ X) := hD
      refine lv_aload_n hx hb dX9_addConstraint_59 rfl (lv_at hl 1 rfl) ?_
      refine rM_get (v := .ref (ad 9)) hx hb hts hin hown hK hP 11 (by decide) rfl (by decide +kernel) dX9_addConstraint_60 ?_
      refine lv_bipush (v := nI 22) hx hb dX9_addConstraint_63 (by decide) ?_
      refine lv_aload_n hx hb dX9_addConstraint_65 rfl (lv_at hl 1 rfl) ?_
      refine rM_get (v := .int (aF (jAddRow S R c9 (nI (j_ahead c9)) (jBy S c9)) 14)) hx hb hts hin hown hK hP 14 (by decide) rfl (by decide +kernel) dX9_addConstraint_66 ?_
      rw [(show aF (jAddRow S R c9 (nI (j_ahead c9)) (jBy S c9)) 14 = nI (R + 1) from rfl)]
      refine lv_iconst (v := nI 1) hx hb dX9_addConstraint_69 (by decide) ?_
      refine lv_isub hx hb dX9_addConstraint_70 ?_
      rw [pk_sub (by omega)]
      refine lv_imul hx hb dX9_addConstraint_71 ?_
      rw [pk_mul]
      refine lv_aload_n hx hb dX9_addConstraint_72 rfl (lv_at hl 1 rfl) ?_
      refine rM_get (v := .int (nI (C + 1))) hx hb hts hin hown hK hP 15 (by decide) rfl (by decide +kernel) dX9_addConstraint_73 ?_
      refine lv_iadd hx hb dX9_addConstraint_76 ?_
      rw [nI_add]
      refine lv_lconst (v := 1) hx hb dX9_addConstraint_77 (by decide) ?_
      refine rM_st9 (i := ((22 * ((R + 1) - 1)) + (C + 1))) hx hb hK hP hD hS (by omega) dX9_addConstraint_78 (fun H locs hP hD hS => ?_)
      have hP : va_P D vwCl (wM cy ad (mk9 (upd (aF (jAddRow S R c9 (nI (j_ahead c9)) (jBy S c9))) 15 (nI (C + 1))) (aG (jAddRow S R c9 (nI (j_ahead c9)) (jBy S c9))) (a1 (jAddRow S R c9 (nI (j_ahead c9)) (jBy S c9))) (a2 (jAddRow S R c9 (nI (j_ahead c9)) (jBy S c9))) (a3 (jAddRow S R c9 (nI (j_ahead c9)) (jBy S c9))) (a4 (jAddRow S R c9 (nI (j_ahead c9)) (jBy S c9))) (a5 (jAddRow S R c9 (nI (j_ahead c9)) (jBy S c9))) (a6 (jAddRow S R c9 (nI (j_ahead c9)) (jBy S c9))) (a7 (jAddRow S R c9 (nI (j_ahead c9)) (jBy S c9))) (a8 (jAddRow S R c9 (nI (j_ahead c9)) (jBy S c9))) (vp_updL (a9 (jAddRow S R c9 (nI (j_ahead c9)) (jBy S c9))) ((22 * ((R + 1) - 1)) + (C + 1)) 1) (a10 (jAddRow S R c9 (nI (j_ahead c9)) (jBy S c9))) (upd (a11 (jAddRow S R c9 (nI (j_ahead c9)) (jBy S c9))) (C + 1) (nI (j_lack c9))) (a12 (jAddRow S R c9 (nI (j_ahead c9)) (jBy S c9))) (a13 (jAddRow S R c9 (nI (j_ahead c9)) (jBy S c9))) (a14 (jAddRow S R c9 (nI (j_ahead c9)) (jBy S c9))) (a15 (jAddRow S R c9 (nI (j_ahead c9)) (jBy S c9))) (a16 (jAddRow S R c9 (nI (j_ahead c9)) (jBy S c9))) (a17 (jAddRow S R c9 (nI (j_ahead c9)) (jBy S c9))) (a18 (jAddRow S R c9 (nI (j_ahead c9)) (jBy S c9))) (a19 (jAddRow S R c9 (nI (j_ahead c9)) (jBy S c9))) (a20 (jAddRow S R c9 (nI (j_ahead c9)) (jBy S c9)))) ++ X) H := hP
      have hD : va_D (va_A (wM cy ad S ++ X) sz) (wM cy ad (mk9 (upd (aF (jAddRow S R c9 (nI (j_ahead c9)) (jBy S c9))) 15 (nI (C + 1))) (aG (jAddRow S R c9 (nI (j_ahead c9)) (jBy S c9))) (a1 (jAddRow S R c9 (nI (j_ahead c9)) (jBy S c9))) (a2 (jAddRow S R c9 (nI (j_ahead c9)) (jBy S c9))) (a3 (jAddRow S R c9 (nI (j_ahead c9)) (jBy S c9))) (a4 (jAddRow S R c9 (nI (j_ahead c9)) (jBy S c9))) (a5 (jAddRow S R c9 (nI (j_ahead c9)) (jBy S c9))) (a6 (jAddRow S R c9 (nI (j_ahead c9)) (jBy S c9))) (a7 (jAddRow S R c9 (nI (j_ahead c9)) (jBy S c9))) (a8 (jAddRow S R c9 (nI (j_ahead c9)) (jBy S c9))) (vp_updL (a9 (jAddRow S R c9 (nI (j_ahead c9)) (jBy S c9))) ((22 * ((R + 1) - 1)) + (C + 1)) 1) (a10 (jAddRow S R c9 (nI (j_ahead c9)) (jBy S c9))) (upd (a11 (jAddRow S R c9 (nI (j_ahead c9)) (jBy S c9))) (C + 1) (nI (j_lack c9))) (a12 (jAddRow S R c9 (nI (j_ahead c9)) (jBy S c9))) (a13 (jAddRow S R c9 (nI (j_ahead c9)) (jBy S c9))) (a14 (jAddRow S R c9 (nI (j_ahead c9)) (jBy S c9))) (a15 (jAddRow S R c9 (nI (j_ahead c9)) (jBy S c9))) (a16 (jAddRow S R c9 (nI (j_ahead c9)) (jBy S c9))) (a17 (jAddRow S R c9 (nI (j_ahead c9)) (jBy S c9))) (a18 (jAddRow S R c9 (nI (j_ahead c9)) (jBy S c9))) (a19 (jAddRow S R c9 (nI (j_ahead c9)) (jBy S c9))) (a20 (jAddRow S R c9 (nI (j_ahead c9)) (jBy S c9)))) ++ X) := hD
      refine lv_goto (tgt := 104) hx hb dX9_addConstraint_79 (by decide) ?_
      exact W.vret hx hb hr (fun t ht hW => ⟨⟨_, rfl, by simp only [jAddCon]; rw [if_neg c4], by rw [ht]; exact hP, va_K.moved hW.alike hK, hD⟩, hS.F ht⟩) hS.2.2 dX9_addConstraint_104
  refine lv_aload_n hx hb dX9_addConstraint_0 rfl (lv_at hl 0 rfl) ?_
  refine lv_iload_n hx hb dX9_addConstraint_1 rfl (lv_at hl 1 rfl) ?_
  refine lv_bipush (v := nI 6) hx hb dX9_addConstraint_2 (by decide) ?_
  refine gCalli (ws := wM cy ad S ++ X) (As := [.int (nI c9), .int (nI 6)]) (rest := []) (q0 := 0) (r0 := (RX9, TX9, 36)) hx hb hml hown hts hK hP hD hS hA hl.1 wM_0 rfl (cM_of l D cy ad X _ _ (c9 := c9) (w9 := 6) (by omega) (by omega)) (cwV 2 hts gX9_addConstraint_X9_of rfl rfl rfl (by decide +kernel) ⟨Nat.le_of_ble_eq_true rfl, Nat.le_of_ble_eq_true rfl⟩) rfl rfl (Nat.le_of_ble_eq_true rfl) ⟨Nat.le_of_ble_eq_true rfl, Nat.le_of_ble_eq_true rfl⟩ dX9_addConstraint_4 (fun r10 ws10 H locs e10 hP hD hS => ?_)
  obtain ⟨e10a, e10b⟩ := e10
  rw [show r10 = jOf S c9 6 from e10a]
  rw [e10b] at hP hD
  refine lv_if_ne (tgt := 14) hx hb dX9_addConstraint_7 (by decide) (fun c11 => ?_) (fun c11 => ?_)
  · skip
    refine lv_iconst (v := nI 1) hx hb dX9_addConstraint_14 (by decide) ?_
    exact J15 _ _ _ _ (by simp [jBy, c11]) hP hD hS (lv_sub hl [0, 1] rfl)
  · skip
    refine lv_iconst (v := -1) hx hb dX9_addConstraint_10 (by decide) ?_
    refine lv_goto (tgt := 15) hx hb dX9_addConstraint_11 (by decide) ?_
    exact J15 _ _ _ _ (by simp [jBy, c11]) hP hD hS (lv_sub hl [0, 1] rfl)
