/-! the reference: layRows -/
theorem jAddCon_n {S : MS} {R C c9 : Nat} (hC : aF S 15 = nI C) : ∃ R2 C2 : Nat, aF (jAddCon S R C c9) 14 = nI R2 ∧ R2 ≤ R + 2 ∧ aF (jAddCon S R C c9) 15 = nI C2 ∧ C2 ≤ C + 1 := by
  unfold jAddCon
  split
  · split
    · exact ⟨R + 1, C, rfl, by omega, hC, by omega⟩
    · exact ⟨R + 2, C, rfl, by omega, hC, by omega⟩
  · exact ⟨R + 1, C + 1, rfl, by omega, rfl, by omega⟩
def fLay (mask req : Int32) (k : Nat) (U : MS) : MS := if jThere U k = 0 then U else if ¬ (mask >>> (nI k &&& 31)) &&& nI 1 = nI 1 then U else if req = 0 then jAddCon U (aF U 14).toNatClampNeg (aF U 15).toNatClampNeg k
  else if ¬ jOf U k 8 = 0 then U else jAddCon U (aF U 14).toNatClampNeg (aF U 15).toNatClampNeg k
def jLay (S : MS) (mask req : Int32) : MS := lpN (fLay mask req) 15 0 (jBegin S)
set_option maxHeartbeats 4000000 in
set_option maxRecDepth 100000 in
theorem cM_layRows (l : Launch) (D : va_G) (cy : Nat → ClassId) (ad : Nat → Nat) (X : va_W) (S : MS) (sz : Nat) (mask req : Int32) : Met l yX9_layRows wsX9_layRows (rm9 3 80) (gPc D cy (wM cy ad S ++ X) sz [.ref (ad 0), .int mask, .int req]) (gQv D cy (wM cy ad S ++ X) sz (fun ws' => ws' = wM cy ad (jLay S mask req) ++ X)) 0 0 (va_A (wM cy ad S ++ X) sz) := by
  refine gHead (cc := cX9_layRows) (maxL := 4) (ret := none) (by decide) rfl (Nat.le_of_ble_eq_true rfl) ?_
  intro p e s m below meth c ls hx hb hr hlocks hml hown hts hsz hP hK hD hS hA hl
  have hin : ∀ w ∈ u_ws RX9 TX9 36, w ∈ wsX9_layRows := by decide +kernel
  have hown : s.vm.findClass RX9 = some m.cls := hown
  have hl : lv_has ls 4 [(0, .ref (ad 0)), (1, .int mask), (2, .int req)] := hl
  refine lv_aload_n hx hb dX9_layRows_0 rfl (lv_at hl 0 rfl) ?_
  refine gCallv (ws := wM cy ad S ++ X) (As := []) (rest := []) (q0 := 0) (r0 := (RX9, TX9, 36)) hx hb hml hown hts hK hP hD hS hA hl.1 wM_0 rfl (cM_beginRows l D cy ad X _ _) (cwV 0 hts gX9_layRows_X9_beginRows rfl rfl rfl (by decide +kernel) ⟨Nat.le_of_ble_eq_true rfl, Nat.le_of_ble_eq_true rfl⟩) rfl rfl (Nat.le_of_ble_eq_true rfl) ⟨Nat.le_of_ble_eq_true rfl, Nat.le_of_ble_eq_true rfl⟩ dX9_layRows_1 (fun ws1 H locs e1 hP hD hS => ?_)
  rw [show ws1 = _ from e1] at hP hD
  have hP : va_P D vwCl (wM cy ad (jBegin S) ++ X) H := hP
  have hD : va_D (va_A (wM cy ad S ++ X) sz) (wM cy ad (jBegin S) ++ X) := hD
  refine lv_iconst (v := nI 0) hx hb dX9_layRows_4 (by decide) ?_
  refine lv_istore_n (lv' := [(3, .int (nI 0)), (0, .ref (ad 0)), (1, .int mask), (2, .int req)]) hx hb dX9_layRows_5 rfl hl (by decide) rfl (fun ls hl => ?_)
  have L6 : ∀ (n k : Nat) (q : MS) (H : Heap) (locs : List Loc) (ls : Array Slot), k + n = 15 → (∃ R C : Nat, aF q 14 = nI R ∧ R ≤ 6 + 2 * k ∧ aF q 15 = nI C ∧ C ≤ 6 + k) → va_P D vwCl (wM cy ad q ++ X) H → va_D (va_A (wM cy ad S ++ X) sz) (wM cy ad q ++ X) → va_S (va_A (wM cy ad S ++ X) sz) s.heap H locs → lv_has ls 4 [(3, .int (nI k)), (0, .ref (ad 0)), (1, .int mask), (2, .int req)] → (∀ (H : Heap) (locs : List Loc) (ls : Array Slot), (∃ R C : Nat, aF (lpN (fLay mask req) n k q) 14 = nI R ∧ R ≤ 6 + 2 * 15 ∧ aF (lpN (fLay mask req) n k q) 15 = nI C ∧ C ≤ 6 + 15) → va_P D vwCl (wM cy ad (lpN (fLay mask req) n k q) ++ X) H → va_D (va_A (wM cy ad S ++ X) sz) (wM cy ad (lpN (fLay mask req) n k q) ++ X) → va_S (va_A (wM cy ad S ++ X) sz) s.heap H locs → lv_has ls 4 [(3, .int (nI 15)), (0, .ref (ad 0)), (1, .int mask), (2, .int req)] → W p l e (headSpec wsX9_layRows (rm9 3 80)).room s m ([.ref (ad 0), .int mask, .int req] : List Value).toArray below meth c H locs 0 0 (MQ below (gQv D cy (wM cy ad S ++ X) sz (fun ws' => ws' = wM cy ad (jLay S mask req) ++ X)) ([.ref (ad 0), .int mask, .int req] : List Value).toArray s 0 0 (va_A (wM cy ad S ++ X) sz)) (F0 m 54 ls [])) → W p l e (headSpec wsX9_layRows (rm9 3 80)).room s m ([.ref (ad 0), .int mask, .int req] : List Value).toArray below meth c H locs 0 0 (MQ below (gQv D cy (wM cy ad S ++ X) sz (fun ws' => ws' = wM cy ad (jLay S mask req) ++ X)) ([.ref (ad 0), .int mask, .int req] : List Value).toArray s 0 0 (va_A (wM cy ad S ++ X) sz)) (F0 m 6 ls []) := by
    intro n
    induction n with
    | zero =>
      intro k q H locs ls hk hq hP hD hS hl hex
      obtain rfl : 15 = k := by omega
      refine lv_iload_n hx hb dX9_layRows_6 rfl (lv_at hl 0 rfl) ?_
      refine lv_bipush (v := nI 14) hx hb dX9_layRows_7 (by decide) ?_
      refine lv_icmp_gt (tgt := 54) hx hb dX9_layRows_9 (by decide) (fun c2 => ?_) (fun c2 => ?_)
      · rw [nI_ltI (by omega) (by omega)] at c2
        exact hex _ _ _ hq hP hD hS (lv_sub hl [0, 1, 2, 3] rfl)
      · exact absurd c2 (by rw [nI_ltI (by omega) (by omega)]; omega)
    | succ n ih =>
      intro k q H locs ls hk hq hP hD hS hl hex
      have hk6 : k < 15 := by omega
      refine lv_iload_n hx hb dX9_layRows_6 rfl (lv_at hl 0 rfl) ?_
      refine lv_bipush (v := nI 14) hx hb dX9_layRows_7 (by decide) ?_
      refine lv_icmp_gt (tgt := 54) hx hb dX9_layRows_9 (by decide) (fun c3 => ?_) (fun c3 => ?_)
      · exact absurd c3 (by rw [nI_ltI (by omega) (by omega)]; omega)
      · rw [nI_ltI (by omega) (by omega)] at c3
        obtain ⟨R, C, hR, hR2, hC, hC2⟩ := hq
        have rr9 : (aF q 14).toNatClampNeg = R := (by rw [hR, nI_clamp (by omega)])
        have cc9 : (aF q 15).toNatClampNeg = C := (by rw [hC, nI_clamp (by omega)])
        refine lv_aload_n hx hb dX9_layRows_12 rfl (lv_at hl 1 rfl) ?_
        refine lv_iload_n hx hb dX9_layRows_13 rfl (lv_at hl 0 rfl) ?_
        refine gCalli (ws := wM cy ad q ++ X) (As := [.int (nI k)]) (rest := []) (q0 := 0) (r0 := (RX9, TX9, 36)) hx hb hml hown hts hK hP hD hS hA hl.1 wM_0 rfl (cM_isThere l D cy ad X _ _ (c9 := k) (by omega)) (cwV 1 hts gX9_layRows_X9_isThere rfl rfl rfl (by decide +kernel) ⟨Nat.le_of_ble_eq_true rfl, Nat.le_of_ble_eq_true rfl⟩) rfl rfl (Nat.le_of_ble_eq_true rfl) ⟨Nat.le_of_ble_eq_true rfl, Nat.le_of_ble_eq_true rfl⟩ dX9_layRows_14 (fun r4 ws4 H locs e4 hP hD hS => ?_)
        obtain ⟨e4a, e4b⟩ := e4
        rw [show r4 = jThere q k from e4a]
        rw [e4b] at hP hD
        refine lv_if_eq (tgt := 48) hx hb dX9_layRows_17 (by decide) (fun c5 => ?_) (fun c5 => ?_)
        · skip
          refine lv_iinc (v := nI (k + 1)) (lv' := [(3, .int (nI (k + 1))), (0, .ref (ad 0)), (1, .int mask), (2, .int req)]) hx hb dX9_layRows_48 hl (k := 0) rfl (nI_1 _) (by decide) rfl (fun ls hl => ?_)
          refine lv_goto (tgt := 6) hx hb dX9_layRows_51 (by decide) ?_
          have he : (fLay mask req) k q = q := by simp [fLay, rr9, cc9, c5, c3]
          rw [lpN_s (f := fLay mask req), he] at hex
          exact ih ((k + 1)) q _ _ _ (by omega) ⟨R, C, hR, by omega, hC, by omega⟩ hP hD hS (lv_sub hl [0, 1, 2, 3] rfl) hex
        · skip
          refine lv_iload_n hx hb dX9_layRows_20 rfl (lv_at hl 2 rfl) ?_
          refine lv_iload_n hx hb dX9_layRows_21 rfl (lv_at hl 0 rfl) ?_
          refine lv_ishr hx hb dX9_layRows_22 ?_
          refine lv_iconst (v := nI 1) hx hb dX9_layRows_23 (by decide) ?_
          refine lv_iand hx hb dX9_layRows_24 ?_
          refine lv_iconst (v := nI 1) hx hb dX9_layRows_25 (by decide) ?_
          refine lv_icmp_ne (tgt := 48) hx hb dX9_layRows_26 (by decide) (fun c6 => ?_) (fun c6 => ?_)
          · skip
            refine lv_iinc (v := nI (k + 1)) (lv' := [(3, .int (nI (k + 1))), (0, .ref (ad 0)), (1, .int mask), (2, .int req)]) hx hb dX9_layRows_48 hl (k := 0) rfl (nI_1 _) (by decide) rfl (fun ls hl => ?_)
            refine lv_goto (tgt := 6) hx hb dX9_layRows_51 (by decide) ?_
            have he : (fLay mask req) k q = q := by simp [fLay, rr9, cc9, c5, c6, c3]
            rw [lpN_s (f := fLay mask req), he] at hex
            exact ih ((k + 1)) q _ _ _ (by omega) ⟨R, C, hR, by omega, hC, by omega⟩ hP hD hS (lv_sub hl [0, 1, 2, 3] rfl) hex
          · skip
            refine lv_iload_n hx hb dX9_layRows_29 rfl (lv_at hl 3 rfl) ?_
            refine lv_if_eq (tgt := 43) hx hb dX9_layRows_30 (by decide) (fun c7 => ?_) (fun c7 => ?_)
            · skip
              refine lv_aload_n hx hb dX9_layRows_43 rfl (lv_at hl 1 rfl) ?_
              refine lv_iload_n hx hb dX9_layRows_44 rfl (lv_at hl 0 rfl) ?_
              refine gCallv (ws := wM cy ad q ++ X) (As := [.int (nI k)]) (rest := []) (q0 := 0) (r0 := (RX9, TX9, 36)) hx hb hml hown hts hK hP hD hS hA hl.1 wM_0 rfl (cM_addConstraint l D cy ad X _ _ (R := R) (C := C) (c9 := k) hR hC (by omega) (by omega) (by omega)) (cwV 1 hts gX9_layRows_X9_addConstraint rfl rfl rfl (by decide +kernel) ⟨Nat.le_of_ble_eq_true rfl, Nat.le_of_ble_eq_true rfl⟩) rfl rfl (Nat.le_of_ble_eq_true rfl) ⟨Nat.le_of_ble_eq_true rfl, Nat.le_of_ble_eq_true rfl⟩ dX9_layRows_45 (fun ws8 H locs e8 hP hD hS => ?_)
              rw [show ws8 = _ from e8] at hP hD
              have hP : va_P D vwCl (wM cy ad (jAddCon q R C k) ++ X) H := hP
              have hD : va_D (va_A (wM cy ad S ++ X) sz) (wM cy ad (jAddCon q R C k) ++ X) := hD
              refine lv_iinc (v := nI (k + 1)) (lv' := [(3, .int (nI (k + 1))), (0, .ref (ad 0)), (1, .int mask), (2, .int req)]) hx hb dX9_layRows_48 hl (k := 0) rfl (nI_1 _) (by decide) rfl (fun ls hl => ?_)
              refine lv_goto (tgt := 6) hx hb dX9_layRows_51 (by decide) ?_
              have he : (fLay mask req) k q = (jAddCon q R C k) := by simp [fLay, rr9, cc9, c5, c6, c7, c3]
              rw [lpN_s (f := fLay mask req), he] at hex
              exact ih ((k + 1)) (jAddCon q R C k) _ _ _ (by omega) (by obtain ⟨R2, C2, g1, g2, g3, g4⟩ := jAddCon_n (S := q) (R := R) (C := C) (c9 := k) hC; exact ⟨R2, C2, g1, by omega, g3, by omega⟩) hP hD hS (lv_sub hl [0, 1, 2, 3] rfl) hex
            · skip
              refine lv_aload_n hx hb dX9_layRows_33 rfl (lv_at hl 1 rfl) ?_
              refine lv_iload_n hx hb dX9_layRows_34 rfl (lv_at hl 0 rfl) ?_
              refine lv_bipush (v := nI 8) hx hb dX9_layRows_35 (by decide) ?_
              refine gCalli (ws := wM cy ad q ++ X) (As := [.int (nI k), .int (nI 8)]) (rest := []) (q0 := 0) (r0 := (RX9, TX9, 36)) hx hb hml hown hts hK hP hD hS hA hl.1 wM_0 rfl (cM_of l D cy ad X _ _ (c9 := k) (w9 := 8) (by omega) (by omega)) (cwV 2 hts gX9_layRows_X9_of rfl rfl rfl (by decide +kernel) ⟨Nat.le_of_ble_eq_true rfl, Nat.le_of_ble_eq_true rfl⟩) rfl rfl (Nat.le_of_ble_eq_true rfl) ⟨Nat.le_of_ble_eq_true rfl, Nat.le_of_ble_eq_true rfl⟩ dX9_layRows_37 (fun r9 ws9 H locs e9 hP hD hS => ?_)
              obtain ⟨e9a, e9b⟩ := e9
              rw [show r9 = jOf q k 8 from e9a]
              rw [e9b] at hP hD
              refine lv_if_ne (tgt := 48) hx hb dX9_layRows_40 (by decide) (fun c10 => ?_) (fun c10 => ?_)
              · skip
                refine lv_iinc (v := nI (k + 1)) (lv' := [(3, .int (nI (k + 1))), (0, .ref (ad 0)), (1, .int mask), (2, .int req)]) hx hb dX9_layRows_48 hl (k := 0) rfl (nI_1 _) (by decide) rfl (fun ls hl => ?_)
                refine lv_goto (tgt := 6) hx hb dX9_layRows_51 (by decide) ?_
                have he : (fLay mask req) k q = q := by simp [fLay, rr9, cc9, c5, c6, c7, c10, c3]
                rw [lpN_s (f := fLay mask req), he] at hex
                exact ih ((k + 1)) q _ _ _ (by omega) ⟨R, C, hR, by omega, hC, by omega⟩ hP hD hS (lv_sub hl [0, 1, 2, 3] rfl) hex
              · skip
                refine lv_aload_n hx hb dX9_layRows_43 rfl (lv_at hl 1 rfl) ?_
                refine lv_iload_n hx hb dX9_layRows_44 rfl (lv_at hl 0 rfl) ?_
                refine gCallv (ws := wM cy ad q ++ X) (As := [.int (nI k)]) (rest := []) (q0 := 0) (r0 := (RX9, TX9, 36)) hx hb hml hown hts hK hP hD hS hA hl.1 wM_0 rfl (cM_addConstraint l D cy ad X _ _ (R := R) (C := C) (c9 := k) hR hC (by omega) (by omega) (by omega)) (cwV 1 hts gX9_layRows_X9_addConstraint rfl rfl rfl (by decide +kernel) ⟨Nat.le_of_ble_eq_true rfl, Nat.le_of_ble_eq_true rfl⟩) rfl rfl (Nat.le_of_ble_eq_true rfl) ⟨Nat.le_of_ble_eq_true rfl, Nat.le_of_ble_eq_true rfl⟩ dX9_layRows_45 (fun ws11 H locs e11 hP hD hS => ?_)
                rw [show ws11 = _ from e11] at hP hD
                have hP : va_P D vwCl (wM cy ad (jAddCon q R C k) ++ X) H := hP
                have hD : va_D (va_A (wM cy ad S ++ X) sz) (wM cy ad (jAddCon q R C k) ++ X) := hD
                refine lv_iinc (v := nI (k + 1)) (lv' := [(3, .int (nI (k + 1))), (0, .ref (ad 0)), (1, .int mask), (2, .int req)]) hx hb dX9_layRows_48 hl (k := 0) rfl (nI_1 _) (by decide) rfl (fun ls hl => ?_)
                refine lv_goto (tgt := 6) hx hb dX9_layRows_51 (by decide) ?_
                have he : (fLay mask req) k q = (jAddCon q R C k) := by simp [fLay, rr9, cc9, c5, c6, c7, c10, c3]
                rw [lpN_s (f := fLay mask req), he] at hex
                exact ih ((k + 1)) (jAddCon q R C k) _ _ _ (by omega) (by obtain ⟨R2, C2, g1, g2, g3, g4⟩ := jAddCon_n (S := q) (R := R) (C := C) (c9 := k) hC; exact ⟨R2, C2, g1, by omega, g3, by omega⟩) hP hD hS (lv_sub hl [0, 1, 2, 3] rfl) hex
  refine L6 15 0 (jBegin S) _ _ _ (by omega) ⟨6, 6, rfl, by omega, rfl, by omega⟩ hP hD hS (lv_sub hl [0, 1, 2, 3] rfl) (fun H locs ls hq hP hD hS hl => ?_)
  exact W.vret hx hb hr (fun t ht hW => ⟨⟨_, rfl, rfl, by rw [ht]; exact hP, va_K.moved hW.alike hK, hD⟩, hS.F ht⟩) hS.2.2 dX9_layRows_54
