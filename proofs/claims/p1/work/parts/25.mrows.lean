/-! the reference: rows and their exchange -/
def fCC (R j : Nat) (c : Nat → Int64) : Nat → Int64 := vp_updL c (22 * R + j) 0
def jClear (S : MS) (R C : Nat) : MS := mk9 (aF S) (aG S) (a1 S) (a2 S) (a3 S) (a4 S) (a5 S) (a6 S) (a7 S) (a8 S) (lpN (fCC R) (C + 1) 0 (a9 S)) (a10 S) (a11 S) (a12 S) (a13 S) (a14 S) (a15 S) (a16 S) (a17 S) (a18 S) (a19 S) (a20 S)
set_option maxHeartbeats 4000000 in
set_option maxRecDepth 100000 in
theorem cM_clearCost (l : Launch) (D : va_G) (cy : Nat → ClassId) (ad : Nat → Nat) (X : va_W) (S : MS) (sz : Nat) {R C : Nat} (hR : aF S 14 = nI R) (hC : aF S 15 = nI C) (hR36 : R ≤ 36) (hC21 : C ≤ 21) : Met l yX9_clearCost wsX9_clearCost (rm9 0 0) (gPc D cy (wM cy ad S ++ X) sz [.ref (ad 0)]) (gQv D cy (wM cy ad S ++ X) sz (fun ws' => ws' = wM cy ad (jClear S R C) ++ X)) 0 0 (va_A (wM cy ad S ++ X) sz) := by
  refine gHead (cc := cX9_clearCost) (maxL := 2) (ret := none) (by decide) rfl (Nat.le_of_ble_eq_true rfl) ?_
  intro p e s m below meth c ls hx hb hr hlocks hml hown hts hsz hP hK hD hS hA hl
  have hin : ∀ w ∈ u_ws RX9 TX9 36, w ∈ wsX9_clearCost := by decide +kernel
  have hown : s.vm.findClass RX9 = some m.cls := hown
  have hl : lv_has ls 2 [(0, .ref (ad 0))] := hl
  refine lv_iconst (v := nI 0) hx hb dX9_clearCost_0 (by decide) ?_
  refine lv_istore_n (lv' := [(1, .int (nI 0)), (0, .ref (ad 0))]) hx hb dX9_clearCost_1 rfl hl (by decide) rfl (fun ls hl => ?_)
  have L2 : ∀ (n j : Nat) (q : Nat → Int64) (H : Heap) (locs : List Loc) (ls : Array Slot), j + n = C + 1 → va_P D vwCl (wM cy ad (mk9 (aF S) (aG S) (a1 S) (a2 S) (a3 S) (a4 S) (a5 S) (a6 S) (a7 S) (a8 S) q (a10 S) (a11 S) (a12 S) (a13 S) (a14 S) (a15 S) (a16 S) (a17 S) (a18 S) (a19 S) (a20 S)) ++ X) H → va_D (va_A (wM cy ad S ++ X) sz) (wM cy ad (mk9 (aF S) (aG S) (a1 S) (a2 S) (a3 S) (a4 S) (a5 S) (a6 S) (a7 S) (a8 S) q (a10 S) (a11 S) (a12 S) (a13 S) (a14 S) (a15 S) (a16 S) (a17 S) (a18 S) (a19 S) (a20 S)) ++ X) → va_S (va_A (wM cy ad S ++ X) sz) s.heap H locs → lv_has ls 2 [(1, .int (nI j)), (0, .ref (ad 0))] → (∀ (H : Heap) (locs : List Loc) (ls : Array Slot), va_P D vwCl (wM cy ad (mk9 (aF S) (aG S) (a1 S) (a2 S) (a3 S) (a4 S) (a5 S) (a6 S) (a7 S) (a8 S) (lpN (fCC R) n j q) (a10 S) (a11 S) (a12 S) (a13 S) (a14 S) (a15 S) (a16 S) (a17 S) (a18 S) (a19 S) (a20 S)) ++ X) H → va_D (va_A (wM cy ad S ++ X) sz) (wM cy ad (mk9 (aF S) (aG S) (a1 S) (a2 S) (a3 S) (a4 S) (a5 S) (a6 S) (a7 S) (a8 S) (lpN (fCC R) n j q) (a10 S) (a11 S) (a12 S) (a13 S) (a14 S) (a15 S) (a16 S) (a17 S) (a18 S) (a19 S) (a20 S)) ++ X) → va_S (va_A (wM cy ad S ++ X) sz) s.heap H locs → lv_has ls 2 [(1, .int (nI (C + 1))), (0, .ref (ad 0))] → W p l e (headSpec wsX9_clearCost (rm9 0 0)).room s m ([.ref (ad 0)] : List Value).toArray below meth c H locs 0 0 (MQ below (gQv D cy (wM cy ad S ++ X) sz (fun ws' => ws' = wM cy ad (jClear S R C) ++ X)) ([.ref (ad 0)] : List Value).toArray s 0 0 (va_A (wM cy ad S ++ X) sz)) (F0 m 31 ls [])) → W p l e (headSpec wsX9_clearCost (rm9 0 0)).room s m ([.ref (ad 0)] : List Value).toArray below meth c H locs 0 0 (MQ below (gQv D cy (wM cy ad S ++ X) sz (fun ws' => ws' = wM cy ad (jClear S R C) ++ X)) ([.ref (ad 0)] : List Value).toArray s 0 0 (va_A (wM cy ad S ++ X) sz)) (F0 m 2 ls []) := by
    intro n
    induction n with
    | zero =>
      intro j q H locs ls hk hP hD hS hl hex
      obtain rfl : C + 1 = j := by omega
      refine lv_iload_n hx hb dX9_clearCost_2 rfl (lv_at hl 0 rfl) ?_
      refine lv_aload_n hx hb dX9_clearCost_3 rfl (lv_at hl 1 rfl) ?_
      refine rM_get (v := .int (aF S 15)) hx hb hts hin hown hK hP 15 (by decide) rfl (by decide +kernel) dX9_clearCost_4 ?_
      rw [hC]
      refine lv_icmp_gt (tgt := 31) hx hb dX9_clearCost_7 (by decide) (fun c1 => ?_) (fun c1 => ?_)
      · rw [nI_ltI (by omega) (by omega)] at c1
        exact hex _ _ _ hP hD hS (lv_sub hl [0, 1] rfl)
      · exact absurd c1 (by rw [nI_ltI (by omega) (by omega)]; omega)
    | succ n ih =>
      intro j q H locs ls hk hP hD hS hl hex
      have hk2 : j < C + 1 := by omega
      refine lv_iload_n hx hb dX9_clearCost_2 rfl (lv_at hl 0 rfl) ?_
      refine lv_aload_n hx hb dX9_clearCost_3 rfl (lv_at hl 1 rfl) ?_
      refine rM_get (v := .int (aF S 15)) hx hb hts hin hown hK hP 15 (by decide) rfl (by decide +kernel) dX9_clearCost_4 ?_
      rw [hC]
      refine lv_icmp_gt (tgt := 31) hx hb dX9_clearCost_7 (by decide) (fun c2 => ?_) (fun c2 => ?_)
      · exact absurd c2 (by rw [nI_ltI (by omega) (by omega)]; omega)
      · rw [nI_ltI (by omega) (by omega)] at c2
        refine lv_aload_n hx hb dX9_clearCost_10 rfl (lv_at hl 1 rfl) ?_
        refine rM_get (v := .ref (ad 9)) hx hb hts hin hown hK hP 11 (by decide) rfl (by decide +kernel) dX9_clearCost_11 ?_
        refine lv_bipush (v := nI 22) hx hb dX9_clearCost_14 (by decide) ?_
        refine lv_aload_n hx hb dX9_clearCost_16 rfl (lv_at hl 1 rfl) ?_
        refine rM_get (v := .int (aF S 14)) hx hb hts hin hown hK hP 14 (by decide) rfl (by decide +kernel) dX9_clearCost_17 ?_
        rw [hR]
        refine lv_imul hx hb dX9_clearCost_20 ?_
        rw [pk_mul]
        refine lv_iload_n hx hb dX9_clearCost_21 rfl (lv_at hl 0 rfl) ?_
        refine lv_iadd hx hb dX9_clearCost_22 ?_
        rw [nI_add]
        refine lv_lconst (v := 0) hx hb dX9_clearCost_23 (by decide) ?_
        refine rM_st9 (i := ((22 * R) + j)) hx hb hK hP hD hS (by omega) dX9_clearCost_24 (fun H locs hP hD hS => ?_)
        have hP : va_P D vwCl (wM cy ad (mk9 (aF S) (aG S) (a1 S) (a2 S) (a3 S) (a4 S) (a5 S) (a6 S) (a7 S) (a8 S) (vp_updL q ((22 * R) + j) 0) (a10 S) (a11 S) (a12 S) (a13 S) (a14 S) (a15 S) (a16 S) (a17 S) (a18 S) (a19 S) (a20 S)) ++ X) H := hP
        have hD : va_D (va_A (wM cy ad S ++ X) sz) (wM cy ad (mk9 (aF S) (aG S) (a1 S) (a2 S) (a3 S) (a4 S) (a5 S) (a6 S) (a7 S) (a8 S) (vp_updL q ((22 * R) + j) 0) (a10 S) (a11 S) (a12 S) (a13 S) (a14 S) (a15 S) (a16 S) (a17 S) (a18 S) (a19 S) (a20 S)) ++ X) := hD
        refine lv_iinc (v := nI (j + 1)) (lv' := [(1, .int (nI (j + 1))), (0, .ref (ad 0))]) hx hb dX9_clearCost_25 hl (k := 0) rfl (nI_1 _) (by decide) rfl (fun ls hl => ?_)
        refine lv_goto (tgt := 2) hx hb dX9_clearCost_28 (by decide) ?_
        have he : (fCC R) j q = (vp_updL q ((22 * R) + j) 0) := rfl
        rw [lpN_s, he] at hex
        exact ih ((j + 1)) (vp_updL q ((22 * R) + j) 0) _ _ _ (by omega) hP hD hS (lv_sub hl [0, 1] rfl) hex
  refine L2 (C + 1) 0 (a9 S) _ _ _ (by omega) hP hD hS (lv_sub hl [0, 1] rfl) (fun H locs ls hP hD hS hl => ?_)
  exact W.vret hx hb hr (fun t ht hW => ⟨⟨_, rfl, rfl, by rw [ht]; exact hP, va_K.moved hW.alike hK, hD⟩, hS.F ht⟩) hS.2.2 dX9_clearCost_31
def fTu (i j : Nat) (c : Nat → Int64) : Nat → Int64 := vp_updL c (22 * i + j) (-(c (22 * i + j)))
def fTu2 (C i : Nat) (c : Nat → Int64) : Nat → Int64 := lpN (fTu i) (C + 1) 0 c
def jTurn (S : MS) (R C : Nat) : MS := mk9 (aF S) (vp_updL (aG S) 16 (-(aG S 16))) (a1 S) (a2 S) (a3 S) (a4 S) (a5 S) (a6 S) (a7 S) (a8 S) (lpN (fTu2 C) (R + 1) 0 (a9 S)) (a10 S) (a11 S) (a12 S) (a13 S) (a14 S) (a15 S) (a16 S) (a17 S) (a18 S) (a19 S) (a20 S)
set_option maxHeartbeats 4000000 in
set_option maxRecDepth 100000 in
theorem cM_turnAll (l : Launch) (D : va_G) (cy : Nat → ClassId) (ad : Nat → Nat) (X : va_W) (S : MS) (sz : Nat) {R C : Nat} (hR : aF S 14 = nI R) (hC : aF S 15 = nI C) (hR36 : R ≤ 36) (hC21 : C ≤ 21) : Met l yX9_turnAll wsX9_turnAll (rm9 0 0) (gPc D cy (wM cy ad S ++ X) sz [.ref (ad 0)]) (gQv D cy (wM cy ad S ++ X) sz (fun ws' => ws' = wM cy ad (jTurn S R C) ++ X)) 0 0 (va_A (wM cy ad S ++ X) sz) := by
  refine gHead (cc := cX9_turnAll) (maxL := 3) (ret := none) (by decide) rfl (Nat.le_of_ble_eq_true rfl) ?_
  intro p e s m below meth c ls hx hb hr hlocks hml hown hts hsz hP hK hD hS hA hl
  have hin : ∀ w ∈ u_ws RX9 TX9 36, w ∈ wsX9_turnAll := by decide +kernel
  have hown : s.vm.findClass RX9 = some m.cls := hown
  have hl : lv_has ls 3 [(0, .ref (ad 0))] := hl
  refine lv_aload_n hx hb dX9_turnAll_0 rfl (lv_at hl 0 rfl) ?_
  refine lv_aload_n hx hb dX9_turnAll_1 rfl (lv_at hl 0 rfl) ?_
  refine rM_get (v := .long (aG S 16)) hx hb hts hin hown hK hP 16 (by decide) rfl (by decide +kernel) dX9_turnAll_2 ?_
  refine lv_lneg hx hb dX9_turnAll_5 ?_
  refine rM_put16 (v := -(aG S 16)) hx hb hts hin hown hK hP hD hS (by decide +kernel) dX9_turnAll_6 (fun H locs hP hD hS => ?_)
  have hP : va_P D vwCl (wM cy ad (mk9 (aF S) (vp_updL (aG S) 16 (-(aG S 16))) (a1 S) (a2 S) (a3 S) (a4 S) (a5 S) (a6 S) (a7 S) (a8 S) (a9 S) (a10 S) (a11 S) (a12 S) (a13 S) (a14 S) (a15 S) (a16 S) (a17 S) (a18 S) (a19 S) (a20 S)) ++ X) H := hP
  have hD : va_D (va_A (wM cy ad S ++ X) sz) (wM cy ad (mk9 (aF S) (vp_updL (aG S) 16 (-(aG S 16))) (a1 S) (a2 S) (a3 S) (a4 S) (a5 S) (a6 S) (a7 S) (a8 S) (a9 S) (a10 S) (a11 S) (a12 S) (a13 S) (a14 S) (a15 S) (a16 S) (a17 S) (a18 S) (a19 S) (a20 S)) ++ X) := hD
  refine lv_iconst (v := nI 0) hx hb dX9_turnAll_9 (by decide) ?_
  refine lv_istore_n (lv' := [(1, .int (nI 0)), (0, .ref (ad 0))]) hx hb dX9_turnAll_10 rfl hl (by decide) rfl (fun ls hl => ?_)
  have L11 : ∀ (n i : Nat) (q : Nat → Int64) (H : Heap) (locs : List Loc) (ls : Array Slot), i + n = R + 1 → va_P D vwCl (wM cy ad (mk9 (aF S) (vp_updL (aG S) 16 (-(aG S 16))) (a1 S) (a2 S) (a3 S) (a4 S) (a5 S) (a6 S) (a7 S) (a8 S) q (a10 S) (a11 S) (a12 S) (a13 S) (a14 S) (a15 S) (a16 S) (a17 S) (a18 S) (a19 S) (a20 S)) ++ X) H → va_D (va_A (wM cy ad S ++ X) sz) (wM cy ad (mk9 (aF S) (vp_updL (aG S) 16 (-(aG S 16))) (a1 S) (a2 S) (a3 S) (a4 S) (a5 S) (a6 S) (a7 S) (a8 S) q (a10 S) (a11 S) (a12 S) (a13 S) (a14 S) (a15 S) (a16 S) (a17 S) (a18 S) (a19 S) (a20 S)) ++ X) → va_S (va_A (wM cy ad S ++ X) sz) s.heap H locs → lv_has ls 3 [(1, .int (nI i)), (0, .ref (ad 0))] → (∀ (H : Heap) (locs : List Loc) (ls : Array Slot), va_P D vwCl (wM cy ad (mk9 (aF S) (vp_updL (aG S) 16 (-(aG S 16))) (a1 S) (a2 S) (a3 S) (a4 S) (a5 S) (a6 S) (a7 S) (a8 S) (lpN (fTu2 C) n i q) (a10 S) (a11 S) (a12 S) (a13 S) (a14 S) (a15 S) (a16 S) (a17 S) (a18 S) (a19 S) (a20 S)) ++ X) H → va_D (va_A (wM cy ad S ++ X) sz) (wM cy ad (mk9 (aF S) (vp_updL (aG S) 16 (-(aG S 16))) (a1 S) (a2 S) (a3 S) (a4 S) (a5 S) (a6 S) (a7 S) (a8 S) (lpN (fTu2 C) n i q) (a10 S) (a11 S) (a12 S) (a13 S) (a14 S) (a15 S) (a16 S) (a17 S) (a18 S) (a19 S) (a20 S)) ++ X) → va_S (va_A (wM cy ad S ++ X) sz) s.heap H locs → lv_has ls 3 [(1, .int (nI (R + 1))), (0, .ref (ad 0))] → W p l e (headSpec wsX9_turnAll (rm9 0 0)).room s m ([.ref (ad 0)] : List Value).toArray below meth c H locs 0 0 (MQ below (gQv D cy (wM cy ad S ++ X) sz (fun ws' => ws' = wM cy ad (jTurn S R C) ++ X)) ([.ref (ad 0)] : List Value).toArray s 0 0 (va_A (wM cy ad S ++ X) sz)) (F0 m 64 ls [])) → W p l e (headSpec wsX9_turnAll (rm9 0 0)).room s m ([.ref (ad 0)] : List Value).toArray below meth c H locs 0 0 (MQ below (gQv D cy (wM cy ad S ++ X) sz (fun ws' => ws' = wM cy ad (jTurn S R C) ++ X)) ([.ref (ad 0)] : List Value).toArray s 0 0 (va_A (wM cy ad S ++ X) sz)) (F0 m 11 ls []) := by
    intro n
    induction n with
    | zero =>
      intro i q H locs ls hk hP hD hS hl hex
      obtain rfl : R + 1 = i := by omega
      refine lv_iload_n hx hb dX9_turnAll_11 rfl (lv_at hl 0 rfl) ?_
      refine lv_aload_n hx hb dX9_turnAll_12 rfl (lv_at hl 1 rfl) ?_
      refine rM_get (v := .int (aF S 14)) hx hb hts hin hown hK hP 14 (by decide) rfl (by decide +kernel) dX9_turnAll_13 ?_
      rw [hR]
      refine lv_icmp_gt (tgt := 64) hx hb dX9_turnAll_16 (by decide) (fun c1 => ?_) (fun c1 => ?_)
      · rw [nI_ltI (by omega) (by omega)] at c1
        exact hex _ _ _ hP hD hS (lv_sub hl [0, 1] rfl)
      · exact absurd c1 (by rw [nI_ltI (by omega) (by omega)]; omega)
    | succ n ih =>
      intro i q H locs ls hk hP hD hS hl hex
      have hk11 : i < R + 1 := by omega
      refine lv_iload_n hx hb dX9_turnAll_11 rfl (lv_at hl 0 rfl) ?_
      refine lv_aload_n hx hb dX9_turnAll_12 rfl (lv_at hl 1 rfl) ?_
      refine rM_get (v := .int (aF S 14)) hx hb hts hin hown hK hP 14 (by decide) rfl (by decide +kernel) dX9_turnAll_13 ?_
      rw [hR]
      refine lv_icmp_gt (tgt := 64) hx hb dX9_turnAll_16 (by decide) (fun c2 => ?_) (fun c2 => ?_)
      · exact absurd c2 (by rw [nI_ltI (by omega) (by omega)]; omega)
      · rw [nI_ltI (by omega) (by omega)] at c2
        refine lv_iconst (v := nI 0) hx hb dX9_turnAll_19 (by decide) ?_
        refine lv_istore_n (lv' := [(2, .int (nI 0)), (1, .int (nI i)), (0, .ref (ad 0))]) hx hb dX9_turnAll_20 rfl hl (by decide) rfl (fun ls hl => ?_)
        have L21 : ∀ (n j : Nat) (u : Nat → Int64) (H : Heap) (locs : List Loc) (ls : Array Slot), j + n = C + 1 → va_P D vwCl (wM cy ad (mk9 (aF S) (vp_updL (aG S) 16 (-(aG S 16))) (a1 S) (a2 S) (a3 S) (a4 S) (a5 S) (a6 S) (a7 S) (a8 S) u (a10 S) (a11 S) (a12 S) (a13 S) (a14 S) (a15 S) (a16 S) (a17 S) (a18 S) (a19 S) (a20 S)) ++ X) H → va_D (va_A (wM cy ad S ++ X) sz) (wM cy ad (mk9 (aF S) (vp_updL (aG S) 16 (-(aG S 16))) (a1 S) (a2 S) (a3 S) (a4 S) (a5 S) (a6 S) (a7 S) (a8 S) u (a10 S) (a11 S) (a12 S) (a13 S) (a14 S) (a15 S) (a16 S) (a17 S) (a18 S) (a19 S) (a20 S)) ++ X) → va_S (va_A (wM cy ad S ++ X) sz) s.heap H locs → lv_has ls 3 [(2, .int (nI j)), (0, .ref (ad 0)), (1, .int (nI i))] → (∀ (H : Heap) (locs : List Loc) (ls : Array Slot), va_P D vwCl (wM cy ad (mk9 (aF S) (vp_updL (aG S) 16 (-(aG S 16))) (a1 S) (a2 S) (a3 S) (a4 S) (a5 S) (a6 S) (a7 S) (a8 S) (lpN (fTu i) n j u) (a10 S) (a11 S) (a12 S) (a13 S) (a14 S) (a15 S) (a16 S) (a17 S) (a18 S) (a19 S) (a20 S)) ++ X) H → va_D (va_A (wM cy ad S ++ X) sz) (wM cy ad (mk9 (aF S) (vp_updL (aG S) 16 (-(aG S 16))) (a1 S) (a2 S) (a3 S) (a4 S) (a5 S) (a6 S) (a7 S) (a8 S) (lpN (fTu i) n j u) (a10 S) (a11 S) (a12 S) (a13 S) (a14 S) (a15 S) (a16 S) (a17 S) (a18 S) (a19 S) (a20 S)) ++ X) → va_S (va_A (wM cy ad S ++ X) sz) s.heap H locs → lv_has ls 3 [(2, .int (nI (C + 1))), (0, .ref (ad 0)), (1, .int (nI i))] → W p l e (headSpec wsX9_turnAll (rm9 0 0)).room s m ([.ref (ad 0)] : List Value).toArray below meth c H locs 0 0 (MQ below (gQv D cy (wM cy ad S ++ X) sz (fun ws' => ws' = wM cy ad (jTurn S R C) ++ X)) ([.ref (ad 0)] : List Value).toArray s 0 0 (va_A (wM cy ad S ++ X) sz)) (F0 m 58 ls [])) → W p l e (headSpec wsX9_turnAll (rm9 0 0)).room s m ([.ref (ad 0)] : List Value).toArray below meth c H locs 0 0 (MQ below (gQv D cy (wM cy ad S ++ X) sz (fun ws' => ws' = wM cy ad (jTurn S R C) ++ X)) ([.ref (ad 0)] : List Value).toArray s 0 0 (va_A (wM cy ad S ++ X) sz)) (F0 m 21 ls []) := by
          intro n
          induction n with
          | zero =>
            intro j u H locs ls hk hP hD hS hl hex
            obtain rfl : C + 1 = j := by omega
            refine lv_iload_n hx hb dX9_turnAll_21 rfl (lv_at hl 0 rfl) ?_
            refine lv_aload_n hx hb dX9_turnAll_22 rfl (lv_at hl 1 rfl) ?_
            refine rM_get (v := .int (aF S 15)) hx hb hts hin hown hK hP 15 (by decide) rfl (by decide +kernel) dX9_turnAll_23 ?_
            rw [hC]
            refine lv_icmp_gt (tgt := 58) hx hb dX9_turnAll_26 (by decide) (fun c3 => ?_) (fun c3 => ?_)
            · rw [nI_ltI (by omega) (by omega)] at c3
              exact hex _ _ _ hP hD hS (lv_sub hl [0, 1, 2] rfl)
            · exact absurd c3 (by rw [nI_ltI (by omega) (by omega)]; omega)
          | succ n ih =>
            intro j u H locs ls hk hP hD hS hl hex
            have hk21 : j < C + 1 := by omega
            refine lv_iload_n hx hb dX9_turnAll_21 rfl (lv_at hl 0 rfl) ?_
            refine lv_aload_n hx hb dX9_turnAll_22 rfl (lv_at hl 1 rfl) ?_
            refine rM_get (v := .int (aF S 15)) hx hb hts hin hown hK hP 15 (by decide) rfl (by decide +kernel) dX9_turnAll_23 ?_
            rw [hC]
            refine lv_icmp_gt (tgt := 58) hx hb dX9_turnAll_26 (by decide) (fun c4 => ?_) (fun c4 => ?_)
            · exact absurd c4 (by rw [nI_ltI (by omega) (by omega)]; omega)
            · rw [nI_ltI (by omega) (by omega)] at c4
              refine lv_aload_n hx hb dX9_turnAll_29 rfl (lv_at hl 1 rfl) ?_
              refine rM_get (v := .ref (ad 9)) hx hb hts hin hown hK hP 11 (by decide) rfl (by decide +kernel) dX9_turnAll_30 ?_
              refine lv_bipush (v := nI 22) hx hb dX9_turnAll_33 (by decide) ?_
              refine lv_iload_n hx hb dX9_turnAll_35 rfl (lv_at hl 2 rfl) ?_
              refine lv_imul hx hb dX9_turnAll_36 ?_
              rw [pk_mul]
              refine lv_iload_n hx hb dX9_turnAll_37 rfl (lv_at hl 0 rfl) ?_
              refine lv_iadd hx hb dX9_turnAll_38 ?_
              rw [nI_add]
              refine lv_aload_n hx hb dX9_turnAll_39 rfl (lv_at hl 1 rfl) ?_
              refine rM_get (v := .ref (ad 9)) hx hb hts hin hown hK hP 11 (by decide) rfl (by decide +kernel) dX9_turnAll_40 ?_
              refine lv_bipush (v := nI 22) hx hb dX9_turnAll_43 (by decide) ?_
              refine lv_iload_n hx hb dX9_turnAll_45 rfl (lv_at hl 2 rfl) ?_
              refine lv_imul hx hb dX9_turnAll_46 ?_
              rw [pk_mul]
              refine lv_iload_n hx hb dX9_turnAll_47 rfl (lv_at hl 0 rfl) ?_
              refine lv_iadd hx hb dX9_turnAll_48 ?_
              rw [nI_add]
              refine rM_ld9 (i := ((22 * i) + j)) hx hb hK hP (by omega) dX9_turnAll_49 ?_
              refine W.eq (g2 := F0 m 50 ls [.long (u ((22 * i) + j)), .int (nI ((22 * i) + j)), .ref (ad 9)]) rfl ?_
              refine lv_lneg hx hb dX9_turnAll_50 ?_
              refine rM_st9 (i := ((22 * i) + j)) hx hb hK hP hD hS (by omega) dX9_turnAll_51 (fun H locs hP hD hS => ?_)
              have hP : va_P D vwCl (wM cy ad (mk9 (aF S) (vp_updL (aG S) 16 (-(aG S 16))) (a1 S) (a2 S) (a3 S) (a4 S) (a5 S) (a6 S) (a7 S) (a8 S) (vp_updL u ((22 * i) + j) (-(u ((22 * i) + j)))) (a10 S) (a11 S) (a12 S) (a13 S) (a14 S) (a15 S) (a16 S) (a17 S) (a18 S) (a19 S) (a20 S)) ++ X) H := hP
              have hD : va_D (va_A (wM cy ad S ++ X) sz) (wM cy ad (mk9 (aF S) (vp_updL (aG S) 16 (-(aG S 16))) (a1 S) (a2 S) (a3 S) (a4 S) (a5 S) (a6 S) (a7 S) (a8 S) (vp_updL u ((22 * i) + j) (-(u ((22 * i) + j)))) (a10 S) (a11 S) (a12 S) (a13 S) (a14 S) (a15 S) (a16 S) (a17 S) (a18 S) (a19 S) (a20 S)) ++ X) := hD
              refine lv_iinc (v := nI (j + 1)) (lv' := [(2, .int (nI (j + 1))), (0, .ref (ad 0)), (1, .int (nI i))]) hx hb dX9_turnAll_52 hl (k := 0) rfl (nI_1 _) (by decide) rfl (fun ls hl => ?_)
              refine lv_goto (tgt := 21) hx hb dX9_turnAll_55 (by decide) ?_
              have he : (fTu i) j u = (vp_updL u ((22 * i) + j) (-(u ((22 * i) + j)))) := rfl
              rw [lpN_s, he] at hex
              exact ih ((j + 1)) (vp_updL u ((22 * i) + j) (-(u ((22 * i) + j)))) _ _ _ (by omega) hP hD hS (lv_sub hl [0, 1, 2] rfl) hex
        refine L21 (C + 1) 0 q _ _ _ (by omega) hP hD hS (lv_sub hl [0, 2, 1] rfl) (fun H locs ls hP hD hS hl => ?_)
        refine lv_iinc (v := nI (i + 1)) (lv' := [(1, .int (nI (i + 1))), (2, .int (nI (C + 1))), (0, .ref (ad 0))]) hx hb dX9_turnAll_58 hl (k := 2) rfl (nI_1 _) (by decide) rfl (fun ls hl => ?_)
        refine lv_goto (tgt := 11) hx hb dX9_turnAll_61 (by decide) ?_
        have he : (fTu2 C) i q = (lpN (fTu i) (C + 1) 0 q) := rfl
        rw [lpN_s, he] at hex
        exact ih ((i + 1)) (lpN (fTu i) (C + 1) 0 q) _ _ _ (by omega) hP hD hS (lv_sub hl [0, 2] rfl) hex
  refine L11 (R + 1) 0 (a9 S) _ _ _ (by omega) hP hD hS (lv_sub hl [0, 1] rfl) (fun H locs ls hP hD hS hl => ?_)
  exact W.vret hx hb hr (fun t ht hW => ⟨⟨_, rfl, rfl, by rw [ht]; exact hP, va_K.moved hW.alike hK, hD⟩, hS.F ht⟩) hS.2.2 dX9_turnAll_64
def fWr (S : MS) (i : Nat) (f : Int32) : Int32 := if 0 ≤ lg_cmp (a9 S (22 * i)) 0 then f else if f < 0 then nI i else if a10 S f.toNatClampNeg ≤ a10 S i then f else nI i
def jWorst (S : MS) (R : Nat) : Int32 := lpN (fWr S) R 0 (-6)
def fHe (S : MS) (r j : Nat) (f : Int32) : Int32 := if lg_cmp (a9 S (22 * r + j)) 0 ≤ 0 then f else if f < 0 then nI j else if a11 S f.toNatClampNeg ≤ a11 S j then f else nI j
def jHelp (S : MS) (r C : Nat) : Int32 := lpN (fHe S r) C 1 (-6)
theorem entI6 {q : Int32} {P : Nat → Prop} (h : q = -6 ∨ ∃ j : Nat, P j ∧ q = nI j) (h0 : ¬ q < 0) : ∃ j : Nat, P j ∧ q = nI j := by
  rcases h with rfl | h
  · exact absurd (by decide) h0
  · exact h
set_option maxHeartbeats 4000000 in
set_option maxRecDepth 100000 in
theorem cM_worstRow (l : Launch) (D : va_G) (cy : Nat → ClassId) (ad : Nat → Nat) (X : va_W) (S : MS) (sz : Nat) {R : Nat} (hR : aF S 14 = nI R) (hR36 : R ≤ 36) : Met l yX9_worstRow wsX9_worstRow (rm9 0 0) (gPc D cy (wM cy ad S ++ X) sz [.ref (ad 0)]) (gQi D cy (wM cy ad S ++ X) sz (fun r ws' => r = jWorst S R ∧ ws' = wM cy ad S ++ X)) 0 0 (va_A (wM cy ad S ++ X) sz) := by
  refine gHead (cc := cX9_worstRow) (maxL := 4) (ret := (some .int)) (by decide) rfl (Nat.le_of_ble_eq_true rfl) ?_
  intro p e s m below meth c ls hx hb hr hlocks hml hown hts hsz hP hK hD hS hA hl
  have hin : ∀ w ∈ u_ws RX9 TX9 36, w ∈ wsX9_worstRow := by decide +kernel
  have hown : s.vm.findClass RX9 = some m.cls := hown
  have hl : lv_has ls 4 [(0, .ref (ad 0))] := hl
  refine lv_bipush (v := (-6)) hx hb dX9_worstRow_0 (by decide) ?_
  refine lv_istore_n (lv' := [(1, .int (-6)), (0, .ref (ad 0))]) hx hb dX9_worstRow_2 rfl hl (by decide) rfl (fun ls hl => ?_)
  refine lv_iconst (v := nI 0) hx hb dX9_worstRow_3 (by decide) ?_
  refine lv_istore_n (lv' := [(2, .int (nI 0)), (1, .int (-6)), (0, .ref (ad 0))]) hx hb dX9_worstRow_4 rfl hl (by decide) rfl (fun ls hl => ?_)
  have L5 : ∀ (n k : Nat) (q : Int32) (H : Heap) (locs : List Loc) (ls : Array Slot), k + n = R → (q = -6 ∨ ∃ j : Nat, j < R ∧ q = nI j) → va_P D vwCl (wM cy ad S ++ X) H → va_D (va_A (wM cy ad S ++ X) sz) (wM cy ad S ++ X) → va_S (va_A (wM cy ad S ++ X) sz) s.heap H locs → lv_has ls 4 [(2, .int (nI k)), (0, .ref (ad 0)), (1, .int q)] → (∀ (H : Heap) (locs : List Loc) (ls : Array Slot), ((lpN (fWr S) n k q) = -6 ∨ ∃ j : Nat, j < R ∧ (lpN (fWr S) n k q) = nI j) → va_P D vwCl (wM cy ad S ++ X) H → va_D (va_A (wM cy ad S ++ X) sz) (wM cy ad S ++ X) → va_S (va_A (wM cy ad S ++ X) sz) s.heap H locs → lv_has ls 4 [(2, .int (nI R)), (0, .ref (ad 0)), (1, .int (lpN (fWr S) n k q))] → W p l e (headSpec wsX9_worstRow (rm9 0 0)).room s m ([.ref (ad 0)] : List Value).toArray below meth c H locs 0 0 (MQ below (gQi D cy (wM cy ad S ++ X) sz (fun r ws' => r = jWorst S R ∧ ws' = wM cy ad S ++ X)) ([.ref (ad 0)] : List Value).toArray s 0 0 (va_A (wM cy ad S ++ X) sz)) (F0 m 68 ls [])) → W p l e (headSpec wsX9_worstRow (rm9 0 0)).room s m ([.ref (ad 0)] : List Value).toArray below meth c H locs 0 0 (MQ below (gQi D cy (wM cy ad S ++ X) sz (fun r ws' => r = jWorst S R ∧ ws' = wM cy ad S ++ X)) ([.ref (ad 0)] : List Value).toArray s 0 0 (va_A (wM cy ad S ++ X) sz)) (F0 m 5 ls []) := by
    intro n
    induction n with
    | zero =>
      intro k q H locs ls hk hq hP hD hS hl hex
      obtain rfl : R = k := by omega
      refine lv_iload_n hx hb dX9_worstRow_5 rfl (lv_at hl 0 rfl) ?_
      refine lv_aload_n hx hb dX9_worstRow_6 rfl (lv_at hl 1 rfl) ?_
      refine rM_get (v := .int (aF S 14)) hx hb hts hin hown hK hP 14 (by decide) rfl (by decide +kernel) dX9_worstRow_7 ?_
      rw [hR]
      refine lv_icmp_ge (tgt := 68) hx hb dX9_worstRow_10 (by decide) (fun c1 => ?_) (fun c1 => ?_)
      · rw [nI_leI (by omega) (by omega)] at c1
        exact hex _ _ _ hq hP hD hS (lv_sub hl [0, 1, 2] rfl)
      · exact absurd c1 (by rw [nI_leI (by omega) (by omega)]; omega)
    | succ n ih =>
      intro k q H locs ls hk hq hP hD hS hl hex
      have hk5 : k < R := by omega
      refine lv_iload_n hx hb dX9_worstRow_5 rfl (lv_at hl 0 rfl) ?_
      refine lv_aload_n hx hb dX9_worstRow_6 rfl (lv_at hl 1 rfl) ?_
      refine rM_get (v := .int (aF S 14)) hx hb hts hin hown hK hP 14 (by decide) rfl (by decide +kernel) dX9_worstRow_7 ?_
      rw [hR]
      refine lv_icmp_ge (tgt := 68) hx hb dX9_worstRow_10 (by decide) (fun c2 => ?_) (fun c2 => ?_)
      · exact absurd c2 (by rw [nI_leI (by omega) (by omega)]; omega)
      · rw [nI_leI (by omega) (by omega)] at c2
        refine lv_aload_n hx hb dX9_worstRow_13 rfl (lv_at hl 1 rfl) ?_
        refine rM_get (v := .ref (ad 9)) hx hb hts hin hown hK hP 11 (by decide) rfl (by decide +kernel) dX9_worstRow_14 ?_
        refine lv_bipush (v := nI 22) hx hb dX9_worstRow_17 (by decide) ?_
        refine lv_iload_n hx hb dX9_worstRow_19 rfl (lv_at hl 0 rfl) ?_
        refine lv_imul hx hb dX9_worstRow_20 ?_
        rw [pk_mul]
        refine rM_ld9 (i := (22 * k)) hx hb hK hP (by omega) dX9_worstRow_21 ?_
        refine W.eq (g2 := F0 m 22 ls [.long (a9 S (22 * k))]) rfl ?_
        refine lv_lconst (v := 0) hx hb dX9_worstRow_22 (by decide) ?_
        refine W.lcmp hx hb dX9_worstRow_23 ?_
        refine lv_if_ge (tgt := 50) hx hb dX9_worstRow_24 (by decide) (fun c3 => ?_) (fun c3 => ?_)
        · skip
          refine lv_iconst (v := nI 0) hx hb dX9_worstRow_50 (by decide) ?_
          refine lv_istore_n (lv' := [(3, .int (nI 0)), (2, .int (nI k)), (0, .ref (ad 0)), (1, .int q)]) hx hb dX9_worstRow_51 rfl hl (by decide) rfl (fun ls hl => ?_)
          refine lv_iload_n hx hb dX9_worstRow_52 rfl (lv_at hl 0 rfl) ?_
          refine lv_if_eq (tgt := 60) hx hb dX9_worstRow_53 (by decide) (fun c4 => ?_) (fun c4 => ?_)
          · skip
            refine lv_iload_n hx hb dX9_worstRow_60 rfl (lv_at hl 3 rfl) ?_
            refine lv_istore_n (lv' := [(1, .int q), (3, .int (nI 0)), (2, .int (nI k)), (0, .ref (ad 0))]) hx hb dX9_worstRow_61 rfl hl (by decide) rfl (fun ls hl => ?_)
            refine lv_iinc (v := nI (k + 1)) (lv' := [(2, .int (nI (k + 1))), (1, .int q), (3, .int (nI 0)), (0, .ref (ad 0))]) hx hb dX9_worstRow_62 hl (k := 2) rfl (nI_1 _) (by decide) rfl (fun ls hl => ?_)
            refine lv_goto (tgt := 5) hx hb dX9_worstRow_65 (by decide) ?_
            have he : (fWr S) k q = q := by simp [fWr, c3, (Int32.not_lt.mpr c3), c4, c2]
            rw [lpN_s, he] at hex
            exact ih ((k + 1)) q _ _ _ (by omega) hq hP hD hS (lv_sub hl [0, 3, 1] rfl) hex
          · exact absurd c4 (by decide)
        · skip
          refine lv_iload_n hx hb dX9_worstRow_27 rfl (lv_at hl 2 rfl) ?_
          refine lv_if_lt (tgt := 46) hx hb dX9_worstRow_28 (by decide) (fun c5 => ?_) (fun c5 => ?_)
          · skip
            refine lv_iconst (v := nI 1) hx hb dX9_worstRow_46 (by decide) ?_
            refine lv_goto (tgt := 51) hx hb dX9_worstRow_47 (by decide) ?_
            refine lv_istore_n (lv' := [(3, .int (nI 1)), (2, .int (nI k)), (0, .ref (ad 0)), (1, .int q)]) hx hb dX9_worstRow_51 rfl hl (by decide) rfl (fun ls hl => ?_)
            refine lv_iload_n hx hb dX9_worstRow_52 rfl (lv_at hl 0 rfl) ?_
            refine lv_if_eq (tgt := 60) hx hb dX9_worstRow_53 (by decide) (fun c6 => ?_) (fun c6 => ?_)
            · exact absurd c6 (by decide)
            · skip
              refine lv_iload_n hx hb dX9_worstRow_56 rfl (lv_at hl 1 rfl) ?_
              refine lv_goto (tgt := 61) hx hb dX9_worstRow_57 (by decide) ?_
              refine lv_istore_n (lv' := [(1, .int (nI k)), (3, .int (nI 1)), (2, .int (nI k)), (0, .ref (ad 0))]) hx hb dX9_worstRow_61 rfl hl (by decide) rfl (fun ls hl => ?_)
              refine lv_iinc (v := nI (k + 1)) (lv' := [(2, .int (nI (k + 1))), (1, .int (nI k)), (3, .int (nI 1)), (0, .ref (ad 0))]) hx hb dX9_worstRow_62 hl (k := 2) rfl (nI_1 _) (by decide) rfl (fun ls hl => ?_)
              refine lv_goto (tgt := 5) hx hb dX9_worstRow_65 (by decide) ?_
              have he : (fWr S) k q = (nI k) := by simp [fWr, c3, (Int32.not_le.mp c3), c5, c6, c2]
              rw [lpN_s, he] at hex
              exact ih ((k + 1)) (nI k) _ _ _ (by omega) (Or.inr ⟨k, by omega, rfl⟩) hP hD hS (lv_sub hl [0, 3, 1] rfl) hex
          · skip
            obtain ⟨r0, hr0, hre⟩ := entI6 hq c5
            have qq8 : q.toNatClampNeg = r0 := (by rw [hre, nI_clamp (by omega)])
            rw [hre] at hl
            refine lv_aload_n hx hb dX9_worstRow_31 rfl (lv_at hl 1 rfl) ?_
            refine rM_get (v := .ref (ad 10)) hx hb hts hin hown hK hP 12 (by decide) rfl (by decide +kernel) dX9_worstRow_32 ?_
            refine lv_iload_n hx hb dX9_worstRow_35 rfl (lv_at hl 0 rfl) ?_
            refine rM_ld10 (i := k) hx hb hK hP (by omega) dX9_worstRow_36 ?_
            refine W.eq (g2 := F0 m 37 ls [.int (a10 S k)]) rfl ?_
            refine lv_aload_n hx hb dX9_worstRow_37 rfl (lv_at hl 1 rfl) ?_
            refine rM_get (v := .ref (ad 10)) hx hb hts hin hown hK hP 12 (by decide) rfl (by decide +kernel) dX9_worstRow_38 ?_
            refine lv_iload_n hx hb dX9_worstRow_41 rfl (lv_at hl 2 rfl) ?_
            refine rM_ld10 (i := r0) hx hb hK hP (by omega) dX9_worstRow_42 ?_
            refine W.eq (g2 := F0 m 43 ls [.int (a10 S r0), .int (a10 S k)]) rfl ?_
            refine lv_icmp_ge (tgt := 50) hx hb dX9_worstRow_43 (by decide) (fun c7 => ?_) (fun c7 => ?_)
            · skip
              refine lv_iconst (v := nI 0) hx hb dX9_worstRow_50 (by decide) ?_
              refine lv_istore_n (lv' := [(3, .int (nI 0)), (2, .int (nI k)), (0, .ref (ad 0)), (1, .int (nI r0))]) hx hb dX9_worstRow_51 rfl hl (by decide) rfl (fun ls hl => ?_)
              refine lv_iload_n hx hb dX9_worstRow_52 rfl (lv_at hl 0 rfl) ?_
              refine lv_if_eq (tgt := 60) hx hb dX9_worstRow_53 (by decide) (fun c8 => ?_) (fun c8 => ?_)
              · skip
                refine lv_iload_n hx hb dX9_worstRow_60 rfl (lv_at hl 3 rfl) ?_
                refine lv_istore_n (lv' := [(1, .int (nI r0)), (3, .int (nI 0)), (2, .int (nI k)), (0, .ref (ad 0))]) hx hb dX9_worstRow_61 rfl hl (by decide) rfl (fun ls hl => ?_)
                refine lv_iinc (v := nI (k + 1)) (lv' := [(2, .int (nI (k + 1))), (1, .int (nI r0)), (3, .int (nI 0)), (0, .ref (ad 0))]) hx hb dX9_worstRow_62 hl (k := 2) rfl (nI_1 _) (by decide) rfl (fun ls hl => ?_)
                refine lv_goto (tgt := 5) hx hb dX9_worstRow_65 (by decide) ?_
                rw [← hre] at hl
                have he : (fWr S) k q = q := by simp [fWr, c3, (Int32.not_le.mp c3), c5, c7, c8, c2, qq8]
                rw [lpN_s, he] at hex
                exact ih ((k + 1)) q _ _ _ (by omega) hq hP hD hS (lv_sub hl [0, 3, 1] rfl) hex
              · exact absurd c8 (by decide)
            · skip
              refine lv_iconst (v := nI 1) hx hb dX9_worstRow_46 (by decide) ?_
              refine lv_goto (tgt := 51) hx hb dX9_worstRow_47 (by decide) ?_
              refine lv_istore_n (lv' := [(3, .int (nI 1)), (2, .int (nI k)), (0, .ref (ad 0)), (1, .int (nI r0))]) hx hb dX9_worstRow_51 rfl hl (by decide) rfl (fun ls hl => ?_)
              refine lv_iload_n hx hb dX9_worstRow_52 rfl (lv_at hl 0 rfl) ?_
              refine lv_if_eq (tgt := 60) hx hb dX9_worstRow_53 (by decide) (fun c9 => ?_) (fun c9 => ?_)
              · exact absurd c9 (by decide)
              · skip
                refine lv_iload_n hx hb dX9_worstRow_56 rfl (lv_at hl 1 rfl) ?_
                refine lv_goto (tgt := 61) hx hb dX9_worstRow_57 (by decide) ?_
                refine lv_istore_n (lv' := [(1, .int (nI k)), (3, .int (nI 1)), (2, .int (nI k)), (0, .ref (ad 0))]) hx hb dX9_worstRow_61 rfl hl (by decide) rfl (fun ls hl => ?_)
                refine lv_iinc (v := nI (k + 1)) (lv' := [(2, .int (nI (k + 1))), (1, .int (nI k)), (3, .int (nI 1)), (0, .ref (ad 0))]) hx hb dX9_worstRow_62 hl (k := 2) rfl (nI_1 _) (by decide) rfl (fun ls hl => ?_)
                refine lv_goto (tgt := 5) hx hb dX9_worstRow_65 (by decide) ?_
                have he : (fWr S) k q = (nI k) := by simp [fWr, c3, (Int32.not_le.mp c3), c5, c7, c9, c2, qq8]
                rw [lpN_s, he] at hex
                exact ih ((k + 1)) (nI k) _ _ _ (by omega) (Or.inr ⟨k, by omega, rfl⟩) hP hD hS (lv_sub hl [0, 3, 1] rfl) hex
  refine L5 R 0 (-6) _ _ _ (by omega) (Or.inl rfl) hP hD hS (lv_sub hl [0, 2, 1] rfl) (fun H locs ls hq hP hD hS hl => ?_)
  refine lv_iload_n hx hb dX9_worstRow_68 rfl (lv_at hl 2 rfl) ?_
  exact W.iret hx hb hr (fun t ht hW => ⟨⟨_, _, rfl, ⟨rfl, rfl⟩, by rw [ht]; exact hP, va_K.moved hW.alike hK, hD⟩, hS.F ht⟩) hS.2.2 dX9_worstRow_69
set_option maxHeartbeats 4000000 in
set_option maxRecDepth 100000 in
theorem cM_helper (l : Launch) (D : va_G) (cy : Nat → ClassId) (ad : Nat → Nat) (X : va_W) (S : MS) (sz : Nat) {r C : Nat} (hr9 : r < 37) (hC : aF S 15 = nI C) (hC21 : C ≤ 21) : Met l yX9_helper wsX9_helper (rm9 0 0) (gPc D cy (wM cy ad S ++ X) sz [.ref (ad 0), .int (nI r)]) (gQi D cy (wM cy ad S ++ X) sz (fun r9 ws' => r9 = jHelp S r C ∧ ws' = wM cy ad S ++ X)) 0 0 (va_A (wM cy ad S ++ X) sz) := by
  refine gHead (cc := cX9_helper) (maxL := 5) (ret := (some .int)) (by decide) rfl (Nat.le_of_ble_eq_true rfl) ?_
  intro p e s m below meth c ls hx hb hr hlocks hml hown hts hsz hP hK hD hS hA hl
  have hin : ∀ w ∈ u_ws RX9 TX9 36, w ∈ wsX9_helper := by decide +kernel
  have hown : s.vm.findClass RX9 = some m.cls := hown
  have hl : lv_has ls 5 [(0, .ref (ad 0)), (1, .int (nI r))] := hl
  refine lv_bipush (v := (-6)) hx hb dX9_helper_0 (by decide) ?_
  refine lv_istore_n (lv' := [(2, .int (-6)), (0, .ref (ad 0)), (1, .int (nI r))]) hx hb dX9_helper_2 rfl hl (by decide) rfl (fun ls hl => ?_)
  refine lv_iconst (v := nI 1) hx hb dX9_helper_3 (by decide) ?_
  refine lv_istore_n (lv' := [(3, .int (nI 1)), (2, .int (-6)), (0, .ref (ad 0)), (1, .int (nI r))]) hx hb dX9_helper_4 rfl hl (by decide) rfl (fun ls hl => ?_)
  have L5 : ∀ (n k : Nat) (q : Int32) (H : Heap) (locs : List Loc) (ls : Array Slot), k + n = C + 1 → 1 ≤ k → (q = -6 ∨ ∃ j : Nat, j < C + 1 ∧ q = nI j) → va_P D vwCl (wM cy ad S ++ X) H → va_D (va_A (wM cy ad S ++ X) sz) (wM cy ad S ++ X) → va_S (va_A (wM cy ad S ++ X) sz) s.heap H locs → lv_has ls 5 [(3, .int (nI k)), (0, .ref (ad 0)), (1, .int (nI r)), (2, .int q)] → (∀ (H : Heap) (locs : List Loc) (ls : Array Slot), ((lpN (fHe S r) n k q) = -6 ∨ ∃ j : Nat, j < C + 1 ∧ (lpN (fHe S r) n k q) = nI j) → va_P D vwCl (wM cy ad S ++ X) H → va_D (va_A (wM cy ad S ++ X) sz) (wM cy ad S ++ X) → va_S (va_A (wM cy ad S ++ X) sz) s.heap H locs → lv_has ls 5 [(3, .int (nI (C + 1))), (0, .ref (ad 0)), (1, .int (nI r)), (2, .int (lpN (fHe S r) n k q))] → W p l e (headSpec wsX9_helper (rm9 0 0)).room s m ([.ref (ad 0), .int (nI r)] : List Value).toArray below meth c H locs 0 0 (MQ below (gQi D cy (wM cy ad S ++ X) sz (fun r9 ws' => r9 = jHelp S r C ∧ ws' = wM cy ad S ++ X)) ([.ref (ad 0), .int (nI r)] : List Value).toArray s 0 0 (va_A (wM cy ad S ++ X) sz)) (F0 m 72 ls [])) → W p l e (headSpec wsX9_helper (rm9 0 0)).room s m ([.ref (ad 0), .int (nI r)] : List Value).toArray below meth c H locs 0 0 (MQ below (gQi D cy (wM cy ad S ++ X) sz (fun r9 ws' => r9 = jHelp S r C ∧ ws' = wM cy ad S ++ X)) ([.ref (ad 0), .int (nI r)] : List Value).toArray s 0 0 (va_A (wM cy ad S ++ X) sz)) (F0 m 5 ls []) := by
    intro n
    induction n with
    | zero =>
      intro k q H locs ls hk hlo hq hP hD hS hl hex
      obtain rfl : C + 1 = k := by omega
      refine lv_iload_n hx hb dX9_helper_5 rfl (lv_at hl 0 rfl) ?_
      refine lv_aload_n hx hb dX9_helper_6 rfl (lv_at hl 1 rfl) ?_
      refine rM_get (v := .int (aF S 15)) hx hb hts hin hown hK hP 15 (by decide) rfl (by decide +kernel) dX9_helper_7 ?_
      rw [hC]
      refine lv_icmp_gt (tgt := 72) hx hb dX9_helper_10 (by decide) (fun c1 => ?_) (fun c1 => ?_)
      · rw [nI_ltI (by omega) (by omega)] at c1
        exact hex _ _ _ hq hP hD hS (lv_sub hl [0, 1, 2, 3] rfl)
      · exact absurd c1 (by rw [nI_ltI (by omega) (by omega)]; omega)
    | succ n ih =>
      intro k q H locs ls hk hlo hq hP hD hS hl hex
      have hk5 : k < C + 1 := by omega
      refine lv_iload_n hx hb dX9_helper_5 rfl (lv_at hl 0 rfl) ?_
      refine lv_aload_n hx hb dX9_helper_6 rfl (lv_at hl 1 rfl) ?_
      refine rM_get (v := .int (aF S 15)) hx hb hts hin hown hK hP 15 (by decide) rfl (by decide +kernel) dX9_helper_7 ?_
      rw [hC]
      refine lv_icmp_gt (tgt := 72) hx hb dX9_helper_10 (by decide) (fun c2 => ?_) (fun c2 => ?_)
      · exact absurd c2 (by rw [nI_ltI (by omega) (by omega)]; omega)
      · rw [nI_ltI (by omega) (by omega)] at c2
        refine lv_aload_n hx hb dX9_helper_13 rfl (lv_at hl 1 rfl) ?_
        refine rM_get (v := .ref (ad 9)) hx hb hts hin hown hK hP 11 (by decide) rfl (by decide +kernel) dX9_helper_14 ?_
        refine lv_bipush (v := nI 22) hx hb dX9_helper_17 (by decide) ?_
        refine lv_iload_n hx hb dX9_helper_19 rfl (lv_at hl 2 rfl) ?_
        refine lv_imul hx hb dX9_helper_20 ?_
        rw [pk_mul]
        refine lv_iload_n hx hb dX9_helper_21 rfl (lv_at hl 0 rfl) ?_
        refine lv_iadd hx hb dX9_helper_22 ?_
        rw [nI_add]
        refine rM_ld9 (i := ((22 * r) + k)) hx hb hK hP (by omega) dX9_helper_23 ?_
        refine W.eq (g2 := F0 m 24 ls [.long (a9 S ((22 * r) + k))]) rfl ?_
        refine lv_lconst (v := 0) hx hb dX9_helper_24 (by decide) ?_
        refine W.lcmp hx hb dX9_helper_25 ?_
        refine lv_if_le (tgt := 52) hx hb dX9_helper_26 (by decide) (fun c3 => ?_) (fun c3 => ?_)
        · skip
          refine lv_iconst (v := nI 0) hx hb dX9_helper_52 (by decide) ?_
          refine lv_istore (lv' := [(4, .int (nI 0)), (3, .int (nI k)), (0, .ref (ad 0)), (1, .int (nI r)), (2, .int q)]) hx hb dX9_helper_53 hl (by decide) rfl (fun ls hl => ?_)
          refine lv_iload hx hb dX9_helper_55 (lv_at hl 0 rfl) ?_
          refine lv_if_eq (tgt := 64) hx hb dX9_helper_57 (by decide) (fun c4 => ?_) (fun c4 => ?_)
          · skip
            refine lv_iload_n hx hb dX9_helper_64 rfl (lv_at hl 4 rfl) ?_
            refine lv_istore_n (lv' := [(2, .int q), (4, .int (nI 0)), (3, .int (nI k)), (0, .ref (ad 0)), (1, .int (nI r))]) hx hb dX9_helper_65 rfl hl (by decide) rfl (fun ls hl => ?_)
            refine lv_iinc (v := nI (k + 1)) (lv' := [(3, .int (nI (k + 1))), (2, .int q), (4, .int (nI 0)), (0, .ref (ad 0)), (1, .int (nI r))]) hx hb dX9_helper_66 hl (k := 2) rfl (nI_1 _) (by decide) rfl (fun ls hl => ?_)
            refine lv_goto (tgt := 5) hx hb dX9_helper_69 (by decide) ?_
            have he : (fHe S r) k q = q := by simp [fHe, c3, c4, c2]
            rw [lpN_s, he] at hex
            exact ih ((k + 1)) q _ _ _ (by omega) (by omega) hq hP hD hS (lv_sub hl [0, 3, 4, 1] rfl) hex
          · exact absurd c4 (by decide)
        · skip
          refine lv_iload_n hx hb dX9_helper_29 rfl (lv_at hl 3 rfl) ?_
          refine lv_if_lt (tgt := 48) hx hb dX9_helper_30 (by decide) (fun c5 => ?_) (fun c5 => ?_)
          · skip
            refine lv_iconst (v := nI 1) hx hb dX9_helper_48 (by decide) ?_
            refine lv_goto (tgt := 53) hx hb dX9_helper_49 (by decide) ?_
            refine lv_istore (lv' := [(4, .int (nI 1)), (3, .int (nI k)), (0, .ref (ad 0)), (1, .int (nI r)), (2, .int q)]) hx hb dX9_helper_53 hl (by decide) rfl (fun ls hl => ?_)
            refine lv_iload hx hb dX9_helper_55 (lv_at hl 0 rfl) ?_
            refine lv_if_eq (tgt := 64) hx hb dX9_helper_57 (by decide) (fun c6 => ?_) (fun c6 => ?_)
            · exact absurd c6 (by decide)
            · skip
              refine lv_iload_n hx hb dX9_helper_60 rfl (lv_at hl 1 rfl) ?_
              refine lv_goto (tgt := 65) hx hb dX9_helper_61 (by decide) ?_
              refine lv_istore_n (lv' := [(2, .int (nI k)), (4, .int (nI 1)), (3, .int (nI k)), (0, .ref (ad 0)), (1, .int (nI r))]) hx hb dX9_helper_65 rfl hl (by decide) rfl (fun ls hl => ?_)
              refine lv_iinc (v := nI (k + 1)) (lv' := [(3, .int (nI (k + 1))), (2, .int (nI k)), (4, .int (nI 1)), (0, .ref (ad 0)), (1, .int (nI r))]) hx hb dX9_helper_66 hl (k := 2) rfl (nI_1 _) (by decide) rfl (fun ls hl => ?_)
              refine lv_goto (tgt := 5) hx hb dX9_helper_69 (by decide) ?_
              have he : (fHe S r) k q = (nI k) := by simp [fHe, c3, c5, c6, c2]
              rw [lpN_s, he] at hex
              exact ih ((k + 1)) (nI k) _ _ _ (by omega) (by omega) (Or.inr ⟨k, by omega, rfl⟩) hP hD hS (lv_sub hl [0, 3, 4, 1] rfl) hex
          · skip
            obtain ⟨r0, hr0, hre⟩ := entI6 hq c5
            have qq8 : q.toNatClampNeg = r0 := (by rw [hre, nI_clamp (by omega)])
            rw [hre] at hl
            refine lv_aload_n hx hb dX9_helper_33 rfl (lv_at hl 1 rfl) ?_
            refine rM_get (v := .ref (ad 11)) hx hb hts hin hown hK hP 13 (by decide) rfl (by decide +kernel) dX9_helper_34 ?_
            refine lv_iload_n hx hb dX9_helper_37 rfl (lv_at hl 0 rfl) ?_
            refine rM_ld11 (i := k) hx hb hK hP (by omega) dX9_helper_38 ?_
            refine W.eq (g2 := F0 m 39 ls [.int (a11 S k)]) rfl ?_
            refine lv_aload_n hx hb dX9_helper_39 rfl (lv_at hl 1 rfl) ?_
            refine rM_get (v := .ref (ad 11)) hx hb hts hin hown hK hP 13 (by decide) rfl (by decide +kernel) dX9_helper_40 ?_
            refine lv_iload_n hx hb dX9_helper_43 rfl (lv_at hl 3 rfl) ?_
            refine rM_ld11 (i := r0) hx hb hK hP (by omega) dX9_helper_44 ?_
            refine W.eq (g2 := F0 m 45 ls [.int (a11 S r0), .int (a11 S k)]) rfl ?_
            refine lv_icmp_ge (tgt := 52) hx hb dX9_helper_45 (by decide) (fun c7 => ?_) (fun c7 => ?_)
            · skip
              refine lv_iconst (v := nI 0) hx hb dX9_helper_52 (by decide) ?_
              refine lv_istore (lv' := [(4, .int (nI 0)), (3, .int (nI k)), (0, .ref (ad 0)), (1, .int (nI r)), (2, .int (nI r0))]) hx hb dX9_helper_53 hl (by decide) rfl (fun ls hl => ?_)
              refine lv_iload hx hb dX9_helper_55 (lv_at hl 0 rfl) ?_
              refine lv_if_eq (tgt := 64) hx hb dX9_helper_57 (by decide) (fun c8 => ?_) (fun c8 => ?_)
              · skip
                refine lv_iload_n hx hb dX9_helper_64 rfl (lv_at hl 4 rfl) ?_
                refine lv_istore_n (lv' := [(2, .int (nI r0)), (4, .int (nI 0)), (3, .int (nI k)), (0, .ref (ad 0)), (1, .int (nI r))]) hx hb dX9_helper_65 rfl hl (by decide) rfl (fun ls hl => ?_)
                refine lv_iinc (v := nI (k + 1)) (lv' := [(3, .int (nI (k + 1))), (2, .int (nI r0)), (4, .int (nI 0)), (0, .ref (ad 0)), (1, .int (nI r))]) hx hb dX9_helper_66 hl (k := 2) rfl (nI_1 _) (by decide) rfl (fun ls hl => ?_)
                refine lv_goto (tgt := 5) hx hb dX9_helper_69 (by decide) ?_
                rw [← hre] at hl
                have he : (fHe S r) k q = q := by simp [fHe, c3, c5, c7, c8, c2, qq8]
                rw [lpN_s, he] at hex
                exact ih ((k + 1)) q _ _ _ (by omega) (by omega) hq hP hD hS (lv_sub hl [0, 3, 4, 1] rfl) hex
              · exact absurd c8 (by decide)
            · skip
              refine lv_iconst (v := nI 1) hx hb dX9_helper_48 (by decide) ?_
              refine lv_goto (tgt := 53) hx hb dX9_helper_49 (by decide) ?_
              refine lv_istore (lv' := [(4, .int (nI 1)), (3, .int (nI k)), (0, .ref (ad 0)), (1, .int (nI r)), (2, .int (nI r0))]) hx hb dX9_helper_53 hl (by decide) rfl (fun ls hl => ?_)
              refine lv_iload hx hb dX9_helper_55 (lv_at hl 0 rfl) ?_
              refine lv_if_eq (tgt := 64) hx hb dX9_helper_57 (by decide) (fun c9 => ?_) (fun c9 => ?_)
              · exact absurd c9 (by decide)
              · skip
                refine lv_iload_n hx hb dX9_helper_60 rfl (lv_at hl 1 rfl) ?_
                refine lv_goto (tgt := 65) hx hb dX9_helper_61 (by decide) ?_
                refine lv_istore_n (lv' := [(2, .int (nI k)), (4, .int (nI 1)), (3, .int (nI k)), (0, .ref (ad 0)), (1, .int (nI r))]) hx hb dX9_helper_65 rfl hl (by decide) rfl (fun ls hl => ?_)
                refine lv_iinc (v := nI (k + 1)) (lv' := [(3, .int (nI (k + 1))), (2, .int (nI k)), (4, .int (nI 1)), (0, .ref (ad 0)), (1, .int (nI r))]) hx hb dX9_helper_66 hl (k := 2) rfl (nI_1 _) (by decide) rfl (fun ls hl => ?_)
                refine lv_goto (tgt := 5) hx hb dX9_helper_69 (by decide) ?_
                have he : (fHe S r) k q = (nI k) := by simp [fHe, c3, c5, c7, c9, c2, qq8]
                rw [lpN_s, he] at hex
                exact ih ((k + 1)) (nI k) _ _ _ (by omega) (by omega) (Or.inr ⟨k, by omega, rfl⟩) hP hD hS (lv_sub hl [0, 3, 4, 1] rfl) hex
  refine L5 C 1 (-6) _ _ _ (by omega) (by omega) (Or.inl rfl) hP hD hS (lv_sub hl [0, 2, 3, 1] rfl) (fun H locs ls hq hP hD hS hl => ?_)
  refine lv_iload_n hx hb dX9_helper_72 rfl (lv_at hl 3 rfl) ?_
  exact W.iret hx hb hr (fun t ht hW => ⟨⟨_, _, rfl, ⟨rfl, rfl⟩, by rw [ht]; exact hP, va_K.moved hW.alike hK, hD⟩, hS.F ht⟩) hS.2.2 dX9_helper_73
