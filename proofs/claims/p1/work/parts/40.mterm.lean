/-! the reference: term, say, wipe, constraints -/
theorem j_in_ne {x : Int32} {N : Nat} (hN : N + 1 < 2 ^ 31) (h : ¬ j_in x (nI 0) (nI N) = 0) : ∃ k : Nat, k < N + 1 ∧ x = nI k := by
  unfold j_in at h
  by_cases h1 : x < nI 0
  · rw [if_pos h1] at h; exact absurd nI_0 h
  by_cases h2 : nI N < x
  · rw [if_neg h1, if_pos h2] at h; exact absurd nI_0 h
  exact ixL N (by rw [← nI_0]; exact h1) h2 hN
def jOne (S : MS) (x : Int32) : Int32 := if j_in x (nI 0) (nI 13) = 0 then nI 0 else if ¬ jOf S x.toNatClampNeg 10 = nI 1 then nI 0 else nI 1
def fSet (S : MS) (k : Nat) (q : Int32) : Int32 := q ||| (jOf S k 10 <<< (nI k &&& 31))
def jSet (S : MS) : Int32 := lpN (fSet S) 14 0 (nI 0)
set_option maxHeartbeats 4000000 in
set_option maxRecDepth 100000 in
theorem cM_isOne (l : Launch) (D : va_G) (cy : Nat → ClassId) (ad : Nat → Nat) (X : va_W) (S : MS) (sz : Nat) (x : Int32) : Met l yX9_isOne wsX9_isOne (rm9 1 22) (gPc D cy (wM cy ad S ++ X) sz [.ref (ad 0), .int x]) (gQi D cy (wM cy ad S ++ X) sz (fun r ws' => r = jOne S x ∧ ws' = wM cy ad S ++ X)) 0 0 (va_A (wM cy ad S ++ X) sz) := by
  refine gHead (cc := cX9_isOne) (maxL := 2) (ret := (some .boolean)) (by decide) rfl (Nat.le_of_ble_eq_true rfl) ?_
  intro p e s m below meth c ls hx hb hr hlocks hml hown hts hsz hP hK hD hS hA hl
  have hin : ∀ w ∈ u_ws RX9 TX9 36, w ∈ wsX9_isOne := by decide +kernel
  have hown : s.vm.findClass RX9 = some m.cls := hown
  have hl : lv_has ls 2 [(0, .ref (ad 0)), (1, .int x)] := hl
  refine lv_iload_n hx hb dX9_isOne_0 rfl (lv_at hl 1 rfl) ?_
  refine lv_iconst (v := nI 0) hx hb dX9_isOne_1 (by decide) ?_
  refine lv_bipush (v := nI 13) hx hb dX9_isOne_2 (by decide) ?_
  refine pCalli (As := [.int x, .int (nI 0), .int (nI 13)]) (rest := []) hx hb hml hown hts hP hS hA hl.1 (cM_in l _ x (nI 0) (nI 13)) (va_cwS 3 hts gX9_isOne_X9_in rfl rfl rfl (by decide +kernel) ⟨Nat.le_of_ble_eq_true rfl, Nat.le_of_ble_eq_true rfl⟩) rfl rfl (Nat.le_of_ble_eq_true rfl) ⟨Nat.le_of_ble_eq_true rfl, Nat.le_of_ble_eq_true rfl⟩ dX9_isOne_4 (fun r1 H locs e1 hP hS => ?_)
  rw [show r1 = j_in x (nI 0) (nI 13) from e1]
  refine lv_if_eq (tgt := 25) hx hb dX9_isOne_7 (by decide) (fun c2 => ?_) (fun c2 => ?_)
  · skip
    refine lv_iconst (v := nI 0) hx hb dX9_isOne_25 (by decide) ?_
    exact W.zret hx hb hr (by decide) (fun t ht hW => ⟨⟨_, _, rfl, ⟨by simp only [jOne]; simp [c2], rfl⟩, by rw [ht]; exact hP, va_K.moved hW.alike hK, hD⟩, hS.F ht⟩) hS.2.2 dX9_isOne_26
  · skip
    obtain ⟨k0, hk0, hke⟩ := j_in_ne (by decide) c2
    have qq8 : x.toNatClampNeg = k0 := (by rw [hke, nI_clamp (by omega)])
    rw [hke] at hl
    refine lv_aload_n hx hb dX9_isOne_10 rfl (lv_at hl 0 rfl) ?_
    refine lv_iload_n hx hb dX9_isOne_11 rfl (lv_at hl 1 rfl) ?_
    refine lv_bipush (v := nI 10) hx hb dX9_isOne_12 (by decide) ?_
    refine gCalli (ws := wM cy ad S ++ X) (As := [.int (nI k0), .int (nI 10)]) (rest := []) (q0 := 0) (r0 := (RX9, TX9, 36)) hx hb hml hown hts hK hP hD hS hA hl.1 wM_0 rfl (cM_of l D cy ad X S _ (c9 := k0) (w9 := 10) (by omega) (by omega)) (cwV 2 hts gX9_isOne_X9_of rfl rfl rfl (by decide +kernel) ⟨Nat.le_of_ble_eq_true rfl, Nat.le_of_ble_eq_true rfl⟩) rfl rfl (Nat.le_of_ble_eq_true rfl) ⟨Nat.le_of_ble_eq_true rfl, Nat.le_of_ble_eq_true rfl⟩ dX9_isOne_14 (fun r3 ws3 H locs e3 hP hD hS => ?_)
    obtain ⟨e3a, e3b⟩ := e3
    rw [show r3 = jOf S k0 10 from e3a]
    rw [e3b] at hP hD
    refine lv_iconst (v := nI 1) hx hb dX9_isOne_17 (by decide) ?_
    refine lv_icmp_ne (tgt := 25) hx hb dX9_isOne_18 (by decide) (fun c4 => ?_) (fun c4 => ?_)
    · skip
      refine lv_iconst (v := nI 0) hx hb dX9_isOne_25 (by decide) ?_
      exact W.zret hx hb hr (by decide) (fun t ht hW => ⟨⟨_, _, rfl, ⟨by simp only [jOne, qq8]; simp [c2, c4], rfl⟩, by rw [ht]; exact hP, va_K.moved hW.alike hK, hD⟩, hS.F ht⟩) hS.2.2 dX9_isOne_26
    · skip
      refine lv_iconst (v := nI 1) hx hb dX9_isOne_21 (by decide) ?_
      refine lv_goto (tgt := 26) hx hb dX9_isOne_22 (by decide) ?_
      exact W.zret hx hb hr (by decide) (fun t ht hW => ⟨⟨_, _, rfl, ⟨by simp only [jOne, qq8]; simp [c2, c4], rfl⟩, by rw [ht]; exact hP, va_K.moved hW.alike hK, hD⟩, hS.F ht⟩) hS.2.2 dX9_isOne_26
set_option maxHeartbeats 4000000 in
set_option maxRecDepth 100000 in
theorem cM_constraints (l : Launch) (D : va_G) (cy : Nat → ClassId) (ad : Nat → Nat) (X : va_W) (S : MS) (sz : Nat)  : Met l yX9_constraints wsX9_constraints (rm9 1 22) (gPc D cy (wM cy ad S ++ X) sz [.ref (ad 0)]) (gQi D cy (wM cy ad S ++ X) sz (fun r ws' => r = jSet S ∧ ws' = wM cy ad S ++ X)) 0 0 (va_A (wM cy ad S ++ X) sz) := by
  refine gHead (cc := cX9_constraints) (maxL := 3) (ret := (some .int)) (by decide) rfl (Nat.le_of_ble_eq_true rfl) ?_
  intro p e s m below meth c ls hx hb hr hlocks hml hown hts hsz hP hK hD hS hA hl
  have hin : ∀ w ∈ u_ws RX9 TX9 36, w ∈ wsX9_constraints := by decide +kernel
  have hown : s.vm.findClass RX9 = some m.cls := hown
  have hl : lv_has ls 3 [(0, .ref (ad 0))] := hl
  refine lv_iconst (v := nI 0) hx hb dX9_constraints_0 (by decide) ?_
  refine lv_istore_n (lv' := [(1, .int (nI 0)), (0, .ref (ad 0))]) hx hb dX9_constraints_1 rfl hl (by decide) rfl (fun ls hl => ?_)
  refine lv_iconst (v := nI 0) hx hb dX9_constraints_2 (by decide) ?_
  refine lv_istore_n (lv' := [(2, .int (nI 0)), (1, .int (nI 0)), (0, .ref (ad 0))]) hx hb dX9_constraints_3 rfl hl (by decide) rfl (fun ls hl => ?_)
  have L4 : ∀ (n k : Nat) (q : Int32) (H : Heap) (locs : List Loc) (ls : Array Slot), k + n = 14 → va_P D vwCl (wM cy ad S ++ X) H → va_D (va_A (wM cy ad S ++ X) sz) (wM cy ad S ++ X) → va_S (va_A (wM cy ad S ++ X) sz) s.heap H locs → lv_has ls 3 [(2, .int (nI k)), (0, .ref (ad 0)), (1, .int q)] → (∀ (H : Heap) (locs : List Loc) (ls : Array Slot), va_P D vwCl (wM cy ad S ++ X) H → va_D (va_A (wM cy ad S ++ X) sz) (wM cy ad S ++ X) → va_S (va_A (wM cy ad S ++ X) sz) s.heap H locs → lv_has ls 3 [(2, .int (nI 14)), (0, .ref (ad 0)), (1, .int (lpN (fSet S) n k q))] → W p l e (headSpec wsX9_constraints (rm9 1 22)).room s m ([.ref (ad 0)] : List Value).toArray below meth c H locs 0 0 (MQ below (gQi D cy (wM cy ad S ++ X) sz (fun r ws' => r = jSet S ∧ ws' = wM cy ad S ++ X)) ([.ref (ad 0)] : List Value).toArray s 0 0 (va_A (wM cy ad S ++ X) sz)) (F0 m 28 ls [])) → W p l e (headSpec wsX9_constraints (rm9 1 22)).room s m ([.ref (ad 0)] : List Value).toArray below meth c H locs 0 0 (MQ below (gQi D cy (wM cy ad S ++ X) sz (fun r ws' => r = jSet S ∧ ws' = wM cy ad S ++ X)) ([.ref (ad 0)] : List Value).toArray s 0 0 (va_A (wM cy ad S ++ X) sz)) (F0 m 4 ls []) := by
    intro n
    induction n with
    | zero =>
      intro k q H locs ls hk hP hD hS hl hex
      obtain rfl : 14 = k := by omega
      refine lv_iload_n hx hb dX9_constraints_4 rfl (lv_at hl 0 rfl) ?_
      refine lv_bipush (v := nI 14) hx hb dX9_constraints_5 (by decide) ?_
      refine lv_icmp_ge (tgt := 28) hx hb dX9_constraints_7 (by decide) (fun c1 => ?_) (fun c1 => ?_)
      · rw [nI_leI (by omega) (by omega)] at c1
        exact hex _ _ _ hP hD hS (lv_sub hl [0, 1, 2] rfl)
      · exact absurd c1 (by rw [nI_leI (by omega) (by omega)]; omega)
    | succ n ih =>
      intro k q H locs ls hk hP hD hS hl hex
      have hk4 : k < 14 := by omega
      refine lv_iload_n hx hb dX9_constraints_4 rfl (lv_at hl 0 rfl) ?_
      refine lv_bipush (v := nI 14) hx hb dX9_constraints_5 (by decide) ?_
      refine lv_icmp_ge (tgt := 28) hx hb dX9_constraints_7 (by decide) (fun c2 => ?_) (fun c2 => ?_)
      · exact absurd c2 (by rw [nI_leI (by omega) (by omega)]; omega)
      · rw [nI_leI (by omega) (by omega)] at c2
        refine lv_iload_n hx hb dX9_constraints_10 rfl (lv_at hl 2 rfl) ?_
        refine lv_aload_n hx hb dX9_constraints_11 rfl (lv_at hl 1 rfl) ?_
        refine lv_iload_n hx hb dX9_constraints_12 rfl (lv_at hl 0 rfl) ?_
        refine lv_bipush (v := nI 10) hx hb dX9_constraints_13 (by decide) ?_
        refine gCalli (ws := wM cy ad S ++ X) (As := [.int (nI k), .int (nI 10)]) (rest := [.int q]) (q0 := 0) (r0 := (RX9, TX9, 36)) hx hb hml hown hts hK hP hD hS hA hl.1 wM_0 rfl (cM_of l D cy ad X S _ (c9 := k) (w9 := 10) (by omega) (by omega)) (cwV 2 hts gX9_constraints_X9_of rfl rfl rfl (by decide +kernel) ⟨Nat.le_of_ble_eq_true rfl, Nat.le_of_ble_eq_true rfl⟩) rfl rfl (Nat.le_of_ble_eq_true rfl) ⟨Nat.le_of_ble_eq_true rfl, Nat.le_of_ble_eq_true rfl⟩ dX9_constraints_15 (fun r3 ws3 H locs e3 hP hD hS => ?_)
        obtain ⟨e3a, e3b⟩ := e3
        rw [show r3 = jOf S k 10 from e3a]
        rw [e3b] at hP hD
        refine lv_iload_n hx hb dX9_constraints_18 rfl (lv_at hl 0 rfl) ?_
        refine lv_ishl hx hb dX9_constraints_19 ?_
        refine lv_ior hx hb dX9_constraints_20 ?_
        refine lv_istore_n (lv' := [(1, .int (q ||| ((jOf S k 10) <<< ((nI k) &&& 31)))), (2, .int (nI k)), (0, .ref (ad 0))]) hx hb dX9_constraints_21 rfl hl (by decide) rfl (fun ls hl => ?_)
        refine lv_iinc (v := nI (k + 1)) (lv' := [(2, .int (nI (k + 1))), (1, .int (q ||| ((jOf S k 10) <<< ((nI k) &&& 31)))), (0, .ref (ad 0))]) hx hb dX9_constraints_22 hl (k := 1) rfl (nI_1 _) (by decide) rfl (fun ls hl => ?_)
        refine lv_goto (tgt := 4) hx hb dX9_constraints_25 (by decide) ?_
        have he : (fSet S) k q = (q ||| ((jOf S k 10) <<< ((nI k) &&& 31))) := rfl
        rw [lpN_s (f := fSet S), he] at hex
        exact ih ((k + 1)) (q ||| ((jOf S k 10) <<< ((nI k) &&& 31))) _ _ _ (by omega) hP hD hS (lv_sub hl [0, 2, 1] rfl) hex
  refine L4 14 0 (nI 0) _ _ _ (by omega) hP hD hS (lv_sub hl [0, 2, 1] rfl) (fun H locs ls hP hD hS hl => ?_)
  refine lv_iload_n hx hb dX9_constraints_28 rfl (lv_at hl 2 rfl) ?_
  exact W.iret hx hb hr (fun t ht hW => ⟨⟨_, _, rfl, ⟨rfl, rfl⟩, by rw [ht]; exact hP, va_K.moved hW.alike hK, hD⟩, hS.F ht⟩) hS.2.2 dX9_constraints_29
def jWipe (S : MS) : MS := mk9 (upd (aF S) 5 (nI 0)) (aG S) (a1 S) (a2 S) (a3 S) (a4 S) (a5 S) (a6 S) (a7 S) (a8 S) (a9 S) (a10 S) (a11 S) (a12 S) (a13 S) (a14 S) (a15 S) (a16 S) (a17 S) (a18 S) (a19 S) (a20 S)
set_option maxHeartbeats 4000000 in
set_option maxRecDepth 100000 in
theorem cM_wipe (l : Launch) (D : va_G) (cy : Nat → ClassId) (ad : Nat → Nat) (X : va_W) (S : MS) (sz : Nat)  : Met l yX9_wipe wsX9_wipe (rm9 0 0) (gPc D cy (wM cy ad S ++ X) sz [.ref (ad 0)]) (gQi D cy (wM cy ad S ++ X) sz (fun r ws' => r = aF S 5 ∧ ws' = wM cy ad (jWipe S) ++ X)) 0 0 (va_A (wM cy ad S ++ X) sz) := by
  refine gHead (cc := cX9_wipe) (maxL := 2) (ret := (some .int)) (by decide) rfl (Nat.le_of_ble_eq_true rfl) ?_
  intro p e s m below meth c ls hx hb hr hlocks hml hown hts hsz hP hK hD hS hA hl
  have hin : ∀ w ∈ u_ws RX9 TX9 36, w ∈ wsX9_wipe := by decide +kernel
  have hown : s.vm.findClass RX9 = some m.cls := hown
  have hl : lv_has ls 2 [(0, .ref (ad 0))] := hl
  refine lv_aload_n hx hb dX9_wipe_0 rfl (lv_at hl 0 rfl) ?_
  refine rM_get (v := .int (aF S 5)) hx hb hts hin hown hK hP 5 (by decide) rfl (by decide +kernel) dX9_wipe_1 ?_
  refine lv_istore_n (lv' := [(1, .int (aF S 5)), (0, .ref (ad 0))]) hx hb dX9_wipe_4 rfl hl (by decide) rfl (fun ls hl => ?_)
  refine lv_aload_n hx hb dX9_wipe_5 rfl (lv_at hl 1 rfl) ?_
  refine lv_iconst (v := nI 0) hx hb dX9_wipe_6 (by decide) ?_
  refine rM_put5 (v := nI 0) hx hb hts hin hown hK hP hD hS (by decide +kernel) dX9_wipe_7 (fun H locs hP hD hS => ?_)
  have hP : va_P D vwCl (wM cy ad (mk9 (upd (aF S) 5 (nI 0)) (aG S) (a1 S) (a2 S) (a3 S) (a4 S) (a5 S) (a6 S) (a7 S) (a8 S) (a9 S) (a10 S) (a11 S) (a12 S) (a13 S) (a14 S) (a15 S) (a16 S) (a17 S) (a18 S) (a19 S) (a20 S)) ++ X) H := hP
  have hD : va_D (va_A (wM cy ad S ++ X) sz) (wM cy ad (mk9 (upd (aF S) 5 (nI 0)) (aG S) (a1 S) (a2 S) (a3 S) (a4 S) (a5 S) (a6 S) (a7 S) (a8 S) (a9 S) (a10 S) (a11 S) (a12 S) (a13 S) (a14 S) (a15 S) (a16 S) (a17 S) (a18 S) (a19 S) (a20 S)) ++ X) := hD
  refine lv_iload_n hx hb dX9_wipe_10 rfl (lv_at hl 0 rfl) ?_
  exact W.iret hx hb hr (fun t ht hW => ⟨⟨_, _, rfl, ⟨rfl, rfl⟩, by rw [ht]; exact hP, va_K.moved hW.alike hK, hD⟩, hS.F ht⟩) hS.2.2 dX9_wipe_11
def jSayR (n : Nat) (x : Int32) : Int32 := if j_in x (nI 33) (nI 126) = 0 then -2 else if n = 40 then -4 else nI (n + 1)
def jSay (S : MS) (n : Nat) (x : Int32) : MS := if j_in x (nI 33) (nI 126) = 0 then S else if n = 40 then S else mk9 (upd (aF S) 5 (nI (n + 1))) (aG S) (a1 S) (a2 S) (a3 S) (a4 S) (upd (a5 S) n x) (a6 S) (a7 S) (a8 S) (a9 S) (a10 S) (a11 S) (a12 S) (a13 S) (a14 S) (a15 S) (a16 S) (a17 S) (a18 S) (a19 S) (a20 S)
set_option maxHeartbeats 4000000 in
set_option maxRecDepth 100000 in
theorem cM_say (l : Launch) (D : va_G) (cy : Nat → ClassId) (ad : Nat → Nat) (X : va_W) (S : MS) (sz : Nat) {n : Nat} (hn : aF S 5 = nI n) (hn40 : n ≤ 40) (x : Int32) : Met l yX9_say wsX9_say (rm9 1 22) (gPc D cy (wM cy ad S ++ X) sz [.ref (ad 0), .int x]) (gQi D cy (wM cy ad S ++ X) sz (fun r ws' => r = jSayR n x ∧ ws' = wM cy ad (jSay S n x) ++ X)) 0 0 (va_A (wM cy ad S ++ X) sz) := by
  refine gHead (cc := cX9_say) (maxL := 2) (ret := (some .int)) (by decide) rfl (Nat.le_of_ble_eq_true rfl) ?_
  intro p e s m below meth c ls hx hb hr hlocks hml hown hts hsz hP hK hD hS hA hl
  have hin : ∀ w ∈ u_ws RX9 TX9 36, w ∈ wsX9_say := by decide +kernel
  have hown : s.vm.findClass RX9 = some m.cls := hown
  have hl : lv_has ls 2 [(0, .ref (ad 0)), (1, .int x)] := hl
  refine lv_iload_n hx hb dX9_say_0 rfl (lv_at hl 1 rfl) ?_
  refine lv_bipush (v := nI 33) hx hb dX9_say_1 (by decide) ?_
  refine lv_bipush (v := nI 126) hx hb dX9_say_3 (by decide) ?_
  refine pCalli (As := [.int x, .int (nI 33), .int (nI 126)]) (rest := []) hx hb hml hown hts hP hS hA hl.1 (cM_in l _ x (nI 33) (nI 126)) (va_cwS 3 hts gX9_say_X9_in rfl rfl rfl (by decide +kernel) ⟨Nat.le_of_ble_eq_true rfl, Nat.le_of_ble_eq_true rfl⟩) rfl rfl (Nat.le_of_ble_eq_true rfl) ⟨Nat.le_of_ble_eq_true rfl, Nat.le_of_ble_eq_true rfl⟩ dX9_say_5 (fun r1 H locs e1 hP hS => ?_)
  rw [show r1 = j_in x (nI 33) (nI 126) from e1]
  refine lv_if_ne (tgt := 14) hx hb dX9_say_8 (by decide) (fun c2 => ?_) (fun c2 => ?_)
  · skip
    refine lv_aload_n hx hb dX9_say_14 rfl (lv_at hl 0 rfl) ?_
    refine rM_get (v := .int (aF S 5)) hx hb hts hin hown hK hP 5 (by decide) rfl (by decide +kernel) dX9_say_15 ?_
    rw [hn]
    refine lv_bipush (v := nI 40) hx hb dX9_say_18 (by decide) ?_
    refine lv_icmp_ne (tgt := 26) hx hb dX9_say_20 (by decide) (fun c3 => ?_) (fun c3 => ?_)
    · rw [nI_eq (by omega) (by omega)] at c3
      refine lv_aload_n hx hb dX9_say_26 rfl (lv_at hl 0 rfl) ?_
      refine rM_get (v := .ref (ad 5)) hx hb hts hin hown hK hP 4 (by decide) rfl (by decide +kernel) dX9_say_27 ?_
      refine lv_aload_n hx hb dX9_say_30 rfl (lv_at hl 0 rfl) ?_
      refine rM_get (v := .int (aF S 5)) hx hb hts hin hown hK hP 5 (by decide) rfl (by decide +kernel) dX9_say_31 ?_
      rw [hn]
      refine lv_iload_n hx hb dX9_say_34 rfl (lv_at hl 1 rfl) ?_
      refine rM_st5 (i := n) hx hb hK hP hD hS (by omega) dX9_say_35 (fun H locs hP hD hS => ?_)
      have hP : va_P D vwCl (wM cy ad (mk9 (aF S) (aG S) (a1 S) (a2 S) (a3 S) (a4 S) (upd (a5 S) n x) (a6 S) (a7 S) (a8 S) (a9 S) (a10 S) (a11 S) (a12 S) (a13 S) (a14 S) (a15 S) (a16 S) (a17 S) (a18 S) (a19 S) (a20 S)) ++ X) H := hP
      have hD : va_D (va_A (wM cy ad S ++ X) sz) (wM cy ad (mk9 (aF S) (aG S) (a1 S) (a2 S) (a3 S) (a4 S) (upd (a5 S) n x) (a6 S) (a7 S) (a8 S) (a9 S) (a10 S) (a11 S) (a12 S) (a13 S) (a14 S) (a15 S) (a16 S) (a17 S) (a18 S) (a19 S) (a20 S)) ++ X) := hD
      refine lv_aload_n hx hb dX9_say_36 rfl (lv_at hl 0 rfl) ?_
      refine lv_dup hx hb dX9_say_37 rfl ?_
      refine rM_get (v := .int (aF S 5)) hx hb hts hin hown hK hP 5 (by decide) rfl (by decide +kernel) dX9_say_38 ?_
      rw [hn]
      refine lv_iconst (v := nI 1) hx hb dX9_say_41 (by decide) ?_
      refine lv_iadd hx hb dX9_say_42 ?_
      rw [nI_add]
      refine rM_put5 (v := nI (n + 1)) hx hb hts hin hown hK hP hD hS (by decide +kernel) dX9_say_43 (fun H locs hP hD hS => ?_)
      have hP : va_P D vwCl (wM cy ad (mk9 (upd (aF S) 5 (nI (n + 1))) (aG S) (a1 S) (a2 S) (a3 S) (a4 S) (upd (a5 S) n x) (a6 S) (a7 S) (a8 S) (a9 S) (a10 S) (a11 S) (a12 S) (a13 S) (a14 S) (a15 S) (a16 S) (a17 S) (a18 S) (a19 S) (a20 S)) ++ X) H := hP
      have hD : va_D (va_A (wM cy ad S ++ X) sz) (wM cy ad (mk9 (upd (aF S) 5 (nI (n + 1))) (aG S) (a1 S) (a2 S) (a3 S) (a4 S) (upd (a5 S) n x) (a6 S) (a7 S) (a8 S) (a9 S) (a10 S) (a11 S) (a12 S) (a13 S) (a14 S) (a15 S) (a16 S) (a17 S) (a18 S) (a19 S) (a20 S)) ++ X) := hD
      refine lv_aload_n hx hb dX9_say_46 rfl (lv_at hl 0 rfl) ?_
      refine rM_get (v := .int (nI (n + 1))) hx hb hts hin hown hK hP 5 (by decide) rfl (by decide +kernel) dX9_say_47 ?_
      exact W.iret hx hb hr (fun t ht hW => ⟨⟨_, _, rfl, ⟨by unfold jSayR; rw [if_neg c2, if_neg c3], by unfold jSay; rw [if_neg c2, if_neg c3]⟩, by rw [ht]; exact hP, va_K.moved hW.alike hK, hD⟩, hS.F ht⟩) hS.2.2 dX9_say_50
    · rw [nI_eq (by omega) (by omega)] at c3
      refine lv_bipush (v := (-4)) hx hb dX9_say_23 (by decide) ?_
      exact W.iret hx hb hr (fun t ht hW => ⟨⟨_, _, rfl, ⟨by unfold jSayR; rw [if_neg c2, if_pos c3], by unfold jSay; rw [if_neg c2, if_pos c3]⟩, by rw [ht]; exact hP, va_K.moved hW.alike hK, hD⟩, hS.F ht⟩) hS.2.2 dX9_say_25
  · skip
    refine lv_bipush (v := (-2)) hx hb dX9_say_11 (by decide) ?_
    exact W.iret hx hb hr (fun t ht hW => ⟨⟨_, _, rfl, ⟨by unfold jSayR; rw [if_pos c2], by unfold jSay; rw [if_pos c2]⟩, by rw [ht]; exact hP, va_K.moved hW.alike hK, hD⟩, hS.F ht⟩) hS.2.2 dX9_say_13
def jTermR (S : MS) (v x : Int32) : Int32 := if j_isVariable v = 0 then -1 else if j_in x (-3) (nI 3) = 0 then -2 else a4 S v.toNatClampNeg + nI 10
def jTerm (S : MS) (v x : Int32) : MS := if j_isVariable v = 0 then S else if j_in x (-3) (nI 3) = 0 then S else mk9 (aF S) (aG S) (a1 S) (a2 S) (a3 S) (upd (a4 S) v.toNatClampNeg x) (a5 S) (a6 S) (a7 S) (a8 S) (a9 S) (a10 S) (a11 S) (a12 S) (a13 S) (a14 S) (a15 S) (a16 S) (a17 S) (a18 S) (a19 S) (a20 S)
set_option maxHeartbeats 4000000 in
set_option maxRecDepth 100000 in
theorem cM_term (l : Launch) (D : va_G) (cy : Nat → ClassId) (ad : Nat → Nat) (X : va_W) (S : MS) (sz : Nat) (v x : Int32) : Met l yX9_term wsX9_term (rm9 2 46) (gPc D cy (wM cy ad S ++ X) sz [.ref (ad 0), .int v, .int x]) (gQi D cy (wM cy ad S ++ X) sz (fun r ws' => r = jTermR S v x ∧ ws' = wM cy ad (jTerm S v x) ++ X)) 0 0 (va_A (wM cy ad S ++ X) sz) := by
  refine gHead (cc := cX9_term) (maxL := 4) (ret := (some .int)) (by decide) rfl (Nat.le_of_ble_eq_true rfl) ?_
  intro p e s m below meth c ls hx hb hr hlocks hml hown hts hsz hP hK hD hS hA hl
  have hin : ∀ w ∈ u_ws RX9 TX9 36, w ∈ wsX9_term := by decide +kernel
  have hown : s.vm.findClass RX9 = some m.cls := hown
  have hl : lv_has ls 4 [(0, .ref (ad 0)), (1, .int v), (2, .int x)] := hl
  refine lv_iload_n hx hb dX9_term_0 rfl (lv_at hl 1 rfl) ?_
  refine pCalli (As := [.int v]) (rest := []) hx hb hml hown hts hP hS hA hl.1 (cM_isVariable l _ v) (va_cwS 1 hts gX9_term_X9_isVariable rfl rfl rfl (by decide +kernel) ⟨Nat.le_of_ble_eq_true rfl, Nat.le_of_ble_eq_true rfl⟩) rfl rfl (Nat.le_of_ble_eq_true rfl) ⟨Nat.le_of_ble_eq_true rfl, Nat.le_of_ble_eq_true rfl⟩ dX9_term_1 (fun r1 H locs e1 hP hS => ?_)
  rw [show r1 = j_isVariable v from e1]
  refine lv_if_ne (tgt := 9) hx hb dX9_term_4 (by decide) (fun c2 => ?_) (fun c2 => ?_)
  · skip
    refine lv_iload_n hx hb dX9_term_9 rfl (lv_at hl 2 rfl) ?_
    refine lv_bipush (v := (-3)) hx hb dX9_term_10 (by decide) ?_
    refine lv_iconst (v := nI 3) hx hb dX9_term_12 (by decide) ?_
    refine pCalli (As := [.int x, .int (-3), .int (nI 3)]) (rest := []) hx hb hml hown hts hP hS hA hl.1 (cM_in l _ x (-3) (nI 3)) (va_cwS 3 hts gX9_term_X9_in rfl rfl rfl (by decide +kernel) ⟨Nat.le_of_ble_eq_true rfl, Nat.le_of_ble_eq_true rfl⟩) rfl rfl (Nat.le_of_ble_eq_true rfl) ⟨Nat.le_of_ble_eq_true rfl, Nat.le_of_ble_eq_true rfl⟩ dX9_term_13 (fun r3 H locs e3 hP hS => ?_)
    rw [show r3 = j_in x (-3) (nI 3) from e3]
    refine lv_if_ne (tgt := 22) hx hb dX9_term_16 (by decide) (fun c4 => ?_) (fun c4 => ?_)
    · skip
      obtain ⟨k0, hk0, hke⟩ := j_in_ne (N := 5) (by decide) c2
      have qq8 : v.toNatClampNeg = k0 := (by rw [hke, nI_clamp (by omega)])
      rw [hke] at hl
      refine lv_aload_n hx hb dX9_term_22 rfl (lv_at hl 0 rfl) ?_
      refine rM_get (v := .ref (ad 4)) hx hb hts hin hown hK hP 3 (by decide) rfl (by decide +kernel) dX9_term_23 ?_
      refine lv_iload_n hx hb dX9_term_26 rfl (lv_at hl 1 rfl) ?_
      refine rM_ld4 (i := k0) hx hb hK hP (by omega) dX9_term_27 ?_
      refine W.eq (g2 := F0 m 28 ls [.int (a4 S k0)]) rfl ?_
      refine lv_istore_n (lv' := [(3, .int (a4 S k0)), (0, .ref (ad 0)), (1, .int (nI k0)), (2, .int x)]) hx hb dX9_term_28 rfl hl (by decide) rfl (fun ls hl => ?_)
      refine lv_aload_n hx hb dX9_term_29 rfl (lv_at hl 1 rfl) ?_
      refine rM_get (v := .ref (ad 4)) hx hb hts hin hown hK hP 3 (by decide) rfl (by decide +kernel) dX9_term_30 ?_
      refine lv_iload_n hx hb dX9_term_33 rfl (lv_at hl 2 rfl) ?_
      refine lv_iload_n hx hb dX9_term_34 rfl (lv_at hl 3 rfl) ?_
      refine rM_st4 (i := k0) hx hb hK hP hD hS (by omega) dX9_term_35 (fun H locs hP hD hS => ?_)
      have hP : va_P D vwCl (wM cy ad (mk9 (aF S) (aG S) (a1 S) (a2 S) (a3 S) (upd (a4 S) k0 x) (a5 S) (a6 S) (a7 S) (a8 S) (a9 S) (a10 S) (a11 S) (a12 S) (a13 S) (a14 S) (a15 S) (a16 S) (a17 S) (a18 S) (a19 S) (a20 S)) ++ X) H := hP
      have hD : va_D (va_A (wM cy ad S ++ X) sz) (wM cy ad (mk9 (aF S) (aG S) (a1 S) (a2 S) (a3 S) (upd (a4 S) k0 x) (a5 S) (a6 S) (a7 S) (a8 S) (a9 S) (a10 S) (a11 S) (a12 S) (a13 S) (a14 S) (a15 S) (a16 S) (a17 S) (a18 S) (a19 S) (a20 S)) ++ X) := hD
      refine lv_iload_n hx hb dX9_term_36 rfl (lv_at hl 0 rfl) ?_
      refine lv_bipush (v := nI 10) hx hb dX9_term_37 (by decide) ?_
      refine lv_iadd hx hb dX9_term_39 ?_
      exact W.iret hx hb hr (fun t ht hW => ⟨⟨_, _, rfl, ⟨by unfold jTermR; rw [if_neg c2, if_neg c4, qq8], by unfold jTerm; rw [if_neg c2, if_neg c4, qq8]⟩, by rw [ht]; exact hP, va_K.moved hW.alike hK, hD⟩, hS.F ht⟩) hS.2.2 dX9_term_40
    · skip
      refine lv_bipush (v := (-2)) hx hb dX9_term_19 (by decide) ?_
      exact W.iret hx hb hr (fun t ht hW => ⟨⟨_, _, rfl, ⟨by unfold jTermR; rw [if_neg c2, if_pos c4], by unfold jTerm; rw [if_neg c2, if_pos c4]⟩, by rw [ht]; exact hP, va_K.moved hW.alike hK, hD⟩, hS.F ht⟩) hS.2.2 dX9_term_21
  · skip
    refine lv_iconst (v := -1) hx hb dX9_term_7 (by decide) ?_
    exact W.iret hx hb hr (fun t ht hW => ⟨⟨_, _, rfl, ⟨by unfold jTermR; rw [if_pos c2], by unfold jTerm; rw [if_pos c2]⟩, by rw [ht]; exact hP, va_K.moved hW.alike hK, hD⟩, hS.F ht⟩) hS.2.2 dX9_term_8
