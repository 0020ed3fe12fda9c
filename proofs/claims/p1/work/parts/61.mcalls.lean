/-! p1: the reference, calls on a fresh object that look at no solution -/
theorem jOne_0 {S : MS} (h : ∀ c : Nat, c < 15 → jOf S c 10 = 0) {x : Int32} : jOne S x = nI 0 := by
  unfold jOne
  by_cases h1 : j_in x (nI 0) (nI 13) = 0
  · rw [if_pos h1]
  · obtain ⟨k, hk, rfl⟩ := j_in_ne (N := 13) (by omega) h1
    rw [if_neg h1, nI_clamp (by omega), h k (by omega)]
    decide
theorem jThere_0 {S : MS} {c : Nat} (h : jOf S c 10 = 0) : jThere S c = nI 0 := by
  unfold jThere
  rw [h]
  decide
theorem jCnt_0 {S : MS} (h : ∀ c : Nat, c < 15 → jOf S c 10 = 0) : jCnt S = nI 0 := by
  have key : ∀ n k : Nat, k + n ≤ 15 → lpN (fCnt S) n k (nI 0) = nI 0 := by
    intro n
    induction n with
    | zero => intro k _; rfl
    | succ n ih =>
      intro k hk
      rw [lpN_s, show fCnt S k (nI 0) = nI 0 by unfold fCnt; rw [h k (by omega)]; decide]
      exact ih (k + 1) (by omega)
  exact key 14 0 (by omega)
theorem jSet_0 {S : MS} (h : ∀ c : Nat, c < 15 → jOf S c 10 = 0) : jSet S = nI 0 := by
  have key : ∀ n k : Nat, k + n ≤ 15 → lpN (fSet S) n k (nI 0) = nI 0 := by
    intro n
    induction n with
    | zero => intro k _; rfl
    | succ n ih =>
      intro k hk
      rw [lpN_s, show fSet S k (nI 0) = nI 0 by unfold fSet; rw [h k (by omega)]; simp [nI]]
      exact ih (k + 1) (by omega)
  exact key 14 0 (by omega)
def fAny (f : Nat → Int32) (k : Nat) (q : Int32) : Int32 := if q = 0 then (if f k = 0 then nI 0 else nI 1) else nI 1
def jAny (f : Nat → Int32) : Int32 := lpN (fAny f) 6 0 (nI 0)
theorem jAny_0 {f : Nat → Int32} (h : ∀ k : Nat, k < 6 → f k = 0) : jAny f = nI 0 := by
  have key : ∀ n k : Nat, k + n ≤ 6 → lpN (fAny f) n k (nI 0) = nI 0 := by
    intro n
    induction n with
    | zero => intro k _; rfl
    | succ n ih =>
      intro k hk
      rw [lpN_s, show fAny f k (nI 0) = nI 0 by unfold fAny; rw [if_pos (by decide), if_pos (h k (by omega))]]
      exact ih (k + 1) (by omega)
  exact key 6 0 (by omega)
set_option maxHeartbeats 4000000 in
set_option maxRecDepth 100000 in
theorem cM_isAny (l : Launch) (D : va_G) (cy : Nat → ClassId) (ws : va_W) (sz : Nat) {j b : Nat} {f : Nat → Int32} (hj : ws[j]? = some (b, .inl (cy 1, 6, .inl f))) : Met l yX9_isAnything wsX9_isAnything (rm9 0 0) (gPc D cy ws sz [.ref b]) (gQi D cy ws sz (fun r ws' => r = jAny f ∧ ws' = ws)) 0 0 (va_A ws sz) := by
  refine gHead (cc := cX9_isAnything) (maxL := 3) (ret := (some .boolean)) (by decide) rfl (Nat.le_of_ble_eq_true rfl) ?_
  intro p e s m below meth c ls hx hb hr hlocks hml hown hts hsz hP hK hD hS hA hl
  have hown : s.vm.findClass RX9 = some m.cls := hown
  have hl : lv_has ls 3 [(0, .ref b)] := hl
  refine lv_iconst (v := nI 0) hx hb dX9_isAnything_0 (by decide) ?_
  refine lv_istore_n (lv' := [(1, .int (nI 0)), (0, .ref b)]) hx hb dX9_isAnything_1 rfl hl (by decide) rfl (fun ls hl => ?_)
  refine lv_iconst (v := nI 0) hx hb dX9_isAnything_2 (by decide) ?_
  refine lv_istore_n (lv' := [(2, .int (nI 0)), (1, .int (nI 0)), (0, .ref b)]) hx hb dX9_isAnything_3 rfl hl (by decide) rfl (fun ls hl => ?_)
  have L4 : ∀ (n k : Nat) (q : Int32) (H : Heap) (locs : List Loc) (ls : Array Slot), k + n = 6 → (q = 0 ∨ q = 1) → va_P D vwCl (ws) H → va_D (va_A ws sz) (ws) → va_S (va_A ws sz) s.heap H locs → lv_has ls 3 [(2, .int (nI k)), (0, .ref b), (1, .int q)] → (∀ (H : Heap) (locs : List Loc) (ls : Array Slot), ((lpN (fAny f) n k q) = 0 ∨ (lpN (fAny f) n k q) = 1) → va_P D vwCl (ws) H → va_D (va_A ws sz) (ws) → va_S (va_A ws sz) s.heap H locs → lv_has ls 3 [(2, .int (nI 6)), (0, .ref b), (1, .int (lpN (fAny f) n k q))] → W p l e (headSpec wsX9_isAnything (rm9 0 0)).room s m ([.ref b] : List Value).toArray below meth c H locs 0 0 (MQ below (gQi D cy ws sz (fun r ws' => r = jAny f ∧ ws' = ws)) ([.ref b] : List Value).toArray s 0 0 (va_A ws sz)) (F0 m 32 ls [])) → W p l e (headSpec wsX9_isAnything (rm9 0 0)).room s m ([.ref b] : List Value).toArray below meth c H locs 0 0 (MQ below (gQi D cy ws sz (fun r ws' => r = jAny f ∧ ws' = ws)) ([.ref b] : List Value).toArray s 0 0 (va_A ws sz)) (F0 m 4 ls []) := by
    intro n
    induction n with
    | zero =>
      intro k q H locs ls hk hq hP hD hS hl hex
      obtain rfl : 6 = k := by omega
      refine lv_iload_n hx hb dX9_isAnything_4 rfl (lv_at hl 0 rfl) ?_
      refine lv_bipush (v := nI 6) hx hb dX9_isAnything_5 (by decide) ?_
      refine lv_icmp_ge (tgt := 32) hx hb dX9_isAnything_7 (by decide) (fun c1 => ?_) (fun c1 => ?_)
      · rw [nI_leI (by omega) (by omega)] at c1
        exact hex _ _ _ hq hP hD hS (lv_sub hl [0, 1, 2] rfl)
      · exact absurd c1 (by rw [nI_leI (by omega) (by omega)]; omega)
    | succ n ih =>
      intro k q H locs ls hk hq hP hD hS hl hex
      have hk4 : k < 6 := by omega
      refine lv_iload_n hx hb dX9_isAnything_4 rfl (lv_at hl 0 rfl) ?_
      refine lv_bipush (v := nI 6) hx hb dX9_isAnything_5 (by decide) ?_
      refine lv_icmp_ge (tgt := 32) hx hb dX9_isAnything_7 (by decide) (fun c2 => ?_) (fun c2 => ?_)
      · exact absurd c2 (by rw [nI_leI (by omega) (by omega)]; omega)
      · rw [nI_leI (by omega) (by omega)] at c2
        refine lv_iload_n hx hb dX9_isAnything_10 rfl (lv_at hl 2 rfl) ?_
        refine lv_if_ne (tgt := 20) hx hb dX9_isAnything_11 (by decide) (fun c3 => ?_) (fun c3 => ?_)
        · skip
          refine lv_iconst (v := nI 1) hx hb dX9_isAnything_20 (by decide) ?_
          refine lv_goto (tgt := 25) hx hb dX9_isAnything_21 (by decide) ?_
          refine lv_istore_n (lv' := [(1, .int (nI 1)), (2, .int (nI k)), (0, .ref b)]) hx hb dX9_isAnything_25 rfl hl (by decide) rfl (fun ls hl => ?_)
          refine lv_iinc (v := nI (k + 1)) (lv' := [(2, .int (nI (k + 1))), (1, .int (nI 1)), (0, .ref b)]) hx hb dX9_isAnything_26 hl (k := 1) rfl (nI_1 _) (by decide) rfl (fun ls hl => ?_)
          refine lv_goto (tgt := 4) hx hb dX9_isAnything_29 (by decide) ?_
          have he : (fAny f) k q = (nI 1) := by simp [fAny, c3]
          rw [lpN_s (f := fAny f), he] at hex
          exact ih ((k + 1)) (nI 1) _ _ _ (by omega) (Or.inr rfl) hP hD hS (lv_sub hl [0, 2, 1] rfl) hex
        · skip
          refine lv_aload_n hx hb dX9_isAnything_14 rfl (lv_at hl 1 rfl) ?_
          refine lv_iload_n hx hb dX9_isAnything_15 rfl (lv_at hl 0 rfl) ?_
          refine va_iald (i := nI k) hx hb hK hP _ 1 (hj) rfl (vp_in_nI (by omega) (by decide)) dX9_isAnything_16 ?_
          rw [nI_clamp (show k < 2 ^ 31 by omega)]
          refine lv_if_eq (tgt := 24) hx hb dX9_isAnything_17 (by decide) (fun c4 => ?_) (fun c4 => ?_)
          · skip
            refine lv_iconst (v := nI 0) hx hb dX9_isAnything_24 (by decide) ?_
            refine lv_istore_n (lv' := [(1, .int (nI 0)), (2, .int (nI k)), (0, .ref b)]) hx hb dX9_isAnything_25 rfl hl (by decide) rfl (fun ls hl => ?_)
            refine lv_iinc (v := nI (k + 1)) (lv' := [(2, .int (nI (k + 1))), (1, .int (nI 0)), (0, .ref b)]) hx hb dX9_isAnything_26 hl (k := 1) rfl (nI_1 _) (by decide) rfl (fun ls hl => ?_)
            refine lv_goto (tgt := 4) hx hb dX9_isAnything_29 (by decide) ?_
            have he : (fAny f) k q = (nI 0) := by simp [fAny, c3, c4]
            rw [lpN_s (f := fAny f), he] at hex
            exact ih ((k + 1)) (nI 0) _ _ _ (by omega) (Or.inl rfl) hP hD hS (lv_sub hl [0, 2, 1] rfl) hex
          · skip
            refine lv_iconst (v := nI 1) hx hb dX9_isAnything_20 (by decide) ?_
            refine lv_goto (tgt := 25) hx hb dX9_isAnything_21 (by decide) ?_
            refine lv_istore_n (lv' := [(1, .int (nI 1)), (2, .int (nI k)), (0, .ref b)]) hx hb dX9_isAnything_25 rfl hl (by decide) rfl (fun ls hl => ?_)
            refine lv_iinc (v := nI (k + 1)) (lv' := [(2, .int (nI (k + 1))), (1, .int (nI 1)), (0, .ref b)]) hx hb dX9_isAnything_26 hl (k := 1) rfl (nI_1 _) (by decide) rfl (fun ls hl => ?_)
            refine lv_goto (tgt := 4) hx hb dX9_isAnything_29 (by decide) ?_
            have he : (fAny f) k q = (nI 1) := by simp [fAny, c3, c4]
            rw [lpN_s (f := fAny f), he] at hex
            exact ih ((k + 1)) (nI 1) _ _ _ (by omega) (Or.inr rfl) hP hD hS (lv_sub hl [0, 2, 1] rfl) hex
  refine L4 6 0 (nI 0) _ _ _ (by omega) (Or.inl rfl) hP hD hS (lv_sub hl [0, 2, 1] rfl) (fun H locs ls hq hP hD hS hl => ?_)
  refine lv_iload_n hx hb dX9_isAnything_32 rfl (lv_at hl 2 rfl) ?_
  exact W.zret hx hb hr (by rcases hq with h9 | h9 <;> rw [h9] <;> rfl) (fun t ht hW => ⟨⟨_, _, rfl, ⟨rfl, rfl⟩, by rw [ht]; exact hP, va_K.moved hW.alike hK, hD⟩, hS.F ht⟩) hS.2.2 dX9_isAnything_33
set_option maxHeartbeats 4000000 in
set_option maxRecDepth 100000 in
theorem cN_add (l : Launch) (D : va_G) (cy : Nat → ClassId) (ad : Nat → Nat) (X : va_W) (S : MS) (sz : Nat) (hdr : ∀ k : Nat, k < 6 → a4 S k = 0) (b1 b2 b3 b4 : Int32) : Met l yX9_add wsX9_add (rm9 2 46) (gPc D cy (wM cy ad S ++ X) sz [.ref (ad 0), .int b1, .int b2, .int b3, .int b4]) (gQi D cy (wM cy ad S ++ X) sz (fun r _ => r = (if j_in b1 (nI 0) (nI 2) = 0 then -2 else if j_isConstant b2 = 0 then -2 else if j_isStrength b3 b4 = 0 then -2 else -5))) 0 0 (va_A (wM cy ad S ++ X) sz) := by
  refine gHead (cc := cX9_add) (maxL := 7) (ret := (some .int)) (by decide) rfl (Nat.le_of_ble_eq_true rfl) ?_
  intro p e s m below meth c ls hx hb hr hlocks hml hown hts hsz hP hK hD hS hA hl
  have hin : ∀ w ∈ u_ws RX9 TX9 36, w ∈ wsX9_add := by decide +kernel
  have hown : s.vm.findClass RX9 = some m.cls := hown
  have hl : lv_has ls 7 [(0, .ref (ad 0)), (1, .int b1), (2, .int b2), (3, .int b3), (4, .int b4)] := hl
  refine lv_iload_n hx hb dX9_add_0 rfl (lv_at hl 1 rfl) ?_
  refine lv_iconst (v := nI 0) hx hb dX9_add_1 (by decide) ?_
  refine lv_iconst (v := nI 2) hx hb dX9_add_2 (by decide) ?_
  refine pCalli (As := [.int b1, .int (nI 0), .int (nI 2)]) (rest := []) hx hb hml hown hts hP hS hA hl.1 (cM_in l _ b1 (nI 0) (nI 2)) (va_cwS 3 hts gX9_add_X9_in rfl rfl rfl (by decide +kernel) ⟨Nat.le_of_ble_eq_true rfl, Nat.le_of_ble_eq_true rfl⟩) rfl rfl (Nat.le_of_ble_eq_true rfl) ⟨Nat.le_of_ble_eq_true rfl, Nat.le_of_ble_eq_true rfl⟩ dX9_add_3 (fun r1 H locs e1 hP hS => ?_)
  rw [show r1 = j_in b1 (nI 0) (nI 2) from e1]
  refine lv_if_eq (tgt := 25) hx hb dX9_add_6 (by decide) (fun c2 => ?_) (fun c2 => ?_)
  · skip
    refine lv_bipush (v := (-2)) hx hb dX9_add_25 (by decide) ?_
    exact W.iret hx hb hr (fun t ht hW => ⟨⟨_, _, rfl, by simp [c2], by rw [ht]; exact hP, va_K.moved hW.alike hK, hD⟩, hS.F ht⟩) hS.2.2 dX9_add_27
  · skip
    refine lv_iload_n hx hb dX9_add_9 rfl (lv_at hl 2 rfl) ?_
    refine pCalli (As := [.int b2]) (rest := []) hx hb hml hown hts hP hS hA hl.1 (cM_isConstant l _ b2) (va_cwS 1 hts gX9_add_X9_isConstant rfl rfl rfl (by decide +kernel) ⟨Nat.le_of_ble_eq_true rfl, Nat.le_of_ble_eq_true rfl⟩) rfl rfl (Nat.le_of_ble_eq_true rfl) ⟨Nat.le_of_ble_eq_true rfl, Nat.le_of_ble_eq_true rfl⟩ dX9_add_10 (fun r3 H locs e3 hP hS => ?_)
    rw [show r3 = j_isConstant b2 from e3]
    refine lv_if_eq (tgt := 25) hx hb dX9_add_13 (by decide) (fun c4 => ?_) (fun c4 => ?_)
    · skip
      refine lv_bipush (v := (-2)) hx hb dX9_add_25 (by decide) ?_
      exact W.iret hx hb hr (fun t ht hW => ⟨⟨_, _, rfl, by simp [c2, c4], by rw [ht]; exact hP, va_K.moved hW.alike hK, hD⟩, hS.F ht⟩) hS.2.2 dX9_add_27
    · skip
      refine lv_iload_n hx hb dX9_add_16 rfl (lv_at hl 3 rfl) ?_
      refine lv_iload hx hb dX9_add_17 (lv_at hl 4 rfl) ?_
      refine pCalli (As := [.int b3, .int b4]) (rest := []) hx hb hml hown hts hP hS hA hl.1 (cM_isStrength l _ b3 b4) (va_cwS 2 hts gX9_add_X9_isStrength rfl rfl rfl (by decide +kernel) ⟨Nat.le_of_ble_eq_true rfl, Nat.le_of_ble_eq_true rfl⟩) rfl rfl (Nat.le_of_ble_eq_true rfl) ⟨Nat.le_of_ble_eq_true rfl, Nat.le_of_ble_eq_true rfl⟩ dX9_add_19 (fun r5 H locs e5 hP hS => ?_)
      rw [show r5 = j_isStrength b3 b4 from e5]
      refine lv_if_ne (tgt := 28) hx hb dX9_add_22 (by decide) (fun c6 => ?_) (fun c6 => ?_)
      · skip
        refine lv_aload_n hx hb dX9_add_28 rfl (lv_at hl 0 rfl) ?_
        refine rM_get (v := .ref (ad 4)) hx hb hts hin hown hK hP 3 (by decide) rfl (by decide +kernel) dX9_add_29 ?_
        refine gCallSi (ws := wM cy ad S ++ X) (As := [.ref (ad 4)]) (rest := []) hx hb hml hown hts hK hP hD hS hA hl.1 (cM_isAny l D cy _ _ (f := a4 S) wM_4) (va_cwS 1 hts gX9_add_X9_isAnything rfl rfl rfl (by decide +kernel) ⟨Nat.le_of_ble_eq_true rfl, Nat.le_of_ble_eq_true rfl⟩) rfl rfl (Nat.le_of_ble_eq_true rfl) ⟨Nat.le_of_ble_eq_true rfl, Nat.le_of_ble_eq_true rfl⟩ dX9_add_32 (fun r7 ws7 H locs e7 hP hD hS => ?_)
        obtain ⟨e7a, e7b⟩ := e7
        rw [e7b] at hP hD
        rw [show r7 = nI 0 from e7a.trans (jAny_0 hdr)]
        refine lv_if_ne (tgt := 41) hx hb dX9_add_35 (by decide) (fun c8 => ?_) (fun c8 => ?_)
        · exact absurd c8 (by decide)
        · skip
          refine lv_bipush (v := (-5)) hx hb dX9_add_38 (by decide) ?_
          exact W.iret hx hb hr (fun t ht hW => ⟨⟨_, _, rfl, by rw [if_neg c2, if_neg c4, if_neg c6], by rw [ht]; exact hP, va_K.moved hW.alike hK, hD⟩, hS.F ht⟩) hS.2.2 dX9_add_40
      · skip
        refine lv_bipush (v := (-2)) hx hb dX9_add_25 (by decide) ?_
        exact W.iret hx hb hr (fun t ht hW => ⟨⟨_, _, rfl, by simp [c2, c4, c6], by rw [ht]; exact hP, va_K.moved hW.alike hK, hD⟩, hS.F ht⟩) hS.2.2 dX9_add_27
set_option maxHeartbeats 4000000 in
set_option maxRecDepth 100000 in
theorem cN_remove (l : Launch) (D : va_G) (cy : Nat → ClassId) (ad : Nat → Nat) (X : va_W) (S : MS) (sz : Nat) (hone : ∀ c : Nat, c < 15 → jOf S c 10 = 0) (b1 : Int32) : Met l yX9_remove wsX9_remove (rm9 2 46) (gPc D cy (wM cy ad S ++ X) sz [.ref (ad 0), .int b1]) (gQi D cy (wM cy ad S ++ X) sz (fun r _ => r = -1)) 0 0 (va_A (wM cy ad S ++ X) sz) := by
  refine gHead (cc := cX9_remove) (maxL := 2) (ret := (some .int)) (by decide) rfl (Nat.le_of_ble_eq_true rfl) ?_
  intro p e s m below meth c ls hx hb hr hlocks hml hown hts hsz hP hK hD hS hA hl
  have hin : ∀ w ∈ u_ws RX9 TX9 36, w ∈ wsX9_remove := by decide +kernel
  have hown : s.vm.findClass RX9 = some m.cls := hown
  have hl : lv_has ls 2 [(0, .ref (ad 0)), (1, .int b1)] := hl
  refine lv_aload_n hx hb dX9_remove_0 rfl (lv_at hl 0 rfl) ?_
  refine lv_iload_n hx hb dX9_remove_1 rfl (lv_at hl 1 rfl) ?_
  refine gCalli (ws := wM cy ad S ++ X) (As := [.int b1]) (rest := []) (q0 := 0) (r0 := (RX9, TX9, 36)) hx hb hml hown hts hK hP hD hS hA hl.1 wM_0 rfl (cM_isOne l D cy ad X S _ b1) (cwV 1 hts gX9_remove_X9_isOne rfl rfl rfl (by decide +kernel) ⟨Nat.le_of_ble_eq_true rfl, Nat.le_of_ble_eq_true rfl⟩) rfl rfl (Nat.le_of_ble_eq_true rfl) ⟨Nat.le_of_ble_eq_true rfl, Nat.le_of_ble_eq_true rfl⟩ dX9_remove_2 (fun r1 ws1 H locs e1 hP hD hS => ?_)
  obtain ⟨e1a, e1b⟩ := e1
  rw [show r1 = jOne S b1 from e1a]
  rw [e1b] at hP hD
  rw [jOne_0 hone]
  refine lv_if_ne (tgt := 10) hx hb dX9_remove_5 (by decide) (fun c2 => ?_) (fun c2 => ?_)
  · exact absurd c2 (by decide)
  · skip
    refine lv_iconst (v := -1) hx hb dX9_remove_8 (by decide) ?_
    exact W.iret hx hb hr (fun t ht hW => ⟨⟨_, _, rfl, rfl, by rw [ht]; exact hP, va_K.moved hW.alike hK, hD⟩, hS.F ht⟩) hS.2.2 dX9_remove_9
set_option maxHeartbeats 4000000 in
set_option maxRecDepth 100000 in
theorem cN_setConstant (l : Launch) (D : va_G) (cy : Nat → ClassId) (ad : Nat → Nat) (X : va_W) (S : MS) (sz : Nat) (hone : ∀ c : Nat, c < 15 → jOf S c 10 = 0) (b1 b2 : Int32) : Met l yX9_setConstant wsX9_setConstant (rm9 2 46) (gPc D cy (wM cy ad S ++ X) sz [.ref (ad 0), .int b1, .int b2]) (gQi D cy (wM cy ad S ++ X) sz (fun r _ => r = -1)) 0 0 (va_A (wM cy ad S ++ X) sz) := by
  refine gHead (cc := cX9_setConstant) (maxL := 4) (ret := (some .int)) (by decide) rfl (Nat.le_of_ble_eq_true rfl) ?_
  intro p e s m below meth c ls hx hb hr hlocks hml hown hts hsz hP hK hD hS hA hl
  have hin : ∀ w ∈ u_ws RX9 TX9 36, w ∈ wsX9_setConstant := by decide +kernel
  have hown : s.vm.findClass RX9 = some m.cls := hown
  have hl : lv_has ls 4 [(0, .ref (ad 0)), (1, .int b1), (2, .int b2)] := hl
  refine lv_aload_n hx hb dX9_setConstant_0 rfl (lv_at hl 0 rfl) ?_
  refine lv_iload_n hx hb dX9_setConstant_1 rfl (lv_at hl 1 rfl) ?_
  refine gCalli (ws := wM cy ad S ++ X) (As := [.int b1]) (rest := []) (q0 := 0) (r0 := (RX9, TX9, 36)) hx hb hml hown hts hK hP hD hS hA hl.1 wM_0 rfl (cM_isOne l D cy ad X S _ b1) (cwV 1 hts gX9_setConstant_X9_isOne rfl rfl rfl (by decide +kernel) ⟨Nat.le_of_ble_eq_true rfl, Nat.le_of_ble_eq_true rfl⟩) rfl rfl (Nat.le_of_ble_eq_true rfl) ⟨Nat.le_of_ble_eq_true rfl, Nat.le_of_ble_eq_true rfl⟩ dX9_setConstant_2 (fun r1 ws1 H locs e1 hP hD hS => ?_)
  obtain ⟨e1a, e1b⟩ := e1
  rw [show r1 = jOne S b1 from e1a]
  rw [e1b] at hP hD
  rw [jOne_0 hone]
  refine lv_if_ne (tgt := 10) hx hb dX9_setConstant_5 (by decide) (fun c2 => ?_) (fun c2 => ?_)
  · exact absurd c2 (by decide)
  · skip
    refine lv_iconst (v := -1) hx hb dX9_setConstant_8 (by decide) ?_
    exact W.iret hx hb hr (fun t ht hW => ⟨⟨_, _, rfl, rfl, by rw [ht]; exact hP, va_K.moved hW.alike hK, hD⟩, hS.F ht⟩) hS.2.2 dX9_setConstant_9
set_option maxHeartbeats 4000000 in
set_option maxRecDepth 100000 in
theorem cN_setStrength (l : Launch) (D : va_G) (cy : Nat → ClassId) (ad : Nat → Nat) (X : va_W) (S : MS) (sz : Nat) (hone : ∀ c : Nat, c < 15 → jOf S c 10 = 0) (b1 b2 b3 : Int32) : Met l yX9_setStrength wsX9_setStrength (rm9 2 46) (gPc D cy (wM cy ad S ++ X) sz [.ref (ad 0), .int b1, .int b2, .int b3]) (gQi D cy (wM cy ad S ++ X) sz (fun r _ => r = -1)) 0 0 (va_A (wM cy ad S ++ X) sz) := by
  refine gHead (cc := cX9_setStrength) (maxL := 5) (ret := (some .int)) (by decide) rfl (Nat.le_of_ble_eq_true rfl) ?_
  intro p e s m below meth c ls hx hb hr hlocks hml hown hts hsz hP hK hD hS hA hl
  have hin : ∀ w ∈ u_ws RX9 TX9 36, w ∈ wsX9_setStrength := by decide +kernel
  have hown : s.vm.findClass RX9 = some m.cls := hown
  have hl : lv_has ls 5 [(0, .ref (ad 0)), (1, .int b1), (2, .int b2), (3, .int b3)] := hl
  refine lv_aload_n hx hb dX9_setStrength_0 rfl (lv_at hl 0 rfl) ?_
  refine lv_iload_n hx hb dX9_setStrength_1 rfl (lv_at hl 1 rfl) ?_
  refine gCalli (ws := wM cy ad S ++ X) (As := [.int b1]) (rest := []) (q0 := 0) (r0 := (RX9, TX9, 36)) hx hb hml hown hts hK hP hD hS hA hl.1 wM_0 rfl (cM_isOne l D cy ad X S _ b1) (cwV 1 hts gX9_setStrength_X9_isOne rfl rfl rfl (by decide +kernel) ⟨Nat.le_of_ble_eq_true rfl, Nat.le_of_ble_eq_true rfl⟩) rfl rfl (Nat.le_of_ble_eq_true rfl) ⟨Nat.le_of_ble_eq_true rfl, Nat.le_of_ble_eq_true rfl⟩ dX9_setStrength_2 (fun r1 ws1 H locs e1 hP hD hS => ?_)
  obtain ⟨e1a, e1b⟩ := e1
  rw [show r1 = jOne S b1 from e1a]
  rw [e1b] at hP hD
  rw [jOne_0 hone]
  refine lv_if_ne (tgt := 10) hx hb dX9_setStrength_5 (by decide) (fun c2 => ?_) (fun c2 => ?_)
  · exact absurd c2 (by decide)
  · skip
    refine lv_iconst (v := -1) hx hb dX9_setStrength_8 (by decide) ?_
    exact W.iret hx hb hr (fun t ht hW => ⟨⟨_, _, rfl, rfl, by rw [ht]; exact hP, va_K.moved hW.alike hK, hD⟩, hS.F ht⟩) hS.2.2 dX9_setStrength_9
set_option maxHeartbeats 4000000 in
set_option maxRecDepth 100000 in
theorem cN_about (l : Launch) (D : va_G) (cy : Nat → ClassId) (ad : Nat → Nat) (X : va_W) (S : MS) (sz : Nat) (hone : ∀ c : Nat, c < 15 → jOf S c 10 = 0) (b1 b2 : Int32) : Met l yX9_about wsX9_about (rm9 2 46) (gPc D cy (wM cy ad S ++ X) sz [.ref (ad 0), .int b1, .int b2]) (gQi D cy (wM cy ad S ++ X) sz (fun r _ => r = -1)) 0 0 (va_A (wM cy ad S ++ X) sz) := by
  refine gHead (cc := cX9_about) (maxL := 3) (ret := (some .int)) (by decide) rfl (Nat.le_of_ble_eq_true rfl) ?_
  intro p e s m below meth c ls hx hb hr hlocks hml hown hts hsz hP hK hD hS hA hl
  have hin : ∀ w ∈ u_ws RX9 TX9 36, w ∈ wsX9_about := by decide +kernel
  have hown : s.vm.findClass RX9 = some m.cls := hown
  have hl : lv_has ls 3 [(0, .ref (ad 0)), (1, .int b1), (2, .int b2)] := hl
  refine lv_aload_n hx hb dX9_about_0 rfl (lv_at hl 0 rfl) ?_
  refine lv_iload_n hx hb dX9_about_1 rfl (lv_at hl 1 rfl) ?_
  refine gCalli (ws := wM cy ad S ++ X) (As := [.int b1]) (rest := []) (q0 := 0) (r0 := (RX9, TX9, 36)) hx hb hml hown hts hK hP hD hS hA hl.1 wM_0 rfl (cM_isOne l D cy ad X S _ b1) (cwV 1 hts gX9_about_X9_isOne rfl rfl rfl (by decide +kernel) ⟨Nat.le_of_ble_eq_true rfl, Nat.le_of_ble_eq_true rfl⟩) rfl rfl (Nat.le_of_ble_eq_true rfl) ⟨Nat.le_of_ble_eq_true rfl, Nat.le_of_ble_eq_true rfl⟩ dX9_about_2 (fun r1 ws1 H locs e1 hP hD hS => ?_)
  obtain ⟨e1a, e1b⟩ := e1
  rw [show r1 = jOne S b1 from e1a]
  rw [e1b] at hP hD
  rw [jOne_0 hone]
  refine lv_if_ne (tgt := 10) hx hb dX9_about_5 (by decide) (fun c2 => ?_) (fun c2 => ?_)
  · exact absurd c2 (by decide)
  · skip
    refine lv_iconst (v := -1) hx hb dX9_about_8 (by decide) ?_
    exact W.iret hx hb hr (fun t ht hW => ⟨⟨_, _, rfl, rfl, by rw [ht]; exact hP, va_K.moved hW.alike hK, hD⟩, hS.F ht⟩) hS.2.2 dX9_about_9
set_option maxHeartbeats 4000000 in
set_option maxRecDepth 100000 in
theorem cN_spell (l : Launch) (D : va_G) (cy : Nat → ClassId) (ad : Nat → Nat) (X : va_W) (S : MS) (sz : Nat) (hone : ∀ c : Nat, c < 15 → jOf S c 10 = 0) (b1 b2 : Int32) : Met l yX9_spell wsX9_spell (rm9 2 46) (gPc D cy (wM cy ad S ++ X) sz [.ref (ad 0), .int b1, .int b2]) (gQi D cy (wM cy ad S ++ X) sz (fun r _ => r = -1)) 0 0 (va_A (wM cy ad S ++ X) sz) := by
  refine gHead (cc := cX9_spell) (maxL := 4) (ret := (some .int)) (by decide) rfl (Nat.le_of_ble_eq_true rfl) ?_
  intro p e s m below meth c ls hx hb hr hlocks hml hown hts hsz hP hK hD hS hA hl
  have hin : ∀ w ∈ u_ws RX9 TX9 36, w ∈ wsX9_spell := by decide +kernel
  have hown : s.vm.findClass RX9 = some m.cls := hown
  have hl : lv_has ls 4 [(0, .ref (ad 0)), (1, .int b1), (2, .int b2)] := hl
  refine lv_aload_n hx hb dX9_spell_0 rfl (lv_at hl 0 rfl) ?_
  refine lv_iload_n hx hb dX9_spell_1 rfl (lv_at hl 1 rfl) ?_
  refine gCalli (ws := wM cy ad S ++ X) (As := [.int b1]) (rest := []) (q0 := 0) (r0 := (RX9, TX9, 36)) hx hb hml hown hts hK hP hD hS hA hl.1 wM_0 rfl (cM_isOne l D cy ad X S _ b1) (cwV 1 hts gX9_spell_X9_isOne rfl rfl rfl (by decide +kernel) ⟨Nat.le_of_ble_eq_true rfl, Nat.le_of_ble_eq_true rfl⟩) rfl rfl (Nat.le_of_ble_eq_true rfl) ⟨Nat.le_of_ble_eq_true rfl, Nat.le_of_ble_eq_true rfl⟩ dX9_spell_2 (fun r1 ws1 H locs e1 hP hD hS => ?_)
  obtain ⟨e1a, e1b⟩ := e1
  rw [show r1 = jOne S b1 from e1a]
  rw [e1b] at hP hD
  rw [jOne_0 hone]
  refine lv_if_ne (tgt := 10) hx hb dX9_spell_5 (by decide) (fun c2 => ?_) (fun c2 => ?_)
  · exact absurd c2 (by decide)
  · skip
    refine lv_iconst (v := -1) hx hb dX9_spell_8 (by decide) ?_
    exact W.iret hx hb hr (fun t ht hW => ⟨⟨_, _, rfl, rfl, by rw [ht]; exact hP, va_K.moved hW.alike hK, hD⟩, hS.F ht⟩) hS.2.2 dX9_spell_9
set_option maxHeartbeats 4000000 in
set_option maxRecDepth 100000 in
theorem cN_status (l : Launch) (D : va_G) (cy : Nat → ClassId) (ad : Nat → Nat) (X : va_W) (S : MS) (sz : Nat) (hone : ∀ c : Nat, c < 15 → jOf S c 10 = 0) (b1 : Int32) : Met l yX9_status wsX9_status (rm9 2 46) (gPc D cy (wM cy ad S ++ X) sz [.ref (ad 0), .int b1]) (gQi D cy (wM cy ad S ++ X) sz (fun r _ => r = -1)) 0 0 (va_A (wM cy ad S ++ X) sz) := by
  refine gHead (cc := cX9_status) (maxL := 6) (ret := (some .int)) (by decide) rfl (Nat.le_of_ble_eq_true rfl) ?_
  intro p e s m below meth c ls hx hb hr hlocks hml hown hts hsz hP hK hD hS hA hl
  have hin : ∀ w ∈ u_ws RX9 TX9 36, w ∈ wsX9_status := by decide +kernel
  have hown : s.vm.findClass RX9 = some m.cls := hown
  have hl : lv_has ls 6 [(0, .ref (ad 0)), (1, .int b1)] := hl
  refine lv_aload_n hx hb dX9_status_0 rfl (lv_at hl 0 rfl) ?_
  refine lv_iload_n hx hb dX9_status_1 rfl (lv_at hl 1 rfl) ?_
  refine gCalli (ws := wM cy ad S ++ X) (As := [.int b1]) (rest := []) (q0 := 0) (r0 := (RX9, TX9, 36)) hx hb hml hown hts hK hP hD hS hA hl.1 wM_0 rfl (cM_isOne l D cy ad X S _ b1) (cwV 1 hts gX9_status_X9_isOne rfl rfl rfl (by decide +kernel) ⟨Nat.le_of_ble_eq_true rfl, Nat.le_of_ble_eq_true rfl⟩) rfl rfl (Nat.le_of_ble_eq_true rfl) ⟨Nat.le_of_ble_eq_true rfl, Nat.le_of_ble_eq_true rfl⟩ dX9_status_2 (fun r1 ws1 H locs e1 hP hD hS => ?_)
  obtain ⟨e1a, e1b⟩ := e1
  rw [show r1 = jOne S b1 from e1a]
  rw [e1b] at hP hD
  rw [jOne_0 hone]
  refine lv_if_ne (tgt := 10) hx hb dX9_status_5 (by decide) (fun c2 => ?_) (fun c2 => ?_)
  · exact absurd c2 (by decide)
  · skip
    refine lv_iconst (v := -1) hx hb dX9_status_8 (by decide) ?_
    exact W.iret hx hb hr (fun t ht hW => ⟨⟨_, _, rfl, rfl, by rw [ht]; exact hP, va_K.moved hW.alike hK, hD⟩, hS.F ht⟩) hS.2.2 dX9_status_9
set_option maxHeartbeats 4000000 in
set_option maxRecDepth 100000 in
theorem cN_play (l : Launch) (D : va_G) (cy : Nat → ClassId) (ad : Nat → Nat) (X : va_W) (S : MS) (sz : Nat) (hone : ∀ c : Nat, c < 15 → jOf S c 10 = 0) (b1 b2 : Int32) : Met l yX9_play wsX9_play (rm9 2 46) (gPc D cy (wM cy ad S ++ X) sz [.ref (ad 0), .int b1, .int b2]) (gQi D cy (wM cy ad S ++ X) sz (fun r _ => r = -1)) 0 0 (va_A (wM cy ad S ++ X) sz) := by
  refine gHead (cc := cX9_play) (maxL := 4) (ret := (some .int)) (by decide) rfl (Nat.le_of_ble_eq_true rfl) ?_
  intro p e s m below meth c ls hx hb hr hlocks hml hown hts hsz hP hK hD hS hA hl
  have hin : ∀ w ∈ u_ws RX9 TX9 36, w ∈ wsX9_play := by decide +kernel
  have hown : s.vm.findClass RX9 = some m.cls := hown
  have hl : lv_has ls 4 [(0, .ref (ad 0)), (1, .int b1), (2, .int b2)] := hl
  refine lv_aload_n hx hb dX9_play_0 rfl (lv_at hl 0 rfl) ?_
  refine lv_iload_n hx hb dX9_play_1 rfl (lv_at hl 1 rfl) ?_
  refine gCalli (ws := wM cy ad S ++ X) (As := [.int b1]) (rest := []) (q0 := 0) (r0 := (RX9, TX9, 36)) hx hb hml hown hts hK hP hD hS hA hl.1 wM_0 rfl (cM_isOne l D cy ad X S _ b1) (cwV 1 hts gX9_play_X9_isOne rfl rfl rfl (by decide +kernel) ⟨Nat.le_of_ble_eq_true rfl, Nat.le_of_ble_eq_true rfl⟩) rfl rfl (Nat.le_of_ble_eq_true rfl) ⟨Nat.le_of_ble_eq_true rfl, Nat.le_of_ble_eq_true rfl⟩ dX9_play_2 (fun r1 ws1 H locs e1 hP hD hS => ?_)
  obtain ⟨e1a, e1b⟩ := e1
  rw [show r1 = jOne S b1 from e1a]
  rw [e1b] at hP hD
  rw [jOne_0 hone]
  refine lv_if_ne (tgt := 10) hx hb dX9_play_5 (by decide) (fun c2 => ?_) (fun c2 => ?_)
  · exact absurd c2 (by decide)
  · skip
    refine lv_iconst (v := -1) hx hb dX9_play_8 (by decide) ?_
    exact W.iret hx hb hr (fun t ht hW => ⟨⟨_, _, rfl, rfl, by rw [ht]; exact hP, va_K.moved hW.alike hK, hD⟩, hS.F ht⟩) hS.2.2 dX9_play_9
set_option maxHeartbeats 4000000 in
set_option maxRecDepth 100000 in
theorem cN_value (l : Launch) (D : va_G) (cy : Nat → ClassId) (ad : Nat → Nat) (X : va_W) (S : MS) (sz : Nat) (hone : ∀ c : Nat, c < 15 → jOf S c 10 = 0) (b1 b2 b3 : Int32) : Met l yX9_value wsX9_value (rm9 2 46) (gPc D cy (wM cy ad S ++ X) sz [.ref (ad 0), .int b1, .int b2, .int b3]) (gQl D cy (wM cy ad S ++ X) sz (fun r _ => r = (-1000000000000000001))) 0 0 (va_A (wM cy ad S ++ X) sz) := by
  refine gHead (cc := cX9_value) (maxL := 4) (ret := (some .long)) (by decide) rfl (Nat.le_of_ble_eq_true rfl) ?_
  intro p e s m below meth c ls hx hb hr hlocks hml hown hts hsz hP hK hD hS hA hl
  have hin : ∀ w ∈ u_ws RX9 TX9 36, w ∈ wsX9_value := by decide +kernel
  have hown : s.vm.findClass RX9 = some m.cls := hown
  have hl : lv_has ls 4 [(0, .ref (ad 0)), (1, .int b1), (2, .int b2), (3, .int b3)] := hl
  refine lv_aload_n hx hb dX9_value_0 rfl (lv_at hl 0 rfl) ?_
  refine lv_iload_n hx hb dX9_value_1 rfl (lv_at hl 1 rfl) ?_
  refine gCalli (ws := wM cy ad S ++ X) (As := [.int b1]) (rest := []) (q0 := 0) (r0 := (RX9, TX9, 36)) hx hb hml hown hts hK hP hD hS hA hl.1 wM_0 rfl (cM_isOne l D cy ad X S _ b1) (cwV 1 hts gX9_value_X9_isOne rfl rfl rfl (by decide +kernel) ⟨Nat.le_of_ble_eq_true rfl, Nat.le_of_ble_eq_true rfl⟩) rfl rfl (Nat.le_of_ble_eq_true rfl) ⟨Nat.le_of_ble_eq_true rfl, Nat.le_of_ble_eq_true rfl⟩ dX9_value_2 (fun r1 ws1 H locs e1 hP hD hS => ?_)
  obtain ⟨e1a, e1b⟩ := e1
  rw [show r1 = jOne S b1 from e1a]
  rw [e1b] at hP hD
  rw [jOne_0 hone]
  refine lv_if_ne (tgt := 12) hx hb dX9_value_5 (by decide) (fun c2 => ?_) (fun c2 => ?_)
  · exact absurd c2 (by decide)
  · skip
    refine lv_ldc2 (v := (-1000000000000000001)) hx hb hown (hts (.constantLong RX9 289 (-1000000000000000001)) (by decide +kernel)) dX9_value_8 ?_
    exact W.lret hx hb hr (fun t ht hW => ⟨⟨_, _, rfl, rfl, by rw [ht]; exact hP, va_K.moved hW.alike hK, hD⟩, hS.F ht⟩) hS.2.2 dX9_value_11
set_option maxHeartbeats 4000000 in
set_option maxRecDepth 100000 in
theorem cN_blockers (l : Launch) (D : va_G) (cy : Nat → ClassId) (ad : Nat → Nat) (X : va_W) (S : MS) (sz : Nat) (hdr : ∀ k : Nat, k < 6 → a4 S k = 0) (b1 b2 : Int32) : Met l yX9_blockers wsX9_blockers (rm9 2 46) (gPc D cy (wM cy ad S ++ X) sz [.ref (ad 0), .int b1, .int b2]) (gQi D cy (wM cy ad S ++ X) sz (fun r _ => r = (if j_in b1 (nI 0) (nI 2) = 0 then -2 else if j_isConstant b2 = 0 then -2 else -5))) 0 0 (va_A (wM cy ad S ++ X) sz) := by
  refine gHead (cc := cX9_blockers) (maxL := 6) (ret := (some .int)) (by decide) rfl (Nat.le_of_ble_eq_true rfl) ?_
  intro p e s m below meth c ls hx hb hr hlocks hml hown hts hsz hP hK hD hS hA hl
  have hin : ∀ w ∈ u_ws RX9 TX9 36, w ∈ wsX9_blockers := by decide +kernel
  have hown : s.vm.findClass RX9 = some m.cls := hown
  have hl : lv_has ls 6 [(0, .ref (ad 0)), (1, .int b1), (2, .int b2)] := hl
  refine lv_iload_n hx hb dX9_blockers_0 rfl (lv_at hl 1 rfl) ?_
  refine lv_iconst (v := nI 0) hx hb dX9_blockers_1 (by decide) ?_
  refine lv_iconst (v := nI 2) hx hb dX9_blockers_2 (by decide) ?_
  refine pCalli (As := [.int b1, .int (nI 0), .int (nI 2)]) (rest := []) hx hb hml hown hts hP hS hA hl.1 (cM_in l _ b1 (nI 0) (nI 2)) (va_cwS 3 hts gX9_blockers_X9_in rfl rfl rfl (by decide +kernel) ⟨Nat.le_of_ble_eq_true rfl, Nat.le_of_ble_eq_true rfl⟩) rfl rfl (Nat.le_of_ble_eq_true rfl) ⟨Nat.le_of_ble_eq_true rfl, Nat.le_of_ble_eq_true rfl⟩ dX9_blockers_3 (fun r1 H locs e1 hP hS => ?_)
  rw [show r1 = j_in b1 (nI 0) (nI 2) from e1]
  refine lv_if_eq (tgt := 16) hx hb dX9_blockers_6 (by decide) (fun c2 => ?_) (fun c2 => ?_)
  · skip
    refine lv_bipush (v := (-2)) hx hb dX9_blockers_16 (by decide) ?_
    exact W.iret hx hb hr (fun t ht hW => ⟨⟨_, _, rfl, by simp [c2], by rw [ht]; exact hP, va_K.moved hW.alike hK, hD⟩, hS.F ht⟩) hS.2.2 dX9_blockers_18
  · skip
    refine lv_iload_n hx hb dX9_blockers_9 rfl (lv_at hl 2 rfl) ?_
    refine pCalli (As := [.int b2]) (rest := []) hx hb hml hown hts hP hS hA hl.1 (cM_isConstant l _ b2) (va_cwS 1 hts gX9_blockers_X9_isConstant rfl rfl rfl (by decide +kernel) ⟨Nat.le_of_ble_eq_true rfl, Nat.le_of_ble_eq_true rfl⟩) rfl rfl (Nat.le_of_ble_eq_true rfl) ⟨Nat.le_of_ble_eq_true rfl, Nat.le_of_ble_eq_true rfl⟩ dX9_blockers_10 (fun r3 H locs e3 hP hS => ?_)
    rw [show r3 = j_isConstant b2 from e3]
    refine lv_if_ne (tgt := 19) hx hb dX9_blockers_13 (by decide) (fun c4 => ?_) (fun c4 => ?_)
    · skip
      refine lv_aload_n hx hb dX9_blockers_19 rfl (lv_at hl 0 rfl) ?_
      refine rM_get (v := .ref (ad 4)) hx hb hts hin hown hK hP 3 (by decide) rfl (by decide +kernel) dX9_blockers_20 ?_
      refine gCallSi (ws := wM cy ad S ++ X) (As := [.ref (ad 4)]) (rest := []) hx hb hml hown hts hK hP hD hS hA hl.1 (cM_isAny l D cy _ _ (f := a4 S) wM_4) (va_cwS 1 hts gX9_blockers_X9_isAnything rfl rfl rfl (by decide +kernel) ⟨Nat.le_of_ble_eq_true rfl, Nat.le_of_ble_eq_true rfl⟩) rfl rfl (Nat.le_of_ble_eq_true rfl) ⟨Nat.le_of_ble_eq_true rfl, Nat.le_of_ble_eq_true rfl⟩ dX9_blockers_23 (fun r5 ws5 H locs e5 hP hD hS => ?_)
      obtain ⟨e5a, e5b⟩ := e5
      rw [e5b] at hP hD
      rw [show r5 = nI 0 from e5a.trans (jAny_0 hdr)]
      refine lv_if_ne (tgt := 32) hx hb dX9_blockers_26 (by decide) (fun c6 => ?_) (fun c6 => ?_)
      · exact absurd c6 (by decide)
      · skip
        refine lv_bipush (v := (-5)) hx hb dX9_blockers_29 (by decide) ?_
        exact W.iret hx hb hr (fun t ht hW => ⟨⟨_, _, rfl, by rw [if_neg c2, if_neg c4], by rw [ht]; exact hP, va_K.moved hW.alike hK, hD⟩, hS.F ht⟩) hS.2.2 dX9_blockers_31
    · skip
      refine lv_bipush (v := (-2)) hx hb dX9_blockers_16 (by decide) ?_
      exact W.iret hx hb hr (fun t ht hW => ⟨⟨_, _, rfl, by simp [c2, c4], by rw [ht]; exact hP, va_K.moved hW.alike hK, hD⟩, hS.F ht⟩) hS.2.2 dX9_blockers_18
set_option maxHeartbeats 4000000 in
set_option maxRecDepth 100000 in
theorem cN_sign (l : Launch) (D : va_G) (cy : Nat → ClassId) (ad : Nat → Nat) (X : va_W) (S : MS) (sz : Nat) (h5 : aF S 5 = nI 0) (h29 : aF S 29 = nI 0) : Met l yX9_sign wsX9_sign (rm9 0 0) (gPc D cy (wM cy ad S ++ X) sz [.ref (ad 0)]) (gQi D cy (wM cy ad S ++ X) sz (fun r ws' => r = nI 0 ∧ ws' = wM cy ad S ++ X)) 0 0 (va_A (wM cy ad S ++ X) sz) := by
  refine gHead (cc := cX9_sign) (maxL := 1) (ret := (some .int)) (by decide) rfl (Nat.le_of_ble_eq_true rfl) ?_
  intro p e s m below meth c ls hx hb hr hlocks hml hown hts hsz hP hK hD hS hA hl
  have hin : ∀ w ∈ u_ws RX9 TX9 36, w ∈ wsX9_sign := by decide +kernel
  have hown : s.vm.findClass RX9 = some m.cls := hown
  have hl : lv_has ls 1 [(0, .ref (ad 0))] := hl
  refine lv_aload_n hx hb dX9_sign_0 rfl (lv_at hl 0 rfl) ?_
  refine rM_get (v := .int (aF S 29)) hx hb hts hin hown hK hP 29 (by decide) rfl (by decide +kernel) dX9_sign_1 ?_
  rw [h29]
  refine lv_aload_n hx hb dX9_sign_4 rfl (lv_at hl 0 rfl) ?_
  refine rM_get (v := .int (aF S 5)) hx hb hts hin hown hK hP 5 (by decide) rfl (by decide +kernel) dX9_sign_5 ?_
  rw [h5]
  refine lv_icmp_ge (tgt := 23) hx hb dX9_sign_8 (by decide) (fun c1 => ?_) (fun c1 => ?_)
  · rw [nI_leI (by omega) (by omega)] at c1
    refine lv_iconst (v := nI 0) hx hb dX9_sign_23 (by decide) ?_
    exact W.iret hx hb hr (fun t ht hW => ⟨⟨_, _, rfl, ⟨rfl, rfl⟩, by rw [ht]; exact hP, va_K.moved hW.alike hK, hD⟩, hS.F ht⟩) hS.2.2 dX9_sign_24
  · exact absurd c1 (by rw [nI_leI (by omega) (by omega)]; omega)
set_option maxHeartbeats 4000000 in
set_option maxRecDepth 100000 in
theorem cN_readTerm (l : Launch) (D : va_G) (cy : Nat → ClassId) (ad : Nat → Nat) (X : va_W) (S : MS) (sz : Nat) (h5 : aF S 5 = nI 0) (h29 : aF S 29 = nI 0) (b1 : Int32) : Met l yX9_readTerm wsX9_readTerm (rm9 1 24) (gPc D cy (wM cy ad S ++ X) sz [.ref (ad 0), .int b1]) (gQv D cy (wM cy ad S ++ X) sz (fun ws' => ws' = wM cy ad (mk9 (upd (aF S) 30 (nI 1)) (aG S) (a1 S) (a2 S) (a3 S) (a4 S) (a5 S) (a6 S) (a7 S) (a8 S) (a9 S) (a10 S) (a11 S) (a12 S) (a13 S) (a14 S) (a15 S) (a16 S) (a17 S) (a18 S) (a19 S) (a20 S)) ++ X)) 0 0 (va_A (wM cy ad S ++ X) sz) := by
  refine gHead (cc := cX9_readTerm) (maxL := 3) (ret := none) (by decide) rfl (Nat.le_of_ble_eq_true rfl) ?_
  intro p e s m below meth c ls hx hb hr hlocks hml hown hts hsz hP hK hD hS hA hl
  have hin : ∀ w ∈ u_ws RX9 TX9 36, w ∈ wsX9_readTerm := by decide +kernel
  have hown : s.vm.findClass RX9 = some m.cls := hown
  have hl : lv_has ls 3 [(0, .ref (ad 0)), (1, .int b1)] := hl
  refine lv_iload_n hx hb dX9_readTerm_0 rfl (lv_at hl 1 rfl) ?_
  refine lv_istore_n (lv' := [(2, .int b1), (0, .ref (ad 0)), (1, .int b1)]) hx hb dX9_readTerm_1 rfl hl (by decide) rfl (fun ls hl => ?_)
  refine lv_aload_n hx hb dX9_readTerm_2 rfl (lv_at hl 1 rfl) ?_
  refine gCalli (ws := wM cy ad S ++ X) (As := []) (rest := []) (q0 := 0) (r0 := (RX9, TX9, 36)) hx hb hml hown hts hK hP hD hS hA hl.1 wM_0 rfl (cN_sign l D cy ad X S _ h5 h29) (cwV 0 hts gX9_readTerm_X9_sign rfl rfl rfl (by decide +kernel) ⟨Nat.le_of_ble_eq_true rfl, Nat.le_of_ble_eq_true rfl⟩) rfl rfl (Nat.le_of_ble_eq_true rfl) ⟨Nat.le_of_ble_eq_true rfl, Nat.le_of_ble_eq_true rfl⟩ dX9_readTerm_3 (fun r1 ws1 H locs e1 hP hD hS => ?_)
  obtain ⟨e1a, e1b⟩ := e1
  rw [show r1 = nI 0 from e1a]
  rw [e1b] at hP hD
  refine lv_bipush (v := nI 50) hx hb dX9_readTerm_6 (by decide) ?_
  refine lv_bipush (v := nI 51) hx hb dX9_readTerm_8 (by decide) ?_
  refine pCalli (As := [.int (nI 0), .int (nI 50), .int (nI 51)]) (rest := []) hx hb hml hown hts hP hS hA hl.1 (cM_in l _ (nI 0) (nI 50) (nI 51)) (va_cwS 3 hts gX9_readTerm_X9_in rfl rfl rfl (by decide +kernel) ⟨Nat.le_of_ble_eq_true rfl, Nat.le_of_ble_eq_true rfl⟩) rfl rfl (Nat.le_of_ble_eq_true rfl) ⟨Nat.le_of_ble_eq_true rfl, Nat.le_of_ble_eq_true rfl⟩ dX9_readTerm_10 (fun r2 H locs e2 hP hS => ?_)
  rw [show r2 = j_in (nI 0) (nI 50) (nI 51) from e2]
  rw [show j_in (nI 0) (nI 50) (nI 51) = nI 0 from by decide]
  refine lv_if_eq (tgt := 36) hx hb dX9_readTerm_13 (by decide) (fun c3 => ?_) (fun c3 => ?_)
  · skip
    refine lv_aload_n hx hb dX9_readTerm_36 rfl (lv_at hl 1 rfl) ?_
    refine gCalli (ws := wM cy ad S ++ X) (As := []) (rest := []) (q0 := 0) (r0 := (RX9, TX9, 36)) hx hb hml hown hts hK hP hD hS hA hl.1 wM_0 rfl (cN_sign l D cy ad X S _ h5 h29) (cwV 0 hts gX9_readTerm_X9_sign rfl rfl rfl (by decide +kernel) ⟨Nat.le_of_ble_eq_true rfl, Nat.le_of_ble_eq_true rfl⟩) rfl rfl (Nat.le_of_ble_eq_true rfl) ⟨Nat.le_of_ble_eq_true rfl, Nat.le_of_ble_eq_true rfl⟩ dX9_readTerm_37 (fun r4 ws4 H locs e4 hP hD hS => ?_)
    obtain ⟨e4a, e4b⟩ := e4
    rw [show r4 = nI 0 from e4a]
    rw [e4b] at hP hD
    refine lv_bipush (v := nI 97) hx hb dX9_readTerm_40 (by decide) ?_
    refine lv_bipush (v := nI 102) hx hb dX9_readTerm_42 (by decide) ?_
    refine pCalli (As := [.int (nI 0), .int (nI 97), .int (nI 102)]) (rest := []) hx hb hml hown hts hP hS hA hl.1 (cM_in l _ (nI 0) (nI 97) (nI 102)) (va_cwS 3 hts gX9_readTerm_X9_in rfl rfl rfl (by decide +kernel) ⟨Nat.le_of_ble_eq_true rfl, Nat.le_of_ble_eq_true rfl⟩) rfl rfl (Nat.le_of_ble_eq_true rfl) ⟨Nat.le_of_ble_eq_true rfl, Nat.le_of_ble_eq_true rfl⟩ dX9_readTerm_44 (fun r5 H locs e5 hP hS => ?_)
    rw [show r5 = j_in (nI 0) (nI 97) (nI 102) from e5]
    rw [show j_in (nI 0) (nI 97) (nI 102) = nI 0 from by decide]
    refine lv_if_eq (tgt := 79) hx hb dX9_readTerm_47 (by decide) (fun c6 => ?_) (fun c6 => ?_)
    · skip
      refine lv_aload_n hx hb dX9_readTerm_79 rfl (lv_at hl 1 rfl) ?_
      refine lv_iconst (v := nI 1) hx hb dX9_readTerm_80 (by decide) ?_
      refine rM_put30 (v := nI 1) hx hb hts hin hown hK hP hD hS (rfl) (rfl) (by decide +kernel) dX9_readTerm_81 (fun H locs hP hD hS => ?_)
      have hP : va_P D vwCl (wM cy ad (mk9 (upd (aF S) 30 (nI 1)) (aG S) (a1 S) (a2 S) (a3 S) (a4 S) (a5 S) (a6 S) (a7 S) (a8 S) (a9 S) (a10 S) (a11 S) (a12 S) (a13 S) (a14 S) (a15 S) (a16 S) (a17 S) (a18 S) (a19 S) (a20 S)) ++ X) H := hP
      have hD : va_D (va_A (wM cy ad S ++ X) sz) (wM cy ad (mk9 (upd (aF S) 30 (nI 1)) (aG S) (a1 S) (a2 S) (a3 S) (a4 S) (a5 S) (a6 S) (a7 S) (a8 S) (a9 S) (a10 S) (a11 S) (a12 S) (a13 S) (a14 S) (a15 S) (a16 S) (a17 S) (a18 S) (a19 S) (a20 S)) ++ X) := hD
      exact W.vret hx hb hr (fun t ht hW => ⟨⟨_, rfl, rfl, by rw [ht]; exact hP, va_K.moved hW.alike hK, hD⟩, hS.F ht⟩) hS.2.2 dX9_readTerm_84
    · exact absurd c3 c6
  · exact absurd c3 (by decide)
def jRS (S : MS) : MS := mk9 (upd (upd (aF S) 29 (nI 0 + nI 0)) 30 (nI 1)) (aG S) (a1 S) (a2 S) (a3 S) (a4 S) (a5 S) (a6 S) (a7 S) (a8 S) (a9 S) (a10 S) (a11 S) (a12 S) (a13 S) (a14 S) (a15 S) (a16 S) (a17 S) (a18 S) (a19 S) (a20 S)
set_option maxHeartbeats 4000000 in
set_option maxRecDepth 100000 in
theorem cN_readSide (l : Launch) (D : va_G) (cy : Nat → ClassId) (ad : Nat → Nat) (X : va_W) (S : MS) (sz : Nat) (h5 : aF S 5 = nI 0) (h29 : aF S 29 = nI 0) : Met l yX9_readSide wsX9_readSide (rm9 2 50) (gPc D cy (wM cy ad S ++ X) sz [.ref (ad 0)]) (gQv D cy (wM cy ad S ++ X) sz (fun ws' => ws' = wM cy ad (jRS S) ++ X)) 0 0 (va_A (wM cy ad S ++ X) sz) := by
  refine gHead (cc := cX9_readSide) (maxL := 2) (ret := none) (by decide) rfl (Nat.le_of_ble_eq_true rfl) ?_
  intro p e s m below meth c ls hx hb hr hlocks hml hown hts hsz hP hK hD hS hA hl
  have hin : ∀ w ∈ u_ws RX9 TX9 36, w ∈ wsX9_readSide := by decide +kernel
  have hown : s.vm.findClass RX9 = some m.cls := hown
  have hl : lv_has ls 2 [(0, .ref (ad 0))] := hl
  refine lv_aload_n hx hb dX9_readSide_0 rfl (lv_at hl 0 rfl) ?_
  refine gCalli (ws := wM cy ad S ++ X) (As := []) (rest := []) (q0 := 0) (r0 := (RX9, TX9, 36)) hx hb hml hown hts hK hP hD hS hA hl.1 wM_0 rfl (cN_sign l D cy ad X S _ h5 h29) (cwV 0 hts gX9_readSide_X9_sign rfl rfl rfl (by decide +kernel) ⟨Nat.le_of_ble_eq_true rfl, Nat.le_of_ble_eq_true rfl⟩) rfl rfl (Nat.le_of_ble_eq_true rfl) ⟨Nat.le_of_ble_eq_true rfl, Nat.le_of_ble_eq_true rfl⟩ dX9_readSide_1 (fun r1 ws1 H locs e1 hP hD hS => ?_)
  obtain ⟨e1a, e1b⟩ := e1
  rw [show r1 = nI 0 from e1a]
  rw [e1b] at hP hD
  refine lv_bipush (v := nI 45) hx hb dX9_readSide_4 (by decide) ?_
  refine lv_icmp_ne (tgt := 13) hx hb dX9_readSide_6 (by decide) (fun c2 => ?_) (fun c2 => ?_)
  · rw [nI_eq (by omega) (by omega)] at c2
    refine lv_iconst (v := nI 1) hx hb dX9_readSide_13 (by decide) ?_
    refine lv_istore_n (lv' := [(1, .int (nI 1)), (0, .ref (ad 0))]) hx hb dX9_readSide_14 rfl hl (by decide) rfl (fun ls hl => ?_)
    refine lv_aload_n hx hb dX9_readSide_15 rfl (lv_at hl 1 rfl) ?_
    refine lv_dup hx hb dX9_readSide_16 rfl ?_
    refine rM_get (v := .int (aF S 29)) hx hb hts hin hown hK hP 29 (by decide) rfl (by decide +kernel) dX9_readSide_17 ?_
    rw [h29]
    refine lv_iload_n hx hb dX9_readSide_20 rfl (lv_at hl 0 rfl) ?_
    refine lv_if_ge (tgt := 28) hx hb dX9_readSide_21 (by decide) (fun c3 => ?_) (fun c3 => ?_)
    · skip
      refine lv_iconst (v := nI 0) hx hb dX9_readSide_28 (by decide) ?_
      refine lv_iadd hx hb dX9_readSide_29 ?_
      rw [nI_add]
      refine rM_put29 (v := nI (0 + 0)) hx hb hts hin hown hK hP hD hS (by decide +kernel) dX9_readSide_30 (fun H locs hP hD hS => ?_)
      have hP : va_P D vwCl (wM cy ad (mk9 (upd (aF S) 29 (nI (0 + 0))) (aG S) (a1 S) (a2 S) (a3 S) (a4 S) (a5 S) (a6 S) (a7 S) (a8 S) (a9 S) (a10 S) (a11 S) (a12 S) (a13 S) (a14 S) (a15 S) (a16 S) (a17 S) (a18 S) (a19 S) (a20 S)) ++ X) H := hP
      have hD : va_D (va_A (wM cy ad S ++ X) sz) (wM cy ad (mk9 (upd (aF S) 29 (nI (0 + 0))) (aG S) (a1 S) (a2 S) (a3 S) (a4 S) (a5 S) (a6 S) (a7 S) (a8 S) (a9 S) (a10 S) (a11 S) (a12 S) (a13 S) (a14 S) (a15 S) (a16 S) (a17 S) (a18 S) (a19 S) (a20 S)) ++ X) := hD
      refine lv_aload_n hx hb dX9_readSide_33 rfl (lv_at hl 1 rfl) ?_
      refine lv_iload_n hx hb dX9_readSide_34 rfl (lv_at hl 0 rfl) ?_
      refine gCallv (ws := wM cy ad (mk9 (upd (aF S) 29 (nI (0 + 0))) (aG S) (a1 S) (a2 S) (a3 S) (a4 S) (a5 S) (a6 S) (a7 S) (a8 S) (a9 S) (a10 S) (a11 S) (a12 S) (a13 S) (a14 S) (a15 S) (a16 S) (a17 S) (a18 S) (a19 S) (a20 S)) ++ X) (As := [.int (nI 1)]) (rest := []) (q0 := 0) (r0 := (RX9, TX9, 36)) hx hb hml hown hts hK hP hD hS hA hl.1 wM_0 rfl (cN_readTerm l D cy ad X (mk9 (upd (aF S) 29 (nI (0 + 0))) (aG S) (a1 S) (a2 S) (a3 S) (a4 S) (a5 S) (a6 S) (a7 S) (a8 S) (a9 S) (a10 S) (a11 S) (a12 S) (a13 S) (a14 S) (a15 S) (a16 S) (a17 S) (a18 S) (a19 S) (a20 S)) _ h5 rfl (nI 1)) (cwV 1 hts gX9_readSide_X9_readTerm rfl rfl rfl (by decide +kernel) ⟨Nat.le_of_ble_eq_true rfl, Nat.le_of_ble_eq_true rfl⟩) rfl rfl (Nat.le_of_ble_eq_true rfl) ⟨Nat.le_of_ble_eq_true rfl, Nat.le_of_ble_eq_true rfl⟩ dX9_readSide_35 (fun ws4 H locs e4 hP hD hS => ?_)
      rw [show ws4 = _ from e4] at hP hD
      have hP : va_P D vwCl (wM cy ad (mk9 (upd (upd (aF S) 29 (nI (0 + 0))) 30 (nI 1)) (aG S) (a1 S) (a2 S) (a3 S) (a4 S) (a5 S) (a6 S) (a7 S) (a8 S) (a9 S) (a10 S) (a11 S) (a12 S) (a13 S) (a14 S) (a15 S) (a16 S) (a17 S) (a18 S) (a19 S) (a20 S)) ++ X) H := hP
      have hD : va_D (va_A (wM cy ad S ++ X) sz) (wM cy ad (mk9 (upd (upd (aF S) 29 (nI (0 + 0))) 30 (nI 1)) (aG S) (a1 S) (a2 S) (a3 S) (a4 S) (a5 S) (a6 S) (a7 S) (a8 S) (a9 S) (a10 S) (a11 S) (a12 S) (a13 S) (a14 S) (a15 S) (a16 S) (a17 S) (a18 S) (a19 S) (a20 S)) ++ X) := hD
      refine lv_aload_n hx hb dX9_readSide_38 rfl (lv_at hl 1 rfl) ?_
      refine rM_get (v := .int (nI 1)) hx hb hts hin hown hK hP 30 (by decide) rfl (by decide +kernel) dX9_readSide_39 ?_
      refine lv_if_ne (tgt := 96) hx hb dX9_readSide_42 (by decide) (fun c5 => ?_) (fun c5 => ?_)
      · skip
        exact W.vret hx hb hr (fun t ht hW => ⟨⟨_, rfl, rfl, by rw [ht]; exact hP, va_K.moved hW.alike hK, hD⟩, hS.F ht⟩) hS.2.2 dX9_readSide_96
      · exact absurd c5 (by decide)
    · exact absurd c3 (by decide)
  · exact absurd c2 (by rw [nI_eq (by omega) (by omega)]; omega)
def fRd (k : Nat) (f : Nat → Int32) : Nat → Int32 := upd f k (nI 0)
set_option maxHeartbeats 4000000 in
set_option maxRecDepth 100000 in
theorem cN_fault (l : Launch) (D : va_G) (cy : Nat → ClassId) (ad : Nat → Nat) (X : va_W) (S : MS) (sz : Nat) (h5 : aF S 5 = nI 0) : Met l yX9_fault wsX9_fault (rm9 3 80) (gPc D cy (wM cy ad S ++ X) sz [.ref (ad 0)]) (gQi D cy (wM cy ad S ++ X) sz (fun r _ => r = nI 0)) 0 0 (va_A (wM cy ad S ++ X) sz) := by
  refine gHead (cc := cX9_fault) (maxL := 2) (ret := (some .int)) (by decide) rfl (Nat.le_of_ble_eq_true rfl) ?_
  intro p e s m below meth c ls hx hb hr hlocks hml hown hts hsz hP hK hD hS hA hl
  have hin : ∀ w ∈ u_ws RX9 TX9 36, w ∈ wsX9_fault := by decide +kernel
  have hown : s.vm.findClass RX9 = some m.cls := hown
  have hl : lv_has ls 2 [(0, .ref (ad 0))] := hl
  refine lv_aload_n hx hb dX9_fault_0 rfl (lv_at hl 0 rfl) ?_
  refine lv_iconst (v := nI 0) hx hb dX9_fault_1 (by decide) ?_
  refine rM_put29 (v := nI 0) hx hb hts hin hown hK hP hD hS (by decide +kernel) dX9_fault_2 (fun H locs hP hD hS => ?_)
  have hP : va_P D vwCl (wM cy ad (mk9 (upd (aF S) 29 (nI 0)) (aG S) (a1 S) (a2 S) (a3 S) (a4 S) (a5 S) (a6 S) (a7 S) (a8 S) (a9 S) (a10 S) (a11 S) (a12 S) (a13 S) (a14 S) (a15 S) (a16 S) (a17 S) (a18 S) (a19 S) (a20 S)) ++ X) H := hP
  have hD : va_D (va_A (wM cy ad S ++ X) sz) (wM cy ad (mk9 (upd (aF S) 29 (nI 0)) (aG S) (a1 S) (a2 S) (a3 S) (a4 S) (a5 S) (a6 S) (a7 S) (a8 S) (a9 S) (a10 S) (a11 S) (a12 S) (a13 S) (a14 S) (a15 S) (a16 S) (a17 S) (a18 S) (a19 S) (a20 S)) ++ X) := hD
  refine lv_aload_n hx hb dX9_fault_5 rfl (lv_at hl 0 rfl) ?_
  refine lv_iconst (v := nI 0) hx hb dX9_fault_6 (by decide) ?_
  refine rM_put30 (v := nI 0) hx hb hts hin hown hK hP hD hS (rfl) (rfl) (by decide +kernel) dX9_fault_7 (fun H locs hP hD hS => ?_)
  have hP : va_P D vwCl (wM cy ad (mk9 (upd (upd (aF S) 29 (nI 0)) 30 (nI 0)) (aG S) (a1 S) (a2 S) (a3 S) (a4 S) (a5 S) (a6 S) (a7 S) (a8 S) (a9 S) (a10 S) (a11 S) (a12 S) (a13 S) (a14 S) (a15 S) (a16 S) (a17 S) (a18 S) (a19 S) (a20 S)) ++ X) H := hP
  have hD : va_D (va_A (wM cy ad S ++ X) sz) (wM cy ad (mk9 (upd (upd (aF S) 29 (nI 0)) 30 (nI 0)) (aG S) (a1 S) (a2 S) (a3 S) (a4 S) (a5 S) (a6 S) (a7 S) (a8 S) (a9 S) (a10 S) (a11 S) (a12 S) (a13 S) (a14 S) (a15 S) (a16 S) (a17 S) (a18 S) (a19 S) (a20 S)) ++ X) := hD
  refine lv_iconst (v := nI 0) hx hb dX9_fault_10 (by decide) ?_
  refine lv_istore_n (lv' := [(1, .int (nI 0)), (0, .ref (ad 0))]) hx hb dX9_fault_11 rfl hl (by decide) rfl (fun ls hl => ?_)
  have L12 : ∀ (n k : Nat) (u : Nat → Int32) (H : Heap) (locs : List Loc) (ls : Array Slot), k + n = 6 → va_P D vwCl (wM cy ad (mk9 (upd (upd (aF S) 29 (nI 0)) 30 (nI 0)) (aG S) (a1 S) (a2 S) (a3 S) (a4 S) (a5 S) (a6 S) (a7 S) (a8 S) (a9 S) (a10 S) (a11 S) (a12 S) (a13 S) (a14 S) (a15 S) u (a17 S) (a18 S) (a19 S) (a20 S)) ++ X) H → va_D (va_A (wM cy ad S ++ X) sz) (wM cy ad (mk9 (upd (upd (aF S) 29 (nI 0)) 30 (nI 0)) (aG S) (a1 S) (a2 S) (a3 S) (a4 S) (a5 S) (a6 S) (a7 S) (a8 S) (a9 S) (a10 S) (a11 S) (a12 S) (a13 S) (a14 S) (a15 S) u (a17 S) (a18 S) (a19 S) (a20 S)) ++ X) → va_S (va_A (wM cy ad S ++ X) sz) s.heap H locs → lv_has ls 2 [(1, .int (nI k)), (0, .ref (ad 0))] → (∀ (H : Heap) (locs : List Loc) (ls : Array Slot), va_P D vwCl (wM cy ad (mk9 (upd (upd (aF S) 29 (nI 0)) 30 (nI 0)) (aG S) (a1 S) (a2 S) (a3 S) (a4 S) (a5 S) (a6 S) (a7 S) (a8 S) (a9 S) (a10 S) (a11 S) (a12 S) (a13 S) (a14 S) (a15 S) (lpN (fRd) n k u) (a17 S) (a18 S) (a19 S) (a20 S)) ++ X) H → va_D (va_A (wM cy ad S ++ X) sz) (wM cy ad (mk9 (upd (upd (aF S) 29 (nI 0)) 30 (nI 0)) (aG S) (a1 S) (a2 S) (a3 S) (a4 S) (a5 S) (a6 S) (a7 S) (a8 S) (a9 S) (a10 S) (a11 S) (a12 S) (a13 S) (a14 S) (a15 S) (lpN (fRd) n k u) (a17 S) (a18 S) (a19 S) (a20 S)) ++ X) → va_S (va_A (wM cy ad S ++ X) sz) s.heap H locs → lv_has ls 2 [(1, .int (nI 6)), (0, .ref (ad 0))] → W p l e (headSpec wsX9_fault (rm9 3 80)).room s m ([.ref (ad 0)] : List Value).toArray below meth c H locs 0 0 (MQ below (gQi D cy (wM cy ad S ++ X) sz (fun r _ => r = nI 0)) ([.ref (ad 0)] : List Value).toArray s 0 0 (va_A (wM cy ad S ++ X) sz)) (F0 m 31 ls [])) → W p l e (headSpec wsX9_fault (rm9 3 80)).room s m ([.ref (ad 0)] : List Value).toArray below meth c H locs 0 0 (MQ below (gQi D cy (wM cy ad S ++ X) sz (fun r _ => r = nI 0)) ([.ref (ad 0)] : List Value).toArray s 0 0 (va_A (wM cy ad S ++ X) sz)) (F0 m 12 ls []) := by
    intro n
    induction n with
    | zero =>
      intro k u H locs ls hk hP hD hS hl hex
      obtain rfl : 6 = k := by omega
      refine lv_iload_n hx hb dX9_fault_12 rfl (lv_at hl 0 rfl) ?_
      refine lv_bipush (v := nI 6) hx hb dX9_fault_13 (by decide) ?_
      refine lv_icmp_ge (tgt := 31) hx hb dX9_fault_15 (by decide) (fun c1 => ?_) (fun c1 => ?_)
      · rw [nI_leI (by omega) (by omega)] at c1
        exact hex _ _ _ hP hD hS (lv_sub hl [0, 1] rfl)
      · exact absurd c1 (by rw [nI_leI (by omega) (by omega)]; omega)
    | succ n ih =>
      intro k u H locs ls hk hP hD hS hl hex
      have hk12 : k < 6 := by omega
      refine lv_iload_n hx hb dX9_fault_12 rfl (lv_at hl 0 rfl) ?_
      refine lv_bipush (v := nI 6) hx hb dX9_fault_13 (by decide) ?_
      refine lv_icmp_ge (tgt := 31) hx hb dX9_fault_15 (by decide) (fun c2 => ?_) (fun c2 => ?_)
      · exact absurd c2 (by rw [nI_leI (by omega) (by omega)]; omega)
      · rw [nI_leI (by omega) (by omega)] at c2
        refine lv_aload_n hx hb dX9_fault_18 rfl (lv_at hl 1 rfl) ?_
        refine rM_get (v := .ref (ad 16)) hx hb hts hin hown hK hP 24 (by decide) rfl (by decide +kernel) dX9_fault_19 ?_
        refine lv_iload_n hx hb dX9_fault_22 rfl (lv_at hl 0 rfl) ?_
        refine lv_iconst (v := nI 0) hx hb dX9_fault_23 (by decide) ?_
        refine rM_st16 (i := k) hx hb hK hP hD hS (by omega) dX9_fault_24 (fun H locs hP hD hS => ?_)
        have hP : va_P D vwCl (wM cy ad (mk9 (upd (upd (aF S) 29 (nI 0)) 30 (nI 0)) (aG S) (a1 S) (a2 S) (a3 S) (a4 S) (a5 S) (a6 S) (a7 S) (a8 S) (a9 S) (a10 S) (a11 S) (a12 S) (a13 S) (a14 S) (a15 S) (upd u k (nI 0)) (a17 S) (a18 S) (a19 S) (a20 S)) ++ X) H := hP
        have hD : va_D (va_A (wM cy ad S ++ X) sz) (wM cy ad (mk9 (upd (upd (aF S) 29 (nI 0)) 30 (nI 0)) (aG S) (a1 S) (a2 S) (a3 S) (a4 S) (a5 S) (a6 S) (a7 S) (a8 S) (a9 S) (a10 S) (a11 S) (a12 S) (a13 S) (a14 S) (a15 S) (upd u k (nI 0)) (a17 S) (a18 S) (a19 S) (a20 S)) ++ X) := hD
        refine lv_iinc (v := nI (k + 1)) (lv' := [(1, .int (nI (k + 1))), (0, .ref (ad 0))]) hx hb dX9_fault_25 hl (k := 0) rfl (nI_1 _) (by decide) rfl (fun ls hl => ?_)
        refine lv_goto (tgt := 12) hx hb dX9_fault_28 (by decide) ?_
        have he : (fRd) k u = (upd u k (nI 0)) := rfl
        rw [lpN_s (f := fRd), he] at hex
        exact ih ((k + 1)) (upd u k (nI 0)) _ _ _ (by omega) hP hD hS (lv_sub hl [0, 1] rfl) hex
  refine L12 6 0 (a16 S) _ _ _ (by omega) hP hD hS (lv_sub hl [0, 1] rfl) (fun H locs ls hP hD hS hl => ?_)
  refine lv_aload_n hx hb dX9_fault_31 rfl (lv_at hl 1 rfl) ?_
  refine lv_iconst (v := nI 0) hx hb dX9_fault_32 (by decide) ?_
  refine rM_put27 (v := nI 0) hx hb hts hin hown hK hP hD hS (by decide +kernel) dX9_fault_33 (fun H locs hP hD hS => ?_)
  have hP : va_P D vwCl (wM cy ad (mk9 (upd (upd (upd (aF S) 29 (nI 0)) 30 (nI 0)) 27 (nI 0)) (aG S) (a1 S) (a2 S) (a3 S) (a4 S) (a5 S) (a6 S) (a7 S) (a8 S) (a9 S) (a10 S) (a11 S) (a12 S) (a13 S) (a14 S) (a15 S) (lpN (fRd) 6 0 (a16 S)) (a17 S) (a18 S) (a19 S) (a20 S)) ++ X) H := hP
  have hD : va_D (va_A (wM cy ad S ++ X) sz) (wM cy ad (mk9 (upd (upd (upd (aF S) 29 (nI 0)) 30 (nI 0)) 27 (nI 0)) (aG S) (a1 S) (a2 S) (a3 S) (a4 S) (a5 S) (a6 S) (a7 S) (a8 S) (a9 S) (a10 S) (a11 S) (a12 S) (a13 S) (a14 S) (a15 S) (lpN (fRd) 6 0 (a16 S)) (a17 S) (a18 S) (a19 S) (a20 S)) ++ X) := hD
  refine lv_aload_n hx hb dX9_fault_36 rfl (lv_at hl 1 rfl) ?_
  refine lv_iconst (v := nI 1) hx hb dX9_fault_37 (by decide) ?_
  refine rM_put28 (v := nI 1) hx hb hts hin hown hK hP hD hS (by decide +kernel) dX9_fault_38 (fun H locs hP hD hS => ?_)
  have hP : va_P D vwCl (wM cy ad (mk9 (upd (upd (upd (upd (aF S) 29 (nI 0)) 30 (nI 0)) 27 (nI 0)) 28 (nI 1)) (aG S) (a1 S) (a2 S) (a3 S) (a4 S) (a5 S) (a6 S) (a7 S) (a8 S) (a9 S) (a10 S) (a11 S) (a12 S) (a13 S) (a14 S) (a15 S) (lpN (fRd) 6 0 (a16 S)) (a17 S) (a18 S) (a19 S) (a20 S)) ++ X) H := hP
  have hD : va_D (va_A (wM cy ad S ++ X) sz) (wM cy ad (mk9 (upd (upd (upd (upd (aF S) 29 (nI 0)) 30 (nI 0)) 27 (nI 0)) 28 (nI 1)) (aG S) (a1 S) (a2 S) (a3 S) (a4 S) (a5 S) (a6 S) (a7 S) (a8 S) (a9 S) (a10 S) (a11 S) (a12 S) (a13 S) (a14 S) (a15 S) (lpN (fRd) 6 0 (a16 S)) (a17 S) (a18 S) (a19 S) (a20 S)) ++ X) := hD
  refine lv_aload_n hx hb dX9_fault_41 rfl (lv_at hl 1 rfl) ?_
  refine gCallv (ws := wM cy ad (mk9 (upd (upd (upd (upd (aF S) 29 (nI 0)) 30 (nI 0)) 27 (nI 0)) 28 (nI 1)) (aG S) (a1 S) (a2 S) (a3 S) (a4 S) (a5 S) (a6 S) (a7 S) (a8 S) (a9 S) (a10 S) (a11 S) (a12 S) (a13 S) (a14 S) (a15 S) (lpN (fRd) 6 0 (a16 S)) (a17 S) (a18 S) (a19 S) (a20 S)) ++ X) (As := []) (rest := []) (q0 := 0) (r0 := (RX9, TX9, 36)) hx hb hml hown hts hK hP hD hS hA hl.1 wM_0 rfl (cN_readSide l D cy ad X (mk9 (upd (upd (upd (upd (aF S) 29 (nI 0)) 30 (nI 0)) 27 (nI 0)) 28 (nI 1)) (aG S) (a1 S) (a2 S) (a3 S) (a4 S) (a5 S) (a6 S) (a7 S) (a8 S) (a9 S) (a10 S) (a11 S) (a12 S) (a13 S) (a14 S) (a15 S) (lpN (fRd) 6 0 (a16 S)) (a17 S) (a18 S) (a19 S) (a20 S)) _ h5 rfl) (cwV 0 hts gX9_fault_X9_readSide rfl rfl rfl (by decide +kernel) ⟨Nat.le_of_ble_eq_true rfl, Nat.le_of_ble_eq_true rfl⟩) rfl rfl (Nat.le_of_ble_eq_true rfl) ⟨Nat.le_of_ble_eq_true rfl, Nat.le_of_ble_eq_true rfl⟩ dX9_fault_42 (fun ws3 H locs e3 hP hD hS => ?_)
  rw [show ws3 = _ from e3] at hP hD
  have hP : va_P D vwCl (wM cy ad (jRS (mk9 (upd (upd (upd (upd (aF S) 29 (nI 0)) 30 (nI 0)) 27 (nI 0)) 28 (nI 1)) (aG S) (a1 S) (a2 S) (a3 S) (a4 S) (a5 S) (a6 S) (a7 S) (a8 S) (a9 S) (a10 S) (a11 S) (a12 S) (a13 S) (a14 S) (a15 S) (lpN (fRd) 6 0 (a16 S)) (a17 S) (a18 S) (a19 S) (a20 S))) ++ X) H := hP
  have hD : va_D (va_A (wM cy ad S ++ X) sz) (wM cy ad (jRS (mk9 (upd (upd (upd (upd (aF S) 29 (nI 0)) 30 (nI 0)) 27 (nI 0)) 28 (nI 1)) (aG S) (a1 S) (a2 S) (a3 S) (a4 S) (a5 S) (a6 S) (a7 S) (a8 S) (a9 S) (a10 S) (a11 S) (a12 S) (a13 S) (a14 S) (a15 S) (lpN (fRd) 6 0 (a16 S)) (a17 S) (a18 S) (a19 S) (a20 S))) ++ X) := hD
  refine lv_aload_n hx hb dX9_fault_45 rfl (lv_at hl 1 rfl) ?_
  refine rM_get (v := .int (aF (jRS (mk9 (upd (upd (upd (upd (aF S) 29 (nI 0)) 30 (nI 0)) 27 (nI 0)) 28 (nI 1)) (aG S) (a1 S) (a2 S) (a3 S) (a4 S) (a5 S) (a6 S) (a7 S) (a8 S) (a9 S) (a10 S) (a11 S) (a12 S) (a13 S) (a14 S) (a15 S) (lpN (fRd) 6 0 (a16 S)) (a17 S) (a18 S) (a19 S) (a20 S))) 30)) hx hb hts hin hown hK hP 30 (by decide) rfl (by decide +kernel) dX9_fault_46 ?_
  rw [(show aF (jRS (mk9 (upd (upd (upd (upd (aF S) 29 (nI 0)) 30 (nI 0)) 27 (nI 0)) 28 (nI 1)) (aG S) (a1 S) (a2 S) (a3 S) (a4 S) (a5 S) (a6 S) (a7 S) (a8 S) (a9 S) (a10 S) (a11 S) (a12 S) (a13 S) (a14 S) (a15 S) (lpN (fRd) 6 0 (a16 S)) (a17 S) (a18 S) (a19 S) (a20 S))) 30 = nI 1 from rfl)]
  refine lv_if_ne (tgt := 132) hx hb dX9_fault_49 (by decide) (fun c4 => ?_) (fun c4 => ?_)
  · skip
    refine lv_aload_n hx hb dX9_fault_132 rfl (lv_at hl 1 rfl) ?_
    refine rM_get (v := .int (aF (jRS (mk9 (upd (upd (upd (upd (aF S) 29 (nI 0)) 30 (nI 0)) 27 (nI 0)) 28 (nI 1)) (aG S) (a1 S) (a2 S) (a3 S) (a4 S) (a5 S) (a6 S) (a7 S) (a8 S) (a9 S) (a10 S) (a11 S) (a12 S) (a13 S) (a14 S) (a15 S) (lpN (fRd) 6 0 (a16 S)) (a17 S) (a18 S) (a19 S) (a20 S))) 30)) hx hb hts hin hown hK hP 30 (by decide) rfl (by decide +kernel) dX9_fault_133 ?_
    rw [(show aF (jRS (mk9 (upd (upd (upd (upd (aF S) 29 (nI 0)) 30 (nI 0)) 27 (nI 0)) 28 (nI 1)) (aG S) (a1 S) (a2 S) (a3 S) (a4 S) (a5 S) (a6 S) (a7 S) (a8 S) (a9 S) (a10 S) (a11 S) (a12 S) (a13 S) (a14 S) (a15 S) (lpN (fRd) 6 0 (a16 S)) (a17 S) (a18 S) (a19 S) (a20 S))) 30 = nI 1 from rfl)]
    refine lv_if_ne (tgt := 143) hx hb dX9_fault_136 (by decide) (fun c5 => ?_) (fun c5 => ?_)
    · skip
      refine lv_aload_n hx hb dX9_fault_143 rfl (lv_at hl 1 rfl) ?_
      refine rM_get (v := .int (aF (jRS (mk9 (upd (upd (upd (upd (aF S) 29 (nI 0)) 30 (nI 0)) 27 (nI 0)) 28 (nI 1)) (aG S) (a1 S) (a2 S) (a3 S) (a4 S) (a5 S) (a6 S) (a7 S) (a8 S) (a9 S) (a10 S) (a11 S) (a12 S) (a13 S) (a14 S) (a15 S) (lpN (fRd) 6 0 (a16 S)) (a17 S) (a18 S) (a19 S) (a20 S))) 30)) hx hb hts hin hown hK hP 30 (by decide) rfl (by decide +kernel) dX9_fault_144 ?_
      rw [(show aF (jRS (mk9 (upd (upd (upd (upd (aF S) 29 (nI 0)) 30 (nI 0)) 27 (nI 0)) 28 (nI 1)) (aG S) (a1 S) (a2 S) (a3 S) (a4 S) (a5 S) (a6 S) (a7 S) (a8 S) (a9 S) (a10 S) (a11 S) (a12 S) (a13 S) (a14 S) (a15 S) (lpN (fRd) 6 0 (a16 S)) (a17 S) (a18 S) (a19 S) (a20 S))) 30 = nI 1 from rfl)]
      refine lv_if_ne (tgt := 173) hx hb dX9_fault_147 (by decide) (fun c6 => ?_) (fun c6 => ?_)
      · skip
        refine lv_aload_n hx hb dX9_fault_173 rfl (lv_at hl 1 rfl) ?_
        refine rM_get (v := .int (aF (jRS (mk9 (upd (upd (upd (upd (aF S) 29 (nI 0)) 30 (nI 0)) 27 (nI 0)) 28 (nI 1)) (aG S) (a1 S) (a2 S) (a3 S) (a4 S) (a5 S) (a6 S) (a7 S) (a8 S) (a9 S) (a10 S) (a11 S) (a12 S) (a13 S) (a14 S) (a15 S) (lpN (fRd) 6 0 (a16 S)) (a17 S) (a18 S) (a19 S) (a20 S))) 30)) hx hb hts hin hown hK hP 30 (by decide) rfl (by decide +kernel) dX9_fault_174 ?_
        rw [(show aF (jRS (mk9 (upd (upd (upd (upd (aF S) 29 (nI 0)) 30 (nI 0)) 27 (nI 0)) 28 (nI 1)) (aG S) (a1 S) (a2 S) (a3 S) (a4 S) (a5 S) (a6 S) (a7 S) (a8 S) (a9 S) (a10 S) (a11 S) (a12 S) (a13 S) (a14 S) (a15 S) (lpN (fRd) 6 0 (a16 S)) (a17 S) (a18 S) (a19 S) (a20 S))) 30 = nI 1 from rfl)]
        refine lv_if_ne (tgt := 191) hx hb dX9_fault_177 (by decide) (fun c7 => ?_) (fun c7 => ?_)
        · skip
          refine lv_aload_n hx hb dX9_fault_191 rfl (lv_at hl 1 rfl) ?_
          refine rM_get (v := .int (aF (jRS (mk9 (upd (upd (upd (upd (aF S) 29 (nI 0)) 30 (nI 0)) 27 (nI 0)) 28 (nI 1)) (aG S) (a1 S) (a2 S) (a3 S) (a4 S) (a5 S) (a6 S) (a7 S) (a8 S) (a9 S) (a10 S) (a11 S) (a12 S) (a13 S) (a14 S) (a15 S) (lpN (fRd) 6 0 (a16 S)) (a17 S) (a18 S) (a19 S) (a20 S))) 29)) hx hb hts hin hown hK hP 29 (by decide) rfl (by decide +kernel) dX9_fault_192 ?_
          rw [(show aF (jRS (mk9 (upd (upd (upd (upd (aF S) 29 (nI 0)) 30 (nI 0)) 27 (nI 0)) 28 (nI 1)) (aG S) (a1 S) (a2 S) (a3 S) (a4 S) (a5 S) (a6 S) (a7 S) (a8 S) (a9 S) (a10 S) (a11 S) (a12 S) (a13 S) (a14 S) (a15 S) (lpN (fRd) 6 0 (a16 S)) (a17 S) (a18 S) (a19 S) (a20 S))) 29 = nI 0 from by rfl)]
          refine lv_goto (tgt := 200) hx hb dX9_fault_195 (by decide) ?_
          exact W.iret hx hb hr (fun t ht hW => ⟨⟨_, _, rfl, rfl, by rw [ht]; exact hP, va_K.moved hW.alike hK, hD⟩, hS.F ht⟩) hS.2.2 dX9_fault_200
        · exact absurd c7 c6
      · exact absurd c6 c5
    · exact absurd c5 c4
  · exact absurd c4 (by decide)
set_option maxHeartbeats 4000000 in
set_option maxRecDepth 100000 in
theorem cN_parse (l : Launch) (D : va_G) (cy : Nat → ClassId) (ad : Nat → Nat) (X : va_W) (S : MS) (sz : Nat) (h5 : aF S 5 = nI 0) : Met l yX9_parse wsX9_parse (rm9 4 110) (gPc D cy (wM cy ad S ++ X) sz [.ref (ad 0)]) (gQi D cy (wM cy ad S ++ X) sz (fun r _ => r = -5)) 0 0 (va_A (wM cy ad S ++ X) sz) := by
  refine gHead (cc := cX9_parse) (maxL := 2) (ret := (some .int)) (by decide) rfl (Nat.le_of_ble_eq_true rfl) ?_
  intro p e s m below meth c ls hx hb hr hlocks hml hown hts hsz hP hK hD hS hA hl
  have hin : ∀ w ∈ u_ws RX9 TX9 36, w ∈ wsX9_parse := by decide +kernel
  have hown : s.vm.findClass RX9 = some m.cls := hown
  have hl : lv_has ls 2 [(0, .ref (ad 0))] := hl
  refine lv_aload_n hx hb dX9_parse_0 rfl (lv_at hl 0 rfl) ?_
  refine gCalli (ws := wM cy ad S ++ X) (As := []) (rest := []) (q0 := 0) (r0 := (RX9, TX9, 36)) hx hb hml hown hts hK hP hD hS hA hl.1 wM_0 rfl (cN_fault l D cy ad X S _ h5) (cwV 0 hts gX9_parse_X9_fault rfl rfl rfl (by decide +kernel) ⟨Nat.le_of_ble_eq_true rfl, Nat.le_of_ble_eq_true rfl⟩) rfl rfl (Nat.le_of_ble_eq_true rfl) ⟨Nat.le_of_ble_eq_true rfl, Nat.le_of_ble_eq_true rfl⟩ dX9_parse_1 (fun r1 ws9 H locs e1 hP hD hS => ?_)
  rw [show r1 = nI 0 from e1]
  refine lv_bipush (v := (-6)) hx hb dX9_parse_4 (by decide) ?_
  refine lv_icmp_ne (tgt := 19) hx hb dX9_parse_6 (by decide) (fun c2 => ?_) (fun c2 => ?_)
  · skip
    refine lv_bipush (v := (-5)) hx hb dX9_parse_19 (by decide) ?_
    exact W.iret hx hb hr (fun t ht hW => ⟨⟨_, _, rfl, rfl, by rw [ht]; exact hP, va_K.moved hW.alike hK, hD⟩, hS.F ht⟩) hS.2.2 dX9_parse_21
  · skip
    exact absurd c2 (by decide)
theorem and0 {x : Int32} : nI 0 &&& x = nI 0 := by simp [nI]
theorem or0 {x : Int32} : x ||| nI 0 = x := by simp [nI]
set_option maxHeartbeats 4000000 in
set_option maxRecDepth 100000 in
theorem cN_connected (l : Launch) (D : va_G) (cy : Nat → ClassId) (ad : Nat → Nat) (X : va_W) (S : MS) (sz : Nat) (hone : ∀ c : Nat, c < 15 → jOf S c 10 = 0) (v : Int32) : Met l yX9_connected wsX9_connected (rm9 2 46) (gPc D cy (wM cy ad S ++ X) sz [.ref (ad 0), .int v]) (gQi D cy (wM cy ad S ++ X) sz (fun r _ => r = (if j_isVariable v = 0 then -1 else nI 1 <<< (v &&& 31)))) 0 0 (va_A (wM cy ad S ++ X) sz) := by
  refine gHead (cc := cX9_connected) (maxL := 7) (ret := (some .int)) (by decide) rfl (Nat.le_of_ble_eq_true rfl) ?_
  intro p e s m below meth c ls hx hb hr hlocks hml hown hts hsz hP hK hD hS hA hl
  have hin : ∀ w ∈ u_ws RX9 TX9 36, w ∈ wsX9_connected := by decide +kernel
  have hown : s.vm.findClass RX9 = some m.cls := hown
  have hl : lv_has ls 7 [(0, .ref (ad 0)), (1, .int v)] := hl
  refine lv_iload_n hx hb dX9_connected_0 rfl (lv_at hl 1 rfl) ?_
  refine pCalli (As := [.int v]) (rest := []) hx hb hml hown hts hP hS hA hl.1 (cM_isVariable l _ v) (va_cwS 1 hts gX9_connected_X9_isVariable rfl rfl rfl (by decide +kernel) ⟨Nat.le_of_ble_eq_true rfl, Nat.le_of_ble_eq_true rfl⟩) rfl rfl (Nat.le_of_ble_eq_true rfl) ⟨Nat.le_of_ble_eq_true rfl, Nat.le_of_ble_eq_true rfl⟩ dX9_connected_1 (fun r1 H locs e1 hP hS => ?_)
  rw [show r1 = j_isVariable v from e1]
  refine lv_if_ne (tgt := 9) hx hb dX9_connected_4 (by decide) (fun c2 => ?_) (fun c2 => ?_)
  · skip
    refine lv_iconst (v := nI 1) hx hb dX9_connected_9 (by decide) ?_
    refine lv_iload_n hx hb dX9_connected_10 rfl (lv_at hl 1 rfl) ?_
    refine lv_ishl hx hb dX9_connected_11 ?_
    refine lv_istore_n (lv' := [(2, .int ((nI 1) <<< (v &&& 31))), (0, .ref (ad 0)), (1, .int v)]) hx hb dX9_connected_12 rfl hl (by decide) rfl (fun ls hl => ?_)
    refine lv_iconst (v := nI 0) hx hb dX9_connected_13 (by decide) ?_
    refine lv_istore_n (lv' := [(3, .int (nI 0)), (2, .int ((nI 1) <<< (v &&& 31))), (0, .ref (ad 0)), (1, .int v)]) hx hb dX9_connected_14 rfl hl (by decide) rfl (fun ls hl => ?_)
    have L15 : ∀ (n k2 : Nat) (q2 : Int32) (H : Heap) (locs : List Loc) (ls : Array Slot), k2 + n = 6 → va_P D vwCl (wM cy ad S ++ X) H → va_D (va_A (wM cy ad S ++ X) sz) (wM cy ad S ++ X) → va_S (va_A (wM cy ad S ++ X) sz) s.heap H locs → lv_has ls 7 [(3, .int (nI k2)), (0, .ref (ad 0)), (1, .int v), (2, .int q2)] → (∀ (H : Heap) (locs : List Loc) (ls : Array Slot), va_P D vwCl (wM cy ad S ++ X) H → va_D (va_A (wM cy ad S ++ X) sz) (wM cy ad S ++ X) → va_S (va_A (wM cy ad S ++ X) sz) s.heap H locs → lv_has ls 7 [(3, .int (nI 6)), (0, .ref (ad 0)), (1, .int v), (2, .int (lpN (fIdI) n k2 q2))] → W p l e (headSpec wsX9_connected (rm9 2 46)).room s m ([.ref (ad 0), .int v] : List Value).toArray below meth c H locs 0 0 (MQ below (gQi D cy (wM cy ad S ++ X) sz (fun r _ => r = (if j_isVariable v = 0 then -1 else nI 1 <<< (v &&& 31)))) ([.ref (ad 0), .int v] : List Value).toArray s 0 0 (va_A (wM cy ad S ++ X) sz)) (F0 m 111 ls [])) → W p l e (headSpec wsX9_connected (rm9 2 46)).room s m ([.ref (ad 0), .int v] : List Value).toArray below meth c H locs 0 0 (MQ below (gQi D cy (wM cy ad S ++ X) sz (fun r _ => r = (if j_isVariable v = 0 then -1 else nI 1 <<< (v &&& 31)))) ([.ref (ad 0), .int v] : List Value).toArray s 0 0 (va_A (wM cy ad S ++ X) sz)) (F0 m 15 ls []) := by
      intro n
      induction n with
      | zero =>
        intro k2 q2 H locs ls hk hP hD hS hl hex
        obtain rfl : 6 = k2 := by omega
        refine lv_iload_n hx hb dX9_connected_15 rfl (lv_at hl 0 rfl) ?_
        refine lv_bipush (v := nI 6) hx hb dX9_connected_16 (by decide) ?_
        refine lv_icmp_ge (tgt := 111) hx hb dX9_connected_18 (by decide) (fun c3 => ?_) (fun c3 => ?_)
        · rw [nI_leI (by omega) (by omega)] at c3
          exact hex _ _ _ hP hD hS (lv_sub hl [0, 1, 2, 3] rfl)
        · exact absurd c3 (by rw [nI_leI (by omega) (by omega)]; omega)
      | succ n ih =>
        intro k2 q2 H locs ls hk hP hD hS hl hex
        have hk15 : k2 < 6 := by omega
        refine lv_iload_n hx hb dX9_connected_15 rfl (lv_at hl 0 rfl) ?_
        refine lv_bipush (v := nI 6) hx hb dX9_connected_16 (by decide) ?_
        refine lv_icmp_ge (tgt := 111) hx hb dX9_connected_18 (by decide) (fun c4 => ?_) (fun c4 => ?_)
        · exact absurd c4 (by rw [nI_leI (by omega) (by omega)]; omega)
        · rw [nI_leI (by omega) (by omega)] at c4
          refine lv_iconst (v := nI 0) hx hb dX9_connected_21 (by decide) ?_
          refine lv_istore (lv' := [(4, .int (nI 0)), (3, .int (nI k2)), (0, .ref (ad 0)), (1, .int v), (2, .int q2)]) hx hb dX9_connected_22 hl (by decide) rfl (fun ls hl => ?_)
          have L24 : ∀ (n k : Nat) (q : Int32) (H : Heap) (locs : List Loc) (ls : Array Slot), k + n = 14 → va_P D vwCl (wM cy ad S ++ X) H → va_D (va_A (wM cy ad S ++ X) sz) (wM cy ad S ++ X) → va_S (va_A (wM cy ad S ++ X) sz) s.heap H locs → lv_has ls 7 [(4, .int (nI k)), (0, .ref (ad 0)), (1, .int v), (3, .int (nI k2)), (2, .int q)] → (∀ (H : Heap) (locs : List Loc) (ls : Array Slot), va_P D vwCl (wM cy ad S ++ X) H → va_D (va_A (wM cy ad S ++ X) sz) (wM cy ad S ++ X) → va_S (va_A (wM cy ad S ++ X) sz) s.heap H locs → lv_has ls 7 [(4, .int (nI 14)), (0, .ref (ad 0)), (1, .int v), (3, .int (nI k2)), (2, .int (lpN (fIdI) n k q))] → W p l e (headSpec wsX9_connected (rm9 2 46)).room s m ([.ref (ad 0), .int v] : List Value).toArray below meth c H locs 0 0 (MQ below (gQi D cy (wM cy ad S ++ X) sz (fun r _ => r = (if j_isVariable v = 0 then -1 else nI 1 <<< (v &&& 31)))) ([.ref (ad 0), .int v] : List Value).toArray s 0 0 (va_A (wM cy ad S ++ X) sz)) (F0 m 105 ls [])) → W p l e (headSpec wsX9_connected (rm9 2 46)).room s m ([.ref (ad 0), .int v] : List Value).toArray below meth c H locs 0 0 (MQ below (gQi D cy (wM cy ad S ++ X) sz (fun r _ => r = (if j_isVariable v = 0 then -1 else nI 1 <<< (v &&& 31)))) ([.ref (ad 0), .int v] : List Value).toArray s 0 0 (va_A (wM cy ad S ++ X) sz)) (F0 m 24 ls []) := by
            intro n
            induction n with
            | zero =>
              intro k q H locs ls hk hP hD hS hl hex
              obtain rfl : 14 = k := by omega
              refine lv_iload hx hb dX9_connected_24 (lv_at hl 0 rfl) ?_
              refine lv_bipush (v := nI 14) hx hb dX9_connected_26 (by decide) ?_
              refine lv_icmp_ge (tgt := 105) hx hb dX9_connected_28 (by decide) (fun c5 => ?_) (fun c5 => ?_)
              · rw [nI_leI (by omega) (by omega)] at c5
                exact hex _ _ _ hP hD hS (lv_sub hl [0, 1, 2, 3, 4] rfl)
              · exact absurd c5 (by rw [nI_leI (by omega) (by omega)]; omega)
            | succ n ih =>
              intro k q H locs ls hk hP hD hS hl hex
              have hk24 : k < 14 := by omega
              refine lv_iload hx hb dX9_connected_24 (lv_at hl 0 rfl) ?_
              refine lv_bipush (v := nI 14) hx hb dX9_connected_26 (by decide) ?_
              refine lv_icmp_ge (tgt := 105) hx hb dX9_connected_28 (by decide) (fun c6 => ?_) (fun c6 => ?_)
              · exact absurd c6 (by rw [nI_leI (by omega) (by omega)]; omega)
              · rw [nI_leI (by omega) (by omega)] at c6
                refine lv_iconst (v := nI 0) hx hb dX9_connected_31 (by decide) ?_
                refine lv_istore (lv' := [(5, .int (nI 0)), (4, .int (nI k)), (0, .ref (ad 0)), (1, .int v), (3, .int (nI k2)), (2, .int q)]) hx hb dX9_connected_32 hl (by decide) rfl (fun ls hl => ?_)
                refine lv_iconst (v := nI 0) hx hb dX9_connected_34 (by decide) ?_
                refine lv_istore (lv' := [(6, .int (nI 0)), (5, .int (nI 0)), (4, .int (nI k)), (0, .ref (ad 0)), (1, .int v), (3, .int (nI k2)), (2, .int q)]) hx hb dX9_connected_35 hl (by decide) rfl (fun ls hl => ?_)
                refine lv_iload hx hb dX9_connected_37 (lv_at hl 0 rfl) ?_
                refine lv_bipush (v := nI 6) hx hb dX9_connected_39 (by decide) ?_
                refine lv_icmp_ge (tgt := 83) hx hb dX9_connected_41 (by decide) (fun c7 => ?_) (fun c7 => ?_)
                · exact absurd c7 (by rw [nI_leI (by omega) (by omega)]; omega)
                · rw [nI_leI (by omega) (by omega)] at c7
                  refine lv_aload_n hx hb dX9_connected_44 rfl (lv_at hl 3 rfl) ?_
                  refine lv_iload hx hb dX9_connected_45 (lv_at hl 2 rfl) ?_
                  refine gCalli (ws := wM cy ad S ++ X) (As := [.int (nI k)]) (rest := []) (q0 := 0) (r0 := (RX9, TX9, 36)) hx hb hml hown hts hK hP hD hS hA hl.1 wM_0 rfl (cM_isThere l D cy ad X S _ (c9 := k) (by omega)) (cwV 1 hts gX9_connected_X9_isThere rfl rfl rfl (by decide +kernel) ⟨Nat.le_of_ble_eq_true rfl, Nat.le_of_ble_eq_true rfl⟩) rfl rfl (Nat.le_of_ble_eq_true rfl) ⟨Nat.le_of_ble_eq_true rfl, Nat.le_of_ble_eq_true rfl⟩ dX9_connected_47 (fun r8 ws8 H locs e8 hP hD hS => ?_)
                  obtain ⟨e8a, e8b⟩ := e8
                  rw [show r8 = jThere S k from e8a]
                  rw [e8b] at hP hD
                  rw [jThere_0 (hone _ (by omega))]
                  refine lv_if_eq (tgt := 83) hx hb dX9_connected_50 (by decide) (fun c9 => ?_) (fun c9 => ?_)
                  · skip
                    refine lv_iload_n hx hb dX9_connected_83 rfl (lv_at hl 6 rfl) ?_
                    refine lv_iload hx hb dX9_connected_84 (lv_at hl 1 rfl) ?_
                    refine lv_iload_n hx hb dX9_connected_86 rfl (lv_at hl 6 rfl) ?_
                    refine lv_iand hx hb dX9_connected_87 ?_
                    rw [and0]
                    refine lv_if_eq (tgt := 96) hx hb dX9_connected_88 (by decide) (fun c10 => ?_) (fun c10 => ?_)
                    · skip
                      refine lv_iconst (v := nI 0) hx hb dX9_connected_96 (by decide) ?_
                      refine lv_ior hx hb dX9_connected_97 ?_
                      rw [or0]
                      refine lv_istore_n (lv' := [(2, .int q), (6, .int (nI 0)), (5, .int (nI 0)), (4, .int (nI k)), (0, .ref (ad 0)), (1, .int v), (3, .int (nI k2))]) hx hb dX9_connected_98 rfl hl (by decide) rfl (fun ls hl => ?_)
                      refine lv_iinc (v := nI (k + 1)) (lv' := [(4, .int (nI (k + 1))), (2, .int q), (6, .int (nI 0)), (5, .int (nI 0)), (0, .ref (ad 0)), (1, .int v), (3, .int (nI k2))]) hx hb dX9_connected_99 hl (k := 3) rfl (nI_1 _) (by decide) rfl (fun ls hl => ?_)
                      refine lv_goto (tgt := 24) hx hb dX9_connected_102 (by decide) ?_
                      have he : (fIdI) k q = q := rfl
                      rw [lpN_s (f := fIdI), he] at hex
                      exact ih ((k + 1)) q _ _ _ (by omega) hP hD hS (lv_sub hl [0, 4, 5, 6, 1] rfl) hex
                    · exact absurd c9 c10
                  · exact absurd c9 (by decide)
          refine L24 14 0 q2 _ _ _ (by omega) hP hD hS (lv_sub hl [0, 2, 3, 1, 4] rfl) (fun H locs ls hP hD hS hl => ?_)
          refine lv_iinc (v := nI (k2 + 1)) (lv' := [(3, .int (nI (k2 + 1))), (4, .int (nI 14)), (0, .ref (ad 0)), (1, .int v), (2, .int (lpN (fIdI) 14 0 q2))]) hx hb dX9_connected_105 hl (k := 3) rfl (nI_1 _) (by decide) rfl (fun ls hl => ?_)
          refine lv_goto (tgt := 15) hx hb dX9_connected_108 (by decide) ?_
          have he : (fIdI) k2 q2 = (lpN (fIdI) 14 0 q2) := fIdI_n.symm
          rw [lpN_s (f := fIdI), he] at hex
          exact ih ((k2 + 1)) (lpN (fIdI) 14 0 q2) _ _ _ (by omega) hP hD hS (lv_sub hl [0, 2, 3, 4] rfl) hex
    refine L15 6 0 ((nI 1) <<< (v &&& 31)) _ _ _ (by omega) hP hD hS (lv_sub hl [0, 2, 3, 1] rfl) (fun H locs ls hP hD hS hl => ?_)
    refine lv_iload_n hx hb dX9_connected_111 rfl (lv_at hl 3 rfl) ?_
    exact W.iret hx hb hr (fun t ht hW => ⟨⟨_, _, rfl, by rw [fIdI_n]; simp [c2], by rw [ht]; exact hP, va_K.moved hW.alike hK, hD⟩, hS.F ht⟩) hS.2.2 dX9_connected_112
  · skip
    refine lv_iconst (v := -1) hx hb dX9_connected_7 (by decide) ?_
    exact W.iret hx hb hr (fun t ht hW => ⟨⟨_, _, rfl, by simp [c2], by rw [ht]; exact hP, va_K.moved hW.alike hK, hD⟩, hS.F ht⟩) hS.2.2 dX9_connected_8
set_option maxHeartbeats 4000000 in
set_option maxRecDepth 100000 in
theorem cN_reqOnes (l : Launch) (D : va_G) (cy : Nat → ClassId) (ad : Nat → Nat) (X : va_W) (S : MS) (sz : Nat) (hone : ∀ c : Nat, c < 15 → jOf S c 10 = 0) : Met l yX9_requiredOnes wsX9_requiredOnes (rm9 2 46) (gPc D cy (wM cy ad S ++ X) sz [.ref (ad 0)]) (gQi D cy (wM cy ad S ++ X) sz (fun r ws' => r = nI 0 ∧ ws' = wM cy ad S ++ X)) 0 0 (va_A (wM cy ad S ++ X) sz) := by
  refine gHead (cc := cX9_requiredOnes) (maxL := 3) (ret := (some .int)) (by decide) rfl (Nat.le_of_ble_eq_true rfl) ?_
  intro p e s m below meth c ls hx hb hr hlocks hml hown hts hsz hP hK hD hS hA hl
  have hin : ∀ w ∈ u_ws RX9 TX9 36, w ∈ wsX9_requiredOnes := by decide +kernel
  have hown : s.vm.findClass RX9 = some m.cls := hown
  have hl : lv_has ls 3 [(0, .ref (ad 0))] := hl
  refine lv_iconst (v := nI 0) hx hb dX9_requiredOnes_0 (by decide) ?_
  refine lv_istore_n (lv' := [(1, .int (nI 0)), (0, .ref (ad 0))]) hx hb dX9_requiredOnes_1 rfl hl (by decide) rfl (fun ls hl => ?_)
  refine lv_iconst (v := nI 0) hx hb dX9_requiredOnes_2 (by decide) ?_
  refine lv_istore_n (lv' := [(2, .int (nI 0)), (1, .int (nI 0)), (0, .ref (ad 0))]) hx hb dX9_requiredOnes_3 rfl hl (by decide) rfl (fun ls hl => ?_)
  have L4 : ∀ (n k : Nat) (q : Int32) (H : Heap) (locs : List Loc) (ls : Array Slot), k + n = 14 → va_P D vwCl (wM cy ad S ++ X) H → va_D (va_A (wM cy ad S ++ X) sz) (wM cy ad S ++ X) → va_S (va_A (wM cy ad S ++ X) sz) s.heap H locs → lv_has ls 3 [(2, .int (nI k)), (0, .ref (ad 0)), (1, .int q)] → (∀ (H : Heap) (locs : List Loc) (ls : Array Slot), va_P D vwCl (wM cy ad S ++ X) H → va_D (va_A (wM cy ad S ++ X) sz) (wM cy ad S ++ X) → va_S (va_A (wM cy ad S ++ X) sz) s.heap H locs → lv_has ls 3 [(2, .int (nI 14)), (0, .ref (ad 0)), (1, .int (lpN (fIdI) n k q))] → W p l e (headSpec wsX9_requiredOnes (rm9 2 46)).room s m ([.ref (ad 0)] : List Value).toArray below meth c H locs 0 0 (MQ below (gQi D cy (wM cy ad S ++ X) sz (fun r ws' => r = nI 0 ∧ ws' = wM cy ad S ++ X)) ([.ref (ad 0)] : List Value).toArray s 0 0 (va_A (wM cy ad S ++ X) sz)) (F0 m 44 ls [])) → W p l e (headSpec wsX9_requiredOnes (rm9 2 46)).room s m ([.ref (ad 0)] : List Value).toArray below meth c H locs 0 0 (MQ below (gQi D cy (wM cy ad S ++ X) sz (fun r ws' => r = nI 0 ∧ ws' = wM cy ad S ++ X)) ([.ref (ad 0)] : List Value).toArray s 0 0 (va_A (wM cy ad S ++ X) sz)) (F0 m 4 ls []) := by
    intro n
    induction n with
    | zero =>
      intro k q H locs ls hk hP hD hS hl hex
      obtain rfl : 14 = k := by omega
      refine lv_iload_n hx hb dX9_requiredOnes_4 rfl (lv_at hl 0 rfl) ?_
      refine lv_bipush (v := nI 14) hx hb dX9_requiredOnes_5 (by decide) ?_
      refine lv_icmp_ge (tgt := 44) hx hb dX9_requiredOnes_7 (by decide) (fun c1 => ?_) (fun c1 => ?_)
      · rw [nI_leI (by omega) (by omega)] at c1
        exact hex _ _ _ hP hD hS (lv_sub hl [0, 1, 2] rfl)
      · exact absurd c1 (by rw [nI_leI (by omega) (by omega)]; omega)
    | succ n ih =>
      intro k q H locs ls hk hP hD hS hl hex
      have hk4 : k < 14 := by omega
      refine lv_iload_n hx hb dX9_requiredOnes_4 rfl (lv_at hl 0 rfl) ?_
      refine lv_bipush (v := nI 14) hx hb dX9_requiredOnes_5 (by decide) ?_
      refine lv_icmp_ge (tgt := 44) hx hb dX9_requiredOnes_7 (by decide) (fun c2 => ?_) (fun c2 => ?_)
      · exact absurd c2 (by rw [nI_leI (by omega) (by omega)]; omega)
      · rw [nI_leI (by omega) (by omega)] at c2
        refine lv_iload_n hx hb dX9_requiredOnes_10 rfl (lv_at hl 2 rfl) ?_
        refine lv_aload_n hx hb dX9_requiredOnes_11 rfl (lv_at hl 1 rfl) ?_
        refine lv_iload_n hx hb dX9_requiredOnes_12 rfl (lv_at hl 0 rfl) ?_
        refine gCalli (ws := wM cy ad S ++ X) (As := [.int (nI k)]) (rest := [.int q]) (q0 := 0) (r0 := (RX9, TX9, 36)) hx hb hml hown hts hK hP hD hS hA hl.1 wM_0 rfl (cM_isThere l D cy ad X S _ (c9 := k) (by omega)) (cwV 1 hts gX9_requiredOnes_X9_isThere rfl rfl rfl (by decide +kernel) ⟨Nat.le_of_ble_eq_true rfl, Nat.le_of_ble_eq_true rfl⟩) rfl rfl (Nat.le_of_ble_eq_true rfl) ⟨Nat.le_of_ble_eq_true rfl, Nat.le_of_ble_eq_true rfl⟩ dX9_requiredOnes_13 (fun r3 ws3 H locs e3 hP hD hS => ?_)
        obtain ⟨e3a, e3b⟩ := e3
        rw [show r3 = jThere S k from e3a]
        rw [e3b] at hP hD
        rw [jThere_0 (hone _ (by omega))]
        refine lv_if_eq (tgt := 35) hx hb dX9_requiredOnes_16 (by decide) (fun c4 => ?_) (fun c4 => ?_)
        · skip
          refine lv_iconst (v := nI 0) hx hb dX9_requiredOnes_35 (by decide) ?_
          refine lv_ior hx hb dX9_requiredOnes_36 ?_
          rw [or0]
          refine lv_istore_n (lv' := [(1, .int q), (2, .int (nI k)), (0, .ref (ad 0))]) hx hb dX9_requiredOnes_37 rfl hl (by decide) rfl (fun ls hl => ?_)
          refine lv_iinc (v := nI (k + 1)) (lv' := [(2, .int (nI (k + 1))), (1, .int q), (0, .ref (ad 0))]) hx hb dX9_requiredOnes_38 hl (k := 1) rfl (nI_1 _) (by decide) rfl (fun ls hl => ?_)
          refine lv_goto (tgt := 4) hx hb dX9_requiredOnes_41 (by decide) ?_
          have he : (fIdI) k q = q := rfl
          rw [lpN_s (f := fIdI), he] at hex
          exact ih ((k + 1)) q _ _ _ (by omega) hP hD hS (lv_sub hl [0, 2, 1] rfl) hex
        · exact absurd c4 (by decide)
  refine L4 14 0 (nI 0) _ _ _ (by omega) hP hD hS (lv_sub hl [0, 2, 1] rfl) (fun H locs ls hP hD hS hl => ?_)
  refine lv_iload_n hx hb dX9_requiredOnes_44 rfl (lv_at hl 2 rfl) ?_
  exact W.iret hx hb hr (fun t ht hW => ⟨⟨_, _, rfl, ⟨fIdI_n, rfl⟩, by rw [ht]; exact hP, va_K.moved hW.alike hK, hD⟩, hS.F ht⟩) hS.2.2 dX9_requiredOnes_45
theorem shr0 {x : Int32} : (nI 0 >>> x) &&& nI 1 = nI 0 := by simp [nI]
theorem add0 {x : Int32} : x + nI 0 = x := by simp [nI]
set_option maxHeartbeats 4000000 in
set_option maxRecDepth 100000 in
theorem cN_reqMany (l : Launch) (D : va_G) (cy : Nat → ClassId) (ad : Nat → Nat) (X : va_W) (S : MS) (sz : Nat) (hone : ∀ c : Nat, c < 15 → jOf S c 10 = 0) : Met l yX9_requiredMany wsX9_requiredMany (rm9 3 80) (gPc D cy (wM cy ad S ++ X) sz [.ref (ad 0)]) (gQi D cy (wM cy ad S ++ X) sz (fun r ws' => r = nI 0 ∧ ws' = wM cy ad S ++ X)) 0 0 (va_A (wM cy ad S ++ X) sz) := by
  refine gHead (cc := cX9_requiredMany) (maxL := 3) (ret := (some .int)) (by decide) rfl (Nat.le_of_ble_eq_true rfl) ?_
  intro p e s m below meth c ls hx hb hr hlocks hml hown hts hsz hP hK hD hS hA hl
  have hin : ∀ w ∈ u_ws RX9 TX9 36, w ∈ wsX9_requiredMany := by decide +kernel
  have hown : s.vm.findClass RX9 = some m.cls := hown
  have hl : lv_has ls 3 [(0, .ref (ad 0))] := hl
  refine lv_iconst (v := nI 0) hx hb dX9_requiredMany_0 (by decide) ?_
  refine lv_istore_n (lv' := [(1, .int (nI 0)), (0, .ref (ad 0))]) hx hb dX9_requiredMany_1 rfl hl (by decide) rfl (fun ls hl => ?_)
  refine lv_iconst (v := nI 0) hx hb dX9_requiredMany_2 (by decide) ?_
  refine lv_istore_n (lv' := [(2, .int (nI 0)), (1, .int (nI 0)), (0, .ref (ad 0))]) hx hb dX9_requiredMany_3 rfl hl (by decide) rfl (fun ls hl => ?_)
  have L4 : ∀ (n k : Nat) (q : Int32) (H : Heap) (locs : List Loc) (ls : Array Slot), k + n = 14 → va_P D vwCl (wM cy ad S ++ X) H → va_D (va_A (wM cy ad S ++ X) sz) (wM cy ad S ++ X) → va_S (va_A (wM cy ad S ++ X) sz) s.heap H locs → lv_has ls 3 [(2, .int (nI k)), (0, .ref (ad 0)), (1, .int q)] → (∀ (H : Heap) (locs : List Loc) (ls : Array Slot), va_P D vwCl (wM cy ad S ++ X) H → va_D (va_A (wM cy ad S ++ X) sz) (wM cy ad S ++ X) → va_S (va_A (wM cy ad S ++ X) sz) s.heap H locs → lv_has ls 3 [(2, .int (nI 14)), (0, .ref (ad 0)), (1, .int (lpN (fIdI) n k q))] → W p l e (headSpec wsX9_requiredMany (rm9 3 80)).room s m ([.ref (ad 0)] : List Value).toArray below meth c H locs 0 0 (MQ below (gQi D cy (wM cy ad S ++ X) sz (fun r ws' => r = nI 0 ∧ ws' = wM cy ad S ++ X)) ([.ref (ad 0)] : List Value).toArray s 0 0 (va_A (wM cy ad S ++ X) sz)) (F0 m 27 ls [])) → W p l e (headSpec wsX9_requiredMany (rm9 3 80)).room s m ([.ref (ad 0)] : List Value).toArray below meth c H locs 0 0 (MQ below (gQi D cy (wM cy ad S ++ X) sz (fun r ws' => r = nI 0 ∧ ws' = wM cy ad S ++ X)) ([.ref (ad 0)] : List Value).toArray s 0 0 (va_A (wM cy ad S ++ X) sz)) (F0 m 4 ls []) := by
    intro n
    induction n with
    | zero =>
      intro k q H locs ls hk hP hD hS hl hex
      obtain rfl : 14 = k := by omega
      refine lv_iload_n hx hb dX9_requiredMany_4 rfl (lv_at hl 0 rfl) ?_
      refine lv_bipush (v := nI 14) hx hb dX9_requiredMany_5 (by decide) ?_
      refine lv_icmp_ge (tgt := 27) hx hb dX9_requiredMany_7 (by decide) (fun c1 => ?_) (fun c1 => ?_)
      · rw [nI_leI (by omega) (by omega)] at c1
        exact hex _ _ _ hP hD hS (lv_sub hl [0, 1, 2] rfl)
      · exact absurd c1 (by rw [nI_leI (by omega) (by omega)]; omega)
    | succ n ih =>
      intro k q H locs ls hk hP hD hS hl hex
      have hk4 : k < 14 := by omega
      refine lv_iload_n hx hb dX9_requiredMany_4 rfl (lv_at hl 0 rfl) ?_
      refine lv_bipush (v := nI 14) hx hb dX9_requiredMany_5 (by decide) ?_
      refine lv_icmp_ge (tgt := 27) hx hb dX9_requiredMany_7 (by decide) (fun c2 => ?_) (fun c2 => ?_)
      · exact absurd c2 (by rw [nI_leI (by omega) (by omega)]; omega)
      · rw [nI_leI (by omega) (by omega)] at c2
        refine lv_iload_n hx hb dX9_requiredMany_10 rfl (lv_at hl 2 rfl) ?_
        refine lv_aload_n hx hb dX9_requiredMany_11 rfl (lv_at hl 1 rfl) ?_
        refine gCalli (ws := wM cy ad S ++ X) (As := []) (rest := [.int q]) (q0 := 0) (r0 := (RX9, TX9, 36)) hx hb hml hown hts hK hP hD hS hA hl.1 wM_0 rfl (cN_reqOnes l D cy ad X S _ hone) (cwV 0 hts gX9_requiredMany_X9_requiredOnes rfl rfl rfl (by decide +kernel) ⟨Nat.le_of_ble_eq_true rfl, Nat.le_of_ble_eq_true rfl⟩) rfl rfl (Nat.le_of_ble_eq_true rfl) ⟨Nat.le_of_ble_eq_true rfl, Nat.le_of_ble_eq_true rfl⟩ dX9_requiredMany_12 (fun r3 ws3 H locs e3 hP hD hS => ?_)
        obtain ⟨e3a, e3b⟩ := e3
        rw [show r3 = nI 0 from e3a]
        rw [e3b] at hP hD
        refine lv_iload_n hx hb dX9_requiredMany_15 rfl (lv_at hl 0 rfl) ?_
        refine lv_ishr hx hb dX9_requiredMany_16 ?_
        refine lv_iconst (v := nI 1) hx hb dX9_requiredMany_17 (by decide) ?_
        refine lv_iand hx hb dX9_requiredMany_18 ?_
        rw [shr0]
        refine lv_iadd hx hb dX9_requiredMany_19 ?_
        rw [add0]
        refine lv_istore_n (lv' := [(1, .int q), (2, .int (nI k)), (0, .ref (ad 0))]) hx hb dX9_requiredMany_20 rfl hl (by decide) rfl (fun ls hl => ?_)
        refine lv_iinc (v := nI (k + 1)) (lv' := [(2, .int (nI (k + 1))), (1, .int q), (0, .ref (ad 0))]) hx hb dX9_requiredMany_21 hl (k := 1) rfl (nI_1 _) (by decide) rfl (fun ls hl => ?_)
        refine lv_goto (tgt := 4) hx hb dX9_requiredMany_24 (by decide) ?_
        have he : (fIdI) k q = q := rfl
        rw [lpN_s (f := fIdI), he] at hex
        exact ih ((k + 1)) q _ _ _ (by omega) hP hD hS (lv_sub hl [0, 2, 1] rfl) hex
  refine L4 14 0 (nI 0) _ _ _ (by omega) hP hD hS (lv_sub hl [0, 2, 1] rfl) (fun H locs ls hP hD hS hl => ?_)
  refine lv_iload_n hx hb dX9_requiredMany_27 rfl (lv_at hl 2 rfl) ?_
  exact W.iret hx hb hr (fun t ht hW => ⟨⟨_, _, rfl, ⟨fIdI_n, rfl⟩, by rw [ht]; exact hP, va_K.moved hW.alike hK, hD⟩, hS.F ht⟩) hS.2.2 dX9_requiredMany_28
set_option maxHeartbeats 4000000 in
set_option maxRecDepth 100000 in
theorem cN_count (l : Launch) (D : va_G) (cy : Nat → ClassId) (ad : Nat → Nat) (X : va_W) (S : MS) (sz : Nat) (hone : ∀ c : Nat, c < 15 → jOf S c 10 = 0) (h5 : aF S 5 = nI 0) (h9 : aF S 9 = nI 0) (h10 : aF S 10 = nI 0) (x : Int32) : Met l yX9_count wsX9_count (rm9 4 110) (gPc D cy (wM cy ad S ++ X) sz [.ref (ad 0), .int x]) (gQi D cy (wM cy ad S ++ X) sz (fun r _ => r = (if x.toInt < 0 then -2 else if (4 : Int) < x.toInt then -2 else nI 0))) 0 0 (va_A (wM cy ad S ++ X) sz) := by
  refine gHead (cc := cX9_count) (maxL := 2) (ret := (some .int)) (by decide) rfl (Nat.le_of_ble_eq_true rfl) ?_
  intro p e s m below meth c ls hx hb hr hlocks hml hown hts hsz hP hK hD hS hA hl
  have hin : ∀ w ∈ u_ws RX9 TX9 36, w ∈ wsX9_count := by decide +kernel
  have hown : s.vm.findClass RX9 = some m.cls := hown
  have hl : lv_has ls 2 [(0, .ref (ad 0)), (1, .int x)] := hl
  refine lv_iload_n hx hb dX9_count_0 rfl (lv_at hl 1 rfl) ?_
  by_cases t1 : x.toInt < 0
  · refine lv_tableOut (tgt := 61) hx hb dX9_count_1 (Or.inl t1) (by decide) ?_
    refine lv_bipush (v := (-2)) hx hb dX9_count_61 (by decide) ?_
    exact W.iret hx hb hr (fun t ht hW => ⟨⟨_, _, rfl, by simp [t1], by rw [ht]; exact hP, va_K.moved hW.alike hK, hD⟩, hS.F ht⟩) hS.2.2 dX9_count_63
  by_cases t2 : (4 : Int) < x.toInt
  · refine lv_tableOut (tgt := 61) hx hb dX9_count_1 (Or.inr t2) (by decide) ?_
    refine lv_bipush (v := (-2)) hx hb dX9_count_61 (by decide) ?_
    exact W.iret hx hb hr (fun t ht hW => ⟨⟨_, _, rfl, by simp [t2], by rw [ht]; exact hP, va_K.moved hW.alike hK, hD⟩, hS.F ht⟩) hS.2.2 dX9_count_63
  have z3 : x.toInt = 0 ∨ x.toInt = 1 ∨ x.toInt = 2 ∨ x.toInt = 3 ∨ x.toInt = 4 := by omega
  rcases z3 with z3 | z3 | z3 | z3 | z3
  · refine lv_tableIn (off := 35) (tgt := 36) hx hb dX9_count_1 t1 t2 (by rw [z3]; rfl) (by decide) ?_
    refine lv_aload_n hx hb dX9_count_36 rfl (lv_at hl 0 rfl) ?_
    refine gCalli (ws := wM cy ad S ++ X) (As := []) (rest := []) (q0 := 0) (r0 := (RX9, TX9, 36)) hx hb hml hown hts hK hP hD hS hA hl.1 wM_0 rfl (cM_constraintsThere l D cy ad X S _) (cwV 0 hts gX9_count_X9_constraintsThere rfl rfl rfl (by decide +kernel) ⟨Nat.le_of_ble_eq_true rfl, Nat.le_of_ble_eq_true rfl⟩) rfl rfl (Nat.le_of_ble_eq_true rfl) ⟨Nat.le_of_ble_eq_true rfl, Nat.le_of_ble_eq_true rfl⟩ dX9_count_37 (fun r4 ws4 H locs e4 hP hD hS => ?_)
    obtain ⟨e4a, e4b⟩ := e4
    rw [show r4 = jCnt S from e4a]
    rw [e4b] at hP hD
    rw [jCnt_0 hone]
    exact W.iret hx hb hr (fun t ht hW => ⟨⟨_, _, rfl, by rw [z3]; rfl, by rw [ht]; exact hP, va_K.moved hW.alike hK, hD⟩, hS.F ht⟩) hS.2.2 dX9_count_40
  · refine lv_tableIn (off := 40) (tgt := 41) hx hb dX9_count_1 t1 t2 (by rw [z3]; rfl) (by decide) ?_
    refine lv_aload_n hx hb dX9_count_41 rfl (lv_at hl 0 rfl) ?_
    refine rM_get (v := .int (aF S 5)) hx hb hts hin hown hK hP 5 (by decide) rfl (by decide +kernel) dX9_count_42 ?_
    rw [h5]
    exact W.iret hx hb hr (fun t ht hW => ⟨⟨_, _, rfl, by rw [z3]; rfl, by rw [ht]; exact hP, va_K.moved hW.alike hK, hD⟩, hS.F ht⟩) hS.2.2 dX9_count_45
  · refine lv_tableIn (off := 45) (tgt := 46) hx hb dX9_count_1 t1 t2 (by rw [z3]; rfl) (by decide) ?_
    refine lv_aload_n hx hb dX9_count_46 rfl (lv_at hl 0 rfl) ?_
    refine rM_get (v := .int (aF S 9)) hx hb hts hin hown hK hP 9 (by decide) rfl (by decide +kernel) dX9_count_47 ?_
    rw [h9]
    exact W.iret hx hb hr (fun t ht hW => ⟨⟨_, _, rfl, by rw [z3]; rfl, by rw [ht]; exact hP, va_K.moved hW.alike hK, hD⟩, hS.F ht⟩) hS.2.2 dX9_count_50
  · refine lv_tableIn (off := 50) (tgt := 51) hx hb dX9_count_1 t1 t2 (by rw [z3]; rfl) (by decide) ?_
    refine lv_aload_n hx hb dX9_count_51 rfl (lv_at hl 0 rfl) ?_
    refine rM_get (v := .int (aF S 10)) hx hb hts hin hown hK hP 10 (by decide) rfl (by decide +kernel) dX9_count_52 ?_
    rw [h10]
    exact W.iret hx hb hr (fun t ht hW => ⟨⟨_, _, rfl, by rw [z3]; rfl, by rw [ht]; exact hP, va_K.moved hW.alike hK, hD⟩, hS.F ht⟩) hS.2.2 dX9_count_55
  · refine lv_tableIn (off := 55) (tgt := 56) hx hb dX9_count_1 t1 t2 (by rw [z3]; rfl) (by decide) ?_
    refine lv_aload_n hx hb dX9_count_56 rfl (lv_at hl 0 rfl) ?_
    refine gCalli (ws := wM cy ad S ++ X) (As := []) (rest := []) (q0 := 0) (r0 := (RX9, TX9, 36)) hx hb hml hown hts hK hP hD hS hA hl.1 wM_0 rfl (cN_reqMany l D cy ad X S _ hone) (cwV 0 hts gX9_count_X9_requiredMany rfl rfl rfl (by decide +kernel) ⟨Nat.le_of_ble_eq_true rfl, Nat.le_of_ble_eq_true rfl⟩) rfl rfl (Nat.le_of_ble_eq_true rfl) ⟨Nat.le_of_ble_eq_true rfl, Nat.le_of_ble_eq_true rfl⟩ dX9_count_57 (fun r5 ws5 H locs e5 hP hD hS => ?_)
    obtain ⟨e5a, e5b⟩ := e5
    rw [show r5 = nI 0 from e5a]
    rw [e5b] at hP hD
    exact W.iret hx hb hr (fun t ht hW => ⟨⟨_, _, rfl, by rw [z3]; rfl, by rw [ht]; exact hP, va_K.moved hW.alike hK, hD⟩, hS.F ht⟩) hS.2.2 dX9_count_60
theorem j_in_ne0 {x : Int32} (h : ¬ j_isPart x = 0) : ∃ k : Nat, k < 2 ∧ x = nI k := j_in_ne (N := 1) (by omega) h
set_option maxHeartbeats 4000000 in
set_option maxRecDepth 100000 in
theorem cN_restore (l : Launch) (D : va_G) (cy : Nat → ClassId) (ad : Nat → Nat) (X : va_W) (S : MS) (sz : Nat) (hsv : ∀ k : Nat, k < 2 → a3 S k = 0) (x : Int32) : Met l yX9_restore wsX9_restore (rm9 2 46) (gPc D cy (wM cy ad S ++ X) sz [.ref (ad 0), .int x]) (gQi D cy (wM cy ad S ++ X) sz (fun r _ => r = (if j_isPart x = 0 then -2 else -5))) 0 0 (va_A (wM cy ad S ++ X) sz) := by
  refine gHead (cc := cX9_restore) (maxL := 3) (ret := (some .int)) (by decide) rfl (Nat.le_of_ble_eq_true rfl) ?_
  intro p e s m below meth c ls hx hb hr hlocks hml hown hts hsz hP hK hD hS hA hl
  have hin : ∀ w ∈ u_ws RX9 TX9 36, w ∈ wsX9_restore := by decide +kernel
  have hown : s.vm.findClass RX9 = some m.cls := hown
  have hl : lv_has ls 3 [(0, .ref (ad 0)), (1, .int x)] := hl
  refine lv_iload_n hx hb dX9_restore_0 rfl (lv_at hl 1 rfl) ?_
  refine pCalli (As := [.int x]) (rest := []) hx hb hml hown hts hP hS hA hl.1 (cM_isPart l _ x) (va_cwS 1 hts gX9_restore_X9_isPart rfl rfl rfl (by decide +kernel) ⟨Nat.le_of_ble_eq_true rfl, Nat.le_of_ble_eq_true rfl⟩) rfl rfl (Nat.le_of_ble_eq_true rfl) ⟨Nat.le_of_ble_eq_true rfl, Nat.le_of_ble_eq_true rfl⟩ dX9_restore_1 (fun r1 H locs e1 hP hS => ?_)
  rw [show r1 = j_isPart x from e1]
  refine lv_if_ne (tgt := 10) hx hb dX9_restore_4 (by decide) (fun c2 => ?_) (fun c2 => ?_)
  · skip
    obtain ⟨i0, hi0, hie⟩ := j_in_ne0 c2
    rw [hie] at hl
    refine lv_aload_n hx hb dX9_restore_10 rfl (lv_at hl 0 rfl) ?_
    refine rM_get (v := .ref (ad 3)) hx hb hts hin hown hK hP 2 (by decide) rfl (by decide +kernel) dX9_restore_11 ?_
    refine lv_iload_n hx hb dX9_restore_14 rfl (lv_at hl 1 rfl) ?_
    refine rM_ld3 (i := i0) hx hb hK hP (by omega) dX9_restore_15 ?_
    refine W.eq (g2 := F0 m 16 ls [.int (a3 S i0)]) rfl ?_
    rw [hsv i0 hi0]
    refine lv_if_ne (tgt := 22) hx hb dX9_restore_16 (by decide) (fun c3 => ?_) (fun c3 => ?_)
    · exact absurd c3 (by decide)
    · skip
      refine lv_bipush (v := (-5)) hx hb dX9_restore_19 (by decide) ?_
      exact W.iret hx hb hr (fun t ht hW => ⟨⟨_, _, rfl, by simp [c2, c3], by rw [ht]; exact hP, va_K.moved hW.alike hK, hD⟩, hS.F ht⟩) hS.2.2 dX9_restore_21
  · skip
    refine lv_bipush (v := (-2)) hx hb dX9_restore_7 (by decide) ?_
    exact W.iret hx hb hr (fun t ht hW => ⟨⟨_, _, rfl, by simp [c2], by rw [ht]; exact hP, va_K.moved hW.alike hK, hD⟩, hS.F ht⟩) hS.2.2 dX9_restore_9
def fSv (g : Nat → Int32) (i0 k : Nat) (f : Nat → Int32) : Nat → Int32 := upd f (154 * i0 + k) (g k)
set_option maxHeartbeats 4000000 in
set_option maxRecDepth 100000 in
theorem cN_save (l : Launch) (D : va_G) (cy : Nat → ClassId) (ad : Nat → Nat) (X : va_W) (S : MS) (sz : Nat) (hone : ∀ c : Nat, c < 15 → jOf S c 10 = 0) (x : Int32) : Met l yX9_save wsX9_save (rm9 2 46) (gPc D cy (wM cy ad S ++ X) sz [.ref (ad 0), .int x]) (gQi D cy (wM cy ad S ++ X) sz (fun r _ => r = (if j_isPart x = 0 then -2 else nI 0))) 0 0 (va_A (wM cy ad S ++ X) sz) := by
  refine gHead (cc := cX9_save) (maxL := 3) (ret := (some .int)) (by decide) rfl (Nat.le_of_ble_eq_true rfl) ?_
  intro p e s m below meth c ls hx hb hr hlocks hml hown hts hsz hP hK hD hS hA hl
  have hin : ∀ w ∈ u_ws RX9 TX9 36, w ∈ wsX9_save := by decide +kernel
  have hown : s.vm.findClass RX9 = some m.cls := hown
  have hl : lv_has ls 3 [(0, .ref (ad 0)), (1, .int x)] := hl
  refine lv_iload_n hx hb dX9_save_0 rfl (lv_at hl 1 rfl) ?_
  refine pCalli (As := [.int x]) (rest := []) hx hb hml hown hts hP hS hA hl.1 (cM_isPart l _ x) (va_cwS 1 hts gX9_save_X9_isPart rfl rfl rfl (by decide +kernel) ⟨Nat.le_of_ble_eq_true rfl, Nat.le_of_ble_eq_true rfl⟩) rfl rfl (Nat.le_of_ble_eq_true rfl) ⟨Nat.le_of_ble_eq_true rfl, Nat.le_of_ble_eq_true rfl⟩ dX9_save_1 (fun r1 H locs e1 hP hS => ?_)
  rw [show r1 = j_isPart x from e1]
  refine lv_if_ne (tgt := 10) hx hb dX9_save_4 (by decide) (fun c2 => ?_) (fun c2 => ?_)
  · skip
    obtain ⟨i0, hi0, hie⟩ := j_in_ne0 c2
    rw [hie] at hl
    refine lv_iconst (v := nI 0) hx hb dX9_save_10 (by decide) ?_
    refine lv_istore_n (lv' := [(2, .int (nI 0)), (0, .ref (ad 0)), (1, .int (nI i0))]) hx hb dX9_save_11 rfl hl (by decide) rfl (fun ls hl => ?_)
    have L12 : ∀ (n k : Nat) (u : Nat → Int32) (H : Heap) (locs : List Loc) (ls : Array Slot), k + n = 154 → va_P D vwCl (wM cy ad (mk9 (aF S) (aG S) (a1 S) u (a3 S) (a4 S) (a5 S) (a6 S) (a7 S) (a8 S) (a9 S) (a10 S) (a11 S) (a12 S) (a13 S) (a14 S) (a15 S) (a16 S) (a17 S) (a18 S) (a19 S) (a20 S)) ++ X) H → va_D (va_A (wM cy ad S ++ X) sz) (wM cy ad (mk9 (aF S) (aG S) (a1 S) u (a3 S) (a4 S) (a5 S) (a6 S) (a7 S) (a8 S) (a9 S) (a10 S) (a11 S) (a12 S) (a13 S) (a14 S) (a15 S) (a16 S) (a17 S) (a18 S) (a19 S) (a20 S)) ++ X) → va_S (va_A (wM cy ad S ++ X) sz) s.heap H locs → lv_has ls 3 [(2, .int (nI k)), (0, .ref (ad 0)), (1, .int (nI i0))] → (∀ (H : Heap) (locs : List Loc) (ls : Array Slot), va_P D vwCl (wM cy ad (mk9 (aF S) (aG S) (a1 S) (lpN (fSv (a1 S) i0) n k u) (a3 S) (a4 S) (a5 S) (a6 S) (a7 S) (a8 S) (a9 S) (a10 S) (a11 S) (a12 S) (a13 S) (a14 S) (a15 S) (a16 S) (a17 S) (a18 S) (a19 S) (a20 S)) ++ X) H → va_D (va_A (wM cy ad S ++ X) sz) (wM cy ad (mk9 (aF S) (aG S) (a1 S) (lpN (fSv (a1 S) i0) n k u) (a3 S) (a4 S) (a5 S) (a6 S) (a7 S) (a8 S) (a9 S) (a10 S) (a11 S) (a12 S) (a13 S) (a14 S) (a15 S) (a16 S) (a17 S) (a18 S) (a19 S) (a20 S)) ++ X) → va_S (va_A (wM cy ad S ++ X) sz) s.heap H locs → lv_has ls 3 [(2, .int (nI 154)), (0, .ref (ad 0)), (1, .int (nI i0))] → W p l e (headSpec wsX9_save (rm9 2 46)).room s m ([.ref (ad 0), .int x] : List Value).toArray below meth c H locs 0 0 (MQ below (gQi D cy (wM cy ad S ++ X) sz (fun r _ => r = (if j_isPart x = 0 then -2 else nI 0))) ([.ref (ad 0), .int x] : List Value).toArray s 0 0 (va_A (wM cy ad S ++ X) sz)) (F0 m 43 ls [])) → W p l e (headSpec wsX9_save (rm9 2 46)).room s m ([.ref (ad 0), .int x] : List Value).toArray below meth c H locs 0 0 (MQ below (gQi D cy (wM cy ad S ++ X) sz (fun r _ => r = (if j_isPart x = 0 then -2 else nI 0))) ([.ref (ad 0), .int x] : List Value).toArray s 0 0 (va_A (wM cy ad S ++ X) sz)) (F0 m 12 ls []) := by
      intro n
      induction n with
      | zero =>
        intro k u H locs ls hk hP hD hS hl hex
        obtain rfl : 154 = k := by omega
        refine lv_iload_n hx hb dX9_save_12 rfl (lv_at hl 0 rfl) ?_
        refine lv_sipush (v := nI 154) hx hb dX9_save_13 (by decide) ?_
        refine lv_icmp_ge (tgt := 43) hx hb dX9_save_16 (by decide) (fun c3 => ?_) (fun c3 => ?_)
        · rw [nI_leI (by omega) (by omega)] at c3
          exact hex _ _ _ hP hD hS (lv_sub hl [0, 1, 2] rfl)
        · exact absurd c3 (by rw [nI_leI (by omega) (by omega)]; omega)
      | succ n ih =>
        intro k u H locs ls hk hP hD hS hl hex
        have hk12 : k < 154 := by omega
        refine lv_iload_n hx hb dX9_save_12 rfl (lv_at hl 0 rfl) ?_
        refine lv_sipush (v := nI 154) hx hb dX9_save_13 (by decide) ?_
        refine lv_icmp_ge (tgt := 43) hx hb dX9_save_16 (by decide) (fun c4 => ?_) (fun c4 => ?_)
        · exact absurd c4 (by rw [nI_leI (by omega) (by omega)]; omega)
        · rw [nI_leI (by omega) (by omega)] at c4
          refine lv_aload_n hx hb dX9_save_19 rfl (lv_at hl 1 rfl) ?_
          refine rM_get (v := .ref (ad 2)) hx hb hts hin hown hK hP 1 (by decide) rfl (by decide +kernel) dX9_save_20 ?_
          refine lv_sipush (v := nI 154) hx hb dX9_save_23 (by decide) ?_
          refine lv_iload_n hx hb dX9_save_26 rfl (lv_at hl 2 rfl) ?_
          refine lv_imul hx hb dX9_save_27 ?_
          rw [pk_mul]
          refine lv_iload_n hx hb dX9_save_28 rfl (lv_at hl 0 rfl) ?_
          refine lv_iadd hx hb dX9_save_29 ?_
          rw [nI_add]
          refine lv_aload_n hx hb dX9_save_30 rfl (lv_at hl 1 rfl) ?_
          refine rM_get (v := .ref (ad 1)) hx hb hts hin hown hK hP 0 (by decide) rfl (by decide +kernel) dX9_save_31 ?_
          refine lv_iload_n hx hb dX9_save_34 rfl (lv_at hl 0 rfl) ?_
          refine rM_ld1 (i := k) hx hb hK hP (by omega) dX9_save_35 ?_
          refine W.eq (g2 := F0 m 36 ls [.int (a1 S k), .int (nI ((154 * i0) + k)), .ref (ad 2)]) rfl ?_
          refine rM_st2 (i := ((154 * i0) + k)) hx hb hK hP hD hS (by omega) dX9_save_36 (fun H locs hP hD hS => ?_)
          have hP : va_P D vwCl (wM cy ad (mk9 (aF S) (aG S) (a1 S) (upd u ((154 * i0) + k) (a1 S k)) (a3 S) (a4 S) (a5 S) (a6 S) (a7 S) (a8 S) (a9 S) (a10 S) (a11 S) (a12 S) (a13 S) (a14 S) (a15 S) (a16 S) (a17 S) (a18 S) (a19 S) (a20 S)) ++ X) H := hP
          have hD : va_D (va_A (wM cy ad S ++ X) sz) (wM cy ad (mk9 (aF S) (aG S) (a1 S) (upd u ((154 * i0) + k) (a1 S k)) (a3 S) (a4 S) (a5 S) (a6 S) (a7 S) (a8 S) (a9 S) (a10 S) (a11 S) (a12 S) (a13 S) (a14 S) (a15 S) (a16 S) (a17 S) (a18 S) (a19 S) (a20 S)) ++ X) := hD
          refine lv_iinc (v := nI (k + 1)) (lv' := [(2, .int (nI (k + 1))), (0, .ref (ad 0)), (1, .int (nI i0))]) hx hb dX9_save_37 hl (k := 0) rfl (nI_1 _) (by decide) rfl (fun ls hl => ?_)
          refine lv_goto (tgt := 12) hx hb dX9_save_40 (by decide) ?_
          have he : (fSv (a1 S) i0) k u = (upd u ((154 * i0) + k) (a1 S k)) := rfl
          rw [lpN_s (f := fSv (a1 S) i0), he] at hex
          exact ih ((k + 1)) (upd u ((154 * i0) + k) (a1 S k)) _ _ _ (by omega) hP hD hS (lv_sub hl [0, 1, 2] rfl) hex
    refine L12 154 0 (a2 S) _ _ _ (by omega) hP hD hS (lv_sub hl [0, 1, 2] rfl) (fun H locs ls hP hD hS hl => ?_)
    refine lv_aload_n hx hb dX9_save_43 rfl (lv_at hl 1 rfl) ?_
    refine rM_get (v := .ref (ad 3)) hx hb hts hin hown hK hP 2 (by decide) rfl (by decide +kernel) dX9_save_44 ?_
    refine lv_iload_n hx hb dX9_save_47 rfl (lv_at hl 2 rfl) ?_
    refine lv_iconst (v := nI 1) hx hb dX9_save_48 (by decide) ?_
    refine rM_st3 (i := i0) hx hb hK hP hD hS (by omega) (by decide) dX9_save_49 (fun H locs hP hD hS => ?_)
    have hP : va_P D vwCl (wM cy ad (mk9 (aF S) (aG S) (a1 S) (lpN (fSv (a1 S) i0) 154 0 (a2 S)) (upd (a3 S) i0 (nI 1)) (a4 S) (a5 S) (a6 S) (a7 S) (a8 S) (a9 S) (a10 S) (a11 S) (a12 S) (a13 S) (a14 S) (a15 S) (a16 S) (a17 S) (a18 S) (a19 S) (a20 S)) ++ X) H := hP
    have hD : va_D (va_A (wM cy ad S ++ X) sz) (wM cy ad (mk9 (aF S) (aG S) (a1 S) (lpN (fSv (a1 S) i0) 154 0 (a2 S)) (upd (a3 S) i0 (nI 1)) (a4 S) (a5 S) (a6 S) (a7 S) (a8 S) (a9 S) (a10 S) (a11 S) (a12 S) (a13 S) (a14 S) (a15 S) (a16 S) (a17 S) (a18 S) (a19 S) (a20 S)) ++ X) := hD
    refine lv_aload_n hx hb dX9_save_50 rfl (lv_at hl 1 rfl) ?_
    refine gCalli (ws := wM cy ad (mk9 (aF S) (aG S) (a1 S) (lpN (fSv (a1 S) i0) 154 0 (a2 S)) (upd (a3 S) i0 (nI 1)) (a4 S) (a5 S) (a6 S) (a7 S) (a8 S) (a9 S) (a10 S) (a11 S) (a12 S) (a13 S) (a14 S) (a15 S) (a16 S) (a17 S) (a18 S) (a19 S) (a20 S)) ++ X) (As := []) (rest := []) (q0 := 0) (r0 := (RX9, TX9, 36)) hx hb hml hown hts hK hP hD hS hA hl.1 wM_0 rfl (cM_constraintsThere l D cy ad X (mk9 (aF S) (aG S) (a1 S) (lpN (fSv (a1 S) i0) 154 0 (a2 S)) (upd (a3 S) i0 (nI 1)) (a4 S) (a5 S) (a6 S) (a7 S) (a8 S) (a9 S) (a10 S) (a11 S) (a12 S) (a13 S) (a14 S) (a15 S) (a16 S) (a17 S) (a18 S) (a19 S) (a20 S)) _) (cwV 0 hts gX9_save_X9_constraintsThere rfl rfl rfl (by decide +kernel) ⟨Nat.le_of_ble_eq_true rfl, Nat.le_of_ble_eq_true rfl⟩) rfl rfl (Nat.le_of_ble_eq_true rfl) ⟨Nat.le_of_ble_eq_true rfl, Nat.le_of_ble_eq_true rfl⟩ dX9_save_51 (fun r5 ws5 H locs e5 hP hD hS => ?_)
    obtain ⟨e5a, e5b⟩ := e5
    rw [show r5 = jCnt (mk9 (aF S) (aG S) (a1 S) (lpN (fSv (a1 S) i0) 154 0 (a2 S)) (upd (a3 S) i0 (nI 1)) (a4 S) (a5 S) (a6 S) (a7 S) (a8 S) (a9 S) (a10 S) (a11 S) (a12 S) (a13 S) (a14 S) (a15 S) (a16 S) (a17 S) (a18 S) (a19 S) (a20 S)) from e5a]
    rw [e5b] at hP hD
    rw [jCnt_0 (S := mk9 (aF S) (aG S) (a1 S) (lpN (fSv (a1 S) i0) 154 0 (a2 S)) (upd (a3 S) i0 (nI 1)) (a4 S) (a5 S) (a6 S) (a7 S) (a8 S) (a9 S) (a10 S) (a11 S) (a12 S) (a13 S) (a14 S) (a15 S) (a16 S) (a17 S) (a18 S) (a19 S) (a20 S)) hone]
    exact W.iret hx hb hr (fun t ht hW => ⟨⟨_, _, rfl, by rw [if_neg c2], by rw [ht]; exact hP, va_K.moved hW.alike hK, hD⟩, hS.F ht⟩) hS.2.2 dX9_save_54
  · skip
    refine lv_bipush (v := (-2)) hx hb dX9_save_7 (by decide) ?_
    exact W.iret hx hb hr (fun t ht hW => ⟨⟨_, _, rfl, by simp [c2], by rw [ht]; exact hP, va_K.moved hW.alike hK, hD⟩, hS.F ht⟩) hS.2.2 dX9_save_9
