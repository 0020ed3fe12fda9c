/-! the reference: rows are laid -/
def jGcd : Nat → Int64 → Int64 → Option Int64
  | 0, _, _ => none
  | n + 1, a, b => if lg_cmp b 0 = 0 then some a else jGcd n b (a - a / b * b)
theorem jGcd_s {n : Nat} {a b : Int64} : jGcd (n + 1) a b = if lg_cmp b 0 = 0 then some a else jGcd n b (a - a / b * b) := rfl
def jAbs (x : Int64) : Int64 := if 0 ≤ lg_cmp x 0 then x else -x
theorem j_in_t {a x b : Nat} (h1 : a ≤ x) (h2 : x ≤ b) (hb : b < 2 ^ 31) : j_in (nI x) (nI a) (nI b) = nI 1 := by
  unfold j_in
  rw [if_neg (nI_nlt h1 (by omega)), if_neg (nI_nlt h2 hb)]
set_option maxHeartbeats 4000000 in
set_option maxRecDepth 100000 in
theorem cM_part (l : Launch) (sz : Nat) (u d : Int64) (part : Int32) {n9 : Nat} {g : Int64} (hrun9 : jGcd n9 (jAbs u) d = some g) (hg : ¬ g = 0) : Met l yX9_part wsX9_part (rm9 0 0) (pPc sz [.long u, .long d, .int part]) (pQl sz (fun r => r = (if ¬ part = 0 then d / g else u / g))) 0 0 (fun q => sz ≤ q) := by
  refine pHead (cc := cX9_part) (maxL := 11) (ret := (some .long)) (by decide) rfl (Nat.le_of_ble_eq_true rfl) ?_
  intro p e s m below meth c ls hx hb hr hlocks hml hown hts hsz hS hl
  have hown : s.vm.findClass RX9 = some m.cls := hown
  have hl : lv_has ls 11 [(0, .long u), (2, .long d), (4, .int part)] := hl
  refine lv_lload_n hx hb dX9_part_0 rfl (lv_at hl 0 rfl) ?_
  refine lv_lconst (v := 0) hx hb dX9_part_1 (by decide) ?_
  refine W.lcmp hx hb dX9_part_2 ?_
  refine lv_if_ge (tgt := 11) hx hb dX9_part_3 (by decide) (fun c1 => ?_) (fun c1 => ?_)
  · skip
    refine lv_lload_n hx hb dX9_part_11 rfl (lv_at hl 0 rfl) ?_
    refine lv_lstore (lv' := [(5, .long u), (0, .long u), (2, .long d), (4, .int part)]) hx hb dX9_part_12 hl (by decide) rfl (fun ls hl => ?_)
    refine lv_lload_n hx hb dX9_part_14 rfl (lv_at hl 2 rfl) ?_
    refine lv_lstore (lv' := [(7, .long d), (5, .long u), (0, .long u), (2, .long d), (4, .int part)]) hx hb dX9_part_15 hl (by decide) rfl (fun ls hl => ?_)
    have L17 : ∀ (n : Nat) (a b : Int64) (H : Heap) (locs : List Loc) (ls : Array Slot), jGcd n a b = some g → va_S (fun q => sz ≤ q) s.heap H locs → lv_has ls 11 [(0, .long u), (2, .long d), (4, .int part), (5, .long a), (7, .long b)] → W p l e (headSpec wsX9_part (rm9 0 0)).room s m ([.long u, .long d, .int part] : List Value).toArray below meth c H locs 0 0 (MQ below (pQl sz (fun r => r = (if ¬ part = 0 then d / g else u / g))) ([.long u, .long d, .int part] : List Value).toArray s 0 0 (fun q => sz ≤ q)) (F0 m 17 ls []) := by
      intro n
      induction n with
      | zero => intro a b H locs ls hrun; cases hrun
      | succ n ih =>
        intro a b H locs ls hrun hS hl
        refine lv_lload hx hb dX9_part_17 (lv_at hl 4 rfl) ?_
        refine lv_lconst (v := 0) hx hb dX9_part_19 (by decide) ?_
        refine W.lcmp hx hb dX9_part_20 ?_
        refine lv_if_eq (tgt := 42) hx hb dX9_part_21 (by decide) (fun c2 => ?_) (fun c2 => ?_)
        · skip
          rw [jGcd_s, if_pos c2] at hrun
          have hag : a = g := Option.some.inj hrun
          refine lv_iload hx hb dX9_part_42 (lv_at hl 2 rfl) ?_
          refine lv_if_ne (tgt := 54) hx hb dX9_part_44 (by decide) (fun c3 => ?_) (fun c3 => ?_)
          · skip
            refine lv_lload_n hx hb dX9_part_54 rfl (lv_at hl 1 rfl) ?_
            refine lv_lload hx hb dX9_part_55 (lv_at hl 3 rfl) ?_
            refine lv_ldiv hx hb dX9_part_57 (by rw [hag]; exact hg) ?_
            exact W.lret hx hb hr (fun t ht hW => ⟨⟨_, (), rfl, by rw [hag]; simp [c3], trivial⟩, hS.F ht⟩) hS.2.2 dX9_part_58
          · skip
            refine lv_lload_n hx hb dX9_part_47 rfl (lv_at hl 0 rfl) ?_
            refine lv_lload hx hb dX9_part_48 (lv_at hl 3 rfl) ?_
            refine lv_ldiv hx hb dX9_part_50 (by rw [hag]; exact hg) ?_
            refine lv_goto (tgt := 58) hx hb dX9_part_51 (by decide) ?_
            exact W.lret hx hb hr (fun t ht hW => ⟨⟨_, (), rfl, by rw [hag]; simp [c3], trivial⟩, hS.F ht⟩) hS.2.2 dX9_part_58
        · skip
          refine lv_lload hx hb dX9_part_24 (lv_at hl 3 rfl) ?_
          refine lv_lload hx hb dX9_part_26 (lv_at hl 4 rfl) ?_
          refine lv_lrem hx hb dX9_part_28 (lc0 c2) ?_
          refine lv_lstore (lv' := [(9, .long (a - a / b * b)), (0, .long u), (2, .long d), (4, .int part), (5, .long a), (7, .long b)]) hx hb dX9_part_29 hl (by decide) rfl (fun ls hl => ?_)
          refine lv_lload hx hb dX9_part_31 (lv_at hl 5 rfl) ?_
          refine lv_lstore (lv' := [(5, .long b), (9, .long (a - a / b * b)), (0, .long u), (2, .long d), (4, .int part), (7, .long b)]) hx hb dX9_part_33 hl (by decide) rfl (fun ls hl => ?_)
          refine lv_lload hx hb dX9_part_35 (lv_at hl 1 rfl) ?_
          refine lv_lstore (lv' := [(7, .long (a - a / b * b)), (5, .long b), (9, .long (a - a / b * b)), (0, .long u), (2, .long d), (4, .int part)]) hx hb dX9_part_37 hl (by decide) rfl (fun ls hl => ?_)
          refine lv_goto (tgt := 17) hx hb dX9_part_39 (by decide) ?_
          exact ih _ _ _ _ _ (by rw [jGcd_s, if_neg c2] at hrun; exact hrun) hS (lv_sub hl [3, 4, 5, 1, 0] rfl)
    exact L17 n9 _ _ _ _ _ (by rw [← hrun9]; simp [jAbs, c1]) hS (lv_sub hl [2, 3, 4, 1, 0] rfl)
  · skip
    refine lv_lload_n hx hb dX9_part_6 rfl (lv_at hl 0 rfl) ?_
    refine lv_lneg hx hb dX9_part_7 ?_
    refine lv_goto (tgt := 12) hx hb dX9_part_8 (by decide) ?_
    refine lv_lstore (lv' := [(5, .long (-u)), (0, .long u), (2, .long d), (4, .int part)]) hx hb dX9_part_12 hl (by decide) rfl (fun ls hl => ?_)
    refine lv_lload_n hx hb dX9_part_14 rfl (lv_at hl 2 rfl) ?_
    refine lv_lstore (lv' := [(7, .long d), (5, .long (-u)), (0, .long u), (2, .long d), (4, .int part)]) hx hb dX9_part_15 hl (by decide) rfl (fun ls hl => ?_)
    have L17 : ∀ (n : Nat) (a b : Int64) (H : Heap) (locs : List Loc) (ls : Array Slot), jGcd n a b = some g → va_S (fun q => sz ≤ q) s.heap H locs → lv_has ls 11 [(0, .long u), (2, .long d), (4, .int part), (5, .long a), (7, .long b)] → W p l e (headSpec wsX9_part (rm9 0 0)).room s m ([.long u, .long d, .int part] : List Value).toArray below meth c H locs 0 0 (MQ below (pQl sz (fun r => r = (if ¬ part = 0 then d / g else u / g))) ([.long u, .long d, .int part] : List Value).toArray s 0 0 (fun q => sz ≤ q)) (F0 m 17 ls []) := by
      intro n
      induction n with
      | zero => intro a b H locs ls hrun; cases hrun
      | succ n ih =>
        intro a b H locs ls hrun hS hl
        refine lv_lload hx hb dX9_part_17 (lv_at hl 4 rfl) ?_
        refine lv_lconst (v := 0) hx hb dX9_part_19 (by decide) ?_
        refine W.lcmp hx hb dX9_part_20 ?_
        refine lv_if_eq (tgt := 42) hx hb dX9_part_21 (by decide) (fun c4 => ?_) (fun c4 => ?_)
        · skip
          rw [jGcd_s, if_pos c4] at hrun
          have hag : a = g := Option.some.inj hrun
          refine lv_iload hx hb dX9_part_42 (lv_at hl 2 rfl) ?_
          refine lv_if_ne (tgt := 54) hx hb dX9_part_44 (by decide) (fun c5 => ?_) (fun c5 => ?_)
          · skip
            refine lv_lload_n hx hb dX9_part_54 rfl (lv_at hl 1 rfl) ?_
            refine lv_lload hx hb dX9_part_55 (lv_at hl 3 rfl) ?_
            refine lv_ldiv hx hb dX9_part_57 (by rw [hag]; exact hg) ?_
            exact W.lret hx hb hr (fun t ht hW => ⟨⟨_, (), rfl, by rw [hag]; simp [c5], trivial⟩, hS.F ht⟩) hS.2.2 dX9_part_58
          · skip
            refine lv_lload_n hx hb dX9_part_47 rfl (lv_at hl 0 rfl) ?_
            refine lv_lload hx hb dX9_part_48 (lv_at hl 3 rfl) ?_
            refine lv_ldiv hx hb dX9_part_50 (by rw [hag]; exact hg) ?_
            refine lv_goto (tgt := 58) hx hb dX9_part_51 (by decide) ?_
            exact W.lret hx hb hr (fun t ht hW => ⟨⟨_, (), rfl, by rw [hag]; simp [c5], trivial⟩, hS.F ht⟩) hS.2.2 dX9_part_58
        · skip
          refine lv_lload hx hb dX9_part_24 (lv_at hl 3 rfl) ?_
          refine lv_lload hx hb dX9_part_26 (lv_at hl 4 rfl) ?_
          refine lv_lrem hx hb dX9_part_28 (lc0 c4) ?_
          refine lv_lstore (lv' := [(9, .long (a - a / b * b)), (0, .long u), (2, .long d), (4, .int part), (5, .long a), (7, .long b)]) hx hb dX9_part_29 hl (by decide) rfl (fun ls hl => ?_)
          refine lv_lload hx hb dX9_part_31 (lv_at hl 5 rfl) ?_
          refine lv_lstore (lv' := [(5, .long b), (9, .long (a - a / b * b)), (0, .long u), (2, .long d), (4, .int part), (7, .long b)]) hx hb dX9_part_33 hl (by decide) rfl (fun ls hl => ?_)
          refine lv_lload hx hb dX9_part_35 (lv_at hl 1 rfl) ?_
          refine lv_lstore (lv' := [(7, .long (a - a / b * b)), (5, .long b), (9, .long (a - a / b * b)), (0, .long u), (2, .long d), (4, .int part)]) hx hb dX9_part_37 hl (by decide) rfl (fun ls hl => ?_)
          refine lv_goto (tgt := 17) hx hb dX9_part_39 (by decide) ?_
          exact ih _ _ _ _ _ (by rw [jGcd_s, if_neg c4] at hrun; exact hrun) hS (lv_sub hl [3, 4, 5, 1, 0] rfl)
    exact L17 n9 _ _ _ _ _ (by rw [← hrun9]; simp [jAbs, c1]) hS (lv_sub hl [2, 3, 4, 1, 0] rfl)
def jThere (S : MS) (c : Nat) : Int32 := if ¬ jOf S c 10 = nI 1 then nI 0 else nI 1
def fCnt (S : MS) (k : Nat) (q : Int32) : Int32 := q + jOf S k 10
def jCnt (S : MS) : Int32 := lpN (fCnt S) 14 0 (nI 0)
set_option maxHeartbeats 4000000 in
set_option maxRecDepth 100000 in
theorem cM_isThere (l : Launch) (D : va_G) (cy : Nat → ClassId) (ad : Nat → Nat) (X : va_W) (S : MS) (sz : Nat) {c9 : Nat} (hc : c9 < 15) : Met l yX9_isThere wsX9_isThere (rm9 1 22) (gPc D cy (wM cy ad S ++ X) sz [.ref (ad 0), .int (nI c9)]) (gQi D cy (wM cy ad S ++ X) sz (fun r ws' => r = jThere S c9 ∧ ws' = wM cy ad S ++ X)) 0 0 (va_A (wM cy ad S ++ X) sz) := by
  refine gHead (cc := cX9_isThere) (maxL := 2) (ret := (some .boolean)) (by decide) rfl (Nat.le_of_ble_eq_true rfl) ?_
  intro p e s m below meth c ls hx hb hr hlocks hml hown hts hsz hP hK hD hS hA hl
  have hin : ∀ w ∈ u_ws RX9 TX9 36, w ∈ wsX9_isThere := by decide +kernel
  have hown : s.vm.findClass RX9 = some m.cls := hown
  have hl : lv_has ls 2 [(0, .ref (ad 0)), (1, .int (nI c9))] := hl
  refine lv_iload_n hx hb dX9_isThere_0 rfl (lv_at hl 1 rfl) ?_
  refine lv_iconst (v := nI 0) hx hb dX9_isThere_1 (by decide) ?_
  refine lv_bipush (v := nI 14) hx hb dX9_isThere_2 (by decide) ?_
  refine pCalli (As := [.int (nI c9), .int (nI 0), .int (nI 14)]) (rest := []) hx hb hml hown hts hP hS hA hl.1 (cM_in l _ (nI c9) (nI 0) (nI 14)) (va_cwS 3 hts gX9_isThere_X9_in rfl rfl rfl (by decide +kernel) ⟨Nat.le_of_ble_eq_true rfl, Nat.le_of_ble_eq_true rfl⟩) rfl rfl (Nat.le_of_ble_eq_true rfl) ⟨Nat.le_of_ble_eq_true rfl, Nat.le_of_ble_eq_true rfl⟩ dX9_isThere_4 (fun r1 H locs e1 hP hS => ?_)
  rw [show r1 = j_in (nI c9) (nI 0) (nI 14) from e1]
  rw [j_in_t (by omega) (by omega) (by decide)]
  refine lv_if_eq (tgt := 25) hx hb dX9_isThere_7 (by decide) (fun c2 => ?_) (fun c2 => ?_)
  · exact absurd c2 (by decide)
  · skip
    refine lv_aload_n hx hb dX9_isThere_10 rfl (lv_at hl 0 rfl) ?_
    refine lv_iload_n hx hb dX9_isThere_11 rfl (lv_at hl 1 rfl) ?_
    refine lv_bipush (v := nI 10) hx hb dX9_isThere_12 (by decide) ?_
    refine gCalli (ws := wM cy ad S ++ X) (As := [.int (nI c9), .int (nI 10)]) (rest := []) (q0 := 0) (r0 := (RX9, TX9, 36)) hx hb hml hown hts hK hP hD hS hA hl.1 wM_0 rfl (cM_of l D cy ad X _ _ (c9 := c9) (w9 := 10) (by omega) (by omega)) (cwV 2 hts gX9_isThere_X9_of rfl rfl rfl (by decide +kernel) ⟨Nat.le_of_ble_eq_true rfl, Nat.le_of_ble_eq_true rfl⟩) rfl rfl (Nat.le_of_ble_eq_true rfl) ⟨Nat.le_of_ble_eq_true rfl, Nat.le_of_ble_eq_true rfl⟩ dX9_isThere_14 (fun r3 ws3 H locs e3 hP hD hS => ?_)
    obtain ⟨e3a, e3b⟩ := e3
    rw [show r3 = jOf S c9 10 from e3a]
    rw [e3b] at hP hD
    refine lv_iconst (v := nI 1) hx hb dX9_isThere_17 (by decide) ?_
    refine lv_icmp_ne (tgt := 25) hx hb dX9_isThere_18 (by decide) (fun c4 => ?_) (fun c4 => ?_)
    · skip
      refine lv_iconst (v := nI 0) hx hb dX9_isThere_25 (by decide) ?_
      exact W.zret hx hb hr (by decide) (fun t ht hW => ⟨⟨_, _, rfl, ⟨by simp [jThere, c2, c4], rfl⟩, by rw [ht]; exact hP, va_K.moved hW.alike hK, hD⟩, hS.F ht⟩) hS.2.2 dX9_isThere_26
    · skip
      refine lv_iconst (v := nI 1) hx hb dX9_isThere_21 (by decide) ?_
      refine lv_goto (tgt := 26) hx hb dX9_isThere_22 (by decide) ?_
      exact W.zret hx hb hr (by decide) (fun t ht hW => ⟨⟨_, _, rfl, ⟨by simp [jThere, c2, c4], rfl⟩, by rw [ht]; exact hP, va_K.moved hW.alike hK, hD⟩, hS.F ht⟩) hS.2.2 dX9_isThere_26
set_option maxHeartbeats 4000000 in
set_option maxRecDepth 100000 in
theorem cM_constraintsThere (l : Launch) (D : va_G) (cy : Nat → ClassId) (ad : Nat → Nat) (X : va_W) (S : MS) (sz : Nat)  : Met l yX9_constraintsThere wsX9_constraintsThere (rm9 1 22) (gPc D cy (wM cy ad S ++ X) sz [.ref (ad 0)]) (gQi D cy (wM cy ad S ++ X) sz (fun r ws' => r = jCnt S ∧ ws' = wM cy ad S ++ X)) 0 0 (va_A (wM cy ad S ++ X) sz) := by
  refine gHead (cc := cX9_constraintsThere) (maxL := 3) (ret := (some .int)) (by decide) rfl (Nat.le_of_ble_eq_true rfl) ?_
  intro p e s m below meth c ls hx hb hr hlocks hml hown hts hsz hP hK hD hS hA hl
  have hin : ∀ w ∈ u_ws RX9 TX9 36, w ∈ wsX9_constraintsThere := by decide +kernel
  have hown : s.vm.findClass RX9 = some m.cls := hown
  have hl : lv_has ls 3 [(0, .ref (ad 0))] := hl
  refine lv_iconst (v := nI 0) hx hb dX9_constraintsThere_0 (by decide) ?_
  refine lv_istore_n (lv' := [(1, .int (nI 0)), (0, .ref (ad 0))]) hx hb dX9_constraintsThere_1 rfl hl (by decide) rfl (fun ls hl => ?_)
  refine lv_iconst (v := nI 0) hx hb dX9_constraintsThere_2 (by decide) ?_
  refine lv_istore_n (lv' := [(2, .int (nI 0)), (1, .int (nI 0)), (0, .ref (ad 0))]) hx hb dX9_constraintsThere_3 rfl hl (by decide) rfl (fun ls hl => ?_)
  have L4 : ∀ (n k : Nat) (q : Int32) (H : Heap) (locs : List Loc) (ls : Array Slot), k + n = 14 → va_P D vwCl (wM cy ad S ++ X) H → va_D (va_A (wM cy ad S ++ X) sz) (wM cy ad S ++ X) → va_S (va_A (wM cy ad S ++ X) sz) s.heap H locs → lv_has ls 3 [(2, .int (nI k)), (0, .ref (ad 0)), (1, .int q)] → (∀ (H : Heap) (locs : List Loc) (ls : Array Slot), va_P D vwCl (wM cy ad S ++ X) H → va_D (va_A (wM cy ad S ++ X) sz) (wM cy ad S ++ X) → va_S (va_A (wM cy ad S ++ X) sz) s.heap H locs → lv_has ls 3 [(2, .int (nI 14)), (0, .ref (ad 0)), (1, .int (lpN (fCnt S) n k q))] → W p l e (headSpec wsX9_constraintsThere (rm9 1 22)).room s m ([.ref (ad 0)] : List Value).toArray below meth c H locs 0 0 (MQ below (gQi D cy (wM cy ad S ++ X) sz (fun r ws' => r = jCnt S ∧ ws' = wM cy ad S ++ X)) ([.ref (ad 0)] : List Value).toArray s 0 0 (va_A (wM cy ad S ++ X) sz)) (F0 m 26 ls [])) → W p l e (headSpec wsX9_constraintsThere (rm9 1 22)).room s m ([.ref (ad 0)] : List Value).toArray below meth c H locs 0 0 (MQ below (gQi D cy (wM cy ad S ++ X) sz (fun r ws' => r = jCnt S ∧ ws' = wM cy ad S ++ X)) ([.ref (ad 0)] : List Value).toArray s 0 0 (va_A (wM cy ad S ++ X) sz)) (F0 m 4 ls []) := by
    intro n
    induction n with
    | zero =>
      intro k q H locs ls hk hP hD hS hl hex
      obtain rfl : 14 = k := by omega
      refine lv_iload_n hx hb dX9_constraintsThere_4 rfl (lv_at hl 0 rfl) ?_
      refine lv_bipush (v := nI 14) hx hb dX9_constraintsThere_5 (by decide) ?_
      refine lv_icmp_ge (tgt := 26) hx hb dX9_constraintsThere_7 (by decide) (fun c1 => ?_) (fun c1 => ?_)
      · rw [nI_leI (by omega) (by omega)] at c1
        exact hex _ _ _ hP hD hS (lv_sub hl [0, 1, 2] rfl)
      · exact absurd c1 (by rw [nI_leI (by omega) (by omega)]; omega)
    | succ n ih =>
      intro k q H locs ls hk hP hD hS hl hex
      have hk4 : k < 14 := by omega
      refine lv_iload_n hx hb dX9_constraintsThere_4 rfl (lv_at hl 0 rfl) ?_
      refine lv_bipush (v := nI 14) hx hb dX9_constraintsThere_5 (by decide) ?_
      refine lv_icmp_ge (tgt := 26) hx hb dX9_constraintsThere_7 (by decide) (fun c2 => ?_) (fun c2 => ?_)
      · exact absurd c2 (by rw [nI_leI (by omega) (by omega)]; omega)
      · rw [nI_leI (by omega) (by omega)] at c2
        refine lv_iload_n hx hb dX9_constraintsThere_10 rfl (lv_at hl 2 rfl) ?_
        refine lv_aload_n hx hb dX9_constraintsThere_11 rfl (lv_at hl 1 rfl) ?_
        refine lv_iload_n hx hb dX9_constraintsThere_12 rfl (lv_at hl 0 rfl) ?_
        refine lv_bipush (v := nI 10) hx hb dX9_constraintsThere_13 (by decide) ?_
        refine gCalli (ws := wM cy ad S ++ X) (As := [.int (nI k), .int (nI 10)]) (rest := [.int q]) (q0 := 0) (r0 := (RX9, TX9, 36)) hx hb hml hown hts hK hP hD hS hA hl.1 wM_0 rfl (cM_of l D cy ad X _ _ (c9 := k) (w9 := 10) (by omega) (by omega)) (cwV 2 hts gX9_constraintsThere_X9_of rfl rfl rfl (by decide +kernel) ⟨Nat.le_of_ble_eq_true rfl, Nat.le_of_ble_eq_true rfl⟩) rfl rfl (Nat.le_of_ble_eq_true rfl) ⟨Nat.le_of_ble_eq_true rfl, Nat.le_of_ble_eq_true rfl⟩ dX9_constraintsThere_15 (fun r3 ws3 H locs e3 hP hD hS => ?_)
        obtain ⟨e3a, e3b⟩ := e3
        rw [show r3 = jOf S k 10 from e3a]
        rw [e3b] at hP hD
        refine lv_iadd hx hb dX9_constraintsThere_18 ?_
        refine lv_istore_n (lv' := [(1, .int (q + (jOf S k 10))), (2, .int (nI k)), (0, .ref (ad 0))]) hx hb dX9_constraintsThere_19 rfl hl (by decide) rfl (fun ls hl => ?_)
        refine lv_iinc (v := nI (k + 1)) (lv' := [(2, .int (nI (k + 1))), (1, .int (q + (jOf S k 10))), (0, .ref (ad 0))]) hx hb dX9_constraintsThere_20 hl (k := 1) rfl (nI_1 _) (by decide) rfl (fun ls hl => ?_)
        refine lv_goto (tgt := 4) hx hb dX9_constraintsThere_23 (by decide) ?_
        have he : (fCnt S) k q = (q + (jOf S k 10)) := rfl
        rw [lpN_s, he] at hex
        exact ih ((k + 1)) (q + (jOf S k 10)) _ _ _ (by omega) hP hD hS (lv_sub hl [0, 2, 1] rfl) hex
  refine L4 14 0 (nI 0) _ _ _ (by omega) hP hD hS (lv_sub hl [0, 2, 1] rfl) (fun H locs ls hP hD hS hl => ?_)
  refine lv_iload_n hx hb dX9_constraintsThere_26 rfl (lv_at hl 2 rfl) ?_
  exact W.iret hx hb hr (fun t ht hW => ⟨⟨_, _, rfl, ⟨rfl, rfl⟩, by rw [ht]; exact hP, va_K.moved hW.alike hK, hD⟩, hS.F ht⟩) hS.2.2 dX9_constraintsThere_27
def fRow (S : MS) (R c9 : Nat) (by9 : Int32) (v : Nat) (q : Int32 × (Nat → Int64)) : Int32 × (Nat → Int64) := (q.1 + jOf S c9 v, vp_updL q.2 (22 * R + v + 1) (by9 * jOf S c9 v).toInt64)
def jRow (S : MS) (R c9 : Nat) (by9 : Int32) : Int32 × (Nat → Int64) := lpN (fRow S R c9 by9) 6 0 (nI 0, a9 S)
def jAddRow (S : MS) (R c9 : Nat) (w9 by9 : Int32) : MS := mk9 (upd (aF S) 14 (nI (R + 1))) (aG S) (a1 S) (a2 S) (a3 S) (a4 S) (a5 S) (a6 S) (a7 S) (a8 S) (vp_updL (jRow S R c9 by9).2 (22 * R) (by9 * ((-1000) * (jRow S R c9 by9).1 - jOf S c9 7)).toInt64) (upd (a10 S) R w9) (a11 S) (a12 S) (a13 S) (a14 S) (a15 S) (a16 S) (a17 S) (a18 S) (a19 S) (a20 S)
set_option maxHeartbeats 4000000 in
set_option maxRecDepth 100000 in
theorem cM_addRow (l : Launch) (D : va_G) (cy : Nat → ClassId) (ad : Nat → Nat) (X : va_W) (S : MS) (sz : Nat) {R c9 : Nat} (hR : aF S 14 = nI R) (hR35 : R ≤ 35) (hc : c9 < 15) (w9 by9 : Int32) : Met l yX9_addRow wsX9_addRow (rm9 1 25) (gPc D cy (wM cy ad S ++ X) sz [.ref (ad 0), .int (nI c9), .int w9, .int by9]) (gQv D cy (wM cy ad S ++ X) sz (fun ws' => ws' = wM cy ad (jAddRow S R c9 w9 by9) ++ X)) 0 0 (va_A (wM cy ad S ++ X) sz) := by
  refine gHead (cc := cX9_addRow) (maxL := 6) (ret := none) (by decide) rfl (Nat.le_of_ble_eq_true rfl) ?_
  intro p e s m below meth c ls hx hb hr hlocks hml hown hts hsz hP hK hD hS hA hl
  have hin : ∀ w ∈ u_ws RX9 TX9 36, w ∈ wsX9_addRow := by decide +kernel
  have hown : s.vm.findClass RX9 = some m.cls := hown
  have hl : lv_has ls 6 [(0, .ref (ad 0)), (1, .int (nI c9)), (2, .int w9), (3, .int by9)] := hl
  refine lv_iconst (v := nI 0) hx hb dX9_addRow_0 (by decide) ?_
  refine lv_istore (lv' := [(4, .int (nI 0)), (0, .ref (ad 0)), (1, .int (nI c9)), (2, .int w9), (3, .int by9)]) hx hb dX9_addRow_1 hl (by decide) rfl (fun ls hl => ?_)
  refine lv_iconst (v := nI 0) hx hb dX9_addRow_3 (by decide) ?_
  refine lv_istore (lv' := [(5, .int (nI 0)), (4, .int (nI 0)), (0, .ref (ad 0)), (1, .int (nI c9)), (2, .int w9), (3, .int by9)]) hx hb dX9_addRow_4 hl (by decide) rfl (fun ls hl => ?_)
  have L6 : ∀ (n v : Nat) (q : Int32 × (Nat → Int64)) (H : Heap) (locs : List Loc) (ls : Array Slot), v + n = 6 → va_P D vwCl (wM cy ad (mk9 (aF S) (aG S) (a1 S) (a2 S) (a3 S) (a4 S) (a5 S) (a6 S) (a7 S) (a8 S) q.2 (a10 S) (a11 S) (a12 S) (a13 S) (a14 S) (a15 S) (a16 S) (a17 S) (a18 S) (a19 S) (a20 S)) ++ X) H → va_D (va_A (wM cy ad S ++ X) sz) (wM cy ad (mk9 (aF S) (aG S) (a1 S) (a2 S) (a3 S) (a4 S) (a5 S) (a6 S) (a7 S) (a8 S) q.2 (a10 S) (a11 S) (a12 S) (a13 S) (a14 S) (a15 S) (a16 S) (a17 S) (a18 S) (a19 S) (a20 S)) ++ X) → va_S (va_A (wM cy ad S ++ X) sz) s.heap H locs → lv_has ls 6 [(5, .int (nI v)), (0, .ref (ad 0)), (1, .int (nI c9)), (2, .int w9), (3, .int by9), (4, .int q.1)] → (∀ (H : Heap) (locs : List Loc) (ls : Array Slot), va_P D vwCl (wM cy ad (mk9 (aF S) (aG S) (a1 S) (a2 S) (a3 S) (a4 S) (a5 S) (a6 S) (a7 S) (a8 S) ((lpN (fRow S R c9 by9) n v q).2) (a10 S) (a11 S) (a12 S) (a13 S) (a14 S) (a15 S) (a16 S) (a17 S) (a18 S) (a19 S) (a20 S)) ++ X) H → va_D (va_A (wM cy ad S ++ X) sz) (wM cy ad (mk9 (aF S) (aG S) (a1 S) (a2 S) (a3 S) (a4 S) (a5 S) (a6 S) (a7 S) (a8 S) ((lpN (fRow S R c9 by9) n v q).2) (a10 S) (a11 S) (a12 S) (a13 S) (a14 S) (a15 S) (a16 S) (a17 S) (a18 S) (a19 S) (a20 S)) ++ X) → va_S (va_A (wM cy ad S ++ X) sz) s.heap H locs → lv_has ls 6 [(5, .int (nI 6)), (0, .ref (ad 0)), (1, .int (nI c9)), (2, .int w9), (3, .int by9), (4, .int ((lpN (fRow S R c9 by9) n v q).1))] → W p l e (headSpec wsX9_addRow (rm9 1 25)).room s m ([.ref (ad 0), .int (nI c9), .int w9, .int by9] : List Value).toArray below meth c H locs 0 0 (MQ below (gQv D cy (wM cy ad S ++ X) sz (fun ws' => ws' = wM cy ad (jAddRow S R c9 w9 by9) ++ X)) ([.ref (ad 0), .int (nI c9), .int w9, .int by9] : List Value).toArray s 0 0 (va_A (wM cy ad S ++ X) sz)) (F0 m 58 ls [])) → W p l e (headSpec wsX9_addRow (rm9 1 25)).room s m ([.ref (ad 0), .int (nI c9), .int w9, .int by9] : List Value).toArray below meth c H locs 0 0 (MQ below (gQv D cy (wM cy ad S ++ X) sz (fun ws' => ws' = wM cy ad (jAddRow S R c9 w9 by9) ++ X)) ([.ref (ad 0), .int (nI c9), .int w9, .int by9] : List Value).toArray s 0 0 (va_A (wM cy ad S ++ X) sz)) (F0 m 6 ls []) := by
    intro n
    induction n with
    | zero =>
      intro v q H locs ls hk hP hD hS hl hex
      obtain rfl : 6 = v := by omega
      refine lv_iload hx hb dX9_addRow_6 (lv_at hl 0 rfl) ?_
      refine lv_bipush (v := nI 6) hx hb dX9_addRow_8 (by decide) ?_
      refine lv_icmp_ge (tgt := 58) hx hb dX9_addRow_10 (by decide) (fun c1 => ?_) (fun c1 => ?_)
      · rw [nI_leI (by omega) (by omega)] at c1
        exact hex _ _ _ hP hD hS (lv_sub hl [0, 1, 2, 3, 4, 5] rfl)
      · exact absurd c1 (by rw [nI_leI (by omega) (by omega)]; omega)
    | succ n ih =>
      intro v q H locs ls hk hP hD hS hl hex
      have hk6 : v < 6 := by omega
      refine lv_iload hx hb dX9_addRow_6 (lv_at hl 0 rfl) ?_
      refine lv_bipush (v := nI 6) hx hb dX9_addRow_8 (by decide) ?_
      refine lv_icmp_ge (tgt := 58) hx hb dX9_addRow_10 (by decide) (fun c2 => ?_) (fun c2 => ?_)
      · exact absurd c2 (by rw [nI_leI (by omega) (by omega)]; omega)
      · rw [nI_leI (by omega) (by omega)] at c2
        refine lv_iload hx hb dX9_addRow_13 (lv_at hl 5 rfl) ?_
        refine lv_aload_n hx hb dX9_addRow_15 rfl (lv_at hl 1 rfl) ?_
        refine lv_iload_n hx hb dX9_addRow_16 rfl (lv_at hl 2 rfl) ?_
        refine lv_iload hx hb dX9_addRow_17 (lv_at hl 0 rfl) ?_
        refine gCalli (ws := wM cy ad (mk9 (aF S) (aG S) (a1 S) (a2 S) (a3 S) (a4 S) (a5 S) (a6 S) (a7 S) (a8 S) q.2 (a10 S) (a11 S) (a12 S) (a13 S) (a14 S) (a15 S) (a16 S) (a17 S) (a18 S) (a19 S) (a20 S)) ++ X) (As := [.int (nI c9), .int (nI v)]) (rest := [.int q.1]) (q0 := 0) (r0 := (RX9, TX9, 36)) hx hb hml hown hts hK hP hD hS hA hl.1 wM_0 rfl (cM_of l D cy ad X _ _ (c9 := c9) (w9 := v) (by omega) (by omega)) (cwV 2 hts gX9_addRow_X9_of rfl rfl rfl (by decide +kernel) ⟨Nat.le_of_ble_eq_true rfl, Nat.le_of_ble_eq_true rfl⟩) rfl rfl (Nat.le_of_ble_eq_true rfl) ⟨Nat.le_of_ble_eq_true rfl, Nat.le_of_ble_eq_true rfl⟩ dX9_addRow_19 (fun r3 ws3 H locs e3 hP hD hS => ?_)
        obtain ⟨e3a, e3b⟩ := e3
        rw [show r3 = jOf S c9 v from e3a]
        rw [e3b] at hP hD
        refine lv_iadd hx hb dX9_addRow_22 ?_
        refine lv_istore (lv' := [(4, .int (q.1 + (jOf S c9 v))), (5, .int (nI v)), (0, .ref (ad 0)), (1, .int (nI c9)), (2, .int w9), (3, .int by9)]) hx hb dX9_addRow_23 hl (by decide) rfl (fun ls hl => ?_)
        refine lv_aload_n hx hb dX9_addRow_25 rfl (lv_at hl 2 rfl) ?_
        refine rM_get (v := .ref (ad 9)) hx hb hts hin hown hK hP 11 (by decide) rfl (by decide +kernel) dX9_addRow_26 ?_
        refine lv_bipush (v := nI 22) hx hb dX9_addRow_29 (by decide) ?_
        refine lv_aload_n hx hb dX9_addRow_31 rfl (lv_at hl 2 rfl) ?_
        refine rM_get (v := .int (aF S 14)) hx hb hts hin hown hK hP 14 (by decide) rfl (by decide +kernel) dX9_addRow_32 ?_
        rw [hR]
        refine lv_imul hx hb dX9_addRow_35 ?_
        rw [pk_mul]
        refine lv_iload hx hb dX9_addRow_36 (lv_at hl 1 rfl) ?_
        refine lv_iadd hx hb dX9_addRow_38 ?_
        rw [nI_add]
        refine lv_iconst (v := nI 1) hx hb dX9_addRow_39 (by decide) ?_
        refine lv_iadd hx hb dX9_addRow_40 ?_
        rw [nI_add]
        refine lv_iload_n hx hb dX9_addRow_41 rfl (lv_at hl 5 rfl) ?_
        refine lv_aload_n hx hb dX9_addRow_42 rfl (lv_at hl 2 rfl) ?_
        refine lv_iload_n hx hb dX9_addRow_43 rfl (lv_at hl 3 rfl) ?_
        refine lv_iload hx hb dX9_addRow_44 (lv_at hl 1 rfl) ?_
        refine gCalli (ws := wM cy ad (mk9 (aF S) (aG S) (a1 S) (a2 S) (a3 S) (a4 S) (a5 S) (a6 S) (a7 S) (a8 S) q.2 (a10 S) (a11 S) (a12 S) (a13 S) (a14 S) (a15 S) (a16 S) (a17 S) (a18 S) (a19 S) (a20 S)) ++ X) (As := [.int (nI c9), .int (nI v)]) (rest := [.int by9, .int (nI (((22 * R) + v) + 1)), .ref (ad 9)]) (q0 := 0) (r0 := (RX9, TX9, 36)) hx hb hml hown hts hK hP hD hS hA hl.1 wM_0 rfl (cM_of l D cy ad X _ _ (c9 := c9) (w9 := v) (by omega) (by omega)) (cwV 2 hts gX9_addRow_X9_of rfl rfl rfl (by decide +kernel) ⟨Nat.le_of_ble_eq_true rfl, Nat.le_of_ble_eq_true rfl⟩) rfl rfl (Nat.le_of_ble_eq_true rfl) ⟨Nat.le_of_ble_eq_true rfl, Nat.le_of_ble_eq_true rfl⟩ dX9_addRow_46 (fun r4 ws4 H locs e4 hP hD hS => ?_)
        obtain ⟨e4a, e4b⟩ := e4
        rw [show r4 = jOf S c9 v from e4a]
        rw [e4b] at hP hD
        refine lv_imul hx hb dX9_addRow_49 ?_
        refine lv_i2l hx hb dX9_addRow_50 (v := (by9 * (jOf S c9 v)).toInt64) rfl ?_
        refine rM_st9 (i := (((22 * R) + v) + 1)) hx hb hK hP hD hS (by omega) dX9_addRow_51 (fun H locs hP hD hS => ?_)
        have hP : va_P D vwCl (wM cy ad (mk9 (aF S) (aG S) (a1 S) (a2 S) (a3 S) (a4 S) (a5 S) (a6 S) (a7 S) (a8 S) (vp_updL q.2 (((22 * R) + v) + 1) ((by9 * (jOf S c9 v)).toInt64)) (a10 S) (a11 S) (a12 S) (a13 S) (a14 S) (a15 S) (a16 S) (a17 S) (a18 S) (a19 S) (a20 S)) ++ X) H := hP
        have hD : va_D (va_A (wM cy ad S ++ X) sz) (wM cy ad (mk9 (aF S) (aG S) (a1 S) (a2 S) (a3 S) (a4 S) (a5 S) (a6 S) (a7 S) (a8 S) (vp_updL q.2 (((22 * R) + v) + 1) ((by9 * (jOf S c9 v)).toInt64)) (a10 S) (a11 S) (a12 S) (a13 S) (a14 S) (a15 S) (a16 S) (a17 S) (a18 S) (a19 S) (a20 S)) ++ X) := hD
        refine lv_iinc (v := nI (v + 1)) (lv' := [(5, .int (nI (v + 1))), (4, .int (q.1 + (jOf S c9 v))), (0, .ref (ad 0)), (1, .int (nI c9)), (2, .int w9), (3, .int by9)]) hx hb dX9_addRow_52 hl (k := 1) rfl (nI_1 _) (by decide) rfl (fun ls hl => ?_)
        refine lv_goto (tgt := 6) hx hb dX9_addRow_55 (by decide) ?_
        have he : (fRow S R c9 by9) v q = (q.1 + (jOf S c9 v), vp_updL q.2 (((22 * R) + v) + 1) ((by9 * (jOf S c9 v)).toInt64)) := rfl
        rw [lpN_s, he] at hex
        exact ih ((v + 1)) (q.1 + (jOf S c9 v), vp_updL q.2 (((22 * R) + v) + 1) ((by9 * (jOf S c9 v)).toInt64)) _ _ _ (by omega) hP hD hS (lv_sub hl [0, 2, 3, 4, 5, 1] rfl) hex
  refine L6 6 0 (nI 0, a9 S) _ _ _ (by omega) hP hD hS (lv_sub hl [0, 2, 3, 4, 5, 1] rfl) (fun H locs ls hP hD hS hl => ?_)
  refine lv_aload_n hx hb dX9_addRow_58 rfl (lv_at hl 1 rfl) ?_
  refine rM_get (v := .ref (ad 9)) hx hb hts hin hown hK hP 11 (by decide) rfl (by decide +kernel) dX9_addRow_59 ?_
  refine lv_bipush (v := nI 22) hx hb dX9_addRow_62 (by decide) ?_
  refine lv_aload_n hx hb dX9_addRow_64 rfl (lv_at hl 1 rfl) ?_
  refine rM_get (v := .int (aF S 14)) hx hb hts hin hown hK hP 14 (by decide) rfl (by decide +kernel) dX9_addRow_65 ?_
  rw [hR]
  refine lv_imul hx hb dX9_addRow_68 ?_
  rw [pk_mul]
  refine lv_iload_n hx hb dX9_addRow_69 rfl (lv_at hl 4 rfl) ?_
  refine lv_sipush (v := (-1000)) hx hb dX9_addRow_70 (by decide) ?_
  refine lv_iload hx hb dX9_addRow_73 (lv_at hl 5 rfl) ?_
  refine lv_imul hx hb dX9_addRow_75 ?_
  refine lv_aload_n hx hb dX9_addRow_76 rfl (lv_at hl 1 rfl) ?_
  refine lv_iload_n hx hb dX9_addRow_77 rfl (lv_at hl 2 rfl) ?_
  refine lv_bipush (v := nI 7) hx hb dX9_addRow_78 (by decide) ?_
  refine gCalli (ws := wM cy ad (mk9 (aF S) (aG S) (a1 S) (a2 S) (a3 S) (a4 S) (a5 S) (a6 S) (a7 S) (a8 S) ((lpN (fRow S R c9 by9) 6 0 (nI 0, a9 S)).2) (a10 S) (a11 S) (a12 S) (a13 S) (a14 S) (a15 S) (a16 S) (a17 S) (a18 S) (a19 S) (a20 S)) ++ X) (As := [.int (nI c9), .int (nI 7)]) (rest := [.int ((-1000) * ((lpN (fRow S R c9 by9) 6 0 (nI 0, a9 S)).1)), .int by9, .int (nI (22 * R)), .ref (ad 9)]) (q0 := 0) (r0 := (RX9, TX9, 36)) hx hb hml hown hts hK hP hD hS hA hl.1 wM_0 rfl (cM_of l D cy ad X _ _ (c9 := c9) (w9 := 7) (by omega) (by omega)) (cwV 2 hts gX9_addRow_X9_of rfl rfl rfl (by decide +kernel) ⟨Nat.le_of_ble_eq_true rfl, Nat.le_of_ble_eq_true rfl⟩) rfl rfl (Nat.le_of_ble_eq_true rfl) ⟨Nat.le_of_ble_eq_true rfl, Nat.le_of_ble_eq_true rfl⟩ dX9_addRow_80 (fun r5 ws5 H locs e5 hP hD hS => ?_)
  obtain ⟨e5a, e5b⟩ := e5
  rw [show r5 = jOf S c9 7 from e5a]
  rw [e5b] at hP hD
  refine lv_isub hx hb dX9_addRow_83 ?_
  refine lv_imul hx hb dX9_addRow_84 ?_
  refine lv_i2l hx hb dX9_addRow_85 (v := (by9 * (((-1000) * ((lpN (fRow S R c9 by9) 6 0 (nI 0, a9 S)).1)) - (jOf S c9 7))).toInt64) rfl ?_
  refine rM_st9 (i := (22 * R)) hx hb hK hP hD hS (by omega) dX9_addRow_86 (fun H locs hP hD hS => ?_)
  have hP : va_P D vwCl (wM cy ad (mk9 (aF S) (aG S) (a1 S) (a2 S) (a3 S) (a4 S) (a5 S) (a6 S) (a7 S) (a8 S) (vp_updL ((lpN (fRow S R c9 by9) 6 0 (nI 0, a9 S)).2) (22 * R) ((by9 * (((-1000) * ((lpN (fRow S R c9 by9) 6 0 (nI 0, a9 S)).1)) - (jOf S c9 7))).toInt64)) (a10 S) (a11 S) (a12 S) (a13 S) (a14 S) (a15 S) (a16 S) (a17 S) (a18 S) (a19 S) (a20 S)) ++ X) H := hP
  have hD : va_D (va_A (wM cy ad S ++ X) sz) (wM cy ad (mk9 (aF S) (aG S) (a1 S) (a2 S) (a3 S) (a4 S) (a5 S) (a6 S) (a7 S) (a8 S) (vp_updL ((lpN (fRow S R c9 by9) 6 0 (nI 0, a9 S)).2) (22 * R) ((by9 * (((-1000) * ((lpN (fRow S R c9 by9) 6 0 (nI 0, a9 S)).1)) - (jOf S c9 7))).toInt64)) (a10 S) (a11 S) (a12 S) (a13 S) (a14 S) (a15 S) (a16 S) (a17 S) (a18 S) (a19 S) (a20 S)) ++ X) := hD
  refine lv_aload_n hx hb dX9_addRow_87 rfl (lv_at hl 1 rfl) ?_
  refine rM_get (v := .ref (ad 10)) hx hb hts hin hown hK hP 12 (by decide) rfl (by decide +kernel) dX9_addRow_88 ?_
  refine lv_aload_n hx hb dX9_addRow_91 rfl (lv_at hl 1 rfl) ?_
  refine rM_get (v := .int (aF S 14)) hx hb hts hin hown hK hP 14 (by decide) rfl (by decide +kernel) dX9_addRow_92 ?_
  rw [hR]
  refine lv_iload_n hx hb dX9_addRow_95 rfl (lv_at hl 3 rfl) ?_
  refine rM_st10 (i := R) hx hb hK hP hD hS (by omega) dX9_addRow_96 (fun H locs hP hD hS => ?_)
  have hP : va_P D vwCl (wM cy ad (mk9 (aF S) (aG S) (a1 S) (a2 S) (a3 S) (a4 S) (a5 S) (a6 S) (a7 S) (a8 S) (vp_updL ((lpN (fRow S R c9 by9) 6 0 (nI 0, a9 S)).2) (22 * R) ((by9 * (((-1000) * ((lpN (fRow S R c9 by9) 6 0 (nI 0, a9 S)).1)) - (jOf S c9 7))).toInt64)) (upd (a10 S) R w9) (a11 S) (a12 S) (a13 S) (a14 S) (a15 S) (a16 S) (a17 S) (a18 S) (a19 S) (a20 S)) ++ X) H := hP
  have hD : va_D (va_A (wM cy ad S ++ X) sz) (wM cy ad (mk9 (aF S) (aG S) (a1 S) (a2 S) (a3 S) (a4 S) (a5 S) (a6 S) (a7 S) (a8 S) (vp_updL ((lpN (fRow S R c9 by9) 6 0 (nI 0, a9 S)).2) (22 * R) ((by9 * (((-1000) * ((lpN (fRow S R c9 by9) 6 0 (nI 0, a9 S)).1)) - (jOf S c9 7))).toInt64)) (upd (a10 S) R w9) (a11 S) (a12 S) (a13 S) (a14 S) (a15 S) (a16 S) (a17 S) (a18 S) (a19 S) (a20 S)) ++ X) := hD
  refine lv_aload_n hx hb dX9_addRow_97 rfl (lv_at hl 1 rfl) ?_
  refine lv_dup hx hb dX9_addRow_98 rfl ?_
  refine rM_get (v := .int (aF S 14)) hx hb hts hin hown hK hP 14 (by decide) rfl (by decide +kernel) dX9_addRow_99 ?_
  rw [hR]
  refine lv_iconst (v := nI 1) hx hb dX9_addRow_102 (by decide) ?_
  refine lv_iadd hx hb dX9_addRow_103 ?_
  rw [nI_add]
  refine rM_put14 (v := nI (R + 1)) hx hb hts hin hown hK hP hD hS (by decide +kernel) dX9_addRow_104 (fun H locs hP hD hS => ?_)
  have hP : va_P D vwCl (wM cy ad (mk9 (upd (aF S) 14 (nI (R + 1))) (aG S) (a1 S) (a2 S) (a3 S) (a4 S) (a5 S) (a6 S) (a7 S) (a8 S) (vp_updL ((lpN (fRow S R c9 by9) 6 0 (nI 0, a9 S)).2) (22 * R) ((by9 * (((-1000) * ((lpN (fRow S R c9 by9) 6 0 (nI 0, a9 S)).1)) - (jOf S c9 7))).toInt64)) (upd (a10 S) R w9) (a11 S) (a12 S) (a13 S) (a14 S) (a15 S) (a16 S) (a17 S) (a18 S) (a19 S) (a20 S)) ++ X) H := hP
  have hD : va_D (va_A (wM cy ad S ++ X) sz) (wM cy ad (mk9 (upd (aF S) 14 (nI (R + 1))) (aG S) (a1 S) (a2 S) (a3 S) (a4 S) (a5 S) (a6 S) (a7 S) (a8 S) (vp_updL ((lpN (fRow S R c9 by9) 6 0 (nI 0, a9 S)).2) (22 * R) ((by9 * (((-1000) * ((lpN (fRow S R c9 by9) 6 0 (nI 0, a9 S)).1)) - (jOf S c9 7))).toInt64)) (upd (a10 S) R w9) (a11 S) (a12 S) (a13 S) (a14 S) (a15 S) (a16 S) (a17 S) (a18 S) (a19 S) (a20 S)) ++ X) := hD
  exact W.vret hx hb hr (fun t ht hW => ⟨⟨_, rfl, rfl, by rw [ht]; exact hP, va_K.moved hW.alike hK, hD⟩, hS.F ht⟩) hS.2.2 dX9_addRow_107
