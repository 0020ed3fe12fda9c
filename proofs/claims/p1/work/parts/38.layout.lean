/-! a layout: which places are taken -/
def fMask (f : Nat → Option Nat) (k : Nat) (q : Int32) : Int32 := match f k with
  | none => q
  | some _ => q ||| (nI 1 <<< (nI k &&& 31))
def kMask (f : Nat → Option Nat) : Int32 := lpN (fMask f) 14 0 (nI 0)
def kFreeN (f : Nat → Option Nat) : Nat → Nat → Int32
  | 0, _ => -6
  | n + 1, k => match f k with
    | none => nI k
    | some _ => kFreeN f n (k + 1)
theorem kFreeN_n {f : Nat → Option Nat} {n k : Nat} (h : f k = none) : kFreeN f (n + 1) k = nI k := by
  show (match f k with | none => nI k | some _ => kFreeN f n (k + 1)) = _
  rw [h]
theorem kFreeN_c {f : Nat → Option Nat} {n k y : Nat} (h : f k = some y) : kFreeN f (n + 1) k = kFreeN f n (k + 1) := by
  show (match f k with | none => nI k | some _ => kFreeN f n (k + 1)) = _
  rw [h]
def kFree (f : Nat → Option Nat) : Int32 := kFreeN f 14 0
set_option maxHeartbeats 4000000 in
set_option maxRecDepth 100000 in
theorem cY_mask (l : Launch) (D : va_G) (cy : Nat → ClassId) (ws : va_W) (sz : Nat) {i j a b : Nat} {f : Nat → Option Nat} (hi : ws[i]? = some (a, .inr (5, [.ref b]))) (hj : ws[j]? = some (b, .inl (cy 5, 14, .inr (.inr (.inr (.inr f)))))) : Met l yX5_mask wsX5_mask (rm9 0 0) (gPc D cy ws sz [.ref a]) (gQi D cy ws sz (fun r ws' => r = kMask f ∧ ws' = ws)) 0 0 (va_A ws sz) := by
  refine gHead (cc := cX5_mask) (maxL := 3) (ret := (some .int)) (by decide) rfl (Nat.le_of_ble_eq_true rfl) ?_
  intro p e s m below meth c ls hx hb hr hlocks hml hown hts hsz hP hK hD hS hA hl
  have hinX5 : ∀ w ∈ u_ws RX5 TX5 1, w ∈ wsX5_mask := by decide +kernel
  have hown : s.vm.findClass RX5 = some m.cls := hown
  have hl : lv_has ls 3 [(0, .ref a)] := hl
  refine lv_iconst (v := nI 0) hx hb dX5_mask_0 (by decide) ?_
  refine lv_istore_n (lv' := [(1, .int (nI 0)), (0, .ref a)]) hx hb dX5_mask_1 rfl hl (by decide) rfl (fun ls hl => ?_)
  refine lv_iconst (v := nI 0) hx hb dX5_mask_2 (by decide) ?_
  refine lv_istore_n (lv' := [(2, .int (nI 0)), (1, .int (nI 0)), (0, .ref a)]) hx hb dX5_mask_3 rfl hl (by decide) rfl (fun ls hl => ?_)
  have L4 : ∀ (n k : Nat) (q : Int32) (H : Heap) (locs : List Loc) (ls : Array Slot), k + n = 14 → va_P D vwCl (ws) H → va_D (va_A ws sz) (ws) → va_S (va_A ws sz) s.heap H locs → lv_has ls 3 [(2, .int (nI k)), (0, .ref a), (1, .int q)] → (∀ (H : Heap) (locs : List Loc) (ls : Array Slot), va_P D vwCl (ws) H → va_D (va_A ws sz) (ws) → va_S (va_A ws sz) s.heap H locs → lv_has ls 3 [(2, .int (nI 14)), (0, .ref a), (1, .int (lpN (fMask f) n k q))] → W p l e (headSpec wsX5_mask (rm9 0 0)).room s m ([.ref a] : List Value).toArray below meth c H locs 0 0 (MQ below (gQi D cy ws sz (fun r ws' => r = kMask f ∧ ws' = ws)) ([.ref a] : List Value).toArray s 0 0 (va_A ws sz)) (F0 m 31 ls [])) → W p l e (headSpec wsX5_mask (rm9 0 0)).room s m ([.ref a] : List Value).toArray below meth c H locs 0 0 (MQ below (gQi D cy ws sz (fun r ws' => r = kMask f ∧ ws' = ws)) ([.ref a] : List Value).toArray s 0 0 (va_A ws sz)) (F0 m 4 ls []) := by
    intro n
    induction n with
    | zero =>
      intro k q H locs ls hk hP hD hS hl hex
      obtain rfl : 14 = k := by omega
      refine lv_iload_n hx hb dX5_mask_4 rfl (lv_at hl 0 rfl) ?_
      refine lv_bipush (v := nI 14) hx hb dX5_mask_5 (by decide) ?_
      refine lv_icmp_ge (tgt := 31) hx hb dX5_mask_7 (by decide) (fun c1 => ?_) (fun c1 => ?_)
      · rw [nI_leI (by omega) (by omega)] at c1
        exact hex _ _ _ hP hD hS (lv_sub hl [0, 1, 2] rfl)
      · exact absurd c1 (by rw [nI_leI (by omega) (by omega)]; omega)
    | succ n ih =>
      intro k q H locs ls hk hP hD hS hl hex
      have hk4 : k < 14 := by omega
      refine lv_iload_n hx hb dX5_mask_4 rfl (lv_at hl 0 rfl) ?_
      refine lv_bipush (v := nI 14) hx hb dX5_mask_5 (by decide) ?_
      refine lv_icmp_ge (tgt := 31) hx hb dX5_mask_7 (by decide) (fun c2 => ?_) (fun c2 => ?_)
      · exact absurd c2 (by rw [nI_leI (by omega) (by omega)]; omega)
      · rw [nI_leI (by omega) (by omega)] at c2
        refine lv_aload_n hx hb dX5_mask_10 rfl (lv_at hl 1 rfl) ?_
        refine va_get (v := .ref b) (ci := 5) (C := RX5) (T := TX5) (N := 1) hx hb hts hinX5 hown hK hP _ (hi) rfl 0 (by decide) (hts (.fieldLink RX5 11 "LayoutSolver$Layout" "places" "[LLayoutSolver$Constraint;") (by decide +kernel)) (fun x h => h) rfl dX5_mask_11 ?_
        refine lv_iload_n hx hb dX5_mask_14 rfl (lv_at hl 0 rfl) ?_
        refine va_aldq (i := nI k) hx hb hK hP _ 5 (hj) rfl (vp_in_nI (by omega) (by decide)) dX5_mask_15 ?_
        rw [nI_clamp (show k < 2 ^ 31 by omega)]
        rcases hy3 : f k with _ | y3
        · refine W.eq (g2 := F0 m 16 ls [.null]) rfl ?_
          refine lv_ifnullN (tgt := 25) hx hb dX5_mask_16 (by decide) ?_
          refine lv_iinc (v := nI (k + 1)) (lv' := [(2, .int (nI (k + 1))), (0, .ref a), (1, .int q)]) hx hb dX5_mask_25 hl (k := 0) rfl (nI_1 _) (by decide) rfl (fun ls hl => ?_)
          refine lv_goto (tgt := 4) hx hb dX5_mask_28 (by decide) ?_
          have he : (fMask f) k q = q := by simp only [fMask, hy3]
          rw [lpN_s (f := fMask f), he] at hex
          exact ih ((k + 1)) q _ _ _ (by omega) hP hD hS (lv_sub hl [0, 1, 2] rfl) hex
        · refine W.eq (g2 := F0 m 16 ls [.ref y3]) rfl ?_
          refine lv_ifnull hx hb dX5_mask_16 ?_
          refine lv_iload_n hx hb dX5_mask_19 rfl (lv_at hl 2 rfl) ?_
          refine lv_iconst (v := nI 1) hx hb dX5_mask_20 (by decide) ?_
          refine lv_iload_n hx hb dX5_mask_21 rfl (lv_at hl 0 rfl) ?_
          refine lv_ishl hx hb dX5_mask_22 ?_
          refine lv_ior hx hb dX5_mask_23 ?_
          refine lv_istore_n (lv' := [(1, .int (q ||| ((nI 1) <<< ((nI k) &&& 31)))), (2, .int (nI k)), (0, .ref a)]) hx hb dX5_mask_24 rfl hl (by decide) rfl (fun ls hl => ?_)
          refine lv_iinc (v := nI (k + 1)) (lv' := [(2, .int (nI (k + 1))), (1, .int (q ||| ((nI 1) <<< ((nI k) &&& 31)))), (0, .ref a)]) hx hb dX5_mask_25 hl (k := 1) rfl (nI_1 _) (by decide) rfl (fun ls hl => ?_)
          refine lv_goto (tgt := 4) hx hb dX5_mask_28 (by decide) ?_
          have he : (fMask f) k q = (q ||| ((nI 1) <<< ((nI k) &&& 31))) := by simp only [fMask, hy3]
          rw [lpN_s (f := fMask f), he] at hex
          exact ih ((k + 1)) (q ||| ((nI 1) <<< ((nI k) &&& 31))) _ _ _ (by omega) hP hD hS (lv_sub hl [0, 2, 1] rfl) hex
  refine L4 14 0 (nI 0) _ _ _ (by omega) hP hD hS (lv_sub hl [0, 2, 1] rfl) (fun H locs ls hP hD hS hl => ?_)
  refine lv_iload_n hx hb dX5_mask_31 rfl (lv_at hl 2 rfl) ?_
  exact W.iret hx hb hr (fun t ht hW => ⟨⟨_, _, rfl, ⟨rfl, rfl⟩, by rw [ht]; exact hP, va_K.moved hW.alike hK, hD⟩, hS.F ht⟩) hS.2.2 dX5_mask_32
set_option maxHeartbeats 4000000 in
set_option maxRecDepth 100000 in
theorem cY_lowestFree (l : Launch) (D : va_G) (cy : Nat → ClassId) (ws : va_W) (sz : Nat) {i j a b : Nat} {f : Nat → Option Nat} (hi : ws[i]? = some (a, .inr (5, [.ref b]))) (hj : ws[j]? = some (b, .inl (cy 5, 14, .inr (.inr (.inr (.inr f)))))) : Met l yX5_lowestFree wsX5_lowestFree (rm9 0 0) (gPc D cy ws sz [.ref a]) (gQi D cy ws sz (fun r ws' => r = kFree f ∧ ws' = ws)) 0 0 (va_A ws sz) := by
  refine gHead (cc := cX5_lowestFree) (maxL := 2) (ret := (some .int)) (by decide) rfl (Nat.le_of_ble_eq_true rfl) ?_
  intro p e s m below meth c ls hx hb hr hlocks hml hown hts hsz hP hK hD hS hA hl
  have hinX5 : ∀ w ∈ u_ws RX5 TX5 1, w ∈ wsX5_lowestFree := by decide +kernel
  have hown : s.vm.findClass RX5 = some m.cls := hown
  have hl : lv_has ls 2 [(0, .ref a)] := hl
  refine lv_iconst (v := nI 0) hx hb dX5_lowestFree_0 (by decide) ?_
  refine lv_istore_n (lv' := [(1, .int (nI 0)), (0, .ref a)]) hx hb dX5_lowestFree_1 rfl hl (by decide) rfl (fun ls hl => ?_)
  have L2 : ∀ (n k : Nat) (H : Heap) (locs : List Loc) (ls : Array Slot), k + n = 14 → kFreeN f n k = kFree f → va_P D vwCl ws H → va_D (va_A ws sz) ws → va_S (va_A ws sz) s.heap H locs → lv_has ls 2 [(1, .int (nI k)), (0, .ref a)] → W p l e (headSpec wsX5_lowestFree (rm9 0 0)).room s m ([.ref a] : List Value).toArray below meth c H locs 0 0 (MQ below (gQi D cy ws sz (fun r ws' => r = kFree f ∧ ws' = ws)) ([.ref a] : List Value).toArray s 0 0 (va_A ws sz)) (F0 m 2 ls []) := by
    intro n
    induction n with
    | zero =>
      intro k H locs ls hk he hP hD hS hl
      obtain rfl : 14 = k := by omega
      refine lv_iload_n hx hb dX5_lowestFree_2 rfl (lv_at hl 0 rfl) ?_
      refine lv_bipush (v := nI 14) hx hb dX5_lowestFree_3 (by decide) ?_
      refine lv_icmp_ge (tgt := 25) hx hb dX5_lowestFree_5 (by decide) (fun c1 => ?_) (fun c1 => ?_)
      · rw [nI_leI (by omega) (by omega)] at c1
        refine lv_bipush (v := (-6)) hx hb dX5_lowestFree_25 (by decide) ?_
        exact W.iret hx hb hr (fun t ht hW => ⟨⟨_, _, rfl, ⟨he, rfl⟩, by rw [ht]; exact hP, va_K.moved hW.alike hK, hD⟩, hS.F ht⟩) hS.2.2 dX5_lowestFree_27
      · exact absurd c1 (by rw [nI_leI (by omega) (by omega)]; omega)
    | succ n ih =>
      intro k H locs ls hk he hP hD hS hl
      have hk2 : k < 14 := by omega
      refine lv_iload_n hx hb dX5_lowestFree_2 rfl (lv_at hl 0 rfl) ?_
      refine lv_bipush (v := nI 14) hx hb dX5_lowestFree_3 (by decide) ?_
      refine lv_icmp_ge (tgt := 25) hx hb dX5_lowestFree_5 (by decide) (fun c2 => ?_) (fun c2 => ?_)
      · exact absurd c2 (by rw [nI_leI (by omega) (by omega)]; omega)
      · rw [nI_leI (by omega) (by omega)] at c2
        refine lv_aload_n hx hb dX5_lowestFree_8 rfl (lv_at hl 1 rfl) ?_
        refine va_get (v := .ref b) (ci := 5) (C := RX5) (T := TX5) (N := 1) hx hb hts hinX5 hown hK hP _ (hi) rfl 0 (by decide) (hts (.fieldLink RX5 11 "LayoutSolver$Layout" "places" "[LLayoutSolver$Constraint;") (by decide +kernel)) (fun x h => h) rfl dX5_lowestFree_9 ?_
        refine lv_iload_n hx hb dX5_lowestFree_12 rfl (lv_at hl 0 rfl) ?_
        refine va_aldq (i := nI k) hx hb hK hP _ 5 (hj) rfl (vp_in_nI (by omega) (by decide)) dX5_lowestFree_13 ?_
        rw [nI_clamp (show k < 2 ^ 31 by omega)]
        rcases hy3 : f k with _ | y3
        · refine W.eq (g2 := F0 m 14 ls [.null]) rfl ?_
          refine lv_ifnonnullN hx hb dX5_lowestFree_14 ?_
          refine lv_iload_n hx hb dX5_lowestFree_17 rfl (lv_at hl 0 rfl) ?_
          exact W.iret hx hb hr (fun t ht hW => ⟨⟨_, _, rfl, ⟨by rw [← he, kFreeN_n hy3], rfl⟩, by rw [ht]; exact hP, va_K.moved hW.alike hK, hD⟩, hS.F ht⟩) hS.2.2 dX5_lowestFree_18
        · refine W.eq (g2 := F0 m 14 ls [.ref y3]) rfl ?_
          refine lv_ifnonnull (tgt := 19) hx hb dX5_lowestFree_14 (by decide) ?_
          refine lv_iinc (v := nI (k + 1)) (lv' := [(1, .int (nI (k + 1))), (0, .ref a)]) hx hb dX5_lowestFree_19 hl (k := 0) rfl (nI_1 _) (by decide) rfl (fun ls hl => ?_)
          refine lv_goto (tgt := 2) hx hb dX5_lowestFree_22 (by decide) ?_
          exact ih (k + 1) _ _ _ (by omega) (by rw [← he, kFreeN_c hy3]) hP hD hS (lv_sub hl [0, 1] rfl)
  exact L2 14 0 _ _ _ (by omega) rfl hP hD hS (lv_sub hl [0, 1] rfl)
