def fCl (k : Nat) (f : Nat → Int64) : Nat → Int64 := vp_updL f k 0
def fCp (g : Nat → Int64) (k : Nat) (f : Nat → Int64) : Nat → Int64 := vp_updL f k (g k)
set_option maxHeartbeats 4000000 in
set_option maxRecDepth 100000 in
theorem cC_clear (l : Launch) (D : va_G) (cy : Nat → ClassId) (ws : va_W) {i j a b : Nat} (hij : i ≠ j) (hi : i < ws.length) (hj : j < ws.length) (sz : Nat) (sums : Nat → Int64) (den : Int64) (x : Int64) : Met l yX2_clear wsX2_clear (rm9 0 0) (gPc D cy (wZ ws i j (a, .inr (2, [.ref b, .long den])) (b, .inl (cy 2, 4, .inr (.inl sums)))) sz [.ref a, .long x]) (gQv D cy (wZ ws i j (a, .inr (2, [.ref b, .long den])) (b, .inl (cy 2, 4, .inr (.inl sums)))) sz (fun ws' => ws' = wZ ws i j (a, .inr (2, [.ref b, .long x])) (b, .inl (cy 2, 4, .inr (.inl (lpN fCl 4 0 sums)))))) 0 0 (va_A (wZ ws i j (a, .inr (2, [.ref b, .long den])) (b, .inl (cy 2, 4, .inr (.inl sums)))) sz) := by
  refine gHead (cc := cX2_clear) (maxL := 4) (ret := none) (by decide) rfl (Nat.le_of_ble_eq_true rfl) ?_
  intro p e s m below meth c ls hx hb hr hlocks hml hown hts hsz hP hK hD hS hA hl
  have hin : ∀ w ∈ u_ws RX2 TX2 2, w ∈ wsX2_clear := by decide +kernel
  have hown : s.vm.findClass RX2 = some m.cls := hown
  have hl : lv_has ls 4 [(0, .ref a), (1, .long x)] := hl
  refine lv_iconst (v := nI 0) hx hb dX2_clear_0 (by decide) ?_
  refine lv_istore_n (lv' := [(3, .int (nI 0)), (0, .ref a), (1, .long x)]) hx hb dX2_clear_1 rfl hl (by decide) rfl (fun ls hl => ?_)
  have L2 : ∀ (n k : Nat) (q : Nat → Int64) (H : Heap) (locs : List Loc) (ls : Array Slot), k + n = 4 → va_P D vwCl (wZ ws i j (a, .inr (2, [.ref b, .long den])) (b, .inl (cy 2, 4, .inr (.inl q)))) H → va_D (va_A (wZ ws i j (a, .inr (2, [.ref b, .long den])) (b, .inl (cy 2, 4, .inr (.inl sums)))) sz) (wZ ws i j (a, .inr (2, [.ref b, .long den])) (b, .inl (cy 2, 4, .inr (.inl q)))) → va_S (va_A (wZ ws i j (a, .inr (2, [.ref b, .long den])) (b, .inl (cy 2, 4, .inr (.inl sums)))) sz) s.heap H locs → lv_has ls 4 [(3, .int (nI k)), (0, .ref a), (1, .long x)] → (∀ (H : Heap) (locs : List Loc) (ls : Array Slot), va_P D vwCl (wZ ws i j (a, .inr (2, [.ref b, .long den])) (b, .inl (cy 2, 4, .inr (.inl (lpN (fCl) n k q))))) H → va_D (va_A (wZ ws i j (a, .inr (2, [.ref b, .long den])) (b, .inl (cy 2, 4, .inr (.inl sums)))) sz) (wZ ws i j (a, .inr (2, [.ref b, .long den])) (b, .inl (cy 2, 4, .inr (.inl (lpN (fCl) n k q))))) → va_S (va_A (wZ ws i j (a, .inr (2, [.ref b, .long den])) (b, .inl (cy 2, 4, .inr (.inl sums)))) sz) s.heap H locs → lv_has ls 4 [(3, .int (nI 4)), (0, .ref a), (1, .long x)] → W p l e (headSpec wsX2_clear (rm9 0 0)).room s m ([.ref a, .long x] : List Value).toArray below meth c H locs 0 0 (MQ below (gQv D cy (wZ ws i j (a, .inr (2, [.ref b, .long den])) (b, .inl (cy 2, 4, .inr (.inl sums)))) sz (fun ws' => ws' = wZ ws i j (a, .inr (2, [.ref b, .long x])) (b, .inl (cy 2, 4, .inr (.inl (lpN fCl 4 0 sums)))))) ([.ref a, .long x] : List Value).toArray s 0 0 (va_A (wZ ws i j (a, .inr (2, [.ref b, .long den])) (b, .inl (cy 2, 4, .inr (.inl sums)))) sz)) (F0 m 20 ls [])) → W p l e (headSpec wsX2_clear (rm9 0 0)).room s m ([.ref a, .long x] : List Value).toArray below meth c H locs 0 0 (MQ below (gQv D cy (wZ ws i j (a, .inr (2, [.ref b, .long den])) (b, .inl (cy 2, 4, .inr (.inl sums)))) sz (fun ws' => ws' = wZ ws i j (a, .inr (2, [.ref b, .long x])) (b, .inl (cy 2, 4, .inr (.inl (lpN fCl 4 0 sums)))))) ([.ref a, .long x] : List Value).toArray s 0 0 (va_A (wZ ws i j (a, .inr (2, [.ref b, .long den])) (b, .inl (cy 2, 4, .inr (.inl sums)))) sz)) (F0 m 2 ls []) := by
    intro n
    induction n with
    | zero =>
      intro k q H locs ls hk hP hD hS hl hex
      obtain rfl : k = 4 := by omega
      refine lv_iload_n hx hb dX2_clear_2 rfl (lv_at hl 0 rfl) ?_
      refine lv_iconst (v := nI 3) hx hb dX2_clear_3 (by decide) ?_
      refine lv_icmp_gt (tgt := 20) hx hb dX2_clear_4 (by decide) (fun c1 => ?_) (fun c1 => ?_)
      · rw [nI_ltI (by omega) (by omega)] at c1
        exact hex _ _ _ hP hD hS (lv_sub hl [0, 1, 2] rfl)
      · exact absurd c1 (by rw [nI_ltI (by omega) (by omega)]; omega)
    | succ n ih =>
      intro k q H locs ls hk hP hD hS hl hex
      have hk2 : k < 4 := by omega
      refine lv_iload_n hx hb dX2_clear_2 rfl (lv_at hl 0 rfl) ?_
      refine lv_iconst (v := nI 3) hx hb dX2_clear_3 (by decide) ?_
      refine lv_icmp_gt (tgt := 20) hx hb dX2_clear_4 (by decide) (fun c2 => ?_) (fun c2 => ?_)
      · exact absurd c2 (by rw [nI_ltI (by omega) (by omega)]; omega)
      · rw [nI_ltI (by omega) (by omega)] at c2
        refine lv_aload_n hx hb dX2_clear_7 rfl (lv_at hl 1 rfl) ?_
        refine va_get (v := .ref b) (ci := 2) (C := RX2) (T := TX2) (N := 2) hx hb hts hin hown hK hP _ (wZ_i hi) rfl 0 (by decide) (hts (.fieldLink RX2 9 "LayoutSolver$Costs" "sums" "[J") (by decide +kernel)) (fun x h => h) rfl dX2_clear_8 ?_
        refine lv_iload_n hx hb dX2_clear_11 rfl (lv_at hl 0 rfl) ?_
        refine lv_lconst (v := 0) hx hb dX2_clear_12 (by decide) ?_
        refine va_last (i := nI k) hx hb hK hP hD hS _ 2 (wZ_j hij hj) rfl (vp_in_nI (by omega) (by decide)) dX2_clear_13 (fun H locs hP hD hS => ?_)
        rw [nI_clamp (show k < 2 ^ 31 by omega)] at hP hD
        rw [wZ_sj hij] at hP hD
        have hP : va_P D vwCl (wZ ws i j (a, .inr (2, [.ref b, .long den])) (b, .inl (cy 2, 4, .inr (.inl (vp_updL q k 0))))) H := hP
        have hD : va_D (va_A (wZ ws i j (a, .inr (2, [.ref b, .long den])) (b, .inl (cy 2, 4, .inr (.inl sums)))) sz) (wZ ws i j (a, .inr (2, [.ref b, .long den])) (b, .inl (cy 2, 4, .inr (.inl (vp_updL q k 0))))) := hD
        refine lv_iinc (v := nI (k + 1)) (lv' := [(3, .int (nI (k + 1))), (0, .ref a), (1, .long x)]) hx hb dX2_clear_14 hl (k := 0) rfl (nI_1 _) (by decide) rfl (fun ls hl => ?_)
        refine lv_goto (tgt := 2) hx hb dX2_clear_17 (by decide) ?_
        have he : (fCl) k q = (vp_updL q k 0) := rfl
        rw [lpN_s, he] at hex
        exact ih ((k + 1)) (vp_updL q k 0) _ _ _ (by omega) hP hD hS (lv_sub hl [0, 1, 2] rfl) hex
  refine L2 4 0 sums _ _ _ (by omega) hP hD hS (lv_sub hl [0, 1, 2] rfl) (fun H locs ls hP hD hS hl => ?_)
  refine lv_aload_n hx hb dX2_clear_20 rfl (lv_at hl 1 rfl) ?_
  refine lv_lload_n hx hb dX2_clear_21 rfl (lv_at hl 2 rfl) ?_
  refine va_put (v := .long x) (ty := .long) (ci := 2) (C := RX2) (T := TX2) (N := 2) hx hb hts hin tyX2 tyX2_ok nmX2 hown hK hP hD hS _ (wZ_i hi) rfl 1 (by decide) (hts (.fieldLink RX2 15 "LayoutSolver$Costs" "denominator" "J") (by decide +kernel)) (fun x h => h) rfl rfl rfl rfl (Nat.le_of_ble_eq_true rfl) dX2_clear_22 (fun H locs hP hD hS => ?_)
  rw [wZ_si] at hP hD
  have hP : va_P D vwCl (wZ ws i j (a, .inr (2, [.ref b, .long x])) (b, .inl (cy 2, 4, .inr (.inl (lpN (fCl) 4 0 sums))))) H := hP
  have hD : va_D (va_A (wZ ws i j (a, .inr (2, [.ref b, .long den])) (b, .inl (cy 2, 4, .inr (.inl sums)))) sz) (wZ ws i j (a, .inr (2, [.ref b, .long x])) (b, .inl (cy 2, 4, .inr (.inl (lpN (fCl) 4 0 sums))))) := hD
  exact W.vret hx hb hr (fun t ht hW => ⟨⟨_, rfl, rfl, by rw [ht]; exact hP, va_K.moved hW.alike hK, hD⟩, hS.F ht⟩) hS.2.2 dX2_clear_25
def kInc (sums : Nat → Int64) (s : Int32) (x : Int64) : Nat → Int64 := if s < 0 then sums else if nI 3 < s then sums else vp_updL sums s.toNatClampNeg (sums s.toNatClampNeg + x)
set_option maxHeartbeats 4000000 in
set_option maxRecDepth 100000 in
theorem cC_increase (l : Launch) (D : va_G) (cy : Nat → ClassId) (ws : va_W) {i j a b : Nat} (hij : i ≠ j) (hi : i < ws.length) (hj : j < ws.length) (sz : Nat) (sums : Nat → Int64) (den : Int64) (st : Int32) (x : Int64) : Met l yX2_increase wsX2_increase (rm9 0 0) (gPc D cy (wZ ws i j (a, .inr (2, [.ref b, .long den])) (b, .inl (cy 2, 4, .inr (.inl sums)))) sz [.ref a, .int st, .long x]) (gQv D cy (wZ ws i j (a, .inr (2, [.ref b, .long den])) (b, .inl (cy 2, 4, .inr (.inl sums)))) sz (fun ws' => ws' = wZ ws i j (a, .inr (2, [.ref b, .long den])) (b, .inl (cy 2, 4, .inr (.inl (kInc sums st x)))))) 0 0 (va_A (wZ ws i j (a, .inr (2, [.ref b, .long den])) (b, .inl (cy 2, 4, .inr (.inl sums)))) sz) := by
  refine gHead (cc := cX2_increase) (maxL := 4) (ret := none) (by decide) rfl (Nat.le_of_ble_eq_true rfl) ?_
  intro p e s m below meth c ls hx hb hr hlocks hml hown hts hsz hP hK hD hS hA hl
  have hin : ∀ w ∈ u_ws RX2 TX2 2, w ∈ wsX2_increase := by decide +kernel
  have hown : s.vm.findClass RX2 = some m.cls := hown
  have hl : lv_has ls 4 [(0, .ref a), (1, .int st), (2, .long x)] := hl
  refine lv_iload_n hx hb dX2_increase_0 rfl (lv_at hl 1 rfl) ?_
  refine lv_if_lt (tgt := 19) hx hb dX2_increase_1 (by decide) (fun c1 => ?_) (fun c1 => ?_)
  · skip
    exact W.vret hx hb hr (fun t ht hW => ⟨⟨_, rfl, by simp only [kInc]; rw [if_pos c1], by rw [ht]; exact hP, va_K.moved hW.alike hK, hD⟩, hS.F ht⟩) hS.2.2 dX2_increase_19
  · skip
    refine lv_iload_n hx hb dX2_increase_4 rfl (lv_at hl 1 rfl) ?_
    refine lv_iconst (v := nI 3) hx hb dX2_increase_5 (by decide) ?_
    refine lv_icmp_gt (tgt := 19) hx hb dX2_increase_6 (by decide) (fun c2 => ?_) (fun c2 => ?_)
    · skip
      exact W.vret hx hb hr (fun t ht hW => ⟨⟨_, rfl, by simp only [kInc]; rw [if_neg c1, if_pos c2], by rw [ht]; exact hP, va_K.moved hW.alike hK, hD⟩, hS.F ht⟩) hS.2.2 dX2_increase_19
    · skip
      obtain ⟨r0, hr0, hre⟩ := ixL 3 c1 c2 (by decide)
      have qq8 : st.toNatClampNeg = r0 := (by rw [hre, nI_clamp (by omega)])
      rw [hre] at hl
      refine lv_aload_n hx hb dX2_increase_9 rfl (lv_at hl 0 rfl) ?_
      refine va_get (v := .ref b) (ci := 2) (C := RX2) (T := TX2) (N := 2) hx hb hts hin hown hK hP _ (wZ_i hi) rfl 0 (by decide) (hts (.fieldLink RX2 9 "LayoutSolver$Costs" "sums" "[J") (by decide +kernel)) (fun x h => h) rfl dX2_increase_10 ?_
      refine lv_iload_n hx hb dX2_increase_13 rfl (lv_at hl 1 rfl) ?_
      refine lv_dup2_11 hx hb dX2_increase_14 rfl rfl ?_
      refine va_lald (i := nI r0) hx hb hK hP _ 2 (wZ_j hij hj) rfl (vp_in_nI (by omega) (by decide)) dX2_increase_15 ?_
      rw [nI_clamp (show r0 < 2 ^ 31 by omega)]
      refine lv_lload_n hx hb dX2_increase_16 rfl (lv_at hl 2 rfl) ?_
      refine lv_ladd hx hb dX2_increase_17 ?_
      refine va_last (i := nI r0) hx hb hK hP hD hS _ 2 (wZ_j hij hj) rfl (vp_in_nI (by omega) (by decide)) dX2_increase_18 (fun H locs hP hD hS => ?_)
      rw [nI_clamp (show r0 < 2 ^ 31 by omega)] at hP hD
      rw [wZ_sj hij] at hP hD
      have hP : va_P D vwCl (wZ ws i j (a, .inr (2, [.ref b, .long den])) (b, .inl (cy 2, 4, .inr (.inl (vp_updL sums r0 ((sums r0) + x)))))) H := hP
      have hD : va_D (va_A (wZ ws i j (a, .inr (2, [.ref b, .long den])) (b, .inl (cy 2, 4, .inr (.inl sums)))) sz) (wZ ws i j (a, .inr (2, [.ref b, .long den])) (b, .inl (cy 2, 4, .inr (.inl (vp_updL sums r0 ((sums r0) + x)))))) := hD
      exact W.vret hx hb hr (fun t ht hW => ⟨⟨_, rfl, by simp only [kInc]; rw [if_neg c1, if_neg c2, qq8], by rw [ht]; exact hP, va_K.moved hW.alike hK, hD⟩, hS.F ht⟩) hS.2.2 dX2_increase_19
set_option maxHeartbeats 4000000 in
set_option maxRecDepth 100000 in
theorem cC_isFeasible (l : Launch) (D : va_G) (cy : Nat → ClassId) (ws : va_W) {i j a b : Nat} (hij : i ≠ j) (hi : i < ws.length) (hj : j < ws.length) (sz : Nat) (sums : Nat → Int64) (den : Int64) : Met l yX2_isFeasible wsX2_isFeasible (rm9 0 0) (gPc D cy (wZ ws i j (a, .inr (2, [.ref b, .long den])) (b, .inl (cy 2, 4, .inr (.inl sums)))) sz [.ref a]) (gQi D cy (wZ ws i j (a, .inr (2, [.ref b, .long den])) (b, .inl (cy 2, 4, .inr (.inl sums)))) sz (fun r ws' => r = (if ¬ lg_cmp (sums 0) 0 = 0 then nI 0 else nI 1) ∧ ws' = wZ ws i j (a, .inr (2, [.ref b, .long den])) (b, .inl (cy 2, 4, .inr (.inl sums))))) 0 0 (va_A (wZ ws i j (a, .inr (2, [.ref b, .long den])) (b, .inl (cy 2, 4, .inr (.inl sums)))) sz) := by
  refine gHead (cc := cX2_isFeasible) (maxL := 1) (ret := (some .boolean)) (by decide) rfl (Nat.le_of_ble_eq_true rfl) ?_
  intro p e s m below meth c ls hx hb hr hlocks hml hown hts hsz hP hK hD hS hA hl
  have hin : ∀ w ∈ u_ws RX2 TX2 2, w ∈ wsX2_isFeasible := by decide +kernel
  have hown : s.vm.findClass RX2 = some m.cls := hown
  have hl : lv_has ls 1 [(0, .ref a)] := hl
  refine lv_aload_n hx hb dX2_isFeasible_0 rfl (lv_at hl 0 rfl) ?_
  refine va_get (v := .ref b) (ci := 2) (C := RX2) (T := TX2) (N := 2) hx hb hts hin hown hK hP _ (wZ_i hi) rfl 0 (by decide) (hts (.fieldLink RX2 9 "LayoutSolver$Costs" "sums" "[J") (by decide +kernel)) (fun x h => h) rfl dX2_isFeasible_1 ?_
  refine lv_iconst (v := nI 0) hx hb dX2_isFeasible_4 (by decide) ?_
  refine va_lald (i := nI 0) hx hb hK hP _ 2 (wZ_j hij hj) rfl (vp_in_nI (by omega) (by decide)) dX2_isFeasible_5 ?_
  rw [nI_clamp (show 0 < 2 ^ 31 by omega)]
  refine lv_lconst (v := 0) hx hb dX2_isFeasible_6 (by decide) ?_
  refine W.lcmp hx hb dX2_isFeasible_7 ?_
  refine lv_if_ne (tgt := 15) hx hb dX2_isFeasible_8 (by decide) (fun c1 => ?_) (fun c1 => ?_)
  · skip
    refine lv_iconst (v := nI 0) hx hb dX2_isFeasible_15 (by decide) ?_
    exact W.zret hx hb hr (by decide) (fun t ht hW => ⟨⟨_, _, rfl, ⟨by simp [c1], rfl⟩, by rw [ht]; exact hP, va_K.moved hW.alike hK, hD⟩, hS.F ht⟩) hS.2.2 dX2_isFeasible_16
  · skip
    refine lv_iconst (v := nI 1) hx hb dX2_isFeasible_11 (by decide) ?_
    refine lv_goto (tgt := 16) hx hb dX2_isFeasible_12 (by decide) ?_
    exact W.zret hx hb hr (by decide) (fun t ht hW => ⟨⟨_, _, rfl, ⟨by simp [c1], rfl⟩, by rw [ht]; exact hP, va_K.moved hW.alike hK, hD⟩, hS.F ht⟩) hS.2.2 dX2_isFeasible_16
