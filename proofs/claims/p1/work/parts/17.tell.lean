/-! the costs are told, copied, compared -/
theorem wZ_app {cy : Nat → ClassId} {ad : Nat → Nat} {S : DS} {X : va_W} {i j : Nat} {e1 e2 : Nat × va_E} : wD cy ad S ++ wZ X i j e1 e2 = wZ (wD cy ad S ++ X) (43 + i) (43 + j) e1 e2 := by
  unfold wZ
  rw [List.set_append_right _ _ (by rw [wD_len]; omega), wD_len, List.set_append_right _ _ (by rw [wD_len]; omega), wD_len, show 43 + i - 43 = i by omega, show 43 + j - 43 = j by omega]
def fTl (S : DS) (k : Nat) (f : Nat → Int64) : Nat → Int64 := if dI S 2 k = 0 then f else kInc f (dI S 4 k) (kCost S k)
/-- tellCosts: the sums -/
def kTell (S : DS) (sums : Nat → Int64) : Nat → Int64 := lpN (fTl S) 27 0 (lpN fCl 4 0 sums)
set_option maxHeartbeats 4000000 in
set_option maxRecDepth 100000 in
theorem cD_tellCosts (l : Launch) (D : va_G) (cy : Nat → ClassId) (ad : Nat → Nat) (X : va_W) (S : DS) (sz : Nat) {i j a b : Nat} (hij : i ≠ j) (hi : i < X.length) (hj : j < X.length) (sums : Nat → Int64) (den : Int64) : Met l yX3_tellCosts wsX3_tellCosts (rm9 1 30) (gPc D cy (wD cy ad S ++ wZ X i j (a, .inr (2, [.ref b, .long den])) (b, .inl (cy 2, 4, .inr (.inl sums)))) sz [.ref (ad 0), .ref a]) (gQv D cy (wD cy ad S ++ wZ X i j (a, .inr (2, [.ref b, .long den])) (b, .inl (cy 2, 4, .inr (.inl sums)))) sz (fun ws' => ws' = wD cy ad S ++ wZ X i j (a, .inr (2, [.ref b, .long (dSc S)])) (b, .inl (cy 2, 4, .inr (.inl (kTell S sums)))))) 0 0 (va_A (wD cy ad S ++ wZ X i j (a, .inr (2, [.ref b, .long den])) (b, .inl (cy 2, 4, .inr (.inl sums)))) sz) := by
  refine gHead (cc := cX3_tellCosts) (maxL := 3) (ret := none) (by decide) rfl (Nat.le_of_ble_eq_true rfl) ?_
  intro p e s m below meth c ls hx hb hr hlocks hml hown hts hsz hP hK hD hS hA hl
  have hin : ∀ w ∈ u_ws RX3 TX3 12, w ∈ wsX3_tellCosts := by decide +kernel
  have hown : s.vm.findClass RX3 = some m.cls := hown
  have hij' : 43 + i ≠ 43 + j := by omega
  have hi' : 43 + i < (wD cy ad S ++ X).length := by rw [List.length_append, wD_len]; omega
  have hj' : 43 + j < (wD cy ad S ++ X).length := by rw [List.length_append, wD_len]; omega
  have hl : lv_has ls 3 [(0, .ref (ad 0)), (1, .ref a)] := hl
  refine lv_aload_n hx hb dX3_tellCosts_0 rfl (lv_at hl 1 rfl) ?_
  refine lv_aload_n hx hb dX3_tellCosts_1 rfl (lv_at hl 0 rfl) ?_
  refine rD_get (v := .long (dSc S)) hx hb hts hin hown hK hP 1 (by decide) rfl (by decide +kernel) dX3_tellCosts_2 ?_
  have hP : va_P D vwCl (wZ (wD cy ad S ++ X) (43 + i) (43 + j) (a, .inr (2, [.ref b, .long den])) (b, .inl (cy 2, 4, .inr (.inl sums)))) _ := (congrArg (fun w9 => va_P D vwCl w9 _) wZ_app).mp hP
  have hD : va_D (va_A (wD cy ad S ++ wZ X i j (a, .inr (2, [.ref b, .long den])) (b, .inl (cy 2, 4, .inr (.inl sums)))) sz) (wZ (wD cy ad S ++ X) (43 + i) (43 + j) (a, .inr (2, [.ref b, .long den])) (b, .inl (cy 2, 4, .inr (.inl sums)))) := (congrArg (va_D (va_A (wD cy ad S ++ wZ X i j (a, .inr (2, [.ref b, .long den])) (b, .inl (cy 2, 4, .inr (.inl sums)))) sz)) wZ_app).mp hD
  refine gCallv (ws := wZ (wD cy ad S ++ X) (43 + i) (43 + j) (a, .inr (2, [.ref b, .long den])) (b, .inl (cy 2, 4, .inr (.inl sums)))) (As := [.long (dSc S)]) (rest := []) (q0 := 43 + i) (r0 := (RX2, TX2, 2)) hx hb hml hown hts hK hP hD hS hA hl.1 (wZ_i hi') rfl (cC_clear l D cy _ hij' hi' hj' _ _ _ (dSc S)) (cwV 1 hts gX3_tellCosts_X2_clear rfl rfl rfl (by decide +kernel) ⟨Nat.le_of_ble_eq_true rfl, Nat.le_of_ble_eq_true rfl⟩) rfl rfl (Nat.le_of_ble_eq_true rfl) ⟨Nat.le_of_ble_eq_true rfl, Nat.le_of_ble_eq_true rfl⟩ dX3_tellCosts_5 (fun ws9 H locs e1 hP hD hS => ?_)
  rw [show ws9 = _ from e1] at hP hD
  have hP : va_P D vwCl (wD cy ad S ++ wZ X i j (a, .inr (2, [.ref b, .long (dSc S)])) (b, .inl (cy 2, 4, .inr (.inl (lpN fCl 4 0 sums))))) _ := (congrArg (fun w9 => va_P D vwCl w9 _) wZ_app).mpr hP
  have hD : va_D (va_A (wD cy ad S ++ wZ X i j (a, .inr (2, [.ref b, .long den])) (b, .inl (cy 2, 4, .inr (.inl sums)))) sz) (wD cy ad S ++ wZ X i j (a, .inr (2, [.ref b, .long (dSc S)])) (b, .inl (cy 2, 4, .inr (.inl (lpN fCl 4 0 sums))))) := (congrArg (va_D (va_A (wD cy ad S ++ wZ X i j (a, .inr (2, [.ref b, .long den])) (b, .inl (cy 2, 4, .inr (.inl sums)))) sz)) wZ_app).mpr hD
  refine lv_iconst (v := nI 0) hx hb dX3_tellCosts_8 (by decide) ?_
  refine lv_istore_n (lv' := [(2, .int (nI 0)), (0, .ref (ad 0)), (1, .ref a)]) hx hb dX3_tellCosts_9 rfl hl (by decide) rfl (fun ls hl => ?_)
  have L10 : ∀ (n k : Nat) (q : Nat → Int64) (H : Heap) (locs : List Loc) (ls : Array Slot), k + n = 27 → va_P D vwCl (wD cy ad S ++ wZ X i j (a, .inr (2, [.ref b, .long (dSc S)])) (b, .inl (cy 2, 4, .inr (.inl q)))) H → va_D (va_A (wD cy ad S ++ wZ X i j (a, .inr (2, [.ref b, .long den])) (b, .inl (cy 2, 4, .inr (.inl sums)))) sz) (wD cy ad S ++ wZ X i j (a, .inr (2, [.ref b, .long (dSc S)])) (b, .inl (cy 2, 4, .inr (.inl q)))) → va_S (va_A (wD cy ad S ++ wZ X i j (a, .inr (2, [.ref b, .long den])) (b, .inl (cy 2, 4, .inr (.inl sums)))) sz) s.heap H locs → lv_has ls 3 [(2, .int (nI k)), (0, .ref (ad 0)), (1, .ref a)] → (∀ (H : Heap) (locs : List Loc) (ls : Array Slot), va_P D vwCl (wD cy ad S ++ wZ X i j (a, .inr (2, [.ref b, .long (dSc S)])) (b, .inl (cy 2, 4, .inr (.inl (lpN (fTl S) n k q))))) H → va_D (va_A (wD cy ad S ++ wZ X i j (a, .inr (2, [.ref b, .long den])) (b, .inl (cy 2, 4, .inr (.inl sums)))) sz) (wD cy ad S ++ wZ X i j (a, .inr (2, [.ref b, .long (dSc S)])) (b, .inl (cy 2, 4, .inr (.inl (lpN (fTl S) n k q))))) → va_S (va_A (wD cy ad S ++ wZ X i j (a, .inr (2, [.ref b, .long den])) (b, .inl (cy 2, 4, .inr (.inl sums)))) sz) s.heap H locs → lv_has ls 3 [(2, .int (nI 27)), (0, .ref (ad 0)), (1, .ref a)] → W p l e (headSpec wsX3_tellCosts (rm9 1 30)).room s m ([.ref (ad 0), .ref a] : List Value).toArray below meth c H locs 0 0 (MQ below (gQv D cy (wD cy ad S ++ wZ X i j (a, .inr (2, [.ref b, .long den])) (b, .inl (cy 2, 4, .inr (.inl sums)))) sz (fun ws' => ws' = wD cy ad S ++ wZ X i j (a, .inr (2, [.ref b, .long (dSc S)])) (b, .inl (cy 2, 4, .inr (.inl (kTell S sums)))))) ([.ref (ad 0), .ref a] : List Value).toArray s 0 0 (va_A (wD cy ad S ++ wZ X i j (a, .inr (2, [.ref b, .long den])) (b, .inl (cy 2, 4, .inr (.inl sums)))) sz)) (F0 m 46 ls [])) → W p l e (headSpec wsX3_tellCosts (rm9 1 30)).room s m ([.ref (ad 0), .ref a] : List Value).toArray below meth c H locs 0 0 (MQ below (gQv D cy (wD cy ad S ++ wZ X i j (a, .inr (2, [.ref b, .long den])) (b, .inl (cy 2, 4, .inr (.inl sums)))) sz (fun ws' => ws' = wD cy ad S ++ wZ X i j (a, .inr (2, [.ref b, .long (dSc S)])) (b, .inl (cy 2, 4, .inr (.inl (kTell S sums)))))) ([.ref (ad 0), .ref a] : List Value).toArray s 0 0 (va_A (wD cy ad S ++ wZ X i j (a, .inr (2, [.ref b, .long den])) (b, .inl (cy 2, 4, .inr (.inl sums)))) sz)) (F0 m 10 ls []) := by
    intro n
    induction n with
    | zero =>
      intro k q H locs ls hk hP hD hS hl hex
      obtain rfl : 27 = k := by omega
      refine lv_iload_n hx hb dX3_tellCosts_10 rfl (lv_at hl 0 rfl) ?_
      refine lv_bipush (v := nI 27) hx hb dX3_tellCosts_11 (by decide) ?_
      refine lv_icmp_ge (tgt := 46) hx hb dX3_tellCosts_13 (by decide) (fun c2 => ?_) (fun c2 => ?_)
      · rw [nI_leI (by omega) (by omega)] at c2
        exact hex _ _ _ hP hD hS (lv_sub hl [0, 1, 2] rfl)
      · exact absurd c2 (by rw [nI_leI (by omega) (by omega)]; omega)
    | succ n ih =>
      intro k q H locs ls hk hP hD hS hl hex
      have hk10 : k < 27 := by omega
      refine lv_iload_n hx hb dX3_tellCosts_10 rfl (lv_at hl 0 rfl) ?_
      refine lv_bipush (v := nI 27) hx hb dX3_tellCosts_11 (by decide) ?_
      refine lv_icmp_ge (tgt := 46) hx hb dX3_tellCosts_13 (by decide) (fun c3 => ?_) (fun c3 => ?_)
      · exact absurd c3 (by rw [nI_leI (by omega) (by omega)]; omega)
      · rw [nI_leI (by omega) (by omega)] at c3
        refine lv_aload_n hx hb dX3_tellCosts_16 rfl (lv_at hl 1 rfl) ?_
        refine rD_get (v := .ref (ad 2)) hx hb hts hin hown hK hP 2 (by decide) rfl (by decide +kernel) dX3_tellCosts_17 ?_
        refine lv_iload_n hx hb dX3_tellCosts_20 rfl (lv_at hl 0 rfl) ?_
        refine rD_zld (i := k) hx hb hK hP (by omega) dX3_tellCosts_21 ?_
        refine lv_if_eq (tgt := 40) hx hb dX3_tellCosts_22 (by decide) (fun c4 => ?_) (fun c4 => ?_)
        · skip
          refine lv_iinc (v := nI (k + 1)) (lv' := [(2, .int (nI (k + 1))), (0, .ref (ad 0)), (1, .ref a)]) hx hb dX3_tellCosts_40 hl (k := 0) rfl (nI_1 _) (by decide) rfl (fun ls hl => ?_)
          refine lv_goto (tgt := 10) hx hb dX3_tellCosts_43 (by decide) ?_
          have he : (fTl S) k q = q := by simp [fTl, c4, c3]
          rw [lpN_s, he] at hex
          exact ih ((k + 1)) q _ _ _ (by omega) hP hD hS (lv_sub hl [0, 1, 2] rfl) hex
        · skip
          refine lv_aload_n hx hb dX3_tellCosts_25 rfl (lv_at hl 2 rfl) ?_
          refine lv_aload_n hx hb dX3_tellCosts_26 rfl (lv_at hl 1 rfl) ?_
          refine rD_get (v := .ref (ad 4)) hx hb hts hin hown hK hP 4 (by decide) rfl (by decide +kernel) dX3_tellCosts_27 ?_
          refine lv_iload_n hx hb dX3_tellCosts_30 rfl (lv_at hl 0 rfl) ?_
          refine rD_ild (i := k) hx hb hK hP 4 (by decide) (by decide) (by omega) dX3_tellCosts_31 ?_
          refine lv_aload_n hx hb dX3_tellCosts_32 rfl (lv_at hl 1 rfl) ?_
          refine lv_iload_n hx hb dX3_tellCosts_33 rfl (lv_at hl 0 rfl) ?_
          refine dCalll (X := wZ X i j (a, .inr (2, [.ref b, .long (dSc S)])) (b, .inl (cy 2, 4, .inr (.inl q)))) (As := [.int (nI k)]) (rest := [.int (dI S 4 k), .ref a]) hx hb hml hown hts hK hP hD hS hA hl.1 (cD_costOf l D cy ad _ _ _ (k := k) (by omega)) (cwV 1 hts gX3_tellCosts_X3_costOf rfl rfl rfl (by decide +kernel) ⟨Nat.le_of_ble_eq_true rfl, Nat.le_of_ble_eq_true rfl⟩) rfl rfl (Nat.le_of_ble_eq_true rfl) ⟨Nat.le_of_ble_eq_true rfl, Nat.le_of_ble_eq_true rfl⟩ dX3_tellCosts_34 (fun r5 S5 H locs e5 hP hD hS => ?_)
          obtain ⟨e5a, e5b⟩ := e5
          rw [e5a]
          rw [e5b] at hP hD
          have hP : va_P D vwCl (wZ (wD cy ad S ++ X) (43 + i) (43 + j) (a, .inr (2, [.ref b, .long (dSc S)])) (b, .inl (cy 2, 4, .inr (.inl q)))) _ := (congrArg (fun w9 => va_P D vwCl w9 _) wZ_app).mp hP
          have hD : va_D (va_A (wD cy ad S ++ wZ X i j (a, .inr (2, [.ref b, .long den])) (b, .inl (cy 2, 4, .inr (.inl sums)))) sz) (wZ (wD cy ad S ++ X) (43 + i) (43 + j) (a, .inr (2, [.ref b, .long (dSc S)])) (b, .inl (cy 2, 4, .inr (.inl q)))) := (congrArg (va_D (va_A (wD cy ad S ++ wZ X i j (a, .inr (2, [.ref b, .long den])) (b, .inl (cy 2, 4, .inr (.inl sums)))) sz)) wZ_app).mp hD
          refine gCallv (ws := wZ (wD cy ad S ++ X) (43 + i) (43 + j) (a, .inr (2, [.ref b, .long (dSc S)])) (b, .inl (cy 2, 4, .inr (.inl q)))) (As := [.int (dI S 4 k), .long (kCost S k)]) (rest := []) (q0 := 43 + i) (r0 := (RX2, TX2, 2)) hx hb hml hown hts hK hP hD hS hA hl.1 (wZ_i hi') rfl (cC_increase l D cy _ hij' hi' hj' _ _ _ (dI S 4 k) (kCost S k)) (cwV 2 hts gX3_tellCosts_X2_increase rfl rfl rfl (by decide +kernel) ⟨Nat.le_of_ble_eq_true rfl, Nat.le_of_ble_eq_true rfl⟩) rfl rfl (Nat.le_of_ble_eq_true rfl) ⟨Nat.le_of_ble_eq_true rfl, Nat.le_of_ble_eq_true rfl⟩ dX3_tellCosts_37 (fun ws9 H locs e6 hP hD hS => ?_)
          rw [show ws9 = _ from e6] at hP hD
          have hP : va_P D vwCl (wD cy ad S ++ wZ X i j (a, .inr (2, [.ref b, .long (dSc S)])) (b, .inl (cy 2, 4, .inr (.inl (kInc q (dI S 4 k) (kCost S k)))))) _ := (congrArg (fun w9 => va_P D vwCl w9 _) wZ_app).mpr hP
          have hD : va_D (va_A (wD cy ad S ++ wZ X i j (a, .inr (2, [.ref b, .long den])) (b, .inl (cy 2, 4, .inr (.inl sums)))) sz) (wD cy ad S ++ wZ X i j (a, .inr (2, [.ref b, .long (dSc S)])) (b, .inl (cy 2, 4, .inr (.inl (kInc q (dI S 4 k) (kCost S k)))))) := (congrArg (va_D (va_A (wD cy ad S ++ wZ X i j (a, .inr (2, [.ref b, .long den])) (b, .inl (cy 2, 4, .inr (.inl sums)))) sz)) wZ_app).mpr hD
          refine lv_iinc (v := nI (k + 1)) (lv' := [(2, .int (nI (k + 1))), (0, .ref (ad 0)), (1, .ref a)]) hx hb dX3_tellCosts_40 hl (k := 0) rfl (nI_1 _) (by decide) rfl (fun ls hl => ?_)
          refine lv_goto (tgt := 10) hx hb dX3_tellCosts_43 (by decide) ?_
          have he : (fTl S) k q = (kInc q (dI S 4 k) (kCost S k)) := by simp [fTl, c4, c3]
          rw [lpN_s, he] at hex
          exact ih ((k + 1)) (kInc q (dI S 4 k) (kCost S k)) _ _ _ (by omega) hP hD hS (lv_sub hl [0, 1, 2] rfl) hex
  refine L10 27 0 (lpN fCl 4 0 sums) _ _ _ (by omega) hP hD hS (lv_sub hl [0, 1, 2] rfl) (fun H locs ls hP hD hS hl => ?_)
  exact W.vret hx hb hr (fun t ht hW => ⟨⟨_, rfl, rfl, by rw [ht]; exact hP, va_K.moved hW.alike hK, hD⟩, hS.F ht⟩) hS.2.2 dX3_tellCosts_46
