/-! p1: the class, save -/
theorem set_self {ws : va_W} {j : Nat} {x : Nat × va_E} (h : ws[j]? = some x) : ws.set j x = ws := by
  apply List.ext_getElem?
  intro i
  rw [List.getElem?_set]
  by_cases hj : j = i
  · subst hj
    rw [if_pos rfl, if_pos (List.getElem?_eq_some_iff.mp h).1, h]
  · rw [if_neg hj]
theorem va_up_none {k : Nat} : va_up (fun _ => (none : Option Nat)) k none = fun _ => none := by
  funext j
  unfold va_up
  split <;> rfl
theorem wY {W L : va_W} {i : Nat} {e : Nat × va_E} (h : W[i]? = some e) : (W ++ L)[i]? = some e := by
  rw [List.getElem?_append_left (List.getElem?_eq_some_iff.mp h).1]
  exact h
theorem wYr {W L : va_W} {n k : Nat} (hn : W.length = n) : (W ++ L)[n + k]? = L[k]? := by
  rw [List.getElem?_append_right (by omega), hn, show n + k - n = k by omega]
theorem wI_end {W N : va_W} {x y : Nat × va_E} {n : Nat} (hn : W.length = n) : wI (W ++ [x]) n y N = W ++ (y :: N) := by
  unfold wI
  rw [List.append_assoc, List.set_append_right _ _ (by omega), hn, Nat.sub_self]
  rfl
theorem set_l {W L : va_W} {i : Nat} {x e : Nat × va_E} (h : W[i]? = some e) : (W ++ L).set i x = W.set i x ++ L := List.set_append_left _ _ (List.getElem?_eq_some_iff.mp h).1
theorem set_n {W : va_W} {i k : Nat} {x : Nat × va_E} (h : i ≠ k) : (W.set i x)[k]? = W[k]? := List.getElem?_set_ne h
set_option maxHeartbeats 4000000 in
set_option maxRecDepth 100000 in
theorem cY_putN (l : Launch) (D : va_G) (cy : Nat → ClassId) (ws : va_W) (sz : Nat) {i j a b k : Nat} (hk : k < 14) (hi : ws[i]? = some (a, .inr (5, [.ref b]))) (hj : ws[j]? = some (b, .inl (cy 5, 14, .inr (.inr (.inr (.inr (fun _ => none))))))) : Met l yX5_put wsX5_put (rm9 0 0) (gPc D cy ws sz [.ref a, .int (nI k), .null]) (gQv D cy ws sz (fun ws' => ws' = ws)) 0 0 (va_A ws sz) := by
  refine gHead (cc := cX5_put) (maxL := 3) (ret := none) (by decide) rfl (Nat.le_of_ble_eq_true rfl) ?_
  intro p e s m below meth c ls hx hb hr hlocks hml hown hts hsz hP hK hD hS hA hl
  have hinX5 : ∀ w ∈ u_ws RX5 TX5 1, w ∈ wsX5_put := by decide +kernel
  have hown : s.vm.findClass RX5 = some m.cls := hown
  have hl : lv_has ls 3 [(0, .ref a), (1, .int (nI k)), (2, .null)] := hl
  refine lv_iload_n hx hb dX5_put_0 rfl (lv_at hl 1 rfl) ?_
  refine lv_if_lt (tgt := 17) hx hb dX5_put_1 (by decide) (fun c1 => ?_) (fun c1 => ?_)
  · exact absurd c1 (nI_pos (by omega))
  · skip
    refine lv_iload_n hx hb dX5_put_4 rfl (lv_at hl 1 rfl) ?_
    refine lv_bipush (v := nI 14) hx hb dX5_put_5 (by decide) ?_
    refine lv_icmp_ge (tgt := 17) hx hb dX5_put_7 (by decide) (fun c2 => ?_) (fun c2 => ?_)
    · exact absurd c2 (by rw [nI_leI (by omega) (by omega)]; omega)
    · rw [nI_leI (by omega) (by omega)] at c2
      refine lv_aload_n hx hb dX5_put_10 rfl (lv_at hl 0 rfl) ?_
      refine va_get (v := .ref b) (ci := 5) (C := RX5) (T := TX5) (N := 1) hx hb hts hinX5 hown hK hP _ (hi) rfl 0 (by decide) (hts (.fieldLink RX5 11 "LayoutSolver$Layout" "places" "[LLayoutSolver$Constraint;") (by decide +kernel)) (fun x h => h) rfl dX5_put_11 ?_
      refine lv_iload_n hx hb dX5_put_14 rfl (lv_at hl 1 rfl) ?_
      refine lv_aload_nN hx hb dX5_put_15 rfl (lv_at hl 2 rfl) ?_
      refine va_astqN (i := nI k) hx hb hK hP hD hS _ 5 hj rfl (vp_in_nI (by omega) (by decide)) dX5_put_16 (fun H locs hP hD hS => ?_)
      rw [nI_clamp (show k < 2 ^ 31 by omega), va_up_none, set_self hj] at hP hD
      exact W.vret hx hb hr (fun t ht hW => ⟨⟨_, rfl, rfl, by rw [ht]; exact hP, va_K.moved hW.alike hK, hD⟩, hS.F ht⟩) hS.2.2 dX5_put_17
set_option maxHeartbeats 4000000 in
set_option maxRecDepth 100000 in
theorem cT_save (l : Launch) (D : va_G) (cy : Nat → ClassId) (ad xa : Nat → Nat) (S : DS) (P O : CS) (sz : Nat) (x : Int32) : Met l yX8_save wsX8_save ({ frames := 2, cells := 2, slots := 15, locals := 60 } : Room) (fPc D cy (wD cy ad S ++ wX cy ad xa P O) sz [.ref (xa 0), .int x]) (gQi D cy (wD cy ad S ++ wX cy ad xa P O) sz (fun r _ => r = (if x < 0 then -2 else if x < nI 2 then nI 0 else -2))) 2 15 (va_A (wD cy ad S ++ wX cy ad xa P O) sz) := by
  refine fHead (cc := cX8_save) (maxL := 4) (ret := (some .int)) (by decide) rfl (Nat.le_of_ble_eq_true rfl) ?_
  intro p e s m below meth c ls hmn hkf hx hb hr hlocks hml hown hts hsz hP hK hD hS hA hl
  have hown : s.vm.findClass RX8 = some m.cls := hown
  have hinX8 : ∀ w ∈ u_ws RX8 TX8 11, w ∈ wsX8_save := by decide +kernel
  have hl : lv_has ls 4 [(0, .ref (xa 0)), (1, .int x)] := hl
  have hinX5 : ∀ w ∈ u_ws RX5 TX5 1, w ∈ wsX8_save := by decide +kernel
  refine lv_iload_n hx hb dX8_save_0 rfl (lv_at hl 1 rfl) ?_
  refine lv_if_lt (tgt := 9) hx hb dX8_save_1 (by decide) (fun c1 => ?_) (fun c1 => ?_)
  · skip
    refine lv_bipush (v := (-2)) hx hb dX8_save_9 (by decide) ?_
    refine W.widen (k := 2) (n := 15) (by omega) (by omega) ?_
    exact W.iret hx hb hr (fun t ht hW => ⟨⟨_, _, rfl, by simp [c1], by rw [ht]; exact hP, va_K.moved hW.alike hK, hD⟩, hS.F ht⟩) hS.2.2 dX8_save_11
  · skip
    refine lv_iload_n hx hb dX8_save_4 rfl (lv_at hl 1 rfl) ?_
    refine lv_iconst (v := nI 2) hx hb dX8_save_5 (by decide) ?_
    refine lv_icmp_lt (tgt := 12) hx hb dX8_save_6 (by decide) (fun c2 => ?_) (fun c2 => ?_)
    · skip
      obtain ⟨i0, hi0, hie⟩ := ixN 2 c1 c2 (by omega)
      rw [hie] at hl
      refine lv_aload_n hx hb dX8_save_12 rfl (lv_at hl 0 rfl) ?_
      refine va_get (v := .ref (xa 10)) (ci := 8) (C := RX8) (T := TX8) (N := 11) hx hb hts hinX8 hown hK hP 43 (wX_0) rfl 5 (by decide) (hts (.fieldLink RX8 37 "LayoutSolver" "slots" "[LLayoutSolver$Layout;") (by decide +kernel)) (fun x h => h) rfl dX8_save_13 ?_
      refine lv_iload_n hx hb dX8_save_16 rfl (lv_at hl 1 rfl) ?_
      refine va_aldq (i := nI i0) hx hb hK hP 53 6 (wX_10) rfl (vp_in_nI (by omega) (by decide)) dX8_save_17 ?_
      refine W.eq (g2 := F0 m 18 ls [.null]) rfl ?_
      refine lv_astore_nN (lv' := [(2, .null), (0, .ref (xa 0)), (1, .int (nI i0))]) hx hb dX8_save_18 rfl hl (by decide) rfl (fun ls hl => ?_)
      refine lv_aload_nN hx hb dX8_save_19 rfl (lv_at hl 0 rfl) ?_
      refine lv_ifnonnullN hx hb dX8_save_20 ?_
      refine va_new (ci := 5) (fs := [.null]) (C := RX5) (T := TX5) (N := 1) hx hb hts hinX5 tyX5 tyX5_ok hown (hts (.classLink RX8 30 RX5) (by decide +kernel)) (hts (.instantiable RX5 1) (by decide +kernel)) (hts (.initialized RX5) (by decide +kernel)) hK hP hD hS hA rfl (fun j hj => by rcases (show j = 0 by omega) with rfl; rfl) (Nat.le_of_ble_eq_true rfl) (Nat.le_of_ble_eq_true rfl) dX8_save_23 (fun qn H hP hD hS => ?_)
      refine W.widen (k := 1) (n := 1) (by omega) (by omega) ?_
      refine lv_dup hx hb dX8_save_26 rfl ?_
      refine fCallIN (host := RX8) (ws := (wD cy ad S ++ wX cy ad xa P O) ++ [(qn, .inr (5, [.null]))]) (b := qn) (As := []) (rest := [.ref qn]) (mc := 1) (ms := 14) hx hb hml hown hts hK hP hD hS hA hl.1 hkf (cI_X5 l D cy _ (i := 73) ((wYr (k := 0) wX_len2).trans rfl) _) ⟨va_cnB 0 hts gX8_save_X5_init_n32 rfl rfl rfl hkf.2.2.2.2.2.2.1 (hts (.initialized RX5) (by decide +kernel)) (by decide +kernel) ⟨Nat.le_of_ble_eq_true rfl, Nat.le_of_ble_eq_true rfl⟩, rfl, hts (.instanceMethod yX5_init) (by decide +kernel)⟩ rfl rfl (Nat.le_of_ble_eq_true rfl) ⟨Nat.le_of_ble_eq_true rfl, Nat.le_of_ble_eq_true rfl⟩ dX8_save_27 (fun ws9 H locs e9 hP hD hS => ?_)
      obtain ⟨qa, e9⟩ := e9
      rw [e9, wI_end wX_len2] at hP hD
      refine W.widen (k := 2) (n := 15) (by omega) (by omega) ?_
      have hlen := wX_len2 (cy := cy) (ad := ad) (xa := xa) (P := P) (O := O) (S := S)
      obtain ⟨W2, h43, h51, h52, h53, h73, h74, hP, hD⟩ : ∃ W2 : va_W, W2[43]? = some (xa 0, .inr (8, [.ref (xa 1), .ref (xa 2), .ref (xa 4), .ref (xa 6), .ref (xa 8), .ref (xa 10), .ref (xa 11), .ref (ad 0), .ref (xa 13), .ref (xa 15), .ref (xa 17)])) ∧ W2[51]? = some (xa 8, .inr (5, [.ref (xa 9)])) ∧ W2[52]? = some (xa 9, .inl (cy 5, 14, .inr (.inr (.inr (.inr (fun _ => none)))))) ∧ W2[53]? = some (xa 10, .inl (cy 6, 2, .inr (.inr (.inr (.inr (fun _ => none)))))) ∧ W2[73]? = some (qn, .inr (5, [.ref qa])) ∧ W2[74]? = some (qa, .inl (cy 5, 14, .inr (.inr (.inr (.inr (fun _ => none)))))) ∧ va_P D vwCl W2 H ∧ va_D (va_A (wD cy ad S ++ wX cy ad xa P O) sz) W2 := ⟨_, wY wX_0, wY wX_8, wY wX_9, wY wX_10, (wYr (k := 0) wX_len2).trans rfl, (wYr (k := 1) wX_len2).trans rfl, hP, hD⟩
      refine lv_astore_n (lv' := [(2, .ref qn), (0, .ref (xa 0)), (1, .int (nI i0))]) hx hb dX8_save_30 rfl hl (by decide) rfl (fun ls hl => ?_)
      refine lv_aload_n hx hb dX8_save_31 rfl (lv_at hl 1 rfl) ?_
      refine va_get (v := .ref (xa 10)) (ci := 8) (C := RX8) (T := TX8) (N := 11) hx hb hts hinX8 hown hK hP 43 (h43) rfl 5 (by decide) (hts (.fieldLink RX8 37 "LayoutSolver" "slots" "[LLayoutSolver$Layout;") (by decide +kernel)) (fun x h => h) rfl dX8_save_32 ?_
      refine lv_iload_n hx hb dX8_save_35 rfl (lv_at hl 2 rfl) ?_
      refine lv_aload_n hx hb dX8_save_36 rfl (lv_at hl 0 rfl) ?_
      refine va_astq (i := nI i0) hx hb hK hP hD hS 53 6 73 5 h53 rfl h73 rfl (vp_in_nI (by omega) (by decide)) dX8_save_37 (fun H locs hP hD hS => ?_)
      have h43 := (set_n (x := (xa 10, .inl (cy 6, 2, .inr (.inr (.inr (.inr (va_up (fun _ => none) (nI i0).toNatClampNeg (some qn)))))))) (show 53 ≠ 43 by decide)).trans h43
      have h51 := (set_n (x := (xa 10, .inl (cy 6, 2, .inr (.inr (.inr (.inr (va_up (fun _ => none) (nI i0).toNatClampNeg (some qn)))))))) (show 53 ≠ 51 by decide)).trans h51
      have h52 := (set_n (x := (xa 10, .inl (cy 6, 2, .inr (.inr (.inr (.inr (va_up (fun _ => none) (nI i0).toNatClampNeg (some qn)))))))) (show 53 ≠ 52 by decide)).trans h52
      have h73 := (set_n (x := (xa 10, .inl (cy 6, 2, .inr (.inr (.inr (.inr (va_up (fun _ => none) (nI i0).toNatClampNeg (some qn)))))))) (show 53 ≠ 73 by decide)).trans h73
      have h74 := (set_n (x := (xa 10, .inl (cy 6, 2, .inr (.inr (.inr (.inr (va_up (fun _ => none) (nI i0).toNatClampNeg (some qn)))))))) (show 53 ≠ 74 by decide)).trans h74
      generalize hW3 : W2.set 53 (xa 10, .inl (cy 6, 2, .inr (.inr (.inr (.inr (va_up (fun _ => none) (nI i0).toNatClampNeg (some qn))))))) = W3 at hP hD h43 h51 h52 h73 h74
      refine lv_iconst (v := nI 0) hx hb dX8_save_38 (by decide) ?_
      refine lv_istore_n (lv' := [(3, .int (nI 0)), (2, .ref qn), (0, .ref (xa 0)), (1, .int (nI i0))]) hx hb dX8_save_39 rfl hl (by decide) rfl (fun ls hl => ?_)
      have L40 : ∀ (n k : Nat) (q : Unit) (H : Heap) (locs : List Loc) (ls : Array Slot), k + n = 14 → va_P D vwCl (W3) H → va_D (va_A (wD cy ad S ++ wX cy ad xa P O) sz) (W3) → va_S (va_A (wD cy ad S ++ wX cy ad xa P O) sz) s.heap H locs → lv_has ls 4 [(3, .int (nI k)), (0, .ref (xa 0)), (1, .int (nI i0)), (2, .ref qn)] → (∀ (H : Heap) (locs : List Loc) (ls : Array Slot), va_P D vwCl (W3) H → va_D (va_A (wD cy ad S ++ wX cy ad xa P O) sz) (W3) → va_S (va_A (wD cy ad S ++ wX cy ad xa P O) sz) s.heap H locs → lv_has ls 4 [(3, .int (nI 14)), (0, .ref (xa 0)), (1, .int (nI i0)), (2, .ref qn)] → W p l e (headSpec wsX8_save ({ frames := 2, cells := 2, slots := 15, locals := 60 } : Room)).room s m ([.ref (xa 0), .int x] : List Value).toArray below meth c H locs 2 15 (MQ below (gQi D cy (wD cy ad S ++ wX cy ad xa P O) sz (fun r _ => r = (if x < 0 then -2 else if x < nI 2 then nI 0 else -2))) ([.ref (xa 0), .int x] : List Value).toArray s 2 15 (va_A (wD cy ad S ++ wX cy ad xa P O) sz)) (F0 m 65 ls [])) → W p l e (headSpec wsX8_save ({ frames := 2, cells := 2, slots := 15, locals := 60 } : Room)).room s m ([.ref (xa 0), .int x] : List Value).toArray below meth c H locs 2 15 (MQ below (gQi D cy (wD cy ad S ++ wX cy ad xa P O) sz (fun r _ => r = (if x < 0 then -2 else if x < nI 2 then nI 0 else -2))) ([.ref (xa 0), .int x] : List Value).toArray s 2 15 (va_A (wD cy ad S ++ wX cy ad xa P O) sz)) (F0 m 40 ls []) := by
        intro n
        induction n with
        | zero =>
          intro k q H locs ls hk hP hD hS hl hex
          obtain rfl : 14 = k := by omega
          refine lv_iload_n hx hb dX8_save_40 rfl (lv_at hl 0 rfl) ?_
          refine lv_bipush (v := nI 14) hx hb dX8_save_41 (by decide) ?_
          refine lv_icmp_ge (tgt := 65) hx hb dX8_save_43 (by decide) (fun c3 => ?_) (fun c3 => ?_)
          · rw [nI_leI (by omega) (by omega)] at c3
            exact hex _ _ _ hP hD hS (lv_sub hl [0, 1, 2, 3] rfl)
          · exact absurd c3 (by rw [nI_leI (by omega) (by omega)]; omega)
        | succ n ih =>
          intro k q H locs ls hk hP hD hS hl hex
          have hk40 : k < 14 := by omega
          refine lv_iload_n hx hb dX8_save_40 rfl (lv_at hl 0 rfl) ?_
          refine lv_bipush (v := nI 14) hx hb dX8_save_41 (by decide) ?_
          refine lv_icmp_ge (tgt := 65) hx hb dX8_save_43 (by decide) (fun c4 => ?_) (fun c4 => ?_)
          · exact absurd c4 (by rw [nI_leI (by omega) (by omega)]; omega)
          · rw [nI_leI (by omega) (by omega)] at c4
            refine lv_aload_n hx hb dX8_save_46 rfl (lv_at hl 3 rfl) ?_
            refine lv_iload_n hx hb dX8_save_47 rfl (lv_at hl 0 rfl) ?_
            refine lv_aload_n hx hb dX8_save_48 rfl (lv_at hl 1 rfl) ?_
            refine va_get (v := .ref (xa 8)) (ci := 8) (C := RX8) (T := TX8) (N := 11) hx hb hts hinX8 hown hK hP 43 (h43) rfl 4 (by decide) (hts (.fieldLink RX8 33 "LayoutSolver" "layout" "LLayoutSolver$Layout;") (by decide +kernel)) (fun x h => h) rfl dX8_save_49 ?_
            refine lv_iload_n hx hb dX8_save_52 rfl (lv_at hl 0 rfl) ?_
            refine gCallq (ws := W3) (As := [.int (nI k)]) (rest := [.int (nI k), .ref qn]) (q0 := 51) (r0 := (RX5, TX5, 1)) hx hb hml hown hts hK hP hD hS hA hl.1 h51 rfl (cY_at l D cy _ _ (nI k) h51 h52) (cwV 1 hts gX8_save_X5_at rfl rfl rfl (by decide +kernel) ⟨Nat.le_of_ble_eq_true rfl, Nat.le_of_ble_eq_true rfl⟩) rfl rfl (Nat.le_of_ble_eq_true rfl) ⟨Nat.le_of_ble_eq_true rfl, Nat.le_of_ble_eq_true rfl⟩ dX8_save_53 (fun r5 ws5 H locs e5 hP hD hS => ?_)
            obtain ⟨e5a, e5b⟩ := e5
            rw [e5b] at hP hD
            rw [show r5 = none from e5a.trans kAtL_none]
            refine W.eq (g2 := F0 m 56 ls [.null, .int (nI k), .ref qn]) rfl ?_
            refine gCallv (ws := W3) (As := [.int (nI k), .null]) (rest := []) (q0 := 73) (r0 := (RX5, TX5, 1)) hx hb hml hown hts hK hP hD hS hA hl.1 h73 rfl (cY_putN l D cy _ _ (k := k) (by omega) h73 h74) (cwV 2 hts gX8_save_X5_put rfl rfl rfl (by decide +kernel) ⟨Nat.le_of_ble_eq_true rfl, Nat.le_of_ble_eq_true rfl⟩) rfl rfl (Nat.le_of_ble_eq_true rfl) ⟨Nat.le_of_ble_eq_true rfl, Nat.le_of_ble_eq_true rfl⟩ dX8_save_56 (fun ws6 H locs e6 hP hD hS => ?_)
            rw [show ws6 = W3 from e6] at hP hD
            refine lv_iinc (v := nI (k + 1)) (lv' := [(3, .int (nI (k + 1))), (0, .ref (xa 0)), (1, .int (nI i0)), (2, .ref qn)]) hx hb dX8_save_59 hl (k := 0) rfl (nI_1 _) (by decide) rfl (fun ls hl => ?_)
            refine lv_goto (tgt := 40) hx hb dX8_save_62 (by decide) ?_
            exact ih ((k + 1)) () _ _ _ (by omega) hP hD hS (lv_sub hl [0, 1, 2, 3] rfl) hex
      refine L40 14 0 () _ _ _ (by omega) hP hD hS (lv_sub hl [0, 2, 3, 1] rfl) (fun H locs ls hP hD hS hl => ?_)
      refine lv_aload_n hx hb dX8_save_65 rfl (lv_at hl 3 rfl) ?_
      refine gCalli (ws := W3) (As := []) (rest := []) (q0 := 73) (r0 := (RX5, TX5, 1)) hx hb hml hown hts hK hP hD hS hA hl.1 h73 rfl (cY_size0 l D cy _ _ kMask_none h73 h74) (cwV 0 hts gX8_save_X5_size rfl rfl rfl (by decide +kernel) ⟨Nat.le_of_ble_eq_true rfl, Nat.le_of_ble_eq_true rfl⟩) rfl rfl (Nat.le_of_ble_eq_true rfl) ⟨Nat.le_of_ble_eq_true rfl, Nat.le_of_ble_eq_true rfl⟩ dX8_save_66 (fun r7 ws7 H locs e7 hP hD hS => ?_)
      obtain ⟨e7a, e7b⟩ := e7
      rw [e7a]
      exact W.iret hx hb hr (fun t ht hW => ⟨⟨_, _, rfl, by rw [if_neg c1, if_pos c2], by rw [ht]; exact hP, va_K.moved hW.alike hK, hD⟩, hS.F ht⟩) hS.2.2 dX8_save_69
    · skip
      refine lv_bipush (v := (-2)) hx hb dX8_save_9 (by decide) ?_
      refine W.widen (k := 2) (n := 15) (by omega) (by omega) ?_
      exact W.iret hx hb hr (fun t ht hW => ⟨⟨_, _, rfl, by simp [c1, c2], by rw [ht]; exact hP, va_K.moved hW.alike hK, hD⟩, hS.F ht⟩) hS.2.2 dX8_save_11
