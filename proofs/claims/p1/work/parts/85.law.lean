theorem lc_self {x : Int64} : lg_cmp x x = 0 := by unfold lg_cmp; simp
set_option maxHeartbeats 16000000 in
set_option maxRecDepth 100000 in
theorem whole_start {p : Program} {e : Env} {s : State} {m : MethodId} {below : List Frame} {meth : Method} {c : Code} (l : Launch) (hflags : l.flags = flags0) {b L : Nat} {xs : Nat → Int32} (hL : L ≤ 5) (C0 : lw_At p s m meth c b L xs) : W p l e room_1 s m #[Value.ref b] below meth c s.heap [] 0 0 (lw_Z below #[Value.ref b] s) (entryFrame m ([Value.ref b] : List Value).toArray 4) := by
  obtain ⟨hx, hb, hr, hml, hown, hts, hX, hbl, hlocks, hgv⟩ := id C0
  have hA : ∀ q : Nat, s.heap.size ≤ q → (fun q : Nat => s.heap.size ≤ q) q := fun _ h => h
  have hbA : ¬ (fun q : Nat => s.heap.size ≤ q) b := Nat.not_le.mpr hbl
  obtain ⟨D, cy, hK⟩ := ka_K hts
  have hkf := ka_F hts
  have htw : ∀ w ∈ wsL_law, w.before #[Value.ref b] s = true := fun w h => hts w (wsL_law_in w h)
  have hS : va_S (fun q : Nat => s.heap.size ≤ q) s.heap s.heap [] := va_S.rf
  have hP : va_P D vwCl [] s.heap := fun k q h => by simp at h
  have hD : va_D (fun q : Nat => s.heap.size ≤ q) [] := ⟨fun i j p q h => by simp at h, fun k q h => by simp at h⟩
  have hl := lv_entry ([.ref b]) (n := 4) (Nat.le_of_ble_eq_true rfl)
  rw [lg_entry_eq]
  generalize (lg_sl ([.ref b]) ++ List.replicate (4 - (lg_sl ([.ref b])).length) Slot.unset).toArray = ls at hl ⊢
  have hl : lv_has ls 4 [(0, .ref b)] := hl
  have hown : s.vm.findClass RL = some m.cls := hown
  refine va_new (ci := 8) (fs := [.null, .null, .null, .null, .null, .null, .null, .null, .null, .null, .null]) (C := RX8) (T := TX8) (N := 11) hx hb htw inlX8 tyX8 tyX8_ok hown (htw (.classLink RL 7 RX8) (by decide +kernel)) (htw (.instantiable RX8 11) (by decide +kernel)) (htw (.initialized RX8) (by decide +kernel)) hK hP hD hS hA rfl (fun j hj => by rcases (show j = 0 ∨ j = 1 ∨ j = 2 ∨ j = 3 ∨ j = 4 ∨ j = 5 ∨ j = 6 ∨ j = 7 ∨ j = 8 ∨ j = 9 ∨ j = 10 by omega) with rfl | rfl | rfl | rfl | rfl | rfl | rfl | rfl | rfl | rfl | rfl <;> rfl) (Nat.le_of_ble_eq_true rfl) (Nat.le_of_ble_eq_true rfl) dL_law_0 (fun q8 H hP hD hS => ?_)
  have hP : va_P D vwCl [(q8, .inr (8, [.null, .null, .null, .null, .null, .null, .null, .null, .null, .null, .null]))] H := hP
  have hD : va_D (fun q : Nat => s.heap.size ≤ q) [(q8, .inr (8, [.null, .null, .null, .null, .null, .null, .null, .null, .null, .null, .null]))] := hD
  refine W.widen (k := 1) (n := 11) (by omega) (by omega) ?_
  refine lv_dup hx hb dL_law_3 rfl ?_
  refine fCallI (ws := [(q8, .inr (8, [.null, .null, .null, .null, .null, .null, .null, .null, .null, .null, .null]))]) (b := q8) (As := []) (rest := [.ref q8]) (mc := 72) (ms := 687) hx hb hml hown htw hK hP hD hS hA hl.1 hkf (cI_X8 l D cy q8 _) (cwI 0 htw gL_law_X8_init rfl rfl rfl (htw (.initialized RX8) (by decide +kernel)) (htw (.methodLink RL 9 yX8_init) (by decide +kernel)) (htw (.instanceMethod yX8_init) (by decide +kernel)) rfl (by decide +kernel) ⟨Nat.le_of_ble_eq_true rfl, Nat.le_of_ble_eq_true rfl⟩) rfl rfl (Nat.le_of_ble_eq_true rfl) ⟨Nat.le_of_ble_eq_true rfl, Nat.le_of_ble_eq_true rfl⟩ dL_law_4 (fun ws9 H locs e9 hP hD hS => ?_)
  obtain ⟨adx, xax, hx0, e9⟩ := e9
  rw [e9] at hP hD
  rw [← hx0]
  refine W.widen (k := 73) (n := 698) (by omega) (by omega) ?_
  refine lv_astore_n (lv' := [(1, .ref (xax 0)), (0, .ref b)]) hx hb dL_law_7 rfl hl (by decide) rfl (fun ls hl => ?_)
  refine va_new (ci := 9) (fs := [.null, .null, .null, .null, .null, .int (nI 0), .null, .null, .null, .int (nI 0), .int (nI 0), .null, .null, .null, .int (nI 0), .int (nI 0), .long 0, .null, .int (nI 0), .null, .null, .long 0, .long 0, .null, .null, .int (nI 0), .int (nI 0), .int (nI 0), .int (nI 0), .int (nI 0), .int (nI 0), .null, .int (nI 0), .null, .null, .null]) (C := RX9) (T := TX9) (N := 36) hx hb htw inlX9 tyX9 tyX9_ok hown (htw (.classLink RL 10 RX9) (by decide +kernel)) (htw (.instantiable RX9 36) (by decide +kernel)) (htw (.initialized RX9) (by decide +kernel)) hK hP hD hS hA rfl (fun j hj => by rcases (show j = 0 ∨ j = 1 ∨ j = 2 ∨ j = 3 ∨ j = 4 ∨ j = 5 ∨ j = 6 ∨ j = 7 ∨ j = 8 ∨ j = 9 ∨ j = 10 ∨ j = 11 ∨ j = 12 ∨ j = 13 ∨ j = 14 ∨ j = 15 ∨ j = 16 ∨ j = 17 ∨ j = 18 ∨ j = 19 ∨ j = 20 ∨ j = 21 ∨ j = 22 ∨ j = 23 ∨ j = 24 ∨ j = 25 ∨ j = 26 ∨ j = 27 ∨ j = 28 ∨ j = 29 ∨ j = 30 ∨ j = 31 ∨ j = 32 ∨ j = 33 ∨ j = 34 ∨ j = 35 by omega) with rfl | rfl | rfl | rfl | rfl | rfl | rfl | rfl | rfl | rfl | rfl | rfl | rfl | rfl | rfl | rfl | rfl | rfl | rfl | rfl | rfl | rfl | rfl | rfl | rfl | rfl | rfl | rfl | rfl | rfl | rfl | rfl | rfl | rfl | rfl | rfl <;> rfl) (Nat.le_of_ble_eq_true rfl) (Nat.le_of_ble_eq_true rfl) dL_law_8 (fun q9 H hP hD hS => ?_)
  refine W.widen (k := 74) (n := 734) (by omega) (by omega) ?_
  refine lv_dup hx hb dL_law_11 rfl ?_
  have hFc := frF hD hS hA
  refine va_callv (va_runI (As := []) (rest := [.ref q9]) ⟨hx, hb, hml, hown, htw⟩ (cI_X9 l D cy q9 _) (cwI 0 htw gL_law_X9_init rfl rfl rfl (htw (.initialized RX9) (by decide +kernel)) (htw (.methodLink RL 12 yX9_init) (by decide +kernel)) (htw (.instanceMethod yX9_init) (by decide +kernel)) rfl (by decide +kernel) ⟨Nat.le_of_ble_eq_true rfl, Nat.le_of_ble_eq_true rfl⟩) ⟨fBlind, fun U hU hW => ⟨rfl, by rw [hU], by rw [hU]; exact va_right hP, va_K.moved hW.alike hK, (va_rightD hD).weaken (fun _ _ _ _ => trivial), kF.warm hW hkf⟩⟩ rfl rfl hl.1 rfl (lv_room (Nat.le_of_ble_eq_true rfl)) dL_law_12 ⟨Nat.le_of_ble_eq_true rfl, Nat.le_of_ble_eq_true rfl⟩) hS (fun q _ h => hFc q h) hFc (fun u t H1 locs ht hvm hw hB hz1 hk1 hS => ?_)
  obtain ⟨ad9, h90, hw2⟩ := hw
  obtain ⟨hP1, hK1, hD1⟩ := hB
  rw [ht, hw2] at hP1
  rw [hw2] at hD1
  obtain ⟨hP, hD⟩ := va_frame2 hP hD hk1 hFc hP1 hD1
  generalize H1 = H at hP hS ⊢
  have hP : va_P D vwCl ((wM cy ad9 SM0 ++ []) ++ (wD cy adx SD0 ++ wX cy adx xax (fun _ => 0, 1) (fun _ => 0, 1))) H := by rw [List.append_nil]; exact va_P.swap (a := []) hP
  have hD : va_D (fun q : Nat => s.heap.size ≤ q) ((wM cy ad9 SM0 ++ []) ++ (wD cy adx SD0 ++ wX cy adx xax (fun _ => 0, 1) (fun _ => 0, 1))) := by rw [List.append_nil]; exact va_D.swap (a := []) hD
  rw [← h90]
  refine W.widen (k := 94) (n := 2709) (by omega) (by omega) ?_
  refine lv_astore_n (lv' := [(2, .ref (ad9 0)), (1, .ref (xax 0)), (0, .ref b)]) hx hb dL_law_15 rfl hl (by decide) rfl (fun ls hl => ?_)
  refine lv_iconst (v := nI 0) hx hb dL_law_16 (by decide) ?_
  refine lv_istore_n (lv' := [(3, .int (nI 0)), (2, .ref (ad9 0)), (1, .ref (xax 0)), (0, .ref b)]) hx hb dL_law_17 rfl hl (by decide) rfl (fun ls hl => ?_)
  have Lend : ∀ (H : Heap) (locs : List Loc) (ls : Array Slot), va_S (fun q : Nat => s.heap.size ≤ q) s.heap H locs → W p l e room_1 s m #[Value.ref b] below meth c H locs 96 2724 (lw_Z below #[Value.ref b] s) (F0 m 1020 ls []) := by
    intro H locs ls hS
    refine lv_iconst (v := 1) hx hb dL_law_1020 (by decide) ?_
    refine va_forget (fun q hq => hS.2.2 q hq) ?_
    refine W.widen (k := 600000) (n := 7302250) (Nat.le_of_ble_eq_true rfl) (Nat.le_of_ble_eq_true rfl) ?_
    exact lw_ret hx hb hr hlocks dL_law_1021
  have Lhead : ∀ (i : Int32) (H : Heap) (locs : List Loc) (ls : Array Slot), Int32.ofNat L - nI 5 < i → va_S (fun q : Nat => s.heap.size ≤ q) s.heap H locs → lv_has ls 4 [(3, .int i), (2, .ref (ad9 0)), (1, .ref (xax 0)), (0, .ref b)] → W p l e room_1 s m #[Value.ref b] below meth c H locs 96 2724 (lw_Z below #[Value.ref b] s) (F0 m 18 ls []) := by
    intro i H locs ls hi hS hl
    refine lv_iload_n hx hb dL_law_18 rfl (lv_at hl 0 rfl) ?_
    refine lv_aload_n hx hb dL_law_19 rfl (lv_at hl 3 rfl) ?_
    refine va_slen hx hb hX hbl hbA hS dL_law_20 ?_
    refine lv_iconst (v := nI 5) hx hb dL_law_21 (by decide) ?_
    refine lv_isub hx hb dL_law_22 ?_
    refine lv_icmp_gt (tgt := 1020) hx hb dL_law_23 (by decide) (fun c9 => Lend _ _ _ hS) (fun c9 => absurd hi c9)
  have L1014 : L = 5 → ∀ (H : Heap) (locs : List Loc) (ls : Array Slot), va_S (fun q : Nat => s.heap.size ≤ q) s.heap H locs → lv_has ls 4 [(3, .int (nI 0)), (2, .ref (ad9 0)), (1, .ref (xax 0)), (0, .ref b)] → W p l e room_1 s m #[Value.ref b] below meth c H locs 96 2724 (lw_Z below #[Value.ref b] s) (F0 m 1014 ls []) := by
    intro h5 H locs ls hS hl
    refine lv_iinc (v := nI 5) (lv' := [(3, .int (nI 5)), (2, .ref (ad9 0)), (1, .ref (xax 0)), (0, .ref b)]) hx hb dL_law_1014 hl (k := 0) rfl (by decide) (by decide) rfl (fun ls hl => ?_)
    refine lv_goto (tgt := 18) hx hb dL_law_1017 (by decide) ?_
    exact Lhead _ _ _ _ (by rw [h5]; decide) hS hl
  by_cases h5 : L = 5
  · subst h5
    refine lv_iload_n hx hb dL_law_18 rfl (lv_at hl 0 rfl) ?_
    refine lv_aload_n hx hb dL_law_19 rfl (lv_at hl 3 rfl) ?_
    refine va_slen hx hb hX hbl hbA hS dL_law_20 ?_
    refine lv_iconst (v := nI 5) hx hb dL_law_21 (by decide) ?_
    refine lv_isub hx hb dL_law_22 ?_
    refine lv_icmp_gt (tgt := 1020) hx hb dL_law_23 (by decide) (fun c9 => absurd c9 (by decide)) (fun c9 => ?_)
    refine lv_aload_n hx hb dL_law_26 rfl (lv_at hl 3 rfl) ?_
    refine lv_iload_n hx hb dL_law_27 rfl (lv_at hl 0 rfl) ?_
    refine va_sld hx hb hX hbl hbA hS (i := nI 0) (vp_in_nI (by omega) (by decide)) dL_law_28 ?_
    rw [show (nI 0).toNatClampNeg = 0 from by decide]
    refine lv_bipush (v := nI 31) hx hb dL_law_29 (by decide) ?_
    refine lv_iand hx hb dL_law_31 ?_
    by_cases t1 : ((xs 0) &&& (nI 31)).toInt < 0
    · refine lv_tableOut (tgt := 1014) hx hb dL_law_32 (Or.inl t1) (by decide) ?_
      refine W.widen (k := 96) (n := 2724) (by omega) (by omega) ?_
      exact L1014 rfl _ _ _ hS (lv_sub hl [0, 1, 2, 3] rfl)
    by_cases t2 : (29 : Int) < ((xs 0) &&& (nI 31)).toInt
    · refine lv_tableOut (tgt := 1014) hx hb dL_law_32 (Or.inr t2) (by decide) ?_
      refine W.widen (k := 96) (n := 2724) (by omega) (by omega) ?_
      exact L1014 rfl _ _ _ hS (lv_sub hl [0, 1, 2, 3] rfl)
    have z3 : ((xs 0) &&& (nI 31)).toInt = 0 ∨ ((xs 0) &&& (nI 31)).toInt = 1 ∨ ((xs 0) &&& (nI 31)).toInt = 2 ∨ ((xs 0) &&& (nI 31)).toInt = 3 ∨ ((xs 0) &&& (nI 31)).toInt = 4 ∨ ((xs 0) &&& (nI 31)).toInt = 5 ∨ ((xs 0) &&& (nI 31)).toInt = 6 ∨ ((xs 0) &&& (nI 31)).toInt = 7 ∨ ((xs 0) &&& (nI 31)).toInt = 8 ∨ ((xs 0) &&& (nI 31)).toInt = 9 ∨ ((xs 0) &&& (nI 31)).toInt = 10 ∨ ((xs 0) &&& (nI 31)).toInt = 11 ∨ ((xs 0) &&& (nI 31)).toInt = 12 ∨ ((xs 0) &&& (nI 31)).toInt = 13 ∨ ((xs 0) &&& (nI 31)).toInt = 14 ∨ ((xs 0) &&& (nI 31)).toInt = 15 ∨ ((xs 0) &&& (nI 31)).toInt = 16 ∨ ((xs 0) &&& (nI 31)).toInt = 17 ∨ ((xs 0) &&& (nI 31)).toInt = 18 ∨ ((xs 0) &&& (nI 31)).toInt = 19 ∨ ((xs 0) &&& (nI 31)).toInt = 20 ∨ ((xs 0) &&& (nI 31)).toInt = 21 ∨ ((xs 0) &&& (nI 31)).toInt = 22 ∨ ((xs 0) &&& (nI 31)).toInt = 23 ∨ ((xs 0) &&& (nI 31)).toInt = 24 ∨ ((xs 0) &&& (nI 31)).toInt = 25 ∨ ((xs 0) &&& (nI 31)).toInt = 26 ∨ ((xs 0) &&& (nI 31)).toInt = 27 ∨ ((xs 0) &&& (nI 31)).toInt = 28 ∨ ((xs 0) &&& (nI 31)).toInt = 29 := by omega
    rcases z3 with z3 | z3 | z3 | z3 | z3 | z3 | z3 | z3 | z3 | z3 | z3 | z3 | z3 | z3 | z3 | z3 | z3 | z3 | z3 | z3 | z3 | z3 | z3 | z3 | z3 | z3 | z3 | z3 | z3 | z3
    · refine lv_tableIn (off := 136) (tgt := 168) hx hb dL_law_32 t1 t2 (by rw [z3]; rfl) (by decide) ?_
      refine lv_aload_n hx hb dL_law_168 rfl (lv_at hl 2 rfl) ?_
      refine lv_aload_n hx hb dL_law_169 rfl (lv_at hl 3 rfl) ?_
      refine lv_iload_n hx hb dL_law_170 rfl (lv_at hl 0 rfl) ?_
      refine lv_iconst (v := nI 1) hx hb dL_law_171 (by decide) ?_
      refine lv_iadd hx hb dL_law_172 ?_
      rw [nI_add]
      refine va_sld hx hb hX hbl hbA hS (i := nI (0 + 1)) (vp_in_nI (by omega) (by decide)) dL_law_173 ?_
      rw [show (nI (0 + 1)).toNatClampNeg = 1 from by decide]
      refine lv_aload_n hx hb dL_law_174 rfl (lv_at hl 3 rfl) ?_
      refine lv_iload_n hx hb dL_law_175 rfl (lv_at hl 0 rfl) ?_
      refine lv_iconst (v := nI 2) hx hb dL_law_176 (by decide) ?_
      refine lv_iadd hx hb dL_law_177 ?_
      rw [nI_add]
      refine va_sld hx hb hX hbl hbA hS (i := nI (0 + 2)) (vp_in_nI (by omega) (by decide)) dL_law_178 ?_
      rw [show (nI (0 + 2)).toNatClampNeg = 2 from by decide]
      refine lawXi (wm := wM cy ad9 SM0 ++ []) (wx := wD cy adx SD0 ++ wX cy adx xax (fun _ => 0, 1) (fun _ => 0, 1)) (As := [.int (xs 1), .int (xs 2)]) (rest := []) (q0 := 43) (r0 := (RX8, TX8, 11)) hx hb hml hown htw hK hP hD hS hA hl.1 wX_0 rfl gBlind (fun U hU hW => ⟨rfl, by rw [hU], by rw [hU]; exact va_right hP, va_K.moved hW.alike hK, (va_rightD hD).weaken (fun _ _ _ _ => trivial)⟩) (cT_term l D cy adx xax SD0 (fun _ => 0, 1) (fun _ => 0, 1) _ (xs 1) (xs 2)) (cwV 2 htw gL_law_X8_term rfl rfl rfl (by decide +kernel) ⟨Nat.le_of_ble_eq_true rfl, Nat.le_of_ble_eq_true rfl⟩) rfl rfl (Nat.le_of_ble_eq_true rfl) ⟨Nat.le_of_ble_eq_true rfl, Nat.le_of_ble_eq_true rfl⟩ dL_law_179 (fun r4 w4 H locs e4 hP hD hS => ?_)
      rw [show r4 = (if k_isVariable (xs 1) = 0 then -1 else if k_isWithin (xs 2) (nI 3) = 0 then -2 else nI 10) from e4]
      refine lv_aload_n hx hb dL_law_182 rfl (lv_at hl 1 rfl) ?_
      refine lv_aload_n hx hb dL_law_183 rfl (lv_at hl 3 rfl) ?_
      refine lv_iload_n hx hb dL_law_184 rfl (lv_at hl 0 rfl) ?_
      refine lv_iconst (v := nI 1) hx hb dL_law_185 (by decide) ?_
      refine lv_iadd hx hb dL_law_186 ?_
      rw [nI_add]
      refine va_sld hx hb hX hbl hbA hS (i := nI (0 + 1)) (vp_in_nI (by omega) (by decide)) dL_law_187 ?_
      rw [show (nI (0 + 1)).toNatClampNeg = 1 from by decide]
      refine lv_aload_n hx hb dL_law_188 rfl (lv_at hl 3 rfl) ?_
      refine lv_iload_n hx hb dL_law_189 rfl (lv_at hl 0 rfl) ?_
      refine lv_iconst (v := nI 2) hx hb dL_law_190 (by decide) ?_
      refine lv_iadd hx hb dL_law_191 ?_
      rw [nI_add]
      refine va_sld hx hb hX hbl hbA hS (i := nI (0 + 2)) (vp_in_nI (by omega) (by decide)) dL_law_192 ?_
      rw [show (nI (0 + 2)).toNatClampNeg = 2 from by decide]
      refine gCalli (ws := wM cy ad9 SM0 ++ []) (As := [.int (xs 1), .int (xs 2)]) (rest := [.int (if k_isVariable (xs 1) = 0 then -1 else if k_isWithin (xs 2) (nI 3) = 0 then -2 else nI 10)]) (q0 := 0) (r0 := (RX9, TX9, 36)) hx hb hml hown htw hK hP hD hS hA hl.1 wM_0 rfl (cM_term l D cy ad9 [] SM0 _ (xs 1) (xs 2)) (cwV 2 htw gL_law_X9_term rfl rfl rfl (by decide +kernel) ⟨Nat.le_of_ble_eq_true rfl, Nat.le_of_ble_eq_true rfl⟩) rfl rfl (Nat.le_of_ble_eq_true rfl) ⟨Nat.le_of_ble_eq_true rfl, Nat.le_of_ble_eq_true rfl⟩ dL_law_193 (fun r5 w5 H locs e5 hP hD hS => ?_)
      rw [show r5 = jTermR SM0 (xs 1) (xs 2) from e5.1]
      refine lv_icmp_eq (tgt := 1014) hx hb dL_law_196 (by decide) (fun c6 => ?_) (fun c6 => ?_)
      · skip
        refine W.widen (k := 96) (n := 2724) (by omega) (by omega) ?_
        exact L1014 rfl _ _ _ hS (lv_sub hl [0, 1, 2, 3] rfl)
      · skip
        exact absurd (q_term (xs 1) (xs 2)) c6
    · refine lv_tableIn (off := 169) (tgt := 201) hx hb dL_law_32 t1 t2 (by rw [z3]; rfl) (by decide) ?_
      refine lv_aload_n hx hb dL_law_201 rfl (lv_at hl 2 rfl) ?_
      refine lv_aload_n hx hb dL_law_202 rfl (lv_at hl 3 rfl) ?_
      refine lv_iload_n hx hb dL_law_203 rfl (lv_at hl 0 rfl) ?_
      refine lv_iconst (v := nI 1) hx hb dL_law_204 (by decide) ?_
      refine lv_iadd hx hb dL_law_205 ?_
      rw [nI_add]
      refine va_sld hx hb hX hbl hbA hS (i := nI (0 + 1)) (vp_in_nI (by omega) (by decide)) dL_law_206 ?_
      rw [show (nI (0 + 1)).toNatClampNeg = 1 from by decide]
      refine lv_aload_n hx hb dL_law_207 rfl (lv_at hl 3 rfl) ?_
      refine lv_iload_n hx hb dL_law_208 rfl (lv_at hl 0 rfl) ?_
      refine lv_iconst (v := nI 2) hx hb dL_law_209 (by decide) ?_
      refine lv_iadd hx hb dL_law_210 ?_
      rw [nI_add]
      refine va_sld hx hb hX hbl hbA hS (i := nI (0 + 2)) (vp_in_nI (by omega) (by decide)) dL_law_211 ?_
      rw [show (nI (0 + 2)).toNatClampNeg = 2 from by decide]
      refine lv_aload_n hx hb dL_law_212 rfl (lv_at hl 3 rfl) ?_
      refine lv_iload_n hx hb dL_law_213 rfl (lv_at hl 0 rfl) ?_
      refine lv_iconst (v := nI 3) hx hb dL_law_214 (by decide) ?_
      refine lv_iadd hx hb dL_law_215 ?_
      rw [nI_add]
      refine va_sld hx hb hX hbl hbA hS (i := nI (0 + 3)) (vp_in_nI (by omega) (by decide)) dL_law_216 ?_
      rw [show (nI (0 + 3)).toNatClampNeg = 3 from by decide]
      refine lv_aload_n hx hb dL_law_217 rfl (lv_at hl 3 rfl) ?_
      refine lv_iload_n hx hb dL_law_218 rfl (lv_at hl 0 rfl) ?_
      refine lv_iconst (v := nI 4) hx hb dL_law_219 (by decide) ?_
      refine lv_iadd hx hb dL_law_220 ?_
      rw [nI_add]
      refine va_sld hx hb hX hbl hbA hS (i := nI (0 + 4)) (vp_in_nI (by omega) (by decide)) dL_law_221 ?_
      rw [show (nI (0 + 4)).toNatClampNeg = 4 from by decide]
      refine lawXi (wm := wM cy ad9 SM0 ++ []) (wx := wD cy adx SD0 ++ wX cy adx xax (fun _ => 0, 1) (fun _ => 0, 1)) (As := [.int (xs 1), .int (xs 2), .int (xs 3), .int (xs 4)]) (rest := []) (q0 := 43) (r0 := (RX8, TX8, 11)) hx hb hml hown htw hK hP hD hS hA hl.1 wX_0 rfl gBlind (fun U hU hW => ⟨rfl, by rw [hU], by rw [hU]; exact va_right hP, va_K.moved hW.alike hK, (va_rightD hD).weaken (fun _ _ _ _ => trivial)⟩) (cT_add l D cy adx xax SD0 (fun _ => 0, 1) (fun _ => 0, 1) _ (xs 1) (xs 2) (xs 3) (xs 4)) (cwV 4 htw gL_law_X8_add rfl rfl rfl (by decide +kernel) ⟨Nat.le_of_ble_eq_true rfl, Nat.le_of_ble_eq_true rfl⟩) rfl rfl (Nat.le_of_ble_eq_true rfl) ⟨Nat.le_of_ble_eq_true rfl, Nat.le_of_ble_eq_true rfl⟩ dL_law_222 (fun r7 w7 H locs e7 hP hD hS => ?_)
      rw [show r7 = (if k_isRelation (xs 1) = 0 then -2 else if k_isWithin (xs 2) (nI 200) = 0 then -2 else if k_isStrength (xs 3) = 0 then -2 else if k_isWeight (xs 4) = 0 then -2 else -5) from e7]
      refine lv_aload_n hx hb dL_law_225 rfl (lv_at hl 1 rfl) ?_
      refine lv_aload_n hx hb dL_law_226 rfl (lv_at hl 3 rfl) ?_
      refine lv_iload_n hx hb dL_law_227 rfl (lv_at hl 0 rfl) ?_
      refine lv_iconst (v := nI 1) hx hb dL_law_228 (by decide) ?_
      refine lv_iadd hx hb dL_law_229 ?_
      rw [nI_add]
      refine va_sld hx hb hX hbl hbA hS (i := nI (0 + 1)) (vp_in_nI (by omega) (by decide)) dL_law_230 ?_
      rw [show (nI (0 + 1)).toNatClampNeg = 1 from by decide]
      refine lv_aload_n hx hb dL_law_231 rfl (lv_at hl 3 rfl) ?_
      refine lv_iload_n hx hb dL_law_232 rfl (lv_at hl 0 rfl) ?_
      refine lv_iconst (v := nI 2) hx hb dL_law_233 (by decide) ?_
      refine lv_iadd hx hb dL_law_234 ?_
      rw [nI_add]
      refine va_sld hx hb hX hbl hbA hS (i := nI (0 + 2)) (vp_in_nI (by omega) (by decide)) dL_law_235 ?_
      rw [show (nI (0 + 2)).toNatClampNeg = 2 from by decide]
      refine lv_aload_n hx hb dL_law_236 rfl (lv_at hl 3 rfl) ?_
      refine lv_iload_n hx hb dL_law_237 rfl (lv_at hl 0 rfl) ?_
      refine lv_iconst (v := nI 3) hx hb dL_law_238 (by decide) ?_
      refine lv_iadd hx hb dL_law_239 ?_
      rw [nI_add]
      refine va_sld hx hb hX hbl hbA hS (i := nI (0 + 3)) (vp_in_nI (by omega) (by decide)) dL_law_240 ?_
      rw [show (nI (0 + 3)).toNatClampNeg = 3 from by decide]
      refine lv_aload_n hx hb dL_law_241 rfl (lv_at hl 3 rfl) ?_
      refine lv_iload_n hx hb dL_law_242 rfl (lv_at hl 0 rfl) ?_
      refine lv_iconst (v := nI 4) hx hb dL_law_243 (by decide) ?_
      refine lv_iadd hx hb dL_law_244 ?_
      rw [nI_add]
      refine va_sld hx hb hX hbl hbA hS (i := nI (0 + 4)) (vp_in_nI (by omega) (by decide)) dL_law_245 ?_
      rw [show (nI (0 + 4)).toNatClampNeg = 4 from by decide]
      refine gCalli (ws := wM cy ad9 SM0 ++ []) (As := [.int (xs 1), .int (xs 2), .int (xs 3), .int (xs 4)]) (rest := [.int (if k_isRelation (xs 1) = 0 then -2 else if k_isWithin (xs 2) (nI 200) = 0 then -2 else if k_isStrength (xs 3) = 0 then -2 else if k_isWeight (xs 4) = 0 then -2 else -5)]) (q0 := 0) (r0 := (RX9, TX9, 36)) hx hb hml hown htw hK hP hD hS hA hl.1 wM_0 rfl (cN_add l D cy ad9 [] SM0 _ (fun _ _ => rfl) (xs 1) (xs 2) (xs 3) (xs 4)) (cwV 4 htw gL_law_X9_add rfl rfl rfl (by decide +kernel) ⟨Nat.le_of_ble_eq_true rfl, Nat.le_of_ble_eq_true rfl⟩) rfl rfl (Nat.le_of_ble_eq_true rfl) ⟨Nat.le_of_ble_eq_true rfl, Nat.le_of_ble_eq_true rfl⟩ dL_law_246 (fun r8 w8 H locs e8 hP hD hS => ?_)
      rw [show r8 = (if j_in (xs 1) (nI 0) (nI 2) = 0 then -2 else if j_isConstant (xs 2) = 0 then -2 else if j_isStrength (xs 3) (xs 4) = 0 then -2 else -5) from e8]
      refine lv_icmp_eq (tgt := 1014) hx hb dL_law_249 (by decide) (fun c9 => ?_) (fun c9 => ?_)
      · skip
        refine W.widen (k := 96) (n := 2724) (by omega) (by omega) ?_
        exact L1014 rfl _ _ _ hS (lv_sub hl [0, 1, 2, 3] rfl)
      · skip
        exact absurd (q_add (xs 1) (xs 2) (xs 3) (xs 4)) c9
    · refine lv_tableIn (off := 222) (tgt := 254) hx hb dL_law_32 t1 t2 (by rw [z3]; rfl) (by decide) ?_
      refine lv_aload_n hx hb dL_law_254 rfl (lv_at hl 2 rfl) ?_
      refine lv_aload_n hx hb dL_law_255 rfl (lv_at hl 3 rfl) ?_
      refine lv_iload_n hx hb dL_law_256 rfl (lv_at hl 0 rfl) ?_
      refine lv_iconst (v := nI 1) hx hb dL_law_257 (by decide) ?_
      refine lv_iadd hx hb dL_law_258 ?_
      rw [nI_add]
      refine va_sld hx hb hX hbl hbA hS (i := nI (0 + 1)) (vp_in_nI (by omega) (by decide)) dL_law_259 ?_
      rw [show (nI (0 + 1)).toNatClampNeg = 1 from by decide]
      refine lawXi (wm := wM cy ad9 SM0 ++ []) (wx := wD cy adx SD0 ++ wX cy adx xax (fun _ => 0, 1) (fun _ => 0, 1)) (As := [.int (xs 1)]) (rest := []) (q0 := 43) (r0 := (RX8, TX8, 11)) hx hb hml hown htw hK hP hD hS hA hl.1 wX_0 rfl gBlind (fun U hU hW => ⟨rfl, by rw [hU], by rw [hU]; exact va_right hP, va_K.moved hW.alike hK, (va_rightD hD).weaken (fun _ _ _ _ => trivial)⟩) (cT_remove l D cy adx xax SD0 (fun _ => 0, 1) (fun _ => 0, 1) _ (xs 1)) (cwV 1 htw gL_law_X8_remove rfl rfl rfl (by decide +kernel) ⟨Nat.le_of_ble_eq_true rfl, Nat.le_of_ble_eq_true rfl⟩) rfl rfl (Nat.le_of_ble_eq_true rfl) ⟨Nat.le_of_ble_eq_true rfl, Nat.le_of_ble_eq_true rfl⟩ dL_law_260 (fun r10 w10 H locs e10 hP hD hS => ?_)
      rw [show r10 = -1 from e10]
      refine lv_aload_n hx hb dL_law_263 rfl (lv_at hl 1 rfl) ?_
      refine lv_aload_n hx hb dL_law_264 rfl (lv_at hl 3 rfl) ?_
      refine lv_iload_n hx hb dL_law_265 rfl (lv_at hl 0 rfl) ?_
      refine lv_iconst (v := nI 1) hx hb dL_law_266 (by decide) ?_
      refine lv_iadd hx hb dL_law_267 ?_
      rw [nI_add]
      refine va_sld hx hb hX hbl hbA hS (i := nI (0 + 1)) (vp_in_nI (by omega) (by decide)) dL_law_268 ?_
      rw [show (nI (0 + 1)).toNatClampNeg = 1 from by decide]
      refine gCalli (ws := wM cy ad9 SM0 ++ []) (As := [.int (xs 1)]) (rest := [.int (-1)]) (q0 := 0) (r0 := (RX9, TX9, 36)) hx hb hml hown htw hK hP hD hS hA hl.1 wM_0 rfl (cN_remove l D cy ad9 [] SM0 _ qOne (xs 1)) (cwV 1 htw gL_law_X9_remove rfl rfl rfl (by decide +kernel) ⟨Nat.le_of_ble_eq_true rfl, Nat.le_of_ble_eq_true rfl⟩) rfl rfl (Nat.le_of_ble_eq_true rfl) ⟨Nat.le_of_ble_eq_true rfl, Nat.le_of_ble_eq_true rfl⟩ dL_law_269 (fun r11 w11 H locs e11 hP hD hS => ?_)
      rw [show r11 = -1 from e11]
      refine lv_icmp_eq (tgt := 1014) hx hb dL_law_272 (by decide) (fun c12 => ?_) (fun c12 => ?_)
      · skip
        refine W.widen (k := 96) (n := 2724) (by omega) (by omega) ?_
        exact L1014 rfl _ _ _ hS (lv_sub hl [0, 1, 2, 3] rfl)
      · skip
        exact absurd (q_remove (xs 1)) c12
    · refine lv_tableIn (off := 245) (tgt := 277) hx hb dL_law_32 t1 t2 (by rw [z3]; rfl) (by decide) ?_
      refine lv_aload_n hx hb dL_law_277 rfl (lv_at hl 2 rfl) ?_
      refine lv_aload_n hx hb dL_law_278 rfl (lv_at hl 3 rfl) ?_
      refine lv_iload_n hx hb dL_law_279 rfl (lv_at hl 0 rfl) ?_
      refine lv_iconst (v := nI 1) hx hb dL_law_280 (by decide) ?_
      refine lv_iadd hx hb dL_law_281 ?_
      rw [nI_add]
      refine va_sld hx hb hX hbl hbA hS (i := nI (0 + 1)) (vp_in_nI (by omega) (by decide)) dL_law_282 ?_
      rw [show (nI (0 + 1)).toNatClampNeg = 1 from by decide]
      refine lv_aload_n hx hb dL_law_283 rfl (lv_at hl 3 rfl) ?_
      refine lv_iload_n hx hb dL_law_284 rfl (lv_at hl 0 rfl) ?_
      refine lv_iconst (v := nI 2) hx hb dL_law_285 (by decide) ?_
      refine lv_iadd hx hb dL_law_286 ?_
      rw [nI_add]
      refine va_sld hx hb hX hbl hbA hS (i := nI (0 + 2)) (vp_in_nI (by omega) (by decide)) dL_law_287 ?_
      rw [show (nI (0 + 2)).toNatClampNeg = 2 from by decide]
      refine lawXi (wm := wM cy ad9 SM0 ++ []) (wx := wD cy adx SD0 ++ wX cy adx xax (fun _ => 0, 1) (fun _ => 0, 1)) (As := [.int (xs 1), .int (xs 2)]) (rest := []) (q0 := 43) (r0 := (RX8, TX8, 11)) hx hb hml hown htw hK hP hD hS hA hl.1 wX_0 rfl gBlind (fun U hU hW => ⟨rfl, by rw [hU], by rw [hU]; exact va_right hP, va_K.moved hW.alike hK, (va_rightD hD).weaken (fun _ _ _ _ => trivial)⟩) (cT_setConstant l D cy adx xax SD0 (fun _ => 0, 1) (fun _ => 0, 1) _ (xs 1) (xs 2)) (cwV 2 htw gL_law_X8_setConstant rfl rfl rfl (by decide +kernel) ⟨Nat.le_of_ble_eq_true rfl, Nat.le_of_ble_eq_true rfl⟩) rfl rfl (Nat.le_of_ble_eq_true rfl) ⟨Nat.le_of_ble_eq_true rfl, Nat.le_of_ble_eq_true rfl⟩ dL_law_288 (fun r13 w13 H locs e13 hP hD hS => ?_)
      rw [show r13 = -1 from e13]
      refine lv_aload_n hx hb dL_law_291 rfl (lv_at hl 1 rfl) ?_
      refine lv_aload_n hx hb dL_law_292 rfl (lv_at hl 3 rfl) ?_
      refine lv_iload_n hx hb dL_law_293 rfl (lv_at hl 0 rfl) ?_
      refine lv_iconst (v := nI 1) hx hb dL_law_294 (by decide) ?_
      refine lv_iadd hx hb dL_law_295 ?_
      rw [nI_add]
      refine va_sld hx hb hX hbl hbA hS (i := nI (0 + 1)) (vp_in_nI (by omega) (by decide)) dL_law_296 ?_
      rw [show (nI (0 + 1)).toNatClampNeg = 1 from by decide]
      refine lv_aload_n hx hb dL_law_297 rfl (lv_at hl 3 rfl) ?_
      refine lv_iload_n hx hb dL_law_298 rfl (lv_at hl 0 rfl) ?_
      refine lv_iconst (v := nI 2) hx hb dL_law_299 (by decide) ?_
      refine lv_iadd hx hb dL_law_300 ?_
      rw [nI_add]
      refine va_sld hx hb hX hbl hbA hS (i := nI (0 + 2)) (vp_in_nI (by omega) (by decide)) dL_law_301 ?_
      rw [show (nI (0 + 2)).toNatClampNeg = 2 from by decide]
      refine gCalli (ws := wM cy ad9 SM0 ++ []) (As := [.int (xs 1), .int (xs 2)]) (rest := [.int (-1)]) (q0 := 0) (r0 := (RX9, TX9, 36)) hx hb hml hown htw hK hP hD hS hA hl.1 wM_0 rfl (cN_setConstant l D cy ad9 [] SM0 _ qOne (xs 1) (xs 2)) (cwV 2 htw gL_law_X9_setConstant rfl rfl rfl (by decide +kernel) ⟨Nat.le_of_ble_eq_true rfl, Nat.le_of_ble_eq_true rfl⟩) rfl rfl (Nat.le_of_ble_eq_true rfl) ⟨Nat.le_of_ble_eq_true rfl, Nat.le_of_ble_eq_true rfl⟩ dL_law_302 (fun r14 w14 H locs e14 hP hD hS => ?_)
      rw [show r14 = -1 from e14]
      refine lv_icmp_eq (tgt := 1014) hx hb dL_law_305 (by decide) (fun c15 => ?_) (fun c15 => ?_)
      · skip
        refine W.widen (k := 96) (n := 2724) (by omega) (by omega) ?_
        exact L1014 rfl _ _ _ hS (lv_sub hl [0, 1, 2, 3] rfl)
      · skip
        exact absurd (q_setConstant (xs 1) (xs 2)) c15
    · refine lv_tableIn (off := 278) (tgt := 310) hx hb dL_law_32 t1 t2 (by rw [z3]; rfl) (by decide) ?_
      refine lv_aload_n hx hb dL_law_310 rfl (lv_at hl 2 rfl) ?_
      refine lv_aload_n hx hb dL_law_311 rfl (lv_at hl 3 rfl) ?_
      refine lv_iload_n hx hb dL_law_312 rfl (lv_at hl 0 rfl) ?_
      refine lv_iconst (v := nI 1) hx hb dL_law_313 (by decide) ?_
      refine lv_iadd hx hb dL_law_314 ?_
      rw [nI_add]
      refine va_sld hx hb hX hbl hbA hS (i := nI (0 + 1)) (vp_in_nI (by omega) (by decide)) dL_law_315 ?_
      rw [show (nI (0 + 1)).toNatClampNeg = 1 from by decide]
      refine lv_aload_n hx hb dL_law_316 rfl (lv_at hl 3 rfl) ?_
      refine lv_iload_n hx hb dL_law_317 rfl (lv_at hl 0 rfl) ?_
      refine lv_iconst (v := nI 2) hx hb dL_law_318 (by decide) ?_
      refine lv_iadd hx hb dL_law_319 ?_
      rw [nI_add]
      refine va_sld hx hb hX hbl hbA hS (i := nI (0 + 2)) (vp_in_nI (by omega) (by decide)) dL_law_320 ?_
      rw [show (nI (0 + 2)).toNatClampNeg = 2 from by decide]
      refine lv_aload_n hx hb dL_law_321 rfl (lv_at hl 3 rfl) ?_
      refine lv_iload_n hx hb dL_law_322 rfl (lv_at hl 0 rfl) ?_
      refine lv_iconst (v := nI 3) hx hb dL_law_323 (by decide) ?_
      refine lv_iadd hx hb dL_law_324 ?_
      rw [nI_add]
      refine va_sld hx hb hX hbl hbA hS (i := nI (0 + 3)) (vp_in_nI (by omega) (by decide)) dL_law_325 ?_
      rw [show (nI (0 + 3)).toNatClampNeg = 3 from by decide]
      refine lawXi (wm := wM cy ad9 SM0 ++ []) (wx := wD cy adx SD0 ++ wX cy adx xax (fun _ => 0, 1) (fun _ => 0, 1)) (As := [.int (xs 1), .int (xs 2), .int (xs 3)]) (rest := []) (q0 := 43) (r0 := (RX8, TX8, 11)) hx hb hml hown htw hK hP hD hS hA hl.1 wX_0 rfl gBlind (fun U hU hW => ⟨rfl, by rw [hU], by rw [hU]; exact va_right hP, va_K.moved hW.alike hK, (va_rightD hD).weaken (fun _ _ _ _ => trivial)⟩) (cT_setStrength l D cy adx xax SD0 (fun _ => 0, 1) (fun _ => 0, 1) _ (xs 1) (xs 2) (xs 3)) (cwV 3 htw gL_law_X8_setStrength rfl rfl rfl (by decide +kernel) ⟨Nat.le_of_ble_eq_true rfl, Nat.le_of_ble_eq_true rfl⟩) rfl rfl (Nat.le_of_ble_eq_true rfl) ⟨Nat.le_of_ble_eq_true rfl, Nat.le_of_ble_eq_true rfl⟩ dL_law_326 (fun r16 w16 H locs e16 hP hD hS => ?_)
      rw [show r16 = -1 from e16]
      refine lv_aload_n hx hb dL_law_329 rfl (lv_at hl 1 rfl) ?_
      refine lv_aload_n hx hb dL_law_330 rfl (lv_at hl 3 rfl) ?_
      refine lv_iload_n hx hb dL_law_331 rfl (lv_at hl 0 rfl) ?_
      refine lv_iconst (v := nI 1) hx hb dL_law_332 (by decide) ?_
      refine lv_iadd hx hb dL_law_333 ?_
      rw [nI_add]
      refine va_sld hx hb hX hbl hbA hS (i := nI (0 + 1)) (vp_in_nI (by omega) (by decide)) dL_law_334 ?_
      rw [show (nI (0 + 1)).toNatClampNeg = 1 from by decide]
      refine lv_aload_n hx hb dL_law_335 rfl (lv_at hl 3 rfl) ?_
      refine lv_iload_n hx hb dL_law_336 rfl (lv_at hl 0 rfl) ?_
      refine lv_iconst (v := nI 2) hx hb dL_law_337 (by decide) ?_
      refine lv_iadd hx hb dL_law_338 ?_
      rw [nI_add]
      refine va_sld hx hb hX hbl hbA hS (i := nI (0 + 2)) (vp_in_nI (by omega) (by decide)) dL_law_339 ?_
      rw [show (nI (0 + 2)).toNatClampNeg = 2 from by decide]
      refine lv_aload_n hx hb dL_law_340 rfl (lv_at hl 3 rfl) ?_
      refine lv_iload_n hx hb dL_law_341 rfl (lv_at hl 0 rfl) ?_
      refine lv_iconst (v := nI 3) hx hb dL_law_342 (by decide) ?_
      refine lv_iadd hx hb dL_law_343 ?_
      rw [nI_add]
      refine va_sld hx hb hX hbl hbA hS (i := nI (0 + 3)) (vp_in_nI (by omega) (by decide)) dL_law_344 ?_
      rw [show (nI (0 + 3)).toNatClampNeg = 3 from by decide]
      refine gCalli (ws := wM cy ad9 SM0 ++ []) (As := [.int (xs 1), .int (xs 2), .int (xs 3)]) (rest := [.int (-1)]) (q0 := 0) (r0 := (RX9, TX9, 36)) hx hb hml hown htw hK hP hD hS hA hl.1 wM_0 rfl (cN_setStrength l D cy ad9 [] SM0 _ qOne (xs 1) (xs 2) (xs 3)) (cwV 3 htw gL_law_X9_setStrength rfl rfl rfl (by decide +kernel) ⟨Nat.le_of_ble_eq_true rfl, Nat.le_of_ble_eq_true rfl⟩) rfl rfl (Nat.le_of_ble_eq_true rfl) ⟨Nat.le_of_ble_eq_true rfl, Nat.le_of_ble_eq_true rfl⟩ dL_law_345 (fun r17 w17 H locs e17 hP hD hS => ?_)
      rw [show r17 = -1 from e17]
      refine lv_icmp_eq (tgt := 1014) hx hb dL_law_348 (by decide) (fun c18 => ?_) (fun c18 => ?_)
      · skip
        refine W.widen (k := 96) (n := 2724) (by omega) (by omega) ?_
        exact L1014 rfl _ _ _ hS (lv_sub hl [0, 1, 2, 3] rfl)
      · skip
        exact absurd (q_setStrength (xs 1) (xs 2) (xs 3)) c18
    · refine lv_tableIn (off := 321) (tgt := 353) hx hb dL_law_32 t1 t2 (by rw [z3]; rfl) (by decide) ?_
      refine lv_aload_n hx hb dL_law_353 rfl (lv_at hl 2 rfl) ?_
      refine lv_aload_n hx hb dL_law_354 rfl (lv_at hl 3 rfl) ?_
      refine lv_iload_n hx hb dL_law_355 rfl (lv_at hl 0 rfl) ?_
      refine lv_iconst (v := nI 1) hx hb dL_law_356 (by decide) ?_
      refine lv_iadd hx hb dL_law_357 ?_
      rw [nI_add]
      refine va_sld hx hb hX hbl hbA hS (i := nI (0 + 1)) (vp_in_nI (by omega) (by decide)) dL_law_358 ?_
      rw [show (nI (0 + 1)).toNatClampNeg = 1 from by decide]
      refine lv_aload_n hx hb dL_law_359 rfl (lv_at hl 3 rfl) ?_
      refine lv_iload_n hx hb dL_law_360 rfl (lv_at hl 0 rfl) ?_
      refine lv_iconst (v := nI 2) hx hb dL_law_361 (by decide) ?_
      refine lv_iadd hx hb dL_law_362 ?_
      rw [nI_add]
      refine va_sld hx hb hX hbl hbA hS (i := nI (0 + 2)) (vp_in_nI (by omega) (by decide)) dL_law_363 ?_
      rw [show (nI (0 + 2)).toNatClampNeg = 2 from by decide]
      refine lawXi (wm := wM cy ad9 SM0 ++ []) (wx := wD cy adx SD0 ++ wX cy adx xax (fun _ => 0, 1) (fun _ => 0, 1)) (As := [.int (xs 1), .int (xs 2)]) (rest := []) (q0 := 43) (r0 := (RX8, TX8, 11)) hx hb hml hown htw hK hP hD hS hA hl.1 wX_0 rfl gBlind (fun U hU hW => ⟨rfl, by rw [hU], by rw [hU]; exact va_right hP, va_K.moved hW.alike hK, (va_rightD hD).weaken (fun _ _ _ _ => trivial)⟩) (cT_about l D cy adx xax SD0 (fun _ => 0, 1) (fun _ => 0, 1) _ (xs 1) (xs 2)) (cwV 2 htw gL_law_X8_about rfl rfl rfl (by decide +kernel) ⟨Nat.le_of_ble_eq_true rfl, Nat.le_of_ble_eq_true rfl⟩) rfl rfl (Nat.le_of_ble_eq_true rfl) ⟨Nat.le_of_ble_eq_true rfl, Nat.le_of_ble_eq_true rfl⟩ dL_law_364 (fun r19 w19 H locs e19 hP hD hS => ?_)
      rw [show r19 = -1 from e19]
      refine lv_aload_n hx hb dL_law_367 rfl (lv_at hl 1 rfl) ?_
      refine lv_aload_n hx hb dL_law_368 rfl (lv_at hl 3 rfl) ?_
      refine lv_iload_n hx hb dL_law_369 rfl (lv_at hl 0 rfl) ?_
      refine lv_iconst (v := nI 1) hx hb dL_law_370 (by decide) ?_
      refine lv_iadd hx hb dL_law_371 ?_
      rw [nI_add]
      refine va_sld hx hb hX hbl hbA hS (i := nI (0 + 1)) (vp_in_nI (by omega) (by decide)) dL_law_372 ?_
      rw [show (nI (0 + 1)).toNatClampNeg = 1 from by decide]
      refine lv_aload_n hx hb dL_law_373 rfl (lv_at hl 3 rfl) ?_
      refine lv_iload_n hx hb dL_law_374 rfl (lv_at hl 0 rfl) ?_
      refine lv_iconst (v := nI 2) hx hb dL_law_375 (by decide) ?_
      refine lv_iadd hx hb dL_law_376 ?_
      rw [nI_add]
      refine va_sld hx hb hX hbl hbA hS (i := nI (0 + 2)) (vp_in_nI (by omega) (by decide)) dL_law_377 ?_
      rw [show (nI (0 + 2)).toNatClampNeg = 2 from by decide]
      refine gCalli (ws := wM cy ad9 SM0 ++ []) (As := [.int (xs 1), .int (xs 2)]) (rest := [.int (-1)]) (q0 := 0) (r0 := (RX9, TX9, 36)) hx hb hml hown htw hK hP hD hS hA hl.1 wM_0 rfl (cN_about l D cy ad9 [] SM0 _ qOne (xs 1) (xs 2)) (cwV 2 htw gL_law_X9_about rfl rfl rfl (by decide +kernel) ⟨Nat.le_of_ble_eq_true rfl, Nat.le_of_ble_eq_true rfl⟩) rfl rfl (Nat.le_of_ble_eq_true rfl) ⟨Nat.le_of_ble_eq_true rfl, Nat.le_of_ble_eq_true rfl⟩ dL_law_378 (fun r20 w20 H locs e20 hP hD hS => ?_)
      rw [show r20 = -1 from e20]
      refine lv_icmp_eq (tgt := 1014) hx hb dL_law_381 (by decide) (fun c21 => ?_) (fun c21 => ?_)
      · skip
        refine W.widen (k := 96) (n := 2724) (by omega) (by omega) ?_
        exact L1014 rfl _ _ _ hS (lv_sub hl [0, 1, 2, 3] rfl)
      · skip
        exact absurd (q_about (xs 1) (xs 2)) c21
    · refine lv_tableIn (off := 354) (tgt := 386) hx hb dL_law_32 t1 t2 (by rw [z3]; rfl) (by decide) ?_
      refine lv_aload_n hx hb dL_law_386 rfl (lv_at hl 2 rfl) ?_
      refine lawXi (wm := wM cy ad9 SM0 ++ []) (wx := wD cy adx SD0 ++ wX cy adx xax (fun _ => 0, 1) (fun _ => 0, 1)) (As := []) (rest := []) (q0 := 43) (r0 := (RX8, TX8, 11)) hx hb hml hown htw hK hP hD hS hA hl.1 wX_0 rfl gBlind (fun U hU hW => ⟨rfl, by rw [hU], by rw [hU]; exact va_right hP, va_K.moved hW.alike hK, (va_rightD hD).weaken (fun _ _ _ _ => trivial)⟩) (cT_constraints l D cy adx xax SD0 (fun _ => 0, 1) (fun _ => 0, 1) _ ) (cwV 0 htw gL_law_X8_constraints rfl rfl rfl (by decide +kernel) ⟨Nat.le_of_ble_eq_true rfl, Nat.le_of_ble_eq_true rfl⟩) rfl rfl (Nat.le_of_ble_eq_true rfl) ⟨Nat.le_of_ble_eq_true rfl, Nat.le_of_ble_eq_true rfl⟩ dL_law_387 (fun r22 w22 H locs e22 hP hD hS => ?_)
      rw [show r22 = nI 0 from e22]
      refine lv_aload_n hx hb dL_law_390 rfl (lv_at hl 1 rfl) ?_
      refine gCalli (ws := wM cy ad9 SM0 ++ []) (As := []) (rest := [.int (nI 0)]) (q0 := 0) (r0 := (RX9, TX9, 36)) hx hb hml hown htw hK hP hD hS hA hl.1 wM_0 rfl (cM_constraints l D cy ad9 [] SM0 _) (cwV 0 htw gL_law_X9_constraints rfl rfl rfl (by decide +kernel) ⟨Nat.le_of_ble_eq_true rfl, Nat.le_of_ble_eq_true rfl⟩) rfl rfl (Nat.le_of_ble_eq_true rfl) ⟨Nat.le_of_ble_eq_true rfl, Nat.le_of_ble_eq_true rfl⟩ dL_law_391 (fun r23 w23 H locs e23 hP hD hS => ?_)
      rw [show r23 = jSet SM0 from e23.1]
      refine lv_icmp_eq (tgt := 1014) hx hb dL_law_394 (by decide) (fun c24 => ?_) (fun c24 => ?_)
      · skip
        refine W.widen (k := 96) (n := 2724) (by omega) (by omega) ?_
        exact L1014 rfl _ _ _ hS (lv_sub hl [0, 1, 2, 3] rfl)
      · skip
        exact absurd (q_constraints) c24
    · refine lv_tableIn (off := 367) (tgt := 399) hx hb dL_law_32 t1 t2 (by rw [z3]; rfl) (by decide) ?_
      refine lv_aload_n hx hb dL_law_399 rfl (lv_at hl 2 rfl) ?_
      refine lv_aload_n hx hb dL_law_400 rfl (lv_at hl 3 rfl) ?_
      refine lv_iload_n hx hb dL_law_401 rfl (lv_at hl 0 rfl) ?_
      refine lv_iconst (v := nI 1) hx hb dL_law_402 (by decide) ?_
      refine lv_iadd hx hb dL_law_403 ?_
      rw [nI_add]
      refine va_sld hx hb hX hbl hbA hS (i := nI (0 + 1)) (vp_in_nI (by omega) (by decide)) dL_law_404 ?_
      rw [show (nI (0 + 1)).toNatClampNeg = 1 from by decide]
      refine lawXi (wm := wM cy ad9 SM0 ++ []) (wx := wD cy adx SD0 ++ wX cy adx xax (fun _ => 0, 1) (fun _ => 0, 1)) (As := [.int (xs 1)]) (rest := []) (q0 := 43) (r0 := (RX8, TX8, 11)) hx hb hml hown htw hK hP hD hS hA hl.1 wX_0 rfl gBlind (fun U hU hW => ⟨rfl, by rw [hU], by rw [hU]; exact va_right hP, va_K.moved hW.alike hK, (va_rightD hD).weaken (fun _ _ _ _ => trivial)⟩) (cT_say l D cy adx xax SD0 (fun _ => 0, 1) (fun _ => 0, 1) _ (xs 1)) (cwV 1 htw gL_law_X8_say rfl rfl rfl (by decide +kernel) ⟨Nat.le_of_ble_eq_true rfl, Nat.le_of_ble_eq_true rfl⟩) rfl rfl (Nat.le_of_ble_eq_true rfl) ⟨Nat.le_of_ble_eq_true rfl, Nat.le_of_ble_eq_true rfl⟩ dL_law_405 (fun r25 w25 H locs e25 hP hD hS => ?_)
      rw [show r25 = (if (xs 1) < nI 33 then -2 else if nI 126 < (xs 1) then -2 else nI 1) from e25]
      refine lv_aload_n hx hb dL_law_408 rfl (lv_at hl 1 rfl) ?_
      refine lv_aload_n hx hb dL_law_409 rfl (lv_at hl 3 rfl) ?_
      refine lv_iload_n hx hb dL_law_410 rfl (lv_at hl 0 rfl) ?_
      refine lv_iconst (v := nI 1) hx hb dL_law_411 (by decide) ?_
      refine lv_iadd hx hb dL_law_412 ?_
      rw [nI_add]
      refine va_sld hx hb hX hbl hbA hS (i := nI (0 + 1)) (vp_in_nI (by omega) (by decide)) dL_law_413 ?_
      rw [show (nI (0 + 1)).toNatClampNeg = 1 from by decide]
      refine gCalli (ws := wM cy ad9 SM0 ++ []) (As := [.int (xs 1)]) (rest := [.int (if (xs 1) < nI 33 then -2 else if nI 126 < (xs 1) then -2 else nI 1)]) (q0 := 0) (r0 := (RX9, TX9, 36)) hx hb hml hown htw hK hP hD hS hA hl.1 wM_0 rfl (cM_say l D cy ad9 [] SM0 _ (n := 0) rfl (by omega) (xs 1)) (cwV 1 htw gL_law_X9_say rfl rfl rfl (by decide +kernel) ⟨Nat.le_of_ble_eq_true rfl, Nat.le_of_ble_eq_true rfl⟩) rfl rfl (Nat.le_of_ble_eq_true rfl) ⟨Nat.le_of_ble_eq_true rfl, Nat.le_of_ble_eq_true rfl⟩ dL_law_414 (fun r26 w26 H locs e26 hP hD hS => ?_)
      rw [show r26 = jSayR 0 (xs 1) from e26.1]
      refine lv_icmp_eq (tgt := 1014) hx hb dL_law_417 (by decide) (fun c27 => ?_) (fun c27 => ?_)
      · skip
        refine W.widen (k := 96) (n := 2724) (by omega) (by omega) ?_
        exact L1014 rfl _ _ _ hS (lv_sub hl [0, 1, 2, 3] rfl)
      · skip
        exact absurd (q_say (xs 1)) c27
    · refine lv_tableIn (off := 390) (tgt := 422) hx hb dL_law_32 t1 t2 (by rw [z3]; rfl) (by decide) ?_
      refine lv_aload_n hx hb dL_law_422 rfl (lv_at hl 2 rfl) ?_
      refine lawXi (wm := wM cy ad9 SM0 ++ []) (wx := wD cy adx SD0 ++ wX cy adx xax (fun _ => 0, 1) (fun _ => 0, 1)) (As := []) (rest := []) (q0 := 43) (r0 := (RX8, TX8, 11)) hx hb hml hown htw hK hP hD hS hA hl.1 wX_0 rfl gBlind (fun U hU hW => ⟨rfl, by rw [hU], by rw [hU]; exact va_right hP, va_K.moved hW.alike hK, (va_rightD hD).weaken (fun _ _ _ _ => trivial)⟩) (cT_wipe l D cy adx xax SD0 (fun _ => 0, 1) (fun _ => 0, 1) _ ) (cwV 0 htw gL_law_X8_wipe rfl rfl rfl (by decide +kernel) ⟨Nat.le_of_ble_eq_true rfl, Nat.le_of_ble_eq_true rfl⟩) rfl rfl (Nat.le_of_ble_eq_true rfl) ⟨Nat.le_of_ble_eq_true rfl, Nat.le_of_ble_eq_true rfl⟩ dL_law_423 (fun r28 w28 H locs e28 hP hD hS => ?_)
      rw [show r28 = nI 0 from e28]
      refine lv_aload_n hx hb dL_law_426 rfl (lv_at hl 1 rfl) ?_
      refine gCalli (ws := wM cy ad9 SM0 ++ []) (As := []) (rest := [.int (nI 0)]) (q0 := 0) (r0 := (RX9, TX9, 36)) hx hb hml hown htw hK hP hD hS hA hl.1 wM_0 rfl (cM_wipe l D cy ad9 [] SM0 _) (cwV 0 htw gL_law_X9_wipe rfl rfl rfl (by decide +kernel) ⟨Nat.le_of_ble_eq_true rfl, Nat.le_of_ble_eq_true rfl⟩) rfl rfl (Nat.le_of_ble_eq_true rfl) ⟨Nat.le_of_ble_eq_true rfl, Nat.le_of_ble_eq_true rfl⟩ dL_law_427 (fun r29 w29 H locs e29 hP hD hS => ?_)
      rw [show r29 = aF SM0 5 from e29.1]
      refine lv_icmp_eq (tgt := 1014) hx hb dL_law_430 (by decide) (fun c30 => ?_) (fun c30 => ?_)
      · skip
        refine W.widen (k := 96) (n := 2724) (by omega) (by omega) ?_
        exact L1014 rfl _ _ _ hS (lv_sub hl [0, 1, 2, 3] rfl)
      · skip
        exact absurd (q_wipe) c30
    · refine lv_tableIn (off := 403) (tgt := 435) hx hb dL_law_32 t1 t2 (by rw [z3]; rfl) (by decide) ?_
      refine lv_aload_n hx hb dL_law_435 rfl (lv_at hl 2 rfl) ?_
      refine lawXi (wm := wM cy ad9 SM0 ++ []) (wx := wD cy adx SD0 ++ wX cy adx xax (fun _ => 0, 1) (fun _ => 0, 1)) (As := []) (rest := []) (q0 := 43) (r0 := (RX8, TX8, 11)) hx hb hml hown htw hK hP hD hS hA hl.1 wX_0 rfl gBlind (fun U hU hW => ⟨rfl, by rw [hU], by rw [hU]; exact va_right hP, va_K.moved hW.alike hK, (va_rightD hD).weaken (fun _ _ _ _ => trivial)⟩) (cT_fault l D cy adx xax SD0 (fun _ => 0, 1) (fun _ => 0, 1) _ ) (cwV 0 htw gL_law_X8_fault rfl rfl rfl (by decide +kernel) ⟨Nat.le_of_ble_eq_true rfl, Nat.le_of_ble_eq_true rfl⟩) rfl rfl (Nat.le_of_ble_eq_true rfl) ⟨Nat.le_of_ble_eq_true rfl, Nat.le_of_ble_eq_true rfl⟩ dL_law_436 (fun r31 w31 H locs e31 hP hD hS => ?_)
      rw [show r31 = nI 0 from e31]
      refine lv_aload_n hx hb dL_law_439 rfl (lv_at hl 1 rfl) ?_
      refine gCalli (ws := wM cy ad9 SM0 ++ []) (As := []) (rest := [.int (nI 0)]) (q0 := 0) (r0 := (RX9, TX9, 36)) hx hb hml hown htw hK hP hD hS hA hl.1 wM_0 rfl (cN_fault l D cy ad9 [] SM0 _ rfl) (cwV 0 htw gL_law_X9_fault rfl rfl rfl (by decide +kernel) ⟨Nat.le_of_ble_eq_true rfl, Nat.le_of_ble_eq_true rfl⟩) rfl rfl (Nat.le_of_ble_eq_true rfl) ⟨Nat.le_of_ble_eq_true rfl, Nat.le_of_ble_eq_true rfl⟩ dL_law_440 (fun r32 w32 H locs e32 hP hD hS => ?_)
      rw [show r32 = nI 0 from e32]
      refine lv_icmp_eq (tgt := 1014) hx hb dL_law_443 (by decide) (fun c33 => ?_) (fun c33 => ?_)
      · rw [nI_eq (by omega) (by omega)] at c33
        refine W.widen (k := 96) (n := 2724) (by omega) (by omega) ?_
        exact L1014 rfl _ _ _ hS (lv_sub hl [0, 1, 2, 3] rfl)
      · exact absurd c33 (by rw [nI_eq (by omega) (by omega)]; omega)
    · refine lv_tableIn (off := 416) (tgt := 448) hx hb dL_law_32 t1 t2 (by rw [z3]; rfl) (by decide) ?_
      refine lv_aload_n hx hb dL_law_448 rfl (lv_at hl 2 rfl) ?_
      refine lawXi (wm := wM cy ad9 SM0 ++ []) (wx := wD cy adx SD0 ++ wX cy adx xax (fun _ => 0, 1) (fun _ => 0, 1)) (As := []) (rest := []) (q0 := 43) (r0 := (RX8, TX8, 11)) hx hb hml hown htw hK hP hD hS hA hl.1 wX_0 rfl gBlind (fun U hU hW => ⟨rfl, by rw [hU], by rw [hU]; exact va_right hP, va_K.moved hW.alike hK, (va_rightD hD).weaken (fun _ _ _ _ => trivial)⟩) (cT_parse l D cy adx xax SD0 (fun _ => 0, 1) (fun _ => 0, 1) _ ) (cwV 0 htw gL_law_X8_parse rfl rfl rfl (by decide +kernel) ⟨Nat.le_of_ble_eq_true rfl, Nat.le_of_ble_eq_true rfl⟩) rfl rfl (Nat.le_of_ble_eq_true rfl) ⟨Nat.le_of_ble_eq_true rfl, Nat.le_of_ble_eq_true rfl⟩ dL_law_449 (fun r34 w34 H locs e34 hP hD hS => ?_)
      rw [show r34 = -5 from e34]
      refine lv_aload_n hx hb dL_law_452 rfl (lv_at hl 1 rfl) ?_
      refine gCalli (ws := wM cy ad9 SM0 ++ []) (As := []) (rest := [.int (-5)]) (q0 := 0) (r0 := (RX9, TX9, 36)) hx hb hml hown htw hK hP hD hS hA hl.1 wM_0 rfl (cN_parse l D cy ad9 [] SM0 _ rfl) (cwV 0 htw gL_law_X9_parse rfl rfl rfl (by decide +kernel) ⟨Nat.le_of_ble_eq_true rfl, Nat.le_of_ble_eq_true rfl⟩) rfl rfl (Nat.le_of_ble_eq_true rfl) ⟨Nat.le_of_ble_eq_true rfl, Nat.le_of_ble_eq_true rfl⟩ dL_law_453 (fun r35 w35 H locs e35 hP hD hS => ?_)
      rw [show r35 = -5 from e35]
      refine lv_icmp_eq (tgt := 1014) hx hb dL_law_456 (by decide) (fun c36 => ?_) (fun c36 => ?_)
      · skip
        refine W.widen (k := 96) (n := 2724) (by omega) (by omega) ?_
        exact L1014 rfl _ _ _ hS (lv_sub hl [0, 1, 2, 3] rfl)
      · skip
        exact absurd (q_parse) c36
    · refine lv_tableIn (off := 429) (tgt := 461) hx hb dL_law_32 t1 t2 (by rw [z3]; rfl) (by decide) ?_
      refine lv_aload_n hx hb dL_law_461 rfl (lv_at hl 2 rfl) ?_
      refine lv_aload_n hx hb dL_law_462 rfl (lv_at hl 3 rfl) ?_
      refine lv_iload_n hx hb dL_law_463 rfl (lv_at hl 0 rfl) ?_
      refine lv_iconst (v := nI 1) hx hb dL_law_464 (by decide) ?_
      refine lv_iadd hx hb dL_law_465 ?_
      rw [nI_add]
      refine va_sld hx hb hX hbl hbA hS (i := nI (0 + 1)) (vp_in_nI (by omega) (by decide)) dL_law_466 ?_
      rw [show (nI (0 + 1)).toNatClampNeg = 1 from by decide]
      refine lv_aload_n hx hb dL_law_467 rfl (lv_at hl 3 rfl) ?_
      refine lv_iload_n hx hb dL_law_468 rfl (lv_at hl 0 rfl) ?_
      refine lv_iconst (v := nI 2) hx hb dL_law_469 (by decide) ?_
      refine lv_iadd hx hb dL_law_470 ?_
      rw [nI_add]
      refine va_sld hx hb hX hbl hbA hS (i := nI (0 + 2)) (vp_in_nI (by omega) (by decide)) dL_law_471 ?_
      rw [show (nI (0 + 2)).toNatClampNeg = 2 from by decide]
      refine lawXi (wm := wM cy ad9 SM0 ++ []) (wx := wD cy adx SD0 ++ wX cy adx xax (fun _ => 0, 1) (fun _ => 0, 1)) (As := [.int (xs 1), .int (xs 2)]) (rest := []) (q0 := 43) (r0 := (RX8, TX8, 11)) hx hb hml hown htw hK hP hD hS hA hl.1 wX_0 rfl gBlind (fun U hU hW => ⟨rfl, by rw [hU], by rw [hU]; exact va_right hP, va_K.moved hW.alike hK, (va_rightD hD).weaken (fun _ _ _ _ => trivial)⟩) (cT_spell l D cy adx xax SD0 (fun _ => 0, 1) (fun _ => 0, 1) _ (xs 1) (xs 2)) (cwV 2 htw gL_law_X8_spell rfl rfl rfl (by decide +kernel) ⟨Nat.le_of_ble_eq_true rfl, Nat.le_of_ble_eq_true rfl⟩) rfl rfl (Nat.le_of_ble_eq_true rfl) ⟨Nat.le_of_ble_eq_true rfl, Nat.le_of_ble_eq_true rfl⟩ dL_law_472 (fun r37 w37 H locs e37 hP hD hS => ?_)
      rw [show r37 = -1 from e37]
      refine lv_aload_n hx hb dL_law_475 rfl (lv_at hl 1 rfl) ?_
      refine lv_aload_n hx hb dL_law_476 rfl (lv_at hl 3 rfl) ?_
      refine lv_iload_n hx hb dL_law_477 rfl (lv_at hl 0 rfl) ?_
      refine lv_iconst (v := nI 1) hx hb dL_law_478 (by decide) ?_
      refine lv_iadd hx hb dL_law_479 ?_
      rw [nI_add]
      refine va_sld hx hb hX hbl hbA hS (i := nI (0 + 1)) (vp_in_nI (by omega) (by decide)) dL_law_480 ?_
      rw [show (nI (0 + 1)).toNatClampNeg = 1 from by decide]
      refine lv_aload_n hx hb dL_law_481 rfl (lv_at hl 3 rfl) ?_
      refine lv_iload_n hx hb dL_law_482 rfl (lv_at hl 0 rfl) ?_
      refine lv_iconst (v := nI 2) hx hb dL_law_483 (by decide) ?_
      refine lv_iadd hx hb dL_law_484 ?_
      rw [nI_add]
      refine va_sld hx hb hX hbl hbA hS (i := nI (0 + 2)) (vp_in_nI (by omega) (by decide)) dL_law_485 ?_
      rw [show (nI (0 + 2)).toNatClampNeg = 2 from by decide]
      refine gCalli (ws := wM cy ad9 SM0 ++ []) (As := [.int (xs 1), .int (xs 2)]) (rest := [.int (-1)]) (q0 := 0) (r0 := (RX9, TX9, 36)) hx hb hml hown htw hK hP hD hS hA hl.1 wM_0 rfl (cN_spell l D cy ad9 [] SM0 _ qOne (xs 1) (xs 2)) (cwV 2 htw gL_law_X9_spell rfl rfl rfl (by decide +kernel) ⟨Nat.le_of_ble_eq_true rfl, Nat.le_of_ble_eq_true rfl⟩) rfl rfl (Nat.le_of_ble_eq_true rfl) ⟨Nat.le_of_ble_eq_true rfl, Nat.le_of_ble_eq_true rfl⟩ dL_law_486 (fun r38 w38 H locs e38 hP hD hS => ?_)
      rw [show r38 = -1 from e38]
      refine lv_icmp_eq (tgt := 1014) hx hb dL_law_489 (by decide) (fun c39 => ?_) (fun c39 => ?_)
      · skip
        refine W.widen (k := 96) (n := 2724) (by omega) (by omega) ?_
        exact L1014 rfl _ _ _ hS (lv_sub hl [0, 1, 2, 3] rfl)
      · skip
        exact absurd (q_spell (xs 1) (xs 2)) c39
    · refine lv_tableIn (off := 462) (tgt := 494) hx hb dL_law_32 t1 t2 (by rw [z3]; rfl) (by decide) ?_
      refine lv_aload_n hx hb dL_law_494 rfl (lv_at hl 2 rfl) ?_
      refine lawXi (wm := wM cy ad9 SM0 ++ []) (wx := wD cy adx SD0 ++ wX cy adx xax (fun _ => 0, 1) (fun _ => 0, 1)) (As := []) (rest := []) (q0 := 43) (r0 := (RX8, TX8, 11)) hx hb hml hown htw hK hP hD hS hA hl.1 wX_0 rfl gBlind (fun U hU hW => ⟨rfl, by rw [hU], by rw [hU]; exact va_right hP, va_K.moved hW.alike hK, (va_rightD hD).weaken (fun _ _ _ _ => trivial)⟩) (cT_undo l D cy adx xax SD0 (fun _ => 0, 1) (fun _ => 0, 1) _ ) (cwV 0 htw gL_law_X8_undo rfl rfl rfl (by decide +kernel) ⟨Nat.le_of_ble_eq_true rfl, Nat.le_of_ble_eq_true rfl⟩) rfl rfl (Nat.le_of_ble_eq_true rfl) ⟨Nat.le_of_ble_eq_true rfl, Nat.le_of_ble_eq_true rfl⟩ dL_law_495 (fun r40 w40 H locs e40 hP hD hS => ?_)
      rw [show r40 = -5 from e40]
      refine lv_aload_n hx hb dL_law_498 rfl (lv_at hl 1 rfl) ?_
      refine gCalli (ws := wM cy ad9 SM0 ++ []) (As := []) (rest := [.int (-5)]) (q0 := 0) (r0 := (RX9, TX9, 36)) hx hb hml hown htw hK hP hD hS hA hl.1 wM_0 rfl (cM_undo0 l D cy ad9 [] SM0 _ rfl) (cwV 0 htw gL_law_X9_undo rfl rfl rfl (by decide +kernel) ⟨Nat.le_of_ble_eq_true rfl, Nat.le_of_ble_eq_true rfl⟩) rfl rfl (Nat.le_of_ble_eq_true rfl) ⟨Nat.le_of_ble_eq_true rfl, Nat.le_of_ble_eq_true rfl⟩ dL_law_499 (fun r41 w41 H locs e41 hP hD hS => ?_)
      rw [show r41 = -5 from e41.1]
      refine lv_icmp_eq (tgt := 1014) hx hb dL_law_502 (by decide) (fun c42 => ?_) (fun c42 => ?_)
      · skip
        refine W.widen (k := 96) (n := 2724) (by omega) (by omega) ?_
        exact L1014 rfl _ _ _ hS (lv_sub hl [0, 1, 2, 3] rfl)
      · skip
        exact absurd (q_undo) c42
    · refine lv_tableIn (off := 475) (tgt := 507) hx hb dL_law_32 t1 t2 (by rw [z3]; rfl) (by decide) ?_
      refine lv_aload_n hx hb dL_law_507 rfl (lv_at hl 2 rfl) ?_
      refine lawXi (wm := wM cy ad9 SM0 ++ []) (wx := wD cy adx SD0 ++ wX cy adx xax (fun _ => 0, 1) (fun _ => 0, 1)) (As := []) (rest := []) (q0 := 43) (r0 := (RX8, TX8, 11)) hx hb hml hown htw hK hP hD hS hA hl.1 wX_0 rfl gBlind (fun U hU hW => ⟨rfl, by rw [hU], by rw [hU]; exact va_right hP, va_K.moved hW.alike hK, (va_rightD hD).weaken (fun _ _ _ _ => trivial)⟩) (cT_redo l D cy adx xax SD0 (fun _ => 0, 1) (fun _ => 0, 1) _ ) (cwV 0 htw gL_law_X8_redo rfl rfl rfl (by decide +kernel) ⟨Nat.le_of_ble_eq_true rfl, Nat.le_of_ble_eq_true rfl⟩) rfl rfl (Nat.le_of_ble_eq_true rfl) ⟨Nat.le_of_ble_eq_true rfl, Nat.le_of_ble_eq_true rfl⟩ dL_law_508 (fun r43 w43 H locs e43 hP hD hS => ?_)
      rw [show r43 = -5 from e43]
      refine lv_aload_n hx hb dL_law_511 rfl (lv_at hl 1 rfl) ?_
      refine gCalli (ws := wM cy ad9 SM0 ++ []) (As := []) (rest := [.int (-5)]) (q0 := 0) (r0 := (RX9, TX9, 36)) hx hb hml hown htw hK hP hD hS hA hl.1 wM_0 rfl (cM_redo0 l D cy ad9 [] SM0 _ rfl) (cwV 0 htw gL_law_X9_redo rfl rfl rfl (by decide +kernel) ⟨Nat.le_of_ble_eq_true rfl, Nat.le_of_ble_eq_true rfl⟩) rfl rfl (Nat.le_of_ble_eq_true rfl) ⟨Nat.le_of_ble_eq_true rfl, Nat.le_of_ble_eq_true rfl⟩ dL_law_512 (fun r44 w44 H locs e44 hP hD hS => ?_)
      rw [show r44 = -5 from e44.1]
      refine lv_icmp_eq (tgt := 1014) hx hb dL_law_515 (by decide) (fun c45 => ?_) (fun c45 => ?_)
      · skip
        refine W.widen (k := 96) (n := 2724) (by omega) (by omega) ?_
        exact L1014 rfl _ _ _ hS (lv_sub hl [0, 1, 2, 3] rfl)
      · skip
        exact absurd (q_redo) c45
    · refine lv_tableIn (off := 488) (tgt := 520) hx hb dL_law_32 t1 t2 (by rw [z3]; rfl) (by decide) ?_
      refine lv_aload_n hx hb dL_law_520 rfl (lv_at hl 2 rfl) ?_
      refine lv_aload_n hx hb dL_law_521 rfl (lv_at hl 3 rfl) ?_
      refine lv_iload_n hx hb dL_law_522 rfl (lv_at hl 0 rfl) ?_
      refine lv_iconst (v := nI 1) hx hb dL_law_523 (by decide) ?_
      refine lv_iadd hx hb dL_law_524 ?_
      rw [nI_add]
      refine va_sld hx hb hX hbl hbA hS (i := nI (0 + 1)) (vp_in_nI (by omega) (by decide)) dL_law_525 ?_
      rw [show (nI (0 + 1)).toNatClampNeg = 1 from by decide]
      refine lv_aload_n hx hb dL_law_526 rfl (lv_at hl 3 rfl) ?_
      refine lv_iload_n hx hb dL_law_527 rfl (lv_at hl 0 rfl) ?_
      refine lv_iconst (v := nI 2) hx hb dL_law_528 (by decide) ?_
      refine lv_iadd hx hb dL_law_529 ?_
      rw [nI_add]
      refine va_sld hx hb hX hbl hbA hS (i := nI (0 + 2)) (vp_in_nI (by omega) (by decide)) dL_law_530 ?_
      rw [show (nI (0 + 2)).toNatClampNeg = 2 from by decide]
      refine lawXl (wm := wM cy ad9 SM0 ++ []) (wx := wD cy adx SD0 ++ wX cy adx xax (fun _ => 0, 1) (fun _ => 0, 1)) (As := [.int (xs 1), .int (xs 2)]) (rest := []) (q0 := 43) (r0 := (RX8, TX8, 11)) hx hb hml hown htw hK hP hD hS hA hl.1 wX_0 rfl fBlind (fun U hU hW => ⟨rfl, by rw [hU], by rw [hU]; exact va_right hP, va_K.moved hW.alike hK, (va_rightD hD).weaken (fun _ _ _ _ => trivial), kF.warm hW hkf⟩) (cT_cost l D cy adx xax SD0 (fun _ => 0, 1) (fun _ => 0, 1) _ (xs 1) (xs 2)) (cwV 2 htw gL_law_X8_cost rfl rfl rfl (by decide +kernel) ⟨Nat.le_of_ble_eq_true rfl, Nat.le_of_ble_eq_true rfl⟩) rfl rfl (Nat.le_of_ble_eq_true rfl) ⟨Nat.le_of_ble_eq_true rfl, Nat.le_of_ble_eq_true rfl⟩ dL_law_531 (fun r46 w46 H locs e46 hP hD hS => ?_)
      rw [show r46 = (if k_isSoft (xs 1) = 0 then (-1000000000000000002) else if k_isPart (xs 2) = 0 then (-1000000000000000002) else kCoP (kCo (kSet SD0) (fun _ => 0, 1)).1 (kCo (kSet SD0) (fun _ => 0, 1)).2 (xs 1) (xs 2)) from e46]
      refine lv_aload_n hx hb dL_law_534 rfl (lv_at hl 1 rfl) ?_
      refine lv_aload_n hx hb dL_law_535 rfl (lv_at hl 3 rfl) ?_
      refine lv_iload_n hx hb dL_law_536 rfl (lv_at hl 0 rfl) ?_
      refine lv_iconst (v := nI 1) hx hb dL_law_537 (by decide) ?_
      refine lv_iadd hx hb dL_law_538 ?_
      rw [nI_add]
      refine va_sld hx hb hX hbl hbA hS (i := nI (0 + 1)) (vp_in_nI (by omega) (by decide)) dL_law_539 ?_
      rw [show (nI (0 + 1)).toNatClampNeg = 1 from by decide]
      refine lv_aload_n hx hb dL_law_540 rfl (lv_at hl 3 rfl) ?_
      refine lv_iload_n hx hb dL_law_541 rfl (lv_at hl 0 rfl) ?_
      refine lv_iconst (v := nI 2) hx hb dL_law_542 (by decide) ?_
      refine lv_iadd hx hb dL_law_543 ?_
      rw [nI_add]
      refine va_sld hx hb hX hbl hbA hS (i := nI (0 + 2)) (vp_in_nI (by omega) (by decide)) dL_law_544 ?_
      rw [show (nI (0 + 2)).toNatClampNeg = 2 from by decide]
      refine gCalll (ws := wM cy ad9 SM0 ++ []) (As := [.int (xs 1), .int (xs 2)]) (rest := [.long (if k_isSoft (xs 1) = 0 then (-1000000000000000002) else if k_isPart (xs 2) = 0 then (-1000000000000000002) else kCoP (kCo (kSet SD0) (fun _ => 0, 1)).1 (kCo (kSet SD0) (fun _ => 0, 1)).2 (xs 1) (xs 2))]) (q0 := 0) (r0 := (RX9, TX9, 36)) hx hb hml hown htw hK hP hD hS hA hl.1 wM_0 rfl (cN_cost l D cy ad9 [] SM0 _ rfl qZs (xs 1) (xs 2)) (cwV 2 htw gL_law_X9_cost rfl rfl rfl (by decide +kernel) ⟨Nat.le_of_ble_eq_true rfl, Nat.le_of_ble_eq_true rfl⟩) rfl rfl (Nat.le_of_ble_eq_true rfl) ⟨Nat.le_of_ble_eq_true rfl, Nat.le_of_ble_eq_true rfl⟩ dL_law_545 (fun r47 w47 H locs e47 hP hD hS => ?_)
      rw [show r47 = (if j_in (xs 1) (nI 1) (nI 3) = 0 then (-1000000000000000002) else if j_isPart (xs 2) = 0 then (-1000000000000000002) else if (xs 2) = 0 then a13 qZ (xs 1).toNatClampNeg else a14 qZ (xs 1).toNatClampNeg) from e47]
      refine W.lcmp hx hb dL_law_548 ?_
      refine lv_if_eq (tgt := 1014) hx hb dL_law_549 (by decide) (fun c48 => ?_) (fun c48 => ?_)
      · skip
        refine W.widen (k := 96) (n := 2724) (by omega) (by omega) ?_
        exact L1014 rfl _ _ _ hS (lv_sub hl [0, 1, 2, 3] rfl)
      · skip
        exact absurd (by rw [q_cost (xs 1) (xs 2)]; exact lc_self) c48
    · refine lv_tableIn (off := 522) (tgt := 554) hx hb dL_law_32 t1 t2 (by rw [z3]; rfl) (by decide) ?_
      refine lv_aload_n hx hb dL_law_554 rfl (lv_at hl 2 rfl) ?_
      refine lv_aload_n hx hb dL_law_555 rfl (lv_at hl 3 rfl) ?_
      refine lv_iload_n hx hb dL_law_556 rfl (lv_at hl 0 rfl) ?_
      refine lv_iconst (v := nI 1) hx hb dL_law_557 (by decide) ?_
      refine lv_iadd hx hb dL_law_558 ?_
      rw [nI_add]
      refine va_sld hx hb hX hbl hbA hS (i := nI (0 + 1)) (vp_in_nI (by omega) (by decide)) dL_law_559 ?_
      rw [show (nI (0 + 1)).toNatClampNeg = 1 from by decide]
      refine lv_aload_n hx hb dL_law_560 rfl (lv_at hl 3 rfl) ?_
      refine lv_iload_n hx hb dL_law_561 rfl (lv_at hl 0 rfl) ?_
      refine lv_iconst (v := nI 2) hx hb dL_law_562 (by decide) ?_
      refine lv_iadd hx hb dL_law_563 ?_
      rw [nI_add]
      refine va_sld hx hb hX hbl hbA hS (i := nI (0 + 2)) (vp_in_nI (by omega) (by decide)) dL_law_564 ?_
      rw [show (nI (0 + 2)).toNatClampNeg = 2 from by decide]
      refine lawXl (wm := wM cy ad9 SM0 ++ []) (wx := wD cy adx SD0 ++ wX cy adx xax (fun _ => 0, 1) (fun _ => 0, 1)) (As := [.int (xs 1), .int (xs 2)]) (rest := []) (q0 := 43) (r0 := (RX8, TX8, 11)) hx hb hml hown htw hK hP hD hS hA hl.1 wX_0 rfl gBlind (fun U hU hW => ⟨rfl, by rw [hU], by rw [hU]; exact va_right hP, va_K.moved hW.alike hK, (va_rightD hD).weaken (fun _ _ _ _ => trivial)⟩) (cT_low l D cy adx xax SD0 (fun _ => 0, 1) (fun _ => 0, 1) _ (xs 1) (xs 2)) (cwV 2 htw gL_law_X8_low rfl rfl rfl (by decide +kernel) ⟨Nat.le_of_ble_eq_true rfl, Nat.le_of_ble_eq_true rfl⟩) rfl rfl (Nat.le_of_ble_eq_true rfl) ⟨Nat.le_of_ble_eq_true rfl, Nat.le_of_ble_eq_true rfl⟩ dL_law_565 (fun r49 w49 H locs e49 hP hD hS => ?_)
      rw [show r49 = kVA SD0 (xs 1) (nI 0) (xs 2) (nI 4) from e49]
      refine lv_aload_n hx hb dL_law_568 rfl (lv_at hl 1 rfl) ?_
      refine lv_aload_n hx hb dL_law_569 rfl (lv_at hl 3 rfl) ?_
      refine lv_iload_n hx hb dL_law_570 rfl (lv_at hl 0 rfl) ?_
      refine lv_iconst (v := nI 1) hx hb dL_law_571 (by decide) ?_
      refine lv_iadd hx hb dL_law_572 ?_
      rw [nI_add]
      refine va_sld hx hb hX hbl hbA hS (i := nI (0 + 1)) (vp_in_nI (by omega) (by decide)) dL_law_573 ?_
      rw [show (nI (0 + 1)).toNatClampNeg = 1 from by decide]
      refine lv_aload_n hx hb dL_law_574 rfl (lv_at hl 3 rfl) ?_
      refine lv_iload_n hx hb dL_law_575 rfl (lv_at hl 0 rfl) ?_
      refine lv_iconst (v := nI 2) hx hb dL_law_576 (by decide) ?_
      refine lv_iadd hx hb dL_law_577 ?_
      rw [nI_add]
      refine va_sld hx hb hX hbl hbA hS (i := nI (0 + 2)) (vp_in_nI (by omega) (by decide)) dL_law_578 ?_
      rw [show (nI (0 + 2)).toNatClampNeg = 2 from by decide]
      refine gCalll (ws := wM cy ad9 SM0 ++ []) (As := [.int (xs 1), .int (xs 2)]) (rest := [.long (kVA SD0 (xs 1) (nI 0) (xs 2) (nI 4))]) (q0 := 0) (r0 := (RX9, TX9, 36)) hx hb hml hown htw hK hP hD hS hA hl.1 wM_0 rfl (cN_low l D cy ad9 [] SM0 _ rfl qZs (E := qE (nI 1)) (xs 1) (xs 2) qEl) (cwV 2 htw gL_law_X9_low rfl rfl rfl (by decide +kernel) ⟨Nat.le_of_ble_eq_true rfl, Nat.le_of_ble_eq_true rfl⟩) rfl rfl (Nat.le_of_ble_eq_true rfl) ⟨Nat.le_of_ble_eq_true rfl, Nat.le_of_ble_eq_true rfl⟩ dL_law_579 (fun r50 w50 H locs e50 hP hD hS => ?_)
      rw [show r50 = jEnd (qE (nI 1)) (xs 1) (xs 2) from e50]
      refine W.lcmp hx hb dL_law_582 ?_
      refine lv_if_eq (tgt := 1014) hx hb dL_law_583 (by decide) (fun c51 => ?_) (fun c51 => ?_)
      · skip
        refine W.widen (k := 96) (n := 2724) (by omega) (by omega) ?_
        exact L1014 rfl _ _ _ hS (lv_sub hl [0, 1, 2, 3] rfl)
      · skip
        exact absurd (by rw [q_low (xs 1) (xs 2)]; exact lc_self) c51
    · refine lv_tableIn (off := 556) (tgt := 588) hx hb dL_law_32 t1 t2 (by rw [z3]; rfl) (by decide) ?_
      refine lv_aload_n hx hb dL_law_588 rfl (lv_at hl 2 rfl) ?_
      refine lv_aload_n hx hb dL_law_589 rfl (lv_at hl 3 rfl) ?_
      refine lv_iload_n hx hb dL_law_590 rfl (lv_at hl 0 rfl) ?_
      refine lv_iconst (v := nI 1) hx hb dL_law_591 (by decide) ?_
      refine lv_iadd hx hb dL_law_592 ?_
      rw [nI_add]
      refine va_sld hx hb hX hbl hbA hS (i := nI (0 + 1)) (vp_in_nI (by omega) (by decide)) dL_law_593 ?_
      rw [show (nI (0 + 1)).toNatClampNeg = 1 from by decide]
      refine lv_aload_n hx hb dL_law_594 rfl (lv_at hl 3 rfl) ?_
      refine lv_iload_n hx hb dL_law_595 rfl (lv_at hl 0 rfl) ?_
      refine lv_iconst (v := nI 2) hx hb dL_law_596 (by decide) ?_
      refine lv_iadd hx hb dL_law_597 ?_
      rw [nI_add]
      refine va_sld hx hb hX hbl hbA hS (i := nI (0 + 2)) (vp_in_nI (by omega) (by decide)) dL_law_598 ?_
      rw [show (nI (0 + 2)).toNatClampNeg = 2 from by decide]
      refine lawXl (wm := wM cy ad9 SM0 ++ []) (wx := wD cy adx SD0 ++ wX cy adx xax (fun _ => 0, 1) (fun _ => 0, 1)) (As := [.int (xs 1), .int (xs 2)]) (rest := []) (q0 := 43) (r0 := (RX8, TX8, 11)) hx hb hml hown htw hK hP hD hS hA hl.1 wX_0 rfl gBlind (fun U hU hW => ⟨rfl, by rw [hU], by rw [hU]; exact va_right hP, va_K.moved hW.alike hK, (va_rightD hD).weaken (fun _ _ _ _ => trivial)⟩) (cT_high l D cy adx xax SD0 (fun _ => 0, 1) (fun _ => 0, 1) _ (xs 1) (xs 2)) (cwV 2 htw gL_law_X8_high rfl rfl rfl (by decide +kernel) ⟨Nat.le_of_ble_eq_true rfl, Nat.le_of_ble_eq_true rfl⟩) rfl rfl (Nat.le_of_ble_eq_true rfl) ⟨Nat.le_of_ble_eq_true rfl, Nat.le_of_ble_eq_true rfl⟩ dL_law_599 (fun r52 w52 H locs e52 hP hD hS => ?_)
      rw [show r52 = kVA SD0 (xs 1) (nI 1) (xs 2) (nI 4) from e52]
      refine lv_aload_n hx hb dL_law_602 rfl (lv_at hl 1 rfl) ?_
      refine lv_aload_n hx hb dL_law_603 rfl (lv_at hl 3 rfl) ?_
      refine lv_iload_n hx hb dL_law_604 rfl (lv_at hl 0 rfl) ?_
      refine lv_iconst (v := nI 1) hx hb dL_law_605 (by decide) ?_
      refine lv_iadd hx hb dL_law_606 ?_
      rw [nI_add]
      refine va_sld hx hb hX hbl hbA hS (i := nI (0 + 1)) (vp_in_nI (by omega) (by decide)) dL_law_607 ?_
      rw [show (nI (0 + 1)).toNatClampNeg = 1 from by decide]
      refine lv_aload_n hx hb dL_law_608 rfl (lv_at hl 3 rfl) ?_
      refine lv_iload_n hx hb dL_law_609 rfl (lv_at hl 0 rfl) ?_
      refine lv_iconst (v := nI 2) hx hb dL_law_610 (by decide) ?_
      refine lv_iadd hx hb dL_law_611 ?_
      rw [nI_add]
      refine va_sld hx hb hX hbl hbA hS (i := nI (0 + 2)) (vp_in_nI (by omega) (by decide)) dL_law_612 ?_
      rw [show (nI (0 + 2)).toNatClampNeg = 2 from by decide]
      refine gCalll (ws := wM cy ad9 SM0 ++ []) (As := [.int (xs 1), .int (xs 2)]) (rest := [.long (kVA SD0 (xs 1) (nI 1) (xs 2) (nI 4))]) (q0 := 0) (r0 := (RX9, TX9, 36)) hx hb hml hown htw hK hP hD hS hA hl.1 wM_0 rfl (cN_high l D cy ad9 [] SM0 _ rfl qZs (E := qE (-1)) (xs 1) (xs 2) qEh) (cwV 2 htw gL_law_X9_high rfl rfl rfl (by decide +kernel) ⟨Nat.le_of_ble_eq_true rfl, Nat.le_of_ble_eq_true rfl⟩) rfl rfl (Nat.le_of_ble_eq_true rfl) ⟨Nat.le_of_ble_eq_true rfl, Nat.le_of_ble_eq_true rfl⟩ dL_law_613 (fun r53 w53 H locs e53 hP hD hS => ?_)
      rw [show r53 = jEnd (qE (-1)) (xs 1) (xs 2) from e53]
      refine W.lcmp hx hb dL_law_616 ?_
      refine lv_if_eq (tgt := 1014) hx hb dL_law_617 (by decide) (fun c54 => ?_) (fun c54 => ?_)
      · skip
        refine W.widen (k := 96) (n := 2724) (by omega) (by omega) ?_
        exact L1014 rfl _ _ _ hS (lv_sub hl [0, 1, 2, 3] rfl)
      · skip
        exact absurd (by rw [q_high (xs 1) (xs 2)]; exact lc_self) c54
    · refine lv_tableIn (off := 590) (tgt := 622) hx hb dL_law_32 t1 t2 (by rw [z3]; rfl) (by decide) ?_
      refine lv_aload_n hx hb dL_law_622 rfl (lv_at hl 2 rfl) ?_
      refine lawXi (wm := wM cy ad9 SM0 ++ []) (wx := wD cy adx SD0 ++ wX cy adx xax (fun _ => 0, 1) (fun _ => 0, 1)) (As := []) (rest := []) (q0 := 43) (r0 := (RX8, TX8, 11)) hx hb hml hown htw hK hP hD hS hA hl.1 wX_0 rfl gBlind (fun U hU hW => ⟨rfl, by rw [hU], by rw [hU]; exact va_right hP, va_K.moved hW.alike hK, (va_rightD hD).weaken (fun _ _ _ _ => trivial)⟩) (cT_ambiguous l D cy adx xax SD0 (fun _ => 0, 1) (fun _ => 0, 1) _ ) (cwV 0 htw gL_law_X8_ambiguous rfl rfl rfl (by decide +kernel) ⟨Nat.le_of_ble_eq_true rfl, Nat.le_of_ble_eq_true rfl⟩) rfl rfl (Nat.le_of_ble_eq_true rfl) ⟨Nat.le_of_ble_eq_true rfl, Nat.le_of_ble_eq_true rfl⟩ dL_law_623 (fun r55 w55 H locs e55 hP hD hS => ?_)
      rw [show r55 = (lpN fAmb 6 0 (nI 0, SD0)).1 from e55]
      refine lv_aload_n hx hb dL_law_626 rfl (lv_at hl 1 rfl) ?_
      refine gCalli (ws := wM cy ad9 SM0 ++ []) (As := []) (rest := [.int ((lpN fAmb 6 0 (nI 0, SD0)).1)]) (q0 := 0) (r0 := (RX9, TX9, 36)) hx hb hml hown htw hK hP hD hS hA hl.1 wM_0 rfl (cN_ambiguous l D cy ad9 [] SM0 _ rfl qZs qU0 qU1 qU2 qU3) (cwV 0 htw gL_law_X9_ambiguous rfl rfl rfl (by decide +kernel) ⟨Nat.le_of_ble_eq_true rfl, Nat.le_of_ble_eq_true rfl⟩) rfl rfl (Nat.le_of_ble_eq_true rfl) ⟨Nat.le_of_ble_eq_true rfl, Nat.le_of_ble_eq_true rfl⟩ dL_law_627 (fun r56 w56 H locs e56 hP hD hS => ?_)
      rw [show r56 = lpN fAm9 6 0 (nI 0) from e56]
      refine lv_icmp_eq (tgt := 1014) hx hb dL_law_630 (by decide) (fun c57 => ?_) (fun c57 => ?_)
      · skip
        refine W.widen (k := 96) (n := 2724) (by omega) (by omega) ?_
        exact L1014 rfl _ _ _ hS (lv_sub hl [0, 1, 2, 3] rfl)
      · skip
        exact absurd (q_ambiguous) c57
    · refine lv_tableIn (off := 603) (tgt := 635) hx hb dL_law_32 t1 t2 (by rw [z3]; rfl) (by decide) ?_
      refine lv_aload_n hx hb dL_law_635 rfl (lv_at hl 2 rfl) ?_
      refine lv_aload_n hx hb dL_law_636 rfl (lv_at hl 3 rfl) ?_
      refine lv_iload_n hx hb dL_law_637 rfl (lv_at hl 0 rfl) ?_
      refine lv_iconst (v := nI 1) hx hb dL_law_638 (by decide) ?_
      refine lv_iadd hx hb dL_law_639 ?_
      rw [nI_add]
      refine va_sld hx hb hX hbl hbA hS (i := nI (0 + 1)) (vp_in_nI (by omega) (by decide)) dL_law_640 ?_
      rw [show (nI (0 + 1)).toNatClampNeg = 1 from by decide]
      refine lv_aload_n hx hb dL_law_641 rfl (lv_at hl 3 rfl) ?_
      refine lv_iload_n hx hb dL_law_642 rfl (lv_at hl 0 rfl) ?_
      refine lv_iconst (v := nI 2) hx hb dL_law_643 (by decide) ?_
      refine lv_iadd hx hb dL_law_644 ?_
      rw [nI_add]
      refine va_sld hx hb hX hbl hbA hS (i := nI (0 + 2)) (vp_in_nI (by omega) (by decide)) dL_law_645 ?_
      rw [show (nI (0 + 2)).toNatClampNeg = 2 from by decide]
      refine lv_aload_n hx hb dL_law_646 rfl (lv_at hl 3 rfl) ?_
      refine lv_iload_n hx hb dL_law_647 rfl (lv_at hl 0 rfl) ?_
      refine lv_iconst (v := nI 3) hx hb dL_law_648 (by decide) ?_
      refine lv_iadd hx hb dL_law_649 ?_
      rw [nI_add]
      refine va_sld hx hb hX hbl hbA hS (i := nI (0 + 3)) (vp_in_nI (by omega) (by decide)) dL_law_650 ?_
      rw [show (nI (0 + 3)).toNatClampNeg = 3 from by decide]
      refine lawXl (wm := wM cy ad9 SM0 ++ []) (wx := wD cy adx SD0 ++ wX cy adx xax (fun _ => 0, 1) (fun _ => 0, 1)) (As := [.int (xs 1), .int (xs 2), .int (xs 3)]) (rest := []) (q0 := 43) (r0 := (RX8, TX8, 11)) hx hb hml hown htw hK hP hD hS hA hl.1 wX_0 rfl gBlind (fun U hU hW => ⟨rfl, by rw [hU], by rw [hU]; exact va_right hP, va_K.moved hW.alike hK, (va_rightD hD).weaken (fun _ _ _ _ => trivial)⟩) (cT_value l D cy adx xax SD0 (fun _ => 0, 1) (fun _ => 0, 1) _ (xs 1) (xs 2) (xs 3)) (cwV 3 htw gL_law_X8_value rfl rfl rfl (by decide +kernel) ⟨Nat.le_of_ble_eq_true rfl, Nat.le_of_ble_eq_true rfl⟩) rfl rfl (Nat.le_of_ble_eq_true rfl) ⟨Nat.le_of_ble_eq_true rfl, Nat.le_of_ble_eq_true rfl⟩ dL_law_651 (fun r58 w58 H locs e58 hP hD hS => ?_)
      rw [show r58 = (-1000000000000000001) from e58]
      refine lv_aload_n hx hb dL_law_654 rfl (lv_at hl 1 rfl) ?_
      refine lv_aload_n hx hb dL_law_655 rfl (lv_at hl 3 rfl) ?_
      refine lv_iload_n hx hb dL_law_656 rfl (lv_at hl 0 rfl) ?_
      refine lv_iconst (v := nI 1) hx hb dL_law_657 (by decide) ?_
      refine lv_iadd hx hb dL_law_658 ?_
      rw [nI_add]
      refine va_sld hx hb hX hbl hbA hS (i := nI (0 + 1)) (vp_in_nI (by omega) (by decide)) dL_law_659 ?_
      rw [show (nI (0 + 1)).toNatClampNeg = 1 from by decide]
      refine lv_aload_n hx hb dL_law_660 rfl (lv_at hl 3 rfl) ?_
      refine lv_iload_n hx hb dL_law_661 rfl (lv_at hl 0 rfl) ?_
      refine lv_iconst (v := nI 2) hx hb dL_law_662 (by decide) ?_
      refine lv_iadd hx hb dL_law_663 ?_
      rw [nI_add]
      refine va_sld hx hb hX hbl hbA hS (i := nI (0 + 2)) (vp_in_nI (by omega) (by decide)) dL_law_664 ?_
      rw [show (nI (0 + 2)).toNatClampNeg = 2 from by decide]
      refine lv_aload_n hx hb dL_law_665 rfl (lv_at hl 3 rfl) ?_
      refine lv_iload_n hx hb dL_law_666 rfl (lv_at hl 0 rfl) ?_
      refine lv_iconst (v := nI 3) hx hb dL_law_667 (by decide) ?_
      refine lv_iadd hx hb dL_law_668 ?_
      rw [nI_add]
      refine va_sld hx hb hX hbl hbA hS (i := nI (0 + 3)) (vp_in_nI (by omega) (by decide)) dL_law_669 ?_
      rw [show (nI (0 + 3)).toNatClampNeg = 3 from by decide]
      refine gCalll (ws := wM cy ad9 SM0 ++ []) (As := [.int (xs 1), .int (xs 2), .int (xs 3)]) (rest := [.long (-1000000000000000001)]) (q0 := 0) (r0 := (RX9, TX9, 36)) hx hb hml hown htw hK hP hD hS hA hl.1 wM_0 rfl (cN_value l D cy ad9 [] SM0 _ qOne (xs 1) (xs 2) (xs 3)) (cwV 3 htw gL_law_X9_value rfl rfl rfl (by decide +kernel) ⟨Nat.le_of_ble_eq_true rfl, Nat.le_of_ble_eq_true rfl⟩) rfl rfl (Nat.le_of_ble_eq_true rfl) ⟨Nat.le_of_ble_eq_true rfl, Nat.le_of_ble_eq_true rfl⟩ dL_law_670 (fun r59 w59 H locs e59 hP hD hS => ?_)
      rw [show r59 = (-1000000000000000001) from e59]
      refine W.lcmp hx hb dL_law_673 ?_
      refine lv_if_eq (tgt := 1014) hx hb dL_law_674 (by decide) (fun c60 => ?_) (fun c60 => ?_)
      · skip
        refine W.widen (k := 96) (n := 2724) (by omega) (by omega) ?_
        exact L1014 rfl _ _ _ hS (lv_sub hl [0, 1, 2, 3] rfl)
      · skip
        exact absurd (by rw [q_value (xs 1) (xs 2) (xs 3)]; exact lc_self) c60
    · refine lv_tableIn (off := 647) (tgt := 679) hx hb dL_law_32 t1 t2 (by rw [z3]; rfl) (by decide) ?_
      refine lv_aload_n hx hb dL_law_679 rfl (lv_at hl 2 rfl) ?_
      refine lv_aload_n hx hb dL_law_680 rfl (lv_at hl 3 rfl) ?_
      refine lv_iload_n hx hb dL_law_681 rfl (lv_at hl 0 rfl) ?_
      refine lv_iconst (v := nI 1) hx hb dL_law_682 (by decide) ?_
      refine lv_iadd hx hb dL_law_683 ?_
      rw [nI_add]
      refine va_sld hx hb hX hbl hbA hS (i := nI (0 + 1)) (vp_in_nI (by omega) (by decide)) dL_law_684 ?_
      rw [show (nI (0 + 1)).toNatClampNeg = 1 from by decide]
      refine lawXi (wm := wM cy ad9 SM0 ++ []) (wx := wD cy adx SD0 ++ wX cy adx xax (fun _ => 0, 1) (fun _ => 0, 1)) (As := [.int (xs 1)]) (rest := []) (q0 := 43) (r0 := (RX8, TX8, 11)) hx hb hml hown htw hK hP hD hS hA hl.1 wX_0 rfl gBlind (fun U hU hW => ⟨rfl, by rw [hU], by rw [hU]; exact va_right hP, va_K.moved hW.alike hK, (va_rightD hD).weaken (fun _ _ _ _ => trivial)⟩) (cT_status l D cy adx xax SD0 (fun _ => 0, 1) (fun _ => 0, 1) _ (xs 1)) (cwV 1 htw gL_law_X8_status rfl rfl rfl (by decide +kernel) ⟨Nat.le_of_ble_eq_true rfl, Nat.le_of_ble_eq_true rfl⟩) rfl rfl (Nat.le_of_ble_eq_true rfl) ⟨Nat.le_of_ble_eq_true rfl, Nat.le_of_ble_eq_true rfl⟩ dL_law_685 (fun r61 w61 H locs e61 hP hD hS => ?_)
      rw [show r61 = -1 from e61]
      refine lv_aload_n hx hb dL_law_688 rfl (lv_at hl 1 rfl) ?_
      refine lv_aload_n hx hb dL_law_689 rfl (lv_at hl 3 rfl) ?_
      refine lv_iload_n hx hb dL_law_690 rfl (lv_at hl 0 rfl) ?_
      refine lv_iconst (v := nI 1) hx hb dL_law_691 (by decide) ?_
      refine lv_iadd hx hb dL_law_692 ?_
      rw [nI_add]
      refine va_sld hx hb hX hbl hbA hS (i := nI (0 + 1)) (vp_in_nI (by omega) (by decide)) dL_law_693 ?_
      rw [show (nI (0 + 1)).toNatClampNeg = 1 from by decide]
      refine gCalli (ws := wM cy ad9 SM0 ++ []) (As := [.int (xs 1)]) (rest := [.int (-1)]) (q0 := 0) (r0 := (RX9, TX9, 36)) hx hb hml hown htw hK hP hD hS hA hl.1 wM_0 rfl (cN_status l D cy ad9 [] SM0 _ qOne (xs 1)) (cwV 1 htw gL_law_X9_status rfl rfl rfl (by decide +kernel) ⟨Nat.le_of_ble_eq_true rfl, Nat.le_of_ble_eq_true rfl⟩) rfl rfl (Nat.le_of_ble_eq_true rfl) ⟨Nat.le_of_ble_eq_true rfl, Nat.le_of_ble_eq_true rfl⟩ dL_law_694 (fun r62 w62 H locs e62 hP hD hS => ?_)
      rw [show r62 = -1 from e62]
      refine lv_icmp_eq (tgt := 1014) hx hb dL_law_697 (by decide) (fun c63 => ?_) (fun c63 => ?_)
      · skip
        refine W.widen (k := 96) (n := 2724) (by omega) (by omega) ?_
        exact L1014 rfl _ _ _ hS (lv_sub hl [0, 1, 2, 3] rfl)
      · skip
        exact absurd (q_status (xs 1)) c63
    · refine lv_tableIn (off := 670) (tgt := 702) hx hb dL_law_32 t1 t2 (by rw [z3]; rfl) (by decide) ?_
      refine lv_aload_n hx hb dL_law_702 rfl (lv_at hl 2 rfl) ?_
      refine lv_aload_n hx hb dL_law_703 rfl (lv_at hl 3 rfl) ?_
      refine lv_iload_n hx hb dL_law_704 rfl (lv_at hl 0 rfl) ?_
      refine lv_iconst (v := nI 1) hx hb dL_law_705 (by decide) ?_
      refine lv_iadd hx hb dL_law_706 ?_
      rw [nI_add]
      refine va_sld hx hb hX hbl hbA hS (i := nI (0 + 1)) (vp_in_nI (by omega) (by decide)) dL_law_707 ?_
      rw [show (nI (0 + 1)).toNatClampNeg = 1 from by decide]
      refine lv_aload_n hx hb dL_law_708 rfl (lv_at hl 3 rfl) ?_
      refine lv_iload_n hx hb dL_law_709 rfl (lv_at hl 0 rfl) ?_
      refine lv_iconst (v := nI 2) hx hb dL_law_710 (by decide) ?_
      refine lv_iadd hx hb dL_law_711 ?_
      rw [nI_add]
      refine va_sld hx hb hX hbl hbA hS (i := nI (0 + 2)) (vp_in_nI (by omega) (by decide)) dL_law_712 ?_
      rw [show (nI (0 + 2)).toNatClampNeg = 2 from by decide]
      refine lv_aload_n hx hb dL_law_713 rfl (lv_at hl 3 rfl) ?_
      refine lv_iload_n hx hb dL_law_714 rfl (lv_at hl 0 rfl) ?_
      refine lv_iconst (v := nI 3) hx hb dL_law_715 (by decide) ?_
      refine lv_iadd hx hb dL_law_716 ?_
      rw [nI_add]
      refine va_sld hx hb hX hbl hbA hS (i := nI (0 + 3)) (vp_in_nI (by omega) (by decide)) dL_law_717 ?_
      rw [show (nI (0 + 3)).toNatClampNeg = 3 from by decide]
      refine lawXl (wm := wM cy ad9 SM0 ++ []) (wx := wD cy adx SD0 ++ wX cy adx xax (fun _ => 0, 1) (fun _ => 0, 1)) (As := [.int (xs 1), .int (xs 2), .int (xs 3)]) (rest := []) (q0 := 43) (r0 := (RX8, TX8, 11)) hx hb hml hown htw hK hP hD hS hA hl.1 wX_0 rfl gBlind (fun U hU hW => ⟨rfl, by rw [hU], by rw [hU]; exact va_right hP, va_K.moved hW.alike hK, (va_rightD hD).weaken (fun _ _ _ _ => trivial)⟩) (cT_reach l D cy adx xax SD0 (fun _ => 0, 1) (fun _ => 0, 1) _ (xs 1) (xs 2) (xs 3)) (cwV 3 htw gL_law_X8_reach rfl rfl rfl (by decide +kernel) ⟨Nat.le_of_ble_eq_true rfl, Nat.le_of_ble_eq_true rfl⟩) rfl rfl (Nat.le_of_ble_eq_true rfl) ⟨Nat.le_of_ble_eq_true rfl, Nat.le_of_ble_eq_true rfl⟩ dL_law_718 (fun r64 w64 H locs e64 hP hD hS => ?_)
      rw [show r64 = kVA SD0 (xs 1) (xs 2) (xs 3) (nI 1) from e64]
      refine lv_aload_n hx hb dL_law_721 rfl (lv_at hl 1 rfl) ?_
      refine lv_aload_n hx hb dL_law_722 rfl (lv_at hl 3 rfl) ?_
      refine lv_iload_n hx hb dL_law_723 rfl (lv_at hl 0 rfl) ?_
      refine lv_iconst (v := nI 1) hx hb dL_law_724 (by decide) ?_
      refine lv_iadd hx hb dL_law_725 ?_
      rw [nI_add]
      refine va_sld hx hb hX hbl hbA hS (i := nI (0 + 1)) (vp_in_nI (by omega) (by decide)) dL_law_726 ?_
      rw [show (nI (0 + 1)).toNatClampNeg = 1 from by decide]
      refine lv_aload_n hx hb dL_law_727 rfl (lv_at hl 3 rfl) ?_
      refine lv_iload_n hx hb dL_law_728 rfl (lv_at hl 0 rfl) ?_
      refine lv_iconst (v := nI 2) hx hb dL_law_729 (by decide) ?_
      refine lv_iadd hx hb dL_law_730 ?_
      rw [nI_add]
      refine va_sld hx hb hX hbl hbA hS (i := nI (0 + 2)) (vp_in_nI (by omega) (by decide)) dL_law_731 ?_
      rw [show (nI (0 + 2)).toNatClampNeg = 2 from by decide]
      refine lv_aload_n hx hb dL_law_732 rfl (lv_at hl 3 rfl) ?_
      refine lv_iload_n hx hb dL_law_733 rfl (lv_at hl 0 rfl) ?_
      refine lv_iconst (v := nI 3) hx hb dL_law_734 (by decide) ?_
      refine lv_iadd hx hb dL_law_735 ?_
      rw [nI_add]
      refine va_sld hx hb hX hbl hbA hS (i := nI (0 + 3)) (vp_in_nI (by omega) (by decide)) dL_law_736 ?_
      rw [show (nI (0 + 3)).toNatClampNeg = 3 from by decide]
      refine gCalll (ws := wM cy ad9 SM0 ++ []) (As := [.int (xs 1), .int (xs 2), .int (xs 3)]) (rest := [.long (kVA SD0 (xs 1) (xs 2) (xs 3) (nI 1))]) (q0 := 0) (r0 := (RX9, TX9, 36)) hx hb hml hown htw hK hP hD hS hA hl.1 wM_0 rfl (cN_reach l D cy ad9 [] SM0 _ qYs (E := qR) (xs 1) (xs 2) (xs 3) qRs) (cwV 3 htw gL_law_X9_reach rfl rfl rfl (by decide +kernel) ⟨Nat.le_of_ble_eq_true rfl, Nat.le_of_ble_eq_true rfl⟩) rfl rfl (Nat.le_of_ble_eq_true rfl) ⟨Nat.le_of_ble_eq_true rfl, Nat.le_of_ble_eq_true rfl⟩ dL_law_737 (fun r65 w65 H locs e65 hP hD hS => ?_)
      rw [show r65 = (if j_isVariable (xs 1) = 0 then (-1000000000000000001) else if j_isPart (xs 2) = 0 then (-1000000000000000002) else if j_isPart (xs 3) = 0 then (-1000000000000000002) else jEnd (qR (if (xs 2) = 0 then nI 1 else -1)) (xs 1) (xs 3)) from e65]
      refine W.lcmp hx hb dL_law_740 ?_
      refine lv_if_eq (tgt := 1014) hx hb dL_law_741 (by decide) (fun c66 => ?_) (fun c66 => ?_)
      · skip
        refine W.widen (k := 96) (n := 2724) (by omega) (by omega) ?_
        exact L1014 rfl _ _ _ hS (lv_sub hl [0, 1, 2, 3] rfl)
      · skip
        exact absurd (by rw [q_reach (xs 1) (xs 2) (xs 3)]; exact lc_self) c66
    · refine lv_tableIn (off := 714) (tgt := 746) hx hb dL_law_32 t1 t2 (by rw [z3]; rfl) (by decide) ?_
      refine lv_aload_n hx hb dL_law_746 rfl (lv_at hl 2 rfl) ?_
      refine lv_aload_n hx hb dL_law_747 rfl (lv_at hl 3 rfl) ?_
      refine lv_iload_n hx hb dL_law_748 rfl (lv_at hl 0 rfl) ?_
      refine lv_iconst (v := nI 1) hx hb dL_law_749 (by decide) ?_
      refine lv_iadd hx hb dL_law_750 ?_
      rw [nI_add]
      refine va_sld hx hb hX hbl hbA hS (i := nI (0 + 1)) (vp_in_nI (by omega) (by decide)) dL_law_751 ?_
      rw [show (nI (0 + 1)).toNatClampNeg = 1 from by decide]
      refine lawXi (wm := wM cy ad9 SM0 ++ []) (wx := wD cy adx SD0 ++ wX cy adx xax (fun _ => 0, 1) (fun _ => 0, 1)) (As := [.int (xs 1)]) (rest := []) (q0 := 43) (r0 := (RX8, TX8, 11)) hx hb hml hown htw hK hP hD hS hA hl.1 wX_0 rfl gBlind (fun U hU hW => ⟨rfl, by rw [hU], by rw [hU]; exact va_right hP, va_K.moved hW.alike hK, (va_rightD hD).weaken (fun _ _ _ _ => trivial)⟩) (cT_connected l D cy adx xax SD0 (fun _ => 0, 1) (fun _ => 0, 1) _ (xs 1)) (cwV 1 htw gL_law_X8_connected rfl rfl rfl (by decide +kernel) ⟨Nat.le_of_ble_eq_true rfl, Nat.le_of_ble_eq_true rfl⟩) rfl rfl (Nat.le_of_ble_eq_true rfl) ⟨Nat.le_of_ble_eq_true rfl, Nat.le_of_ble_eq_true rfl⟩ dL_law_752 (fun r67 w67 H locs e67 hP hD hS => ?_)
      rw [show r67 = (if k_isVariable (xs 1) = 0 then -1 else nI 1 <<< ((xs 1) &&& 31)) from e67]
      refine lv_aload_n hx hb dL_law_755 rfl (lv_at hl 1 rfl) ?_
      refine lv_aload_n hx hb dL_law_756 rfl (lv_at hl 3 rfl) ?_
      refine lv_iload_n hx hb dL_law_757 rfl (lv_at hl 0 rfl) ?_
      refine lv_iconst (v := nI 1) hx hb dL_law_758 (by decide) ?_
      refine lv_iadd hx hb dL_law_759 ?_
      rw [nI_add]
      refine va_sld hx hb hX hbl hbA hS (i := nI (0 + 1)) (vp_in_nI (by omega) (by decide)) dL_law_760 ?_
      rw [show (nI (0 + 1)).toNatClampNeg = 1 from by decide]
      refine gCalli (ws := wM cy ad9 SM0 ++ []) (As := [.int (xs 1)]) (rest := [.int (if k_isVariable (xs 1) = 0 then -1 else nI 1 <<< ((xs 1) &&& 31))]) (q0 := 0) (r0 := (RX9, TX9, 36)) hx hb hml hown htw hK hP hD hS hA hl.1 wM_0 rfl (cN_connected l D cy ad9 [] SM0 _ qOne (xs 1)) (cwV 1 htw gL_law_X9_connected rfl rfl rfl (by decide +kernel) ⟨Nat.le_of_ble_eq_true rfl, Nat.le_of_ble_eq_true rfl⟩) rfl rfl (Nat.le_of_ble_eq_true rfl) ⟨Nat.le_of_ble_eq_true rfl, Nat.le_of_ble_eq_true rfl⟩ dL_law_761 (fun r68 w68 H locs e68 hP hD hS => ?_)
      rw [show r68 = (if j_isVariable (xs 1) = 0 then -1 else nI 1 <<< ((xs 1) &&& 31)) from e68]
      refine lv_icmp_eq (tgt := 1014) hx hb dL_law_764 (by decide) (fun c69 => ?_) (fun c69 => ?_)
      · skip
        refine W.widen (k := 96) (n := 2724) (by omega) (by omega) ?_
        exact L1014 rfl _ _ _ hS (lv_sub hl [0, 1, 2, 3] rfl)
      · skip
        exact absurd (q_connected (xs 1)) c69
    · refine lv_tableIn (off := 737) (tgt := 769) hx hb dL_law_32 t1 t2 (by rw [z3]; rfl) (by decide) ?_
      refine lv_aload_n hx hb dL_law_769 rfl (lv_at hl 2 rfl) ?_
      refine lv_aload_n hx hb dL_law_770 rfl (lv_at hl 3 rfl) ?_
      refine lv_iload_n hx hb dL_law_771 rfl (lv_at hl 0 rfl) ?_
      refine lv_iconst (v := nI 1) hx hb dL_law_772 (by decide) ?_
      refine lv_iadd hx hb dL_law_773 ?_
      rw [nI_add]
      refine va_sld hx hb hX hbl hbA hS (i := nI (0 + 1)) (vp_in_nI (by omega) (by decide)) dL_law_774 ?_
      rw [show (nI (0 + 1)).toNatClampNeg = 1 from by decide]
      refine lv_aload_n hx hb dL_law_775 rfl (lv_at hl 3 rfl) ?_
      refine lv_iload_n hx hb dL_law_776 rfl (lv_at hl 0 rfl) ?_
      refine lv_iconst (v := nI 2) hx hb dL_law_777 (by decide) ?_
      refine lv_iadd hx hb dL_law_778 ?_
      rw [nI_add]
      refine va_sld hx hb hX hbl hbA hS (i := nI (0 + 2)) (vp_in_nI (by omega) (by decide)) dL_law_779 ?_
      rw [show (nI (0 + 2)).toNatClampNeg = 2 from by decide]
      refine lawXi (wm := wM cy ad9 SM0 ++ []) (wx := wD cy adx SD0 ++ wX cy adx xax (fun _ => 0, 1) (fun _ => 0, 1)) (As := [.int (xs 1), .int (xs 2)]) (rest := []) (q0 := 43) (r0 := (RX8, TX8, 11)) hx hb hml hown htw hK hP hD hS hA hl.1 wX_0 rfl gBlind (fun U hU hW => ⟨rfl, by rw [hU], by rw [hU]; exact va_right hP, va_K.moved hW.alike hK, (va_rightD hD).weaken (fun _ _ _ _ => trivial)⟩) (cT_blockers l D cy adx xax SD0 (fun _ => 0, 1) (fun _ => 0, 1) _ (xs 1) (xs 2)) (cwV 2 htw gL_law_X8_blockers rfl rfl rfl (by decide +kernel) ⟨Nat.le_of_ble_eq_true rfl, Nat.le_of_ble_eq_true rfl⟩) rfl rfl (Nat.le_of_ble_eq_true rfl) ⟨Nat.le_of_ble_eq_true rfl, Nat.le_of_ble_eq_true rfl⟩ dL_law_780 (fun r70 w70 H locs e70 hP hD hS => ?_)
      rw [show r70 = (if k_isRelation (xs 1) = 0 then -2 else if k_isWithin (xs 2) (nI 200) = 0 then -2 else -5) from e70]
      refine lv_aload_n hx hb dL_law_783 rfl (lv_at hl 1 rfl) ?_
      refine lv_aload_n hx hb dL_law_784 rfl (lv_at hl 3 rfl) ?_
      refine lv_iload_n hx hb dL_law_785 rfl (lv_at hl 0 rfl) ?_
      refine lv_iconst (v := nI 1) hx hb dL_law_786 (by decide) ?_
      refine lv_iadd hx hb dL_law_787 ?_
      rw [nI_add]
      refine va_sld hx hb hX hbl hbA hS (i := nI (0 + 1)) (vp_in_nI (by omega) (by decide)) dL_law_788 ?_
      rw [show (nI (0 + 1)).toNatClampNeg = 1 from by decide]
      refine lv_aload_n hx hb dL_law_789 rfl (lv_at hl 3 rfl) ?_
      refine lv_iload_n hx hb dL_law_790 rfl (lv_at hl 0 rfl) ?_
      refine lv_iconst (v := nI 2) hx hb dL_law_791 (by decide) ?_
      refine lv_iadd hx hb dL_law_792 ?_
      rw [nI_add]
      refine va_sld hx hb hX hbl hbA hS (i := nI (0 + 2)) (vp_in_nI (by omega) (by decide)) dL_law_793 ?_
      rw [show (nI (0 + 2)).toNatClampNeg = 2 from by decide]
      refine gCalli (ws := wM cy ad9 SM0 ++ []) (As := [.int (xs 1), .int (xs 2)]) (rest := [.int (if k_isRelation (xs 1) = 0 then -2 else if k_isWithin (xs 2) (nI 200) = 0 then -2 else -5)]) (q0 := 0) (r0 := (RX9, TX9, 36)) hx hb hml hown htw hK hP hD hS hA hl.1 wM_0 rfl (cN_blockers l D cy ad9 [] SM0 _ (fun _ _ => rfl) (xs 1) (xs 2)) (cwV 2 htw gL_law_X9_blockers rfl rfl rfl (by decide +kernel) ⟨Nat.le_of_ble_eq_true rfl, Nat.le_of_ble_eq_true rfl⟩) rfl rfl (Nat.le_of_ble_eq_true rfl) ⟨Nat.le_of_ble_eq_true rfl, Nat.le_of_ble_eq_true rfl⟩ dL_law_794 (fun r71 w71 H locs e71 hP hD hS => ?_)
      rw [show r71 = (if j_in (xs 1) (nI 0) (nI 2) = 0 then -2 else if j_isConstant (xs 2) = 0 then -2 else -5) from e71]
      refine lv_icmp_eq (tgt := 1014) hx hb dL_law_797 (by decide) (fun c72 => ?_) (fun c72 => ?_)
      · skip
        refine W.widen (k := 96) (n := 2724) (by omega) (by omega) ?_
        exact L1014 rfl _ _ _ hS (lv_sub hl [0, 1, 2, 3] rfl)
      · skip
        exact absurd (q_blockers (xs 1) (xs 2)) c72
    · refine lv_tableIn (off := 770) (tgt := 802) hx hb dL_law_32 t1 t2 (by rw [z3]; rfl) (by decide) ?_
      refine lv_aload_n hx hb dL_law_802 rfl (lv_at hl 2 rfl) ?_
      refine lv_aload_n hx hb dL_law_803 rfl (lv_at hl 3 rfl) ?_
      refine lv_iload_n hx hb dL_law_804 rfl (lv_at hl 0 rfl) ?_
      refine lv_iconst (v := nI 1) hx hb dL_law_805 (by decide) ?_
      refine lv_iadd hx hb dL_law_806 ?_
      rw [nI_add]
      refine va_sld hx hb hX hbl hbA hS (i := nI (0 + 1)) (vp_in_nI (by omega) (by decide)) dL_law_807 ?_
      rw [show (nI (0 + 1)).toNatClampNeg = 1 from by decide]
      refine lv_aload_n hx hb dL_law_808 rfl (lv_at hl 3 rfl) ?_
      refine lv_iload_n hx hb dL_law_809 rfl (lv_at hl 0 rfl) ?_
      refine lv_iconst (v := nI 2) hx hb dL_law_810 (by decide) ?_
      refine lv_iadd hx hb dL_law_811 ?_
      rw [nI_add]
      refine va_sld hx hb hX hbl hbA hS (i := nI (0 + 2)) (vp_in_nI (by omega) (by decide)) dL_law_812 ?_
      rw [show (nI (0 + 2)).toNatClampNeg = 2 from by decide]
      refine lv_aload_n hx hb dL_law_813 rfl (lv_at hl 3 rfl) ?_
      refine lv_iload_n hx hb dL_law_814 rfl (lv_at hl 0 rfl) ?_
      refine lv_iconst (v := nI 3) hx hb dL_law_815 (by decide) ?_
      refine lv_iadd hx hb dL_law_816 ?_
      rw [nI_add]
      refine va_sld hx hb hX hbl hbA hS (i := nI (0 + 3)) (vp_in_nI (by omega) (by decide)) dL_law_817 ?_
      rw [show (nI (0 + 3)).toNatClampNeg = 3 from by decide]
      refine lv_aload_n hx hb dL_law_818 rfl (lv_at hl 3 rfl) ?_
      refine lv_iload_n hx hb dL_law_819 rfl (lv_at hl 0 rfl) ?_
      refine lv_iconst (v := nI 4) hx hb dL_law_820 (by decide) ?_
      refine lv_iadd hx hb dL_law_821 ?_
      rw [nI_add]
      refine va_sld hx hb hX hbl hbA hS (i := nI (0 + 4)) (vp_in_nI (by omega) (by decide)) dL_law_822 ?_
      rw [show (nI (0 + 4)).toNatClampNeg = 4 from by decide]
      refine lawXl (wm := wM cy ad9 SM0 ++ []) (wx := wD cy adx SD0 ++ wX cy adx xax (fun _ => 0, 1) (fun _ => 0, 1)) (As := [.int (xs 1), .int (xs 2), .int (xs 3), .int (xs 4)]) (rest := []) (q0 := 43) (r0 := (RX8, TX8, 11)) hx hb hml hown htw hK hP hD hS hA hl.1 wX_0 rfl fBlind (fun U hU hW => ⟨rfl, by rw [hU], by rw [hU]; exact va_right hP, va_K.moved hW.alike hK, (va_rightD hD).weaken (fun _ _ _ _ => trivial), kF.warm hW hkf⟩) (cT_force l D cy adx xax SD0 (fun _ => 0, 1) (fun _ => 0, 1) _ (xs 1) (xs 2) (xs 3) (xs 4)) (cwV 4 htw gL_law_X8_force rfl rfl rfl (by decide +kernel) ⟨Nat.le_of_ble_eq_true rfl, Nat.le_of_ble_eq_true rfl⟩) rfl rfl (Nat.le_of_ble_eq_true rfl) ⟨Nat.le_of_ble_eq_true rfl, Nat.le_of_ble_eq_true rfl⟩ dL_law_823 (fun r73 w73 H locs e73 hP hD hS => ?_)
      rw [show r73 = (if k_isVariable (xs 1) = 0 then (-1000000000000000001) else if k_isWithin (xs 2) (nI 1000) = 0 then (-1000000000000000002) else if k_isSoft (xs 3) = 0 then (-1000000000000000002) else if k_isPart (xs 4) = 0 then (-1000000000000000002) else if ¬ lg_cmp ((kCo (kAt1 SD0 (xs 1).toNatClampNeg (xs 2)) (fun _ => 0, 1)).1 0) 0 = 0 then (-1000000000000000003) else kCoP (kCo (kAt1 SD0 (xs 1).toNatClampNeg (xs 2)) (fun _ => 0, 1)).1 (kCo (kAt1 SD0 (xs 1).toNatClampNeg (xs 2)) (fun _ => 0, 1)).2 (xs 3) (xs 4)) from e73]
      refine lv_aload_n hx hb dL_law_826 rfl (lv_at hl 1 rfl) ?_
      refine lv_aload_n hx hb dL_law_827 rfl (lv_at hl 3 rfl) ?_
      refine lv_iload_n hx hb dL_law_828 rfl (lv_at hl 0 rfl) ?_
      refine lv_iconst (v := nI 1) hx hb dL_law_829 (by decide) ?_
      refine lv_iadd hx hb dL_law_830 ?_
      rw [nI_add]
      refine va_sld hx hb hX hbl hbA hS (i := nI (0 + 1)) (vp_in_nI (by omega) (by decide)) dL_law_831 ?_
      rw [show (nI (0 + 1)).toNatClampNeg = 1 from by decide]
      refine lv_aload_n hx hb dL_law_832 rfl (lv_at hl 3 rfl) ?_
      refine lv_iload_n hx hb dL_law_833 rfl (lv_at hl 0 rfl) ?_
      refine lv_iconst (v := nI 2) hx hb dL_law_834 (by decide) ?_
      refine lv_iadd hx hb dL_law_835 ?_
      rw [nI_add]
      refine va_sld hx hb hX hbl hbA hS (i := nI (0 + 2)) (vp_in_nI (by omega) (by decide)) dL_law_836 ?_
      rw [show (nI (0 + 2)).toNatClampNeg = 2 from by decide]
      refine lv_aload_n hx hb dL_law_837 rfl (lv_at hl 3 rfl) ?_
      refine lv_iload_n hx hb dL_law_838 rfl (lv_at hl 0 rfl) ?_
      refine lv_iconst (v := nI 3) hx hb dL_law_839 (by decide) ?_
      refine lv_iadd hx hb dL_law_840 ?_
      rw [nI_add]
      refine va_sld hx hb hX hbl hbA hS (i := nI (0 + 3)) (vp_in_nI (by omega) (by decide)) dL_law_841 ?_
      rw [show (nI (0 + 3)).toNatClampNeg = 3 from by decide]
      refine lv_aload_n hx hb dL_law_842 rfl (lv_at hl 3 rfl) ?_
      refine lv_iload_n hx hb dL_law_843 rfl (lv_at hl 0 rfl) ?_
      refine lv_iconst (v := nI 4) hx hb dL_law_844 (by decide) ?_
      refine lv_iadd hx hb dL_law_845 ?_
      rw [nI_add]
      refine va_sld hx hb hX hbl hbA hS (i := nI (0 + 4)) (vp_in_nI (by omega) (by decide)) dL_law_846 ?_
      rw [show (nI (0 + 4)).toNatClampNeg = 4 from by decide]
      refine gCalll (ws := wM cy ad9 SM0 ++ []) (As := [.int (xs 1), .int (xs 2), .int (xs 3), .int (xs 4)]) (rest := [.long (if k_isVariable (xs 1) = 0 then (-1000000000000000001) else if k_isWithin (xs 2) (nI 1000) = 0 then (-1000000000000000002) else if k_isSoft (xs 3) = 0 then (-1000000000000000002) else if k_isPart (xs 4) = 0 then (-1000000000000000002) else if ¬ lg_cmp ((kCo (kAt1 SD0 (xs 1).toNatClampNeg (xs 2)) (fun _ => 0, 1)).1 0) 0 = 0 then (-1000000000000000003) else kCoP (kCo (kAt1 SD0 (xs 1).toNatClampNeg (xs 2)) (fun _ => 0, 1)).1 (kCo (kAt1 SD0 (xs 1).toNatClampNeg (xs 2)) (fun _ => 0, 1)).2 (xs 3) (xs 4))]) (q0 := 0) (r0 := (RX9, TX9, 36)) hx hb hml hown htw hK hP hD hS hA hl.1 wM_0 rfl (cN_force l D cy ad9 [] SM0 _ (xs 1) (xs 2) (xs 3) (xs 4) (b9 := fun _ => nI 1) (fun _ => Or.inr rfl) (Z := fun v0 => qFo v0 (xs 2)) (fun v0 h1 h2 => qFos v0 h1 (xs 2) h2)) (cwV 4 htw gL_law_X9_force rfl rfl rfl (by decide +kernel) ⟨Nat.le_of_ble_eq_true rfl, Nat.le_of_ble_eq_true rfl⟩) rfl rfl (Nat.le_of_ble_eq_true rfl) ⟨Nat.le_of_ble_eq_true rfl, Nat.le_of_ble_eq_true rfl⟩ dL_law_847 (fun r74 w74 H locs e74 hP hD hS => ?_)
      rw [show r74 = (if j_isVariable (xs 1) = 0 then (-1000000000000000001) else if j_in (xs 2) (-1000) (nI 1000) = 0 then (-1000000000000000002) else if j_in (xs 3) (nI 1) (nI 3) = 0 then (-1000000000000000002) else if j_isPart (xs 4) = 0 then (-1000000000000000002) else if nI 1 = 0 then (-1000000000000000003) else if (xs 4) = 0 then a13 (qFo (xs 1).toNatClampNeg (xs 2)) (xs 3).toNatClampNeg else a14 (qFo (xs 1).toNatClampNeg (xs 2)) (xs 3).toNatClampNeg) from e74]
      refine W.lcmp hx hb dL_law_850 ?_
      refine lv_if_eq (tgt := 1014) hx hb dL_law_851 (by decide) (fun c75 => ?_) (fun c75 => ?_)
      · skip
        refine W.widen (k := 96) (n := 2724) (by omega) (by omega) ?_
        exact L1014 rfl _ _ _ hS (lv_sub hl [0, 1, 2, 3] rfl)
      · skip
        exact absurd (by rw [q_force (xs 1) (xs 2) (xs 3) (xs 4)]; exact lc_self) c75
    · refine lv_tableIn (off := 824) (tgt := 856) hx hb dL_law_32 t1 t2 (by rw [z3]; rfl) (by decide) ?_
      refine lv_aload_n hx hb dL_law_856 rfl (lv_at hl 2 rfl) ?_
      refine lv_aload_n hx hb dL_law_857 rfl (lv_at hl 3 rfl) ?_
      refine lv_iload_n hx hb dL_law_858 rfl (lv_at hl 0 rfl) ?_
      refine lv_iconst (v := nI 1) hx hb dL_law_859 (by decide) ?_
      refine lv_iadd hx hb dL_law_860 ?_
      rw [nI_add]
      refine va_sld hx hb hX hbl hbA hS (i := nI (0 + 1)) (vp_in_nI (by omega) (by decide)) dL_law_861 ?_
      rw [show (nI (0 + 1)).toNatClampNeg = 1 from by decide]
      refine lv_aload_n hx hb dL_law_862 rfl (lv_at hl 3 rfl) ?_
      refine lv_iload_n hx hb dL_law_863 rfl (lv_at hl 0 rfl) ?_
      refine lv_iconst (v := nI 2) hx hb dL_law_864 (by decide) ?_
      refine lv_iadd hx hb dL_law_865 ?_
      rw [nI_add]
      refine va_sld hx hb hX hbl hbA hS (i := nI (0 + 2)) (vp_in_nI (by omega) (by decide)) dL_law_866 ?_
      rw [show (nI (0 + 2)).toNatClampNeg = 2 from by decide]
      refine lv_aload_n hx hb dL_law_867 rfl (lv_at hl 3 rfl) ?_
      refine lv_iload_n hx hb dL_law_868 rfl (lv_at hl 0 rfl) ?_
      refine lv_iconst (v := nI 3) hx hb dL_law_869 (by decide) ?_
      refine lv_iadd hx hb dL_law_870 ?_
      rw [nI_add]
      refine va_sld hx hb hX hbl hbA hS (i := nI (0 + 3)) (vp_in_nI (by omega) (by decide)) dL_law_871 ?_
      rw [show (nI (0 + 3)).toNatClampNeg = 3 from by decide]
      refine lawXi (wm := wM cy ad9 SM0 ++ []) (wx := wD cy adx SD0 ++ wX cy adx xax (fun _ => 0, 1) (fun _ => 0, 1)) (As := [.int (xs 1), .int (xs 2), .int (xs 3)]) (rest := []) (q0 := 43) (r0 := (RX8, TX8, 11)) hx hb hml hown htw hK hP hD hS hA hl.1 wX_0 rfl gBlind (fun U hU hW => ⟨rfl, by rw [hU], by rw [hU]; exact va_right hP, va_K.moved hW.alike hK, (va_rightD hD).weaken (fun _ _ _ _ => trivial)⟩) (cT_best l D cy adx xax SD0 (fun _ => 0, 1) (fun _ => 0, 1) _ qF0 qF (xs 1) (xs 2) (xs 3)) (cwV 3 htw gL_law_X8_best rfl rfl rfl (by decide +kernel) ⟨Nat.le_of_ble_eq_true rfl, Nat.le_of_ble_eq_true rfl⟩) rfl rfl (Nat.le_of_ble_eq_true rfl) ⟨Nat.le_of_ble_eq_true rfl, Nat.le_of_ble_eq_true rfl⟩ dL_law_872 (fun r76 w76 H locs e76 hP hD hS => ?_)
      rw [show r76 = (if k_isVariable (xs 1) = 0 then -1 else if k_isWithin (xs 2) (nI 1000) = 0 then -2 else if (xs 3) < (xs 2) then -2 else if (xs 2) + nI 15 < (xs 3) then -2 else if nI 1000 < (xs 3) then -2 else (xs 2) + nI 10000) from e76]
      refine lv_aload_n hx hb dL_law_875 rfl (lv_at hl 1 rfl) ?_
      refine lv_aload_n hx hb dL_law_876 rfl (lv_at hl 3 rfl) ?_
      refine lv_iload_n hx hb dL_law_877 rfl (lv_at hl 0 rfl) ?_
      refine lv_iconst (v := nI 1) hx hb dL_law_878 (by decide) ?_
      refine lv_iadd hx hb dL_law_879 ?_
      rw [nI_add]
      refine va_sld hx hb hX hbl hbA hS (i := nI (0 + 1)) (vp_in_nI (by omega) (by decide)) dL_law_880 ?_
      rw [show (nI (0 + 1)).toNatClampNeg = 1 from by decide]
      refine lv_aload_n hx hb dL_law_881 rfl (lv_at hl 3 rfl) ?_
      refine lv_iload_n hx hb dL_law_882 rfl (lv_at hl 0 rfl) ?_
      refine lv_iconst (v := nI 2) hx hb dL_law_883 (by decide) ?_
      refine lv_iadd hx hb dL_law_884 ?_
      rw [nI_add]
      refine va_sld hx hb hX hbl hbA hS (i := nI (0 + 2)) (vp_in_nI (by omega) (by decide)) dL_law_885 ?_
      rw [show (nI (0 + 2)).toNatClampNeg = 2 from by decide]
      refine lv_aload_n hx hb dL_law_886 rfl (lv_at hl 3 rfl) ?_
      refine lv_iload_n hx hb dL_law_887 rfl (lv_at hl 0 rfl) ?_
      refine lv_iconst (v := nI 3) hx hb dL_law_888 (by decide) ?_
      refine lv_iadd hx hb dL_law_889 ?_
      rw [nI_add]
      refine va_sld hx hb hX hbl hbA hS (i := nI (0 + 3)) (vp_in_nI (by omega) (by decide)) dL_law_890 ?_
      rw [show (nI (0 + 3)).toNatClampNeg = 3 from by decide]
      refine gCalli (ws := wM cy ad9 SM0 ++ []) (As := [.int (xs 1), .int (xs 2), .int (xs 3)]) (rest := [.int (if k_isVariable (xs 1) = 0 then -1 else if k_isWithin (xs 2) (nI 1000) = 0 then -2 else if (xs 3) < (xs 2) then -2 else if (xs 2) + nI 15 < (xs 3) then -2 else if nI 1000 < (xs 3) then -2 else (xs 2) + nI 10000)]) (q0 := 0) (r0 := (RX9, TX9, 36)) hx hb hml hown htw hK hP hD hS hA hl.1 wM_0 rfl (cN_best l D cy ad9 [] SM0 _ qM0 qM (xs 1) (xs 2) (xs 3)) (cwV 3 htw gL_law_X9_best rfl rfl rfl (by decide +kernel) ⟨Nat.le_of_ble_eq_true rfl, Nat.le_of_ble_eq_true rfl⟩) rfl rfl (Nat.le_of_ble_eq_true rfl) ⟨Nat.le_of_ble_eq_true rfl, Nat.le_of_ble_eq_true rfl⟩ dL_law_891 (fun r77 w77 H locs e77 hP hD hS => ?_)
      rw [show r77 = (if j_isVariable (xs 1) = 0 then -1 else if j_in (xs 2) (-1000) (nI 1000) = 0 then -2 else if j_in (xs 3) (xs 2) (nI 1000) = 0 then -2 else if (xs 2) + nI 15 < (xs 3) then -2 else (xs 2) + nI 10000) from e77]
      refine lv_icmp_eq (tgt := 1014) hx hb dL_law_894 (by decide) (fun c78 => ?_) (fun c78 => ?_)
      · skip
        refine W.widen (k := 96) (n := 2724) (by omega) (by omega) ?_
        exact L1014 rfl _ _ _ hS (lv_sub hl [0, 1, 2, 3] rfl)
      · skip
        exact absurd (q_best (xs 1) (xs 2) (xs 3)) c78
    · refine lv_tableIn (off := 867) (tgt := 899) hx hb dL_law_32 t1 t2 (by rw [z3]; rfl) (by decide) ?_
      refine lv_aload_n hx hb dL_law_899 rfl (lv_at hl 2 rfl) ?_
      refine lawXi (wm := wM cy ad9 SM0 ++ []) (wx := wD cy adx SD0 ++ wX cy adx xax (fun _ => 0, 1) (fun _ => 0, 1)) (As := []) (rest := []) (q0 := 43) (r0 := (RX8, TX8, 11)) hx hb hml hown htw hK hP hD hS hA hl.1 wX_0 rfl gBlind (fun U hU hW => ⟨rfl, by rw [hU], by rw [hU]; exact va_right hP, va_K.moved hW.alike hK, (va_rightD hD).weaken (fun _ _ _ _ => trivial)⟩) (cT_burdens l D cy adx xax SD0 (fun _ => 0, 1) (fun _ => 0, 1) _ ) (cwV 0 htw gL_law_X8_burdens rfl rfl rfl (by decide +kernel) ⟨Nat.le_of_ble_eq_true rfl, Nat.le_of_ble_eq_true rfl⟩) rfl rfl (Nat.le_of_ble_eq_true rfl) ⟨Nat.le_of_ble_eq_true rfl, Nat.le_of_ble_eq_true rfl⟩ dL_law_900 (fun r79 w79 H locs e79 hP hD hS => ?_)
      rw [show r79 = nI 0 from e79]
      refine lv_aload_n hx hb dL_law_903 rfl (lv_at hl 1 rfl) ?_
      refine gCalli (ws := wM cy ad9 SM0 ++ []) (As := []) (rest := [.int (nI 0)]) (q0 := 0) (r0 := (RX9, TX9, 36)) hx hb hml hown htw hK hP hD hS hA hl.1 wM_0 rfl (cN_burdens l D cy ad9 [] SM0 _ rfl qZs qZone) (cwV 0 htw gL_law_X9_burdens rfl rfl rfl (by decide +kernel) ⟨Nat.le_of_ble_eq_true rfl, Nat.le_of_ble_eq_true rfl⟩) rfl rfl (Nat.le_of_ble_eq_true rfl) ⟨Nat.le_of_ble_eq_true rfl, Nat.le_of_ble_eq_true rfl⟩ dL_law_904 (fun r80 w80 H locs e80 hP hD hS => ?_)
      rw [show r80 = nI 0 from e80]
      refine lv_icmp_eq (tgt := 1014) hx hb dL_law_907 (by decide) (fun c81 => ?_) (fun c81 => ?_)
      · rw [nI_eq (by omega) (by omega)] at c81
        refine W.widen (k := 96) (n := 2724) (by omega) (by omega) ?_
        exact L1014 rfl _ _ _ hS (lv_sub hl [0, 1, 2, 3] rfl)
      · exact absurd c81 (by rw [nI_eq (by omega) (by omega)]; omega)
    · refine lv_tableIn (off := 880) (tgt := 912) hx hb dL_law_32 t1 t2 (by rw [z3]; rfl) (by decide) ?_
      refine lv_aload_n hx hb dL_law_912 rfl (lv_at hl 2 rfl) ?_
      refine lv_aload_n hx hb dL_law_913 rfl (lv_at hl 3 rfl) ?_
      refine lv_iload_n hx hb dL_law_914 rfl (lv_at hl 0 rfl) ?_
      refine lv_iconst (v := nI 1) hx hb dL_law_915 (by decide) ?_
      refine lv_iadd hx hb dL_law_916 ?_
      rw [nI_add]
      refine va_sld hx hb hX hbl hbA hS (i := nI (0 + 1)) (vp_in_nI (by omega) (by decide)) dL_law_917 ?_
      rw [show (nI (0 + 1)).toNatClampNeg = 1 from by decide]
      refine lv_aload_n hx hb dL_law_918 rfl (lv_at hl 3 rfl) ?_
      refine lv_iload_n hx hb dL_law_919 rfl (lv_at hl 0 rfl) ?_
      refine lv_iconst (v := nI 2) hx hb dL_law_920 (by decide) ?_
      refine lv_iadd hx hb dL_law_921 ?_
      rw [nI_add]
      refine va_sld hx hb hX hbl hbA hS (i := nI (0 + 2)) (vp_in_nI (by omega) (by decide)) dL_law_922 ?_
      rw [show (nI (0 + 2)).toNatClampNeg = 2 from by decide]
      refine lawXi (wm := wM cy ad9 SM0 ++ []) (wx := wD cy adx SD0 ++ wX cy adx xax (fun _ => 0, 1) (fun _ => 0, 1)) (As := [.int (xs 1), .int (xs 2)]) (rest := []) (q0 := 43) (r0 := (RX8, TX8, 11)) hx hb hml hown htw hK hP hD hS hA hl.1 wX_0 rfl gBlind (fun U hU hW => ⟨rfl, by rw [hU], by rw [hU]; exact va_right hP, va_K.moved hW.alike hK, (va_rightD hD).weaken (fun _ _ _ _ => trivial)⟩) (cT_play l D cy adx xax SD0 (fun _ => 0, 1) (fun _ => 0, 1) _ (xs 1) (xs 2)) (cwV 2 htw gL_law_X8_play rfl rfl rfl (by decide +kernel) ⟨Nat.le_of_ble_eq_true rfl, Nat.le_of_ble_eq_true rfl⟩) rfl rfl (Nat.le_of_ble_eq_true rfl) ⟨Nat.le_of_ble_eq_true rfl, Nat.le_of_ble_eq_true rfl⟩ dL_law_923 (fun r82 w82 H locs e82 hP hD hS => ?_)
      rw [show r82 = -1 from e82]
      refine lv_aload_n hx hb dL_law_926 rfl (lv_at hl 1 rfl) ?_
      refine lv_aload_n hx hb dL_law_927 rfl (lv_at hl 3 rfl) ?_
      refine lv_iload_n hx hb dL_law_928 rfl (lv_at hl 0 rfl) ?_
      refine lv_iconst (v := nI 1) hx hb dL_law_929 (by decide) ?_
      refine lv_iadd hx hb dL_law_930 ?_
      rw [nI_add]
      refine va_sld hx hb hX hbl hbA hS (i := nI (0 + 1)) (vp_in_nI (by omega) (by decide)) dL_law_931 ?_
      rw [show (nI (0 + 1)).toNatClampNeg = 1 from by decide]
      refine lv_aload_n hx hb dL_law_932 rfl (lv_at hl 3 rfl) ?_
      refine lv_iload_n hx hb dL_law_933 rfl (lv_at hl 0 rfl) ?_
      refine lv_iconst (v := nI 2) hx hb dL_law_934 (by decide) ?_
      refine lv_iadd hx hb dL_law_935 ?_
      rw [nI_add]
      refine va_sld hx hb hX hbl hbA hS (i := nI (0 + 2)) (vp_in_nI (by omega) (by decide)) dL_law_936 ?_
      rw [show (nI (0 + 2)).toNatClampNeg = 2 from by decide]
      refine gCalli (ws := wM cy ad9 SM0 ++ []) (As := [.int (xs 1), .int (xs 2)]) (rest := [.int (-1)]) (q0 := 0) (r0 := (RX9, TX9, 36)) hx hb hml hown htw hK hP hD hS hA hl.1 wM_0 rfl (cN_play l D cy ad9 [] SM0 _ qOne (xs 1) (xs 2)) (cwV 2 htw gL_law_X9_play rfl rfl rfl (by decide +kernel) ⟨Nat.le_of_ble_eq_true rfl, Nat.le_of_ble_eq_true rfl⟩) rfl rfl (Nat.le_of_ble_eq_true rfl) ⟨Nat.le_of_ble_eq_true rfl, Nat.le_of_ble_eq_true rfl⟩ dL_law_937 (fun r83 w83 H locs e83 hP hD hS => ?_)
      rw [show r83 = -1 from e83]
      refine lv_icmp_eq (tgt := 1014) hx hb dL_law_940 (by decide) (fun c84 => ?_) (fun c84 => ?_)
      · skip
        refine W.widen (k := 96) (n := 2724) (by omega) (by omega) ?_
        exact L1014 rfl _ _ _ hS (lv_sub hl [0, 1, 2, 3] rfl)
      · skip
        exact absurd (q_play (xs 1) (xs 2)) c84
    · refine lv_tableIn (off := 913) (tgt := 945) hx hb dL_law_32 t1 t2 (by rw [z3]; rfl) (by decide) ?_
      refine lv_aload_n hx hb dL_law_945 rfl (lv_at hl 2 rfl) ?_
      refine lv_aload_n hx hb dL_law_946 rfl (lv_at hl 3 rfl) ?_
      refine lv_iload_n hx hb dL_law_947 rfl (lv_at hl 0 rfl) ?_
      refine lv_iconst (v := nI 1) hx hb dL_law_948 (by decide) ?_
      refine lv_iadd hx hb dL_law_949 ?_
      rw [nI_add]
      refine va_sld hx hb hX hbl hbA hS (i := nI (0 + 1)) (vp_in_nI (by omega) (by decide)) dL_law_950 ?_
      rw [show (nI (0 + 1)).toNatClampNeg = 1 from by decide]
      refine lawXi (wm := wM cy ad9 SM0 ++ []) (wx := wD cy adx SD0 ++ wX cy adx xax (fun _ => 0, 1) (fun _ => 0, 1)) (As := [.int (xs 1)]) (rest := []) (q0 := 43) (r0 := (RX8, TX8, 11)) hx hb hml hown htw hK hP hD hS hA hl.1 wX_0 rfl gBlind (fun U hU hW => ⟨rfl, by rw [hU], by rw [hU]; exact va_right hP, va_K.moved hW.alike hK, (va_rightD hD).weaken (fun _ _ _ _ => trivial)⟩) (cT_count l D cy adx xax SD0 (fun _ => 0, 1) (fun _ => 0, 1) _ (xs 1)) (cwV 1 htw gL_law_X8_count rfl rfl rfl (by decide +kernel) ⟨Nat.le_of_ble_eq_true rfl, Nat.le_of_ble_eq_true rfl⟩) rfl rfl (Nat.le_of_ble_eq_true rfl) ⟨Nat.le_of_ble_eq_true rfl, Nat.le_of_ble_eq_true rfl⟩ dL_law_951 (fun r85 w85 H locs e85 hP hD hS => ?_)
      rw [show r85 = (if (xs 1).toInt < 0 then -2 else if (4 : Int) < (xs 1).toInt then -2 else nI 0) from e85]
      refine lv_aload_n hx hb dL_law_954 rfl (lv_at hl 1 rfl) ?_
      refine lv_aload_n hx hb dL_law_955 rfl (lv_at hl 3 rfl) ?_
      refine lv_iload_n hx hb dL_law_956 rfl (lv_at hl 0 rfl) ?_
      refine lv_iconst (v := nI 1) hx hb dL_law_957 (by decide) ?_
      refine lv_iadd hx hb dL_law_958 ?_
      rw [nI_add]
      refine va_sld hx hb hX hbl hbA hS (i := nI (0 + 1)) (vp_in_nI (by omega) (by decide)) dL_law_959 ?_
      rw [show (nI (0 + 1)).toNatClampNeg = 1 from by decide]
      refine gCalli (ws := wM cy ad9 SM0 ++ []) (As := [.int (xs 1)]) (rest := [.int (if (xs 1).toInt < 0 then -2 else if (4 : Int) < (xs 1).toInt then -2 else nI 0)]) (q0 := 0) (r0 := (RX9, TX9, 36)) hx hb hml hown htw hK hP hD hS hA hl.1 wM_0 rfl (cN_count l D cy ad9 [] SM0 _ qOne rfl rfl rfl (xs 1)) (cwV 1 htw gL_law_X9_count rfl rfl rfl (by decide +kernel) ⟨Nat.le_of_ble_eq_true rfl, Nat.le_of_ble_eq_true rfl⟩) rfl rfl (Nat.le_of_ble_eq_true rfl) ⟨Nat.le_of_ble_eq_true rfl, Nat.le_of_ble_eq_true rfl⟩ dL_law_960 (fun r86 w86 H locs e86 hP hD hS => ?_)
      rw [show r86 = (if (xs 1).toInt < 0 then -2 else if (4 : Int) < (xs 1).toInt then -2 else nI 0) from e86]
      refine lv_icmp_eq (tgt := 1014) hx hb dL_law_963 (by decide) (fun c87 => ?_) (fun c87 => ?_)
      · skip
        refine W.widen (k := 96) (n := 2724) (by omega) (by omega) ?_
        exact L1014 rfl _ _ _ hS (lv_sub hl [0, 1, 2, 3] rfl)
      · skip
        exact absurd (q_count (xs 1)) c87
    · refine lv_tableIn (off := 936) (tgt := 968) hx hb dL_law_32 t1 t2 (by rw [z3]; rfl) (by decide) ?_
      refine lv_aload_n hx hb dL_law_968 rfl (lv_at hl 2 rfl) ?_
      refine lv_aload_n hx hb dL_law_969 rfl (lv_at hl 3 rfl) ?_
      refine lv_iload_n hx hb dL_law_970 rfl (lv_at hl 0 rfl) ?_
      refine lv_iconst (v := nI 1) hx hb dL_law_971 (by decide) ?_
      refine lv_iadd hx hb dL_law_972 ?_
      rw [nI_add]
      refine va_sld hx hb hX hbl hbA hS (i := nI (0 + 1)) (vp_in_nI (by omega) (by decide)) dL_law_973 ?_
      rw [show (nI (0 + 1)).toNatClampNeg = 1 from by decide]
      refine lawXi (wm := wM cy ad9 SM0 ++ []) (wx := wD cy adx SD0 ++ wX cy adx xax (fun _ => 0, 1) (fun _ => 0, 1)) (As := [.int (xs 1)]) (rest := []) (q0 := 43) (r0 := (RX8, TX8, 11)) hx hb hml hown htw hK hP hD hS hA hl.1 wX_0 rfl fBlind (fun U hU hW => ⟨rfl, by rw [hU], by rw [hU]; exact va_right hP, va_K.moved hW.alike hK, (va_rightD hD).weaken (fun _ _ _ _ => trivial), kF.warm hW hkf⟩) (cT_save l D cy adx xax SD0 (fun _ => 0, 1) (fun _ => 0, 1) _ (xs 1)) (cwV 1 htw gL_law_X8_save rfl rfl rfl (by decide +kernel) ⟨Nat.le_of_ble_eq_true rfl, Nat.le_of_ble_eq_true rfl⟩) rfl rfl (Nat.le_of_ble_eq_true rfl) ⟨Nat.le_of_ble_eq_true rfl, Nat.le_of_ble_eq_true rfl⟩ dL_law_974 (fun r88 w88 H locs e88 hP hD hS => ?_)
      rw [show r88 = (if (xs 1) < 0 then -2 else if (xs 1) < nI 2 then nI 0 else -2) from e88]
      refine lv_aload_n hx hb dL_law_977 rfl (lv_at hl 1 rfl) ?_
      refine lv_aload_n hx hb dL_law_978 rfl (lv_at hl 3 rfl) ?_
      refine lv_iload_n hx hb dL_law_979 rfl (lv_at hl 0 rfl) ?_
      refine lv_iconst (v := nI 1) hx hb dL_law_980 (by decide) ?_
      refine lv_iadd hx hb dL_law_981 ?_
      rw [nI_add]
      refine va_sld hx hb hX hbl hbA hS (i := nI (0 + 1)) (vp_in_nI (by omega) (by decide)) dL_law_982 ?_
      rw [show (nI (0 + 1)).toNatClampNeg = 1 from by decide]
      refine gCalli (ws := wM cy ad9 SM0 ++ []) (As := [.int (xs 1)]) (rest := [.int (if (xs 1) < 0 then -2 else if (xs 1) < nI 2 then nI 0 else -2)]) (q0 := 0) (r0 := (RX9, TX9, 36)) hx hb hml hown htw hK hP hD hS hA hl.1 wM_0 rfl (cN_save l D cy ad9 [] SM0 _ qOne (xs 1)) (cwV 1 htw gL_law_X9_save rfl rfl rfl (by decide +kernel) ⟨Nat.le_of_ble_eq_true rfl, Nat.le_of_ble_eq_true rfl⟩) rfl rfl (Nat.le_of_ble_eq_true rfl) ⟨Nat.le_of_ble_eq_true rfl, Nat.le_of_ble_eq_true rfl⟩ dL_law_983 (fun r89 w89 H locs e89 hP hD hS => ?_)
      rw [show r89 = (if j_isPart (xs 1) = 0 then -2 else nI 0) from e89]
      refine lv_icmp_eq (tgt := 1014) hx hb dL_law_986 (by decide) (fun c90 => ?_) (fun c90 => ?_)
      · skip
        refine W.widen (k := 96) (n := 2724) (by omega) (by omega) ?_
        exact L1014 rfl _ _ _ hS (lv_sub hl [0, 1, 2, 3] rfl)
      · skip
        exact absurd (q_save (xs 1)) c90
    · refine lv_tableIn (off := 959) (tgt := 991) hx hb dL_law_32 t1 t2 (by rw [z3]; rfl) (by decide) ?_
      refine lv_aload_n hx hb dL_law_991 rfl (lv_at hl 2 rfl) ?_
      refine lv_aload_n hx hb dL_law_992 rfl (lv_at hl 3 rfl) ?_
      refine lv_iload_n hx hb dL_law_993 rfl (lv_at hl 0 rfl) ?_
      refine lv_iconst (v := nI 1) hx hb dL_law_994 (by decide) ?_
      refine lv_iadd hx hb dL_law_995 ?_
      rw [nI_add]
      refine va_sld hx hb hX hbl hbA hS (i := nI (0 + 1)) (vp_in_nI (by omega) (by decide)) dL_law_996 ?_
      rw [show (nI (0 + 1)).toNatClampNeg = 1 from by decide]
      refine lawXi (wm := wM cy ad9 SM0 ++ []) (wx := wD cy adx SD0 ++ wX cy adx xax (fun _ => 0, 1) (fun _ => 0, 1)) (As := [.int (xs 1)]) (rest := []) (q0 := 43) (r0 := (RX8, TX8, 11)) hx hb hml hown htw hK hP hD hS hA hl.1 wX_0 rfl gBlind (fun U hU hW => ⟨rfl, by rw [hU], by rw [hU]; exact va_right hP, va_K.moved hW.alike hK, (va_rightD hD).weaken (fun _ _ _ _ => trivial)⟩) (cT_restore l D cy adx xax SD0 (fun _ => 0, 1) (fun _ => 0, 1) _ (xs 1)) (cwV 1 htw gL_law_X8_restore rfl rfl rfl (by decide +kernel) ⟨Nat.le_of_ble_eq_true rfl, Nat.le_of_ble_eq_true rfl⟩) rfl rfl (Nat.le_of_ble_eq_true rfl) ⟨Nat.le_of_ble_eq_true rfl, Nat.le_of_ble_eq_true rfl⟩ dL_law_997 (fun r91 w91 H locs e91 hP hD hS => ?_)
      rw [show r91 = (if (xs 1) < 0 then -2 else if (xs 1) < nI 2 then -5 else -2) from e91]
      refine lv_aload_n hx hb dL_law_1000 rfl (lv_at hl 1 rfl) ?_
      refine lv_aload_n hx hb dL_law_1001 rfl (lv_at hl 3 rfl) ?_
      refine lv_iload_n hx hb dL_law_1002 rfl (lv_at hl 0 rfl) ?_
      refine lv_iconst (v := nI 1) hx hb dL_law_1003 (by decide) ?_
      refine lv_iadd hx hb dL_law_1004 ?_
      rw [nI_add]
      refine va_sld hx hb hX hbl hbA hS (i := nI (0 + 1)) (vp_in_nI (by omega) (by decide)) dL_law_1005 ?_
      rw [show (nI (0 + 1)).toNatClampNeg = 1 from by decide]
      refine gCalli (ws := wM cy ad9 SM0 ++ []) (As := [.int (xs 1)]) (rest := [.int (if (xs 1) < 0 then -2 else if (xs 1) < nI 2 then -5 else -2)]) (q0 := 0) (r0 := (RX9, TX9, 36)) hx hb hml hown htw hK hP hD hS hA hl.1 wM_0 rfl (cN_restore l D cy ad9 [] SM0 _ (fun _ _ => rfl) (xs 1)) (cwV 1 htw gL_law_X9_restore rfl rfl rfl (by decide +kernel) ⟨Nat.le_of_ble_eq_true rfl, Nat.le_of_ble_eq_true rfl⟩) rfl rfl (Nat.le_of_ble_eq_true rfl) ⟨Nat.le_of_ble_eq_true rfl, Nat.le_of_ble_eq_true rfl⟩ dL_law_1006 (fun r92 w92 H locs e92 hP hD hS => ?_)
      rw [show r92 = (if j_isPart (xs 1) = 0 then -2 else -5) from e92]
      refine lv_icmp_eq (tgt := 1014) hx hb dL_law_1009 (by decide) (fun c93 => ?_) (fun c93 => ?_)
      · skip
        refine W.widen (k := 96) (n := 2724) (by omega) (by omega) ?_
        exact L1014 rfl _ _ _ hS (lv_sub hl [0, 1, 2, 3] rfl)
      · skip
        exact absurd (q_restore (xs 1)) c93
  · refine W.widen (k := 96) (n := 2724) (by omega) (by omega) ?_
    exact Lhead _ _ _ _ (by rcases (show L = 0 ∨ L = 1 ∨ L = 2 ∨ L = 3 ∨ L = 4 by omega) with rfl | rfl | rfl | rfl | rfl <;> decide) hS hl
