/-! the reference: findLeast -/
def jTm (U : MS) (c9 : Nat) (x9 : Int32) (k : Nat) : Int32 := if x9 < 0 then jOf U c9 k else if ¬ nI k = x9 then nI 0 else nI 1
def fFL (c9 : Nat) (x9 by9 : Int32) (R C k : Nat) (q : Int32 × MS) : Int32 × MS := (q.1 + jTm q.2 c9 x9 k, jAddC q.2 (nI k) (by9.toInt64 * (jTm q.2 c9 x9 k).toInt64) R C)
def jFL (S : MS) (c9 : Nat) (x9 by9 : Int32) (R C : Nat) : Int32 × MS := lpN (fFL c9 x9 by9 R C) 6 0 (nI 0, jClear S R C)
theorem jOk_addC {S : MS} {R C : Nat} {w9 : Int32} {t : Int64} (h : jOk S R C) : jOk (jAddC S w9 t R C) R C := h
def jUp (V : MS) (by9 sum : Int32) (R : Nat) : Int64 := by9.toInt64 * a9 V (22 * R) - 1000 * sum.toInt64 * aG V 16
def jFound (V : MS) (by9 sum : Int32) (R : Nat) (g : Int64) : MS := (aF V, vp_updL (vp_updL (aG V) 21 (jUp V by9 sum R / g)) 22 (aG V 16 / g), V.2.2)
set_option maxHeartbeats 4000000 in
set_option maxRecDepth 100000 in
theorem cM_findLeast (l : Launch) (D : va_G) (cy : Nat → ClassId) (ad : Nat → Nat) (X : va_W) (S : MS) (sz : Nat) {R C : Nat} (hok : jOk S R C) (hR36 : R ≤ 36) (hC21 : C ≤ 21) {c9 : Nat} (hc : c9 < 15) (x9 by9 : Int32) {n9 : Nat} {V : MS} {g : Int64} (hV1 : leRun R C n9 (jFL S c9 x9 by9 R C).2 = some V) (hg1 : jGcd n9 (jAbs (jUp V by9 (jFL S c9 x9 by9 R C).1 R)) (aG V 16) = some g) (hg0 : ¬ g = 0) : Met l yX9_findLeast wsX9_findLeast (rm9 3 85) (gPc D cy (wM cy ad S ++ X) sz [.ref (ad 0), .int (nI c9), .int x9, .int by9]) (gQv D cy (wM cy ad S ++ X) sz (fun ws' => ws' = wM cy ad (jFound V by9 (jFL S c9 x9 by9 R C).1 R g) ++ X)) 0 0 (va_A (wM cy ad S ++ X) sz) := by
  refine gHead (cc := cX9_findLeast) (maxL := 7) (ret := none) (by decide) rfl (Nat.le_of_ble_eq_true rfl) ?_
  intro p e s m below meth c ls hx hb hr hlocks hml hown hts hsz hP hK hD hS hA hl
  have hin : ∀ w ∈ u_ws RX9 TX9 36, w ∈ wsX9_findLeast := by decide +kernel
  have hown : s.vm.findClass RX9 = some m.cls := hown
  have hl : lv_has ls 7 [(0, .ref (ad 0)), (1, .int (nI c9)), (2, .int x9), (3, .int by9)] := hl
  refine lv_aload_n hx hb dX9_findLeast_0 rfl (lv_at hl 0 rfl) ?_
  refine gCallv (ws := wM cy ad S ++ X) (As := []) (rest := []) (q0 := 0) (r0 := (RX9, TX9, 36)) hx hb hml hown hts hK hP hD hS hA hl.1 wM_0 rfl (cM_clearCost l D cy ad X S _ (R := R) (C := C) hok.1 hok.2.1 hR36 hC21) (cwV 0 hts gX9_findLeast_X9_clearCost rfl rfl rfl (by decide +kernel) ⟨Nat.le_of_ble_eq_true rfl, Nat.le_of_ble_eq_true rfl⟩) rfl rfl (Nat.le_of_ble_eq_true rfl) ⟨Nat.le_of_ble_eq_true rfl, Nat.le_of_ble_eq_true rfl⟩ dX9_findLeast_1 (fun ws1 H locs e1 hP hD hS => ?_)
  rw [show ws1 = _ from e1] at hP hD
  have hP : va_P D vwCl (wM cy ad (jClear S R C) ++ X) H := hP
  have hD : va_D (va_A (wM cy ad S ++ X) sz) (wM cy ad (jClear S R C) ++ X) := hD
  refine lv_iconst (v := nI 0) hx hb dX9_findLeast_4 (by decide) ?_
  refine lv_istore (lv' := [(4, .int (nI 0)), (0, .ref (ad 0)), (1, .int (nI c9)), (2, .int x9), (3, .int by9)]) hx hb dX9_findLeast_5 hl (by decide) rfl (fun ls hl => ?_)
  refine lv_iconst (v := nI 0) hx hb dX9_findLeast_7 (by decide) ?_
  refine lv_istore (lv' := [(5, .int (nI 0)), (4, .int (nI 0)), (0, .ref (ad 0)), (1, .int (nI c9)), (2, .int x9), (3, .int by9)]) hx hb dX9_findLeast_8 hl (by decide) rfl (fun ls hl => ?_)
  have L10 : ∀ (n k : Nat) (q : Int32 × MS) (H : Heap) (locs : List Loc) (ls : Array Slot), k + n = 6 → jOk (q).2 R C → va_P D vwCl (wM cy ad ((q).2) ++ X) H → va_D (va_A (wM cy ad S ++ X) sz) (wM cy ad ((q).2) ++ X) → va_S (va_A (wM cy ad S ++ X) sz) s.heap H locs → lv_has ls 7 [(5, .int (nI k)), (0, .ref (ad 0)), (1, .int (nI c9)), (2, .int x9), (3, .int by9), (4, .int q.1)] → (∀ (H : Heap) (locs : List Loc) (ls : Array Slot), jOk ((lpN (fFL c9 x9 by9 R C) n k q)).2 R C → va_P D vwCl (wM cy ad (((lpN (fFL c9 x9 by9 R C) n k q)).2) ++ X) H → va_D (va_A (wM cy ad S ++ X) sz) (wM cy ad (((lpN (fFL c9 x9 by9 R C) n k q)).2) ++ X) → va_S (va_A (wM cy ad S ++ X) sz) s.heap H locs → lv_has ls 7 [(5, .int (nI 6)), (0, .ref (ad 0)), (1, .int (nI c9)), (2, .int x9), (3, .int by9), (4, .int ((lpN (fFL c9 x9 by9 R C) n k q).1))] → W p l e (headSpec wsX9_findLeast (rm9 3 85)).room s m ([.ref (ad 0), .int (nI c9), .int x9, .int by9] : List Value).toArray below meth c H locs 0 0 (MQ below (gQv D cy (wM cy ad S ++ X) sz (fun ws' => ws' = wM cy ad (jFound V by9 (jFL S c9 x9 by9 R C).1 R g) ++ X)) ([.ref (ad 0), .int (nI c9), .int x9, .int by9] : List Value).toArray s 0 0 (va_A (wM cy ad S ++ X) sz)) (F0 m 69 ls [])) → W p l e (headSpec wsX9_findLeast (rm9 3 85)).room s m ([.ref (ad 0), .int (nI c9), .int x9, .int by9] : List Value).toArray below meth c H locs 0 0 (MQ below (gQv D cy (wM cy ad S ++ X) sz (fun ws' => ws' = wM cy ad (jFound V by9 (jFL S c9 x9 by9 R C).1 R g) ++ X)) ([.ref (ad 0), .int (nI c9), .int x9, .int by9] : List Value).toArray s 0 0 (va_A (wM cy ad S ++ X) sz)) (F0 m 10 ls []) := by
    intro n
    induction n with
    | zero =>
      intro k q H locs ls hk hq hP hD hS hl hex
      obtain rfl : 6 = k := by omega
      refine lv_iload hx hb dX9_findLeast_10 (lv_at hl 0 rfl) ?_
      refine lv_bipush (v := nI 6) hx hb dX9_findLeast_12 (by decide) ?_
      refine lv_icmp_ge (tgt := 69) hx hb dX9_findLeast_14 (by decide) (fun c2 => ?_) (fun c2 => ?_)
      · rw [nI_leI (by omega) (by omega)] at c2
        exact hex _ _ _ hq hP hD hS (lv_sub hl [0, 1, 2, 3, 4, 5] rfl)
      · exact absurd c2 (by rw [nI_leI (by omega) (by omega)]; omega)
    | succ n ih =>
      intro k q H locs ls hk hq hP hD hS hl hex
      have hk10 : k < 6 := by omega
      refine lv_iload hx hb dX9_findLeast_10 (lv_at hl 0 rfl) ?_
      refine lv_bipush (v := nI 6) hx hb dX9_findLeast_12 (by decide) ?_
      refine lv_icmp_ge (tgt := 69) hx hb dX9_findLeast_14 (by decide) (fun c3 => ?_) (fun c3 => ?_)
      · exact absurd c3 (by rw [nI_leI (by omega) (by omega)]; omega)
      · rw [nI_leI (by omega) (by omega)] at c3
        have J42 : ∀ (tm : Int32) (H : Heap) (locs : List Loc) (ls : Array Slot), tm = jTm (q.2) c9 x9 k → va_P D vwCl (wM cy ad ((q).2) ++ X) H → va_D (va_A (wM cy ad S ++ X) sz) (wM cy ad ((q).2) ++ X) → va_S (va_A (wM cy ad S ++ X) sz) s.heap H locs → lv_has ls 7 [(0, .ref (ad 0)), (1, .int (nI c9)), (2, .int x9), (3, .int by9), (4, .int q.1), (5, .int (nI k))] → W p l e (headSpec wsX9_findLeast (rm9 3 85)).room s m ([.ref (ad 0), .int (nI c9), .int x9, .int by9] : List Value).toArray below meth c H locs 0 0 (MQ below (gQv D cy (wM cy ad S ++ X) sz (fun ws' => ws' = wM cy ad (jFound V by9 (jFL S c9 x9 by9 R C).1 R g) ++ X)) ([.ref (ad 0), .int (nI c9), .int x9, .int by9] : List Value).toArray s 0 0 (va_A (wM cy ad S ++ X) sz)) (F0 m 42 ls [.int tm]) := by
          intro tm H locs ls htm hP hD hS hl
          refine lv_istore (lv' := [(6, .int tm), (0, .ref (ad 0)), (1, .int (nI c9)), (2, .int x9), (3, .int by9), (4, .int q.1), (5, .int (nI k))]) hx hb dX9_findLeast_42 hl (by decide) rfl (fun ls hl => ?_)
          refine lv_iload hx hb dX9_findLeast_44 (lv_at hl 5 rfl) ?_
          refine lv_iload hx hb dX9_findLeast_46 (lv_at hl 0 rfl) ?_
          refine lv_iadd hx hb dX9_findLeast_48 ?_
          refine lv_istore (lv' := [(4, .int (q.1 + tm)), (6, .int tm), (0, .ref (ad 0)), (1, .int (nI c9)), (2, .int x9), (3, .int by9), (5, .int (nI k))]) hx hb dX9_findLeast_49 hl (by decide) rfl (fun ls hl => ?_)
          refine lv_aload_n hx hb dX9_findLeast_51 rfl (lv_at hl 2 rfl) ?_
          refine lv_iload hx hb dX9_findLeast_52 (lv_at hl 6 rfl) ?_
          refine lv_iload_n hx hb dX9_findLeast_54 rfl (lv_at hl 5 rfl) ?_
          refine lv_i2l hx hb dX9_findLeast_55 (v := by9.toInt64) rfl ?_
          refine lv_iload hx hb dX9_findLeast_56 (lv_at hl 1 rfl) ?_
          refine lv_i2l hx hb dX9_findLeast_58 (v := tm.toInt64) rfl ?_
          refine lv_lmul hx hb dX9_findLeast_59 ?_
          refine gCallv (ws := wM cy ad ((q).2) ++ X) (As := [.int (nI k), .long (by9.toInt64 * tm.toInt64)]) (rest := []) (q0 := 0) (r0 := (RX9, TX9, 36)) hx hb hml hown hts hK hP hD hS hA hl.1 wM_0 rfl (cM_addCost l D cy ad X (q.2) _ (R := R) (C := C) hq.1 hq.2.1 hR36 hC21 _ _) (cwV 2 hts gX9_findLeast_X9_addCost rfl rfl rfl (by decide +kernel) ⟨Nat.le_of_ble_eq_true rfl, Nat.le_of_ble_eq_true rfl⟩) rfl rfl (Nat.le_of_ble_eq_true rfl) ⟨Nat.le_of_ble_eq_true rfl, Nat.le_of_ble_eq_true rfl⟩ dX9_findLeast_60 (fun ws4 H locs e4 hP hD hS => ?_)
          rw [show ws4 = _ from e4] at hP hD
          have hP : va_P D vwCl (wM cy ad (jAddC (q.2) (nI k) (by9.toInt64 * tm.toInt64) R C) ++ X) H := hP
          have hD : va_D (va_A (wM cy ad S ++ X) sz) (wM cy ad (jAddC (q.2) (nI k) (by9.toInt64 * tm.toInt64) R C) ++ X) := hD
          refine lv_iinc (v := nI (k + 1)) (lv' := [(5, .int (nI (k + 1))), (4, .int (q.1 + tm)), (6, .int tm), (0, .ref (ad 0)), (1, .int (nI c9)), (2, .int x9), (3, .int by9)]) hx hb dX9_findLeast_63 hl (k := 6) rfl (nI_1 _) (by decide) rfl (fun ls hl => ?_)
          refine lv_goto (tgt := 10) hx hb dX9_findLeast_66 (by decide) ?_
          have he : (fFL c9 x9 by9 R C) k q = (q.1 + tm, jAddC (q.2) (nI k) (by9.toInt64 * tm.toInt64) R C) := by simp only [fFL, ← htm]
          rw [lpN_s (f := fFL c9 x9 by9 R C), he] at hex
          exact ih ((k + 1)) (q.1 + tm, jAddC (q.2) (nI k) (by9.toInt64 * tm.toInt64) R C) _ _ _ (by omega) (jOk_addC hq) hP hD hS (lv_sub hl [0, 3, 4, 5, 6, 1] rfl) hex
        refine lv_iload_n hx hb dX9_findLeast_17 rfl (lv_at hl 3 rfl) ?_
        refine lv_if_lt (tgt := 35) hx hb dX9_findLeast_18 (by decide) (fun c5 => ?_) (fun c5 => ?_)
        · skip
          refine lv_aload_n hx hb dX9_findLeast_35 rfl (lv_at hl 1 rfl) ?_
          refine lv_iload_n hx hb dX9_findLeast_36 rfl (lv_at hl 2 rfl) ?_
          refine lv_iload hx hb dX9_findLeast_37 (lv_at hl 0 rfl) ?_
          refine gCalli (ws := wM cy ad ((q).2) ++ X) (As := [.int (nI c9), .int (nI k)]) (rest := []) (q0 := 0) (r0 := (RX9, TX9, 36)) hx hb hml hown hts hK hP hD hS hA hl.1 wM_0 rfl (cM_of l D cy ad X (q.2) _ (c9 := c9) (w9 := k) (by omega) (by omega)) (cwV 2 hts gX9_findLeast_X9_of rfl rfl rfl (by decide +kernel) ⟨Nat.le_of_ble_eq_true rfl, Nat.le_of_ble_eq_true rfl⟩) rfl rfl (Nat.le_of_ble_eq_true rfl) ⟨Nat.le_of_ble_eq_true rfl, Nat.le_of_ble_eq_true rfl⟩ dX9_findLeast_39 (fun r6 ws6 H locs e6 hP hD hS => ?_)
          obtain ⟨e6a, e6b⟩ := e6
          rw [show r6 = jOf (q.2) c9 k from e6a]
          rw [e6b] at hP hD
          exact J42 _ _ _ _ (by simp [jTm, c5, c3]) hP hD hS (lv_sub hl [1, 2, 3, 4, 5, 0] rfl)
        · skip
          refine lv_iload hx hb dX9_findLeast_21 (lv_at hl 0 rfl) ?_
          refine lv_iload_n hx hb dX9_findLeast_23 rfl (lv_at hl 3 rfl) ?_
          refine lv_icmp_ne (tgt := 31) hx hb dX9_findLeast_24 (by decide) (fun c7 => ?_) (fun c7 => ?_)
          · skip
            refine lv_iconst (v := nI 0) hx hb dX9_findLeast_31 (by decide) ?_
            refine lv_goto (tgt := 42) hx hb dX9_findLeast_32 (by decide) ?_
            exact J42 _ _ _ _ (by simp [jTm, c5, c7, c3]) hP hD hS (lv_sub hl [1, 2, 3, 4, 5, 0] rfl)
          · skip
            refine lv_iconst (v := nI 1) hx hb dX9_findLeast_27 (by decide) ?_
            refine lv_goto (tgt := 42) hx hb dX9_findLeast_28 (by decide) ?_
            exact J42 _ _ _ _ (by simp [jTm, c5, c7, c3]) hP hD hS (lv_sub hl [1, 2, 3, 4, 5, 0] rfl)
  refine L10 6 0 (nI 0, jClear S R C) _ _ _ (by omega) (jOk_clear hok) hP hD hS (lv_sub hl [0, 2, 3, 4, 5, 1] rfl) (fun H locs ls hq hP hD hS hl => ?_)
  have hP : va_P D vwCl (wM cy ad ((jFL S c9 x9 by9 R C).2) ++ X) H := hP
  have hD : va_D (va_A (wM cy ad S ++ X) sz) (wM cy ad ((jFL S c9 x9 by9 R C).2) ++ X) := hD
  have hl : lv_has ls 7 [(5, .int (nI 6)), (0, .ref (ad 0)), (1, .int (nI c9)), (2, .int x9), (3, .int by9), (4, .int ((jFL S c9 x9 by9 R C).1))] := hl
  have hq : jOk (jFL S c9 x9 by9 R C).2 R C := hq
  refine lv_aload_n hx hb dX9_findLeast_69 rfl (lv_at hl 1 rfl) ?_
  refine gCallv (ws := wM cy ad ((jFL S c9 x9 by9 R C).2) ++ X) (As := []) (rest := []) (q0 := 0) (r0 := (RX9, TX9, 36)) hx hb hml hown hts hK hP hD hS hA hl.1 wM_0 rfl (cM_lessen l D cy ad X _ _ hq hR36 hC21 hV1) (cwV 0 hts gX9_findLeast_X9_lessen rfl rfl rfl (by decide +kernel) ⟨Nat.le_of_ble_eq_true rfl, Nat.le_of_ble_eq_true rfl⟩) rfl rfl (Nat.le_of_ble_eq_true rfl) ⟨Nat.le_of_ble_eq_true rfl, Nat.le_of_ble_eq_true rfl⟩ dX9_findLeast_70 (fun ws8 H locs e8 hP hD hS => ?_)
  rw [show ws8 = _ from e8] at hP hD
  have hP : va_P D vwCl (wM cy ad V ++ X) H := hP
  have hD : va_D (va_A (wM cy ad S ++ X) sz) (wM cy ad V ++ X) := hD
  have hV := jOk_le hR36 hC21 _ _ hq hV1
  refine lv_iload_n hx hb dX9_findLeast_73 rfl (lv_at hl 4 rfl) ?_
  refine lv_i2l hx hb dX9_findLeast_74 (v := by9.toInt64) rfl ?_
  refine lv_aload_n hx hb dX9_findLeast_75 rfl (lv_at hl 1 rfl) ?_
  refine rM_get (v := .ref (ad 9)) hx hb hts hin hown hK hP 11 (by decide) rfl (by decide +kernel) dX9_findLeast_76 ?_
  refine lv_bipush (v := nI 22) hx hb dX9_findLeast_79 (by decide) ?_
  refine lv_aload_n hx hb dX9_findLeast_81 rfl (lv_at hl 1 rfl) ?_
  refine rM_get (v := .int (aF V 14)) hx hb hts hin hown hK hP 14 (by decide) rfl (by decide +kernel) dX9_findLeast_82 ?_
  rw [hV.1]
  refine lv_imul hx hb dX9_findLeast_85 ?_
  rw [pk_mul]
  refine rM_ld9 (i := (22 * R)) hx hb hK hP (by omega) dX9_findLeast_86 ?_
  refine W.eq (g2 := F0 m 87 ls [.long (a9 V (22 * R)), .long by9.toInt64]) rfl ?_
  refine lv_lmul hx hb dX9_findLeast_87 ?_
  refine lv_ldc2 (v := 1000) hx hb hown (hts (.constantLong RX9 169 (1000)) (by decide +kernel)) dX9_findLeast_88 ?_
  refine lv_iload hx hb dX9_findLeast_91 (lv_at hl 5 rfl) ?_
  refine lv_i2l hx hb dX9_findLeast_93 (v := ((jFL S c9 x9 by9 R C).1).toInt64) rfl ?_
  refine lv_lmul hx hb dX9_findLeast_94 ?_
  refine lv_aload_n hx hb dX9_findLeast_95 rfl (lv_at hl 1 rfl) ?_
  refine rM_get (v := .long (aG V 16)) hx hb hts hin hown hK hP 16 (by decide) rfl (by decide +kernel) dX9_findLeast_96 ?_
  refine lv_lmul hx hb dX9_findLeast_99 ?_
  refine lv_lsub hx hb dX9_findLeast_100 ?_
  refine lv_lstore (lv' := [(5, .long ((by9.toInt64 * (a9 V (22 * R))) - ((1000 * (((jFL S c9 x9 by9 R C).1).toInt64)) * (aG V 16)))), (0, .ref (ad 0)), (1, .int (nI c9)), (2, .int x9), (3, .int by9), (4, .int ((jFL S c9 x9 by9 R C).1))]) hx hb dX9_findLeast_101 hl (by decide) rfl (fun ls hl => ?_)
  have hl : lv_has ls 7 [(5, .long (jUp V by9 (jFL S c9 x9 by9 R C).1 R)), (0, .ref (ad 0)), (1, .int (nI c9)), (2, .int x9), (3, .int by9), (4, .int ((jFL S c9 x9 by9 R C).1))] := hl
  refine lv_aload_n hx hb dX9_findLeast_103 rfl (lv_at hl 1 rfl) ?_
  refine lv_lload hx hb dX9_findLeast_104 (lv_at hl 0 rfl) ?_
  refine lv_aload_n hx hb dX9_findLeast_106 rfl (lv_at hl 1 rfl) ?_
  refine rM_get (v := .long (aG V 16)) hx hb hts hin hown hK hP 16 (by decide) rfl (by decide +kernel) dX9_findLeast_107 ?_
  refine lv_iconst (v := nI 0) hx hb dX9_findLeast_110 (by decide) ?_
  refine pCalll (As := [.long (jUp V by9 (jFL S c9 x9 by9 R C).1 R), .long (aG V 16), .int (nI 0)]) (rest := [.ref (ad 0)]) hx hb hml hown hts hP hS hA hl.1 (cM_part l _ _ _ _ hg1 hg0) (va_cwS 3 hts gX9_findLeast_X9_part rfl rfl rfl (by decide +kernel) ⟨Nat.le_of_ble_eq_true rfl, Nat.le_of_ble_eq_true rfl⟩) rfl rfl (Nat.le_of_ble_eq_true rfl) ⟨Nat.le_of_ble_eq_true rfl, Nat.le_of_ble_eq_true rfl⟩ dX9_findLeast_111 (fun r9 H locs e9 hP hS => ?_)
  rw [show r9 = (jUp V by9 (jFL S c9 x9 by9 R C).1 R) / g from e9.trans (if_neg (fun q => q nI_0))]
  refine rM_put21 (v := (jUp V by9 (jFL S c9 x9 by9 R C).1 R) / g) hx hb hts hin hown hK hP hD hS (by decide +kernel) dX9_findLeast_114 (fun H locs hP hD hS => ?_)
  have hP : va_P D vwCl (wM cy ad (mk9 (aF V) (vp_updL (aG V) 21 ((jUp V by9 (jFL S c9 x9 by9 R C).1 R) / g)) (a1 V) (a2 V) (a3 V) (a4 V) (a5 V) (a6 V) (a7 V) (a8 V) (a9 V) (a10 V) (a11 V) (a12 V) (a13 V) (a14 V) (a15 V) (a16 V) (a17 V) (a18 V) (a19 V) (a20 V)) ++ X) H := hP
  have hD : va_D (va_A (wM cy ad S ++ X) sz) (wM cy ad (mk9 (aF V) (vp_updL (aG V) 21 ((jUp V by9 (jFL S c9 x9 by9 R C).1 R) / g)) (a1 V) (a2 V) (a3 V) (a4 V) (a5 V) (a6 V) (a7 V) (a8 V) (a9 V) (a10 V) (a11 V) (a12 V) (a13 V) (a14 V) (a15 V) (a16 V) (a17 V) (a18 V) (a19 V) (a20 V)) ++ X) := hD
  refine lv_aload_n hx hb dX9_findLeast_117 rfl (lv_at hl 1 rfl) ?_
  refine lv_lload hx hb dX9_findLeast_118 (lv_at hl 0 rfl) ?_
  refine lv_aload_n hx hb dX9_findLeast_120 rfl (lv_at hl 1 rfl) ?_
  refine rM_get (v := .long (aG V 16)) hx hb hts hin hown hK hP 16 (by decide) rfl (by decide +kernel) dX9_findLeast_121 ?_
  refine lv_iconst (v := nI 1) hx hb dX9_findLeast_124 (by decide) ?_
  refine pCalll (As := [.long (jUp V by9 (jFL S c9 x9 by9 R C).1 R), .long (aG V 16), .int (nI 1)]) (rest := [.ref (ad 0)]) hx hb hml hown hts hP hS hA hl.1 (cM_part l _ _ _ _ hg1 hg0) (va_cwS 3 hts gX9_findLeast_X9_part rfl rfl rfl (by decide +kernel) ⟨Nat.le_of_ble_eq_true rfl, Nat.le_of_ble_eq_true rfl⟩) rfl rfl (Nat.le_of_ble_eq_true rfl) ⟨Nat.le_of_ble_eq_true rfl, Nat.le_of_ble_eq_true rfl⟩ dX9_findLeast_125 (fun r10 H locs e10 hP hS => ?_)
  rw [show r10 = (aG V 16) / g from e10.trans (if_pos (by decide))]
  refine rM_put22 (v := (aG V 16) / g) hx hb hts hin hown hK hP hD hS (by decide +kernel) dX9_findLeast_128 (fun H locs hP hD hS => ?_)
  have hP : va_P D vwCl (wM cy ad (mk9 (aF V) (vp_updL (vp_updL (aG V) 21 ((jUp V by9 (jFL S c9 x9 by9 R C).1 R) / g)) 22 ((aG V 16) / g)) (a1 V) (a2 V) (a3 V) (a4 V) (a5 V) (a6 V) (a7 V) (a8 V) (a9 V) (a10 V) (a11 V) (a12 V) (a13 V) (a14 V) (a15 V) (a16 V) (a17 V) (a18 V) (a19 V) (a20 V)) ++ X) H := hP
  have hD : va_D (va_A (wM cy ad S ++ X) sz) (wM cy ad (mk9 (aF V) (vp_updL (vp_updL (aG V) 21 ((jUp V by9 (jFL S c9 x9 by9 R C).1 R) / g)) 22 ((aG V 16) / g)) (a1 V) (a2 V) (a3 V) (a4 V) (a5 V) (a6 V) (a7 V) (a8 V) (a9 V) (a10 V) (a11 V) (a12 V) (a13 V) (a14 V) (a15 V) (a16 V) (a17 V) (a18 V) (a19 V) (a20 V)) ++ X) := hD
  exact W.vret hx hb hr (fun t ht hW => ⟨⟨_, rfl, rfl, by rw [ht]; exact hP, va_K.moved hW.alike hK, hD⟩, hS.F ht⟩) hS.2.2 dX9_findLeast_131
