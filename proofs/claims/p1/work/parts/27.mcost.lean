/-! the reference: costs, columns, barring -/
def fAj (R : Nat) (t : Int64) (i j : Nat) (c : Nat → Int64) : Nat → Int64 := vp_updL c (22 * R + j) (c (22 * R + j) + t * c (22 * i + j))
def fAi (S : MS) (R C : Nat) (w9 : Int32) (t : Int64) (i : Nat) (c : Nat → Int64) : Nat → Int64 := if a10 S i = w9 then lpN (fAj R t i) (C + 1) 0 c else c
def fAk (S : MS) (R : Nat) (w9 : Int32) (t : Int64) (j : Nat) (c : Nat → Int64) : Nat → Int64 := vp_updL c (22 * R + j) (c (22 * R + j) + (if ¬ a11 S j = w9 then 0 else t * aG S 16))
def fCh (S : MS) (R k : Nat) (f : Int32) : Int32 := if ¬ a12 S (a11 S k).toNatClampNeg = 0 then f else if 0 ≤ lg_cmp (a9 S (22 * R + k)) 0 then f else if f < 0 then nI k else if a11 S f.toNatClampNeg ≤ a11 S k then f else nI k
def jCheap (S : MS) (R C : Nat) : Int32 := lpN (fCh S R) C 1 (-6)
def fFe (S : MS) (q i : Nat) (f : Int32) : Int32 := if 0 ≤ lg_cmp (a9 S (22 * i + q)) 0 then f else if f < 0 then nI i
  else if lg_cmp (a9 S (22 * i) * -(a9 S (22 * f.toNatClampNeg + q))) (a9 S (22 * f.toNatClampNeg) * -(a9 S (22 * i + q))) < 0 then nI i
  else if ¬ lg_cmp (a9 S (22 * i) * -(a9 S (22 * f.toNatClampNeg + q))) (a9 S (22 * f.toNatClampNeg) * -(a9 S (22 * i + q))) = 0 then f else if a10 S f.toNatClampNeg ≤ a10 S i then f else nI i
def jFirst (S : MS) (q R : Nat) : Int32 := lpN (fFe S q) R 0 (-6)
def fBa (S : MS) (R j : Nat) (u : Nat → Int32) : Nat → Int32 := upd u (a11 S j).toNatClampNeg (if ¬ u (a11 S j).toNatClampNeg = 0 then nI 1 else if lg_cmp (a9 S (22 * R + j)) 0 ≤ 0 then nI 0 else nI 1)
def jAddC (S : MS) (w9 : Int32) (t : Int64) (R C : Nat) : MS := mk9 (aF S) (aG S) (a1 S) (a2 S) (a3 S) (a4 S) (a5 S) (a6 S) (a7 S) (a8 S) (lpN (fAk S R w9 t) C 1 (lpN (fAi S R C w9 t) R 0 (a9 S))) (a10 S) (a11 S) (a12 S) (a13 S) (a14 S) (a15 S) (a16 S) (a17 S) (a18 S) (a19 S) (a20 S)
def jBar (S : MS) (R C : Nat) : MS := mk9 (aF S) (aG S) (a1 S) (a2 S) (a3 S) (a4 S) (a5 S) (a6 S) (a7 S) (a8 S) (a9 S) (a10 S) (a11 S) (lpN (fBa S R) C 1 (a12 S)) (a13 S) (a14 S) (a15 S) (a16 S) (a17 S) (a18 S) (a19 S) (a20 S)
set_option maxHeartbeats 4000000 in
set_option maxRecDepth 100000 in
theorem cM_addCost (l : Launch) (D : va_G) (cy : Nat → ClassId) (ad : Nat → Nat) (X : va_W) (S : MS) (sz : Nat) {R C : Nat} (hR : aF S 14 = nI R) (hC : aF S 15 = nI C) (hR36 : R ≤ 36) (hC21 : C ≤ 21) (w9 : Int32) (t : Int64) : Met l yX9_addCost wsX9_addCost (rm9 0 0) (gPc D cy (wM cy ad S ++ X) sz [.ref (ad 0), .int w9, .long t]) (gQv D cy (wM cy ad S ++ X) sz (fun ws' => ws' = wM cy ad (jAddC S w9 t R C) ++ X)) 0 0 (va_A (wM cy ad S ++ X) sz) := by
  refine gHead (cc := cX9_addCost) (maxL := 6) (ret := none) (by decide) rfl (Nat.le_of_ble_eq_true rfl) ?_
  intro p e s m below meth c ls hx hb hr hlocks hml hown hts hsz hP hK hD hS hA hl
  have hin : ∀ w ∈ u_ws RX9 TX9 36, w ∈ wsX9_addCost := by decide +kernel
  have hown : s.vm.findClass RX9 = some m.cls := hown
  have hl : lv_has ls 6 [(0, .ref (ad 0)), (1, .int w9), (2, .long t)] := hl
  refine lv_iconst (v := nI 0) hx hb dX9_addCost_0 (by decide) ?_
  refine lv_istore (lv' := [(4, .int (nI 0)), (0, .ref (ad 0)), (1, .int w9), (2, .long t)]) hx hb dX9_addCost_1 hl (by decide) rfl (fun ls hl => ?_)
  have L3 : ∀ (n i : Nat) (u : Nat → Int64) (H : Heap) (locs : List Loc) (ls : Array Slot), i + n = R → va_P D vwCl (wM cy ad (mk9 (aF S) (aG S) (a1 S) (a2 S) (a3 S) (a4 S) (a5 S) (a6 S) (a7 S) (a8 S) u (a10 S) (a11 S) (a12 S) (a13 S) (a14 S) (a15 S) (a16 S) (a17 S) (a18 S) (a19 S) (a20 S)) ++ X) H → va_D (va_A (wM cy ad S ++ X) sz) (wM cy ad (mk9 (aF S) (aG S) (a1 S) (a2 S) (a3 S) (a4 S) (a5 S) (a6 S) (a7 S) (a8 S) u (a10 S) (a11 S) (a12 S) (a13 S) (a14 S) (a15 S) (a16 S) (a17 S) (a18 S) (a19 S) (a20 S)) ++ X) → va_S (va_A (wM cy ad S ++ X) sz) s.heap H locs → lv_has ls 6 [(4, .int (nI i)), (0, .ref (ad 0)), (1, .int w9), (2, .long t)] → (∀ (H : Heap) (locs : List Loc) (ls : Array Slot), va_P D vwCl (wM cy ad (mk9 (aF S) (aG S) (a1 S) (a2 S) (a3 S) (a4 S) (a5 S) (a6 S) (a7 S) (a8 S) (lpN (fAi S R C w9 t) n i u) (a10 S) (a11 S) (a12 S) (a13 S) (a14 S) (a15 S) (a16 S) (a17 S) (a18 S) (a19 S) (a20 S)) ++ X) H → va_D (va_A (wM cy ad S ++ X) sz) (wM cy ad (mk9 (aF S) (aG S) (a1 S) (a2 S) (a3 S) (a4 S) (a5 S) (a6 S) (a7 S) (a8 S) (lpN (fAi S R C w9 t) n i u) (a10 S) (a11 S) (a12 S) (a13 S) (a14 S) (a15 S) (a16 S) (a17 S) (a18 S) (a19 S) (a20 S)) ++ X) → va_S (va_A (wM cy ad S ++ X) sz) s.heap H locs → lv_has ls 6 [(4, .int (nI R)), (0, .ref (ad 0)), (1, .int w9), (2, .long t)] → W p l e (headSpec wsX9_addCost (rm9 0 0)).room s m ([.ref (ad 0), .int w9, .long t] : List Value).toArray below meth c H locs 0 0 (MQ below (gQv D cy (wM cy ad S ++ X) sz (fun ws' => ws' = wM cy ad (jAddC S w9 t R C) ++ X)) ([.ref (ad 0), .int w9, .long t] : List Value).toArray s 0 0 (va_A (wM cy ad S ++ X) sz)) (F0 m 80 ls [])) → W p l e (headSpec wsX9_addCost (rm9 0 0)).room s m ([.ref (ad 0), .int w9, .long t] : List Value).toArray below meth c H locs 0 0 (MQ below (gQv D cy (wM cy ad S ++ X) sz (fun ws' => ws' = wM cy ad (jAddC S w9 t R C) ++ X)) ([.ref (ad 0), .int w9, .long t] : List Value).toArray s 0 0 (va_A (wM cy ad S ++ X) sz)) (F0 m 3 ls []) := by
    intro n
    induction n with
    | zero =>
      intro i u H locs ls hk hP hD hS hl hex
      obtain rfl : R = i := by omega
      refine lv_iload hx hb dX9_addCost_3 (lv_at hl 0 rfl) ?_
      refine lv_aload_n hx hb dX9_addCost_5 rfl (lv_at hl 1 rfl) ?_
      refine rM_get (v := .int (aF S 14)) hx hb hts hin hown hK hP 14 (by decide) rfl (by decide +kernel) dX9_addCost_6 ?_
      rw [hR]
      refine lv_icmp_ge (tgt := 80) hx hb dX9_addCost_9 (by decide) (fun c1 => ?_) (fun c1 => ?_)
      · rw [nI_leI (by omega) (by omega)] at c1
        exact hex _ _ _ hP hD hS (lv_sub hl [0, 1, 2, 3] rfl)
      · exact absurd c1 (by rw [nI_leI (by omega) (by omega)]; omega)
    | succ n ih =>
      intro i u H locs ls hk hP hD hS hl hex
      have hk3 : i < R := by omega
      refine lv_iload hx hb dX9_addCost_3 (lv_at hl 0 rfl) ?_
      refine lv_aload_n hx hb dX9_addCost_5 rfl (lv_at hl 1 rfl) ?_
      refine rM_get (v := .int (aF S 14)) hx hb hts hin hown hK hP 14 (by decide) rfl (by decide +kernel) dX9_addCost_6 ?_
      rw [hR]
      refine lv_icmp_ge (tgt := 80) hx hb dX9_addCost_9 (by decide) (fun c2 => ?_) (fun c2 => ?_)
      · exact absurd c2 (by rw [nI_leI (by omega) (by omega)]; omega)
      · rw [nI_leI (by omega) (by omega)] at c2
        by_cases hwi : a10 S i = w9
        · skip
          refine lv_iconst (v := nI 0) hx hb dX9_addCost_12 (by decide) ?_
          refine lv_istore (lv' := [(5, .int (nI 0)), (4, .int (nI i)), (0, .ref (ad 0)), (1, .int w9), (2, .long t)]) hx hb dX9_addCost_13 hl (by decide) rfl (fun ls hl => ?_)
          have L15 : ∀ (n j : Nat) (v : Nat → Int64) (H : Heap) (locs : List Loc) (ls : Array Slot), j + n = C + 1 → va_P D vwCl (wM cy ad (mk9 (aF S) (aG S) (a1 S) (a2 S) (a3 S) (a4 S) (a5 S) (a6 S) (a7 S) (a8 S) v (a10 S) (a11 S) (a12 S) (a13 S) (a14 S) (a15 S) (a16 S) (a17 S) (a18 S) (a19 S) (a20 S)) ++ X) H → va_D (va_A (wM cy ad S ++ X) sz) (wM cy ad (mk9 (aF S) (aG S) (a1 S) (a2 S) (a3 S) (a4 S) (a5 S) (a6 S) (a7 S) (a8 S) v (a10 S) (a11 S) (a12 S) (a13 S) (a14 S) (a15 S) (a16 S) (a17 S) (a18 S) (a19 S) (a20 S)) ++ X) → va_S (va_A (wM cy ad S ++ X) sz) s.heap H locs → lv_has ls 6 [(5, .int (nI j)), (0, .ref (ad 0)), (1, .int w9), (2, .long t), (4, .int (nI i))] → (∀ (H : Heap) (locs : List Loc) (ls : Array Slot), va_P D vwCl (wM cy ad (mk9 (aF S) (aG S) (a1 S) (a2 S) (a3 S) (a4 S) (a5 S) (a6 S) (a7 S) (a8 S) (lpN (fAj R t i) n j v) (a10 S) (a11 S) (a12 S) (a13 S) (a14 S) (a15 S) (a16 S) (a17 S) (a18 S) (a19 S) (a20 S)) ++ X) H → va_D (va_A (wM cy ad S ++ X) sz) (wM cy ad (mk9 (aF S) (aG S) (a1 S) (a2 S) (a3 S) (a4 S) (a5 S) (a6 S) (a7 S) (a8 S) (lpN (fAj R t i) n j v) (a10 S) (a11 S) (a12 S) (a13 S) (a14 S) (a15 S) (a16 S) (a17 S) (a18 S) (a19 S) (a20 S)) ++ X) → va_S (va_A (wM cy ad S ++ X) sz) s.heap H locs → lv_has ls 6 [(5, .int (nI (C + 1))), (0, .ref (ad 0)), (1, .int w9), (2, .long t), (4, .int (nI i))] → W p l e (headSpec wsX9_addCost (rm9 0 0)).room s m ([.ref (ad 0), .int w9, .long t] : List Value).toArray below meth c H locs 0 0 (MQ below (gQv D cy (wM cy ad S ++ X) sz (fun ws' => ws' = wM cy ad (jAddC S w9 t R C) ++ X)) ([.ref (ad 0), .int w9, .long t] : List Value).toArray s 0 0 (va_A (wM cy ad S ++ X) sz)) (F0 m 74 ls [])) → W p l e (headSpec wsX9_addCost (rm9 0 0)).room s m ([.ref (ad 0), .int w9, .long t] : List Value).toArray below meth c H locs 0 0 (MQ below (gQv D cy (wM cy ad S ++ X) sz (fun ws' => ws' = wM cy ad (jAddC S w9 t R C) ++ X)) ([.ref (ad 0), .int w9, .long t] : List Value).toArray s 0 0 (va_A (wM cy ad S ++ X) sz)) (F0 m 15 ls []) := by
            intro n
            induction n with
            | zero =>
              intro j v H locs ls hk hP hD hS hl hex
              obtain rfl : C + 1 = j := by omega
              refine lv_iload hx hb dX9_addCost_15 (lv_at hl 0 rfl) ?_
              refine lv_aload_n hx hb dX9_addCost_17 rfl (lv_at hl 1 rfl) ?_
              refine rM_get (v := .int (aF S 15)) hx hb hts hin hown hK hP 15 (by decide) rfl (by decide +kernel) dX9_addCost_18 ?_
              rw [hC]
              refine lv_icmp_gt (tgt := 74) hx hb dX9_addCost_21 (by decide) (fun c3 => ?_) (fun c3 => ?_)
              · rw [nI_ltI (by omega) (by omega)] at c3
                exact hex _ _ _ hP hD hS (lv_sub hl [0, 1, 2, 3, 4] rfl)
              · exact absurd c3 (by rw [nI_ltI (by omega) (by omega)]; omega)
            | succ n ih =>
              intro j v H locs ls hk hP hD hS hl hex
              have hk15 : j < C + 1 := by omega
              refine lv_iload hx hb dX9_addCost_15 (lv_at hl 0 rfl) ?_
              refine lv_aload_n hx hb dX9_addCost_17 rfl (lv_at hl 1 rfl) ?_
              refine rM_get (v := .int (aF S 15)) hx hb hts hin hown hK hP 15 (by decide) rfl (by decide +kernel) dX9_addCost_18 ?_
              rw [hC]
              refine lv_icmp_gt (tgt := 74) hx hb dX9_addCost_21 (by decide) (fun c4 => ?_) (fun c4 => ?_)
              · exact absurd c4 (by rw [nI_ltI (by omega) (by omega)]; omega)
              · rw [nI_ltI (by omega) (by omega)] at c4
                refine lv_aload_n hx hb dX9_addCost_24 rfl (lv_at hl 1 rfl) ?_
                refine rM_get (v := .ref (ad 10)) hx hb hts hin hown hK hP 12 (by decide) rfl (by decide +kernel) dX9_addCost_25 ?_
                refine lv_iload hx hb dX9_addCost_28 (lv_at hl 4 rfl) ?_
                refine rM_ld10 (i := i) hx hb hK hP (by omega) dX9_addCost_30 ?_
                refine W.eq (g2 := F0 m 31 ls [.int (a10 S i)]) rfl ?_
                refine lv_iload_n hx hb dX9_addCost_31 rfl (lv_at hl 2 rfl) ?_
                refine lv_icmp_ne (tgt := 74) hx hb dX9_addCost_32 (by decide) (fun c5 => ?_) (fun c5 => ?_)
                · exact absurd hwi c5
                · skip
                  refine lv_aload_n hx hb dX9_addCost_35 rfl (lv_at hl 1 rfl) ?_
                  refine rM_get (v := .ref (ad 9)) hx hb hts hin hown hK hP 11 (by decide) rfl (by decide +kernel) dX9_addCost_36 ?_
                  refine lv_bipush (v := nI 22) hx hb dX9_addCost_39 (by decide) ?_
                  refine lv_aload_n hx hb dX9_addCost_41 rfl (lv_at hl 1 rfl) ?_
                  refine rM_get (v := .int (aF S 14)) hx hb hts hin hown hK hP 14 (by decide) rfl (by decide +kernel) dX9_addCost_42 ?_
                  rw [hR]
                  refine lv_imul hx hb dX9_addCost_45 ?_
                  rw [pk_mul]
                  refine lv_iload hx hb dX9_addCost_46 (lv_at hl 0 rfl) ?_
                  refine lv_iadd hx hb dX9_addCost_48 ?_
                  rw [nI_add]
                  refine lv_dup2_11 hx hb dX9_addCost_49 rfl rfl ?_
                  refine rM_ld9 (i := ((22 * R) + j)) hx hb hK hP (by omega) dX9_addCost_50 ?_
                  refine W.eq (g2 := F0 m 51 ls [.long (v ((22 * R) + j)), .int (nI ((22 * R) + j)), .ref (ad 9)]) rfl ?_
                  refine lv_lload_n hx hb dX9_addCost_51 rfl (lv_at hl 3 rfl) ?_
                  refine lv_aload_n hx hb dX9_addCost_52 rfl (lv_at hl 1 rfl) ?_
                  refine rM_get (v := .ref (ad 9)) hx hb hts hin hown hK hP 11 (by decide) rfl (by decide +kernel) dX9_addCost_53 ?_
                  refine lv_bipush (v := nI 22) hx hb dX9_addCost_56 (by decide) ?_
                  refine lv_iload hx hb dX9_addCost_58 (lv_at hl 4 rfl) ?_
                  refine lv_imul hx hb dX9_addCost_60 ?_
                  rw [pk_mul]
                  refine lv_iload hx hb dX9_addCost_61 (lv_at hl 0 rfl) ?_
                  refine lv_iadd hx hb dX9_addCost_63 ?_
                  rw [nI_add]
                  refine rM_ld9 (i := ((22 * i) + j)) hx hb hK hP (by omega) dX9_addCost_64 ?_
                  refine W.eq (g2 := F0 m 65 ls [.long (v ((22 * i) + j)), .long t, .long (v ((22 * R) + j)), .int (nI ((22 * R) + j)), .ref (ad 9)]) rfl ?_
                  refine lv_lmul hx hb dX9_addCost_65 ?_
                  refine lv_ladd hx hb dX9_addCost_66 ?_
                  refine rM_st9 (i := ((22 * R) + j)) hx hb hK hP hD hS (by omega) dX9_addCost_67 (fun H locs hP hD hS => ?_)
                  have hP : va_P D vwCl (wM cy ad (mk9 (aF S) (aG S) (a1 S) (a2 S) (a3 S) (a4 S) (a5 S) (a6 S) (a7 S) (a8 S) (vp_updL v ((22 * R) + j) ((v ((22 * R) + j)) + (t * (v ((22 * i) + j))))) (a10 S) (a11 S) (a12 S) (a13 S) (a14 S) (a15 S) (a16 S) (a17 S) (a18 S) (a19 S) (a20 S)) ++ X) H := hP
                  have hD : va_D (va_A (wM cy ad S ++ X) sz) (wM cy ad (mk9 (aF S) (aG S) (a1 S) (a2 S) (a3 S) (a4 S) (a5 S) (a6 S) (a7 S) (a8 S) (vp_updL v ((22 * R) + j) ((v ((22 * R) + j)) + (t * (v ((22 * i) + j))))) (a10 S) (a11 S) (a12 S) (a13 S) (a14 S) (a15 S) (a16 S) (a17 S) (a18 S) (a19 S) (a20 S)) ++ X) := hD
                  refine lv_iinc (v := nI (j + 1)) (lv' := [(5, .int (nI (j + 1))), (0, .ref (ad 0)), (1, .int w9), (2, .long t), (4, .int (nI i))]) hx hb dX9_addCost_68 hl (k := 0) rfl (nI_1 _) (by decide) rfl (fun ls hl => ?_)
                  refine lv_goto (tgt := 15) hx hb dX9_addCost_71 (by decide) ?_
                  have he : (fAj R t i) j v = (vp_updL v ((22 * R) + j) ((v ((22 * R) + j)) + (t * (v ((22 * i) + j))))) := rfl
                  rw [lpN_s, he] at hex
                  exact ih ((j + 1)) (vp_updL v ((22 * R) + j) ((v ((22 * R) + j)) + (t * (v ((22 * i) + j))))) _ _ _ (by omega) hP hD hS (lv_sub hl [0, 1, 2, 3, 4] rfl) hex
          refine L15 (C + 1) 0 u _ _ _ (by omega) hP hD hS (lv_sub hl [0, 2, 3, 4, 1] rfl) (fun H locs ls hP hD hS hl => ?_)
          refine lv_iinc (v := nI (i + 1)) (lv' := [(4, .int (nI (i + 1))), (5, .int (nI (C + 1))), (0, .ref (ad 0)), (1, .int w9), (2, .long t)]) hx hb dX9_addCost_74 hl (k := 4) rfl (nI_1 _) (by decide) rfl (fun ls hl => ?_)
          refine lv_goto (tgt := 3) hx hb dX9_addCost_77 (by decide) ?_
          have he : (fAi S R C w9 t) i u = (lpN (fAj R t i) (C + 1) 0 u) := by simp [fAi, hwi]
          rw [lpN_s, he] at hex
          exact ih ((i + 1)) (lpN (fAj R t i) (C + 1) 0 u) _ _ _ (by omega) hP hD hS (lv_sub hl [0, 2, 3, 4] rfl) hex
        · skip
          refine lv_iconst (v := nI 0) hx hb dX9_addCost_12 (by decide) ?_
          refine lv_istore (lv' := [(5, .int (nI 0)), (4, .int (nI i)), (0, .ref (ad 0)), (1, .int w9), (2, .long t)]) hx hb dX9_addCost_13 hl (by decide) rfl (fun ls hl => ?_)
          refine lv_iload hx hb dX9_addCost_15 (lv_at hl 0 rfl) ?_
          refine lv_aload_n hx hb dX9_addCost_17 rfl (lv_at hl 2 rfl) ?_
          refine rM_get (v := .int (aF S 15)) hx hb hts hin hown hK hP 15 (by decide) rfl (by decide +kernel) dX9_addCost_18 ?_
          rw [hC]
          refine lv_icmp_gt (tgt := 74) hx hb dX9_addCost_21 (by decide) (fun c6 => ?_) (fun c6 => ?_)
          · rw [nI_ltI (by omega) (by omega)] at c6
            refine lv_iinc (v := nI (i + 1)) (lv' := [(4, .int (nI (i + 1))), (5, .int (nI 0)), (0, .ref (ad 0)), (1, .int w9), (2, .long t)]) hx hb dX9_addCost_74 hl (k := 1) rfl (nI_1 _) (by decide) rfl (fun ls hl => ?_)
            refine lv_goto (tgt := 3) hx hb dX9_addCost_77 (by decide) ?_
            have he : (fAi S R C w9 t) i u = u := by simp [fAi, hwi]
            rw [lpN_s, he] at hex
            exact ih ((i + 1)) u _ _ _ (by omega) hP hD hS (lv_sub hl [0, 2, 3, 4] rfl) hex
          · rw [nI_ltI (by omega) (by omega)] at c6
            refine lv_aload_n hx hb dX9_addCost_24 rfl (lv_at hl 2 rfl) ?_
            refine rM_get (v := .ref (ad 10)) hx hb hts hin hown hK hP 12 (by decide) rfl (by decide +kernel) dX9_addCost_25 ?_
            refine lv_iload hx hb dX9_addCost_28 (lv_at hl 1 rfl) ?_
            refine rM_ld10 (i := i) hx hb hK hP (by omega) dX9_addCost_30 ?_
            refine W.eq (g2 := F0 m 31 ls [.int (a10 S i)]) rfl ?_
            refine lv_iload_n hx hb dX9_addCost_31 rfl (lv_at hl 3 rfl) ?_
            refine lv_icmp_ne (tgt := 74) hx hb dX9_addCost_32 (by decide) (fun c7 => ?_) (fun c7 => ?_)
            · skip
              refine lv_iinc (v := nI (i + 1)) (lv' := [(4, .int (nI (i + 1))), (5, .int (nI 0)), (0, .ref (ad 0)), (1, .int w9), (2, .long t)]) hx hb dX9_addCost_74 hl (k := 1) rfl (nI_1 _) (by decide) rfl (fun ls hl => ?_)
              refine lv_goto (tgt := 3) hx hb dX9_addCost_77 (by decide) ?_
              have he : (fAi S R C w9 t) i u = u := by simp [fAi, hwi]
              rw [lpN_s, he] at hex
              exact ih ((i + 1)) u _ _ _ (by omega) hP hD hS (lv_sub hl [0, 2, 3, 4] rfl) hex
            · exact absurd c7 hwi
  refine L3 R 0 (a9 S) _ _ _ (by omega) hP hD hS (lv_sub hl [0, 1, 2, 3] rfl) (fun H locs ls hP hD hS hl => ?_)
  refine lv_iconst (v := nI 1) hx hb dX9_addCost_80 (by decide) ?_
  refine lv_istore (lv' := [(4, .int (nI 1)), (0, .ref (ad 0)), (1, .int w9), (2, .long t)]) hx hb dX9_addCost_81 hl (by decide) rfl (fun ls hl => ?_)
  have L83 : ∀ (n j : Nat) (v : Nat → Int64) (H : Heap) (locs : List Loc) (ls : Array Slot), j + n = C + 1 → 1 ≤ j → va_P D vwCl (wM cy ad (mk9 (aF S) (aG S) (a1 S) (a2 S) (a3 S) (a4 S) (a5 S) (a6 S) (a7 S) (a8 S) v (a10 S) (a11 S) (a12 S) (a13 S) (a14 S) (a15 S) (a16 S) (a17 S) (a18 S) (a19 S) (a20 S)) ++ X) H → va_D (va_A (wM cy ad S ++ X) sz) (wM cy ad (mk9 (aF S) (aG S) (a1 S) (a2 S) (a3 S) (a4 S) (a5 S) (a6 S) (a7 S) (a8 S) v (a10 S) (a11 S) (a12 S) (a13 S) (a14 S) (a15 S) (a16 S) (a17 S) (a18 S) (a19 S) (a20 S)) ++ X) → va_S (va_A (wM cy ad S ++ X) sz) s.heap H locs → lv_has ls 6 [(4, .int (nI j)), (0, .ref (ad 0)), (1, .int w9), (2, .long t)] → (∀ (H : Heap) (locs : List Loc) (ls : Array Slot), va_P D vwCl (wM cy ad (mk9 (aF S) (aG S) (a1 S) (a2 S) (a3 S) (a4 S) (a5 S) (a6 S) (a7 S) (a8 S) (lpN (fAk S R w9 t) n j v) (a10 S) (a11 S) (a12 S) (a13 S) (a14 S) (a15 S) (a16 S) (a17 S) (a18 S) (a19 S) (a20 S)) ++ X) H → va_D (va_A (wM cy ad S ++ X) sz) (wM cy ad (mk9 (aF S) (aG S) (a1 S) (a2 S) (a3 S) (a4 S) (a5 S) (a6 S) (a7 S) (a8 S) (lpN (fAk S R w9 t) n j v) (a10 S) (a11 S) (a12 S) (a13 S) (a14 S) (a15 S) (a16 S) (a17 S) (a18 S) (a19 S) (a20 S)) ++ X) → va_S (va_A (wM cy ad S ++ X) sz) s.heap H locs → lv_has ls 6 [(4, .int (nI (C + 1))), (0, .ref (ad 0)), (1, .int w9), (2, .long t)] → W p l e (headSpec wsX9_addCost (rm9 0 0)).room s m ([.ref (ad 0), .int w9, .long t] : List Value).toArray below meth c H locs 0 0 (MQ below (gQv D cy (wM cy ad S ++ X) sz (fun ws' => ws' = wM cy ad (jAddC S w9 t R C) ++ X)) ([.ref (ad 0), .int w9, .long t] : List Value).toArray s 0 0 (va_A (wM cy ad S ++ X) sz)) (F0 m 137 ls [])) → W p l e (headSpec wsX9_addCost (rm9 0 0)).room s m ([.ref (ad 0), .int w9, .long t] : List Value).toArray below meth c H locs 0 0 (MQ below (gQv D cy (wM cy ad S ++ X) sz (fun ws' => ws' = wM cy ad (jAddC S w9 t R C) ++ X)) ([.ref (ad 0), .int w9, .long t] : List Value).toArray s 0 0 (va_A (wM cy ad S ++ X) sz)) (F0 m 83 ls []) := by
    intro n
    induction n with
    | zero =>
      intro j v H locs ls hk hlo hP hD hS hl hex
      obtain rfl : C + 1 = j := by omega
      refine lv_iload hx hb dX9_addCost_83 (lv_at hl 0 rfl) ?_
      refine lv_aload_n hx hb dX9_addCost_85 rfl (lv_at hl 1 rfl) ?_
      refine rM_get (v := .int (aF S 15)) hx hb hts hin hown hK hP 15 (by decide) rfl (by decide +kernel) dX9_addCost_86 ?_
      rw [hC]
      refine lv_icmp_gt (tgt := 137) hx hb dX9_addCost_89 (by decide) (fun c8 => ?_) (fun c8 => ?_)
      · rw [nI_ltI (by omega) (by omega)] at c8
        exact hex _ _ _ hP hD hS (lv_sub hl [0, 1, 2, 3] rfl)
      · exact absurd c8 (by rw [nI_ltI (by omega) (by omega)]; omega)
    | succ n ih =>
      intro j v H locs ls hk hlo hP hD hS hl hex
      have hk83 : j < C + 1 := by omega
      refine lv_iload hx hb dX9_addCost_83 (lv_at hl 0 rfl) ?_
      refine lv_aload_n hx hb dX9_addCost_85 rfl (lv_at hl 1 rfl) ?_
      refine rM_get (v := .int (aF S 15)) hx hb hts hin hown hK hP 15 (by decide) rfl (by decide +kernel) dX9_addCost_86 ?_
      rw [hC]
      refine lv_icmp_gt (tgt := 137) hx hb dX9_addCost_89 (by decide) (fun c9 => ?_) (fun c9 => ?_)
      · exact absurd c9 (by rw [nI_ltI (by omega) (by omega)]; omega)
      · rw [nI_ltI (by omega) (by omega)] at c9
        refine lv_aload_n hx hb dX9_addCost_92 rfl (lv_at hl 1 rfl) ?_
        refine rM_get (v := .ref (ad 9)) hx hb hts hin hown hK hP 11 (by decide) rfl (by decide +kernel) dX9_addCost_93 ?_
        refine lv_bipush (v := nI 22) hx hb dX9_addCost_96 (by decide) ?_
        refine lv_aload_n hx hb dX9_addCost_98 rfl (lv_at hl 1 rfl) ?_
        refine rM_get (v := .int (aF S 14)) hx hb hts hin hown hK hP 14 (by decide) rfl (by decide +kernel) dX9_addCost_99 ?_
        rw [hR]
        refine lv_imul hx hb dX9_addCost_102 ?_
        rw [pk_mul]
        refine lv_iload hx hb dX9_addCost_103 (lv_at hl 0 rfl) ?_
        refine lv_iadd hx hb dX9_addCost_105 ?_
        rw [nI_add]
        refine lv_dup2_11 hx hb dX9_addCost_106 rfl rfl ?_
        refine rM_ld9 (i := ((22 * R) + j)) hx hb hK hP (by omega) dX9_addCost_107 ?_
        refine W.eq (g2 := F0 m 108 ls [.long (v ((22 * R) + j)), .int (nI ((22 * R) + j)), .ref (ad 9)]) rfl ?_
        refine lv_aload_n hx hb dX9_addCost_108 rfl (lv_at hl 1 rfl) ?_
        refine rM_get (v := .ref (ad 11)) hx hb hts hin hown hK hP 13 (by decide) rfl (by decide +kernel) dX9_addCost_109 ?_
        refine lv_iload hx hb dX9_addCost_112 (lv_at hl 0 rfl) ?_
        refine rM_ld11 (i := j) hx hb hK hP (by omega) dX9_addCost_114 ?_
        refine W.eq (g2 := F0 m 115 ls [.int (a11 S j), .long (v ((22 * R) + j)), .int (nI ((22 * R) + j)), .ref (ad 9)]) rfl ?_
        refine lv_iload_n hx hb dX9_addCost_115 rfl (lv_at hl 2 rfl) ?_
        refine lv_icmp_ne (tgt := 128) hx hb dX9_addCost_116 (by decide) (fun c10 => ?_) (fun c10 => ?_)
        · skip
          refine lv_lconst (v := 0) hx hb dX9_addCost_128 (by decide) ?_
          refine lv_ladd hx hb dX9_addCost_129 ?_
          refine rM_st9 (i := ((22 * R) + j)) hx hb hK hP hD hS (by omega) dX9_addCost_130 (fun H locs hP hD hS => ?_)
          have hP : va_P D vwCl (wM cy ad (mk9 (aF S) (aG S) (a1 S) (a2 S) (a3 S) (a4 S) (a5 S) (a6 S) (a7 S) (a8 S) (vp_updL v ((22 * R) + j) ((v ((22 * R) + j)) + 0)) (a10 S) (a11 S) (a12 S) (a13 S) (a14 S) (a15 S) (a16 S) (a17 S) (a18 S) (a19 S) (a20 S)) ++ X) H := hP
          have hD : va_D (va_A (wM cy ad S ++ X) sz) (wM cy ad (mk9 (aF S) (aG S) (a1 S) (a2 S) (a3 S) (a4 S) (a5 S) (a6 S) (a7 S) (a8 S) (vp_updL v ((22 * R) + j) ((v ((22 * R) + j)) + 0)) (a10 S) (a11 S) (a12 S) (a13 S) (a14 S) (a15 S) (a16 S) (a17 S) (a18 S) (a19 S) (a20 S)) ++ X) := hD
          refine lv_iinc (v := nI (j + 1)) (lv' := [(4, .int (nI (j + 1))), (0, .ref (ad 0)), (1, .int w9), (2, .long t)]) hx hb dX9_addCost_131 hl (k := 0) rfl (nI_1 _) (by decide) rfl (fun ls hl => ?_)
          refine lv_goto (tgt := 83) hx hb dX9_addCost_134 (by decide) ?_
          have he : (fAk S R w9 t) j v = (vp_updL v ((22 * R) + j) ((v ((22 * R) + j)) + 0)) := by simp [fAk, c10, c9]
          rw [lpN_s, he] at hex
          exact ih ((j + 1)) (vp_updL v ((22 * R) + j) ((v ((22 * R) + j)) + 0)) _ _ _ (by omega) (by omega) hP hD hS (lv_sub hl [0, 1, 2, 3] rfl) hex
        · skip
          refine lv_lload_n hx hb dX9_addCost_119 rfl (lv_at hl 3 rfl) ?_
          refine lv_aload_n hx hb dX9_addCost_120 rfl (lv_at hl 1 rfl) ?_
          refine rM_get (v := .long (aG S 16)) hx hb hts hin hown hK hP 16 (by decide) rfl (by decide +kernel) dX9_addCost_121 ?_
          refine lv_lmul hx hb dX9_addCost_124 ?_
          refine lv_goto (tgt := 129) hx hb dX9_addCost_125 (by decide) ?_
          refine lv_ladd hx hb dX9_addCost_129 ?_
          refine rM_st9 (i := ((22 * R) + j)) hx hb hK hP hD hS (by omega) dX9_addCost_130 (fun H locs hP hD hS => ?_)
          have hP : va_P D vwCl (wM cy ad (mk9 (aF S) (aG S) (a1 S) (a2 S) (a3 S) (a4 S) (a5 S) (a6 S) (a7 S) (a8 S) (vp_updL v ((22 * R) + j) ((v ((22 * R) + j)) + (t * (aG S 16)))) (a10 S) (a11 S) (a12 S) (a13 S) (a14 S) (a15 S) (a16 S) (a17 S) (a18 S) (a19 S) (a20 S)) ++ X) H := hP
          have hD : va_D (va_A (wM cy ad S ++ X) sz) (wM cy ad (mk9 (aF S) (aG S) (a1 S) (a2 S) (a3 S) (a4 S) (a5 S) (a6 S) (a7 S) (a8 S) (vp_updL v ((22 * R) + j) ((v ((22 * R) + j)) + (t * (aG S 16)))) (a10 S) (a11 S) (a12 S) (a13 S) (a14 S) (a15 S) (a16 S) (a17 S) (a18 S) (a19 S) (a20 S)) ++ X) := hD
          refine lv_iinc (v := nI (j + 1)) (lv' := [(4, .int (nI (j + 1))), (0, .ref (ad 0)), (1, .int w9), (2, .long t)]) hx hb dX9_addCost_131 hl (k := 0) rfl (nI_1 _) (by decide) rfl (fun ls hl => ?_)
          refine lv_goto (tgt := 83) hx hb dX9_addCost_134 (by decide) ?_
          have he : (fAk S R w9 t) j v = (vp_updL v ((22 * R) + j) ((v ((22 * R) + j)) + (t * (aG S 16)))) := by simp [fAk, c10, c9]
          rw [lpN_s, he] at hex
          exact ih ((j + 1)) (vp_updL v ((22 * R) + j) ((v ((22 * R) + j)) + (t * (aG S 16)))) _ _ _ (by omega) (by omega) hP hD hS (lv_sub hl [0, 1, 2, 3] rfl) hex
  refine L83 C 1 (lpN (fAi S R C w9 t) R 0 (a9 S)) _ _ _ (by omega) (by omega) hP hD hS (lv_sub hl [0, 1, 2, 3] rfl) (fun H locs ls hP hD hS hl => ?_)
  exact W.vret hx hb hr (fun t ht hW => ⟨⟨_, rfl, rfl, by rw [ht]; exact hP, va_K.moved hW.alike hK, hD⟩, hS.F ht⟩) hS.2.2 dX9_addCost_137
set_option maxHeartbeats 4000000 in
set_option maxRecDepth 100000 in
theorem cM_cheaper (l : Launch) (D : va_G) (cy : Nat → ClassId) (ad : Nat → Nat) (X : va_W) (S : MS) (sz : Nat) {R C : Nat} (hR : aF S 14 = nI R) (hC : aF S 15 = nI C) (hR36 : R ≤ 36) (hC21 : C ≤ 21) (hcol : ∀ j : Nat, 1 ≤ j → j ≤ C → ∃ v : Nat, v < 42 ∧ a11 S j = nI v) : Met l yX9_cheaper wsX9_cheaper (rm9 0 0) (gPc D cy (wM cy ad S ++ X) sz [.ref (ad 0)]) (gQi D cy (wM cy ad S ++ X) sz (fun r ws' => r = jCheap S R C ∧ ws' = wM cy ad S ++ X)) 0 0 (va_A (wM cy ad S ++ X) sz) := by
  refine gHead (cc := cX9_cheaper) (maxL := 4) (ret := (some .int)) (by decide) rfl (Nat.le_of_ble_eq_true rfl) ?_
  intro p e s m below meth c ls hx hb hr hlocks hml hown hts hsz hP hK hD hS hA hl
  have hin : ∀ w ∈ u_ws RX9 TX9 36, w ∈ wsX9_cheaper := by decide +kernel
  have hown : s.vm.findClass RX9 = some m.cls := hown
  have hl : lv_has ls 4 [(0, .ref (ad 0))] := hl
  refine lv_bipush (v := (-6)) hx hb dX9_cheaper_0 (by decide) ?_
  refine lv_istore_n (lv' := [(1, .int (-6)), (0, .ref (ad 0))]) hx hb dX9_cheaper_2 rfl hl (by decide) rfl (fun ls hl => ?_)
  refine lv_iconst (v := nI 1) hx hb dX9_cheaper_3 (by decide) ?_
  refine lv_istore_n (lv' := [(2, .int (nI 1)), (1, .int (-6)), (0, .ref (ad 0))]) hx hb dX9_cheaper_4 rfl hl (by decide) rfl (fun ls hl => ?_)
  have L5 : ∀ (n k : Nat) (q : Int32) (H : Heap) (locs : List Loc) (ls : Array Slot), k + n = C + 1 → 1 ≤ k → (q = -6 ∨ ∃ j : Nat, j < C + 1 ∧ q = nI j) → va_P D vwCl (wM cy ad S ++ X) H → va_D (va_A (wM cy ad S ++ X) sz) (wM cy ad S ++ X) → va_S (va_A (wM cy ad S ++ X) sz) s.heap H locs → lv_has ls 4 [(2, .int (nI k)), (0, .ref (ad 0)), (1, .int q)] → (∀ (H : Heap) (locs : List Loc) (ls : Array Slot), ((lpN (fCh S R) n k q) = -6 ∨ ∃ j : Nat, j < C + 1 ∧ (lpN (fCh S R) n k q) = nI j) → va_P D vwCl (wM cy ad S ++ X) H → va_D (va_A (wM cy ad S ++ X) sz) (wM cy ad S ++ X) → va_S (va_A (wM cy ad S ++ X) sz) s.heap H locs → lv_has ls 4 [(2, .int (nI (C + 1))), (0, .ref (ad 0)), (1, .int (lpN (fCh S R) n k q))] → W p l e (headSpec wsX9_cheaper (rm9 0 0)).room s m ([.ref (ad 0)] : List Value).toArray below meth c H locs 0 0 (MQ below (gQi D cy (wM cy ad S ++ X) sz (fun r ws' => r = jCheap S R C ∧ ws' = wM cy ad S ++ X)) ([.ref (ad 0)] : List Value).toArray s 0 0 (va_A (wM cy ad S ++ X) sz)) (F0 m 87 ls [])) → W p l e (headSpec wsX9_cheaper (rm9 0 0)).room s m ([.ref (ad 0)] : List Value).toArray below meth c H locs 0 0 (MQ below (gQi D cy (wM cy ad S ++ X) sz (fun r ws' => r = jCheap S R C ∧ ws' = wM cy ad S ++ X)) ([.ref (ad 0)] : List Value).toArray s 0 0 (va_A (wM cy ad S ++ X) sz)) (F0 m 5 ls []) := by
    intro n
    induction n with
    | zero =>
      intro k q H locs ls hk hlo hq hP hD hS hl hex
      obtain rfl : C + 1 = k := by omega
      refine lv_iload_n hx hb dX9_cheaper_5 rfl (lv_at hl 0 rfl) ?_
      refine lv_aload_n hx hb dX9_cheaper_6 rfl (lv_at hl 1 rfl) ?_
      refine rM_get (v := .int (aF S 15)) hx hb hts hin hown hK hP 15 (by decide) rfl (by decide +kernel) dX9_cheaper_7 ?_
      rw [hC]
      refine lv_icmp_gt (tgt := 87) hx hb dX9_cheaper_10 (by decide) (fun c1 => ?_) (fun c1 => ?_)
      · rw [nI_ltI (by omega) (by omega)] at c1
        exact hex _ _ _ hq hP hD hS (lv_sub hl [0, 1, 2] rfl)
      · exact absurd c1 (by rw [nI_ltI (by omega) (by omega)]; omega)
    | succ n ih =>
      intro k q H locs ls hk hlo hq hP hD hS hl hex
      have hk5 : k < C + 1 := by omega
      refine lv_iload_n hx hb dX9_cheaper_5 rfl (lv_at hl 0 rfl) ?_
      refine lv_aload_n hx hb dX9_cheaper_6 rfl (lv_at hl 1 rfl) ?_
      refine rM_get (v := .int (aF S 15)) hx hb hts hin hown hK hP 15 (by decide) rfl (by decide +kernel) dX9_cheaper_7 ?_
      rw [hC]
      refine lv_icmp_gt (tgt := 87) hx hb dX9_cheaper_10 (by decide) (fun c2 => ?_) (fun c2 => ?_)
      · exact absurd c2 (by rw [nI_ltI (by omega) (by omega)]; omega)
      · rw [nI_ltI (by omega) (by omega)] at c2
        refine lv_aload_n hx hb dX9_cheaper_13 rfl (lv_at hl 1 rfl) ?_
        refine rM_get (v := .ref (ad 12)) hx hb hts hin hown hK hP 17 (by decide) rfl (by decide +kernel) dX9_cheaper_14 ?_
        refine lv_aload_n hx hb dX9_cheaper_17 rfl (lv_at hl 1 rfl) ?_
        refine rM_get (v := .ref (ad 11)) hx hb hts hin hown hK hP 13 (by decide) rfl (by decide +kernel) dX9_cheaper_18 ?_
        refine lv_iload_n hx hb dX9_cheaper_21 rfl (lv_at hl 0 rfl) ?_
        refine rM_ld11 (i := k) hx hb hK hP (by omega) dX9_cheaper_22 ?_
        refine W.eq (g2 := F0 m 23 ls [.int (a11 S k), .ref (ad 12)]) rfl ?_
        obtain ⟨v0, hv0, hve⟩ := hcol k (by omega) (by omega)
        have qq9 : (a11 S k).toNatClampNeg = v0 := (by rw [hve, nI_clamp (by omega)])
        rw [hve]
        refine rM_ld12 (i := v0) hx hb hK hP (by omega) dX9_cheaper_23 ?_
        refine W.eq (g2 := F0 m 24 ls [.int (a12 S v0)]) rfl ?_
        refine lv_if_ne (tgt := 50) hx hb dX9_cheaper_24 (by decide) (fun c3 => ?_) (fun c3 => ?_)
        · skip
          refine lv_iconst (v := nI 0) hx hb dX9_cheaper_50 (by decide) ?_
          refine lv_istore_n (lv' := [(3, .int (nI 0)), (2, .int (nI k)), (0, .ref (ad 0)), (1, .int q)]) hx hb dX9_cheaper_51 rfl hl (by decide) rfl (fun ls hl => ?_)
          refine lv_iload_n hx hb dX9_cheaper_52 rfl (lv_at hl 0 rfl) ?_
          refine lv_if_eq (tgt := 79) hx hb dX9_cheaper_53 (by decide) (fun c4 => ?_) (fun c4 => ?_)
          · skip
            refine lv_iload_n hx hb dX9_cheaper_79 rfl (lv_at hl 3 rfl) ?_
            refine lv_istore_n (lv' := [(1, .int q), (3, .int (nI 0)), (2, .int (nI k)), (0, .ref (ad 0))]) hx hb dX9_cheaper_80 rfl hl (by decide) rfl (fun ls hl => ?_)
            refine lv_iinc (v := nI (k + 1)) (lv' := [(2, .int (nI (k + 1))), (1, .int q), (3, .int (nI 0)), (0, .ref (ad 0))]) hx hb dX9_cheaper_81 hl (k := 2) rfl (nI_1 _) (by decide) rfl (fun ls hl => ?_)
            refine lv_goto (tgt := 5) hx hb dX9_cheaper_84 (by decide) ?_
            have he : (fCh S R) k q = q := by simp [fCh, qq9, c3, c4, c2]
            rw [lpN_s, he] at hex
            exact ih ((k + 1)) q _ _ _ (by omega) (by omega) hq hP hD hS (lv_sub hl [0, 3, 1] rfl) hex
          · exact absurd c4 (by decide)
        · skip
          refine lv_aload_n hx hb dX9_cheaper_27 rfl (lv_at hl 1 rfl) ?_
          refine rM_get (v := .ref (ad 9)) hx hb hts hin hown hK hP 11 (by decide) rfl (by decide +kernel) dX9_cheaper_28 ?_
          refine lv_bipush (v := nI 22) hx hb dX9_cheaper_31 (by decide) ?_
          refine lv_aload_n hx hb dX9_cheaper_33 rfl (lv_at hl 1 rfl) ?_
          refine rM_get (v := .int (aF S 14)) hx hb hts hin hown hK hP 14 (by decide) rfl (by decide +kernel) dX9_cheaper_34 ?_
          rw [hR]
          refine lv_imul hx hb dX9_cheaper_37 ?_
          rw [pk_mul]
          refine lv_iload_n hx hb dX9_cheaper_38 rfl (lv_at hl 0 rfl) ?_
          refine lv_iadd hx hb dX9_cheaper_39 ?_
          rw [nI_add]
          refine rM_ld9 (i := ((22 * R) + k)) hx hb hK hP (by omega) dX9_cheaper_40 ?_
          refine W.eq (g2 := F0 m 41 ls [.long (a9 S ((22 * R) + k))]) rfl ?_
          refine lv_lconst (v := 0) hx hb dX9_cheaper_41 (by decide) ?_
          refine W.lcmp hx hb dX9_cheaper_42 ?_
          refine lv_if_ge (tgt := 50) hx hb dX9_cheaper_43 (by decide) (fun c5 => ?_) (fun c5 => ?_)
          · skip
            refine lv_iconst (v := nI 0) hx hb dX9_cheaper_50 (by decide) ?_
            refine lv_istore_n (lv' := [(3, .int (nI 0)), (2, .int (nI k)), (0, .ref (ad 0)), (1, .int q)]) hx hb dX9_cheaper_51 rfl hl (by decide) rfl (fun ls hl => ?_)
            refine lv_iload_n hx hb dX9_cheaper_52 rfl (lv_at hl 0 rfl) ?_
            refine lv_if_eq (tgt := 79) hx hb dX9_cheaper_53 (by decide) (fun c6 => ?_) (fun c6 => ?_)
            · skip
              refine lv_iload_n hx hb dX9_cheaper_79 rfl (lv_at hl 3 rfl) ?_
              refine lv_istore_n (lv' := [(1, .int q), (3, .int (nI 0)), (2, .int (nI k)), (0, .ref (ad 0))]) hx hb dX9_cheaper_80 rfl hl (by decide) rfl (fun ls hl => ?_)
              refine lv_iinc (v := nI (k + 1)) (lv' := [(2, .int (nI (k + 1))), (1, .int q), (3, .int (nI 0)), (0, .ref (ad 0))]) hx hb dX9_cheaper_81 hl (k := 2) rfl (nI_1 _) (by decide) rfl (fun ls hl => ?_)
              refine lv_goto (tgt := 5) hx hb dX9_cheaper_84 (by decide) ?_
              have he : (fCh S R) k q = q := by simp [fCh, qq9, c3, c5, (Int32.not_lt.mpr c5), c6, c2]
              rw [lpN_s, he] at hex
              exact ih ((k + 1)) q _ _ _ (by omega) (by omega) hq hP hD hS (lv_sub hl [0, 3, 1] rfl) hex
            · exact absurd c6 (by decide)
          · skip
            refine lv_iconst (v := nI 1) hx hb dX9_cheaper_46 (by decide) ?_
            refine lv_goto (tgt := 51) hx hb dX9_cheaper_47 (by decide) ?_
            refine lv_istore_n (lv' := [(3, .int (nI 1)), (2, .int (nI k)), (0, .ref (ad 0)), (1, .int q)]) hx hb dX9_cheaper_51 rfl hl (by decide) rfl (fun ls hl => ?_)
            refine lv_iload_n hx hb dX9_cheaper_52 rfl (lv_at hl 0 rfl) ?_
            refine lv_if_eq (tgt := 79) hx hb dX9_cheaper_53 (by decide) (fun c7 => ?_) (fun c7 => ?_)
            · exact absurd c7 (by decide)
            · skip
              refine lv_iload_n hx hb dX9_cheaper_56 rfl (lv_at hl 3 rfl) ?_
              refine lv_if_lt (tgt := 75) hx hb dX9_cheaper_57 (by decide) (fun c8 => ?_) (fun c8 => ?_)
              · skip
                refine lv_iload_n hx hb dX9_cheaper_75 rfl (lv_at hl 1 rfl) ?_
                refine lv_goto (tgt := 80) hx hb dX9_cheaper_76 (by decide) ?_
                refine lv_istore_n (lv' := [(1, .int (nI k)), (3, .int (nI 1)), (2, .int (nI k)), (0, .ref (ad 0))]) hx hb dX9_cheaper_80 rfl hl (by decide) rfl (fun ls hl => ?_)
                refine lv_iinc (v := nI (k + 1)) (lv' := [(2, .int (nI (k + 1))), (1, .int (nI k)), (3, .int (nI 1)), (0, .ref (ad 0))]) hx hb dX9_cheaper_81 hl (k := 2) rfl (nI_1 _) (by decide) rfl (fun ls hl => ?_)
                refine lv_goto (tgt := 5) hx hb dX9_cheaper_84 (by decide) ?_
                have he : (fCh S R) k q = (nI k) := by simp [fCh, qq9, c3, c5, (Int32.not_le.mp c5), c7, c8, c2]
                rw [lpN_s, he] at hex
                exact ih ((k + 1)) (nI k) _ _ _ (by omega) (by omega) (Or.inr ⟨k, by omega, rfl⟩) hP hD hS (lv_sub hl [0, 3, 1] rfl) hex
              · skip
                obtain ⟨r0, hr0, hre⟩ := entI6 hq c8
                have qq8 : q.toNatClampNeg = r0 := (by rw [hre, nI_clamp (by omega)])
                rw [hre] at hl
                refine lv_aload_n hx hb dX9_cheaper_60 rfl (lv_at hl 2 rfl) ?_
                refine rM_get (v := .ref (ad 11)) hx hb hts hin hown hK hP 13 (by decide) rfl (by decide +kernel) dX9_cheaper_61 ?_
                refine lv_iload_n hx hb dX9_cheaper_64 rfl (lv_at hl 1 rfl) ?_
                refine rM_ld11 (i := k) hx hb hK hP (by omega) dX9_cheaper_65 ?_
                refine W.eq (g2 := F0 m 66 ls [.int (a11 S k)]) rfl ?_
                refine lv_aload_n hx hb dX9_cheaper_66 rfl (lv_at hl 2 rfl) ?_
                refine rM_get (v := .ref (ad 11)) hx hb hts hin hown hK hP 13 (by decide) rfl (by decide +kernel) dX9_cheaper_67 ?_
                refine lv_iload_n hx hb dX9_cheaper_70 rfl (lv_at hl 3 rfl) ?_
                refine rM_ld11 (i := r0) hx hb hK hP (by omega) dX9_cheaper_71 ?_
                refine W.eq (g2 := F0 m 72 ls [.int (a11 S r0), .int (a11 S k)]) rfl ?_
                refine lv_icmp_ge (tgt := 79) hx hb dX9_cheaper_72 (by decide) (fun c9 => ?_) (fun c9 => ?_)
                · skip
                  refine lv_iload_n hx hb dX9_cheaper_79 rfl (lv_at hl 3 rfl) ?_
                  refine lv_istore_n (lv' := [(1, .int (nI r0)), (3, .int (nI 1)), (2, .int (nI k)), (0, .ref (ad 0))]) hx hb dX9_cheaper_80 rfl hl (by decide) rfl (fun ls hl => ?_)
                  refine lv_iinc (v := nI (k + 1)) (lv' := [(2, .int (nI (k + 1))), (1, .int (nI r0)), (3, .int (nI 1)), (0, .ref (ad 0))]) hx hb dX9_cheaper_81 hl (k := 2) rfl (nI_1 _) (by decide) rfl (fun ls hl => ?_)
                  refine lv_goto (tgt := 5) hx hb dX9_cheaper_84 (by decide) ?_
                  rw [← hre] at hl
                  have he : (fCh S R) k q = q := by simp [fCh, qq9, c3, c5, (Int32.not_le.mp c5), c7, c8, c9, c2, qq8]
                  rw [lpN_s, he] at hex
                  exact ih ((k + 1)) q _ _ _ (by omega) (by omega) hq hP hD hS (lv_sub hl [0, 3, 1] rfl) hex
                · skip
                  refine lv_iload_n hx hb dX9_cheaper_75 rfl (lv_at hl 1 rfl) ?_
                  refine lv_goto (tgt := 80) hx hb dX9_cheaper_76 (by decide) ?_
                  refine lv_istore_n (lv' := [(1, .int (nI k)), (3, .int (nI 1)), (2, .int (nI k)), (0, .ref (ad 0))]) hx hb dX9_cheaper_80 rfl hl (by decide) rfl (fun ls hl => ?_)
                  refine lv_iinc (v := nI (k + 1)) (lv' := [(2, .int (nI (k + 1))), (1, .int (nI k)), (3, .int (nI 1)), (0, .ref (ad 0))]) hx hb dX9_cheaper_81 hl (k := 2) rfl (nI_1 _) (by decide) rfl (fun ls hl => ?_)
                  refine lv_goto (tgt := 5) hx hb dX9_cheaper_84 (by decide) ?_
                  have he : (fCh S R) k q = (nI k) := by simp [fCh, qq9, c3, c5, (Int32.not_le.mp c5), c7, c8, c9, c2, qq8]
                  rw [lpN_s, he] at hex
                  exact ih ((k + 1)) (nI k) _ _ _ (by omega) (by omega) (Or.inr ⟨k, by omega, rfl⟩) hP hD hS (lv_sub hl [0, 3, 1] rfl) hex
  refine L5 C 1 (-6) _ _ _ (by omega) (by omega) (Or.inl rfl) hP hD hS (lv_sub hl [0, 2, 1] rfl) (fun H locs ls hq hP hD hS hl => ?_)
  refine lv_iload_n hx hb dX9_cheaper_87 rfl (lv_at hl 2 rfl) ?_
  exact W.iret hx hb hr (fun t ht hW => ⟨⟨_, _, rfl, ⟨rfl, rfl⟩, by rw [ht]; exact hP, va_K.moved hW.alike hK, hD⟩, hS.F ht⟩) hS.2.2 dX9_cheaper_88
set_option maxHeartbeats 4000000 in
set_option maxRecDepth 100000 in
theorem cM_firstToEnd (l : Launch) (D : va_G) (cy : Nat → ClassId) (ad : Nat → Nat) (X : va_W) (S : MS) (sz : Nat) {q9 R : Nat} (hR : aF S 14 = nI R) (hR36 : R ≤ 36) (hq9 : q9 < 22) : Met l yX9_firstToEnd wsX9_firstToEnd (rm9 0 0) (gPc D cy (wM cy ad S ++ X) sz [.ref (ad 0), .int (nI q9)]) (gQi D cy (wM cy ad S ++ X) sz (fun r ws' => r = jFirst S q9 R ∧ ws' = wM cy ad S ++ X)) 0 0 (va_A (wM cy ad S ++ X) sz) := by
  refine gHead (cc := cX9_firstToEnd) (maxL := 9) (ret := (some .int)) (by decide) rfl (Nat.le_of_ble_eq_true rfl) ?_
  intro p e s m below meth c ls hx hb hr hlocks hml hown hts hsz hP hK hD hS hA hl
  have hin : ∀ w ∈ u_ws RX9 TX9 36, w ∈ wsX9_firstToEnd := by decide +kernel
  have hown : s.vm.findClass RX9 = some m.cls := hown
  have hl : lv_has ls 9 [(0, .ref (ad 0)), (1, .int (nI q9))] := hl
  refine lv_bipush (v := (-6)) hx hb dX9_firstToEnd_0 (by decide) ?_
  refine lv_istore_n (lv' := [(2, .int (-6)), (0, .ref (ad 0)), (1, .int (nI q9))]) hx hb dX9_firstToEnd_2 rfl hl (by decide) rfl (fun ls hl => ?_)
  refine lv_iconst (v := nI 0) hx hb dX9_firstToEnd_3 (by decide) ?_
  refine lv_istore_n (lv' := [(3, .int (nI 0)), (2, .int (-6)), (0, .ref (ad 0)), (1, .int (nI q9))]) hx hb dX9_firstToEnd_4 rfl hl (by decide) rfl (fun ls hl => ?_)
  have L5 : ∀ (n k : Nat) (q : Int32) (H : Heap) (locs : List Loc) (ls : Array Slot), k + n = R → (q = -6 ∨ ∃ j : Nat, j < R ∧ q = nI j) → va_P D vwCl (wM cy ad S ++ X) H → va_D (va_A (wM cy ad S ++ X) sz) (wM cy ad S ++ X) → va_S (va_A (wM cy ad S ++ X) sz) s.heap H locs → lv_has ls 9 [(3, .int (nI k)), (0, .ref (ad 0)), (1, .int (nI q9)), (2, .int q)] → (∀ (H : Heap) (locs : List Loc) (ls : Array Slot), ((lpN (fFe S q9) n k q) = -6 ∨ ∃ j : Nat, j < R ∧ (lpN (fFe S q9) n k q) = nI j) → va_P D vwCl (wM cy ad S ++ X) H → va_D (va_A (wM cy ad S ++ X) sz) (wM cy ad S ++ X) → va_S (va_A (wM cy ad S ++ X) sz) s.heap H locs → lv_has ls 9 [(3, .int (nI R)), (0, .ref (ad 0)), (1, .int (nI q9)), (2, .int (lpN (fFe S q9) n k q))] → W p l e (headSpec wsX9_firstToEnd (rm9 0 0)).room s m ([.ref (ad 0), .int (nI q9)] : List Value).toArray below meth c H locs 0 0 (MQ below (gQi D cy (wM cy ad S ++ X) sz (fun r ws' => r = jFirst S q9 R ∧ ws' = wM cy ad S ++ X)) ([.ref (ad 0), .int (nI q9)] : List Value).toArray s 0 0 (va_A (wM cy ad S ++ X) sz)) (F0 m 154 ls [])) → W p l e (headSpec wsX9_firstToEnd (rm9 0 0)).room s m ([.ref (ad 0), .int (nI q9)] : List Value).toArray below meth c H locs 0 0 (MQ below (gQi D cy (wM cy ad S ++ X) sz (fun r ws' => r = jFirst S q9 R ∧ ws' = wM cy ad S ++ X)) ([.ref (ad 0), .int (nI q9)] : List Value).toArray s 0 0 (va_A (wM cy ad S ++ X) sz)) (F0 m 5 ls []) := by
    intro n
    induction n with
    | zero =>
      intro k q H locs ls hk hq hP hD hS hl hex
      obtain rfl : R = k := by omega
      refine lv_iload_n hx hb dX9_firstToEnd_5 rfl (lv_at hl 0 rfl) ?_
      refine lv_aload_n hx hb dX9_firstToEnd_6 rfl (lv_at hl 1 rfl) ?_
      refine rM_get (v := .int (aF S 14)) hx hb hts hin hown hK hP 14 (by decide) rfl (by decide +kernel) dX9_firstToEnd_7 ?_
      rw [hR]
      refine lv_icmp_ge (tgt := 154) hx hb dX9_firstToEnd_10 (by decide) (fun c1 => ?_) (fun c1 => ?_)
      · rw [nI_leI (by omega) (by omega)] at c1
        exact hex _ _ _ hq hP hD hS (lv_sub hl [0, 1, 2, 3] rfl)
      · exact absurd c1 (by rw [nI_leI (by omega) (by omega)]; omega)
    | succ n ih =>
      intro k q H locs ls hk hq hP hD hS hl hex
      have hk5 : k < R := by omega
      refine lv_iload_n hx hb dX9_firstToEnd_5 rfl (lv_at hl 0 rfl) ?_
      refine lv_aload_n hx hb dX9_firstToEnd_6 rfl (lv_at hl 1 rfl) ?_
      refine rM_get (v := .int (aF S 14)) hx hb hts hin hown hK hP 14 (by decide) rfl (by decide +kernel) dX9_firstToEnd_7 ?_
      rw [hR]
      refine lv_icmp_ge (tgt := 154) hx hb dX9_firstToEnd_10 (by decide) (fun c2 => ?_) (fun c2 => ?_)
      · exact absurd c2 (by rw [nI_leI (by omega) (by omega)]; omega)
      · rw [nI_leI (by omega) (by omega)] at c2
        refine lv_aload_n hx hb dX9_firstToEnd_13 rfl (lv_at hl 1 rfl) ?_
        refine rM_get (v := .ref (ad 9)) hx hb hts hin hown hK hP 11 (by decide) rfl (by decide +kernel) dX9_firstToEnd_14 ?_
        refine lv_bipush (v := nI 22) hx hb dX9_firstToEnd_17 (by decide) ?_
        refine lv_iload_n hx hb dX9_firstToEnd_19 rfl (lv_at hl 0 rfl) ?_
        refine lv_imul hx hb dX9_firstToEnd_20 ?_
        rw [pk_mul]
        refine lv_iload_n hx hb dX9_firstToEnd_21 rfl (lv_at hl 2 rfl) ?_
        refine lv_iadd hx hb dX9_firstToEnd_22 ?_
        rw [nI_add]
        refine rM_ld9 (i := ((22 * k) + q9)) hx hb hK hP (by omega) dX9_firstToEnd_23 ?_
        refine W.eq (g2 := F0 m 24 ls [.long (a9 S ((22 * k) + q9))]) rfl ?_
        refine lv_lconst (v := 0) hx hb dX9_firstToEnd_24 (by decide) ?_
        refine W.lcmp hx hb dX9_firstToEnd_25 ?_
        refine lv_if_ge (tgt := 148) hx hb dX9_firstToEnd_26 (by decide) (fun c3 => ?_) (fun c3 => ?_)
        · skip
          refine lv_iinc (v := nI (k + 1)) (lv' := [(3, .int (nI (k + 1))), (0, .ref (ad 0)), (1, .int (nI q9)), (2, .int q)]) hx hb dX9_firstToEnd_148 hl (k := 0) rfl (nI_1 _) (by decide) rfl (fun ls hl => ?_)
          refine lv_goto (tgt := 5) hx hb dX9_firstToEnd_151 (by decide) ?_
          have he : (fFe S q9) k q = q := by simp [fFe, c3, (Int32.not_lt.mpr c3), c2]
          rw [lpN_s, he] at hex
          exact ih ((k + 1)) q _ _ _ (by omega) hq hP hD hS (lv_sub hl [0, 1, 2, 3] rfl) hex
        · skip
          refine lv_iload_n hx hb dX9_firstToEnd_29 rfl (lv_at hl 3 rfl) ?_
          refine lv_if_ge (tgt := 39) hx hb dX9_firstToEnd_30 (by decide) (fun c4 => ?_) (fun c4 => ?_)
          · skip
            obtain ⟨r0, hr0, hre⟩ := entI6 hq (Int32.not_lt.mpr c4)
            have qq8 : q.toNatClampNeg = r0 := (by rw [hre, nI_clamp (by omega)])
            rw [hre] at hl
            refine lv_aload_n hx hb dX9_firstToEnd_39 rfl (lv_at hl 1 rfl) ?_
            refine rM_get (v := .ref (ad 9)) hx hb hts hin hown hK hP 11 (by decide) rfl (by decide +kernel) dX9_firstToEnd_40 ?_
            refine lv_bipush (v := nI 22) hx hb dX9_firstToEnd_43 (by decide) ?_
            refine lv_iload_n hx hb dX9_firstToEnd_45 rfl (lv_at hl 0 rfl) ?_
            refine lv_imul hx hb dX9_firstToEnd_46 ?_
            rw [pk_mul]
            refine rM_ld9 (i := (22 * k)) hx hb hK hP (by omega) dX9_firstToEnd_47 ?_
            refine W.eq (g2 := F0 m 48 ls [.long (a9 S (22 * k))]) rfl ?_
            refine lv_aload_n hx hb dX9_firstToEnd_48 rfl (lv_at hl 1 rfl) ?_
            refine rM_get (v := .ref (ad 9)) hx hb hts hin hown hK hP 11 (by decide) rfl (by decide +kernel) dX9_firstToEnd_49 ?_
            refine lv_bipush (v := nI 22) hx hb dX9_firstToEnd_52 (by decide) ?_
            refine lv_iload_n hx hb dX9_firstToEnd_54 rfl (lv_at hl 3 rfl) ?_
            refine lv_imul hx hb dX9_firstToEnd_55 ?_
            rw [pk_mul]
            refine lv_iload_n hx hb dX9_firstToEnd_56 rfl (lv_at hl 2 rfl) ?_
            refine lv_iadd hx hb dX9_firstToEnd_57 ?_
            rw [nI_add]
            refine rM_ld9 (i := ((22 * r0) + q9)) hx hb hK hP (by omega) dX9_firstToEnd_58 ?_
            refine W.eq (g2 := F0 m 59 ls [.long (a9 S ((22 * r0) + q9)), .long (a9 S (22 * k))]) rfl ?_
            refine lv_lneg hx hb dX9_firstToEnd_59 ?_
            refine lv_lmul hx hb dX9_firstToEnd_60 ?_
            refine lv_lstore (lv' := [(4, .long ((a9 S (22 * k)) * (-(a9 S ((22 * r0) + q9))))), (3, .int (nI k)), (0, .ref (ad 0)), (1, .int (nI q9)), (2, .int (nI r0))]) hx hb dX9_firstToEnd_61 hl (by decide) rfl (fun ls hl => ?_)
            refine lv_iload_n hx hb dX9_firstToEnd_63 rfl (lv_at hl 4 rfl) ?_
            refine lv_if_ge (tgt := 71) hx hb dX9_firstToEnd_64 (by decide) (fun c5 => ?_) (fun c5 => ?_)
            · skip
              refine lv_aload_n hx hb dX9_firstToEnd_71 rfl (lv_at hl 2 rfl) ?_
              refine rM_get (v := .ref (ad 9)) hx hb hts hin hown hK hP 11 (by decide) rfl (by decide +kernel) dX9_firstToEnd_72 ?_
              refine lv_bipush (v := nI 22) hx hb dX9_firstToEnd_75 (by decide) ?_
              refine lv_iload_n hx hb dX9_firstToEnd_77 rfl (lv_at hl 4 rfl) ?_
              refine lv_imul hx hb dX9_firstToEnd_78 ?_
              rw [pk_mul]
              refine rM_ld9 (i := (22 * r0)) hx hb hK hP (by omega) dX9_firstToEnd_79 ?_
              refine W.eq (g2 := F0 m 80 ls [.long (a9 S (22 * r0))]) rfl ?_
              refine lv_aload_n hx hb dX9_firstToEnd_80 rfl (lv_at hl 2 rfl) ?_
              refine rM_get (v := .ref (ad 9)) hx hb hts hin hown hK hP 11 (by decide) rfl (by decide +kernel) dX9_firstToEnd_81 ?_
              refine lv_bipush (v := nI 22) hx hb dX9_firstToEnd_84 (by decide) ?_
              refine lv_iload_n hx hb dX9_firstToEnd_86 rfl (lv_at hl 1 rfl) ?_
              refine lv_imul hx hb dX9_firstToEnd_87 ?_
              rw [pk_mul]
              refine lv_iload_n hx hb dX9_firstToEnd_88 rfl (lv_at hl 3 rfl) ?_
              refine lv_iadd hx hb dX9_firstToEnd_89 ?_
              rw [nI_add]
              refine rM_ld9 (i := ((22 * k) + q9)) hx hb hK hP (by omega) dX9_firstToEnd_90 ?_
              refine W.eq (g2 := F0 m 91 ls [.long (a9 S ((22 * k) + q9)), .long (a9 S (22 * r0))]) rfl ?_
              refine lv_lneg hx hb dX9_firstToEnd_91 ?_
              refine lv_lmul hx hb dX9_firstToEnd_92 ?_
              refine lv_lstore (lv' := [(6, .long ((a9 S (22 * r0)) * (-(a9 S ((22 * k) + q9))))), (4, .long ((a9 S (22 * k)) * (-(a9 S ((22 * r0) + q9))))), (3, .int (nI k)), (0, .ref (ad 0)), (1, .int (nI q9)), (2, .int (nI r0))]) hx hb dX9_firstToEnd_93 hl (by decide) rfl (fun ls hl => ?_)
              refine lv_iload_n hx hb dX9_firstToEnd_95 rfl (lv_at hl 5 rfl) ?_
              refine lv_if_lt (tgt := 130) hx hb dX9_firstToEnd_96 (by decide) (fun c6 => ?_) (fun c6 => ?_)
              · exact absurd c6 (nI_pos (by omega))
              · skip
                refine lv_lload hx hb dX9_firstToEnd_99 (lv_at hl 1 rfl) ?_
                refine lv_lload hx hb dX9_firstToEnd_101 (lv_at hl 0 rfl) ?_
                refine W.lcmp hx hb dX9_firstToEnd_103 ?_
                refine lv_if_lt (tgt := 130) hx hb dX9_firstToEnd_104 (by decide) (fun c7 => ?_) (fun c7 => ?_)
                · skip
                  refine lv_iconst (v := nI 1) hx hb dX9_firstToEnd_130 (by decide) ?_
                  refine lv_goto (tgt := 135) hx hb dX9_firstToEnd_131 (by decide) ?_
                  refine lv_istore (lv' := [(8, .int (nI 1)), (6, .long ((a9 S (22 * r0)) * (-(a9 S ((22 * k) + q9))))), (4, .long ((a9 S (22 * k)) * (-(a9 S ((22 * r0) + q9))))), (3, .int (nI k)), (0, .ref (ad 0)), (1, .int (nI q9)), (2, .int (nI r0))]) hx hb dX9_firstToEnd_135 hl (by decide) rfl (fun ls hl => ?_)
                  refine lv_iload hx hb dX9_firstToEnd_137 (lv_at hl 0 rfl) ?_
                  refine lv_if_eq (tgt := 146) hx hb dX9_firstToEnd_139 (by decide) (fun c8 => ?_) (fun c8 => ?_)
                  · exact absurd c8 (by decide)
                  · skip
                    refine lv_iload_n hx hb dX9_firstToEnd_142 rfl (lv_at hl 3 rfl) ?_
                    refine lv_goto (tgt := 147) hx hb dX9_firstToEnd_143 (by decide) ?_
                    refine lv_istore_n (lv' := [(2, .int (nI k)), (8, .int (nI 1)), (6, .long ((a9 S (22 * r0)) * (-(a9 S ((22 * k) + q9))))), (4, .long ((a9 S (22 * k)) * (-(a9 S ((22 * r0) + q9))))), (3, .int (nI k)), (0, .ref (ad 0)), (1, .int (nI q9))]) hx hb dX9_firstToEnd_147 rfl hl (by decide) rfl (fun ls hl => ?_)
                    refine lv_iinc (v := nI (k + 1)) (lv' := [(3, .int (nI (k + 1))), (2, .int (nI k)), (8, .int (nI 1)), (6, .long ((a9 S (22 * r0)) * (-(a9 S ((22 * k) + q9))))), (4, .long ((a9 S (22 * k)) * (-(a9 S ((22 * r0) + q9))))), (0, .ref (ad 0)), (1, .int (nI q9))]) hx hb dX9_firstToEnd_148 hl (k := 4) rfl (nI_1 _) (by decide) rfl (fun ls hl => ?_)
                    refine lv_goto (tgt := 5) hx hb dX9_firstToEnd_151 (by decide) ?_
                    have he : (fFe S q9) k q = (nI k) := by simp [fFe, c3, (Int32.not_le.mp c3), c4, (Int32.not_lt.mpr c4), c5, c6, c7, c8, c2, qq8]
                    rw [lpN_s, he] at hex
                    exact ih ((k + 1)) (nI k) _ _ _ (by omega) (Or.inr ⟨k, by omega, rfl⟩) hP hD hS (lv_sub hl [0, 5, 6, 1] rfl) hex
                · skip
                  refine lv_lload hx hb dX9_firstToEnd_107 (lv_at hl 1 rfl) ?_
                  refine lv_lload hx hb dX9_firstToEnd_109 (lv_at hl 0 rfl) ?_
                  refine W.lcmp hx hb dX9_firstToEnd_111 ?_
                  refine lv_if_ne (tgt := 134) hx hb dX9_firstToEnd_112 (by decide) (fun c9 => ?_) (fun c9 => ?_)
                  · skip
                    refine lv_iconst (v := nI 0) hx hb dX9_firstToEnd_134 (by decide) ?_
                    refine lv_istore (lv' := [(8, .int (nI 0)), (6, .long ((a9 S (22 * r0)) * (-(a9 S ((22 * k) + q9))))), (4, .long ((a9 S (22 * k)) * (-(a9 S ((22 * r0) + q9))))), (3, .int (nI k)), (0, .ref (ad 0)), (1, .int (nI q9)), (2, .int (nI r0))]) hx hb dX9_firstToEnd_135 hl (by decide) rfl (fun ls hl => ?_)
                    refine lv_iload hx hb dX9_firstToEnd_137 (lv_at hl 0 rfl) ?_
                    refine lv_if_eq (tgt := 146) hx hb dX9_firstToEnd_139 (by decide) (fun c10 => ?_) (fun c10 => ?_)
                    · skip
                      refine lv_iload_n hx hb dX9_firstToEnd_146 rfl (lv_at hl 6 rfl) ?_
                      refine lv_istore_n (lv' := [(2, .int (nI r0)), (8, .int (nI 0)), (6, .long ((a9 S (22 * r0)) * (-(a9 S ((22 * k) + q9))))), (4, .long ((a9 S (22 * k)) * (-(a9 S ((22 * r0) + q9))))), (3, .int (nI k)), (0, .ref (ad 0)), (1, .int (nI q9))]) hx hb dX9_firstToEnd_147 rfl hl (by decide) rfl (fun ls hl => ?_)
                      refine lv_iinc (v := nI (k + 1)) (lv' := [(3, .int (nI (k + 1))), (2, .int (nI r0)), (8, .int (nI 0)), (6, .long ((a9 S (22 * r0)) * (-(a9 S ((22 * k) + q9))))), (4, .long ((a9 S (22 * k)) * (-(a9 S ((22 * r0) + q9))))), (0, .ref (ad 0)), (1, .int (nI q9))]) hx hb dX9_firstToEnd_148 hl (k := 4) rfl (nI_1 _) (by decide) rfl (fun ls hl => ?_)
                      refine lv_goto (tgt := 5) hx hb dX9_firstToEnd_151 (by decide) ?_
                      rw [← hre] at hl
                      have he : (fFe S q9) k q = q := by simp [fFe, c3, (Int32.not_le.mp c3), c4, (Int32.not_lt.mpr c4), c5, c6, c7, c9, c10, c2, qq8]
                      rw [lpN_s, he] at hex
                      exact ih ((k + 1)) q _ _ _ (by omega) hq hP hD hS (lv_sub hl [0, 5, 6, 1] rfl) hex
                    · exact absurd c10 (by decide)
                  · skip
                    refine lv_aload_n hx hb dX9_firstToEnd_115 rfl (lv_at hl 3 rfl) ?_
                    refine rM_get (v := .ref (ad 10)) hx hb hts hin hown hK hP 12 (by decide) rfl (by decide +kernel) dX9_firstToEnd_116 ?_
                    refine lv_iload_n hx hb dX9_firstToEnd_119 rfl (lv_at hl 2 rfl) ?_
                    refine rM_ld10 (i := k) hx hb hK hP (by omega) dX9_firstToEnd_120 ?_
                    refine W.eq (g2 := F0 m 121 ls [.int (a10 S k)]) rfl ?_
                    refine lv_aload_n hx hb dX9_firstToEnd_121 rfl (lv_at hl 3 rfl) ?_
                    refine rM_get (v := .ref (ad 10)) hx hb hts hin hown hK hP 12 (by decide) rfl (by decide +kernel) dX9_firstToEnd_122 ?_
                    refine lv_iload_n hx hb dX9_firstToEnd_125 rfl (lv_at hl 5 rfl) ?_
                    refine rM_ld10 (i := r0) hx hb hK hP (by omega) dX9_firstToEnd_126 ?_
                    refine W.eq (g2 := F0 m 127 ls [.int (a10 S r0), .int (a10 S k)]) rfl ?_
                    refine lv_icmp_ge (tgt := 134) hx hb dX9_firstToEnd_127 (by decide) (fun c11 => ?_) (fun c11 => ?_)
                    · skip
                      refine lv_iconst (v := nI 0) hx hb dX9_firstToEnd_134 (by decide) ?_
                      refine lv_istore (lv' := [(8, .int (nI 0)), (6, .long ((a9 S (22 * r0)) * (-(a9 S ((22 * k) + q9))))), (4, .long ((a9 S (22 * k)) * (-(a9 S ((22 * r0) + q9))))), (3, .int (nI k)), (0, .ref (ad 0)), (1, .int (nI q9)), (2, .int (nI r0))]) hx hb dX9_firstToEnd_135 hl (by decide) rfl (fun ls hl => ?_)
                      refine lv_iload hx hb dX9_firstToEnd_137 (lv_at hl 0 rfl) ?_
                      refine lv_if_eq (tgt := 146) hx hb dX9_firstToEnd_139 (by decide) (fun c12 => ?_) (fun c12 => ?_)
                      · skip
                        refine lv_iload_n hx hb dX9_firstToEnd_146 rfl (lv_at hl 6 rfl) ?_
                        refine lv_istore_n (lv' := [(2, .int (nI r0)), (8, .int (nI 0)), (6, .long ((a9 S (22 * r0)) * (-(a9 S ((22 * k) + q9))))), (4, .long ((a9 S (22 * k)) * (-(a9 S ((22 * r0) + q9))))), (3, .int (nI k)), (0, .ref (ad 0)), (1, .int (nI q9))]) hx hb dX9_firstToEnd_147 rfl hl (by decide) rfl (fun ls hl => ?_)
                        refine lv_iinc (v := nI (k + 1)) (lv' := [(3, .int (nI (k + 1))), (2, .int (nI r0)), (8, .int (nI 0)), (6, .long ((a9 S (22 * r0)) * (-(a9 S ((22 * k) + q9))))), (4, .long ((a9 S (22 * k)) * (-(a9 S ((22 * r0) + q9))))), (0, .ref (ad 0)), (1, .int (nI q9))]) hx hb dX9_firstToEnd_148 hl (k := 4) rfl (nI_1 _) (by decide) rfl (fun ls hl => ?_)
                        refine lv_goto (tgt := 5) hx hb dX9_firstToEnd_151 (by decide) ?_
                        rw [← hre] at hl
                        have he : (fFe S q9) k q = q := by simp [fFe, c3, (Int32.not_le.mp c3), c4, (Int32.not_lt.mpr c4), c5, c6, c7, c9, c11, c12, c2, qq8]
                        rw [lpN_s, he] at hex
                        exact ih ((k + 1)) q _ _ _ (by omega) hq hP hD hS (lv_sub hl [0, 5, 6, 1] rfl) hex
                      · exact absurd c12 (by decide)
                    · skip
                      refine lv_iconst (v := nI 1) hx hb dX9_firstToEnd_130 (by decide) ?_
                      refine lv_goto (tgt := 135) hx hb dX9_firstToEnd_131 (by decide) ?_
                      refine lv_istore (lv' := [(8, .int (nI 1)), (6, .long ((a9 S (22 * r0)) * (-(a9 S ((22 * k) + q9))))), (4, .long ((a9 S (22 * k)) * (-(a9 S ((22 * r0) + q9))))), (3, .int (nI k)), (0, .ref (ad 0)), (1, .int (nI q9)), (2, .int (nI r0))]) hx hb dX9_firstToEnd_135 hl (by decide) rfl (fun ls hl => ?_)
                      refine lv_iload hx hb dX9_firstToEnd_137 (lv_at hl 0 rfl) ?_
                      refine lv_if_eq (tgt := 146) hx hb dX9_firstToEnd_139 (by decide) (fun c13 => ?_) (fun c13 => ?_)
                      · exact absurd c13 (by decide)
                      · skip
                        refine lv_iload_n hx hb dX9_firstToEnd_142 rfl (lv_at hl 3 rfl) ?_
                        refine lv_goto (tgt := 147) hx hb dX9_firstToEnd_143 (by decide) ?_
                        refine lv_istore_n (lv' := [(2, .int (nI k)), (8, .int (nI 1)), (6, .long ((a9 S (22 * r0)) * (-(a9 S ((22 * k) + q9))))), (4, .long ((a9 S (22 * k)) * (-(a9 S ((22 * r0) + q9))))), (3, .int (nI k)), (0, .ref (ad 0)), (1, .int (nI q9))]) hx hb dX9_firstToEnd_147 rfl hl (by decide) rfl (fun ls hl => ?_)
                        refine lv_iinc (v := nI (k + 1)) (lv' := [(3, .int (nI (k + 1))), (2, .int (nI k)), (8, .int (nI 1)), (6, .long ((a9 S (22 * r0)) * (-(a9 S ((22 * k) + q9))))), (4, .long ((a9 S (22 * k)) * (-(a9 S ((22 * r0) + q9))))), (0, .ref (ad 0)), (1, .int (nI q9))]) hx hb dX9_firstToEnd_148 hl (k := 4) rfl (nI_1 _) (by decide) rfl (fun ls hl => ?_)
                        refine lv_goto (tgt := 5) hx hb dX9_firstToEnd_151 (by decide) ?_
                        have he : (fFe S q9) k q = (nI k) := by simp [fFe, c3, (Int32.not_le.mp c3), c4, (Int32.not_lt.mpr c4), c5, c6, c7, c9, c11, c13, c2, qq8]
                        rw [lpN_s, he] at hex
                        exact ih ((k + 1)) (nI k) _ _ _ (by omega) (Or.inr ⟨k, by omega, rfl⟩) hP hD hS (lv_sub hl [0, 5, 6, 1] rfl) hex
            · exact absurd (nI_pos' (by omega)) c5
          · skip
            refine lv_ldc2 (v := (-1)) hx hb hown (hts (.constantLong RX9 97 (-1)) (by decide +kernel)) dX9_firstToEnd_33 ?_
            refine lv_goto (tgt := 61) hx hb dX9_firstToEnd_36 (by decide) ?_
            refine lv_lstore (lv' := [(4, .long (-1)), (3, .int (nI k)), (0, .ref (ad 0)), (1, .int (nI q9)), (2, .int q)]) hx hb dX9_firstToEnd_61 hl (by decide) rfl (fun ls hl => ?_)
            refine lv_iload_n hx hb dX9_firstToEnd_63 rfl (lv_at hl 4 rfl) ?_
            refine lv_if_ge (tgt := 71) hx hb dX9_firstToEnd_64 (by decide) (fun c14 => ?_) (fun c14 => ?_)
            · exact absurd c14 c4
            · skip
              refine lv_lconst (v := 0) hx hb dX9_firstToEnd_67 (by decide) ?_
              refine lv_goto (tgt := 93) hx hb dX9_firstToEnd_68 (by decide) ?_
              refine lv_lstore (lv' := [(6, .long 0), (4, .long (-1)), (3, .int (nI k)), (0, .ref (ad 0)), (1, .int (nI q9)), (2, .int q)]) hx hb dX9_firstToEnd_93 hl (by decide) rfl (fun ls hl => ?_)
              refine lv_iload_n hx hb dX9_firstToEnd_95 rfl (lv_at hl 5 rfl) ?_
              refine lv_if_lt (tgt := 130) hx hb dX9_firstToEnd_96 (by decide) (fun c15 => ?_) (fun c15 => ?_)
              · skip
                refine lv_iconst (v := nI 1) hx hb dX9_firstToEnd_130 (by decide) ?_
                refine lv_goto (tgt := 135) hx hb dX9_firstToEnd_131 (by decide) ?_
                refine lv_istore (lv' := [(8, .int (nI 1)), (6, .long 0), (4, .long (-1)), (3, .int (nI k)), (0, .ref (ad 0)), (1, .int (nI q9)), (2, .int q)]) hx hb dX9_firstToEnd_135 hl (by decide) rfl (fun ls hl => ?_)
                refine lv_iload hx hb dX9_firstToEnd_137 (lv_at hl 0 rfl) ?_
                refine lv_if_eq (tgt := 146) hx hb dX9_firstToEnd_139 (by decide) (fun c16 => ?_) (fun c16 => ?_)
                · exact absurd c16 (by decide)
                · skip
                  refine lv_iload_n hx hb dX9_firstToEnd_142 rfl (lv_at hl 3 rfl) ?_
                  refine lv_goto (tgt := 147) hx hb dX9_firstToEnd_143 (by decide) ?_
                  refine lv_istore_n (lv' := [(2, .int (nI k)), (8, .int (nI 1)), (6, .long 0), (4, .long (-1)), (3, .int (nI k)), (0, .ref (ad 0)), (1, .int (nI q9))]) hx hb dX9_firstToEnd_147 rfl hl (by decide) rfl (fun ls hl => ?_)
                  refine lv_iinc (v := nI (k + 1)) (lv' := [(3, .int (nI (k + 1))), (2, .int (nI k)), (8, .int (nI 1)), (6, .long 0), (4, .long (-1)), (0, .ref (ad 0)), (1, .int (nI q9))]) hx hb dX9_firstToEnd_148 hl (k := 4) rfl (nI_1 _) (by decide) rfl (fun ls hl => ?_)
                  refine lv_goto (tgt := 5) hx hb dX9_firstToEnd_151 (by decide) ?_
                  have he : (fFe S q9) k q = (nI k) := by simp [fFe, c3, (Int32.not_le.mp c3), c14, c15, c16, c2]
                  rw [lpN_s, he] at hex
                  exact ih ((k + 1)) (nI k) _ _ _ (by omega) (Or.inr ⟨k, by omega, rfl⟩) hP hD hS (lv_sub hl [0, 5, 6, 1] rfl) hex
              · exact absurd (Int32.not_le.mp c4) c15
  refine L5 R 0 (-6) _ _ _ (by omega) (Or.inl rfl) hP hD hS (lv_sub hl [0, 2, 3, 1] rfl) (fun H locs ls hq hP hD hS hl => ?_)
  refine lv_iload_n hx hb dX9_firstToEnd_154 rfl (lv_at hl 3 rfl) ?_
  exact W.iret hx hb hr (fun t ht hW => ⟨⟨_, _, rfl, ⟨rfl, rfl⟩, by rw [ht]; exact hP, va_K.moved hW.alike hK, hD⟩, hS.F ht⟩) hS.2.2 dX9_firstToEnd_155
set_option maxHeartbeats 4000000 in
set_option maxRecDepth 100000 in
theorem cM_bar (l : Launch) (D : va_G) (cy : Nat → ClassId) (ad : Nat → Nat) (X : va_W) (S : MS) (sz : Nat) {R C : Nat} (hR : aF S 14 = nI R) (hC : aF S 15 = nI C) (hR36 : R ≤ 36) (hC21 : C ≤ 21) (hcol : ∀ j : Nat, 1 ≤ j → j ≤ C → ∃ v : Nat, v < 42 ∧ a11 S j = nI v) : Met l yX9_bar wsX9_bar (rm9 0 0) (gPc D cy (wM cy ad S ++ X) sz [.ref (ad 0)]) (gQv D cy (wM cy ad S ++ X) sz (fun ws' => ws' = wM cy ad (jBar S R C) ++ X)) 0 0 (va_A (wM cy ad S ++ X) sz) := by
  refine gHead (cc := cX9_bar) (maxL := 2) (ret := none) (by decide) rfl (Nat.le_of_ble_eq_true rfl) ?_
  intro p e s m below meth c ls hx hb hr hlocks hml hown hts hsz hP hK hD hS hA hl
  have hin : ∀ w ∈ u_ws RX9 TX9 36, w ∈ wsX9_bar := by decide +kernel
  have hown : s.vm.findClass RX9 = some m.cls := hown
  have hl : lv_has ls 2 [(0, .ref (ad 0))] := hl
  refine lv_iconst (v := nI 1) hx hb dX9_bar_0 (by decide) ?_
  refine lv_istore_n (lv' := [(1, .int (nI 1)), (0, .ref (ad 0))]) hx hb dX9_bar_1 rfl hl (by decide) rfl (fun ls hl => ?_)
  have L2 : ∀ (n k : Nat) (u : Nat → Int32) (H : Heap) (locs : List Loc) (ls : Array Slot), k + n = C + 1 → 1 ≤ k → va_P D vwCl (wM cy ad (mk9 (aF S) (aG S) (a1 S) (a2 S) (a3 S) (a4 S) (a5 S) (a6 S) (a7 S) (a8 S) (a9 S) (a10 S) (a11 S) u (a13 S) (a14 S) (a15 S) (a16 S) (a17 S) (a18 S) (a19 S) (a20 S)) ++ X) H → va_D (va_A (wM cy ad S ++ X) sz) (wM cy ad (mk9 (aF S) (aG S) (a1 S) (a2 S) (a3 S) (a4 S) (a5 S) (a6 S) (a7 S) (a8 S) (a9 S) (a10 S) (a11 S) u (a13 S) (a14 S) (a15 S) (a16 S) (a17 S) (a18 S) (a19 S) (a20 S)) ++ X) → va_S (va_A (wM cy ad S ++ X) sz) s.heap H locs → lv_has ls 2 [(1, .int (nI k)), (0, .ref (ad 0))] → (∀ (H : Heap) (locs : List Loc) (ls : Array Slot), va_P D vwCl (wM cy ad (mk9 (aF S) (aG S) (a1 S) (a2 S) (a3 S) (a4 S) (a5 S) (a6 S) (a7 S) (a8 S) (a9 S) (a10 S) (a11 S) (lpN (fBa S R) n k u) (a13 S) (a14 S) (a15 S) (a16 S) (a17 S) (a18 S) (a19 S) (a20 S)) ++ X) H → va_D (va_A (wM cy ad S ++ X) sz) (wM cy ad (mk9 (aF S) (aG S) (a1 S) (a2 S) (a3 S) (a4 S) (a5 S) (a6 S) (a7 S) (a8 S) (a9 S) (a10 S) (a11 S) (lpN (fBa S R) n k u) (a13 S) (a14 S) (a15 S) (a16 S) (a17 S) (a18 S) (a19 S) (a20 S)) ++ X) → va_S (va_A (wM cy ad S ++ X) sz) s.heap H locs → lv_has ls 2 [(1, .int (nI (C + 1))), (0, .ref (ad 0))] → W p l e (headSpec wsX9_bar (rm9 0 0)).room s m ([.ref (ad 0)] : List Value).toArray below meth c H locs 0 0 (MQ below (gQv D cy (wM cy ad S ++ X) sz (fun ws' => ws' = wM cy ad (jBar S R C) ++ X)) ([.ref (ad 0)] : List Value).toArray s 0 0 (va_A (wM cy ad S ++ X) sz)) (F0 m 65 ls [])) → W p l e (headSpec wsX9_bar (rm9 0 0)).room s m ([.ref (ad 0)] : List Value).toArray below meth c H locs 0 0 (MQ below (gQv D cy (wM cy ad S ++ X) sz (fun ws' => ws' = wM cy ad (jBar S R C) ++ X)) ([.ref (ad 0)] : List Value).toArray s 0 0 (va_A (wM cy ad S ++ X) sz)) (F0 m 2 ls []) := by
    intro n
    induction n with
    | zero =>
      intro k u H locs ls hk hlo hP hD hS hl hex
      obtain rfl : C + 1 = k := by omega
      refine lv_iload_n hx hb dX9_bar_2 rfl (lv_at hl 0 rfl) ?_
      refine lv_aload_n hx hb dX9_bar_3 rfl (lv_at hl 1 rfl) ?_
      refine rM_get (v := .int (aF S 15)) hx hb hts hin hown hK hP 15 (by decide) rfl (by decide +kernel) dX9_bar_4 ?_
      rw [hC]
      refine lv_icmp_gt (tgt := 65) hx hb dX9_bar_7 (by decide) (fun c1 => ?_) (fun c1 => ?_)
      · rw [nI_ltI (by omega) (by omega)] at c1
        exact hex _ _ _ hP hD hS (lv_sub hl [0, 1] rfl)
      · exact absurd c1 (by rw [nI_ltI (by omega) (by omega)]; omega)
    | succ n ih =>
      intro k u H locs ls hk hlo hP hD hS hl hex
      have hk2 : k < C + 1 := by omega
      refine lv_iload_n hx hb dX9_bar_2 rfl (lv_at hl 0 rfl) ?_
      refine lv_aload_n hx hb dX9_bar_3 rfl (lv_at hl 1 rfl) ?_
      refine rM_get (v := .int (aF S 15)) hx hb hts hin hown hK hP 15 (by decide) rfl (by decide +kernel) dX9_bar_4 ?_
      rw [hC]
      refine lv_icmp_gt (tgt := 65) hx hb dX9_bar_7 (by decide) (fun c2 => ?_) (fun c2 => ?_)
      · exact absurd c2 (by rw [nI_ltI (by omega) (by omega)]; omega)
      · rw [nI_ltI (by omega) (by omega)] at c2
        refine lv_aload_n hx hb dX9_bar_10 rfl (lv_at hl 1 rfl) ?_
        refine rM_get (v := .ref (ad 12)) hx hb hts hin hown hK hP 17 (by decide) rfl (by decide +kernel) dX9_bar_11 ?_
        refine lv_aload_n hx hb dX9_bar_14 rfl (lv_at hl 1 rfl) ?_
        refine rM_get (v := .ref (ad 11)) hx hb hts hin hown hK hP 13 (by decide) rfl (by decide +kernel) dX9_bar_15 ?_
        refine lv_iload_n hx hb dX9_bar_18 rfl (lv_at hl 0 rfl) ?_
        refine rM_ld11 (i := k) hx hb hK hP (by omega) dX9_bar_19 ?_
        refine W.eq (g2 := F0 m 20 ls [.int (a11 S k), .ref (ad 12)]) rfl ?_
        obtain ⟨v0, hv0, hve⟩ := hcol k (by omega) (by omega)
        have qq9 : (a11 S k).toNatClampNeg = v0 := (by rw [hve, nI_clamp (by omega)])
        rw [hve]
        refine lv_aload_n hx hb dX9_bar_20 rfl (lv_at hl 1 rfl) ?_
        refine rM_get (v := .ref (ad 12)) hx hb hts hin hown hK hP 17 (by decide) rfl (by decide +kernel) dX9_bar_21 ?_
        refine lv_aload_n hx hb dX9_bar_24 rfl (lv_at hl 1 rfl) ?_
        refine rM_get (v := .ref (ad 11)) hx hb hts hin hown hK hP 13 (by decide) rfl (by decide +kernel) dX9_bar_25 ?_
        refine lv_iload_n hx hb dX9_bar_28 rfl (lv_at hl 0 rfl) ?_
        refine rM_ld11 (i := k) hx hb hK hP (by omega) dX9_bar_29 ?_
        refine W.eq (g2 := F0 m 30 ls [.int (a11 S k), .ref (ad 12), .int (nI v0), .ref (ad 12)]) rfl ?_
        rw [hve]
        refine rM_ld12 (i := v0) hx hb hK hP (by omega) dX9_bar_30 ?_
        refine W.eq (g2 := F0 m 31 ls [.int (u v0), .int (nI v0), .ref (ad 12)]) rfl ?_
        refine lv_if_ne (tgt := 53) hx hb dX9_bar_31 (by decide) (fun c3 => ?_) (fun c3 => ?_)
        · skip
          refine lv_iconst (v := nI 1) hx hb dX9_bar_53 (by decide) ?_
          refine lv_goto (tgt := 58) hx hb dX9_bar_54 (by decide) ?_
          refine rM_st12 (i := v0) hx hb hK hP hD hS (by omega) (by decide) dX9_bar_58 (fun H locs hP hD hS => ?_)
          have hP : va_P D vwCl (wM cy ad (mk9 (aF S) (aG S) (a1 S) (a2 S) (a3 S) (a4 S) (a5 S) (a6 S) (a7 S) (a8 S) (a9 S) (a10 S) (a11 S) (upd u v0 (nI 1)) (a13 S) (a14 S) (a15 S) (a16 S) (a17 S) (a18 S) (a19 S) (a20 S)) ++ X) H := hP
          have hD : va_D (va_A (wM cy ad S ++ X) sz) (wM cy ad (mk9 (aF S) (aG S) (a1 S) (a2 S) (a3 S) (a4 S) (a5 S) (a6 S) (a7 S) (a8 S) (a9 S) (a10 S) (a11 S) (upd u v0 (nI 1)) (a13 S) (a14 S) (a15 S) (a16 S) (a17 S) (a18 S) (a19 S) (a20 S)) ++ X) := hD
          refine lv_iinc (v := nI (k + 1)) (lv' := [(1, .int (nI (k + 1))), (0, .ref (ad 0))]) hx hb dX9_bar_59 hl (k := 0) rfl (nI_1 _) (by decide) rfl (fun ls hl => ?_)
          refine lv_goto (tgt := 2) hx hb dX9_bar_62 (by decide) ?_
          have he : (fBa S R) k u = (upd u v0 (nI 1)) := by simp [fBa, qq9, c3, c2]
          rw [lpN_s, he] at hex
          exact ih ((k + 1)) (upd u v0 (nI 1)) _ _ _ (by omega) (by omega) hP hD hS (lv_sub hl [0, 1] rfl) hex
        · skip
          refine lv_aload_n hx hb dX9_bar_34 rfl (lv_at hl 1 rfl) ?_
          refine rM_get (v := .ref (ad 9)) hx hb hts hin hown hK hP 11 (by decide) rfl (by decide +kernel) dX9_bar_35 ?_
          refine lv_bipush (v := nI 22) hx hb dX9_bar_38 (by decide) ?_
          refine lv_aload_n hx hb dX9_bar_40 rfl (lv_at hl 1 rfl) ?_
          refine rM_get (v := .int (aF S 14)) hx hb hts hin hown hK hP 14 (by decide) rfl (by decide +kernel) dX9_bar_41 ?_
          rw [hR]
          refine lv_imul hx hb dX9_bar_44 ?_
          rw [pk_mul]
          refine lv_iload_n hx hb dX9_bar_45 rfl (lv_at hl 0 rfl) ?_
          refine lv_iadd hx hb dX9_bar_46 ?_
          rw [nI_add]
          refine rM_ld9 (i := ((22 * R) + k)) hx hb hK hP (by omega) dX9_bar_47 ?_
          refine W.eq (g2 := F0 m 48 ls [.long (a9 S ((22 * R) + k)), .int (nI v0), .ref (ad 12)]) rfl ?_
          refine lv_lconst (v := 0) hx hb dX9_bar_48 (by decide) ?_
          refine W.lcmp hx hb dX9_bar_49 ?_
          refine lv_if_le (tgt := 57) hx hb dX9_bar_50 (by decide) (fun c4 => ?_) (fun c4 => ?_)
          · skip
            refine lv_iconst (v := nI 0) hx hb dX9_bar_57 (by decide) ?_
            refine rM_st12 (i := v0) hx hb hK hP hD hS (by omega) (by decide) dX9_bar_58 (fun H locs hP hD hS => ?_)
            have hP : va_P D vwCl (wM cy ad (mk9 (aF S) (aG S) (a1 S) (a2 S) (a3 S) (a4 S) (a5 S) (a6 S) (a7 S) (a8 S) (a9 S) (a10 S) (a11 S) (upd u v0 (nI 0)) (a13 S) (a14 S) (a15 S) (a16 S) (a17 S) (a18 S) (a19 S) (a20 S)) ++ X) H := hP
            have hD : va_D (va_A (wM cy ad S ++ X) sz) (wM cy ad (mk9 (aF S) (aG S) (a1 S) (a2 S) (a3 S) (a4 S) (a5 S) (a6 S) (a7 S) (a8 S) (a9 S) (a10 S) (a11 S) (upd u v0 (nI 0)) (a13 S) (a14 S) (a15 S) (a16 S) (a17 S) (a18 S) (a19 S) (a20 S)) ++ X) := hD
            refine lv_iinc (v := nI (k + 1)) (lv' := [(1, .int (nI (k + 1))), (0, .ref (ad 0))]) hx hb dX9_bar_59 hl (k := 0) rfl (nI_1 _) (by decide) rfl (fun ls hl => ?_)
            refine lv_goto (tgt := 2) hx hb dX9_bar_62 (by decide) ?_
            have he : (fBa S R) k u = (upd u v0 (nI 0)) := by simp [fBa, qq9, c3, c4, c2]
            rw [lpN_s, he] at hex
            exact ih ((k + 1)) (upd u v0 (nI 0)) _ _ _ (by omega) (by omega) hP hD hS (lv_sub hl [0, 1] rfl) hex
          · skip
            refine lv_iconst (v := nI 1) hx hb dX9_bar_53 (by decide) ?_
            refine lv_goto (tgt := 58) hx hb dX9_bar_54 (by decide) ?_
            refine rM_st12 (i := v0) hx hb hK hP hD hS (by omega) (by decide) dX9_bar_58 (fun H locs hP hD hS => ?_)
            have hP : va_P D vwCl (wM cy ad (mk9 (aF S) (aG S) (a1 S) (a2 S) (a3 S) (a4 S) (a5 S) (a6 S) (a7 S) (a8 S) (a9 S) (a10 S) (a11 S) (upd u v0 (nI 1)) (a13 S) (a14 S) (a15 S) (a16 S) (a17 S) (a18 S) (a19 S) (a20 S)) ++ X) H := hP
            have hD : va_D (va_A (wM cy ad S ++ X) sz) (wM cy ad (mk9 (aF S) (aG S) (a1 S) (a2 S) (a3 S) (a4 S) (a5 S) (a6 S) (a7 S) (a8 S) (a9 S) (a10 S) (a11 S) (upd u v0 (nI 1)) (a13 S) (a14 S) (a15 S) (a16 S) (a17 S) (a18 S) (a19 S) (a20 S)) ++ X) := hD
            refine lv_iinc (v := nI (k + 1)) (lv' := [(1, .int (nI (k + 1))), (0, .ref (ad 0))]) hx hb dX9_bar_59 hl (k := 0) rfl (nI_1 _) (by decide) rfl (fun ls hl => ?_)
            refine lv_goto (tgt := 2) hx hb dX9_bar_62 (by decide) ?_
            have he : (fBa S R) k u = (upd u v0 (nI 1)) := by simp [fBa, qq9, c3, c4, c2]
            rw [lpN_s, he] at hex
            exact ih ((k + 1)) (upd u v0 (nI 1)) _ _ _ (by omega) (by omega) hP hD hS (lv_sub hl [0, 1] rfl) hex
  refine L2 C 1 (a12 S) _ _ _ (by omega) (by omega) hP hD hS (lv_sub hl [0, 1] rfl) (fun H locs ls hP hD hS hl => ?_)
  exact W.vret hx hb hr (fun t ht hW => ⟨⟨_, rfl, rfl, by rw [ht]; exact hP, va_K.moved hW.alike hK, hD⟩, hS.F ht⟩) hS.2.2 dX9_bar_65
