def fSj (p own b : Int64) (r q i j : Nat) (c : Nat → Int64) : Nat → Int64 := if j = q then c else vp_updL c (22 * i + j) ((c (22 * i + j) * p - own * c (22 * r + j)) / b)
def fSi (p b : Int64) (r q C i : Nat) (c : Nat → Int64) : Nat → Int64 := if i = r then c else lpN (fSj p (c (22 * i + q)) b r q i) (C + 1) 0 c
def fSr (b : Int64) (r q j : Nat) (c : Nat → Int64) : Nat → Int64 := vp_updL c (22 * r + j) (if ¬ j = q then -(c (22 * r + j)) else b)
def jCell (S : MS) (r q R C : Nat) : Nat → Int64 := lpN (fSr (aG S 16) r q) (C + 1) 0 (lpN (fSi (a9 S (22 * r + q)) (aG S 16) r q C) (R + 1) 0 (a9 S))
def jSwap (S : MS) (r q R C : Nat) : MS := if 0 ≤ lg_cmp (a9 S (22 * r + q)) 0 then mk9 (aF S) (vp_updL (aG S) 16 (a9 S (22 * r + q))) (a1 S) (a2 S) (a3 S) (a4 S) (a5 S) (a6 S) (a7 S) (a8 S) (jCell S r q R C) (upd (a10 S) r (a11 S q)) (upd (a11 S) q (a10 S r)) (a12 S) (a13 S) (a14 S) (a15 S) (a16 S) (a17 S) (a18 S) (a19 S) (a20 S) else mk9 (aF S) (vp_updL (vp_updL (aG S) 16 (a9 S (22 * r + q))) 16 (-(a9 S (22 * r + q)))) (a1 S) (a2 S) (a3 S) (a4 S) (a5 S) (a6 S) (a7 S) (a8 S) (lpN (fTu2 C) (R + 1) 0 (jCell S r q R C)) (upd (a10 S) r (a11 S q)) (upd (a11 S) q (a10 S r)) (a12 S) (a13 S) (a14 S) (a15 S) (a16 S) (a17 S) (a18 S) (a19 S) (a20 S)
set_option maxHeartbeats 4000000 in
set_option maxRecDepth 100000 in
theorem cM_swap (l : Launch) (D : va_G) (cy : Nat → ClassId) (ad : Nat → Nat) (X : va_W) (S : MS) (sz : Nat) {r q : Nat} {R C : Nat} (hR : aF S 14 = nI R) (hC : aF S 15 = nI C) (hR36 : R ≤ 36) (hC21 : C ≤ 21) (hr9 : r < 37) (hq1 : q < C + 1) (hB : ¬ aG S 16 = 0) : Met l yX9_swap wsX9_swap (rm9 1 30) (gPc D cy (wM cy ad S ++ X) sz [.ref (ad 0), .int (nI r), .int (nI q)]) (gQv D cy (wM cy ad S ++ X) sz (fun ws' => ws' = wM cy ad (jSwap S r q R C) ++ X)) 0 0 (va_A (wM cy ad S ++ X) sz) := by
  refine gHead (cc := cX9_swap) (maxL := 9) (ret := none) (by decide) rfl (Nat.le_of_ble_eq_true rfl) ?_
  intro p e s m below meth c ls hx hb hr hlocks hml hown hts hsz hP hK hD hS hA hl
  have hin : ∀ w ∈ u_ws RX9 TX9 36, w ∈ wsX9_swap := by decide +kernel
  have hown : s.vm.findClass RX9 = some m.cls := hown
  have hl : lv_has ls 9 [(0, .ref (ad 0)), (1, .int (nI r)), (2, .int (nI q))] := hl
  refine lv_aload_n hx hb dX9_swap_0 rfl (lv_at hl 0 rfl) ?_
  refine rM_get (v := .ref (ad 9)) hx hb hts hin hown hK hP 11 (by decide) rfl (by decide +kernel) dX9_swap_1 ?_
  refine lv_bipush (v := nI 22) hx hb dX9_swap_4 (by decide) ?_
  refine lv_iload_n hx hb dX9_swap_6 rfl (lv_at hl 1 rfl) ?_
  refine lv_imul hx hb dX9_swap_7 ?_
  rw [pk_mul]
  refine lv_iload_n hx hb dX9_swap_8 rfl (lv_at hl 2 rfl) ?_
  refine lv_iadd hx hb dX9_swap_9 ?_
  rw [nI_add]
  refine rM_ld9 (i := ((22 * r) + q)) hx hb hK hP (by omega) dX9_swap_10 ?_
  refine W.eq (g2 := F0 m 11 ls [.long (a9 S ((22 * r) + q))]) rfl ?_
  refine lv_lstore_n (lv' := [(3, .long (a9 S ((22 * r) + q))), (0, .ref (ad 0)), (1, .int (nI r)), (2, .int (nI q))]) hx hb dX9_swap_11 rfl hl (by decide) rfl (fun ls hl => ?_)
  refine lv_iconst (v := nI 0) hx hb dX9_swap_12 (by decide) ?_
  refine lv_istore (lv' := [(5, .int (nI 0)), (3, .long (a9 S ((22 * r) + q))), (0, .ref (ad 0)), (1, .int (nI r)), (2, .int (nI q))]) hx hb dX9_swap_13 hl (by decide) rfl (fun ls hl => ?_)
  have L15 : ∀ (n i : Nat) (u : Nat → Int64) (H : Heap) (locs : List Loc) (ls : Array Slot), i + n = R + 1 → va_P D vwCl (wM cy ad (mk9 (aF S) (aG S) (a1 S) (a2 S) (a3 S) (a4 S) (a5 S) (a6 S) (a7 S) (a8 S) u (a10 S) (a11 S) (a12 S) (a13 S) (a14 S) (a15 S) (a16 S) (a17 S) (a18 S) (a19 S) (a20 S)) ++ X) H → va_D (va_A (wM cy ad S ++ X) sz) (wM cy ad (mk9 (aF S) (aG S) (a1 S) (a2 S) (a3 S) (a4 S) (a5 S) (a6 S) (a7 S) (a8 S) u (a10 S) (a11 S) (a12 S) (a13 S) (a14 S) (a15 S) (a16 S) (a17 S) (a18 S) (a19 S) (a20 S)) ++ X) → va_S (va_A (wM cy ad S ++ X) sz) s.heap H locs → lv_has ls 9 [(5, .int (nI i)), (0, .ref (ad 0)), (1, .int (nI r)), (2, .int (nI q)), (3, .long (a9 S ((22 * r) + q)))] → (∀ (H : Heap) (locs : List Loc) (ls : Array Slot), va_P D vwCl (wM cy ad (mk9 (aF S) (aG S) (a1 S) (a2 S) (a3 S) (a4 S) (a5 S) (a6 S) (a7 S) (a8 S) (lpN (fSi (a9 S (22 * r + q)) (aG S 16) r q C) n i u) (a10 S) (a11 S) (a12 S) (a13 S) (a14 S) (a15 S) (a16 S) (a17 S) (a18 S) (a19 S) (a20 S)) ++ X) H → va_D (va_A (wM cy ad S ++ X) sz) (wM cy ad (mk9 (aF S) (aG S) (a1 S) (a2 S) (a3 S) (a4 S) (a5 S) (a6 S) (a7 S) (a8 S) (lpN (fSi (a9 S (22 * r + q)) (aG S 16) r q C) n i u) (a10 S) (a11 S) (a12 S) (a13 S) (a14 S) (a15 S) (a16 S) (a17 S) (a18 S) (a19 S) (a20 S)) ++ X) → va_S (va_A (wM cy ad S ++ X) sz) s.heap H locs → lv_has ls 9 [(5, .int (nI (R + 1))), (0, .ref (ad 0)), (1, .int (nI r)), (2, .int (nI q)), (3, .long (a9 S ((22 * r) + q)))] → W p l e (headSpec wsX9_swap (rm9 1 30)).room s m ([.ref (ad 0), .int (nI r), .int (nI q)] : List Value).toArray below meth c H locs 0 0 (MQ below (gQv D cy (wM cy ad S ++ X) sz (fun ws' => ws' = wM cy ad (jSwap S r q R C) ++ X)) ([.ref (ad 0), .int (nI r), .int (nI q)] : List Value).toArray s 0 0 (va_A (wM cy ad S ++ X) sz)) (F0 m 123 ls [])) → W p l e (headSpec wsX9_swap (rm9 1 30)).room s m ([.ref (ad 0), .int (nI r), .int (nI q)] : List Value).toArray below meth c H locs 0 0 (MQ below (gQv D cy (wM cy ad S ++ X) sz (fun ws' => ws' = wM cy ad (jSwap S r q R C) ++ X)) ([.ref (ad 0), .int (nI r), .int (nI q)] : List Value).toArray s 0 0 (va_A (wM cy ad S ++ X) sz)) (F0 m 15 ls []) := by
    intro n
    induction n with
    | zero =>
      intro i u H locs ls hk hP hD hS hl hex
      obtain rfl : R + 1 = i := by omega
      refine lv_iload hx hb dX9_swap_15 (lv_at hl 0 rfl) ?_
      refine lv_aload_n hx hb dX9_swap_17 rfl (lv_at hl 1 rfl) ?_
      refine rM_get (v := .int (aF S 14)) hx hb hts hin hown hK hP 14 (by decide) rfl (by decide +kernel) dX9_swap_18 ?_
      rw [hR]
      refine lv_icmp_gt (tgt := 123) hx hb dX9_swap_21 (by decide) (fun c1 => ?_) (fun c1 => ?_)
      · rw [nI_ltI (by omega) (by omega)] at c1
        exact hex _ _ _ hP hD hS (lv_sub hl [0, 1, 2, 3, 4] rfl)
      · exact absurd c1 (by rw [nI_ltI (by omega) (by omega)]; omega)
    | succ n ih =>
      intro i u H locs ls hk hP hD hS hl hex
      have hk15 : i < R + 1 := by omega
      refine lv_iload hx hb dX9_swap_15 (lv_at hl 0 rfl) ?_
      refine lv_aload_n hx hb dX9_swap_17 rfl (lv_at hl 1 rfl) ?_
      refine rM_get (v := .int (aF S 14)) hx hb hts hin hown hK hP 14 (by decide) rfl (by decide +kernel) dX9_swap_18 ?_
      rw [hR]
      refine lv_icmp_gt (tgt := 123) hx hb dX9_swap_21 (by decide) (fun c2 => ?_) (fun c2 => ?_)
      · exact absurd c2 (by rw [nI_ltI (by omega) (by omega)]; omega)
      · rw [nI_ltI (by omega) (by omega)] at c2
        refine lv_aload_n hx hb dX9_swap_24 rfl (lv_at hl 1 rfl) ?_
        refine rM_get (v := .ref (ad 9)) hx hb hts hin hown hK hP 11 (by decide) rfl (by decide +kernel) dX9_swap_25 ?_
        refine lv_bipush (v := nI 22) hx hb dX9_swap_28 (by decide) ?_
        refine lv_iload hx hb dX9_swap_30 (lv_at hl 0 rfl) ?_
        refine lv_imul hx hb dX9_swap_32 ?_
        rw [pk_mul]
        refine lv_iload_n hx hb dX9_swap_33 rfl (lv_at hl 3 rfl) ?_
        refine lv_iadd hx hb dX9_swap_34 ?_
        rw [nI_add]
        refine rM_ld9 (i := ((22 * i) + q)) hx hb hK hP (by omega) dX9_swap_35 ?_
        refine W.eq (g2 := F0 m 36 ls [.long (u ((22 * i) + q))]) rfl ?_
        refine lv_lstore (lv' := [(6, .long (u ((22 * i) + q))), (5, .int (nI i)), (0, .ref (ad 0)), (1, .int (nI r)), (2, .int (nI q)), (3, .long (a9 S ((22 * r) + q)))]) hx hb dX9_swap_36 hl (by decide) rfl (fun ls hl => ?_)
        by_cases hir : i = r
        · skip
          refine lv_iconst (v := nI 0) hx hb dX9_swap_38 (by decide) ?_
          refine lv_istore (lv' := [(8, .int (nI 0)), (6, .long (u ((22 * i) + q))), (5, .int (nI i)), (0, .ref (ad 0)), (1, .int (nI r)), (2, .int (nI q)), (3, .long (a9 S ((22 * r) + q)))]) hx hb dX9_swap_39 hl (by decide) rfl (fun ls hl => ?_)
          refine lv_iload hx hb dX9_swap_41 (lv_at hl 0 rfl) ?_
          refine lv_aload_n hx hb dX9_swap_43 rfl (lv_at hl 3 rfl) ?_
          refine rM_get (v := .int (aF S 15)) hx hb hts hin hown hK hP 15 (by decide) rfl (by decide +kernel) dX9_swap_44 ?_
          rw [hC]
          refine lv_icmp_gt (tgt := 117) hx hb dX9_swap_47 (by decide) (fun c3 => ?_) (fun c3 => ?_)
          · rw [nI_ltI (by omega) (by omega)] at c3
            refine lv_iinc (v := nI (i + 1)) (lv' := [(5, .int (nI (i + 1))), (8, .int (nI 0)), (6, .long (u ((22 * i) + q))), (0, .ref (ad 0)), (1, .int (nI r)), (2, .int (nI q)), (3, .long (a9 S ((22 * r) + q)))]) hx hb dX9_swap_117 hl (k := 2) rfl (nI_1 _) (by decide) rfl (fun ls hl => ?_)
            refine lv_goto (tgt := 15) hx hb dX9_swap_120 (by decide) ?_
            have he : (fSi (a9 S (22 * r + q)) (aG S 16) r q C) i u = u := by simp [fSi, hir]
            rw [lpN_s, he] at hex
            exact ih ((i + 1)) u _ _ _ (by omega) hP hD hS (lv_sub hl [0, 3, 4, 5, 6] rfl) hex
          · rw [nI_ltI (by omega) (by omega)] at c3
            refine lv_iload hx hb dX9_swap_50 (lv_at hl 2 rfl) ?_
            refine lv_iload_n hx hb dX9_swap_52 rfl (lv_at hl 4 rfl) ?_
            refine lv_icmp_eq (tgt := 117) hx hb dX9_swap_53 (by decide) (fun c4 => ?_) (fun c4 => ?_)
            · rw [nI_eq (by omega) (by omega)] at c4
              refine lv_iinc (v := nI (i + 1)) (lv' := [(5, .int (nI (i + 1))), (8, .int (nI 0)), (6, .long (u ((22 * i) + q))), (0, .ref (ad 0)), (1, .int (nI r)), (2, .int (nI q)), (3, .long (a9 S ((22 * r) + q)))]) hx hb dX9_swap_117 hl (k := 2) rfl (nI_1 _) (by decide) rfl (fun ls hl => ?_)
              refine lv_goto (tgt := 15) hx hb dX9_swap_120 (by decide) ?_
              have he : (fSi (a9 S (22 * r + q)) (aG S 16) r q C) i u = u := by simp [fSi, hir]
              rw [lpN_s, he] at hex
              exact ih ((i + 1)) u _ _ _ (by omega) hP hD hS (lv_sub hl [0, 3, 4, 5, 6] rfl) hex
            · exact absurd c4 (by rw [nI_eq (by omega) (by omega)]; omega)
        · skip
          refine lv_iconst (v := nI 0) hx hb dX9_swap_38 (by decide) ?_
          refine lv_istore (lv' := [(8, .int (nI 0)), (6, .long (u ((22 * i) + q))), (5, .int (nI i)), (0, .ref (ad 0)), (1, .int (nI r)), (2, .int (nI q)), (3, .long (a9 S ((22 * r) + q)))]) hx hb dX9_swap_39 hl (by decide) rfl (fun ls hl => ?_)
          have L41 : ∀ (n j : Nat) (v : Nat → Int64) (H : Heap) (locs : List Loc) (ls : Array Slot), j + n = C + 1 → va_P D vwCl (wM cy ad (mk9 (aF S) (aG S) (a1 S) (a2 S) (a3 S) (a4 S) (a5 S) (a6 S) (a7 S) (a8 S) v (a10 S) (a11 S) (a12 S) (a13 S) (a14 S) (a15 S) (a16 S) (a17 S) (a18 S) (a19 S) (a20 S)) ++ X) H → va_D (va_A (wM cy ad S ++ X) sz) (wM cy ad (mk9 (aF S) (aG S) (a1 S) (a2 S) (a3 S) (a4 S) (a5 S) (a6 S) (a7 S) (a8 S) v (a10 S) (a11 S) (a12 S) (a13 S) (a14 S) (a15 S) (a16 S) (a17 S) (a18 S) (a19 S) (a20 S)) ++ X) → va_S (va_A (wM cy ad S ++ X) sz) s.heap H locs → lv_has ls 9 [(8, .int (nI j)), (0, .ref (ad 0)), (1, .int (nI r)), (2, .int (nI q)), (3, .long (a9 S ((22 * r) + q))), (5, .int (nI i)), (6, .long (u ((22 * i) + q)))] → (∀ (H : Heap) (locs : List Loc) (ls : Array Slot), va_P D vwCl (wM cy ad (mk9 (aF S) (aG S) (a1 S) (a2 S) (a3 S) (a4 S) (a5 S) (a6 S) (a7 S) (a8 S) (lpN (fSj (a9 S (22 * r + q)) (u (22 * i + q)) (aG S 16) r q i) n j v) (a10 S) (a11 S) (a12 S) (a13 S) (a14 S) (a15 S) (a16 S) (a17 S) (a18 S) (a19 S) (a20 S)) ++ X) H → va_D (va_A (wM cy ad S ++ X) sz) (wM cy ad (mk9 (aF S) (aG S) (a1 S) (a2 S) (a3 S) (a4 S) (a5 S) (a6 S) (a7 S) (a8 S) (lpN (fSj (a9 S (22 * r + q)) (u (22 * i + q)) (aG S 16) r q i) n j v) (a10 S) (a11 S) (a12 S) (a13 S) (a14 S) (a15 S) (a16 S) (a17 S) (a18 S) (a19 S) (a20 S)) ++ X) → va_S (va_A (wM cy ad S ++ X) sz) s.heap H locs → lv_has ls 9 [(8, .int (nI (C + 1))), (0, .ref (ad 0)), (1, .int (nI r)), (2, .int (nI q)), (3, .long (a9 S ((22 * r) + q))), (5, .int (nI i)), (6, .long (u ((22 * i) + q)))] → W p l e (headSpec wsX9_swap (rm9 1 30)).room s m ([.ref (ad 0), .int (nI r), .int (nI q)] : List Value).toArray below meth c H locs 0 0 (MQ below (gQv D cy (wM cy ad S ++ X) sz (fun ws' => ws' = wM cy ad (jSwap S r q R C) ++ X)) ([.ref (ad 0), .int (nI r), .int (nI q)] : List Value).toArray s 0 0 (va_A (wM cy ad S ++ X) sz)) (F0 m 117 ls [])) → W p l e (headSpec wsX9_swap (rm9 1 30)).room s m ([.ref (ad 0), .int (nI r), .int (nI q)] : List Value).toArray below meth c H locs 0 0 (MQ below (gQv D cy (wM cy ad S ++ X) sz (fun ws' => ws' = wM cy ad (jSwap S r q R C) ++ X)) ([.ref (ad 0), .int (nI r), .int (nI q)] : List Value).toArray s 0 0 (va_A (wM cy ad S ++ X) sz)) (F0 m 41 ls []) := by
            intro n
            induction n with
            | zero =>
              intro j v H locs ls hk hP hD hS hl hex
              obtain rfl : C + 1 = j := by omega
              refine lv_iload hx hb dX9_swap_41 (lv_at hl 0 rfl) ?_
              refine lv_aload_n hx hb dX9_swap_43 rfl (lv_at hl 1 rfl) ?_
              refine rM_get (v := .int (aF S 15)) hx hb hts hin hown hK hP 15 (by decide) rfl (by decide +kernel) dX9_swap_44 ?_
              rw [hC]
              refine lv_icmp_gt (tgt := 117) hx hb dX9_swap_47 (by decide) (fun c5 => ?_) (fun c5 => ?_)
              · rw [nI_ltI (by omega) (by omega)] at c5
                exact hex _ _ _ hP hD hS (lv_sub hl [0, 1, 2, 3, 4, 5, 6] rfl)
              · exact absurd c5 (by rw [nI_ltI (by omega) (by omega)]; omega)
            | succ n ih =>
              intro j v H locs ls hk hP hD hS hl hex
              have hk41 : j < C + 1 := by omega
              refine lv_iload hx hb dX9_swap_41 (lv_at hl 0 rfl) ?_
              refine lv_aload_n hx hb dX9_swap_43 rfl (lv_at hl 1 rfl) ?_
              refine rM_get (v := .int (aF S 15)) hx hb hts hin hown hK hP 15 (by decide) rfl (by decide +kernel) dX9_swap_44 ?_
              rw [hC]
              refine lv_icmp_gt (tgt := 117) hx hb dX9_swap_47 (by decide) (fun c6 => ?_) (fun c6 => ?_)
              · exact absurd c6 (by rw [nI_ltI (by omega) (by omega)]; omega)
              · rw [nI_ltI (by omega) (by omega)] at c6
                refine lv_iload hx hb dX9_swap_50 (lv_at hl 5 rfl) ?_
                refine lv_iload_n hx hb dX9_swap_52 rfl (lv_at hl 2 rfl) ?_
                refine lv_icmp_eq (tgt := 117) hx hb dX9_swap_53 (by decide) (fun c7 => ?_) (fun c7 => ?_)
                · exact absurd c7 (by rw [nI_eq (by omega) (by omega)]; omega)
                · rw [nI_eq (by omega) (by omega)] at c7
                  refine lv_iload hx hb dX9_swap_56 (lv_at hl 0 rfl) ?_
                  refine lv_iload_n hx hb dX9_swap_58 rfl (lv_at hl 3 rfl) ?_
                  refine lv_icmp_eq (tgt := 111) hx hb dX9_swap_59 (by decide) (fun c8 => ?_) (fun c8 => ?_)
                  · rw [nI_eq (by omega) (by omega)] at c8
                    refine lv_iinc (v := nI (j + 1)) (lv' := [(8, .int (nI (j + 1))), (0, .ref (ad 0)), (1, .int (nI r)), (2, .int (nI q)), (3, .long (a9 S ((22 * r) + q))), (5, .int (nI i)), (6, .long (u ((22 * i) + q)))]) hx hb dX9_swap_111 hl (k := 0) rfl (nI_1 _) (by decide) rfl (fun ls hl => ?_)
                    refine lv_goto (tgt := 41) hx hb dX9_swap_114 (by decide) ?_
                    have he : (fSj (a9 S (22 * r + q)) (u (22 * i + q)) (aG S 16) r q i) j v = v := by simp [fSj, c2, c6, c7, c8]
                    rw [lpN_s, he] at hex
                    exact ih ((j + 1)) v _ _ _ (by omega) hP hD hS (lv_sub hl [0, 1, 2, 3, 4, 5, 6] rfl) hex
                  · rw [nI_eq (by omega) (by omega)] at c8
                    refine lv_aload_n hx hb dX9_swap_62 rfl (lv_at hl 1 rfl) ?_
                    refine rM_get (v := .ref (ad 9)) hx hb hts hin hown hK hP 11 (by decide) rfl (by decide +kernel) dX9_swap_63 ?_
                    refine lv_bipush (v := nI 22) hx hb dX9_swap_66 (by decide) ?_
                    refine lv_iload hx hb dX9_swap_68 (lv_at hl 5 rfl) ?_
                    refine lv_imul hx hb dX9_swap_70 ?_
                    rw [pk_mul]
                    refine lv_iload hx hb dX9_swap_71 (lv_at hl 0 rfl) ?_
                    refine lv_iadd hx hb dX9_swap_73 ?_
                    rw [nI_add]
                    refine lv_aload_n hx hb dX9_swap_74 rfl (lv_at hl 1 rfl) ?_
                    refine rM_get (v := .ref (ad 9)) hx hb hts hin hown hK hP 11 (by decide) rfl (by decide +kernel) dX9_swap_75 ?_
                    refine lv_bipush (v := nI 22) hx hb dX9_swap_78 (by decide) ?_
                    refine lv_iload hx hb dX9_swap_80 (lv_at hl 5 rfl) ?_
                    refine lv_imul hx hb dX9_swap_82 ?_
                    rw [pk_mul]
                    refine lv_iload hx hb dX9_swap_83 (lv_at hl 0 rfl) ?_
                    refine lv_iadd hx hb dX9_swap_85 ?_
                    rw [nI_add]
                    refine rM_ld9 (i := ((22 * i) + j)) hx hb hK hP (by omega) dX9_swap_86 ?_
                    refine W.eq (g2 := F0 m 87 ls [.long (v ((22 * i) + j)), .int (nI ((22 * i) + j)), .ref (ad 9)]) rfl ?_
                    refine lv_lload_n hx hb dX9_swap_87 rfl (lv_at hl 4 rfl) ?_
                    refine lv_lmul hx hb dX9_swap_88 ?_
                    refine lv_lload hx hb dX9_swap_89 (lv_at hl 6 rfl) ?_
                    refine lv_aload_n hx hb dX9_swap_91 rfl (lv_at hl 1 rfl) ?_
                    refine rM_get (v := .ref (ad 9)) hx hb hts hin hown hK hP 11 (by decide) rfl (by decide +kernel) dX9_swap_92 ?_
                    refine lv_bipush (v := nI 22) hx hb dX9_swap_95 (by decide) ?_
                    refine lv_iload_n hx hb dX9_swap_97 rfl (lv_at hl 2 rfl) ?_
                    refine lv_imul hx hb dX9_swap_98 ?_
                    rw [pk_mul]
                    refine lv_iload hx hb dX9_swap_99 (lv_at hl 0 rfl) ?_
                    refine lv_iadd hx hb dX9_swap_101 ?_
                    rw [nI_add]
                    refine rM_ld9 (i := ((22 * r) + j)) hx hb hK hP (by omega) dX9_swap_102 ?_
                    refine W.eq (g2 := F0 m 103 ls [.long (v ((22 * r) + j)), .long (u ((22 * i) + q)), .long ((v ((22 * i) + j)) * (a9 S ((22 * r) + q))), .int (nI ((22 * i) + j)), .ref (ad 9)]) rfl ?_
                    refine lv_lmul hx hb dX9_swap_103 ?_
                    refine lv_lsub hx hb dX9_swap_104 ?_
                    refine lv_aload_n hx hb dX9_swap_105 rfl (lv_at hl 1 rfl) ?_
                    refine rM_get (v := .long (aG S 16)) hx hb hts hin hown hK hP 16 (by decide) rfl (by decide +kernel) dX9_swap_106 ?_
                    refine lv_ldiv hx hb dX9_swap_109 (hB) ?_
                    refine rM_st9 (i := ((22 * i) + j)) hx hb hK hP hD hS (by omega) dX9_swap_110 (fun H locs hP hD hS => ?_)
                    have hP : va_P D vwCl (wM cy ad (mk9 (aF S) (aG S) (a1 S) (a2 S) (a3 S) (a4 S) (a5 S) (a6 S) (a7 S) (a8 S) (vp_updL v ((22 * i) + j) ((((v ((22 * i) + j)) * (a9 S ((22 * r) + q))) - ((u ((22 * i) + q)) * (v ((22 * r) + j)))) / (aG S 16))) (a10 S) (a11 S) (a12 S) (a13 S) (a14 S) (a15 S) (a16 S) (a17 S) (a18 S) (a19 S) (a20 S)) ++ X) H := hP
                    have hD : va_D (va_A (wM cy ad S ++ X) sz) (wM cy ad (mk9 (aF S) (aG S) (a1 S) (a2 S) (a3 S) (a4 S) (a5 S) (a6 S) (a7 S) (a8 S) (vp_updL v ((22 * i) + j) ((((v ((22 * i) + j)) * (a9 S ((22 * r) + q))) - ((u ((22 * i) + q)) * (v ((22 * r) + j)))) / (aG S 16))) (a10 S) (a11 S) (a12 S) (a13 S) (a14 S) (a15 S) (a16 S) (a17 S) (a18 S) (a19 S) (a20 S)) ++ X) := hD
                    refine lv_iinc (v := nI (j + 1)) (lv' := [(8, .int (nI (j + 1))), (0, .ref (ad 0)), (1, .int (nI r)), (2, .int (nI q)), (3, .long (a9 S ((22 * r) + q))), (5, .int (nI i)), (6, .long (u ((22 * i) + q)))]) hx hb dX9_swap_111 hl (k := 0) rfl (nI_1 _) (by decide) rfl (fun ls hl => ?_)
                    refine lv_goto (tgt := 41) hx hb dX9_swap_114 (by decide) ?_
                    have he : (fSj (a9 S (22 * r + q)) (u (22 * i + q)) (aG S 16) r q i) j v = (vp_updL v ((22 * i) + j) ((((v ((22 * i) + j)) * (a9 S ((22 * r) + q))) - ((u ((22 * i) + q)) * (v ((22 * r) + j)))) / (aG S 16))) := by simp [fSj, c2, c6, c7, c8]
                    rw [lpN_s, he] at hex
                    exact ih ((j + 1)) (vp_updL v ((22 * i) + j) ((((v ((22 * i) + j)) * (a9 S ((22 * r) + q))) - ((u ((22 * i) + q)) * (v ((22 * r) + j)))) / (aG S 16))) _ _ _ (by omega) hP hD hS (lv_sub hl [0, 1, 2, 3, 4, 5, 6] rfl) hex
          refine L41 (C + 1) 0 u _ _ _ (by omega) hP hD hS (lv_sub hl [0, 3, 4, 5, 6, 2, 1] rfl) (fun H locs ls hP hD hS hl => ?_)
          refine lv_iinc (v := nI (i + 1)) (lv' := [(5, .int (nI (i + 1))), (8, .int (nI (C + 1))), (0, .ref (ad 0)), (1, .int (nI r)), (2, .int (nI q)), (3, .long (a9 S ((22 * r) + q))), (6, .long (u ((22 * i) + q)))]) hx hb dX9_swap_117 hl (k := 5) rfl (nI_1 _) (by decide) rfl (fun ls hl => ?_)
          refine lv_goto (tgt := 15) hx hb dX9_swap_120 (by decide) ?_
          have he : (fSi (a9 S (22 * r + q)) (aG S 16) r q C) i u = (lpN (fSj (a9 S (22 * r + q)) (u (22 * i + q)) (aG S 16) r q i) (C + 1) 0 u) := by simp [fSi, hir]
          rw [lpN_s, he] at hex
          exact ih ((i + 1)) (lpN (fSj (a9 S (22 * r + q)) (u (22 * i + q)) (aG S 16) r q i) (C + 1) 0 u) _ _ _ (by omega) hP hD hS (lv_sub hl [0, 2, 3, 4, 5] rfl) hex
  refine L15 (R + 1) 0 (a9 S) _ _ _ (by omega) hP hD hS (lv_sub hl [0, 2, 3, 4, 1] rfl) (fun H locs ls hP hD hS hl => ?_)
  refine lv_iconst (v := nI 0) hx hb dX9_swap_123 (by decide) ?_
  refine lv_istore (lv' := [(5, .int (nI 0)), (0, .ref (ad 0)), (1, .int (nI r)), (2, .int (nI q)), (3, .long (a9 S ((22 * r) + q)))]) hx hb dX9_swap_124 hl (by decide) rfl (fun ls hl => ?_)
  have L126 : ∀ (n j : Nat) (v : Nat → Int64) (H : Heap) (locs : List Loc) (ls : Array Slot), j + n = C + 1 → va_P D vwCl (wM cy ad (mk9 (aF S) (aG S) (a1 S) (a2 S) (a3 S) (a4 S) (a5 S) (a6 S) (a7 S) (a8 S) v (a10 S) (a11 S) (a12 S) (a13 S) (a14 S) (a15 S) (a16 S) (a17 S) (a18 S) (a19 S) (a20 S)) ++ X) H → va_D (va_A (wM cy ad S ++ X) sz) (wM cy ad (mk9 (aF S) (aG S) (a1 S) (a2 S) (a3 S) (a4 S) (a5 S) (a6 S) (a7 S) (a8 S) v (a10 S) (a11 S) (a12 S) (a13 S) (a14 S) (a15 S) (a16 S) (a17 S) (a18 S) (a19 S) (a20 S)) ++ X) → va_S (va_A (wM cy ad S ++ X) sz) s.heap H locs → lv_has ls 9 [(5, .int (nI j)), (0, .ref (ad 0)), (1, .int (nI r)), (2, .int (nI q)), (3, .long (a9 S ((22 * r) + q)))] → (∀ (H : Heap) (locs : List Loc) (ls : Array Slot), va_P D vwCl (wM cy ad (mk9 (aF S) (aG S) (a1 S) (a2 S) (a3 S) (a4 S) (a5 S) (a6 S) (a7 S) (a8 S) (lpN (fSr (aG S 16) r q) n j v) (a10 S) (a11 S) (a12 S) (a13 S) (a14 S) (a15 S) (a16 S) (a17 S) (a18 S) (a19 S) (a20 S)) ++ X) H → va_D (va_A (wM cy ad S ++ X) sz) (wM cy ad (mk9 (aF S) (aG S) (a1 S) (a2 S) (a3 S) (a4 S) (a5 S) (a6 S) (a7 S) (a8 S) (lpN (fSr (aG S 16) r q) n j v) (a10 S) (a11 S) (a12 S) (a13 S) (a14 S) (a15 S) (a16 S) (a17 S) (a18 S) (a19 S) (a20 S)) ++ X) → va_S (va_A (wM cy ad S ++ X) sz) s.heap H locs → lv_has ls 9 [(5, .int (nI (C + 1))), (0, .ref (ad 0)), (1, .int (nI r)), (2, .int (nI q)), (3, .long (a9 S ((22 * r) + q)))] → W p l e (headSpec wsX9_swap (rm9 1 30)).room s m ([.ref (ad 0), .int (nI r), .int (nI q)] : List Value).toArray below meth c H locs 0 0 (MQ below (gQv D cy (wM cy ad S ++ X) sz (fun ws' => ws' = wM cy ad (jSwap S r q R C) ++ X)) ([.ref (ad 0), .int (nI r), .int (nI q)] : List Value).toArray s 0 0 (va_A (wM cy ad S ++ X) sz)) (F0 m 179 ls [])) → W p l e (headSpec wsX9_swap (rm9 1 30)).room s m ([.ref (ad 0), .int (nI r), .int (nI q)] : List Value).toArray below meth c H locs 0 0 (MQ below (gQv D cy (wM cy ad S ++ X) sz (fun ws' => ws' = wM cy ad (jSwap S r q R C) ++ X)) ([.ref (ad 0), .int (nI r), .int (nI q)] : List Value).toArray s 0 0 (va_A (wM cy ad S ++ X) sz)) (F0 m 126 ls []) := by
    intro n
    induction n with
    | zero =>
      intro j v H locs ls hk hP hD hS hl hex
      obtain rfl : C + 1 = j := by omega
      refine lv_iload hx hb dX9_swap_126 (lv_at hl 0 rfl) ?_
      refine lv_aload_n hx hb dX9_swap_128 rfl (lv_at hl 1 rfl) ?_
      refine rM_get (v := .int (aF S 15)) hx hb hts hin hown hK hP 15 (by decide) rfl (by decide +kernel) dX9_swap_129 ?_
      rw [hC]
      refine lv_icmp_gt (tgt := 179) hx hb dX9_swap_132 (by decide) (fun c9 => ?_) (fun c9 => ?_)
      · rw [nI_ltI (by omega) (by omega)] at c9
        exact hex _ _ _ hP hD hS (lv_sub hl [0, 1, 2, 3, 4] rfl)
      · exact absurd c9 (by rw [nI_ltI (by omega) (by omega)]; omega)
    | succ n ih =>
      intro j v H locs ls hk hP hD hS hl hex
      have hk126 : j < C + 1 := by omega
      refine lv_iload hx hb dX9_swap_126 (lv_at hl 0 rfl) ?_
      refine lv_aload_n hx hb dX9_swap_128 rfl (lv_at hl 1 rfl) ?_
      refine rM_get (v := .int (aF S 15)) hx hb hts hin hown hK hP 15 (by decide) rfl (by decide +kernel) dX9_swap_129 ?_
      rw [hC]
      refine lv_icmp_gt (tgt := 179) hx hb dX9_swap_132 (by decide) (fun c10 => ?_) (fun c10 => ?_)
      · exact absurd c10 (by rw [nI_ltI (by omega) (by omega)]; omega)
      · rw [nI_ltI (by omega) (by omega)] at c10
        refine lv_aload_n hx hb dX9_swap_135 rfl (lv_at hl 1 rfl) ?_
        refine rM_get (v := .ref (ad 9)) hx hb hts hin hown hK hP 11 (by decide) rfl (by decide +kernel) dX9_swap_136 ?_
        refine lv_bipush (v := nI 22) hx hb dX9_swap_139 (by decide) ?_
        refine lv_iload_n hx hb dX9_swap_141 rfl (lv_at hl 2 rfl) ?_
        refine lv_imul hx hb dX9_swap_142 ?_
        rw [pk_mul]
        refine lv_iload hx hb dX9_swap_143 (lv_at hl 0 rfl) ?_
        refine lv_iadd hx hb dX9_swap_145 ?_
        rw [nI_add]
        refine lv_iload hx hb dX9_swap_146 (lv_at hl 0 rfl) ?_
        refine lv_iload_n hx hb dX9_swap_148 rfl (lv_at hl 3 rfl) ?_
        refine lv_icmp_ne (tgt := 159) hx hb dX9_swap_149 (by decide) (fun c11 => ?_) (fun c11 => ?_)
        · rw [nI_eq (by omega) (by omega)] at c11
          refine lv_aload_n hx hb dX9_swap_159 rfl (lv_at hl 1 rfl) ?_
          refine rM_get (v := .ref (ad 9)) hx hb hts hin hown hK hP 11 (by decide) rfl (by decide +kernel) dX9_swap_160 ?_
          refine lv_bipush (v := nI 22) hx hb dX9_swap_163 (by decide) ?_
          refine lv_iload_n hx hb dX9_swap_165 rfl (lv_at hl 2 rfl) ?_
          refine lv_imul hx hb dX9_swap_166 ?_
          rw [pk_mul]
          refine lv_iload hx hb dX9_swap_167 (lv_at hl 0 rfl) ?_
          refine lv_iadd hx hb dX9_swap_169 ?_
          rw [nI_add]
          refine rM_ld9 (i := ((22 * r) + j)) hx hb hK hP (by omega) dX9_swap_170 ?_
          refine W.eq (g2 := F0 m 171 ls [.long (v ((22 * r) + j)), .int (nI ((22 * r) + j)), .ref (ad 9)]) rfl ?_
          refine lv_lneg hx hb dX9_swap_171 ?_
          refine rM_st9 (i := ((22 * r) + j)) hx hb hK hP hD hS (by omega) dX9_swap_172 (fun H locs hP hD hS => ?_)
          have hP : va_P D vwCl (wM cy ad (mk9 (aF S) (aG S) (a1 S) (a2 S) (a3 S) (a4 S) (a5 S) (a6 S) (a7 S) (a8 S) (vp_updL v ((22 * r) + j) (-(v ((22 * r) + j)))) (a10 S) (a11 S) (a12 S) (a13 S) (a14 S) (a15 S) (a16 S) (a17 S) (a18 S) (a19 S) (a20 S)) ++ X) H := hP
          have hD : va_D (va_A (wM cy ad S ++ X) sz) (wM cy ad (mk9 (aF S) (aG S) (a1 S) (a2 S) (a3 S) (a4 S) (a5 S) (a6 S) (a7 S) (a8 S) (vp_updL v ((22 * r) + j) (-(v ((22 * r) + j)))) (a10 S) (a11 S) (a12 S) (a13 S) (a14 S) (a15 S) (a16 S) (a17 S) (a18 S) (a19 S) (a20 S)) ++ X) := hD
          refine lv_iinc (v := nI (j + 1)) (lv' := [(5, .int (nI (j + 1))), (0, .ref (ad 0)), (1, .int (nI r)), (2, .int (nI q)), (3, .long (a9 S ((22 * r) + q)))]) hx hb dX9_swap_173 hl (k := 0) rfl (nI_1 _) (by decide) rfl (fun ls hl => ?_)
          refine lv_goto (tgt := 126) hx hb dX9_swap_176 (by decide) ?_
          have he : (fSr (aG S 16) r q) j v = (vp_updL v ((22 * r) + j) (-(v ((22 * r) + j)))) := by simp [fSr, c10, c11]
          rw [lpN_s, he] at hex
          exact ih ((j + 1)) (vp_updL v ((22 * r) + j) (-(v ((22 * r) + j)))) _ _ _ (by omega) hP hD hS (lv_sub hl [0, 1, 2, 3, 4] rfl) hex
        · rw [nI_eq (by omega) (by omega)] at c11
          refine lv_aload_n hx hb dX9_swap_152 rfl (lv_at hl 1 rfl) ?_
          refine rM_get (v := .long (aG S 16)) hx hb hts hin hown hK hP 16 (by decide) rfl (by decide +kernel) dX9_swap_153 ?_
          refine lv_goto (tgt := 172) hx hb dX9_swap_156 (by decide) ?_
          refine rM_st9 (i := ((22 * r) + j)) hx hb hK hP hD hS (by omega) dX9_swap_172 (fun H locs hP hD hS => ?_)
          have hP : va_P D vwCl (wM cy ad (mk9 (aF S) (aG S) (a1 S) (a2 S) (a3 S) (a4 S) (a5 S) (a6 S) (a7 S) (a8 S) (vp_updL v ((22 * r) + j) (aG S 16)) (a10 S) (a11 S) (a12 S) (a13 S) (a14 S) (a15 S) (a16 S) (a17 S) (a18 S) (a19 S) (a20 S)) ++ X) H := hP
          have hD : va_D (va_A (wM cy ad S ++ X) sz) (wM cy ad (mk9 (aF S) (aG S) (a1 S) (a2 S) (a3 S) (a4 S) (a5 S) (a6 S) (a7 S) (a8 S) (vp_updL v ((22 * r) + j) (aG S 16)) (a10 S) (a11 S) (a12 S) (a13 S) (a14 S) (a15 S) (a16 S) (a17 S) (a18 S) (a19 S) (a20 S)) ++ X) := hD
          refine lv_iinc (v := nI (j + 1)) (lv' := [(5, .int (nI (j + 1))), (0, .ref (ad 0)), (1, .int (nI r)), (2, .int (nI q)), (3, .long (a9 S ((22 * r) + q)))]) hx hb dX9_swap_173 hl (k := 0) rfl (nI_1 _) (by decide) rfl (fun ls hl => ?_)
          refine lv_goto (tgt := 126) hx hb dX9_swap_176 (by decide) ?_
          have he : (fSr (aG S 16) r q) j v = (vp_updL v ((22 * r) + j) (aG S 16)) := by simp [fSr, c10, c11]
          rw [lpN_s, he] at hex
          exact ih ((j + 1)) (vp_updL v ((22 * r) + j) (aG S 16)) _ _ _ (by omega) hP hD hS (lv_sub hl [0, 1, 2, 3, 4] rfl) hex
  refine L126 (C + 1) 0 (lpN (fSi (a9 S (22 * r + q)) (aG S 16) r q C) (R + 1) 0 (a9 S)) _ _ _ (by omega) hP hD hS (lv_sub hl [0, 1, 2, 3, 4] rfl) (fun H locs ls hP hD hS hl => ?_)
  have hP : va_P D vwCl (wM cy ad (mk9 (aF S) (aG S) (a1 S) (a2 S) (a3 S) (a4 S) (a5 S) (a6 S) (a7 S) (a8 S) (jCell S r q R C) (a10 S) (a11 S) (a12 S) (a13 S) (a14 S) (a15 S) (a16 S) (a17 S) (a18 S) (a19 S) (a20 S)) ++ X) H := hP
  have hD : va_D (va_A (wM cy ad S ++ X) sz) (wM cy ad (mk9 (aF S) (aG S) (a1 S) (a2 S) (a3 S) (a4 S) (a5 S) (a6 S) (a7 S) (a8 S) (jCell S r q R C) (a10 S) (a11 S) (a12 S) (a13 S) (a14 S) (a15 S) (a16 S) (a17 S) (a18 S) (a19 S) (a20 S)) ++ X) := hD
  refine lv_aload_n hx hb dX9_swap_179 rfl (lv_at hl 1 rfl) ?_
  refine lv_lload_n hx hb dX9_swap_180 rfl (lv_at hl 4 rfl) ?_
  refine rM_put16 (v := a9 S ((22 * r) + q)) hx hb hts hin hown hK hP hD hS (by decide +kernel) dX9_swap_181 (fun H locs hP hD hS => ?_)
  have hP : va_P D vwCl (wM cy ad (mk9 (aF S) (vp_updL (aG S) 16 (a9 S ((22 * r) + q))) (a1 S) (a2 S) (a3 S) (a4 S) (a5 S) (a6 S) (a7 S) (a8 S) (jCell S r q R C) (a10 S) (a11 S) (a12 S) (a13 S) (a14 S) (a15 S) (a16 S) (a17 S) (a18 S) (a19 S) (a20 S)) ++ X) H := hP
  have hD : va_D (va_A (wM cy ad S ++ X) sz) (wM cy ad (mk9 (aF S) (vp_updL (aG S) 16 (a9 S ((22 * r) + q))) (a1 S) (a2 S) (a3 S) (a4 S) (a5 S) (a6 S) (a7 S) (a8 S) (jCell S r q R C) (a10 S) (a11 S) (a12 S) (a13 S) (a14 S) (a15 S) (a16 S) (a17 S) (a18 S) (a19 S) (a20 S)) ++ X) := hD
  refine lv_aload_n hx hb dX9_swap_184 rfl (lv_at hl 1 rfl) ?_
  refine rM_get (v := .long (a9 S ((22 * r) + q))) hx hb hts hin hown hK hP 16 (by decide) rfl (by decide +kernel) dX9_swap_185 ?_
  refine lv_lconst (v := 0) hx hb dX9_swap_188 (by decide) ?_
  refine W.lcmp hx hb dX9_swap_189 ?_
  refine lv_if_ge (tgt := 197) hx hb dX9_swap_190 (by decide) (fun c12 => ?_) (fun c12 => ?_)
  · skip
    refine lv_aload_n hx hb dX9_swap_197 rfl (lv_at hl 1 rfl) ?_
    refine rM_get (v := .ref (ad 10)) hx hb hts hin hown hK hP 12 (by decide) rfl (by decide +kernel) dX9_swap_198 ?_
    refine lv_iload_n hx hb dX9_swap_201 rfl (lv_at hl 2 rfl) ?_
    refine rM_ld10 (i := r) hx hb hK hP (by omega) dX9_swap_202 ?_
    refine W.eq (g2 := F0 m 203 ls [.int (a10 S r)]) rfl ?_
    refine lv_istore (lv' := [(5, .int (a10 S r)), (0, .ref (ad 0)), (1, .int (nI r)), (2, .int (nI q)), (3, .long (a9 S ((22 * r) + q)))]) hx hb dX9_swap_203 hl (by decide) rfl (fun ls hl => ?_)
    refine lv_aload_n hx hb dX9_swap_205 rfl (lv_at hl 1 rfl) ?_
    refine rM_get (v := .ref (ad 10)) hx hb hts hin hown hK hP 12 (by decide) rfl (by decide +kernel) dX9_swap_206 ?_
    refine lv_iload_n hx hb dX9_swap_209 rfl (lv_at hl 2 rfl) ?_
    refine lv_aload_n hx hb dX9_swap_210 rfl (lv_at hl 1 rfl) ?_
    refine rM_get (v := .ref (ad 11)) hx hb hts hin hown hK hP 13 (by decide) rfl (by decide +kernel) dX9_swap_211 ?_
    refine lv_iload_n hx hb dX9_swap_214 rfl (lv_at hl 3 rfl) ?_
    refine rM_ld11 (i := q) hx hb hK hP (by omega) dX9_swap_215 ?_
    refine W.eq (g2 := F0 m 216 ls [.int (a11 S q), .int (nI r), .ref (ad 10)]) rfl ?_
    refine rM_st10 (i := r) hx hb hK hP hD hS (by omega) dX9_swap_216 (fun H locs hP hD hS => ?_)
    have hP : va_P D vwCl (wM cy ad (mk9 (aF S) (vp_updL (aG S) 16 (a9 S ((22 * r) + q))) (a1 S) (a2 S) (a3 S) (a4 S) (a5 S) (a6 S) (a7 S) (a8 S) (jCell S r q R C) (upd (a10 S) r (a11 S q)) (a11 S) (a12 S) (a13 S) (a14 S) (a15 S) (a16 S) (a17 S) (a18 S) (a19 S) (a20 S)) ++ X) H := hP
    have hD : va_D (va_A (wM cy ad S ++ X) sz) (wM cy ad (mk9 (aF S) (vp_updL (aG S) 16 (a9 S ((22 * r) + q))) (a1 S) (a2 S) (a3 S) (a4 S) (a5 S) (a6 S) (a7 S) (a8 S) (jCell S r q R C) (upd (a10 S) r (a11 S q)) (a11 S) (a12 S) (a13 S) (a14 S) (a15 S) (a16 S) (a17 S) (a18 S) (a19 S) (a20 S)) ++ X) := hD
    refine lv_aload_n hx hb dX9_swap_217 rfl (lv_at hl 1 rfl) ?_
    refine rM_get (v := .ref (ad 11)) hx hb hts hin hown hK hP 13 (by decide) rfl (by decide +kernel) dX9_swap_218 ?_
    refine lv_iload_n hx hb dX9_swap_221 rfl (lv_at hl 3 rfl) ?_
    refine lv_iload hx hb dX9_swap_222 (lv_at hl 0 rfl) ?_
    refine rM_st11 (i := q) hx hb hK hP hD hS (by omega) dX9_swap_224 (fun H locs hP hD hS => ?_)
    have hP : va_P D vwCl (wM cy ad (mk9 (aF S) (vp_updL (aG S) 16 (a9 S ((22 * r) + q))) (a1 S) (a2 S) (a3 S) (a4 S) (a5 S) (a6 S) (a7 S) (a8 S) (jCell S r q R C) (upd (a10 S) r (a11 S q)) (upd (a11 S) q (a10 S r)) (a12 S) (a13 S) (a14 S) (a15 S) (a16 S) (a17 S) (a18 S) (a19 S) (a20 S)) ++ X) H := hP
    have hD : va_D (va_A (wM cy ad S ++ X) sz) (wM cy ad (mk9 (aF S) (vp_updL (aG S) 16 (a9 S ((22 * r) + q))) (a1 S) (a2 S) (a3 S) (a4 S) (a5 S) (a6 S) (a7 S) (a8 S) (jCell S r q R C) (upd (a10 S) r (a11 S q)) (upd (a11 S) q (a10 S r)) (a12 S) (a13 S) (a14 S) (a15 S) (a16 S) (a17 S) (a18 S) (a19 S) (a20 S)) ++ X) := hD
    exact W.vret hx hb hr (fun t ht hW => ⟨⟨_, rfl, by simp only [jSwap]; rw [if_pos c12], by rw [ht]; exact hP, va_K.moved hW.alike hK, hD⟩, hS.F ht⟩) hS.2.2 dX9_swap_225
  · skip
    refine lv_aload_n hx hb dX9_swap_193 rfl (lv_at hl 1 rfl) ?_
    refine gCallv (ws := wM cy ad (mk9 (aF S) (vp_updL (aG S) 16 (a9 S ((22 * r) + q))) (a1 S) (a2 S) (a3 S) (a4 S) (a5 S) (a6 S) (a7 S) (a8 S) (jCell S r q R C) (a10 S) (a11 S) (a12 S) (a13 S) (a14 S) (a15 S) (a16 S) (a17 S) (a18 S) (a19 S) (a20 S)) ++ X) (As := []) (rest := []) (q0 := 0) (r0 := (RX9, TX9, 36)) hx hb hml hown hts hK hP hD hS hA hl.1 wM_0 rfl (cM_turnAll l D cy ad X _ _ (R := R) (C := C) hR hC hR36 hC21) (cwV 0 hts gX9_swap_X9_turnAll rfl rfl rfl (by decide +kernel) ⟨Nat.le_of_ble_eq_true rfl, Nat.le_of_ble_eq_true rfl⟩) rfl rfl (Nat.le_of_ble_eq_true rfl) ⟨Nat.le_of_ble_eq_true rfl, Nat.le_of_ble_eq_true rfl⟩ dX9_swap_194 (fun ws13 H locs e13 hP hD hS => ?_)
    rw [show ws13 = _ from e13] at hP hD
    have hP : va_P D vwCl (wM cy ad (mk9 (aF S) (vp_updL (vp_updL (aG S) 16 (a9 S ((22 * r) + q))) 16 (-(a9 S (22 * r + q)))) (a1 S) (a2 S) (a3 S) (a4 S) (a5 S) (a6 S) (a7 S) (a8 S) (lpN (fTu2 C) (R + 1) 0 (jCell S r q R C)) (a10 S) (a11 S) (a12 S) (a13 S) (a14 S) (a15 S) (a16 S) (a17 S) (a18 S) (a19 S) (a20 S)) ++ X) H := hP
    have hD : va_D (va_A (wM cy ad S ++ X) sz) (wM cy ad (mk9 (aF S) (vp_updL (vp_updL (aG S) 16 (a9 S ((22 * r) + q))) 16 (-(a9 S (22 * r + q)))) (a1 S) (a2 S) (a3 S) (a4 S) (a5 S) (a6 S) (a7 S) (a8 S) (lpN (fTu2 C) (R + 1) 0 (jCell S r q R C)) (a10 S) (a11 S) (a12 S) (a13 S) (a14 S) (a15 S) (a16 S) (a17 S) (a18 S) (a19 S) (a20 S)) ++ X) := hD
    refine lv_aload_n hx hb dX9_swap_197 rfl (lv_at hl 1 rfl) ?_
    refine rM_get (v := .ref (ad 10)) hx hb hts hin hown hK hP 12 (by decide) rfl (by decide +kernel) dX9_swap_198 ?_
    refine lv_iload_n hx hb dX9_swap_201 rfl (lv_at hl 2 rfl) ?_
    refine rM_ld10 (i := r) hx hb hK hP (by omega) dX9_swap_202 ?_
    refine W.eq (g2 := F0 m 203 ls [.int (a10 S r)]) rfl ?_
    refine lv_istore (lv' := [(5, .int (a10 S r)), (0, .ref (ad 0)), (1, .int (nI r)), (2, .int (nI q)), (3, .long (a9 S ((22 * r) + q)))]) hx hb dX9_swap_203 hl (by decide) rfl (fun ls hl => ?_)
    refine lv_aload_n hx hb dX9_swap_205 rfl (lv_at hl 1 rfl) ?_
    refine rM_get (v := .ref (ad 10)) hx hb hts hin hown hK hP 12 (by decide) rfl (by decide +kernel) dX9_swap_206 ?_
    refine lv_iload_n hx hb dX9_swap_209 rfl (lv_at hl 2 rfl) ?_
    refine lv_aload_n hx hb dX9_swap_210 rfl (lv_at hl 1 rfl) ?_
    refine rM_get (v := .ref (ad 11)) hx hb hts hin hown hK hP 13 (by decide) rfl (by decide +kernel) dX9_swap_211 ?_
    refine lv_iload_n hx hb dX9_swap_214 rfl (lv_at hl 3 rfl) ?_
    refine rM_ld11 (i := q) hx hb hK hP (by omega) dX9_swap_215 ?_
    refine W.eq (g2 := F0 m 216 ls [.int (a11 S q), .int (nI r), .ref (ad 10)]) rfl ?_
    refine rM_st10 (i := r) hx hb hK hP hD hS (by omega) dX9_swap_216 (fun H locs hP hD hS => ?_)
    have hP : va_P D vwCl (wM cy ad (mk9 (aF S) (vp_updL (vp_updL (aG S) 16 (a9 S ((22 * r) + q))) 16 (-(a9 S (22 * r + q)))) (a1 S) (a2 S) (a3 S) (a4 S) (a5 S) (a6 S) (a7 S) (a8 S) (lpN (fTu2 C) (R + 1) 0 (jCell S r q R C)) (upd (a10 S) r (a11 S q)) (a11 S) (a12 S) (a13 S) (a14 S) (a15 S) (a16 S) (a17 S) (a18 S) (a19 S) (a20 S)) ++ X) H := hP
    have hD : va_D (va_A (wM cy ad S ++ X) sz) (wM cy ad (mk9 (aF S) (vp_updL (vp_updL (aG S) 16 (a9 S ((22 * r) + q))) 16 (-(a9 S (22 * r + q)))) (a1 S) (a2 S) (a3 S) (a4 S) (a5 S) (a6 S) (a7 S) (a8 S) (lpN (fTu2 C) (R + 1) 0 (jCell S r q R C)) (upd (a10 S) r (a11 S q)) (a11 S) (a12 S) (a13 S) (a14 S) (a15 S) (a16 S) (a17 S) (a18 S) (a19 S) (a20 S)) ++ X) := hD
    refine lv_aload_n hx hb dX9_swap_217 rfl (lv_at hl 1 rfl) ?_
    refine rM_get (v := .ref (ad 11)) hx hb hts hin hown hK hP 13 (by decide) rfl (by decide +kernel) dX9_swap_218 ?_
    refine lv_iload_n hx hb dX9_swap_221 rfl (lv_at hl 3 rfl) ?_
    refine lv_iload hx hb dX9_swap_222 (lv_at hl 0 rfl) ?_
    refine rM_st11 (i := q) hx hb hK hP hD hS (by omega) dX9_swap_224 (fun H locs hP hD hS => ?_)
    have hP : va_P D vwCl (wM cy ad (mk9 (aF S) (vp_updL (vp_updL (aG S) 16 (a9 S ((22 * r) + q))) 16 (-(a9 S (22 * r + q)))) (a1 S) (a2 S) (a3 S) (a4 S) (a5 S) (a6 S) (a7 S) (a8 S) (lpN (fTu2 C) (R + 1) 0 (jCell S r q R C)) (upd (a10 S) r (a11 S q)) (upd (a11 S) q (a10 S r)) (a12 S) (a13 S) (a14 S) (a15 S) (a16 S) (a17 S) (a18 S) (a19 S) (a20 S)) ++ X) H := hP
    have hD : va_D (va_A (wM cy ad S ++ X) sz) (wM cy ad (mk9 (aF S) (vp_updL (vp_updL (aG S) 16 (a9 S ((22 * r) + q))) 16 (-(a9 S (22 * r + q)))) (a1 S) (a2 S) (a3 S) (a4 S) (a5 S) (a6 S) (a7 S) (a8 S) (lpN (fTu2 C) (R + 1) 0 (jCell S r q R C)) (upd (a10 S) r (a11 S q)) (upd (a11 S) q (a10 S r)) (a12 S) (a13 S) (a14 S) (a15 S) (a16 S) (a17 S) (a18 S) (a19 S) (a20 S)) ++ X) := hD
    exact W.vret hx hb hr (fun t ht hW => ⟨⟨_, rfl, by simp only [jSwap]; rw [if_neg c12], by rw [ht]; exact hP, va_K.moved hW.alike hK, hD⟩, hS.F ht⟩) hS.2.2 dX9_swap_225
