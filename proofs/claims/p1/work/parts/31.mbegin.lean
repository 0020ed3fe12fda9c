/-! the reference: all rows -/
def fZ9 (k : Nat) (c : Nat → Int64) : Nat → Int64 := vp_updL c k 0
def fZ12 (k : Nat) (c : Nat → Int32) : Nat → Int32 := upd c k (nI 0)
def fBeg (v : Nat) (q : (Nat → Int64) × (Nat → Int32) × (Nat → Int32)) : (Nat → Int64) × (Nat → Int32) × (Nat → Int32) := (vp_updL (vp_updL q.1 (22 * v) 2000) (22 * v + v + 1) (-1), upd q.2.1 v (nI (6 + v)), upd q.2.2 (v + 1) (nI v))
def jBeg (S : MS) : (Nat → Int64) × (Nat → Int32) × (Nat → Int32) := lpN fBeg 6 0 (lpN fZ9 814 0 (a9 S), a10 S, a11 S)
def jBegin (S : MS) : MS := mk9 (upd (upd (aF S) 14 (nI 6)) 15 (nI 6)) (vp_updL (aG S) 16 1) (a1 S) (a2 S) (a3 S) (a4 S) (a5 S) (a6 S) (a7 S) (a8 S) ((jBeg S).1) ((jBeg S).2.1) ((jBeg S).2.2) (lpN fZ12 42 0 (a12 S)) (a13 S) (a14 S) (a15 S) (a16 S) (a17 S) (a18 S) (a19 S) (a20 S)
set_option maxHeartbeats 4000000 in
set_option maxRecDepth 100000 in
theorem cM_beginRows (l : Launch) (D : va_G) (cy : Nat → ClassId) (ad : Nat → Nat) (X : va_W) (S : MS) (sz : Nat)  : Met l yX9_beginRows wsX9_beginRows (rm9 0 0) (gPc D cy (wM cy ad S ++ X) sz [.ref (ad 0)]) (gQv D cy (wM cy ad S ++ X) sz (fun ws' => ws' = wM cy ad (jBegin S) ++ X)) 0 0 (va_A (wM cy ad S ++ X) sz) := by
  refine gHead (cc := cX9_beginRows) (maxL := 2) (ret := none) (by decide) rfl (Nat.le_of_ble_eq_true rfl) ?_
  intro p e s m below meth c ls hx hb hr hlocks hml hown hts hsz hP hK hD hS hA hl
  have hin : ∀ w ∈ u_ws RX9 TX9 36, w ∈ wsX9_beginRows := by decide +kernel
  have hown : s.vm.findClass RX9 = some m.cls := hown
  have hl : lv_has ls 2 [(0, .ref (ad 0))] := hl
  refine lv_iconst (v := nI 0) hx hb dX9_beginRows_0 (by decide) ?_
  refine lv_istore_n (lv' := [(1, .int (nI 0)), (0, .ref (ad 0))]) hx hb dX9_beginRows_1 rfl hl (by decide) rfl (fun ls hl => ?_)
  have L2 : ∀ (n k : Nat) (q : Nat → Int64) (H : Heap) (locs : List Loc) (ls : Array Slot), k + n = 814 → va_P D vwCl (wM cy ad (mk9 (aF S) (aG S) (a1 S) (a2 S) (a3 S) (a4 S) (a5 S) (a6 S) (a7 S) (a8 S) q (a10 S) (a11 S) (a12 S) (a13 S) (a14 S) (a15 S) (a16 S) (a17 S) (a18 S) (a19 S) (a20 S)) ++ X) H → va_D (va_A (wM cy ad S ++ X) sz) (wM cy ad (mk9 (aF S) (aG S) (a1 S) (a2 S) (a3 S) (a4 S) (a5 S) (a6 S) (a7 S) (a8 S) q (a10 S) (a11 S) (a12 S) (a13 S) (a14 S) (a15 S) (a16 S) (a17 S) (a18 S) (a19 S) (a20 S)) ++ X) → va_S (va_A (wM cy ad S ++ X) sz) s.heap H locs → lv_has ls 2 [(1, .int (nI k)), (0, .ref (ad 0))] → (∀ (H : Heap) (locs : List Loc) (ls : Array Slot), va_P D vwCl (wM cy ad (mk9 (aF S) (aG S) (a1 S) (a2 S) (a3 S) (a4 S) (a5 S) (a6 S) (a7 S) (a8 S) (lpN (fZ9) n k q) (a10 S) (a11 S) (a12 S) (a13 S) (a14 S) (a15 S) (a16 S) (a17 S) (a18 S) (a19 S) (a20 S)) ++ X) H → va_D (va_A (wM cy ad S ++ X) sz) (wM cy ad (mk9 (aF S) (aG S) (a1 S) (a2 S) (a3 S) (a4 S) (a5 S) (a6 S) (a7 S) (a8 S) (lpN (fZ9) n k q) (a10 S) (a11 S) (a12 S) (a13 S) (a14 S) (a15 S) (a16 S) (a17 S) (a18 S) (a19 S) (a20 S)) ++ X) → va_S (va_A (wM cy ad S ++ X) sz) s.heap H locs → lv_has ls 2 [(1, .int (nI 814)), (0, .ref (ad 0))] → W p l e (headSpec wsX9_beginRows (rm9 0 0)).room s m ([.ref (ad 0)] : List Value).toArray below meth c H locs 0 0 (MQ below (gQv D cy (wM cy ad S ++ X) sz (fun ws' => ws' = wM cy ad (jBegin S) ++ X)) ([.ref (ad 0)] : List Value).toArray s 0 0 (va_A (wM cy ad S ++ X) sz)) (F0 m 22 ls [])) → W p l e (headSpec wsX9_beginRows (rm9 0 0)).room s m ([.ref (ad 0)] : List Value).toArray below meth c H locs 0 0 (MQ below (gQv D cy (wM cy ad S ++ X) sz (fun ws' => ws' = wM cy ad (jBegin S) ++ X)) ([.ref (ad 0)] : List Value).toArray s 0 0 (va_A (wM cy ad S ++ X) sz)) (F0 m 2 ls []) := by
    intro n
    induction n with
    | zero =>
      intro k q H locs ls hk hP hD hS hl hex
      obtain rfl : 814 = k := by omega
      refine lv_iload_n hx hb dX9_beginRows_2 rfl (lv_at hl 0 rfl) ?_
      refine lv_sipush (v := nI 814) hx hb dX9_beginRows_3 (by decide) ?_
      refine lv_icmp_ge (tgt := 22) hx hb dX9_beginRows_6 (by decide) (fun c1 => ?_) (fun c1 => ?_)
      · rw [nI_leI (by omega) (by omega)] at c1
        exact hex _ _ _ hP hD hS (lv_sub hl [0, 1] rfl)
      · exact absurd c1 (by rw [nI_leI (by omega) (by omega)]; omega)
    | succ n ih =>
      intro k q H locs ls hk hP hD hS hl hex
      have hk2 : k < 814 := by omega
      refine lv_iload_n hx hb dX9_beginRows_2 rfl (lv_at hl 0 rfl) ?_
      refine lv_sipush (v := nI 814) hx hb dX9_beginRows_3 (by decide) ?_
      refine lv_icmp_ge (tgt := 22) hx hb dX9_beginRows_6 (by decide) (fun c2 => ?_) (fun c2 => ?_)
      · exact absurd c2 (by rw [nI_leI (by omega) (by omega)]; omega)
      · rw [nI_leI (by omega) (by omega)] at c2
        refine lv_aload_n hx hb dX9_beginRows_9 rfl (lv_at hl 1 rfl) ?_
        refine rM_get (v := .ref (ad 9)) hx hb hts hin hown hK hP 11 (by decide) rfl (by decide +kernel) dX9_beginRows_10 ?_
        refine lv_iload_n hx hb dX9_beginRows_13 rfl (lv_at hl 0 rfl) ?_
        refine lv_lconst (v := 0) hx hb dX9_beginRows_14 (by decide) ?_
        refine rM_st9 (i := k) hx hb hK hP hD hS (by omega) dX9_beginRows_15 (fun H locs hP hD hS => ?_)
        have hP : va_P D vwCl (wM cy ad (mk9 (aF S) (aG S) (a1 S) (a2 S) (a3 S) (a4 S) (a5 S) (a6 S) (a7 S) (a8 S) (vp_updL q k 0) (a10 S) (a11 S) (a12 S) (a13 S) (a14 S) (a15 S) (a16 S) (a17 S) (a18 S) (a19 S) (a20 S)) ++ X) H := hP
        have hD : va_D (va_A (wM cy ad S ++ X) sz) (wM cy ad (mk9 (aF S) (aG S) (a1 S) (a2 S) (a3 S) (a4 S) (a5 S) (a6 S) (a7 S) (a8 S) (vp_updL q k 0) (a10 S) (a11 S) (a12 S) (a13 S) (a14 S) (a15 S) (a16 S) (a17 S) (a18 S) (a19 S) (a20 S)) ++ X) := hD
        refine lv_iinc (v := nI (k + 1)) (lv' := [(1, .int (nI (k + 1))), (0, .ref (ad 0))]) hx hb dX9_beginRows_16 hl (k := 0) rfl (nI_1 _) (by decide) rfl (fun ls hl => ?_)
        refine lv_goto (tgt := 2) hx hb dX9_beginRows_19 (by decide) ?_
        have he : (fZ9) k q = (vp_updL q k 0) := rfl
        rw [lpN_s (f := fZ9), he] at hex
        exact ih ((k + 1)) (vp_updL q k 0) _ _ _ (by omega) hP hD hS (lv_sub hl [0, 1] rfl) hex
  refine L2 814 0 (a9 S) _ _ _ (by omega) hP hD hS (lv_sub hl [0, 1] rfl) (fun H locs ls hP hD hS hl => ?_)
  refine lv_iconst (v := nI 0) hx hb dX9_beginRows_22 (by decide) ?_
  refine lv_istore_n (lv' := [(1, .int (nI 0)), (0, .ref (ad 0))]) hx hb dX9_beginRows_23 rfl hl (by decide) rfl (fun ls hl => ?_)
  have L24 : ∀ (n k : Nat) (q : Nat → Int32) (H : Heap) (locs : List Loc) (ls : Array Slot), k + n = 42 → va_P D vwCl (wM cy ad (mk9 (aF S) (aG S) (a1 S) (a2 S) (a3 S) (a4 S) (a5 S) (a6 S) (a7 S) (a8 S) (lpN (fZ9) 814 0 (a9 S)) (a10 S) (a11 S) q (a13 S) (a14 S) (a15 S) (a16 S) (a17 S) (a18 S) (a19 S) (a20 S)) ++ X) H → va_D (va_A (wM cy ad S ++ X) sz) (wM cy ad (mk9 (aF S) (aG S) (a1 S) (a2 S) (a3 S) (a4 S) (a5 S) (a6 S) (a7 S) (a8 S) (lpN (fZ9) 814 0 (a9 S)) (a10 S) (a11 S) q (a13 S) (a14 S) (a15 S) (a16 S) (a17 S) (a18 S) (a19 S) (a20 S)) ++ X) → va_S (va_A (wM cy ad S ++ X) sz) s.heap H locs → lv_has ls 2 [(1, .int (nI k)), (0, .ref (ad 0))] → (∀ (H : Heap) (locs : List Loc) (ls : Array Slot), va_P D vwCl (wM cy ad (mk9 (aF S) (aG S) (a1 S) (a2 S) (a3 S) (a4 S) (a5 S) (a6 S) (a7 S) (a8 S) (lpN (fZ9) 814 0 (a9 S)) (a10 S) (a11 S) (lpN (fZ12) n k q) (a13 S) (a14 S) (a15 S) (a16 S) (a17 S) (a18 S) (a19 S) (a20 S)) ++ X) H → va_D (va_A (wM cy ad S ++ X) sz) (wM cy ad (mk9 (aF S) (aG S) (a1 S) (a2 S) (a3 S) (a4 S) (a5 S) (a6 S) (a7 S) (a8 S) (lpN (fZ9) 814 0 (a9 S)) (a10 S) (a11 S) (lpN (fZ12) n k q) (a13 S) (a14 S) (a15 S) (a16 S) (a17 S) (a18 S) (a19 S) (a20 S)) ++ X) → va_S (va_A (wM cy ad S ++ X) sz) s.heap H locs → lv_has ls 2 [(1, .int (nI 42)), (0, .ref (ad 0))] → W p l e (headSpec wsX9_beginRows (rm9 0 0)).room s m ([.ref (ad 0)] : List Value).toArray below meth c H locs 0 0 (MQ below (gQv D cy (wM cy ad S ++ X) sz (fun ws' => ws' = wM cy ad (jBegin S) ++ X)) ([.ref (ad 0)] : List Value).toArray s 0 0 (va_A (wM cy ad S ++ X) sz)) (F0 m 43 ls [])) → W p l e (headSpec wsX9_beginRows (rm9 0 0)).room s m ([.ref (ad 0)] : List Value).toArray below meth c H locs 0 0 (MQ below (gQv D cy (wM cy ad S ++ X) sz (fun ws' => ws' = wM cy ad (jBegin S) ++ X)) ([.ref (ad 0)] : List Value).toArray s 0 0 (va_A (wM cy ad S ++ X) sz)) (F0 m 24 ls []) := by
    intro n
    induction n with
    | zero =>
      intro k q H locs ls hk hP hD hS hl hex
      obtain rfl : 42 = k := by omega
      refine lv_iload_n hx hb dX9_beginRows_24 rfl (lv_at hl 0 rfl) ?_
      refine lv_bipush (v := nI 42) hx hb dX9_beginRows_25 (by decide) ?_
      refine lv_icmp_ge (tgt := 43) hx hb dX9_beginRows_27 (by decide) (fun c3 => ?_) (fun c3 => ?_)
      · rw [nI_leI (by omega) (by omega)] at c3
        exact hex _ _ _ hP hD hS (lv_sub hl [0, 1] rfl)
      · exact absurd c3 (by rw [nI_leI (by omega) (by omega)]; omega)
    | succ n ih =>
      intro k q H locs ls hk hP hD hS hl hex
      have hk24 : k < 42 := by omega
      refine lv_iload_n hx hb dX9_beginRows_24 rfl (lv_at hl 0 rfl) ?_
      refine lv_bipush (v := nI 42) hx hb dX9_beginRows_25 (by decide) ?_
      refine lv_icmp_ge (tgt := 43) hx hb dX9_beginRows_27 (by decide) (fun c4 => ?_) (fun c4 => ?_)
      · exact absurd c4 (by rw [nI_leI (by omega) (by omega)]; omega)
      · rw [nI_leI (by omega) (by omega)] at c4
        refine lv_aload_n hx hb dX9_beginRows_30 rfl (lv_at hl 1 rfl) ?_
        refine rM_get (v := .ref (ad 12)) hx hb hts hin hown hK hP 17 (by decide) rfl (by decide +kernel) dX9_beginRows_31 ?_
        refine lv_iload_n hx hb dX9_beginRows_34 rfl (lv_at hl 0 rfl) ?_
        refine lv_iconst (v := nI 0) hx hb dX9_beginRows_35 (by decide) ?_
        refine rM_st12 (i := k) hx hb hK hP hD hS (by omega) (by decide) dX9_beginRows_36 (fun H locs hP hD hS => ?_)
        have hP : va_P D vwCl (wM cy ad (mk9 (aF S) (aG S) (a1 S) (a2 S) (a3 S) (a4 S) (a5 S) (a6 S) (a7 S) (a8 S) (lpN (fZ9) 814 0 (a9 S)) (a10 S) (a11 S) (upd q k (nI 0)) (a13 S) (a14 S) (a15 S) (a16 S) (a17 S) (a18 S) (a19 S) (a20 S)) ++ X) H := hP
        have hD : va_D (va_A (wM cy ad S ++ X) sz) (wM cy ad (mk9 (aF S) (aG S) (a1 S) (a2 S) (a3 S) (a4 S) (a5 S) (a6 S) (a7 S) (a8 S) (lpN (fZ9) 814 0 (a9 S)) (a10 S) (a11 S) (upd q k (nI 0)) (a13 S) (a14 S) (a15 S) (a16 S) (a17 S) (a18 S) (a19 S) (a20 S)) ++ X) := hD
        refine lv_iinc (v := nI (k + 1)) (lv' := [(1, .int (nI (k + 1))), (0, .ref (ad 0))]) hx hb dX9_beginRows_37 hl (k := 0) rfl (nI_1 _) (by decide) rfl (fun ls hl => ?_)
        refine lv_goto (tgt := 24) hx hb dX9_beginRows_40 (by decide) ?_
        have he : (fZ12) k q = (upd q k (nI 0)) := rfl
        rw [lpN_s (f := fZ12), he] at hex
        exact ih ((k + 1)) (upd q k (nI 0)) _ _ _ (by omega) hP hD hS (lv_sub hl [0, 1] rfl) hex
  refine L24 42 0 (a12 S) _ _ _ (by omega) hP hD hS (lv_sub hl [0, 1] rfl) (fun H locs ls hP hD hS hl => ?_)
  refine lv_aload_n hx hb dX9_beginRows_43 rfl (lv_at hl 1 rfl) ?_
  refine lv_iconst (v := nI 0) hx hb dX9_beginRows_44 (by decide) ?_
  refine rM_put14 (v := nI 0) hx hb hts hin hown hK hP hD hS (by decide +kernel) dX9_beginRows_45 (fun H locs hP hD hS => ?_)
  have hP : va_P D vwCl (wM cy ad (mk9 (upd (aF S) 14 (nI 0)) (aG S) (a1 S) (a2 S) (a3 S) (a4 S) (a5 S) (a6 S) (a7 S) (a8 S) (lpN (fZ9) 814 0 (a9 S)) (a10 S) (a11 S) (lpN (fZ12) 42 0 (a12 S)) (a13 S) (a14 S) (a15 S) (a16 S) (a17 S) (a18 S) (a19 S) (a20 S)) ++ X) H := hP
  have hD : va_D (va_A (wM cy ad S ++ X) sz) (wM cy ad (mk9 (upd (aF S) 14 (nI 0)) (aG S) (a1 S) (a2 S) (a3 S) (a4 S) (a5 S) (a6 S) (a7 S) (a8 S) (lpN (fZ9) 814 0 (a9 S)) (a10 S) (a11 S) (lpN (fZ12) 42 0 (a12 S)) (a13 S) (a14 S) (a15 S) (a16 S) (a17 S) (a18 S) (a19 S) (a20 S)) ++ X) := hD
  refine lv_aload_n hx hb dX9_beginRows_48 rfl (lv_at hl 1 rfl) ?_
  refine lv_bipush (v := nI 6) hx hb dX9_beginRows_49 (by decide) ?_
  refine rM_put15 (v := nI 6) hx hb hts hin hown hK hP hD hS (by decide +kernel) dX9_beginRows_51 (fun H locs hP hD hS => ?_)
  have hP : va_P D vwCl (wM cy ad (mk9 (upd (upd (aF S) 14 (nI 0)) 15 (nI 6)) (aG S) (a1 S) (a2 S) (a3 S) (a4 S) (a5 S) (a6 S) (a7 S) (a8 S) (lpN (fZ9) 814 0 (a9 S)) (a10 S) (a11 S) (lpN (fZ12) 42 0 (a12 S)) (a13 S) (a14 S) (a15 S) (a16 S) (a17 S) (a18 S) (a19 S) (a20 S)) ++ X) H := hP
  have hD : va_D (va_A (wM cy ad S ++ X) sz) (wM cy ad (mk9 (upd (upd (aF S) 14 (nI 0)) 15 (nI 6)) (aG S) (a1 S) (a2 S) (a3 S) (a4 S) (a5 S) (a6 S) (a7 S) (a8 S) (lpN (fZ9) 814 0 (a9 S)) (a10 S) (a11 S) (lpN (fZ12) 42 0 (a12 S)) (a13 S) (a14 S) (a15 S) (a16 S) (a17 S) (a18 S) (a19 S) (a20 S)) ++ X) := hD
  refine lv_aload_n hx hb dX9_beginRows_54 rfl (lv_at hl 1 rfl) ?_
  refine lv_lconst (v := 1) hx hb dX9_beginRows_55 (by decide) ?_
  refine rM_put16 (v := 1) hx hb hts hin hown hK hP hD hS (by decide +kernel) dX9_beginRows_56 (fun H locs hP hD hS => ?_)
  have hP : va_P D vwCl (wM cy ad (mk9 (upd (upd (aF S) 14 (nI 0)) 15 (nI 6)) (vp_updL (aG S) 16 1) (a1 S) (a2 S) (a3 S) (a4 S) (a5 S) (a6 S) (a7 S) (a8 S) (lpN (fZ9) 814 0 (a9 S)) (a10 S) (a11 S) (lpN (fZ12) 42 0 (a12 S)) (a13 S) (a14 S) (a15 S) (a16 S) (a17 S) (a18 S) (a19 S) (a20 S)) ++ X) H := hP
  have hD : va_D (va_A (wM cy ad S ++ X) sz) (wM cy ad (mk9 (upd (upd (aF S) 14 (nI 0)) 15 (nI 6)) (vp_updL (aG S) 16 1) (a1 S) (a2 S) (a3 S) (a4 S) (a5 S) (a6 S) (a7 S) (a8 S) (lpN (fZ9) 814 0 (a9 S)) (a10 S) (a11 S) (lpN (fZ12) 42 0 (a12 S)) (a13 S) (a14 S) (a15 S) (a16 S) (a17 S) (a18 S) (a19 S) (a20 S)) ++ X) := hD
  refine lv_iconst (v := nI 0) hx hb dX9_beginRows_59 (by decide) ?_
  refine lv_istore_n (lv' := [(1, .int (nI 0)), (0, .ref (ad 0))]) hx hb dX9_beginRows_60 rfl hl (by decide) rfl (fun ls hl => ?_)
  have L61 : ∀ (n v : Nat) (q : (Nat → Int64) × (Nat → Int32) × (Nat → Int32)) (H : Heap) (locs : List Loc) (ls : Array Slot), v + n = 6 → va_P D vwCl (wM cy ad (mk9 (upd (upd (aF S) 14 (nI v)) 15 (nI 6)) (vp_updL (aG S) 16 1) (a1 S) (a2 S) (a3 S) (a4 S) (a5 S) (a6 S) (a7 S) (a8 S) q.1 q.2.1 q.2.2 (lpN fZ12 42 0 (a12 S)) (a13 S) (a14 S) (a15 S) (a16 S) (a17 S) (a18 S) (a19 S) (a20 S)) ++ X) H → va_D (va_A (wM cy ad S ++ X) sz) (wM cy ad (mk9 (upd (upd (aF S) 14 (nI v)) 15 (nI 6)) (vp_updL (aG S) 16 1) (a1 S) (a2 S) (a3 S) (a4 S) (a5 S) (a6 S) (a7 S) (a8 S) q.1 q.2.1 q.2.2 (lpN fZ12 42 0 (a12 S)) (a13 S) (a14 S) (a15 S) (a16 S) (a17 S) (a18 S) (a19 S) (a20 S)) ++ X) → va_S (va_A (wM cy ad S ++ X) sz) s.heap H locs → lv_has ls 2 [(1, .int (nI v)), (0, .ref (ad 0))] → (∀ (H : Heap) (locs : List Loc) (ls : Array Slot), va_P D vwCl (wM cy ad (mk9 (upd (upd (aF S) 14 (nI 6)) 15 (nI 6)) (vp_updL (aG S) 16 1) (a1 S) (a2 S) (a3 S) (a4 S) (a5 S) (a6 S) (a7 S) (a8 S) ((lpN (fBeg) n v q).1) ((lpN (fBeg) n v q).2.1) ((lpN (fBeg) n v q).2.2) (lpN fZ12 42 0 (a12 S)) (a13 S) (a14 S) (a15 S) (a16 S) (a17 S) (a18 S) (a19 S) (a20 S)) ++ X) H → va_D (va_A (wM cy ad S ++ X) sz) (wM cy ad (mk9 (upd (upd (aF S) 14 (nI 6)) 15 (nI 6)) (vp_updL (aG S) 16 1) (a1 S) (a2 S) (a3 S) (a4 S) (a5 S) (a6 S) (a7 S) (a8 S) ((lpN (fBeg) n v q).1) ((lpN (fBeg) n v q).2.1) ((lpN (fBeg) n v q).2.2) (lpN fZ12 42 0 (a12 S)) (a13 S) (a14 S) (a15 S) (a16 S) (a17 S) (a18 S) (a19 S) (a20 S)) ++ X) → va_S (va_A (wM cy ad S ++ X) sz) s.heap H locs → lv_has ls 2 [(1, .int (nI 6)), (0, .ref (ad 0))] → W p l e (headSpec wsX9_beginRows (rm9 0 0)).room s m ([.ref (ad 0)] : List Value).toArray below meth c H locs 0 0 (MQ below (gQv D cy (wM cy ad S ++ X) sz (fun ws' => ws' = wM cy ad (jBegin S) ++ X)) ([.ref (ad 0)] : List Value).toArray s 0 0 (va_A (wM cy ad S ++ X) sz)) (F0 m 139 ls [])) → W p l e (headSpec wsX9_beginRows (rm9 0 0)).room s m ([.ref (ad 0)] : List Value).toArray below meth c H locs 0 0 (MQ below (gQv D cy (wM cy ad S ++ X) sz (fun ws' => ws' = wM cy ad (jBegin S) ++ X)) ([.ref (ad 0)] : List Value).toArray s 0 0 (va_A (wM cy ad S ++ X) sz)) (F0 m 61 ls []) := by
    intro n
    induction n with
    | zero =>
      intro v q H locs ls hk hP hD hS hl hex
      obtain rfl : 6 = v := by omega
      refine lv_iload_n hx hb dX9_beginRows_61 rfl (lv_at hl 0 rfl) ?_
      refine lv_bipush (v := nI 6) hx hb dX9_beginRows_62 (by decide) ?_
      refine lv_icmp_ge (tgt := 139) hx hb dX9_beginRows_64 (by decide) (fun c5 => ?_) (fun c5 => ?_)
      · rw [nI_leI (by omega) (by omega)] at c5
        exact hex _ _ _ hP hD hS (lv_sub hl [0, 1] rfl)
      · exact absurd c5 (by rw [nI_leI (by omega) (by omega)]; omega)
    | succ n ih =>
      intro v q H locs ls hk hP hD hS hl hex
      have hk61 : v < 6 := by omega
      refine lv_iload_n hx hb dX9_beginRows_61 rfl (lv_at hl 0 rfl) ?_
      refine lv_bipush (v := nI 6) hx hb dX9_beginRows_62 (by decide) ?_
      refine lv_icmp_ge (tgt := 139) hx hb dX9_beginRows_64 (by decide) (fun c6 => ?_) (fun c6 => ?_)
      · exact absurd c6 (by rw [nI_leI (by omega) (by omega)]; omega)
      · rw [nI_leI (by omega) (by omega)] at c6
        refine lv_aload_n hx hb dX9_beginRows_67 rfl (lv_at hl 1 rfl) ?_
        refine rM_get (v := .ref (ad 11)) hx hb hts hin hown hK hP 13 (by decide) rfl (by decide +kernel) dX9_beginRows_68 ?_
        refine lv_iload_n hx hb dX9_beginRows_71 rfl (lv_at hl 0 rfl) ?_
        refine lv_iconst (v := nI 1) hx hb dX9_beginRows_72 (by decide) ?_
        refine lv_iadd hx hb dX9_beginRows_73 ?_
        rw [nI_add]
        refine lv_iload_n hx hb dX9_beginRows_74 rfl (lv_at hl 0 rfl) ?_
        refine rM_st11 (i := (v + 1)) hx hb hK hP hD hS (by omega) dX9_beginRows_75 (fun H locs hP hD hS => ?_)
        have hP : va_P D vwCl (wM cy ad (mk9 (upd (upd (aF S) 14 (nI v)) 15 (nI 6)) (vp_updL (aG S) 16 1) (a1 S) (a2 S) (a3 S) (a4 S) (a5 S) (a6 S) (a7 S) (a8 S) q.1 q.2.1 (upd q.2.2 (v + 1) (nI v)) (lpN fZ12 42 0 (a12 S)) (a13 S) (a14 S) (a15 S) (a16 S) (a17 S) (a18 S) (a19 S) (a20 S)) ++ X) H := hP
        have hD : va_D (va_A (wM cy ad S ++ X) sz) (wM cy ad (mk9 (upd (upd (aF S) 14 (nI v)) 15 (nI 6)) (vp_updL (aG S) 16 1) (a1 S) (a2 S) (a3 S) (a4 S) (a5 S) (a6 S) (a7 S) (a8 S) q.1 q.2.1 (upd q.2.2 (v + 1) (nI v)) (lpN fZ12 42 0 (a12 S)) (a13 S) (a14 S) (a15 S) (a16 S) (a17 S) (a18 S) (a19 S) (a20 S)) ++ X) := hD
        refine lv_aload_n hx hb dX9_beginRows_76 rfl (lv_at hl 1 rfl) ?_
        refine rM_get (v := .ref (ad 10)) hx hb hts hin hown hK hP 12 (by decide) rfl (by decide +kernel) dX9_beginRows_77 ?_
        refine lv_aload_n hx hb dX9_beginRows_80 rfl (lv_at hl 1 rfl) ?_
        refine rM_get (v := .int (nI v)) hx hb hts hin hown hK hP 14 (by decide) rfl (by decide +kernel) dX9_beginRows_81 ?_
        refine lv_bipush (v := nI 6) hx hb dX9_beginRows_84 (by decide) ?_
        refine lv_iload_n hx hb dX9_beginRows_86 rfl (lv_at hl 0 rfl) ?_
        refine lv_iadd hx hb dX9_beginRows_87 ?_
        rw [nI_add]
        refine rM_st10 (i := v) hx hb hK hP hD hS (by omega) dX9_beginRows_88 (fun H locs hP hD hS => ?_)
        have hP : va_P D vwCl (wM cy ad (mk9 (upd (upd (aF S) 14 (nI v)) 15 (nI 6)) (vp_updL (aG S) 16 1) (a1 S) (a2 S) (a3 S) (a4 S) (a5 S) (a6 S) (a7 S) (a8 S) q.1 (upd q.2.1 v (nI (6 + v))) (upd q.2.2 (v + 1) (nI v)) (lpN fZ12 42 0 (a12 S)) (a13 S) (a14 S) (a15 S) (a16 S) (a17 S) (a18 S) (a19 S) (a20 S)) ++ X) H := hP
        have hD : va_D (va_A (wM cy ad S ++ X) sz) (wM cy ad (mk9 (upd (upd (aF S) 14 (nI v)) 15 (nI 6)) (vp_updL (aG S) 16 1) (a1 S) (a2 S) (a3 S) (a4 S) (a5 S) (a6 S) (a7 S) (a8 S) q.1 (upd q.2.1 v (nI (6 + v))) (upd q.2.2 (v + 1) (nI v)) (lpN fZ12 42 0 (a12 S)) (a13 S) (a14 S) (a15 S) (a16 S) (a17 S) (a18 S) (a19 S) (a20 S)) ++ X) := hD
        refine lv_aload_n hx hb dX9_beginRows_89 rfl (lv_at hl 1 rfl) ?_
        refine rM_get (v := .ref (ad 9)) hx hb hts hin hown hK hP 11 (by decide) rfl (by decide +kernel) dX9_beginRows_90 ?_
        refine lv_bipush (v := nI 22) hx hb dX9_beginRows_93 (by decide) ?_
        refine lv_aload_n hx hb dX9_beginRows_95 rfl (lv_at hl 1 rfl) ?_
        refine rM_get (v := .int (nI v)) hx hb hts hin hown hK hP 14 (by decide) rfl (by decide +kernel) dX9_beginRows_96 ?_
        refine lv_imul hx hb dX9_beginRows_99 ?_
        rw [pk_mul]
        refine lv_ldc2 (v := 2000) hx hb hown (hts (.constantLong RX9 95 (2000)) (by decide +kernel)) dX9_beginRows_100 ?_
        refine rM_st9 (i := (22 * v)) hx hb hK hP hD hS (by omega) dX9_beginRows_103 (fun H locs hP hD hS => ?_)
        have hP : va_P D vwCl (wM cy ad (mk9 (upd (upd (aF S) 14 (nI v)) 15 (nI 6)) (vp_updL (aG S) 16 1) (a1 S) (a2 S) (a3 S) (a4 S) (a5 S) (a6 S) (a7 S) (a8 S) (vp_updL q.1 (22 * v) 2000) (upd q.2.1 v (nI (6 + v))) (upd q.2.2 (v + 1) (nI v)) (lpN fZ12 42 0 (a12 S)) (a13 S) (a14 S) (a15 S) (a16 S) (a17 S) (a18 S) (a19 S) (a20 S)) ++ X) H := hP
        have hD : va_D (va_A (wM cy ad S ++ X) sz) (wM cy ad (mk9 (upd (upd (aF S) 14 (nI v)) 15 (nI 6)) (vp_updL (aG S) 16 1) (a1 S) (a2 S) (a3 S) (a4 S) (a5 S) (a6 S) (a7 S) (a8 S) (vp_updL q.1 (22 * v) 2000) (upd q.2.1 v (nI (6 + v))) (upd q.2.2 (v + 1) (nI v)) (lpN fZ12 42 0 (a12 S)) (a13 S) (a14 S) (a15 S) (a16 S) (a17 S) (a18 S) (a19 S) (a20 S)) ++ X) := hD
        refine lv_aload_n hx hb dX9_beginRows_104 rfl (lv_at hl 1 rfl) ?_
        refine rM_get (v := .ref (ad 9)) hx hb hts hin hown hK hP 11 (by decide) rfl (by decide +kernel) dX9_beginRows_105 ?_
        refine lv_bipush (v := nI 22) hx hb dX9_beginRows_108 (by decide) ?_
        refine lv_aload_n hx hb dX9_beginRows_110 rfl (lv_at hl 1 rfl) ?_
        refine rM_get (v := .int (nI v)) hx hb hts hin hown hK hP 14 (by decide) rfl (by decide +kernel) dX9_beginRows_111 ?_
        refine lv_imul hx hb dX9_beginRows_114 ?_
        rw [pk_mul]
        refine lv_iload_n hx hb dX9_beginRows_115 rfl (lv_at hl 0 rfl) ?_
        refine lv_iadd hx hb dX9_beginRows_116 ?_
        rw [nI_add]
        refine lv_iconst (v := nI 1) hx hb dX9_beginRows_117 (by decide) ?_
        refine lv_iadd hx hb dX9_beginRows_118 ?_
        rw [nI_add]
        refine lv_ldc2 (v := (-1)) hx hb hown (hts (.constantLong RX9 97 (-1)) (by decide +kernel)) dX9_beginRows_119 ?_
        refine rM_st9 (i := (((22 * v) + v) + 1)) hx hb hK hP hD hS (by omega) dX9_beginRows_122 (fun H locs hP hD hS => ?_)
        have hP : va_P D vwCl (wM cy ad (mk9 (upd (upd (aF S) 14 (nI v)) 15 (nI 6)) (vp_updL (aG S) 16 1) (a1 S) (a2 S) (a3 S) (a4 S) (a5 S) (a6 S) (a7 S) (a8 S) (vp_updL (vp_updL q.1 (22 * v) 2000) (((22 * v) + v) + 1) (-1)) (upd q.2.1 v (nI (6 + v))) (upd q.2.2 (v + 1) (nI v)) (lpN fZ12 42 0 (a12 S)) (a13 S) (a14 S) (a15 S) (a16 S) (a17 S) (a18 S) (a19 S) (a20 S)) ++ X) H := hP
        have hD : va_D (va_A (wM cy ad S ++ X) sz) (wM cy ad (mk9 (upd (upd (aF S) 14 (nI v)) 15 (nI 6)) (vp_updL (aG S) 16 1) (a1 S) (a2 S) (a3 S) (a4 S) (a5 S) (a6 S) (a7 S) (a8 S) (vp_updL (vp_updL q.1 (22 * v) 2000) (((22 * v) + v) + 1) (-1)) (upd q.2.1 v (nI (6 + v))) (upd q.2.2 (v + 1) (nI v)) (lpN fZ12 42 0 (a12 S)) (a13 S) (a14 S) (a15 S) (a16 S) (a17 S) (a18 S) (a19 S) (a20 S)) ++ X) := hD
        refine lv_aload_n hx hb dX9_beginRows_123 rfl (lv_at hl 1 rfl) ?_
        refine lv_dup hx hb dX9_beginRows_124 rfl ?_
        refine rM_get (v := .int (nI v)) hx hb hts hin hown hK hP 14 (by decide) rfl (by decide +kernel) dX9_beginRows_125 ?_
        refine lv_iconst (v := nI 1) hx hb dX9_beginRows_128 (by decide) ?_
        refine lv_iadd hx hb dX9_beginRows_129 ?_
        rw [nI_add]
        refine rM_put14 (v := nI (v + 1)) hx hb hts hin hown hK hP hD hS (by decide +kernel) dX9_beginRows_130 (fun H locs hP hD hS => ?_)
        have hF9 : upd (upd (upd (aF S) 14 (nI v)) 15 (nI 6)) 14 (nI (v + 1)) = upd (upd (aF S) 14 (nI (v + 1))) 15 (nI 6) := by funext j9; simp only [upd]; repeat (split <;> try simp_all)
        rw [hF9] at hP hD
        have hP : va_P D vwCl (wM cy ad (mk9 (upd (upd (aF S) 14 (nI (v + 1))) 15 (nI 6)) (vp_updL (aG S) 16 1) (a1 S) (a2 S) (a3 S) (a4 S) (a5 S) (a6 S) (a7 S) (a8 S) (vp_updL (vp_updL q.1 (22 * v) 2000) (((22 * v) + v) + 1) (-1)) (upd q.2.1 v (nI (6 + v))) (upd q.2.2 (v + 1) (nI v)) (lpN fZ12 42 0 (a12 S)) (a13 S) (a14 S) (a15 S) (a16 S) (a17 S) (a18 S) (a19 S) (a20 S)) ++ X) H := hP
        have hD : va_D (va_A (wM cy ad S ++ X) sz) (wM cy ad (mk9 (upd (upd (aF S) 14 (nI (v + 1))) 15 (nI 6)) (vp_updL (aG S) 16 1) (a1 S) (a2 S) (a3 S) (a4 S) (a5 S) (a6 S) (a7 S) (a8 S) (vp_updL (vp_updL q.1 (22 * v) 2000) (((22 * v) + v) + 1) (-1)) (upd q.2.1 v (nI (6 + v))) (upd q.2.2 (v + 1) (nI v)) (lpN fZ12 42 0 (a12 S)) (a13 S) (a14 S) (a15 S) (a16 S) (a17 S) (a18 S) (a19 S) (a20 S)) ++ X) := hD
        refine lv_iinc (v := nI (v + 1)) (lv' := [(1, .int (nI (v + 1))), (0, .ref (ad 0))]) hx hb dX9_beginRows_133 hl (k := 0) rfl (nI_1 _) (by decide) rfl (fun ls hl => ?_)
        refine lv_goto (tgt := 61) hx hb dX9_beginRows_136 (by decide) ?_
        have he : (fBeg) v q = (vp_updL (vp_updL q.1 (22 * v) 2000) (((22 * v) + v) + 1) (-1), upd q.2.1 v (nI (6 + v)), upd q.2.2 (v + 1) (nI v)) := rfl
        rw [lpN_s (f := fBeg), he] at hex
        exact ih ((v + 1)) (vp_updL (vp_updL q.1 (22 * v) 2000) (((22 * v) + v) + 1) (-1), upd q.2.1 v (nI (6 + v)), upd q.2.2 (v + 1) (nI v)) _ _ _ (by omega) hP hD hS (lv_sub hl [0, 1] rfl) hex
  refine L61 6 0 ((lpN (fZ9) 814 0 (a9 S)), a10 S, a11 S) _ _ _ (by omega) hP hD hS (lv_sub hl [0, 1] rfl) (fun H locs ls hP hD hS hl => ?_)
  exact W.vret hx hb hr (fun t ht hW => ⟨⟨_, rfl, rfl, by rw [ht]; exact hP, va_K.moved hW.alike hK, hD⟩, hS.F ht⟩) hS.2.2 dX9_beginRows_139
