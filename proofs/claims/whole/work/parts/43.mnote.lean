/-! the reference: note -/
def fS1 (k : Nat) (f : Nat → Int32) : Nat → Int32 := upd f (k - 1) (f k)
def fS2 (k : Nat) (q : (Nat → Int32) × (Nat → Int32)) : (Nat → Int32) × (Nat → Int32) := (upd q.1 (k - 11) (q.1 k), upd q.2 (k - 11) (q.2 k))
def jNote (S : MS) (u c9 : Nat) : MS := if u = 20 then mk9 (upd (upd (upd (aF S) 9 (nI ((u - 1) + 1))) 10 (nI 0)) 18 (nI 0)) (aG S) (a1 S) (a2 S) (a3 S) (a4 S) (a5 S) (upd (lpN fS1 19 1 (a6 S)) (u - 1) (nI c9)) (lpN (fCo (a15 S) (11 * (u - 1)) 0) 11 0 ((lpN fS2 209 11 (a7 S, a8 S)).1)) (lpN (fCo (a1 S) (11 * (u - 1)) (11 * c9)) 11 0 ((lpN fS2 209 11 (a7 S, a8 S)).2)) (a9 S) (a10 S) (a11 S) (a12 S) (a13 S) (a14 S) (a15 S) (a16 S) (a17 S) (a18 S) (a19 S) (a20 S) else mk9 (upd (upd (upd (aF S) 9 (nI (u + 1))) 10 (nI 0)) 18 (nI 0)) (aG S) (a1 S) (a2 S) (a3 S) (a4 S) (a5 S) (upd (a6 S) u (nI c9)) (lpN (fCo (a15 S) (11 * u) 0) 11 0 (a7 S)) (lpN (fCo (a1 S) (11 * u) (11 * c9)) 11 0 (a8 S)) (a9 S) (a10 S) (a11 S) (a12 S) (a13 S) (a14 S) (a15 S) (a16 S) (a17 S) (a18 S) (a19 S) (a20 S)
set_option maxHeartbeats 4000000 in
set_option maxRecDepth 100000 in
theorem cM_note (l : Launch) (D : va_G) (cy : Nat → ClassId) (ad : Nat → Nat) (X : va_W) (S : MS) (sz : Nat) {u c9 : Nat} (hu : aF S 9 = nI u) (hu20 : u ≤ 20) (hc : c9 < 15) : Met l yX9_note wsX9_note (rm9 1 24) (gPc D cy (wM cy ad S ++ X) sz [.ref (ad 0), .int (nI c9)]) (gQv D cy (wM cy ad S ++ X) sz (fun ws' => ws' = wM cy ad (jNote S u c9) ++ X)) 0 0 (va_A (wM cy ad S ++ X) sz) := by
  refine gHead (cc := cX9_note) (maxL := 3) (ret := none) (by decide) rfl (Nat.le_of_ble_eq_true rfl) ?_
  intro p e s m below meth c ls hx hb hr hlocks hml hown hts hsz hP hK hD hS hA hl
  have hin : ∀ w ∈ u_ws RX9 TX9 36, w ∈ wsX9_note := by decide +kernel
  have hown : s.vm.findClass RX9 = some m.cls := hown
  have hl : lv_has ls 3 [(0, .ref (ad 0)), (1, .int (nI c9))] := hl
  refine lv_aload_n hx hb dX9_note_0 rfl (lv_at hl 0 rfl) ?_
  refine rM_get (v := .int (aF S 9)) hx hb hts hin hown hK hP 9 (by decide) rfl (by decide +kernel) dX9_note_1 ?_
  rw [hu]
  refine lv_bipush (v := nI 20) hx hb dX9_note_4 (by decide) ?_
  refine lv_icmp_ne (tgt := 93) hx hb dX9_note_6 (by decide) (fun c1 => ?_) (fun c1 => ?_)
  · rw [nI_eq (by omega) (by omega)] at c1
    refine lv_aload_n hx hb dX9_note_93 rfl (lv_at hl 0 rfl) ?_
    refine rM_get (v := .ref (ad 6)) hx hb hts hin hown hK hP 6 (by decide) rfl (by decide +kernel) dX9_note_94 ?_
    refine lv_aload_n hx hb dX9_note_97 rfl (lv_at hl 0 rfl) ?_
    refine rM_get (v := .int (aF S 9)) hx hb hts hin hown hK hP 9 (by decide) rfl (by decide +kernel) dX9_note_98 ?_
    rw [hu]
    refine lv_iload_n hx hb dX9_note_101 rfl (lv_at hl 1 rfl) ?_
    refine rM_st6 (i := u) hx hb hK hP hD hS (by omega) dX9_note_102 (fun H locs hP hD hS => ?_)
    have hP : va_P D vwCl (wM cy ad (mk9 (aF S) (aG S) (a1 S) (a2 S) (a3 S) (a4 S) (a5 S) (upd (a6 S) u (nI c9)) (a7 S) (a8 S) (a9 S) (a10 S) (a11 S) (a12 S) (a13 S) (a14 S) (a15 S) (a16 S) (a17 S) (a18 S) (a19 S) (a20 S)) ++ X) H := hP
    have hD : va_D (va_A (wM cy ad S ++ X) sz) (wM cy ad (mk9 (aF S) (aG S) (a1 S) (a2 S) (a3 S) (a4 S) (a5 S) (upd (a6 S) u (nI c9)) (a7 S) (a8 S) (a9 S) (a10 S) (a11 S) (a12 S) (a13 S) (a14 S) (a15 S) (a16 S) (a17 S) (a18 S) (a19 S) (a20 S)) ++ X) := hD
    refine lv_iconst (v := nI 0) hx hb dX9_note_103 (by decide) ?_
    refine lv_istore_n (lv' := [(2, .int (nI 0)), (0, .ref (ad 0)), (1, .int (nI c9))]) hx hb dX9_note_104 rfl hl (by decide) rfl (fun ls hl => ?_)
    have L105 : ∀ (n k : Nat) (q : Nat → Int32) (H : Heap) (locs : List Loc) (ls : Array Slot), k + n = 11 → va_P D vwCl (wM cy ad (mk9 (aF S) (aG S) (a1 S) (a2 S) (a3 S) (a4 S) (a5 S) (upd (a6 S) u (nI c9)) q (a8 S) (a9 S) (a10 S) (a11 S) (a12 S) (a13 S) (a14 S) (a15 S) (a16 S) (a17 S) (a18 S) (a19 S) (a20 S)) ++ X) H → va_D (va_A (wM cy ad S ++ X) sz) (wM cy ad (mk9 (aF S) (aG S) (a1 S) (a2 S) (a3 S) (a4 S) (a5 S) (upd (a6 S) u (nI c9)) q (a8 S) (a9 S) (a10 S) (a11 S) (a12 S) (a13 S) (a14 S) (a15 S) (a16 S) (a17 S) (a18 S) (a19 S) (a20 S)) ++ X) → va_S (va_A (wM cy ad S ++ X) sz) s.heap H locs → lv_has ls 3 [(2, .int (nI k)), (0, .ref (ad 0)), (1, .int (nI c9))] → (∀ (H : Heap) (locs : List Loc) (ls : Array Slot), va_P D vwCl (wM cy ad (mk9 (aF S) (aG S) (a1 S) (a2 S) (a3 S) (a4 S) (a5 S) (upd (a6 S) u (nI c9)) (lpN (fCo (a15 S) (11 * u) 0) n k q) (a8 S) (a9 S) (a10 S) (a11 S) (a12 S) (a13 S) (a14 S) (a15 S) (a16 S) (a17 S) (a18 S) (a19 S) (a20 S)) ++ X) H → va_D (va_A (wM cy ad S ++ X) sz) (wM cy ad (mk9 (aF S) (aG S) (a1 S) (a2 S) (a3 S) (a4 S) (a5 S) (upd (a6 S) u (nI c9)) (lpN (fCo (a15 S) (11 * u) 0) n k q) (a8 S) (a9 S) (a10 S) (a11 S) (a12 S) (a13 S) (a14 S) (a15 S) (a16 S) (a17 S) (a18 S) (a19 S) (a20 S)) ++ X) → va_S (va_A (wM cy ad S ++ X) sz) s.heap H locs → lv_has ls 3 [(2, .int (nI 11)), (0, .ref (ad 0)), (1, .int (nI c9))] → W p l e (headSpec wsX9_note (rm9 1 24)).room s m ([.ref (ad 0), .int (nI c9)] : List Value).toArray below meth c H locs 0 0 (MQ below (gQv D cy (wM cy ad S ++ X) sz (fun ws' => ws' = wM cy ad (jNote S u c9) ++ X)) ([.ref (ad 0), .int (nI c9)] : List Value).toArray s 0 0 (va_A (wM cy ad S ++ X) sz)) (F0 m 137 ls [])) → W p l e (headSpec wsX9_note (rm9 1 24)).room s m ([.ref (ad 0), .int (nI c9)] : List Value).toArray below meth c H locs 0 0 (MQ below (gQv D cy (wM cy ad S ++ X) sz (fun ws' => ws' = wM cy ad (jNote S u c9) ++ X)) ([.ref (ad 0), .int (nI c9)] : List Value).toArray s 0 0 (va_A (wM cy ad S ++ X) sz)) (F0 m 105 ls []) := by
      intro n
      induction n with
      | zero =>
        intro k q H locs ls hk hP hD hS hl hex
        obtain rfl : 11 = k := by omega
        refine lv_iload_n hx hb dX9_note_105 rfl (lv_at hl 0 rfl) ?_
        refine lv_bipush (v := nI 11) hx hb dX9_note_106 (by decide) ?_
        refine lv_icmp_ge (tgt := 137) hx hb dX9_note_108 (by decide) (fun c2 => ?_) (fun c2 => ?_)
        · rw [nI_leI (by omega) (by omega)] at c2
          exact hex _ _ _ hP hD hS (lv_sub hl [0, 1, 2] rfl)
        · exact absurd c2 (by rw [nI_leI (by omega) (by omega)]; omega)
      | succ n ih =>
        intro k q H locs ls hk hP hD hS hl hex
        have hk105 : k < 11 := by omega
        refine lv_iload_n hx hb dX9_note_105 rfl (lv_at hl 0 rfl) ?_
        refine lv_bipush (v := nI 11) hx hb dX9_note_106 (by decide) ?_
        refine lv_icmp_ge (tgt := 137) hx hb dX9_note_108 (by decide) (fun c3 => ?_) (fun c3 => ?_)
        · exact absurd c3 (by rw [nI_leI (by omega) (by omega)]; omega)
        · rw [nI_leI (by omega) (by omega)] at c3
          refine lv_aload_n hx hb dX9_note_111 rfl (lv_at hl 1 rfl) ?_
          refine rM_get (v := .ref (ad 7)) hx hb hts hin hown hK hP 7 (by decide) rfl (by decide +kernel) dX9_note_112 ?_
          refine lv_bipush (v := nI 11) hx hb dX9_note_115 (by decide) ?_
          refine lv_aload_n hx hb dX9_note_117 rfl (lv_at hl 1 rfl) ?_
          refine rM_get (v := .int (aF S 9)) hx hb hts hin hown hK hP 9 (by decide) rfl (by decide +kernel) dX9_note_118 ?_
          rw [hu]
          refine lv_imul hx hb dX9_note_121 ?_
          rw [pk_mul]
          refine lv_iload_n hx hb dX9_note_122 rfl (lv_at hl 0 rfl) ?_
          refine lv_iadd hx hb dX9_note_123 ?_
          rw [nI_add]
          refine lv_aload_n hx hb dX9_note_124 rfl (lv_at hl 1 rfl) ?_
          refine rM_get (v := .ref (ad 15)) hx hb hts hin hown hK hP 23 (by decide) rfl (by decide +kernel) dX9_note_125 ?_
          refine lv_iload_n hx hb dX9_note_128 rfl (lv_at hl 0 rfl) ?_
          refine rM_ld15 (i := k) hx hb hK hP (by omega) dX9_note_129 ?_
          refine W.eq (g2 := F0 m 130 ls [.int (a15 S k), .int (nI ((11 * u) + k)), .ref (ad 7)]) rfl ?_
          refine rM_st7 (i := ((11 * u) + k)) hx hb hK hP hD hS (by omega) dX9_note_130 (fun H locs hP hD hS => ?_)
          have hP : va_P D vwCl (wM cy ad (mk9 (aF S) (aG S) (a1 S) (a2 S) (a3 S) (a4 S) (a5 S) (upd (a6 S) u (nI c9)) (upd q ((11 * u) + k) (a15 S k)) (a8 S) (a9 S) (a10 S) (a11 S) (a12 S) (a13 S) (a14 S) (a15 S) (a16 S) (a17 S) (a18 S) (a19 S) (a20 S)) ++ X) H := hP
          have hD : va_D (va_A (wM cy ad S ++ X) sz) (wM cy ad (mk9 (aF S) (aG S) (a1 S) (a2 S) (a3 S) (a4 S) (a5 S) (upd (a6 S) u (nI c9)) (upd q ((11 * u) + k) (a15 S k)) (a8 S) (a9 S) (a10 S) (a11 S) (a12 S) (a13 S) (a14 S) (a15 S) (a16 S) (a17 S) (a18 S) (a19 S) (a20 S)) ++ X) := hD
          refine lv_iinc (v := nI (k + 1)) (lv' := [(2, .int (nI (k + 1))), (0, .ref (ad 0)), (1, .int (nI c9))]) hx hb dX9_note_131 hl (k := 0) rfl (nI_1 _) (by decide) rfl (fun ls hl => ?_)
          refine lv_goto (tgt := 105) hx hb dX9_note_134 (by decide) ?_
          have he : (fCo (a15 S) (11 * u) 0) k q = (upd q ((11 * u) + k) (a15 S k)) := by simp [fCo]
          rw [lpN_s (f := fCo (a15 S) (11 * u) 0), he] at hex
          exact ih ((k + 1)) (upd q ((11 * u) + k) (a15 S k)) _ _ _ (by omega) hP hD hS (lv_sub hl [0, 1, 2] rfl) hex
    refine L105 11 0 (a7 S) _ _ _ (by omega) hP hD hS (lv_sub hl [0, 1, 2] rfl) (fun H locs ls hP hD hS hl => ?_)
    refine lv_aload_n hx hb dX9_note_137 rfl (lv_at hl 1 rfl) ?_
    refine lv_iload_n hx hb dX9_note_138 rfl (lv_at hl 2 rfl) ?_
    refine lv_aload_n hx hb dX9_note_139 rfl (lv_at hl 1 rfl) ?_
    refine rM_get (v := .ref (ad 8)) hx hb hts hin hown hK hP 8 (by decide) rfl (by decide +kernel) dX9_note_140 ?_
    refine lv_bipush (v := nI 11) hx hb dX9_note_143 (by decide) ?_
    refine lv_aload_n hx hb dX9_note_145 rfl (lv_at hl 1 rfl) ?_
    refine rM_get (v := .int (aF S 9)) hx hb hts hin hown hK hP 9 (by decide) rfl (by decide +kernel) dX9_note_146 ?_
    rw [hu]
    refine lv_imul hx hb dX9_note_149 ?_
    rw [pk_mul]
    refine gCallv (ws := wM cy ad (mk9 (aF S) (aG S) (a1 S) (a2 S) (a3 S) (a4 S) (a5 S) (upd (a6 S) u (nI c9)) (lpN (fCo (a15 S) (11 * u) 0) 11 0 (a7 S)) (a8 S) (a9 S) (a10 S) (a11 S) (a12 S) (a13 S) (a14 S) (a15 S) (a16 S) (a17 S) (a18 S) (a19 S) (a20 S)) ++ X) (As := [.int (nI c9), .ref (ad 8), .int (nI (11 * u))]) (rest := []) (q0 := 0) (r0 := (RX9, TX9, 36)) hx hb hml hown hts hK hP hD hS hA hl.1 wM_0 rfl (cM_copyOut8 l D cy ad X (mk9 (aF S) (aG S) (a1 S) (a2 S) (a3 S) (a4 S) (a5 S) (upd (a6 S) u (nI c9)) (lpN (fCo (a15 S) (11 * u) 0) 11 0 (a7 S)) (a8 S) (a9 S) (a10 S) (a11 S) (a12 S) (a13 S) (a14 S) (a15 S) (a16 S) (a17 S) (a18 S) (a19 S) (a20 S)) _ (c9 := c9) (o9 := 11 * u) hc (by omega)) (cwV 3 hts gX9_note_X9_copyOut rfl rfl rfl (by decide +kernel) ⟨Nat.le_of_ble_eq_true rfl, Nat.le_of_ble_eq_true rfl⟩) rfl rfl (Nat.le_of_ble_eq_true rfl) ⟨Nat.le_of_ble_eq_true rfl, Nat.le_of_ble_eq_true rfl⟩ dX9_note_150 (fun ws4 H locs e4 hP hD hS => ?_)
    rw [show ws4 = _ from e4] at hP hD
    have hP : va_P D vwCl (wM cy ad (mk9 (aF S) (aG S) (a1 S) (a2 S) (a3 S) (a4 S) (a5 S) (upd (a6 S) u (nI c9)) (lpN (fCo (a15 S) (11 * u) 0) 11 0 (a7 S)) (lpN (fCo (a1 S) (11 * u) (11 * c9)) 11 0 (a8 S)) (a9 S) (a10 S) (a11 S) (a12 S) (a13 S) (a14 S) (a15 S) (a16 S) (a17 S) (a18 S) (a19 S) (a20 S)) ++ X) H := hP
    have hD : va_D (va_A (wM cy ad S ++ X) sz) (wM cy ad (mk9 (aF S) (aG S) (a1 S) (a2 S) (a3 S) (a4 S) (a5 S) (upd (a6 S) u (nI c9)) (lpN (fCo (a15 S) (11 * u) 0) 11 0 (a7 S)) (lpN (fCo (a1 S) (11 * u) (11 * c9)) 11 0 (a8 S)) (a9 S) (a10 S) (a11 S) (a12 S) (a13 S) (a14 S) (a15 S) (a16 S) (a17 S) (a18 S) (a19 S) (a20 S)) ++ X) := hD
    refine lv_aload_n hx hb dX9_note_153 rfl (lv_at hl 1 rfl) ?_
    refine lv_dup hx hb dX9_note_154 rfl ?_
    refine rM_get (v := .int (aF S 9)) hx hb hts hin hown hK hP 9 (by decide) rfl (by decide +kernel) dX9_note_155 ?_
    rw [hu]
    refine lv_iconst (v := nI 1) hx hb dX9_note_158 (by decide) ?_
    refine lv_iadd hx hb dX9_note_159 ?_
    rw [nI_add]
    refine rM_put9 (v := nI (u + 1)) hx hb hts hin hown hK hP hD hS (by decide +kernel) dX9_note_160 (fun H locs hP hD hS => ?_)
    have hP : va_P D vwCl (wM cy ad (mk9 (upd (aF S) 9 (nI (u + 1))) (aG S) (a1 S) (a2 S) (a3 S) (a4 S) (a5 S) (upd (a6 S) u (nI c9)) (lpN (fCo (a15 S) (11 * u) 0) 11 0 (a7 S)) (lpN (fCo (a1 S) (11 * u) (11 * c9)) 11 0 (a8 S)) (a9 S) (a10 S) (a11 S) (a12 S) (a13 S) (a14 S) (a15 S) (a16 S) (a17 S) (a18 S) (a19 S) (a20 S)) ++ X) H := hP
    have hD : va_D (va_A (wM cy ad S ++ X) sz) (wM cy ad (mk9 (upd (aF S) 9 (nI (u + 1))) (aG S) (a1 S) (a2 S) (a3 S) (a4 S) (a5 S) (upd (a6 S) u (nI c9)) (lpN (fCo (a15 S) (11 * u) 0) 11 0 (a7 S)) (lpN (fCo (a1 S) (11 * u) (11 * c9)) 11 0 (a8 S)) (a9 S) (a10 S) (a11 S) (a12 S) (a13 S) (a14 S) (a15 S) (a16 S) (a17 S) (a18 S) (a19 S) (a20 S)) ++ X) := hD
    refine lv_aload_n hx hb dX9_note_163 rfl (lv_at hl 1 rfl) ?_
    refine lv_iconst (v := nI 0) hx hb dX9_note_164 (by decide) ?_
    refine rM_put10 (v := nI 0) hx hb hts hin hown hK hP hD hS (by decide +kernel) dX9_note_165 (fun H locs hP hD hS => ?_)
    have hP : va_P D vwCl (wM cy ad (mk9 (upd (upd (aF S) 9 (nI (u + 1))) 10 (nI 0)) (aG S) (a1 S) (a2 S) (a3 S) (a4 S) (a5 S) (upd (a6 S) u (nI c9)) (lpN (fCo (a15 S) (11 * u) 0) 11 0 (a7 S)) (lpN (fCo (a1 S) (11 * u) (11 * c9)) 11 0 (a8 S)) (a9 S) (a10 S) (a11 S) (a12 S) (a13 S) (a14 S) (a15 S) (a16 S) (a17 S) (a18 S) (a19 S) (a20 S)) ++ X) H := hP
    have hD : va_D (va_A (wM cy ad S ++ X) sz) (wM cy ad (mk9 (upd (upd (aF S) 9 (nI (u + 1))) 10 (nI 0)) (aG S) (a1 S) (a2 S) (a3 S) (a4 S) (a5 S) (upd (a6 S) u (nI c9)) (lpN (fCo (a15 S) (11 * u) 0) 11 0 (a7 S)) (lpN (fCo (a1 S) (11 * u) (11 * c9)) 11 0 (a8 S)) (a9 S) (a10 S) (a11 S) (a12 S) (a13 S) (a14 S) (a15 S) (a16 S) (a17 S) (a18 S) (a19 S) (a20 S)) ++ X) := hD
    refine lv_aload_n hx hb dX9_note_168 rfl (lv_at hl 1 rfl) ?_
    refine lv_iconst (v := nI 0) hx hb dX9_note_169 (by decide) ?_
    refine rM_put18 (v := nI 0) hx hb hts hin hown hK hP hD hS (by decide) (by decide) (by decide +kernel) dX9_note_170 (fun H locs hP hD hS => ?_)
    have hP : va_P D vwCl (wM cy ad (mk9 (upd (upd (upd (aF S) 9 (nI (u + 1))) 10 (nI 0)) 18 (nI 0)) (aG S) (a1 S) (a2 S) (a3 S) (a4 S) (a5 S) (upd (a6 S) u (nI c9)) (lpN (fCo (a15 S) (11 * u) 0) 11 0 (a7 S)) (lpN (fCo (a1 S) (11 * u) (11 * c9)) 11 0 (a8 S)) (a9 S) (a10 S) (a11 S) (a12 S) (a13 S) (a14 S) (a15 S) (a16 S) (a17 S) (a18 S) (a19 S) (a20 S)) ++ X) H := hP
    have hD : va_D (va_A (wM cy ad S ++ X) sz) (wM cy ad (mk9 (upd (upd (upd (aF S) 9 (nI (u + 1))) 10 (nI 0)) 18 (nI 0)) (aG S) (a1 S) (a2 S) (a3 S) (a4 S) (a5 S) (upd (a6 S) u (nI c9)) (lpN (fCo (a15 S) (11 * u) 0) 11 0 (a7 S)) (lpN (fCo (a1 S) (11 * u) (11 * c9)) 11 0 (a8 S)) (a9 S) (a10 S) (a11 S) (a12 S) (a13 S) (a14 S) (a15 S) (a16 S) (a17 S) (a18 S) (a19 S) (a20 S)) ++ X) := hD
    exact W.vret hx hb hr (fun t ht hW => ⟨⟨_, rfl, by unfold jNote; rw [if_neg (by assumption)], by rw [ht]; exact hP, va_K.moved hW.alike hK, hD⟩, hS.F ht⟩) hS.2.2 dX9_note_173
  · rw [nI_eq (by omega) (by omega)] at c1
    refine lv_iconst (v := nI 1) hx hb dX9_note_9 (by decide) ?_
    refine lv_istore_n (lv' := [(2, .int (nI 1)), (0, .ref (ad 0)), (1, .int (nI c9))]) hx hb dX9_note_10 rfl hl (by decide) rfl (fun ls hl => ?_)
    have L11 : ∀ (n k : Nat) (q : Nat → Int32) (H : Heap) (locs : List Loc) (ls : Array Slot), k + n = 20 → 1 ≤ k → va_P D vwCl (wM cy ad (mk9 (aF S) (aG S) (a1 S) (a2 S) (a3 S) (a4 S) (a5 S) q (a7 S) (a8 S) (a9 S) (a10 S) (a11 S) (a12 S) (a13 S) (a14 S) (a15 S) (a16 S) (a17 S) (a18 S) (a19 S) (a20 S)) ++ X) H → va_D (va_A (wM cy ad S ++ X) sz) (wM cy ad (mk9 (aF S) (aG S) (a1 S) (a2 S) (a3 S) (a4 S) (a5 S) q (a7 S) (a8 S) (a9 S) (a10 S) (a11 S) (a12 S) (a13 S) (a14 S) (a15 S) (a16 S) (a17 S) (a18 S) (a19 S) (a20 S)) ++ X) → va_S (va_A (wM cy ad S ++ X) sz) s.heap H locs → lv_has ls 3 [(2, .int (nI k)), (0, .ref (ad 0)), (1, .int (nI c9))] → (∀ (H : Heap) (locs : List Loc) (ls : Array Slot), va_P D vwCl (wM cy ad (mk9 (aF S) (aG S) (a1 S) (a2 S) (a3 S) (a4 S) (a5 S) (lpN (fS1) n k q) (a7 S) (a8 S) (a9 S) (a10 S) (a11 S) (a12 S) (a13 S) (a14 S) (a15 S) (a16 S) (a17 S) (a18 S) (a19 S) (a20 S)) ++ X) H → va_D (va_A (wM cy ad S ++ X) sz) (wM cy ad (mk9 (aF S) (aG S) (a1 S) (a2 S) (a3 S) (a4 S) (a5 S) (lpN (fS1) n k q) (a7 S) (a8 S) (a9 S) (a10 S) (a11 S) (a12 S) (a13 S) (a14 S) (a15 S) (a16 S) (a17 S) (a18 S) (a19 S) (a20 S)) ++ X) → va_S (va_A (wM cy ad S ++ X) sz) s.heap H locs → lv_has ls 3 [(2, .int (nI 20)), (0, .ref (ad 0)), (1, .int (nI c9))] → W p l e (headSpec wsX9_note (rm9 1 24)).room s m ([.ref (ad 0), .int (nI c9)] : List Value).toArray below meth c H locs 0 0 (MQ below (gQv D cy (wM cy ad S ++ X) sz (fun ws' => ws' = wM cy ad (jNote S u c9) ++ X)) ([.ref (ad 0), .int (nI c9)] : List Value).toArray s 0 0 (va_A (wM cy ad S ++ X) sz)) (F0 m 37 ls [])) → W p l e (headSpec wsX9_note (rm9 1 24)).room s m ([.ref (ad 0), .int (nI c9)] : List Value).toArray below meth c H locs 0 0 (MQ below (gQv D cy (wM cy ad S ++ X) sz (fun ws' => ws' = wM cy ad (jNote S u c9) ++ X)) ([.ref (ad 0), .int (nI c9)] : List Value).toArray s 0 0 (va_A (wM cy ad S ++ X) sz)) (F0 m 11 ls []) := by
      intro n
      induction n with
      | zero =>
        intro k q H locs ls hk hlo hP hD hS hl hex
        obtain rfl : 20 = k := by omega
        refine lv_iload_n hx hb dX9_note_11 rfl (lv_at hl 0 rfl) ?_
        refine lv_bipush (v := nI 20) hx hb dX9_note_12 (by decide) ?_
        refine lv_icmp_ge (tgt := 37) hx hb dX9_note_14 (by decide) (fun c5 => ?_) (fun c5 => ?_)
        · rw [nI_leI (by omega) (by omega)] at c5
          exact hex _ _ _ hP hD hS (lv_sub hl [0, 1, 2] rfl)
        · exact absurd c5 (by rw [nI_leI (by omega) (by omega)]; omega)
      | succ n ih =>
        intro k q H locs ls hk hlo hP hD hS hl hex
        have hk11 : k < 20 := by omega
        refine lv_iload_n hx hb dX9_note_11 rfl (lv_at hl 0 rfl) ?_
        refine lv_bipush (v := nI 20) hx hb dX9_note_12 (by decide) ?_
        refine lv_icmp_ge (tgt := 37) hx hb dX9_note_14 (by decide) (fun c6 => ?_) (fun c6 => ?_)
        · exact absurd c6 (by rw [nI_leI (by omega) (by omega)]; omega)
        · rw [nI_leI (by omega) (by omega)] at c6
          refine lv_aload_n hx hb dX9_note_17 rfl (lv_at hl 1 rfl) ?_
          refine rM_get (v := .ref (ad 6)) hx hb hts hin hown hK hP 6 (by decide) rfl (by decide +kernel) dX9_note_18 ?_
          refine lv_iload_n hx hb dX9_note_21 rfl (lv_at hl 0 rfl) ?_
          refine lv_iconst (v := nI 1) hx hb dX9_note_22 (by decide) ?_
          refine lv_isub hx hb dX9_note_23 ?_
          rw [pk_sub (by omega)]
          refine lv_aload_n hx hb dX9_note_24 rfl (lv_at hl 1 rfl) ?_
          refine rM_get (v := .ref (ad 6)) hx hb hts hin hown hK hP 6 (by decide) rfl (by decide +kernel) dX9_note_25 ?_
          refine lv_iload_n hx hb dX9_note_28 rfl (lv_at hl 0 rfl) ?_
          refine rM_ld6 (i := k) hx hb hK hP (by omega) dX9_note_29 ?_
          refine W.eq (g2 := F0 m 30 ls [.int (q k), .int (nI (k - 1)), .ref (ad 6)]) rfl ?_
          refine rM_st6 (i := (k - 1)) hx hb hK hP hD hS (by omega) dX9_note_30 (fun H locs hP hD hS => ?_)
          have hP : va_P D vwCl (wM cy ad (mk9 (aF S) (aG S) (a1 S) (a2 S) (a3 S) (a4 S) (a5 S) (upd q (k - 1) (q k)) (a7 S) (a8 S) (a9 S) (a10 S) (a11 S) (a12 S) (a13 S) (a14 S) (a15 S) (a16 S) (a17 S) (a18 S) (a19 S) (a20 S)) ++ X) H := hP
          have hD : va_D (va_A (wM cy ad S ++ X) sz) (wM cy ad (mk9 (aF S) (aG S) (a1 S) (a2 S) (a3 S) (a4 S) (a5 S) (upd q (k - 1) (q k)) (a7 S) (a8 S) (a9 S) (a10 S) (a11 S) (a12 S) (a13 S) (a14 S) (a15 S) (a16 S) (a17 S) (a18 S) (a19 S) (a20 S)) ++ X) := hD
          refine lv_iinc (v := nI (k + 1)) (lv' := [(2, .int (nI (k + 1))), (0, .ref (ad 0)), (1, .int (nI c9))]) hx hb dX9_note_31 hl (k := 0) rfl (nI_1 _) (by decide) rfl (fun ls hl => ?_)
          refine lv_goto (tgt := 11) hx hb dX9_note_34 (by decide) ?_
          have he : (fS1) k q = (upd q (k - 1) (q k)) := rfl
          rw [lpN_s (f := fS1), he] at hex
          exact ih ((k + 1)) (upd q (k - 1) (q k)) _ _ _ (by omega) (by omega) hP hD hS (lv_sub hl [0, 1, 2] rfl) hex
    refine L11 19 1 (a6 S) _ _ _ (by omega) (by omega) hP hD hS (lv_sub hl [0, 1, 2] rfl) (fun H locs ls hP hD hS hl => ?_)
    refine lv_bipush (v := nI 11) hx hb dX9_note_37 (by decide) ?_
    refine lv_istore_n (lv' := [(2, .int (nI 11)), (0, .ref (ad 0)), (1, .int (nI c9))]) hx hb dX9_note_39 rfl hl (by decide) rfl (fun ls hl => ?_)
    have L40 : ∀ (n k : Nat) (q : (Nat → Int32) × (Nat → Int32)) (H : Heap) (locs : List Loc) (ls : Array Slot), k + n = 220 → 11 ≤ k → va_P D vwCl (wM cy ad (mk9 (aF S) (aG S) (a1 S) (a2 S) (a3 S) (a4 S) (a5 S) (lpN (fS1) 19 1 (a6 S)) q.1 q.2 (a9 S) (a10 S) (a11 S) (a12 S) (a13 S) (a14 S) (a15 S) (a16 S) (a17 S) (a18 S) (a19 S) (a20 S)) ++ X) H → va_D (va_A (wM cy ad S ++ X) sz) (wM cy ad (mk9 (aF S) (aG S) (a1 S) (a2 S) (a3 S) (a4 S) (a5 S) (lpN (fS1) 19 1 (a6 S)) q.1 q.2 (a9 S) (a10 S) (a11 S) (a12 S) (a13 S) (a14 S) (a15 S) (a16 S) (a17 S) (a18 S) (a19 S) (a20 S)) ++ X) → va_S (va_A (wM cy ad S ++ X) sz) s.heap H locs → lv_has ls 3 [(2, .int (nI k)), (0, .ref (ad 0)), (1, .int (nI c9))] → (∀ (H : Heap) (locs : List Loc) (ls : Array Slot), va_P D vwCl (wM cy ad (mk9 (aF S) (aG S) (a1 S) (a2 S) (a3 S) (a4 S) (a5 S) (lpN (fS1) 19 1 (a6 S)) ((lpN (fS2) n k q).1) ((lpN (fS2) n k q).2) (a9 S) (a10 S) (a11 S) (a12 S) (a13 S) (a14 S) (a15 S) (a16 S) (a17 S) (a18 S) (a19 S) (a20 S)) ++ X) H → va_D (va_A (wM cy ad S ++ X) sz) (wM cy ad (mk9 (aF S) (aG S) (a1 S) (a2 S) (a3 S) (a4 S) (a5 S) (lpN (fS1) 19 1 (a6 S)) ((lpN (fS2) n k q).1) ((lpN (fS2) n k q).2) (a9 S) (a10 S) (a11 S) (a12 S) (a13 S) (a14 S) (a15 S) (a16 S) (a17 S) (a18 S) (a19 S) (a20 S)) ++ X) → va_S (va_A (wM cy ad S ++ X) sz) s.heap H locs → lv_has ls 3 [(2, .int (nI 220)), (0, .ref (ad 0)), (1, .int (nI c9))] → W p l e (headSpec wsX9_note (rm9 1 24)).room s m ([.ref (ad 0), .int (nI c9)] : List Value).toArray below meth c H locs 0 0 (MQ below (gQv D cy (wM cy ad S ++ X) sz (fun ws' => ws' = wM cy ad (jNote S u c9) ++ X)) ([.ref (ad 0), .int (nI c9)] : List Value).toArray s 0 0 (va_A (wM cy ad S ++ X) sz)) (F0 m 83 ls [])) → W p l e (headSpec wsX9_note (rm9 1 24)).room s m ([.ref (ad 0), .int (nI c9)] : List Value).toArray below meth c H locs 0 0 (MQ below (gQv D cy (wM cy ad S ++ X) sz (fun ws' => ws' = wM cy ad (jNote S u c9) ++ X)) ([.ref (ad 0), .int (nI c9)] : List Value).toArray s 0 0 (va_A (wM cy ad S ++ X) sz)) (F0 m 40 ls []) := by
      intro n
      induction n with
      | zero =>
        intro k q H locs ls hk hlo hP hD hS hl hex
        obtain rfl : 220 = k := by omega
        refine lv_iload_n hx hb dX9_note_40 rfl (lv_at hl 0 rfl) ?_
        refine lv_sipush (v := nI 220) hx hb dX9_note_41 (by decide) ?_
        refine lv_icmp_ge (tgt := 83) hx hb dX9_note_44 (by decide) (fun c7 => ?_) (fun c7 => ?_)
        · rw [nI_leI (by omega) (by omega)] at c7
          exact hex _ _ _ hP hD hS (lv_sub hl [0, 1, 2] rfl)
        · exact absurd c7 (by rw [nI_leI (by omega) (by omega)]; omega)
      | succ n ih =>
        intro k q H locs ls hk hlo hP hD hS hl hex
        have hk40 : k < 220 := by omega
        refine lv_iload_n hx hb dX9_note_40 rfl (lv_at hl 0 rfl) ?_
        refine lv_sipush (v := nI 220) hx hb dX9_note_41 (by decide) ?_
        refine lv_icmp_ge (tgt := 83) hx hb dX9_note_44 (by decide) (fun c8 => ?_) (fun c8 => ?_)
        · exact absurd c8 (by rw [nI_leI (by omega) (by omega)]; omega)
        · rw [nI_leI (by omega) (by omega)] at c8
          refine lv_aload_n hx hb dX9_note_47 rfl (lv_at hl 1 rfl) ?_
          refine rM_get (v := .ref (ad 7)) hx hb hts hin hown hK hP 7 (by decide) rfl (by decide +kernel) dX9_note_48 ?_
          refine lv_iload_n hx hb dX9_note_51 rfl (lv_at hl 0 rfl) ?_
          refine lv_bipush (v := nI 11) hx hb dX9_note_52 (by decide) ?_
          refine lv_isub hx hb dX9_note_54 ?_
          rw [pk_sub (by omega)]
          refine lv_aload_n hx hb dX9_note_55 rfl (lv_at hl 1 rfl) ?_
          refine rM_get (v := .ref (ad 7)) hx hb hts hin hown hK hP 7 (by decide) rfl (by decide +kernel) dX9_note_56 ?_
          refine lv_iload_n hx hb dX9_note_59 rfl (lv_at hl 0 rfl) ?_
          refine rM_ld7 (i := k) hx hb hK hP (by omega) dX9_note_60 ?_
          refine W.eq (g2 := F0 m 61 ls [.int (q.1 k), .int (nI (k - 11)), .ref (ad 7)]) rfl ?_
          refine rM_st7 (i := (k - 11)) hx hb hK hP hD hS (by omega) dX9_note_61 (fun H locs hP hD hS => ?_)
          have hP : va_P D vwCl (wM cy ad (mk9 (aF S) (aG S) (a1 S) (a2 S) (a3 S) (a4 S) (a5 S) (lpN (fS1) 19 1 (a6 S)) (upd q.1 (k - 11) (q.1 k)) q.2 (a9 S) (a10 S) (a11 S) (a12 S) (a13 S) (a14 S) (a15 S) (a16 S) (a17 S) (a18 S) (a19 S) (a20 S)) ++ X) H := hP
          have hD : va_D (va_A (wM cy ad S ++ X) sz) (wM cy ad (mk9 (aF S) (aG S) (a1 S) (a2 S) (a3 S) (a4 S) (a5 S) (lpN (fS1) 19 1 (a6 S)) (upd q.1 (k - 11) (q.1 k)) q.2 (a9 S) (a10 S) (a11 S) (a12 S) (a13 S) (a14 S) (a15 S) (a16 S) (a17 S) (a18 S) (a19 S) (a20 S)) ++ X) := hD
          refine lv_aload_n hx hb dX9_note_62 rfl (lv_at hl 1 rfl) ?_
          refine rM_get (v := .ref (ad 8)) hx hb hts hin hown hK hP 8 (by decide) rfl (by decide +kernel) dX9_note_63 ?_
          refine lv_iload_n hx hb dX9_note_66 rfl (lv_at hl 0 rfl) ?_
          refine lv_bipush (v := nI 11) hx hb dX9_note_67 (by decide) ?_
          refine lv_isub hx hb dX9_note_69 ?_
          rw [pk_sub (by omega)]
          refine lv_aload_n hx hb dX9_note_70 rfl (lv_at hl 1 rfl) ?_
          refine rM_get (v := .ref (ad 8)) hx hb hts hin hown hK hP 8 (by decide) rfl (by decide +kernel) dX9_note_71 ?_
          refine lv_iload_n hx hb dX9_note_74 rfl (lv_at hl 0 rfl) ?_
          refine rM_ld8 (i := k) hx hb hK hP (by omega) dX9_note_75 ?_
          refine W.eq (g2 := F0 m 76 ls [.int (q.2 k), .int (nI (k - 11)), .ref (ad 8)]) rfl ?_
          refine rM_st8 (i := (k - 11)) hx hb hK hP hD hS (by omega) dX9_note_76 (fun H locs hP hD hS => ?_)
          have hP : va_P D vwCl (wM cy ad (mk9 (aF S) (aG S) (a1 S) (a2 S) (a3 S) (a4 S) (a5 S) (lpN (fS1) 19 1 (a6 S)) (upd q.1 (k - 11) (q.1 k)) (upd q.2 (k - 11) (q.2 k)) (a9 S) (a10 S) (a11 S) (a12 S) (a13 S) (a14 S) (a15 S) (a16 S) (a17 S) (a18 S) (a19 S) (a20 S)) ++ X) H := hP
          have hD : va_D (va_A (wM cy ad S ++ X) sz) (wM cy ad (mk9 (aF S) (aG S) (a1 S) (a2 S) (a3 S) (a4 S) (a5 S) (lpN (fS1) 19 1 (a6 S)) (upd q.1 (k - 11) (q.1 k)) (upd q.2 (k - 11) (q.2 k)) (a9 S) (a10 S) (a11 S) (a12 S) (a13 S) (a14 S) (a15 S) (a16 S) (a17 S) (a18 S) (a19 S) (a20 S)) ++ X) := hD
          refine lv_iinc (v := nI (k + 1)) (lv' := [(2, .int (nI (k + 1))), (0, .ref (ad 0)), (1, .int (nI c9))]) hx hb dX9_note_77 hl (k := 0) rfl (nI_1 _) (by decide) rfl (fun ls hl => ?_)
          refine lv_goto (tgt := 40) hx hb dX9_note_80 (by decide) ?_
          have he : (fS2) k q = (upd q.1 (k - 11) (q.1 k), upd q.2 (k - 11) (q.2 k)) := rfl
          rw [lpN_s (f := fS2), he] at hex
          exact ih ((k + 1)) (upd q.1 (k - 11) (q.1 k), upd q.2 (k - 11) (q.2 k)) _ _ _ (by omega) (by omega) hP hD hS (lv_sub hl [0, 1, 2] rfl) hex
    refine L40 209 11 (a7 S, a8 S) _ _ _ (by omega) (by omega) hP hD hS (lv_sub hl [0, 1, 2] rfl) (fun H locs ls hP hD hS hl => ?_)
    refine lv_aload_n hx hb dX9_note_83 rfl (lv_at hl 1 rfl) ?_
    refine lv_dup hx hb dX9_note_84 rfl ?_
    refine rM_get (v := .int (aF S 9)) hx hb hts hin hown hK hP 9 (by decide) rfl (by decide +kernel) dX9_note_85 ?_
    rw [hu]
    refine lv_iconst (v := nI 1) hx hb dX9_note_88 (by decide) ?_
    refine lv_isub hx hb dX9_note_89 ?_
    rw [pk_sub (by omega)]
    refine rM_put9 (v := nI (u - 1)) hx hb hts hin hown hK hP hD hS (by decide +kernel) dX9_note_90 (fun H locs hP hD hS => ?_)
    have hP : va_P D vwCl (wM cy ad (mk9 (upd (aF S) 9 (nI (u - 1))) (aG S) (a1 S) (a2 S) (a3 S) (a4 S) (a5 S) (lpN (fS1) 19 1 (a6 S)) ((lpN (fS2) 209 11 (a7 S, a8 S)).1) ((lpN (fS2) 209 11 (a7 S, a8 S)).2) (a9 S) (a10 S) (a11 S) (a12 S) (a13 S) (a14 S) (a15 S) (a16 S) (a17 S) (a18 S) (a19 S) (a20 S)) ++ X) H := hP
    have hD : va_D (va_A (wM cy ad S ++ X) sz) (wM cy ad (mk9 (upd (aF S) 9 (nI (u - 1))) (aG S) (a1 S) (a2 S) (a3 S) (a4 S) (a5 S) (lpN (fS1) 19 1 (a6 S)) ((lpN (fS2) 209 11 (a7 S, a8 S)).1) ((lpN (fS2) 209 11 (a7 S, a8 S)).2) (a9 S) (a10 S) (a11 S) (a12 S) (a13 S) (a14 S) (a15 S) (a16 S) (a17 S) (a18 S) (a19 S) (a20 S)) ++ X) := hD
    refine lv_aload_n hx hb dX9_note_93 rfl (lv_at hl 1 rfl) ?_
    refine rM_get (v := .ref (ad 6)) hx hb hts hin hown hK hP 6 (by decide) rfl (by decide +kernel) dX9_note_94 ?_
    refine lv_aload_n hx hb dX9_note_97 rfl (lv_at hl 1 rfl) ?_
    refine rM_get (v := .int (nI (u - 1))) hx hb hts hin hown hK hP 9 (by decide) rfl (by decide +kernel) dX9_note_98 ?_
    refine lv_iload_n hx hb dX9_note_101 rfl (lv_at hl 2 rfl) ?_
    refine rM_st6 (i := (u - 1)) hx hb hK hP hD hS (by omega) dX9_note_102 (fun H locs hP hD hS => ?_)
    have hP : va_P D vwCl (wM cy ad (mk9 (upd (aF S) 9 (nI (u - 1))) (aG S) (a1 S) (a2 S) (a3 S) (a4 S) (a5 S) (upd (lpN (fS1) 19 1 (a6 S)) (u - 1) (nI c9)) ((lpN (fS2) 209 11 (a7 S, a8 S)).1) ((lpN (fS2) 209 11 (a7 S, a8 S)).2) (a9 S) (a10 S) (a11 S) (a12 S) (a13 S) (a14 S) (a15 S) (a16 S) (a17 S) (a18 S) (a19 S) (a20 S)) ++ X) H := hP
    have hD : va_D (va_A (wM cy ad S ++ X) sz) (wM cy ad (mk9 (upd (aF S) 9 (nI (u - 1))) (aG S) (a1 S) (a2 S) (a3 S) (a4 S) (a5 S) (upd (lpN (fS1) 19 1 (a6 S)) (u - 1) (nI c9)) ((lpN (fS2) 209 11 (a7 S, a8 S)).1) ((lpN (fS2) 209 11 (a7 S, a8 S)).2) (a9 S) (a10 S) (a11 S) (a12 S) (a13 S) (a14 S) (a15 S) (a16 S) (a17 S) (a18 S) (a19 S) (a20 S)) ++ X) := hD
    refine lv_iconst (v := nI 0) hx hb dX9_note_103 (by decide) ?_
    refine lv_istore_n (lv' := [(2, .int (nI 0)), (0, .ref (ad 0)), (1, .int (nI c9))]) hx hb dX9_note_104 rfl hl (by decide) rfl (fun ls hl => ?_)
    have L105 : ∀ (n k : Nat) (q : Nat → Int32) (H : Heap) (locs : List Loc) (ls : Array Slot), k + n = 11 → va_P D vwCl (wM cy ad (mk9 (upd (aF S) 9 (nI (u - 1))) (aG S) (a1 S) (a2 S) (a3 S) (a4 S) (a5 S) (upd (lpN (fS1) 19 1 (a6 S)) (u - 1) (nI c9)) q ((lpN (fS2) 209 11 (a7 S, a8 S)).2) (a9 S) (a10 S) (a11 S) (a12 S) (a13 S) (a14 S) (a15 S) (a16 S) (a17 S) (a18 S) (a19 S) (a20 S)) ++ X) H → va_D (va_A (wM cy ad S ++ X) sz) (wM cy ad (mk9 (upd (aF S) 9 (nI (u - 1))) (aG S) (a1 S) (a2 S) (a3 S) (a4 S) (a5 S) (upd (lpN (fS1) 19 1 (a6 S)) (u - 1) (nI c9)) q ((lpN (fS2) 209 11 (a7 S, a8 S)).2) (a9 S) (a10 S) (a11 S) (a12 S) (a13 S) (a14 S) (a15 S) (a16 S) (a17 S) (a18 S) (a19 S) (a20 S)) ++ X) → va_S (va_A (wM cy ad S ++ X) sz) s.heap H locs → lv_has ls 3 [(2, .int (nI k)), (0, .ref (ad 0)), (1, .int (nI c9))] → (∀ (H : Heap) (locs : List Loc) (ls : Array Slot), va_P D vwCl (wM cy ad (mk9 (upd (aF S) 9 (nI (u - 1))) (aG S) (a1 S) (a2 S) (a3 S) (a4 S) (a5 S) (upd (lpN (fS1) 19 1 (a6 S)) (u - 1) (nI c9)) (lpN (fCo (a15 S) (11 * (u - 1)) 0) n k q) ((lpN (fS2) 209 11 (a7 S, a8 S)).2) (a9 S) (a10 S) (a11 S) (a12 S) (a13 S) (a14 S) (a15 S) (a16 S) (a17 S) (a18 S) (a19 S) (a20 S)) ++ X) H → va_D (va_A (wM cy ad S ++ X) sz) (wM cy ad (mk9 (upd (aF S) 9 (nI (u - 1))) (aG S) (a1 S) (a2 S) (a3 S) (a4 S) (a5 S) (upd (lpN (fS1) 19 1 (a6 S)) (u - 1) (nI c9)) (lpN (fCo (a15 S) (11 * (u - 1)) 0) n k q) ((lpN (fS2) 209 11 (a7 S, a8 S)).2) (a9 S) (a10 S) (a11 S) (a12 S) (a13 S) (a14 S) (a15 S) (a16 S) (a17 S) (a18 S) (a19 S) (a20 S)) ++ X) → va_S (va_A (wM cy ad S ++ X) sz) s.heap H locs → lv_has ls 3 [(2, .int (nI 11)), (0, .ref (ad 0)), (1, .int (nI c9))] → W p l e (headSpec wsX9_note (rm9 1 24)).room s m ([.ref (ad 0), .int (nI c9)] : List Value).toArray below meth c H locs 0 0 (MQ below (gQv D cy (wM cy ad S ++ X) sz (fun ws' => ws' = wM cy ad (jNote S u c9) ++ X)) ([.ref (ad 0), .int (nI c9)] : List Value).toArray s 0 0 (va_A (wM cy ad S ++ X) sz)) (F0 m 137 ls [])) → W p l e (headSpec wsX9_note (rm9 1 24)).room s m ([.ref (ad 0), .int (nI c9)] : List Value).toArray below meth c H locs 0 0 (MQ below (gQv D cy (wM cy ad S ++ X) sz (fun ws' => ws' = wM cy ad (jNote S u c9) ++ X)) ([.ref (ad 0), .int (nI c9)] : List Value).toArray s 0 0 (va_A (wM cy ad S ++ X) sz)) (F0 m 105 ls []) := by
      intro n
      induction n with
      | zero =>
        intro k q H locs ls hk hP hD hS hl hex
        obtain rfl : 11 = k := by omega
        refine lv_iload_n hx hb dX9_note_105 rfl (lv_at hl 0 rfl) ?_
        refine lv_bipush (v := nI 11) hx hb dX9_note_106 (by decide) ?_
        refine lv_icmp_ge (tgt := 137) hx hb dX9_note_108 (by decide) (fun c9 => ?_) (fun c9 => ?_)
        · rw [nI_leI (by omega) (by omega)] at c9
          exact hex _ _ _ hP hD hS (lv_sub hl [0, 1, 2] rfl)
        · exact absurd c9 (by rw [nI_leI (by omega) (by omega)]; omega)
      | succ n ih =>
        intro k q H locs ls hk hP hD hS hl hex
        have hk105 : k < 11 := by omega
        refine lv_iload_n hx hb dX9_note_105 rfl (lv_at hl 0 rfl) ?_
        refine lv_bipush (v := nI 11) hx hb dX9_note_106 (by decide) ?_
        refine lv_icmp_ge (tgt := 137) hx hb dX9_note_108 (by decide) (fun c10 => ?_) (fun c10 => ?_)
        · exact absurd c10 (by rw [nI_leI (by omega) (by omega)]; omega)
        · rw [nI_leI (by omega) (by omega)] at c10
          refine lv_aload_n hx hb dX9_note_111 rfl (lv_at hl 1 rfl) ?_
          refine rM_get (v := .ref (ad 7)) hx hb hts hin hown hK hP 7 (by decide) rfl (by decide +kernel) dX9_note_112 ?_
          refine lv_bipush (v := nI 11) hx hb dX9_note_115 (by decide) ?_
          refine lv_aload_n hx hb dX9_note_117 rfl (lv_at hl 1 rfl) ?_
          refine rM_get (v := .int (nI (u - 1))) hx hb hts hin hown hK hP 9 (by decide) rfl (by decide +kernel) dX9_note_118 ?_
          refine lv_imul hx hb dX9_note_121 ?_
          rw [pk_mul]
          refine lv_iload_n hx hb dX9_note_122 rfl (lv_at hl 0 rfl) ?_
          refine lv_iadd hx hb dX9_note_123 ?_
          rw [nI_add]
          refine lv_aload_n hx hb dX9_note_124 rfl (lv_at hl 1 rfl) ?_
          refine rM_get (v := .ref (ad 15)) hx hb hts hin hown hK hP 23 (by decide) rfl (by decide +kernel) dX9_note_125 ?_
          refine lv_iload_n hx hb dX9_note_128 rfl (lv_at hl 0 rfl) ?_
          refine rM_ld15 (i := k) hx hb hK hP (by omega) dX9_note_129 ?_
          refine W.eq (g2 := F0 m 130 ls [.int (a15 S k), .int (nI ((11 * (u - 1)) + k)), .ref (ad 7)]) rfl ?_
          refine rM_st7 (i := ((11 * (u - 1)) + k)) hx hb hK hP hD hS (by omega) dX9_note_130 (fun H locs hP hD hS => ?_)
          have hP : va_P D vwCl (wM cy ad (mk9 (upd (aF S) 9 (nI (u - 1))) (aG S) (a1 S) (a2 S) (a3 S) (a4 S) (a5 S) (upd (lpN (fS1) 19 1 (a6 S)) (u - 1) (nI c9)) (upd q ((11 * (u - 1)) + k) (a15 S k)) ((lpN (fS2) 209 11 (a7 S, a8 S)).2) (a9 S) (a10 S) (a11 S) (a12 S) (a13 S) (a14 S) (a15 S) (a16 S) (a17 S) (a18 S) (a19 S) (a20 S)) ++ X) H := hP
          have hD : va_D (va_A (wM cy ad S ++ X) sz) (wM cy ad (mk9 (upd (aF S) 9 (nI (u - 1))) (aG S) (a1 S) (a2 S) (a3 S) (a4 S) (a5 S) (upd (lpN (fS1) 19 1 (a6 S)) (u - 1) (nI c9)) (upd q ((11 * (u - 1)) + k) (a15 S k)) ((lpN (fS2) 209 11 (a7 S, a8 S)).2) (a9 S) (a10 S) (a11 S) (a12 S) (a13 S) (a14 S) (a15 S) (a16 S) (a17 S) (a18 S) (a19 S) (a20 S)) ++ X) := hD
          refine lv_iinc (v := nI (k + 1)) (lv' := [(2, .int (nI (k + 1))), (0, .ref (ad 0)), (1, .int (nI c9))]) hx hb dX9_note_131 hl (k := 0) rfl (nI_1 _) (by decide) rfl (fun ls hl => ?_)
          refine lv_goto (tgt := 105) hx hb dX9_note_134 (by decide) ?_
          have he : (fCo (a15 S) (11 * (u - 1)) 0) k q = (upd q ((11 * (u - 1)) + k) (a15 S k)) := by simp [fCo]
          rw [lpN_s (f := fCo (a15 S) (11 * (u - 1)) 0), he] at hex
          exact ih ((k + 1)) (upd q ((11 * (u - 1)) + k) (a15 S k)) _ _ _ (by omega) hP hD hS (lv_sub hl [0, 1, 2] rfl) hex
    refine L105 11 0 ((lpN (fS2) 209 11 (a7 S, a8 S)).1) _ _ _ (by omega) hP hD hS (lv_sub hl [0, 1, 2] rfl) (fun H locs ls hP hD hS hl => ?_)
    refine lv_aload_n hx hb dX9_note_137 rfl (lv_at hl 1 rfl) ?_
    refine lv_iload_n hx hb dX9_note_138 rfl (lv_at hl 2 rfl) ?_
    refine lv_aload_n hx hb dX9_note_139 rfl (lv_at hl 1 rfl) ?_
    refine rM_get (v := .ref (ad 8)) hx hb hts hin hown hK hP 8 (by decide) rfl (by decide +kernel) dX9_note_140 ?_
    refine lv_bipush (v := nI 11) hx hb dX9_note_143 (by decide) ?_
    refine lv_aload_n hx hb dX9_note_145 rfl (lv_at hl 1 rfl) ?_
    refine rM_get (v := .int (nI (u - 1))) hx hb hts hin hown hK hP 9 (by decide) rfl (by decide +kernel) dX9_note_146 ?_
    refine lv_imul hx hb dX9_note_149 ?_
    rw [pk_mul]
    refine gCallv (ws := wM cy ad (mk9 (upd (aF S) 9 (nI (u - 1))) (aG S) (a1 S) (a2 S) (a3 S) (a4 S) (a5 S) (upd (lpN (fS1) 19 1 (a6 S)) (u - 1) (nI c9)) (lpN (fCo (a15 S) (11 * (u - 1)) 0) 11 0 ((lpN (fS2) 209 11 (a7 S, a8 S)).1)) ((lpN (fS2) 209 11 (a7 S, a8 S)).2) (a9 S) (a10 S) (a11 S) (a12 S) (a13 S) (a14 S) (a15 S) (a16 S) (a17 S) (a18 S) (a19 S) (a20 S)) ++ X) (As := [.int (nI c9), .ref (ad 8), .int (nI (11 * (u - 1)))]) (rest := []) (q0 := 0) (r0 := (RX9, TX9, 36)) hx hb hml hown hts hK hP hD hS hA hl.1 wM_0 rfl (cM_copyOut8 l D cy ad X (mk9 (upd (aF S) 9 (nI (u - 1))) (aG S) (a1 S) (a2 S) (a3 S) (a4 S) (a5 S) (upd (lpN (fS1) 19 1 (a6 S)) (u - 1) (nI c9)) (lpN (fCo (a15 S) (11 * (u - 1)) 0) 11 0 ((lpN (fS2) 209 11 (a7 S, a8 S)).1)) ((lpN (fS2) 209 11 (a7 S, a8 S)).2) (a9 S) (a10 S) (a11 S) (a12 S) (a13 S) (a14 S) (a15 S) (a16 S) (a17 S) (a18 S) (a19 S) (a20 S)) _ (c9 := c9) (o9 := 11 * (u - 1)) hc (by omega)) (cwV 3 hts gX9_note_X9_copyOut rfl rfl rfl (by decide +kernel) ⟨Nat.le_of_ble_eq_true rfl, Nat.le_of_ble_eq_true rfl⟩) rfl rfl (Nat.le_of_ble_eq_true rfl) ⟨Nat.le_of_ble_eq_true rfl, Nat.le_of_ble_eq_true rfl⟩ dX9_note_150 (fun ws11 H locs e11 hP hD hS => ?_)
    rw [show ws11 = _ from e11] at hP hD
    have hP : va_P D vwCl (wM cy ad (mk9 (upd (aF S) 9 (nI (u - 1))) (aG S) (a1 S) (a2 S) (a3 S) (a4 S) (a5 S) (upd (lpN (fS1) 19 1 (a6 S)) (u - 1) (nI c9)) (lpN (fCo (a15 S) (11 * (u - 1)) 0) 11 0 ((lpN (fS2) 209 11 (a7 S, a8 S)).1)) (lpN (fCo (a1 S) (11 * (u - 1)) (11 * c9)) 11 0 ((lpN (fS2) 209 11 (a7 S, a8 S)).2)) (a9 S) (a10 S) (a11 S) (a12 S) (a13 S) (a14 S) (a15 S) (a16 S) (a17 S) (a18 S) (a19 S) (a20 S)) ++ X) H := hP
    have hD : va_D (va_A (wM cy ad S ++ X) sz) (wM cy ad (mk9 (upd (aF S) 9 (nI (u - 1))) (aG S) (a1 S) (a2 S) (a3 S) (a4 S) (a5 S) (upd (lpN (fS1) 19 1 (a6 S)) (u - 1) (nI c9)) (lpN (fCo (a15 S) (11 * (u - 1)) 0) 11 0 ((lpN (fS2) 209 11 (a7 S, a8 S)).1)) (lpN (fCo (a1 S) (11 * (u - 1)) (11 * c9)) 11 0 ((lpN (fS2) 209 11 (a7 S, a8 S)).2)) (a9 S) (a10 S) (a11 S) (a12 S) (a13 S) (a14 S) (a15 S) (a16 S) (a17 S) (a18 S) (a19 S) (a20 S)) ++ X) := hD
    refine lv_aload_n hx hb dX9_note_153 rfl (lv_at hl 1 rfl) ?_
    refine lv_dup hx hb dX9_note_154 rfl ?_
    refine rM_get (v := .int (nI (u - 1))) hx hb hts hin hown hK hP 9 (by decide) rfl (by decide +kernel) dX9_note_155 ?_
    refine lv_iconst (v := nI 1) hx hb dX9_note_158 (by decide) ?_
    refine lv_iadd hx hb dX9_note_159 ?_
    rw [nI_add]
    refine rM_put9 (v := nI ((u - 1) + 1)) hx hb hts hin hown hK hP hD hS (by decide +kernel) dX9_note_160 (fun H locs hP hD hS => ?_)
    have hF9 : upd (upd (aF S) 9 (nI (u - 1))) 9 (nI ((u - 1) + 1)) = upd (aF S) 9 (nI ((u - 1) + 1)) := by funext j9; simp only [upd]; repeat (split <;> try simp_all)
    rw [hF9] at hP hD
    have hP : va_P D vwCl (wM cy ad (mk9 (upd (aF S) 9 (nI ((u - 1) + 1))) (aG S) (a1 S) (a2 S) (a3 S) (a4 S) (a5 S) (upd (lpN (fS1) 19 1 (a6 S)) (u - 1) (nI c9)) (lpN (fCo (a15 S) (11 * (u - 1)) 0) 11 0 ((lpN (fS2) 209 11 (a7 S, a8 S)).1)) (lpN (fCo (a1 S) (11 * (u - 1)) (11 * c9)) 11 0 ((lpN (fS2) 209 11 (a7 S, a8 S)).2)) (a9 S) (a10 S) (a11 S) (a12 S) (a13 S) (a14 S) (a15 S) (a16 S) (a17 S) (a18 S) (a19 S) (a20 S)) ++ X) H := hP
    have hD : va_D (va_A (wM cy ad S ++ X) sz) (wM cy ad (mk9 (upd (aF S) 9 (nI ((u - 1) + 1))) (aG S) (a1 S) (a2 S) (a3 S) (a4 S) (a5 S) (upd (lpN (fS1) 19 1 (a6 S)) (u - 1) (nI c9)) (lpN (fCo (a15 S) (11 * (u - 1)) 0) 11 0 ((lpN (fS2) 209 11 (a7 S, a8 S)).1)) (lpN (fCo (a1 S) (11 * (u - 1)) (11 * c9)) 11 0 ((lpN (fS2) 209 11 (a7 S, a8 S)).2)) (a9 S) (a10 S) (a11 S) (a12 S) (a13 S) (a14 S) (a15 S) (a16 S) (a17 S) (a18 S) (a19 S) (a20 S)) ++ X) := hD
    refine lv_aload_n hx hb dX9_note_163 rfl (lv_at hl 1 rfl) ?_
    refine lv_iconst (v := nI 0) hx hb dX9_note_164 (by decide) ?_
    refine rM_put10 (v := nI 0) hx hb hts hin hown hK hP hD hS (by decide +kernel) dX9_note_165 (fun H locs hP hD hS => ?_)
    have hP : va_P D vwCl (wM cy ad (mk9 (upd (upd (aF S) 9 (nI ((u - 1) + 1))) 10 (nI 0)) (aG S) (a1 S) (a2 S) (a3 S) (a4 S) (a5 S) (upd (lpN (fS1) 19 1 (a6 S)) (u - 1) (nI c9)) (lpN (fCo (a15 S) (11 * (u - 1)) 0) 11 0 ((lpN (fS2) 209 11 (a7 S, a8 S)).1)) (lpN (fCo (a1 S) (11 * (u - 1)) (11 * c9)) 11 0 ((lpN (fS2) 209 11 (a7 S, a8 S)).2)) (a9 S) (a10 S) (a11 S) (a12 S) (a13 S) (a14 S) (a15 S) (a16 S) (a17 S) (a18 S) (a19 S) (a20 S)) ++ X) H := hP
    have hD : va_D (va_A (wM cy ad S ++ X) sz) (wM cy ad (mk9 (upd (upd (aF S) 9 (nI ((u - 1) + 1))) 10 (nI 0)) (aG S) (a1 S) (a2 S) (a3 S) (a4 S) (a5 S) (upd (lpN (fS1) 19 1 (a6 S)) (u - 1) (nI c9)) (lpN (fCo (a15 S) (11 * (u - 1)) 0) 11 0 ((lpN (fS2) 209 11 (a7 S, a8 S)).1)) (lpN (fCo (a1 S) (11 * (u - 1)) (11 * c9)) 11 0 ((lpN (fS2) 209 11 (a7 S, a8 S)).2)) (a9 S) (a10 S) (a11 S) (a12 S) (a13 S) (a14 S) (a15 S) (a16 S) (a17 S) (a18 S) (a19 S) (a20 S)) ++ X) := hD
    refine lv_aload_n hx hb dX9_note_168 rfl (lv_at hl 1 rfl) ?_
    refine lv_iconst (v := nI 0) hx hb dX9_note_169 (by decide) ?_
    refine rM_put18 (v := nI 0) hx hb hts hin hown hK hP hD hS (by decide) (by decide) (by decide +kernel) dX9_note_170 (fun H locs hP hD hS => ?_)
    have hP : va_P D vwCl (wM cy ad (mk9 (upd (upd (upd (aF S) 9 (nI ((u - 1) + 1))) 10 (nI 0)) 18 (nI 0)) (aG S) (a1 S) (a2 S) (a3 S) (a4 S) (a5 S) (upd (lpN (fS1) 19 1 (a6 S)) (u - 1) (nI c9)) (lpN (fCo (a15 S) (11 * (u - 1)) 0) 11 0 ((lpN (fS2) 209 11 (a7 S, a8 S)).1)) (lpN (fCo (a1 S) (11 * (u - 1)) (11 * c9)) 11 0 ((lpN (fS2) 209 11 (a7 S, a8 S)).2)) (a9 S) (a10 S) (a11 S) (a12 S) (a13 S) (a14 S) (a15 S) (a16 S) (a17 S) (a18 S) (a19 S) (a20 S)) ++ X) H := hP
    have hD : va_D (va_A (wM cy ad S ++ X) sz) (wM cy ad (mk9 (upd (upd (upd (aF S) 9 (nI ((u - 1) + 1))) 10 (nI 0)) 18 (nI 0)) (aG S) (a1 S) (a2 S) (a3 S) (a4 S) (a5 S) (upd (lpN (fS1) 19 1 (a6 S)) (u - 1) (nI c9)) (lpN (fCo (a15 S) (11 * (u - 1)) 0) 11 0 ((lpN (fS2) 209 11 (a7 S, a8 S)).1)) (lpN (fCo (a1 S) (11 * (u - 1)) (11 * c9)) 11 0 ((lpN (fS2) 209 11 (a7 S, a8 S)).2)) (a9 S) (a10 S) (a11 S) (a12 S) (a13 S) (a14 S) (a15 S) (a16 S) (a17 S) (a18 S) (a19 S) (a20 S)) ++ X) := hD
    exact W.vret hx hb hr (fun t ht hW => ⟨⟨_, rfl, by unfold jNote; rw [if_pos (by assumption)], by rw [ht]; exact hP, va_K.moved hW.alike hK, hD⟩, hS.F ht⟩) hS.2.2 dX9_note_173
