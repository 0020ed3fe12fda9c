set_option maxHeartbeats 4000000 in
set_option maxRecDepth 100000 in
theorem cD_exchange (l : Launch) (D : va_G) (cy : Nat → ClassId) (ad : Nat → Nat) (X : va_W) (S : DS) (sz : Nat) {a c0 : Nat} (ha : a < 27) (hc0 : c0 < 6) (d : Int32) : Met l yX3_exchange wsX3_exchange (rm9 1 30) (dPc D cy ad X S sz [.ref (ad 0), .int (nI a), .int (nI c0), .int d]) (dQv D cy ad X S sz (fun S' => S' = kEx S a c0 d)) 0 0 (dA cy ad X S sz) := by
  refine dHead (cc := cX3_exchange) (maxL := 8) (ret := none) (by decide) rfl (Nat.le_of_ble_eq_true rfl) ?_
  intro p e s m below meth c ls hx hb hr hlocks hml hown hts hsz hP hK hD hS hA hl
  have hin : ∀ w ∈ u_ws RX3 TX3 12, w ∈ wsX3_exchange := by decide +kernel
  have hown : s.vm.findClass RX3 = some m.cls := hown
  have hl : lv_has ls 8 [(0, .ref (ad 0)), (1, .int (nI a)), (2, .int (nI c0)), (3, .int d)] := hl
  refine lv_iload_n hx hb dX3_exchange_0 rfl (lv_at hl 1 rfl) ?_
  refine lv_if_lt (tgt := 20) hx hb dX3_exchange_1 (by decide) (fun c1 => ?_) (fun c1 => ?_)
  · exact absurd c1 (nI_pos (by omega))
  · skip
    refine lv_iload_n hx hb dX3_exchange_4 rfl (lv_at hl 1 rfl) ?_
    refine lv_bipush (v := nI 27) hx hb dX3_exchange_5 (by decide) ?_
    refine lv_icmp_ge (tgt := 20) hx hb dX3_exchange_7 (by decide) (fun c2 => ?_) (fun c2 => ?_)
    · exact absurd c2 (by rw [nI_leI (by omega) (by omega)]; omega)
    · rw [nI_leI (by omega) (by omega)] at c2
      refine lv_iload_n hx hb dX3_exchange_10 rfl (lv_at hl 2 rfl) ?_
      refine lv_if_lt (tgt := 20) hx hb dX3_exchange_11 (by decide) (fun c3 => ?_) (fun c3 => ?_)
      · exact absurd c3 (nI_pos (by omega))
      · skip
        refine lv_iload_n hx hb dX3_exchange_14 rfl (lv_at hl 2 rfl) ?_
        refine lv_bipush (v := nI 6) hx hb dX3_exchange_15 (by decide) ?_
        refine lv_icmp_lt (tgt := 21) hx hb dX3_exchange_17 (by decide) (fun c4 => ?_) (fun c4 => ?_)
        · rw [nI_ltI (by omega) (by omega)] at c4
          refine lv_aload_n hx hb dX3_exchange_21 rfl (lv_at hl 0 rfl) ?_
          refine rD_get (v := .ref (ad 1)) hx hb hts hin hown hK hP 0 (by decide) rfl (by decide +kernel) dX3_exchange_22 ?_
          refine lv_iload_n hx hb dX3_exchange_25 rfl (lv_at hl 1 rfl) ?_
          refine rD_row (i := a) hx hb hK hP (by omega) dX3_exchange_26 ?_
          refine lv_astore (lv' := [(4, .ref (ad (11 + a))), (0, .ref (ad 0)), (1, .int (nI a)), (2, .int (nI c0)), (3, .int d)]) hx hb dX3_exchange_27 hl (by decide) rfl (fun ls hl => ?_)
          refine lv_aload hx hb dX3_exchange_29 (lv_at hl 0 rfl) ?_
          refine lv_iload_n hx hb dX3_exchange_31 rfl (lv_at hl 3 rfl) ?_
          refine rD_lld (n := a) (i := c0) hx hb hK hP (by omega) (by omega) dX3_exchange_32 ?_
          refine va_mabs_long hx hb (hml.trans hl.1.symm) (own := RX3) (index := 130) hown (hts _ (List.mem_of_elem_eq_true (by decide +kernel))) (hts _ (List.mem_of_elem_eq_true (by decide +kernel))) (hts _ (List.mem_of_elem_eq_true (by decide +kernel))) (hts _ (List.mem_of_elem_eq_true (by decide +kernel))) (Nat.le_of_ble_eq_true rfl) (Nat.le_of_ble_eq_true rfl) (Nat.zero_le _) (Nat.zero_le _) dX3_exchange_33 ?_
          refine W.eq (g2 := F0 m 36 ls [.long (absL (dRo S a c0))]) rfl ?_
          refine lv_lstore (lv' := [(5, .long (absL (dRo S a c0))), (4, .ref (ad (11 + a))), (0, .ref (ad 0)), (1, .int (nI a)), (2, .int (nI c0)), (3, .int d)]) hx hb dX3_exchange_36 hl (by decide) rfl (fun ls hl => ?_)
          refine lv_lload hx hb dX3_exchange_38 (lv_at hl 0 rfl) ?_
          refine lv_lconst (v := 0) hx hb dX3_exchange_40 (by decide) ?_
          refine W.lcmp hx hb dX3_exchange_41 ?_
          refine lv_if_ne (tgt := 46) hx hb dX3_exchange_42 (by decide) (fun c5 => ?_) (fun c5 => ?_)
          · skip
            refine lv_iconst (v := nI 0) hx hb dX3_exchange_46 (by decide) ?_
            refine lv_istore (lv' := [(7, .int (nI 0)), (5, .long (absL (dRo S a c0))), (4, .ref (ad (11 + a))), (0, .ref (ad 0)), (1, .int (nI a)), (2, .int (nI c0)), (3, .int d)]) hx hb dX3_exchange_47 hl (by decide) rfl (fun ls hl => ?_)
            have L49 : ∀ (n k : Nat) (U : DS) (H : Heap) (locs : List Loc) (ls : Array Slot), k + n = 27 → va_P D vwCl (wD cy ad U ++ X) H → va_D (dA cy ad X S sz) (wD cy ad U ++ X) → va_S (dA cy ad X S sz) s.heap H locs → lv_has ls 8 [(7, .int (nI k)), (0, .ref (ad 0)), (1, .int (nI a)), (2, .int (nI c0)), (3, .int d), (4, .ref (ad (11 + a))), (5, .long (absL (dRo S a c0)))] → (∀ (H : Heap) (locs : List Loc) (ls : Array Slot), va_P D vwCl (wD cy ad (lpN (fEx a c0) n k U) ++ X) H → va_D (dA cy ad X S sz) (wD cy ad (lpN (fEx a c0) n k U) ++ X) → va_S (dA cy ad X S sz) s.heap H locs → lv_has ls 8 [(7, .int (nI 27)), (0, .ref (ad 0)), (1, .int (nI a)), (2, .int (nI c0)), (3, .int d), (4, .ref (ad (11 + a))), (5, .long (absL (dRo S a c0)))] → W p l e (headSpec wsX3_exchange (rm9 1 30)).room s m ([.ref (ad 0), .int (nI a), .int (nI c0), .int d] : List Value).toArray below meth c H locs 0 0 (MQ below (dQv D cy ad X S sz (fun S' => S' = kEx S a c0 d)) ([.ref (ad 0), .int (nI a), .int (nI c0), .int d] : List Value).toArray s 0 0 (dA cy ad X S sz)) (F0 m 92 ls [])) → W p l e (headSpec wsX3_exchange (rm9 1 30)).room s m ([.ref (ad 0), .int (nI a), .int (nI c0), .int d] : List Value).toArray below meth c H locs 0 0 (MQ below (dQv D cy ad X S sz (fun S' => S' = kEx S a c0 d)) ([.ref (ad 0), .int (nI a), .int (nI c0), .int d] : List Value).toArray s 0 0 (dA cy ad X S sz)) (F0 m 49 ls []) := by
              intro n
              induction n with
              | zero =>
                intro k U H locs ls hk hP hD hS hl hex
                obtain rfl : k = 27 := by omega
                refine lv_iload hx hb dX3_exchange_49 (lv_at hl 0 rfl) ?_
                refine lv_bipush (v := nI 27) hx hb dX3_exchange_51 (by decide) ?_
                refine lv_icmp_ge (tgt := 92) hx hb dX3_exchange_53 (by decide) (fun c6 => ?_) (fun c6 => ?_)
                · rw [nI_leI (by omega) (by omega)] at c6
                  exact hex _ _ _ hP hD hS (lv_sub hl [0, 1, 2, 3, 4, 5, 6] rfl)
                · exact absurd c6 (by rw [nI_leI (by omega) (by omega)]; omega)
              | succ n ih =>
                intro k U H locs ls hk hP hD hS hl hex
                have hk49 : k < 27 := by omega
                refine lv_iload hx hb dX3_exchange_49 (lv_at hl 0 rfl) ?_
                refine lv_bipush (v := nI 27) hx hb dX3_exchange_51 (by decide) ?_
                refine lv_icmp_ge (tgt := 92) hx hb dX3_exchange_53 (by decide) (fun c7 => ?_) (fun c7 => ?_)
                · exact absurd c7 (by rw [nI_leI (by omega) (by omega)]; omega)
                · rw [nI_leI (by omega) (by omega)] at c7
                  refine lv_aload_n hx hb dX3_exchange_56 rfl (lv_at hl 1 rfl) ?_
                  refine rD_get (v := .ref (ad 2)) hx hb hts hin hown hK hP 2 (by decide) rfl (by decide +kernel) dX3_exchange_57 ?_
                  refine lv_iload hx hb dX3_exchange_60 (lv_at hl 0 rfl) ?_
                  refine rD_zld (i := k) hx hb hK hP (by omega) dX3_exchange_62 ?_
                  refine lv_if_eq (tgt := 86) hx hb dX3_exchange_63 (by decide) (fun c8 => ?_) (fun c8 => ?_)
                  · skip
                    refine lv_iinc (v := nI (k + 1)) (lv' := [(7, .int (nI (k + 1))), (0, .ref (ad 0)), (1, .int (nI a)), (2, .int (nI c0)), (3, .int d), (4, .ref (ad (11 + a))), (5, .long (absL (dRo S a c0)))]) hx hb dX3_exchange_86 hl (k := 0) rfl (nI_1 _) (by decide) rfl (fun ls hl => ?_)
                    refine lv_goto (tgt := 49) hx hb dX3_exchange_89 (by decide) ?_
                    have he : (fEx a c0) k U = U := by simp [fEx, c1, c3, c5, c8, c2, c4, c7]
                    rw [lpN_s, he] at hex
                    exact ih ((k + 1)) U _ _ _ (by omega) hP hD hS (lv_sub hl [0, 1, 2, 3, 4, 5, 6] rfl) hex
                  · skip
                    refine lv_iload hx hb dX3_exchange_66 (lv_at hl 0 rfl) ?_
                    refine lv_iload_n hx hb dX3_exchange_68 rfl (lv_at hl 2 rfl) ?_
                    refine lv_icmp_eq (tgt := 86) hx hb dX3_exchange_69 (by decide) (fun c9 => ?_) (fun c9 => ?_)
                    · rw [nI_eq (by omega) (by omega)] at c9
                      refine lv_iinc (v := nI (k + 1)) (lv' := [(7, .int (nI (k + 1))), (0, .ref (ad 0)), (1, .int (nI a)), (2, .int (nI c0)), (3, .int d), (4, .ref (ad (11 + a))), (5, .long (absL (dRo S a c0)))]) hx hb dX3_exchange_86 hl (k := 0) rfl (nI_1 _) (by decide) rfl (fun ls hl => ?_)
                      refine lv_goto (tgt := 49) hx hb dX3_exchange_89 (by decide) ?_
                      have he : (fEx a c0) k U = U := by simp [fEx, c1, c3, c5, c8, c2, c4, c7, c9]
                      rw [lpN_s, he] at hex
                      exact ih ((k + 1)) U _ _ _ (by omega) hP hD hS (lv_sub hl [0, 1, 2, 3, 4, 5, 6] rfl) hex
                    · rw [nI_eq (by omega) (by omega)] at c9
                      refine lv_aload_n hx hb dX3_exchange_72 rfl (lv_at hl 1 rfl) ?_
                      refine lv_aload_n hx hb dX3_exchange_73 rfl (lv_at hl 1 rfl) ?_
                      refine rD_get (v := .ref (ad 1)) hx hb hts hin hown hK hP 0 (by decide) rfl (by decide +kernel) dX3_exchange_74 ?_
                      refine lv_iload hx hb dX3_exchange_77 (lv_at hl 0 rfl) ?_
                      refine rD_row (i := k) hx hb hK hP (by omega) dX3_exchange_79 ?_
                      refine lv_aload hx hb dX3_exchange_80 (lv_at hl 5 rfl) ?_
                      refine lv_iload_n hx hb dX3_exchange_82 rfl (lv_at hl 3 rfl) ?_
                      refine dCallv (As := [.ref (ad (11 + k)), .ref (ad (11 + a)), .int (nI c0)]) (rest := []) hx hb hml hown hts hK hP hD hS hA hl.1 (cD_substitute l D cy ad _ _ _ (k := k) (a := a) (c0 := c0) (by omega) (by omega) (by omega)) (cwV 3 hts gX3_exchange_X3_substitute rfl rfl rfl (by decide +kernel) ⟨Nat.le_of_ble_eq_true rfl, Nat.le_of_ble_eq_true rfl⟩) rfl rfl (Nat.le_of_ble_eq_true rfl) ⟨Nat.le_of_ble_eq_true rfl, Nat.le_of_ble_eq_true rfl⟩ dX3_exchange_83 (fun S10 H locs e10 hP hD hS => ?_)
                      rw [show S10 = _ from e10] at hP hD
                      refine lv_iinc (v := nI (k + 1)) (lv' := [(7, .int (nI (k + 1))), (0, .ref (ad 0)), (1, .int (nI a)), (2, .int (nI c0)), (3, .int d), (4, .ref (ad (11 + a))), (5, .long (absL (dRo S a c0)))]) hx hb dX3_exchange_86 hl (k := 0) rfl (nI_1 _) (by decide) rfl (fun ls hl => ?_)
                      refine lv_goto (tgt := 49) hx hb dX3_exchange_89 (by decide) ?_
                      have he : (fEx a c0) k U = (kSub U k a c0) := by simp [fEx, c1, c3, c5, c8, c2, c4, c7, c9]
                      rw [lpN_s, he] at hex
                      exact ih ((k + 1)) (kSub U k a c0) _ _ _ (by omega) hP hD hS (lv_sub hl [0, 1, 2, 3, 4, 5, 6] rfl) hex
            refine L49 27 0 S _ _ _ (by omega) hP hD hS (lv_sub hl [0, 3, 4, 5, 6, 2, 1] rfl) (fun H locs ls hP hD hS hl => ?_)
            refine lv_iconst (v := nI 0) hx hb dX3_exchange_92 (by decide) ?_
            refine lv_istore (lv' := [(7, .int (nI 0)), (0, .ref (ad 0)), (1, .int (nI a)), (2, .int (nI c0)), (3, .int d), (4, .ref (ad (11 + a))), (5, .long (absL (dRo S a c0)))]) hx hb dX3_exchange_93 hl (by decide) rfl (fun ls hl => ?_)
            have L95 : ∀ (n j : Nat) (U : DS) (H : Heap) (locs : List Loc) (ls : Array Slot), j + n = 7 → va_P D vwCl (wD cy ad U ++ X) H → va_D (dA cy ad X S sz) (wD cy ad U ++ X) → va_S (dA cy ad X S sz) s.heap H locs → lv_has ls 8 [(7, .int (nI j)), (0, .ref (ad 0)), (1, .int (nI a)), (2, .int (nI c0)), (3, .int d), (4, .ref (ad (11 + a))), (5, .long (absL (dRo S a c0)))] → (∀ (H : Heap) (locs : List Loc) (ls : Array Slot), va_P D vwCl (wD cy ad (lpN (fZr a) n j U) ++ X) H → va_D (dA cy ad X S sz) (wD cy ad (lpN (fZr a) n j U) ++ X) → va_S (dA cy ad X S sz) s.heap H locs → lv_has ls 8 [(7, .int (nI 7)), (0, .ref (ad 0)), (1, .int (nI a)), (2, .int (nI c0)), (3, .int d), (4, .ref (ad (11 + a))), (5, .long (absL (dRo S a c0)))] → W p l e (headSpec wsX3_exchange (rm9 1 30)).room s m ([.ref (ad 0), .int (nI a), .int (nI c0), .int d] : List Value).toArray below meth c H locs 0 0 (MQ below (dQv D cy ad X S sz (fun S' => S' = kEx S a c0 d)) ([.ref (ad 0), .int (nI a), .int (nI c0), .int d] : List Value).toArray s 0 0 (dA cy ad X S sz)) (F0 m 114 ls [])) → W p l e (headSpec wsX3_exchange (rm9 1 30)).room s m ([.ref (ad 0), .int (nI a), .int (nI c0), .int d] : List Value).toArray below meth c H locs 0 0 (MQ below (dQv D cy ad X S sz (fun S' => S' = kEx S a c0 d)) ([.ref (ad 0), .int (nI a), .int (nI c0), .int d] : List Value).toArray s 0 0 (dA cy ad X S sz)) (F0 m 95 ls []) := by
              intro n
              induction n with
              | zero =>
                intro j U H locs ls hk hP hD hS hl hex
                obtain rfl : j = 7 := by omega
                refine lv_iload hx hb dX3_exchange_95 (lv_at hl 0 rfl) ?_
                refine lv_bipush (v := nI 6) hx hb dX3_exchange_97 (by decide) ?_
                refine lv_icmp_gt (tgt := 114) hx hb dX3_exchange_99 (by decide) (fun c11 => ?_) (fun c11 => ?_)
                · rw [nI_ltI (by omega) (by omega)] at c11
                  exact hex _ _ _ hP hD hS (lv_sub hl [0, 1, 2, 3, 4, 5, 6] rfl)
                · exact absurd c11 (by rw [nI_ltI (by omega) (by omega)]; omega)
              | succ n ih =>
                intro j U H locs ls hk hP hD hS hl hex
                have hk95 : j < 7 := by omega
                refine lv_iload hx hb dX3_exchange_95 (lv_at hl 0 rfl) ?_
                refine lv_bipush (v := nI 6) hx hb dX3_exchange_97 (by decide) ?_
                refine lv_icmp_gt (tgt := 114) hx hb dX3_exchange_99 (by decide) (fun c12 => ?_) (fun c12 => ?_)
                · exact absurd c12 (by rw [nI_ltI (by omega) (by omega)]; omega)
                · rw [nI_ltI (by omega) (by omega)] at c12
                  refine lv_aload hx hb dX3_exchange_102 (lv_at hl 5 rfl) ?_
                  refine lv_iload hx hb dX3_exchange_104 (lv_at hl 0 rfl) ?_
                  refine lv_lconst (v := 0) hx hb dX3_exchange_106 (by decide) ?_
                  refine rD_lst (n := a) (i := j) hx hb hK hP hD hS (by omega) (by omega) dX3_exchange_107 (fun H locs hP hD hS => ?_)
                  refine lv_iinc (v := nI (j + 1)) (lv' := [(7, .int (nI (j + 1))), (0, .ref (ad 0)), (1, .int (nI a)), (2, .int (nI c0)), (3, .int d), (4, .ref (ad (11 + a))), (5, .long (absL (dRo S a c0)))]) hx hb dX3_exchange_108 hl (k := 0) rfl (nI_1 _) (by decide) rfl (fun ls hl => ?_)
                  refine lv_goto (tgt := 95) hx hb dX3_exchange_111 (by decide) ?_
                  have he : (fZr a) j U = (sRo U a j 0) := rfl
                  rw [lpN_s, he] at hex
                  exact ih ((j + 1)) (sRo U a j 0) _ _ _ (by omega) hP hD hS (lv_sub hl [0, 1, 2, 3, 4, 5, 6] rfl) hex
            refine L95 7 0 (lpN (fEx a c0) 27 0 S) _ _ _ (by omega) hP hD hS (lv_sub hl [0, 1, 2, 3, 4, 5, 6] rfl) (fun H locs ls hP hD hS hl => ?_)
            refine lv_aload hx hb dX3_exchange_114 (lv_at hl 5 rfl) ?_
            refine lv_iload_n hx hb dX3_exchange_116 rfl (lv_at hl 3 rfl) ?_
            refine lv_lload hx hb dX3_exchange_117 (lv_at hl 6 rfl) ?_
            refine rD_lst (n := a) (i := c0) hx hb hK hP hD hS (by omega) (by omega) dX3_exchange_119 (fun H locs hP hD hS => ?_)
            refine lv_aload_n hx hb dX3_exchange_120 rfl (lv_at hl 1 rfl) ?_
            refine lv_lload hx hb dX3_exchange_121 (lv_at hl 6 rfl) ?_
            refine rD_putSc hx hb hts hin hown hK hP hD hS (by decide +kernel) dX3_exchange_123 (fun H locs hP hD hS => ?_)
            have hk1 : sSc (sRo (lpN (fZr a) 7 0 (lpN (fEx a c0) 27 0 S)) a c0 (absL (dRo S a c0))) (absL (dRo S a c0)) = kEx1 S a c0 (absL (dRo S a c0)) := rfl
            rw [hk1] at hP hD
            refine lv_aload_n hx hb dX3_exchange_126 rfl (lv_at hl 1 rfl) ?_
            refine rD_get (v := .ref (ad 9)) hx hb hts hin hown hK hP 9 (by decide) rfl (by decide +kernel) dX3_exchange_127 ?_
            refine lv_iload_n hx hb dX3_exchange_130 rfl (lv_at hl 3 rfl) ?_
            refine rD_ild9 (i := c0) hx hb hK hP (by omega) dX3_exchange_131 ?_
            refine lv_istore (lv' := [(7, .int (dI (kEx1 S a c0 (absL (dRo S a c0))) 9 c0)), (0, .ref (ad 0)), (1, .int (nI a)), (2, .int (nI c0)), (3, .int d), (4, .ref (ad (11 + a))), (5, .long (absL (dRo S a c0)))]) hx hb dX3_exchange_132 hl (by decide) rfl (fun ls hl => ?_)
            refine lv_iload hx hb dX3_exchange_134 (lv_at hl 0 rfl) ?_
            refine lv_if_lt (tgt := 162) hx hb dX3_exchange_136 (by decide) (fun c13 => ?_) (fun c13 => ?_)
            · skip
              refine lv_aload_n hx hb dX3_exchange_162 rfl (lv_at hl 1 rfl) ?_
              refine rD_get (v := .ref (ad 9)) hx hb hts hin hown hK hP 9 (by decide) rfl (by decide +kernel) dX3_exchange_163 ?_
              refine lv_iload_n hx hb dX3_exchange_166 rfl (lv_at hl 3 rfl) ?_
              refine lv_iload_n hx hb dX3_exchange_167 rfl (lv_at hl 2 rfl) ?_
              refine rD_ist9 (i := c0) hx hb hK hP hD hS (by omega) dX3_exchange_168 (fun H locs hP hD hS => ?_)
              refine lv_aload_n hx hb dX3_exchange_169 rfl (lv_at hl 1 rfl) ?_
              refine rD_get (v := .ref (ad 8)) hx hb hts hin hown hK hP 8 (by decide) rfl (by decide +kernel) dX3_exchange_170 ?_
              refine lv_iload_n hx hb dX3_exchange_173 rfl (lv_at hl 2 rfl) ?_
              refine lv_iload_n hx hb dX3_exchange_174 rfl (lv_at hl 3 rfl) ?_
              refine rD_ist (i := a) hx hb hK hP hD hS 8 (by decide) (by decide) (by omega) dX3_exchange_175 (fun H locs hP hD hS => ?_)
              exact W.vret hx hb hr (fun t ht hW => ⟨⟨_, rfl, by simp only [kEx, kEx3]; rw [if_pos c5, if_pos c13]; rfl, by rw [ht]; exact hP, va_K.moved hW.alike hK, hD⟩, hS.F ht⟩) hS.2.2 dX3_exchange_176
            · skip
              refine lv_iload hx hb dX3_exchange_139 (lv_at hl 0 rfl) ?_
              refine lv_bipush (v := nI 27) hx hb dX3_exchange_141 (by decide) ?_
              refine lv_icmp_ge (tgt := 162) hx hb dX3_exchange_143 (by decide) (fun c14 => ?_) (fun c14 => ?_)
              · skip
                refine lv_aload_n hx hb dX3_exchange_162 rfl (lv_at hl 1 rfl) ?_
                refine rD_get (v := .ref (ad 9)) hx hb hts hin hown hK hP 9 (by decide) rfl (by decide +kernel) dX3_exchange_163 ?_
                refine lv_iload_n hx hb dX3_exchange_166 rfl (lv_at hl 3 rfl) ?_
                refine lv_iload_n hx hb dX3_exchange_167 rfl (lv_at hl 2 rfl) ?_
                refine rD_ist9 (i := c0) hx hb hK hP hD hS (by omega) dX3_exchange_168 (fun H locs hP hD hS => ?_)
                refine lv_aload_n hx hb dX3_exchange_169 rfl (lv_at hl 1 rfl) ?_
                refine rD_get (v := .ref (ad 8)) hx hb hts hin hown hK hP 8 (by decide) rfl (by decide +kernel) dX3_exchange_170 ?_
                refine lv_iload_n hx hb dX3_exchange_173 rfl (lv_at hl 2 rfl) ?_
                refine lv_iload_n hx hb dX3_exchange_174 rfl (lv_at hl 3 rfl) ?_
                refine rD_ist (i := a) hx hb hK hP hD hS 8 (by decide) (by decide) (by omega) dX3_exchange_175 (fun H locs hP hD hS => ?_)
                exact W.vret hx hb hr (fun t ht hW => ⟨⟨_, rfl, by simp only [kEx, kEx3]; rw [if_pos c5, if_neg c13, if_pos c14]; rfl, by rw [ht]; exact hP, va_K.moved hW.alike hK, hD⟩, hS.F ht⟩) hS.2.2 dX3_exchange_176
              · skip
                obtain ⟨r0, hr0, hre⟩ := ixN 27 c13 (Int32.not_le.mp c14) (by decide)
                have qq9 : (dI (kEx1 S a c0 (absL (dRo S a c0))) 9 c0).toNatClampNeg = r0 := (by rw [hre, nI_clamp (by omega)])
                rw [hre] at hl
                refine lv_aload_n hx hb dX3_exchange_146 rfl (lv_at hl 1 rfl) ?_
                refine rD_get (v := .ref (ad 8)) hx hb hts hin hown hK hP 8 (by decide) rfl (by decide +kernel) dX3_exchange_147 ?_
                refine lv_iload hx hb dX3_exchange_150 (lv_at hl 0 rfl) ?_
                refine lv_iconst (v := -1) hx hb dX3_exchange_152 (by decide) ?_
                refine rD_ist (i := r0) hx hb hK hP hD hS 8 (by decide) (by decide) (by omega) dX3_exchange_153 (fun H locs hP hD hS => ?_)
                refine lv_aload_n hx hb dX3_exchange_154 rfl (lv_at hl 1 rfl) ?_
                refine rD_get (v := .ref (ad 7)) hx hb hts hin hown hK hP 7 (by decide) rfl (by decide +kernel) dX3_exchange_155 ?_
                refine lv_iload hx hb dX3_exchange_158 (lv_at hl 0 rfl) ?_
                refine lv_iload_n hx hb dX3_exchange_160 rfl (lv_at hl 4 rfl) ?_
                refine rD_ist (i := r0) hx hb hK hP hD hS 7 (by decide) (by decide) (by omega) dX3_exchange_161 (fun H locs hP hD hS => ?_)
                refine lv_aload_n hx hb dX3_exchange_162 rfl (lv_at hl 1 rfl) ?_
                refine rD_get (v := .ref (ad 9)) hx hb hts hin hown hK hP 9 (by decide) rfl (by decide +kernel) dX3_exchange_163 ?_
                refine lv_iload_n hx hb dX3_exchange_166 rfl (lv_at hl 3 rfl) ?_
                refine lv_iload_n hx hb dX3_exchange_167 rfl (lv_at hl 2 rfl) ?_
                refine rD_ist9 (i := c0) hx hb hK hP hD hS (by omega) dX3_exchange_168 (fun H locs hP hD hS => ?_)
                refine lv_aload_n hx hb dX3_exchange_169 rfl (lv_at hl 1 rfl) ?_
                refine rD_get (v := .ref (ad 8)) hx hb hts hin hown hK hP 8 (by decide) rfl (by decide +kernel) dX3_exchange_170 ?_
                refine lv_iload_n hx hb dX3_exchange_173 rfl (lv_at hl 2 rfl) ?_
                refine lv_iload_n hx hb dX3_exchange_174 rfl (lv_at hl 3 rfl) ?_
                refine rD_ist (i := a) hx hb hK hP hD hS 8 (by decide) (by decide) (by omega) dX3_exchange_175 (fun H locs hP hD hS => ?_)
                exact W.vret hx hb hr (fun t ht hW => ⟨⟨_, rfl, by simp only [kEx, kEx3]; rw [if_pos c5, if_neg c13, if_neg c14, qq9]; rfl, by rw [ht]; exact hP, va_K.moved hW.alike hK, hD⟩, hS.F ht⟩) hS.2.2 dX3_exchange_176
          · skip
            exact W.vret hx hb hr (fun t ht hW => ⟨⟨_, rfl, by simp only [kEx]; rw [if_neg (by simp [c1, c3, c5, c2, c4])], by rw [ht]; exact hP, va_K.moved hW.alike hK, hD⟩, hS.F ht⟩) hS.2.2 dX3_exchange_45
        · exact absurd c4 (by rw [nI_ltI (by omega) (by omega)]; omega)
theorem kDesN_s {aim sg : Int32} {n : Nat} {S : DS} : kDesN aim sg (n + 1) S = if 0 ≤ kEnt (kFind S aim sg) then
      if 0 ≤ kLv (kFind S aim sg) (kEnt (kFind S aim sg)).toNatClampNeg (kDir (kFind S aim sg) (kEnt (kFind S aim sg)).toNatClampNeg) then
        kDesN aim sg n (kEx (kFind S aim sg) (kLv (kFind S aim sg) (kEnt (kFind S aim sg)).toNatClampNeg (kDir (kFind S aim sg) (kEnt (kFind S aim sg)).toNatClampNeg)).toNatClampNeg (kEnt (kFind S aim sg)).toNatClampNeg (kDir (kFind S aim sg) (kEnt (kFind S aim sg)).toNatClampNeg))
      else kFind S aim sg
    else kFind S aim sg := rfl
set_option maxHeartbeats 4000000 in
set_option maxRecDepth 100000 in
theorem cD_descend (l : Launch) (D : va_G) (cy : Nat → ClassId) (ad : Nat → Nat) (X : va_W) (S : DS) (sz : Nat) (aim sg lv : Int32) (haim : aim = -1 ∨ ∃ a : Nat, a < 27 ∧ aim = nI a) : Met l yX3_descend wsX3_descend (rm9 3 79) (dPc D cy ad X S sz [.ref (ad 0), .int aim, .int sg, .int lv]) (dQv D cy ad X S sz (fun S' => S' = kDes S aim sg lv)) 0 0 (dA cy ad X S sz) := by
  refine dHead (cc := cX3_descend) (maxL := 8) (ret := none) (by decide) rfl (Nat.le_of_ble_eq_true rfl) ?_
  intro p e s m below meth c ls hx hb hr hlocks hml hown hts hsz hP hK hD hS hA hl
  have hin : ∀ w ∈ u_ws RX3 TX3 12, w ∈ wsX3_descend := by decide +kernel
  have hown : s.vm.findClass RX3 = some m.cls := hown
  have hl : lv_has ls 8 [(0, .ref (ad 0)), (1, .int aim), (2, .int sg), (3, .int lv)] := hl
  refine lv_aload_n hx hb dX3_descend_0 rfl (lv_at hl 0 rfl) ?_
  refine lv_iload_n hx hb dX3_descend_1 rfl (lv_at hl 3 rfl) ?_
  refine rD_putCt hx hb hts hin hown hK hP hD hS (by decide +kernel) dX3_descend_2 (fun H locs hP hD hS => ?_)
  refine lv_iconst (v := nI 0) hx hb dX3_descend_5 (by decide) ?_
  refine lv_istore (lv' := [(4, .int (nI 0)), (0, .ref (ad 0)), (1, .int aim), (2, .int sg), (3, .int lv)]) hx hb dX3_descend_6 hl (by decide) rfl (fun ls hl => ?_)
  have L8 : ∀ (n i : Nat) (U : DS) (H : Heap) (locs : List Loc) (ls : Array Slot), i + n = 1000000 → kDesN aim sg n U = kDes S aim sg lv → va_P D vwCl (wD cy ad U ++ X) H → va_D (dA cy ad X S sz) (wD cy ad U ++ X) → va_S (dA cy ad X S sz) s.heap H locs → lv_has ls 8 [(4, .int (nI i)), (0, .ref (ad 0)), (1, .int aim), (2, .int sg), (3, .int lv)] → W p l e (headSpec wsX3_descend (rm9 3 79)).room s m ([.ref (ad 0), .int aim, .int sg, .int lv] : List Value).toArray below meth c H locs 0 0 (MQ below (dQv D cy ad X S sz (fun S' => S' = kDes S aim sg lv)) ([.ref (ad 0), .int aim, .int sg, .int lv] : List Value).toArray s 0 0 (dA cy ad X S sz)) (F0 m 8 ls []) := by
    intro n
    induction n with
    | zero =>
      intro i U H locs ls hi hU hP hD hS hl
      refine lv_iload hx hb dX3_descend_8 (lv_at hl 0 rfl) ?_
      refine lv_ldc (v := nI 1000000) hx hb hown (hts (.constant RX3 109 (1000000)) (by decide +kernel)) dX3_descend_10 ?_
      refine lv_icmp_ge (tgt := 73) hx hb dX3_descend_12 (by decide) (fun c1 => ?_) (fun c1 => ?_)
      · rw [nI_leI (by omega) (by omega)] at c1
        exact W.vret hx hb hr (fun t ht hW => ⟨⟨_, rfl, hU, by rw [ht]; exact hP, va_K.moved hW.alike hK, hD⟩, hS.F ht⟩) hS.2.2 dX3_descend_73
      · exact absurd c1 (by rw [nI_leI (by omega) (by omega)]; omega)
    | succ n ih =>
      intro i U H locs ls hi hU hP hD hS hl
      refine lv_iload hx hb dX3_descend_8 (lv_at hl 0 rfl) ?_
      refine lv_ldc (v := nI 1000000) hx hb hown (hts (.constant RX3 109 (1000000)) (by decide +kernel)) dX3_descend_10 ?_
      refine lv_icmp_ge (tgt := 73) hx hb dX3_descend_12 (by decide) (fun c2 => ?_) (fun c2 => ?_)
      · exact absurd c2 (by rw [nI_leI (by omega) (by omega)]; omega)
      · rw [nI_leI (by omega) (by omega)] at c2
        refine lv_aload_n hx hb dX3_descend_15 rfl (lv_at hl 1 rfl) ?_
        refine lv_iload_n hx hb dX3_descend_16 rfl (lv_at hl 2 rfl) ?_
        refine lv_iload_n hx hb dX3_descend_17 rfl (lv_at hl 3 rfl) ?_
        refine dCallv (As := [.int aim, .int sg]) (rest := []) hx hb hml hown hts hK hP hD hS hA hl.1 (cD_findSlopes l D cy ad _ _ _ aim sg haim) (cwV 2 hts gX3_descend_X3_findSlopes rfl rfl rfl (by decide +kernel) ⟨Nat.le_of_ble_eq_true rfl, Nat.le_of_ble_eq_true rfl⟩) rfl rfl (Nat.le_of_ble_eq_true rfl) ⟨Nat.le_of_ble_eq_true rfl, Nat.le_of_ble_eq_true rfl⟩ dX3_descend_18 (fun S3 H locs e3 hP hD hS => ?_)
        rw [show S3 = _ from e3] at hP hD
        refine lv_aload_n hx hb dX3_descend_21 rfl (lv_at hl 1 rfl) ?_
        refine dCalli (As := []) (rest := []) hx hb hml hown hts hK hP hD hS hA hl.1 (cD_enteringColumn l D cy ad _ _ _) (cwV 0 hts gX3_descend_X3_enteringColumn rfl rfl rfl (by decide +kernel) ⟨Nat.le_of_ble_eq_true rfl, Nat.le_of_ble_eq_true rfl⟩) rfl rfl (Nat.le_of_ble_eq_true rfl) ⟨Nat.le_of_ble_eq_true rfl, Nat.le_of_ble_eq_true rfl⟩ dX3_descend_22 (fun r4 S4 H locs e4 hP hD hS => ?_)
        obtain ⟨e4a, e4b⟩ := e4
        rw [e4a]
        rw [e4b] at hP hD
        refine lv_istore (lv' := [(5, .int (kEnt (kFind U aim sg))), (4, .int (nI i)), (0, .ref (ad 0)), (1, .int aim), (2, .int sg), (3, .int lv)]) hx hb dX3_descend_25 hl (by decide) rfl (fun ls hl => ?_)
        refine lv_iload hx hb dX3_descend_27 (lv_at hl 0 rfl) ?_
        refine lv_if_ge (tgt := 33) hx hb dX3_descend_29 (by decide) (fun c5 => ?_) (fun c5 => ?_)
        · skip
          obtain ⟨cc, hcc, hce⟩ := entIx kEnt_ix (fun q => absurd c5 (Int32.not_le.mpr q))
          have qq8 : (kEnt (kFind U aim sg)).toNatClampNeg = cc := (by rw [hce, nI_clamp (by omega)])
          rw [hce] at hl
          refine lv_aload_n hx hb dX3_descend_33 rfl (lv_at hl 2 rfl) ?_
          refine lv_iload hx hb dX3_descend_34 (lv_at hl 0 rfl) ?_
          refine dCalli (As := [.int (nI cc)]) (rest := []) hx hb hml hown hts hK hP hD hS hA hl.1 (cD_directionOf l D cy ad _ _ _ (c0 := cc) (by omega)) (cwV 1 hts gX3_descend_X3_directionOf rfl rfl rfl (by decide +kernel) ⟨Nat.le_of_ble_eq_true rfl, Nat.le_of_ble_eq_true rfl⟩) rfl rfl (Nat.le_of_ble_eq_true rfl) ⟨Nat.le_of_ble_eq_true rfl, Nat.le_of_ble_eq_true rfl⟩ dX3_descend_36 (fun r6 S6 H locs e6 hP hD hS => ?_)
          obtain ⟨e6a, e6b⟩ := e6
          rw [e6a]
          rw [e6b] at hP hD
          refine lv_istore (lv' := [(6, .int (kDir (kFind U aim sg) cc)), (5, .int (nI cc)), (4, .int (nI i)), (0, .ref (ad 0)), (1, .int aim), (2, .int sg), (3, .int lv)]) hx hb dX3_descend_39 hl (by decide) rfl (fun ls hl => ?_)
          refine lv_aload_n hx hb dX3_descend_41 rfl (lv_at hl 3 rfl) ?_
          refine lv_iload hx hb dX3_descend_42 (lv_at hl 1 rfl) ?_
          refine lv_iload hx hb dX3_descend_44 (lv_at hl 0 rfl) ?_
          refine dCalli (As := [.int (nI cc), .int (kDir (kFind U aim sg) cc)]) (rest := []) hx hb hml hown hts hK hP hD hS hA hl.1 (cD_leavingRow l D cy ad _ _ _ (c0 := cc) (by omega) _) (cwV 2 hts gX3_descend_X3_leavingRow rfl rfl rfl (by decide +kernel) ⟨Nat.le_of_ble_eq_true rfl, Nat.le_of_ble_eq_true rfl⟩) rfl rfl (Nat.le_of_ble_eq_true rfl) ⟨Nat.le_of_ble_eq_true rfl, Nat.le_of_ble_eq_true rfl⟩ dX3_descend_46 (fun r7 S7 H locs e7 hP hD hS => ?_)
          obtain ⟨e7a, e7b⟩ := e7
          rw [e7a]
          rw [e7b] at hP hD
          refine lv_istore (lv' := [(7, .int (kLv (kFind U aim sg) cc (kDir (kFind U aim sg) cc))), (6, .int (kDir (kFind U aim sg) cc)), (5, .int (nI cc)), (4, .int (nI i)), (0, .ref (ad 0)), (1, .int aim), (2, .int sg), (3, .int lv)]) hx hb dX3_descend_49 hl (by decide) rfl (fun ls hl => ?_)
          refine lv_iload hx hb dX3_descend_51 (lv_at hl 0 rfl) ?_
          refine lv_if_ge (tgt := 57) hx hb dX3_descend_53 (by decide) (fun c8 => ?_) (fun c8 => ?_)
          · skip
            obtain ⟨rr, hrr, hrre⟩ := entIx kLv_ix (fun q => absurd c8 (Int32.not_le.mpr q))
            have qq9 : (kLv (kFind U aim sg) cc (kDir (kFind U aim sg) cc)).toNatClampNeg = rr := (by rw [hrre, nI_clamp (by omega)])
            rw [hrre] at hl
            refine lv_aload_n hx hb dX3_descend_57 rfl (lv_at hl 4 rfl) ?_
            refine lv_iload hx hb dX3_descend_58 (lv_at hl 0 rfl) ?_
            refine lv_iload hx hb dX3_descend_60 (lv_at hl 2 rfl) ?_
            refine lv_iload hx hb dX3_descend_62 (lv_at hl 1 rfl) ?_
            refine dCallv (As := [.int (nI rr), .int (nI cc), .int (kDir (kFind U aim sg) cc)]) (rest := []) hx hb hml hown hts hK hP hD hS hA hl.1 (cD_exchange l D cy ad _ _ _ (a := rr) (c0 := cc) (by omega) (by omega) _) (cwV 3 hts gX3_descend_X3_exchange rfl rfl rfl (by decide +kernel) ⟨Nat.le_of_ble_eq_true rfl, Nat.le_of_ble_eq_true rfl⟩) rfl rfl (Nat.le_of_ble_eq_true rfl) ⟨Nat.le_of_ble_eq_true rfl, Nat.le_of_ble_eq_true rfl⟩ dX3_descend_64 (fun S9 H locs e9 hP hD hS => ?_)
            rw [show S9 = _ from e9] at hP hD
            refine lv_iinc (v := nI (i + 1)) (lv' := [(4, .int (nI (i + 1))), (7, .int (nI rr)), (6, .int (kDir (kFind U aim sg) cc)), (5, .int (nI cc)), (0, .ref (ad 0)), (1, .int aim), (2, .int sg), (3, .int lv)]) hx hb dX3_descend_67 hl (k := 3) rfl (nI_1 _) (by decide) rfl (fun ls hl => ?_)
            refine lv_goto (tgt := 8) hx hb dX3_descend_70 (by decide) ?_
            exact ih (i + 1) _ _ _ _ (by omega) (by rw [← hU, kDesN_s, if_pos c5, qq8, if_pos c8, qq9]) hP hD hS (lv_sub hl [0, 4, 5, 6, 7] rfl)
          · skip
            exact W.vret hx hb hr (fun t ht hW => ⟨⟨_, rfl, by rw [← hU, kDesN_s, if_pos c5, qq8, if_neg c8], by rw [ht]; exact hP, va_K.moved hW.alike hK, hD⟩, hS.F ht⟩) hS.2.2 dX3_descend_56
        · skip
          exact W.vret hx hb hr (fun t ht hW => ⟨⟨_, rfl, by rw [← hU, kDesN_s, if_neg c5], by rw [ht]; exact hP, va_K.moved hW.alike hK, hD⟩, hS.F ht⟩) hS.2.2 dX3_descend_32
  exact L8 1000000 0 _ _ _ _ (by omega) rfl hP hD hS (lv_sub hl [0, 1, 2, 3, 4] rfl)
