/-! the leaving row, the exchange -/
theorem lc0 {x y : Int64} (h : ¬ lg_cmp x y = 0) : ¬ x = y := fun e => h (by subst e; unfold lg_cmp; simp)
def absL (x : Int64) : Int64 := if 0 < x then x else -x
def fLv (S : DS) (c : Nat) (d : Int32) (k : Nat) (q : Int32 × Int64 × Int64) : Int32 × Int64 × Int64 :=
  if dI S 2 k = 0 then q else if ¬ dI S 8 k = -1 then q else if lg_cmp ((-(dI S 7 k) * d).toInt64 * dRo S k c) 0 ≤ 0 then q
  else if q.1 < 0 then (nI k, absL (dRo S k 6), (-(dI S 7 k) * d).toInt64 * dRo S k c)
  else if 0 ≤ lg_cmp (absL (dRo S k 6) * q.2.2) (q.2.1 * ((-(dI S 7 k) * d).toInt64 * dRo S k c)) then q else (nI k, absL (dRo S k 6), (-(dI S 7 k) * d).toInt64 * dRo S k c)
/-- leavingRow -/
def kLv (S : DS) (c : Nat) (d : Int32) : Int32 := (lpN (fLv S c d) 27 0 (-1, 0, 1)).1
theorem kLv_ix {S : DS} {c : Nat} {d : Int32} : kLv S c d = -1 ∨ ∃ j : Nat, j < 27 ∧ kLv S c d = nI j := by
  refine lpN_inv (fun q : Int32 × Int64 × Int64 => q.1 = -1 ∨ ∃ j : Nat, j < 27 ∧ q.1 = nI j) 27 0 (-1, 0, 1) (fun j b hj hb => ?_) (Or.inl rfl)
  unfold fLv
  split
  · exact hb
  split
  · exact hb
  split
  · exact hb
  split
  · exact Or.inr ⟨j, by omega, rfl⟩
  split
  · exact hb
  · exact Or.inr ⟨j, by omega, rfl⟩
/-- substitute: row k, with row a in the place of column c -/
def kNs (S : DS) (a c : Nat) : Int64 := if 0 ≤ lg_cmp (dRo S a c) 0 then dRo S a c else -(dRo S a c)
def kFa (S : DS) (k a c : Nat) : Int64 := if 0 ≤ lg_cmp (dRo S a c) 0 then dRo S k c else -(dRo S k c)
def fSub (k a : Nat) (ns f : Int64) (i : Nat) (S : DS) : DS := sRo S k i ((dRo S k i * ns - f * dRo S a i) / dSc S)
def kSub (S : DS) (k a c : Nat) : DS :=
  if lg_cmp (dSc S) 0 = 0 then S else if ¬ lg_cmp (kFa S k a c) 0 = 0 then sRo (lpN (fSub k a (kNs S a c) (kFa S k a c)) 7 0 S) k c (kFa S k a c)
  else if ¬ lg_cmp (kNs S a c) (dSc S) = 0 then sRo (lpN (fSub k a (kNs S a c) (kFa S k a c)) 7 0 S) k c (kFa S k a c) else S
def fEx (a c k : Nat) (S : DS) : DS := if dI S 2 k = 0 then S else if k = a then S else kSub S k a c
def fZr (a i : Nat) (S : DS) : DS := sRo S a i 0
/-- exchange -/
def kEx1 (S : DS) (a c : Nat) (ns : Int64) : DS := sSc (sRo (lpN (fZr a) 7 0 (lpN (fEx a c) 27 0 S)) a c ns) ns
def kEx2 (S : DS) (a c : Nat) : DS := sI (sI S 9 c (nI a)) 8 a (nI c)
def kEx3 (S : DS) (a c : Nat) (d : Int32) : DS := if dI S 9 c < 0 then kEx2 S a c else if nI 27 ≤ dI S 9 c then kEx2 S a c else kEx2 (sI (sI S 8 (dI S 9 c).toNatClampNeg (-1)) 7 (dI S 9 c).toNatClampNeg d) a c
def kEx (S : DS) (a c : Nat) (d : Int32) : DS := if ¬ lg_cmp (absL (dRo S a c)) 0 = 0 then kEx3 (kEx1 S a c (absL (dRo S a c))) a c d else S
/-- descend: n steps at most -/
def kDesN (aim sg : Int32) : Nat → DS → DS
  | 0, S => S
  | n + 1, S =>
    if 0 ≤ kEnt (kFind S aim sg) then
      if 0 ≤ kLv (kFind S aim sg) (kEnt (kFind S aim sg)).toNatClampNeg (kDir (kFind S aim sg) (kEnt (kFind S aim sg)).toNatClampNeg) then
        kDesN aim sg n (kEx (kFind S aim sg) (kLv (kFind S aim sg) (kEnt (kFind S aim sg)).toNatClampNeg (kDir (kFind S aim sg) (kEnt (kFind S aim sg)).toNatClampNeg)).toNatClampNeg (kEnt (kFind S aim sg)).toNatClampNeg (kDir (kFind S aim sg) (kEnt (kFind S aim sg)).toNatClampNeg))
      else kFind S aim sg
    else kFind S aim sg
def kDes (S : DS) (aim sg lv : Int32) : DS := kDesN aim sg 1000000 (sCt S lv)
set_option maxHeartbeats 4000000 in
set_option maxRecDepth 100000 in
theorem cD_leavingRow (l : Launch) (D : va_G) (cy : Nat → ClassId) (ad : Nat → Nat) (X : va_W) (S : DS) (sz : Nat) {c0 : Nat} (hc0 : c0 < 6) (d : Int32) : Met l yX3_leavingRow wsX3_leavingRow (rm9 1 16) (dPc D cy ad X S sz [.ref (ad 0), .int (nI c0), .int d]) (dQi D cy ad X S sz (fun r S' => r = kLv S c0 d ∧ S' = S)) 0 0 (dA cy ad X S sz) := by
  refine dHead (cc := cX3_leavingRow) (maxL := 13) (ret := (some .int)) (by decide) rfl (Nat.le_of_ble_eq_true rfl) ?_
  intro p e s m below meth c ls hx hb hr hlocks hml hown hts hsz hP hK hD hS hA hl
  have hin : ∀ w ∈ u_ws RX3 TX3 12, w ∈ wsX3_leavingRow := by decide +kernel
  have hown : s.vm.findClass RX3 = some m.cls := hown
  have hl : lv_has ls 13 [(0, .ref (ad 0)), (1, .int (nI c0)), (2, .int d)] := hl
  refine lv_iconst (v := -1) hx hb dX3_leavingRow_0 (by decide) ?_
  refine lv_istore_n (lv' := [(3, .int (-1)), (0, .ref (ad 0)), (1, .int (nI c0)), (2, .int d)]) hx hb dX3_leavingRow_1 rfl hl (by decide) rfl (fun ls hl => ?_)
  refine lv_lconst (v := 0) hx hb dX3_leavingRow_2 (by decide) ?_
  refine lv_lstore (lv' := [(4, .long 0), (3, .int (-1)), (0, .ref (ad 0)), (1, .int (nI c0)), (2, .int d)]) hx hb dX3_leavingRow_3 hl (by decide) rfl (fun ls hl => ?_)
  refine lv_lconst (v := 1) hx hb dX3_leavingRow_5 (by decide) ?_
  refine lv_lstore (lv' := [(6, .long 1), (4, .long 0), (3, .int (-1)), (0, .ref (ad 0)), (1, .int (nI c0)), (2, .int d)]) hx hb dX3_leavingRow_6 hl (by decide) rfl (fun ls hl => ?_)
  refine lv_iload_n hx hb dX3_leavingRow_8 rfl (lv_at hl 4 rfl) ?_
  refine lv_if_lt (tgt := 18) hx hb dX3_leavingRow_9 (by decide) (fun c1 => ?_) (fun c1 => ?_)
  · exact absurd c1 (nI_pos (by omega))
  · skip
    refine lv_iload_n hx hb dX3_leavingRow_12 rfl (lv_at hl 4 rfl) ?_
    refine lv_bipush (v := nI 6) hx hb dX3_leavingRow_13 (by decide) ?_
    refine lv_icmp_lt (tgt := 20) hx hb dX3_leavingRow_15 (by decide) (fun c2 => ?_) (fun c2 => ?_)
    · rw [nI_ltI (by omega) (by omega)] at c2
      refine lv_iconst (v := nI 0) hx hb dX3_leavingRow_20 (by decide) ?_
      refine lv_istore (lv' := [(8, .int (nI 0)), (6, .long 1), (4, .long 0), (3, .int (-1)), (0, .ref (ad 0)), (1, .int (nI c0)), (2, .int d)]) hx hb dX3_leavingRow_21 hl (by decide) rfl (fun ls hl => ?_)
      have L23 : ∀ (n k : Nat) (q : Int32 × Int64 × Int64) (H : Heap) (locs : List Loc) (ls : Array Slot), k + n = 27 → va_P D vwCl (wD cy ad S ++ X) H → va_D (dA cy ad X S sz) (wD cy ad S ++ X) → va_S (dA cy ad X S sz) s.heap H locs → lv_has ls 13 [(8, .int (nI k)), (0, .ref (ad 0)), (1, .int (nI c0)), (2, .int d), (3, .int q.1), (4, .long q.2.1), (6, .long q.2.2)] → (∀ (H : Heap) (locs : List Loc) (ls : Array Slot), va_P D vwCl (wD cy ad S ++ X) H → va_D (dA cy ad X S sz) (wD cy ad S ++ X) → va_S (dA cy ad X S sz) s.heap H locs → lv_has ls 13 [(8, .int (nI 27)), (0, .ref (ad 0)), (1, .int (nI c0)), (2, .int d), (3, .int ((lpN (fLv S c0 d) n k q).1)), (4, .long ((lpN (fLv S c0 d) n k q).2.1)), (6, .long ((lpN (fLv S c0 d) n k q).2.2))] → W p l e (headSpec wsX3_leavingRow (rm9 1 16)).room s m ([.ref (ad 0), .int (nI c0), .int d] : List Value).toArray below meth c H locs 0 0 (MQ below (dQi D cy ad X S sz (fun r S' => r = kLv S c0 d ∧ S' = S)) ([.ref (ad 0), .int (nI c0), .int d] : List Value).toArray s 0 0 (dA cy ad X S sz)) (F0 m 131 ls [])) → W p l e (headSpec wsX3_leavingRow (rm9 1 16)).room s m ([.ref (ad 0), .int (nI c0), .int d] : List Value).toArray below meth c H locs 0 0 (MQ below (dQi D cy ad X S sz (fun r S' => r = kLv S c0 d ∧ S' = S)) ([.ref (ad 0), .int (nI c0), .int d] : List Value).toArray s 0 0 (dA cy ad X S sz)) (F0 m 23 ls []) := by
        intro n
        induction n with
        | zero =>
          intro k q H locs ls hk hP hD hS hl hex
          obtain rfl : 27 = k := by omega
          refine lv_iload hx hb dX3_leavingRow_23 (lv_at hl 0 rfl) ?_
          refine lv_bipush (v := nI 27) hx hb dX3_leavingRow_25 (by decide) ?_
          refine lv_icmp_ge (tgt := 131) hx hb dX3_leavingRow_27 (by decide) (fun c3 => ?_) (fun c3 => ?_)
          · rw [nI_leI (by omega) (by omega)] at c3
            exact hex _ _ _ hP hD hS (lv_sub hl [0, 1, 2, 3, 4, 5, 6] rfl)
          · exact absurd c3 (by rw [nI_leI (by omega) (by omega)]; omega)
        | succ n ih =>
          intro k q H locs ls hk hP hD hS hl hex
          have hk23 : k < 27 := by omega
          refine lv_iload hx hb dX3_leavingRow_23 (lv_at hl 0 rfl) ?_
          refine lv_bipush (v := nI 27) hx hb dX3_leavingRow_25 (by decide) ?_
          refine lv_icmp_ge (tgt := 131) hx hb dX3_leavingRow_27 (by decide) (fun c4 => ?_) (fun c4 => ?_)
          · exact absurd c4 (by rw [nI_leI (by omega) (by omega)]; omega)
          · rw [nI_leI (by omega) (by omega)] at c4
            refine lv_aload_n hx hb dX3_leavingRow_30 rfl (lv_at hl 1 rfl) ?_
            refine rD_get (v := .ref (ad 2)) hx hb hts hin hown hK hP 2 (by decide) rfl (by decide +kernel) dX3_leavingRow_31 ?_
            refine lv_iload hx hb dX3_leavingRow_34 (lv_at hl 0 rfl) ?_
            refine rD_zld (i := k) hx hb hK hP (by omega) dX3_leavingRow_36 ?_
            refine lv_if_eq (tgt := 125) hx hb dX3_leavingRow_37 (by decide) (fun c5 => ?_) (fun c5 => ?_)
            · skip
              refine lv_iinc (v := nI (k + 1)) (lv' := [(8, .int (nI (k + 1))), (0, .ref (ad 0)), (1, .int (nI c0)), (2, .int d), (3, .int q.1), (4, .long q.2.1), (6, .long q.2.2)]) hx hb dX3_leavingRow_125 hl (k := 0) rfl (nI_1 _) (by decide) rfl (fun ls hl => ?_)
              refine lv_goto (tgt := 23) hx hb dX3_leavingRow_128 (by decide) ?_
              have he : (fLv S c0 d) k q = (q.1, q.2.1, q.2.2) := by simp [fLv, c1, c5, c2, c4]
              rw [lpN_s, he] at hex
              exact ih ((k + 1)) (q.1, q.2.1, q.2.2) _ _ _ (by omega) hP hD hS (lv_sub hl [0, 1, 2, 3, 4, 5, 6] rfl) hex
            · skip
              refine lv_aload_n hx hb dX3_leavingRow_40 rfl (lv_at hl 1 rfl) ?_
              refine rD_get (v := .ref (ad 8)) hx hb hts hin hown hK hP 8 (by decide) rfl (by decide +kernel) dX3_leavingRow_41 ?_
              refine lv_iload hx hb dX3_leavingRow_44 (lv_at hl 0 rfl) ?_
              refine rD_ild (i := k) hx hb hK hP 8 (by decide) (by decide) (by omega) dX3_leavingRow_46 ?_
              refine lv_iconst (v := -1) hx hb dX3_leavingRow_47 (by decide) ?_
              refine lv_icmp_ne (tgt := 125) hx hb dX3_leavingRow_48 (by decide) (fun c6 => ?_) (fun c6 => ?_)
              · skip
                refine lv_iinc (v := nI (k + 1)) (lv' := [(8, .int (nI (k + 1))), (0, .ref (ad 0)), (1, .int (nI c0)), (2, .int d), (3, .int q.1), (4, .long q.2.1), (6, .long q.2.2)]) hx hb dX3_leavingRow_125 hl (k := 0) rfl (nI_1 _) (by decide) rfl (fun ls hl => ?_)
                refine lv_goto (tgt := 23) hx hb dX3_leavingRow_128 (by decide) ?_
                have he : (fLv S c0 d) k q = (q.1, q.2.1, q.2.2) := by simp [fLv, c1, c5, c6, c2, c4]
                rw [lpN_s, he] at hex
                exact ih ((k + 1)) (q.1, q.2.1, q.2.2) _ _ _ (by omega) hP hD hS (lv_sub hl [0, 1, 2, 3, 4, 5, 6] rfl) hex
              · skip
                refine lv_aload_n hx hb dX3_leavingRow_51 rfl (lv_at hl 1 rfl) ?_
                refine rD_get (v := .ref (ad 7)) hx hb hts hin hown hK hP 7 (by decide) rfl (by decide +kernel) dX3_leavingRow_52 ?_
                refine lv_iload hx hb dX3_leavingRow_55 (lv_at hl 0 rfl) ?_
                refine rD_ild (i := k) hx hb hK hP 7 (by decide) (by decide) (by omega) dX3_leavingRow_57 ?_
                refine lv_ineg hx hb dX3_leavingRow_58 ?_
                refine lv_iload_n hx hb dX3_leavingRow_59 rfl (lv_at hl 3 rfl) ?_
                refine lv_imul hx hb dX3_leavingRow_60 ?_
                refine lv_i2l hx hb dX3_leavingRow_61 (v := ((-(dI S 7 k)) * d).toInt64) rfl ?_
                refine lv_aload_n hx hb dX3_leavingRow_62 rfl (lv_at hl 1 rfl) ?_
                refine rD_get (v := .ref (ad 1)) hx hb hts hin hown hK hP 0 (by decide) rfl (by decide +kernel) dX3_leavingRow_63 ?_
                refine lv_iload hx hb dX3_leavingRow_66 (lv_at hl 0 rfl) ?_
                refine rD_row (i := k) hx hb hK hP (by omega) dX3_leavingRow_68 ?_
                refine lv_iload_n hx hb dX3_leavingRow_69 rfl (lv_at hl 2 rfl) ?_
                refine rD_lld (n := k) (i := c0) hx hb hK hP (by omega) (by omega) dX3_leavingRow_70 ?_
                refine lv_lmul hx hb dX3_leavingRow_71 ?_
                refine lv_lstore (lv' := [(9, .long ((((-(dI S 7 k)) * d).toInt64) * (dRo S k c0))), (8, .int (nI k)), (0, .ref (ad 0)), (1, .int (nI c0)), (2, .int d), (3, .int q.1), (4, .long q.2.1), (6, .long q.2.2)]) hx hb dX3_leavingRow_72 hl (by decide) rfl (fun ls hl => ?_)
                refine lv_aload_n hx hb dX3_leavingRow_74 rfl (lv_at hl 2 rfl) ?_
                refine rD_get (v := .ref (ad 1)) hx hb hts hin hown hK hP 0 (by decide) rfl (by decide +kernel) dX3_leavingRow_75 ?_
                refine lv_iload hx hb dX3_leavingRow_78 (lv_at hl 1 rfl) ?_
                refine rD_row (i := k) hx hb hK hP (by omega) dX3_leavingRow_80 ?_
                refine lv_bipush (v := nI 6) hx hb dX3_leavingRow_81 (by decide) ?_
                refine rD_lld (n := k) (i := 6) hx hb hK hP (by omega) (by omega) dX3_leavingRow_83 ?_
                refine va_mabs_long hx hb (hml.trans hl.1.symm) (own := RX3) (index := 130) hown (hts _ (List.mem_of_elem_eq_true (by decide +kernel))) (hts _ (List.mem_of_elem_eq_true (by decide +kernel))) (hts _ (List.mem_of_elem_eq_true (by decide +kernel))) (hts _ (List.mem_of_elem_eq_true (by decide +kernel))) (Nat.le_of_ble_eq_true rfl) (Nat.le_of_ble_eq_true rfl) (Nat.zero_le _) (Nat.zero_le _) dX3_leavingRow_84 ?_
                refine W.eq (g2 := F0 m 87 ls [.long (absL (dRo S k 6))]) rfl ?_
                refine lv_lstore (lv' := [(11, .long (absL (dRo S k 6))), (9, .long ((((-(dI S 7 k)) * d).toInt64) * (dRo S k c0))), (8, .int (nI k)), (0, .ref (ad 0)), (1, .int (nI c0)), (2, .int d), (3, .int q.1), (4, .long q.2.1), (6, .long q.2.2)]) hx hb dX3_leavingRow_87 hl (by decide) rfl (fun ls hl => ?_)
                refine lv_lload hx hb dX3_leavingRow_89 (lv_at hl 1 rfl) ?_
                refine lv_lconst (v := 0) hx hb dX3_leavingRow_91 (by decide) ?_
                refine W.lcmp hx hb dX3_leavingRow_92 ?_
                refine lv_if_le (tgt := 125) hx hb dX3_leavingRow_93 (by decide) (fun c7 => ?_) (fun c7 => ?_)
                · skip
                  refine lv_iinc (v := nI (k + 1)) (lv' := [(8, .int (nI (k + 1))), (11, .long (absL (dRo S k 6))), (9, .long ((((-(dI S 7 k)) * d).toInt64) * (dRo S k c0))), (0, .ref (ad 0)), (1, .int (nI c0)), (2, .int d), (3, .int q.1), (4, .long q.2.1), (6, .long q.2.2)]) hx hb dX3_leavingRow_125 hl (k := 2) rfl (nI_1 _) (by decide) rfl (fun ls hl => ?_)
                  refine lv_goto (tgt := 23) hx hb dX3_leavingRow_128 (by decide) ?_
                  have he : (fLv S c0 d) k q = (q.1, q.2.1, q.2.2) := by simp [fLv, c1, c5, c6, c7, c2, c4]
                  rw [lpN_s, he] at hex
                  exact ih ((k + 1)) (q.1, q.2.1, q.2.2) _ _ _ (by omega) hP hD hS (lv_sub hl [0, 3, 4, 5, 6, 7, 8] rfl) hex
                · skip
                  refine lv_iload_n hx hb dX3_leavingRow_96 rfl (lv_at hl 6 rfl) ?_
                  refine lv_if_lt (tgt := 114) hx hb dX3_leavingRow_97 (by decide) (fun c8 => ?_) (fun c8 => ?_)
                  · skip
                    refine lv_iload hx hb dX3_leavingRow_114 (lv_at hl 2 rfl) ?_
                    refine lv_istore_n (lv' := [(3, .int (nI k)), (11, .long (absL (dRo S k 6))), (9, .long ((((-(dI S 7 k)) * d).toInt64) * (dRo S k c0))), (8, .int (nI k)), (0, .ref (ad 0)), (1, .int (nI c0)), (2, .int d), (4, .long q.2.1), (6, .long q.2.2)]) hx hb dX3_leavingRow_116 rfl hl (by decide) rfl (fun ls hl => ?_)
                    refine lv_lload hx hb dX3_leavingRow_117 (lv_at hl 1 rfl) ?_
                    refine lv_lstore (lv' := [(4, .long (absL (dRo S k 6))), (3, .int (nI k)), (11, .long (absL (dRo S k 6))), (9, .long ((((-(dI S 7 k)) * d).toInt64) * (dRo S k c0))), (8, .int (nI k)), (0, .ref (ad 0)), (1, .int (nI c0)), (2, .int d), (6, .long q.2.2)]) hx hb dX3_leavingRow_119 hl (by decide) rfl (fun ls hl => ?_)
                    refine lv_lload hx hb dX3_leavingRow_121 (lv_at hl 3 rfl) ?_
                    refine lv_lstore (lv' := [(6, .long ((((-(dI S 7 k)) * d).toInt64) * (dRo S k c0))), (4, .long (absL (dRo S k 6))), (3, .int (nI k)), (11, .long (absL (dRo S k 6))), (9, .long ((((-(dI S 7 k)) * d).toInt64) * (dRo S k c0))), (8, .int (nI k)), (0, .ref (ad 0)), (1, .int (nI c0)), (2, .int d)]) hx hb dX3_leavingRow_123 hl (by decide) rfl (fun ls hl => ?_)
                    refine lv_iinc (v := nI (k + 1)) (lv' := [(8, .int (nI (k + 1))), (6, .long ((((-(dI S 7 k)) * d).toInt64) * (dRo S k c0))), (4, .long (absL (dRo S k 6))), (3, .int (nI k)), (11, .long (absL (dRo S k 6))), (9, .long ((((-(dI S 7 k)) * d).toInt64) * (dRo S k c0))), (0, .ref (ad 0)), (1, .int (nI c0)), (2, .int d)]) hx hb dX3_leavingRow_125 hl (k := 5) rfl (nI_1 _) (by decide) rfl (fun ls hl => ?_)
                    refine lv_goto (tgt := 23) hx hb dX3_leavingRow_128 (by decide) ?_
                    have he : (fLv S c0 d) k q = (nI k, absL (dRo S k 6), (((-(dI S 7 k)) * d).toInt64) * (dRo S k c0)) := by simp [fLv, c1, c5, c6, c7, c8, c2, c4]
                    rw [lpN_s, he] at hex
                    exact ih ((k + 1)) (nI k, absL (dRo S k 6), (((-(dI S 7 k)) * d).toInt64) * (dRo S k c0)) _ _ _ (by omega) hP hD hS (lv_sub hl [0, 6, 7, 8, 3, 2, 1] rfl) hex
                  · skip
                    refine lv_lload hx hb dX3_leavingRow_100 (lv_at hl 0 rfl) ?_
                    refine lv_lload hx hb dX3_leavingRow_102 (lv_at hl 8 rfl) ?_
                    refine lv_lmul hx hb dX3_leavingRow_104 ?_
                    refine lv_lload hx hb dX3_leavingRow_105 (lv_at hl 7 rfl) ?_
                    refine lv_lload hx hb dX3_leavingRow_107 (lv_at hl 1 rfl) ?_
                    refine lv_lmul hx hb dX3_leavingRow_109 ?_
                    refine W.lcmp hx hb dX3_leavingRow_110 ?_
                    refine lv_if_ge (tgt := 125) hx hb dX3_leavingRow_111 (by decide) (fun c9 => ?_) (fun c9 => ?_)
                    · skip
                      refine lv_iinc (v := nI (k + 1)) (lv' := [(8, .int (nI (k + 1))), (11, .long (absL (dRo S k 6))), (9, .long ((((-(dI S 7 k)) * d).toInt64) * (dRo S k c0))), (0, .ref (ad 0)), (1, .int (nI c0)), (2, .int d), (3, .int q.1), (4, .long q.2.1), (6, .long q.2.2)]) hx hb dX3_leavingRow_125 hl (k := 2) rfl (nI_1 _) (by decide) rfl (fun ls hl => ?_)
                      refine lv_goto (tgt := 23) hx hb dX3_leavingRow_128 (by decide) ?_
                      have he : (fLv S c0 d) k q = (q.1, q.2.1, q.2.2) := by simp [fLv, c1, c5, c6, c7, c8, c9, (Int32.not_lt.mpr c9), c2, c4]
                      rw [lpN_s, he] at hex
                      exact ih ((k + 1)) (q.1, q.2.1, q.2.2) _ _ _ (by omega) hP hD hS (lv_sub hl [0, 3, 4, 5, 6, 7, 8] rfl) hex
                    · skip
                      refine lv_iload hx hb dX3_leavingRow_114 (lv_at hl 2 rfl) ?_
                      refine lv_istore_n (lv' := [(3, .int (nI k)), (11, .long (absL (dRo S k 6))), (9, .long ((((-(dI S 7 k)) * d).toInt64) * (dRo S k c0))), (8, .int (nI k)), (0, .ref (ad 0)), (1, .int (nI c0)), (2, .int d), (4, .long q.2.1), (6, .long q.2.2)]) hx hb dX3_leavingRow_116 rfl hl (by decide) rfl (fun ls hl => ?_)
                      refine lv_lload hx hb dX3_leavingRow_117 (lv_at hl 1 rfl) ?_
                      refine lv_lstore (lv' := [(4, .long (absL (dRo S k 6))), (3, .int (nI k)), (11, .long (absL (dRo S k 6))), (9, .long ((((-(dI S 7 k)) * d).toInt64) * (dRo S k c0))), (8, .int (nI k)), (0, .ref (ad 0)), (1, .int (nI c0)), (2, .int d), (6, .long q.2.2)]) hx hb dX3_leavingRow_119 hl (by decide) rfl (fun ls hl => ?_)
                      refine lv_lload hx hb dX3_leavingRow_121 (lv_at hl 3 rfl) ?_
                      refine lv_lstore (lv' := [(6, .long ((((-(dI S 7 k)) * d).toInt64) * (dRo S k c0))), (4, .long (absL (dRo S k 6))), (3, .int (nI k)), (11, .long (absL (dRo S k 6))), (9, .long ((((-(dI S 7 k)) * d).toInt64) * (dRo S k c0))), (8, .int (nI k)), (0, .ref (ad 0)), (1, .int (nI c0)), (2, .int d)]) hx hb dX3_leavingRow_123 hl (by decide) rfl (fun ls hl => ?_)
                      refine lv_iinc (v := nI (k + 1)) (lv' := [(8, .int (nI (k + 1))), (6, .long ((((-(dI S 7 k)) * d).toInt64) * (dRo S k c0))), (4, .long (absL (dRo S k 6))), (3, .int (nI k)), (11, .long (absL (dRo S k 6))), (9, .long ((((-(dI S 7 k)) * d).toInt64) * (dRo S k c0))), (0, .ref (ad 0)), (1, .int (nI c0)), (2, .int d)]) hx hb dX3_leavingRow_125 hl (k := 5) rfl (nI_1 _) (by decide) rfl (fun ls hl => ?_)
                      refine lv_goto (tgt := 23) hx hb dX3_leavingRow_128 (by decide) ?_
                      have he : (fLv S c0 d) k q = (nI k, absL (dRo S k 6), (((-(dI S 7 k)) * d).toInt64) * (dRo S k c0)) := by simp [fLv, c1, c5, c6, c7, c8, c9, (Int32.not_le.mp c9), c2, c4]
                      rw [lpN_s, he] at hex
                      exact ih ((k + 1)) (nI k, absL (dRo S k 6), (((-(dI S 7 k)) * d).toInt64) * (dRo S k c0)) _ _ _ (by omega) hP hD hS (lv_sub hl [0, 6, 7, 8, 3, 2, 1] rfl) hex
      refine L23 27 0 (-1, 0, 1) _ _ _ (by omega) hP hD hS (lv_sub hl [0, 4, 5, 6, 3, 2, 1] rfl) (fun H locs ls hP hD hS hl => ?_)
      refine lv_iload_n hx hb dX3_leavingRow_131 rfl (lv_at hl 4 rfl) ?_
      exact W.iret hx hb hr (fun t ht hW => ⟨⟨_, _, rfl, ⟨rfl, rfl⟩, by rw [ht]; exact hP, va_K.moved hW.alike hK, hD⟩, hS.F ht⟩) hS.2.2 dX3_leavingRow_132
    · exact absurd c2 (by rw [nI_ltI (by omega) (by omega)]; omega)
set_option maxHeartbeats 4000000 in
set_option maxRecDepth 100000 in
theorem cD_substitute (l : Launch) (D : va_G) (cy : Nat → ClassId) (ad : Nat → Nat) (X : va_W) (S : DS) (sz : Nat) {k a c0 : Nat} (hk : k < 27) (ha : a < 27) (hc0 : c0 < 6) : Met l yX3_substitute wsX3_substitute (rm9 0 0) (dPc D cy ad X S sz [.ref (ad 0), .ref (ad (11 + k)), .ref (ad (11 + a)), .int (nI c0)]) (dQv D cy ad X S sz (fun S' => S' = kSub S k a c0)) 0 0 (dA cy ad X S sz) := by
  refine dHead (cc := cX3_substitute) (maxL := 11) (ret := none) (by decide) rfl (Nat.le_of_ble_eq_true rfl) ?_
  intro p e s m below meth c ls hx hb hr hlocks hml hown hts hsz hP hK hD hS hA hl
  have hin : ∀ w ∈ u_ws RX3 TX3 12, w ∈ wsX3_substitute := by decide +kernel
  have hown : s.vm.findClass RX3 = some m.cls := hown
  have hl : lv_has ls 11 [(0, .ref (ad 0)), (1, .ref (ad (11 + k))), (2, .ref (ad (11 + a))), (3, .int (nI c0))] := hl
  refine lv_iload_n hx hb dX3_substitute_0 rfl (lv_at hl 3 rfl) ?_
  refine lv_if_lt (tgt := 24) hx hb dX3_substitute_1 (by decide) (fun c1 => ?_) (fun c1 => ?_)
  · exact absurd c1 (nI_pos (by omega))
  · skip
    refine lv_iload_n hx hb dX3_substitute_4 rfl (lv_at hl 3 rfl) ?_
    refine lv_bipush (v := nI 6) hx hb dX3_substitute_5 (by decide) ?_
    refine lv_icmp_ge (tgt := 24) hx hb dX3_substitute_7 (by decide) (fun c2 => ?_) (fun c2 => ?_)
    · exact absurd c2 (by rw [nI_leI (by omega) (by omega)]; omega)
    · rw [nI_leI (by omega) (by omega)] at c2
      refine lv_aload_n hx hb dX3_substitute_10 rfl (lv_at hl 1 rfl) ?_
      refine rD_alen (n := k) hx hb hK hP (by omega) dX3_substitute_11 ?_
      refine lv_bipush (v := nI 6) hx hb dX3_substitute_12 (by decide) ?_
      refine lv_icmp_le (tgt := 24) hx hb dX3_substitute_14 (by decide) (fun c3 => ?_) (fun c3 => ?_)
      · exact absurd c3 (by rw [nI_leI (by omega) (by omega)]; omega)
      · rw [nI_leI (by omega) (by omega)] at c3
        refine lv_aload_n hx hb dX3_substitute_17 rfl (lv_at hl 2 rfl) ?_
        refine rD_alen (n := a) hx hb hK hP (by omega) dX3_substitute_18 ?_
        refine lv_bipush (v := nI 6) hx hb dX3_substitute_19 (by decide) ?_
        refine lv_icmp_gt (tgt := 25) hx hb dX3_substitute_21 (by decide) (fun c4 => ?_) (fun c4 => ?_)
        · rw [nI_ltI (by omega) (by omega)] at c4
          refine lv_aload_n hx hb dX3_substitute_25 rfl (lv_at hl 2 rfl) ?_
          refine lv_iload_n hx hb dX3_substitute_26 rfl (lv_at hl 3 rfl) ?_
          refine rD_lld (n := a) (i := c0) hx hb hK hP (by omega) (by omega) dX3_substitute_27 ?_
          refine lv_lstore (lv' := [(4, .long (dRo S a c0)), (0, .ref (ad 0)), (1, .ref (ad (11 + k))), (2, .ref (ad (11 + a))), (3, .int (nI c0))]) hx hb dX3_substitute_28 hl (by decide) rfl (fun ls hl => ?_)
          have J45 : ∀ (ns : Int64) (H : Heap) (locs : List Loc) (ls : Array Slot), ns = kNs S a c0 → va_P D vwCl (wD cy ad S ++ X) H → va_D (dA cy ad X S sz) (wD cy ad S ++ X) → va_S (dA cy ad X S sz) s.heap H locs → lv_has ls 11 [(0, .ref (ad 0)), (1, .ref (ad (11 + k))), (2, .ref (ad (11 + a))), (3, .int (nI c0)), (4, .long (dRo S a c0))] → W p l e (headSpec wsX3_substitute (rm9 0 0)).room s m ([.ref (ad 0), .ref (ad (11 + k)), .ref (ad (11 + a)), .int (nI c0)] : List Value).toArray below meth c H locs 0 0 (MQ below (dQv D cy ad X S sz (fun S' => S' = kSub S k a c0)) ([.ref (ad 0), .ref (ad (11 + k)), .ref (ad (11 + a)), .int (nI c0)] : List Value).toArray s 0 0 (dA cy ad X S sz)) (F0 m 45 ls [.long ns]) := by
            intro ns H locs ls hns hP hD hS hl
            refine lv_lstore (lv' := [(6, .long ns), (0, .ref (ad 0)), (1, .ref (ad (11 + k))), (2, .ref (ad (11 + a))), (3, .int (nI c0)), (4, .long (dRo S a c0))]) hx hb dX3_substitute_45 hl (by decide) rfl (fun ls hl => ?_)
            have J64 : ∀ (fa : Int64) (H : Heap) (locs : List Loc) (ls : Array Slot), fa = kFa S k a c0 → va_P D vwCl (wD cy ad S ++ X) H → va_D (dA cy ad X S sz) (wD cy ad S ++ X) → va_S (dA cy ad X S sz) s.heap H locs → lv_has ls 11 [(0, .ref (ad 0)), (1, .ref (ad (11 + k))), (2, .ref (ad (11 + a))), (3, .int (nI c0)), (4, .long (dRo S a c0)), (6, .long ns)] → W p l e (headSpec wsX3_substitute (rm9 0 0)).room s m ([.ref (ad 0), .ref (ad (11 + k)), .ref (ad (11 + a)), .int (nI c0)] : List Value).toArray below meth c H locs 0 0 (MQ below (dQv D cy ad X S sz (fun S' => S' = kSub S k a c0)) ([.ref (ad 0), .ref (ad (11 + k)), .ref (ad (11 + a)), .int (nI c0)] : List Value).toArray s 0 0 (dA cy ad X S sz)) (F0 m 64 ls [.long fa]) := by
              intro fa H locs ls hfa hP hD hS hl
              refine lv_lstore (lv' := [(8, .long fa), (0, .ref (ad 0)), (1, .ref (ad (11 + k))), (2, .ref (ad (11 + a))), (3, .int (nI c0)), (4, .long (dRo S a c0)), (6, .long ns)]) hx hb dX3_substitute_64 hl (by decide) rfl (fun ls hl => ?_)
              refine lv_aload_n hx hb dX3_substitute_66 rfl (lv_at hl 1 rfl) ?_
              refine rD_get (v := .long (dSc S)) hx hb hts hin hown hK hP 1 (by decide) rfl (by decide +kernel) dX3_substitute_67 ?_
              refine lv_lconst (v := 0) hx hb dX3_substitute_70 (by decide) ?_
              refine W.lcmp hx hb dX3_substitute_71 ?_
              refine lv_if_eq (tgt := 92) hx hb dX3_substitute_72 (by decide) (fun c5 => ?_) (fun c5 => ?_)
              · skip
                exact W.vret hx hb hr (fun t ht hW => ⟨⟨_, rfl, by simp only [kSub, ← hns, ← hfa]; simp [c1, c5, c2, c3, c4], by rw [ht]; exact hP, va_K.moved hW.alike hK, hD⟩, hS.F ht⟩) hS.2.2 dX3_substitute_92
              · skip
                refine lv_lload hx hb dX3_substitute_75 (lv_at hl 0 rfl) ?_
                refine lv_lconst (v := 0) hx hb dX3_substitute_77 (by decide) ?_
                refine W.lcmp hx hb dX3_substitute_78 ?_
                refine lv_if_ne (tgt := 93) hx hb dX3_substitute_79 (by decide) (fun c6 => ?_) (fun c6 => ?_)
                · skip
                  refine lv_iconst (v := nI 0) hx hb dX3_substitute_93 (by decide) ?_
                  refine lv_istore (lv' := [(10, .int (nI 0)), (8, .long fa), (0, .ref (ad 0)), (1, .ref (ad (11 + k))), (2, .ref (ad (11 + a))), (3, .int (nI c0)), (4, .long (dRo S a c0)), (6, .long ns)]) hx hb dX3_substitute_94 hl (by decide) rfl (fun ls hl => ?_)
                  have L96 : ∀ (n j : Nat) (U : DS) (H : Heap) (locs : List Loc) (ls : Array Slot), j + n = 7 → dSc U = dSc S → va_P D vwCl (wD cy ad U ++ X) H → va_D (dA cy ad X S sz) (wD cy ad U ++ X) → va_S (dA cy ad X S sz) s.heap H locs → lv_has ls 11 [(10, .int (nI j)), (0, .ref (ad 0)), (1, .ref (ad (11 + k))), (2, .ref (ad (11 + a))), (3, .int (nI c0)), (4, .long (dRo S a c0)), (6, .long ns), (8, .long fa)] → (∀ (H : Heap) (locs : List Loc) (ls : Array Slot), dSc (lpN (fSub k a ns fa) n j U) = dSc S → va_P D vwCl (wD cy ad (lpN (fSub k a ns fa) n j U) ++ X) H → va_D (dA cy ad X S sz) (wD cy ad (lpN (fSub k a ns fa) n j U) ++ X) → va_S (dA cy ad X S sz) s.heap H locs → lv_has ls 11 [(10, .int (nI 7)), (0, .ref (ad 0)), (1, .ref (ad (11 + k))), (2, .ref (ad (11 + a))), (3, .int (nI c0)), (4, .long (dRo S a c0)), (6, .long ns), (8, .long fa)] → W p l e (headSpec wsX3_substitute (rm9 0 0)).room s m ([.ref (ad 0), .ref (ad (11 + k)), .ref (ad (11 + a)), .int (nI c0)] : List Value).toArray below meth c H locs 0 0 (MQ below (dQv D cy ad X S sz (fun S' => S' = kSub S k a c0)) ([.ref (ad 0), .ref (ad (11 + k)), .ref (ad (11 + a)), .int (nI c0)] : List Value).toArray s 0 0 (dA cy ad X S sz)) (F0 m 133 ls [])) → W p l e (headSpec wsX3_substitute (rm9 0 0)).room s m ([.ref (ad 0), .ref (ad (11 + k)), .ref (ad (11 + a)), .int (nI c0)] : List Value).toArray below meth c H locs 0 0 (MQ below (dQv D cy ad X S sz (fun S' => S' = kSub S k a c0)) ([.ref (ad 0), .ref (ad (11 + k)), .ref (ad (11 + a)), .int (nI c0)] : List Value).toArray s 0 0 (dA cy ad X S sz)) (F0 m 96 ls []) := by
                    intro n
                    induction n with
                    | zero =>
                      intro j U H locs ls hk hq hP hD hS hl hex
                      obtain rfl : 7 = j := by omega
                      refine lv_iload hx hb dX3_substitute_96 (lv_at hl 0 rfl) ?_
                      refine lv_bipush (v := nI 6) hx hb dX3_substitute_98 (by decide) ?_
                      refine lv_icmp_gt (tgt := 133) hx hb dX3_substitute_100 (by decide) (fun c7 => ?_) (fun c7 => ?_)
                      · rw [nI_ltI (by omega) (by omega)] at c7
                        exact hex _ _ _ hq hP hD hS (lv_sub hl [0, 1, 2, 3, 4, 5, 6, 7] rfl)
                      · exact absurd c7 (by rw [nI_ltI (by omega) (by omega)]; omega)
                    | succ n ih =>
                      intro j U H locs ls hk hq hP hD hS hl hex
                      have hk96 : j < 7 := by omega
                      refine lv_iload hx hb dX3_substitute_96 (lv_at hl 0 rfl) ?_
                      refine lv_bipush (v := nI 6) hx hb dX3_substitute_98 (by decide) ?_
                      refine lv_icmp_gt (tgt := 133) hx hb dX3_substitute_100 (by decide) (fun c8 => ?_) (fun c8 => ?_)
                      · exact absurd c8 (by rw [nI_ltI (by omega) (by omega)]; omega)
                      · rw [nI_ltI (by omega) (by omega)] at c8
                        refine lv_aload_n hx hb dX3_substitute_103 rfl (lv_at hl 2 rfl) ?_
                        refine lv_iload hx hb dX3_substitute_104 (lv_at hl 0 rfl) ?_
                        refine lv_aload_n hx hb dX3_substitute_106 rfl (lv_at hl 2 rfl) ?_
                        refine lv_iload hx hb dX3_substitute_107 (lv_at hl 0 rfl) ?_
                        refine rD_lld (n := k) (i := j) hx hb hK hP (by omega) (by omega) dX3_substitute_109 ?_
                        refine lv_lload hx hb dX3_substitute_110 (lv_at hl 6 rfl) ?_
                        refine lv_lmul hx hb dX3_substitute_112 ?_
                        refine lv_lload hx hb dX3_substitute_113 (lv_at hl 7 rfl) ?_
                        refine lv_aload_n hx hb dX3_substitute_115 rfl (lv_at hl 3 rfl) ?_
                        refine lv_iload hx hb dX3_substitute_116 (lv_at hl 0 rfl) ?_
                        refine rD_lld (n := a) (i := j) hx hb hK hP (by omega) (by omega) dX3_substitute_118 ?_
                        refine lv_lmul hx hb dX3_substitute_119 ?_
                        refine lv_lsub hx hb dX3_substitute_120 ?_
                        refine lv_aload_n hx hb dX3_substitute_121 rfl (lv_at hl 1 rfl) ?_
                        refine rD_get (v := .long (dSc U)) hx hb hts hin hown hK hP 1 (by decide) rfl (by decide +kernel) dX3_substitute_122 ?_
                        refine lv_ldiv hx hb dX3_substitute_125 (by rw [show dSc U = dSc S from hq]; exact lc0 c5) ?_
                        refine rD_lst (n := k) (i := j) hx hb hK hP hD hS (by omega) (by omega) dX3_substitute_126 (fun H locs hP hD hS => ?_)
                        refine lv_iinc (v := nI (j + 1)) (lv' := [(10, .int (nI (j + 1))), (0, .ref (ad 0)), (1, .ref (ad (11 + k))), (2, .ref (ad (11 + a))), (3, .int (nI c0)), (4, .long (dRo S a c0)), (6, .long ns), (8, .long fa)]) hx hb dX3_substitute_127 hl (k := 0) rfl (nI_1 _) (by decide) rfl (fun ls hl => ?_)
                        refine lv_goto (tgt := 96) hx hb dX3_substitute_130 (by decide) ?_
                        have he : (fSub k a ns fa) j U = (sRo U k j ((((dRo U k j) * ns) - (fa * (dRo U a j))) / (dSc U))) := rfl
                        rw [lpN_s, he] at hex
                        exact ih ((j + 1)) (sRo U k j ((((dRo U k j) * ns) - (fa * (dRo U a j))) / (dSc U))) _ _ _ (by omega) hq hP hD hS (lv_sub hl [0, 1, 2, 3, 4, 5, 6, 7] rfl) hex
                  refine L96 7 0 S _ _ _ (by omega) rfl hP hD hS (lv_sub hl [0, 2, 3, 4, 5, 6, 7, 1] rfl) (fun H locs ls hq hP hD hS hl => ?_)
                  refine lv_aload_n hx hb dX3_substitute_133 rfl (lv_at hl 2 rfl) ?_
                  refine lv_iload_n hx hb dX3_substitute_134 rfl (lv_at hl 4 rfl) ?_
                  refine lv_lload hx hb dX3_substitute_135 (lv_at hl 7 rfl) ?_
                  refine rD_lst (n := k) (i := c0) hx hb hK hP hD hS (by omega) (by omega) dX3_substitute_137 (fun H locs hP hD hS => ?_)
                  exact W.vret hx hb hr (fun t ht hW => ⟨⟨_, rfl, by simp only [kSub, ← hns, ← hfa]; simp [c1, c5, c6, c2, c3, c4], by rw [ht]; exact hP, va_K.moved hW.alike hK, hD⟩, hS.F ht⟩) hS.2.2 dX3_substitute_138
                · skip
                  refine lv_lload hx hb dX3_substitute_82 (lv_at hl 6 rfl) ?_
                  refine lv_aload_n hx hb dX3_substitute_84 rfl (lv_at hl 1 rfl) ?_
                  refine rD_get (v := .long (dSc S)) hx hb hts hin hown hK hP 1 (by decide) rfl (by decide +kernel) dX3_substitute_85 ?_
                  refine W.lcmp hx hb dX3_substitute_88 ?_
                  refine lv_if_ne (tgt := 93) hx hb dX3_substitute_89 (by decide) (fun c9 => ?_) (fun c9 => ?_)
                  · skip
                    refine lv_iconst (v := nI 0) hx hb dX3_substitute_93 (by decide) ?_
                    refine lv_istore (lv' := [(10, .int (nI 0)), (8, .long fa), (0, .ref (ad 0)), (1, .ref (ad (11 + k))), (2, .ref (ad (11 + a))), (3, .int (nI c0)), (4, .long (dRo S a c0)), (6, .long ns)]) hx hb dX3_substitute_94 hl (by decide) rfl (fun ls hl => ?_)
                    have L96 : ∀ (n j : Nat) (U : DS) (H : Heap) (locs : List Loc) (ls : Array Slot), j + n = 7 → dSc U = dSc S → va_P D vwCl (wD cy ad U ++ X) H → va_D (dA cy ad X S sz) (wD cy ad U ++ X) → va_S (dA cy ad X S sz) s.heap H locs → lv_has ls 11 [(10, .int (nI j)), (0, .ref (ad 0)), (1, .ref (ad (11 + k))), (2, .ref (ad (11 + a))), (3, .int (nI c0)), (4, .long (dRo S a c0)), (6, .long ns), (8, .long fa)] → (∀ (H : Heap) (locs : List Loc) (ls : Array Slot), dSc (lpN (fSub k a ns fa) n j U) = dSc S → va_P D vwCl (wD cy ad (lpN (fSub k a ns fa) n j U) ++ X) H → va_D (dA cy ad X S sz) (wD cy ad (lpN (fSub k a ns fa) n j U) ++ X) → va_S (dA cy ad X S sz) s.heap H locs → lv_has ls 11 [(10, .int (nI 7)), (0, .ref (ad 0)), (1, .ref (ad (11 + k))), (2, .ref (ad (11 + a))), (3, .int (nI c0)), (4, .long (dRo S a c0)), (6, .long ns), (8, .long fa)] → W p l e (headSpec wsX3_substitute (rm9 0 0)).room s m ([.ref (ad 0), .ref (ad (11 + k)), .ref (ad (11 + a)), .int (nI c0)] : List Value).toArray below meth c H locs 0 0 (MQ below (dQv D cy ad X S sz (fun S' => S' = kSub S k a c0)) ([.ref (ad 0), .ref (ad (11 + k)), .ref (ad (11 + a)), .int (nI c0)] : List Value).toArray s 0 0 (dA cy ad X S sz)) (F0 m 133 ls [])) → W p l e (headSpec wsX3_substitute (rm9 0 0)).room s m ([.ref (ad 0), .ref (ad (11 + k)), .ref (ad (11 + a)), .int (nI c0)] : List Value).toArray below meth c H locs 0 0 (MQ below (dQv D cy ad X S sz (fun S' => S' = kSub S k a c0)) ([.ref (ad 0), .ref (ad (11 + k)), .ref (ad (11 + a)), .int (nI c0)] : List Value).toArray s 0 0 (dA cy ad X S sz)) (F0 m 96 ls []) := by
                      intro n
                      induction n with
                      | zero =>
                        intro j U H locs ls hk hq hP hD hS hl hex
                        obtain rfl : 7 = j := by omega
                        refine lv_iload hx hb dX3_substitute_96 (lv_at hl 0 rfl) ?_
                        refine lv_bipush (v := nI 6) hx hb dX3_substitute_98 (by decide) ?_
                        refine lv_icmp_gt (tgt := 133) hx hb dX3_substitute_100 (by decide) (fun c10 => ?_) (fun c10 => ?_)
                        · rw [nI_ltI (by omega) (by omega)] at c10
                          exact hex _ _ _ hq hP hD hS (lv_sub hl [0, 1, 2, 3, 4, 5, 6, 7] rfl)
                        · exact absurd c10 (by rw [nI_ltI (by omega) (by omega)]; omega)
                      | succ n ih =>
                        intro j U H locs ls hk hq hP hD hS hl hex
                        have hk96 : j < 7 := by omega
                        refine lv_iload hx hb dX3_substitute_96 (lv_at hl 0 rfl) ?_
                        refine lv_bipush (v := nI 6) hx hb dX3_substitute_98 (by decide) ?_
                        refine lv_icmp_gt (tgt := 133) hx hb dX3_substitute_100 (by decide) (fun c11 => ?_) (fun c11 => ?_)
                        · exact absurd c11 (by rw [nI_ltI (by omega) (by omega)]; omega)
                        · rw [nI_ltI (by omega) (by omega)] at c11
                          refine lv_aload_n hx hb dX3_substitute_103 rfl (lv_at hl 2 rfl) ?_
                          refine lv_iload hx hb dX3_substitute_104 (lv_at hl 0 rfl) ?_
                          refine lv_aload_n hx hb dX3_substitute_106 rfl (lv_at hl 2 rfl) ?_
                          refine lv_iload hx hb dX3_substitute_107 (lv_at hl 0 rfl) ?_
                          refine rD_lld (n := k) (i := j) hx hb hK hP (by omega) (by omega) dX3_substitute_109 ?_
                          refine lv_lload hx hb dX3_substitute_110 (lv_at hl 6 rfl) ?_
                          refine lv_lmul hx hb dX3_substitute_112 ?_
                          refine lv_lload hx hb dX3_substitute_113 (lv_at hl 7 rfl) ?_
                          refine lv_aload_n hx hb dX3_substitute_115 rfl (lv_at hl 3 rfl) ?_
                          refine lv_iload hx hb dX3_substitute_116 (lv_at hl 0 rfl) ?_
                          refine rD_lld (n := a) (i := j) hx hb hK hP (by omega) (by omega) dX3_substitute_118 ?_
                          refine lv_lmul hx hb dX3_substitute_119 ?_
                          refine lv_lsub hx hb dX3_substitute_120 ?_
                          refine lv_aload_n hx hb dX3_substitute_121 rfl (lv_at hl 1 rfl) ?_
                          refine rD_get (v := .long (dSc U)) hx hb hts hin hown hK hP 1 (by decide) rfl (by decide +kernel) dX3_substitute_122 ?_
                          refine lv_ldiv hx hb dX3_substitute_125 (by rw [show dSc U = dSc S from hq]; exact lc0 c5) ?_
                          refine rD_lst (n := k) (i := j) hx hb hK hP hD hS (by omega) (by omega) dX3_substitute_126 (fun H locs hP hD hS => ?_)
                          refine lv_iinc (v := nI (j + 1)) (lv' := [(10, .int (nI (j + 1))), (0, .ref (ad 0)), (1, .ref (ad (11 + k))), (2, .ref (ad (11 + a))), (3, .int (nI c0)), (4, .long (dRo S a c0)), (6, .long ns), (8, .long fa)]) hx hb dX3_substitute_127 hl (k := 0) rfl (nI_1 _) (by decide) rfl (fun ls hl => ?_)
                          refine lv_goto (tgt := 96) hx hb dX3_substitute_130 (by decide) ?_
                          have he : (fSub k a ns fa) j U = (sRo U k j ((((dRo U k j) * ns) - (fa * (dRo U a j))) / (dSc U))) := rfl
                          rw [lpN_s, he] at hex
                          exact ih ((j + 1)) (sRo U k j ((((dRo U k j) * ns) - (fa * (dRo U a j))) / (dSc U))) _ _ _ (by omega) hq hP hD hS (lv_sub hl [0, 1, 2, 3, 4, 5, 6, 7] rfl) hex
                    refine L96 7 0 S _ _ _ (by omega) rfl hP hD hS (lv_sub hl [0, 2, 3, 4, 5, 6, 7, 1] rfl) (fun H locs ls hq hP hD hS hl => ?_)
                    refine lv_aload_n hx hb dX3_substitute_133 rfl (lv_at hl 2 rfl) ?_
                    refine lv_iload_n hx hb dX3_substitute_134 rfl (lv_at hl 4 rfl) ?_
                    refine lv_lload hx hb dX3_substitute_135 (lv_at hl 7 rfl) ?_
                    refine rD_lst (n := k) (i := c0) hx hb hK hP hD hS (by omega) (by omega) dX3_substitute_137 (fun H locs hP hD hS => ?_)
                    exact W.vret hx hb hr (fun t ht hW => ⟨⟨_, rfl, by simp only [kSub, ← hns, ← hfa]; simp [c1, c5, c6, c9, c2, c3, c4], by rw [ht]; exact hP, va_K.moved hW.alike hK, hD⟩, hS.F ht⟩) hS.2.2 dX3_substitute_138
                  · skip
                    exact W.vret hx hb hr (fun t ht hW => ⟨⟨_, rfl, by simp only [kSub, ← hns, ← hfa]; simp [c1, c5, c6, c9, c2, c3, c4], by rw [ht]; exact hP, va_K.moved hW.alike hK, hD⟩, hS.F ht⟩) hS.2.2 dX3_substitute_92
            refine lv_lload hx hb dX3_substitute_47 (lv_at hl 5 rfl) ?_
            refine lv_lconst (v := 0) hx hb dX3_substitute_49 (by decide) ?_
            refine W.lcmp hx hb dX3_substitute_50 ?_
            refine lv_if_ge (tgt := 61) hx hb dX3_substitute_51 (by decide) (fun c12 => ?_) (fun c12 => ?_)
            · skip
              refine lv_aload_n hx hb dX3_substitute_61 rfl (lv_at hl 2 rfl) ?_
              refine lv_iload_n hx hb dX3_substitute_62 rfl (lv_at hl 4 rfl) ?_
              refine rD_lld (n := k) (i := c0) hx hb hK hP (by omega) (by omega) dX3_substitute_63 ?_
              exact J64 _ _ _ _ (by simp [kFa, c1, c12, (Int32.not_lt.mpr c12), c2, c3, c4]) hP hD hS (lv_sub hl [1, 2, 3, 4, 5, 0] rfl)
            · skip
              refine lv_aload_n hx hb dX3_substitute_54 rfl (lv_at hl 2 rfl) ?_
              refine lv_iload_n hx hb dX3_substitute_55 rfl (lv_at hl 4 rfl) ?_
              refine rD_lld (n := k) (i := c0) hx hb hK hP (by omega) (by omega) dX3_substitute_56 ?_
              refine lv_lneg hx hb dX3_substitute_57 ?_
              refine lv_goto (tgt := 64) hx hb dX3_substitute_58 (by decide) ?_
              exact J64 _ _ _ _ (by simp [kFa, c1, c12, (Int32.not_le.mp c12), c2, c3, c4]) hP hD hS (lv_sub hl [1, 2, 3, 4, 5, 0] rfl)
          refine lv_lload hx hb dX3_substitute_30 (lv_at hl 0 rfl) ?_
          refine lv_lconst (v := 0) hx hb dX3_substitute_32 (by decide) ?_
          refine W.lcmp hx hb dX3_substitute_33 ?_
          refine lv_if_ge (tgt := 43) hx hb dX3_substitute_34 (by decide) (fun c13 => ?_) (fun c13 => ?_)
          · skip
            refine lv_lload hx hb dX3_substitute_43 (lv_at hl 0 rfl) ?_
            exact J45 _ _ _ _ (by simp [kNs, c1, c13, (Int32.not_lt.mpr c13), c2, c3, c4]) hP hD hS (lv_sub hl [1, 2, 3, 4, 0] rfl)
          · skip
            refine lv_lload hx hb dX3_substitute_37 (lv_at hl 0 rfl) ?_
            refine lv_lneg hx hb dX3_substitute_39 ?_
            refine lv_goto (tgt := 45) hx hb dX3_substitute_40 (by decide) ?_
            exact J45 _ _ _ _ (by simp [kNs, c1, c13, (Int32.not_le.mp c13), c2, c3, c4]) hP hD hS (lv_sub hl [1, 2, 3, 4, 0] rfl)
        · exact absurd c4 (by rw [nI_ltI (by omega) (by omega)]; omega)
