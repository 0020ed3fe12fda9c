/-! slopes, directions, the entering column -/
def kZ1 (L c : Nat) (S : DS) : DS := sSl S L c 0
def kZ2 (L : Nat) (S : DS) : DS := lpN (kZ1 L) 6 0 S
def kF1 (k : Nat) (S : DS) : DS := if dI S 2 k = 0 then S else if ¬ dI S 8 k = -1 then S else if dCt S ≤ dI S 4 k then S else kAdd S (dI S 4 k) k (if dI S 7 k ≤ 0 then -(dI S 6 k) else dI S 5 k)
/-- findSlopes -/
def kFind (S : DS) (aim sg : Int32) : DS := if aim = -1 then lpN kF1 27 0 (lpN kZ2 5 0 S) else kAdd (lpN kF1 27 0 (lpN kZ2 5 0 S)) (nI 4) aim.toNatClampNeg sg
/-- whether the row of a column has costs that count -/
def kHas (S : DS) (row : Int32) : Int32 := if row < 0 then nI 0 else if nI 27 ≤ row then nI 0 else if dCt S ≤ dI S 4 row.toNatClampNeg then nI 0 else nI 1
def kOwn (S : DS) (row : Int32) (L : Nat) : Int32 := if kHas S row = 0 then nI 0 else if ¬ dI S 4 row.toNatClampNeg = nI L then nI 0 else nI 1
def fDir (S : DS) (c : Nat) (row : Int32) (L : Nat) (q : Int32 × Int32) : Int32 × Int32 :=
  (if ¬ q.1 = 0 then q.1 else cmpL (if kOwn S row L = 0 then dSl S L c else dSl S L c + dSc S * (dI S 5 row.toNatClampNeg).toInt64) 0,
   if ¬ q.2 = 0 then q.2 else cmpL (if kOwn S row L = 0 then -dSl S L c else dSc S * (dI S 6 row.toNatClampNeg).toInt64 - dSl S L c) 0)
/-- directionOf -/
def kDir (S : DS) (c : Nat) : Int32 := if 0 ≤ (lpN (fDir S c (dI S 9 c)) 5 0 (nI 0, nI 0)).1 then (if 0 ≤ (lpN (fDir S c (dI S 9 c)) 5 0 (nI 0, nI 0)).2 then nI 0 else -1) else nI 1
theorem kHas_ne {S : DS} {row : Int32} (h : ¬ kHas S row = 0) : ∃ r : Nat, r < 27 ∧ row = nI r := by
  unfold kHas at h
  by_cases h1 : row < 0
  · rw [if_pos h1] at h; exact absurd nI_0 h
  by_cases h2 : nI 27 ≤ row
  · rw [if_neg h1, if_pos h2] at h; exact absurd nI_0 h
  exact ixN 27 h1 (Int32.not_le.mp h2) (by decide)
theorem kOwn_ne {S : DS} {row : Int32} {L : Nat} (h : ¬ kOwn S row L = 0) : ∃ r : Nat, r < 27 ∧ row = nI r := by
  unfold kOwn at h
  by_cases h1 : kHas S row = 0
  · rw [if_pos h1] at h; exact absurd nI_0 h
  exact kHas_ne h1
/-- enteringColumn -/
def fEnt (S : DS) (c : Nat) (f : Int32) : Int32 := if f < 0 then (if kDir S c = 0 then f else nI c) else if dI S 9 f.toNatClampNeg ≤ dI S 9 c then f else (if kDir S c = 0 then f else nI c)
def kEnt (S : DS) : Int32 := lpN (fEnt S) 6 0 (-1)
set_option maxHeartbeats 4000000 in
set_option maxRecDepth 100000 in
theorem cD_findSlopes (l : Launch) (D : va_G) (cy : Nat → ClassId) (ad : Nat → Nat) (X : va_W) (S : DS) (sz : Nat) (aim sg : Int32) (haim : aim = -1 ∨ ∃ a : Nat, a < 27 ∧ aim = nI a) : Met l yX3_findSlopes wsX3_findSlopes (rm9 1 24) (dPc D cy ad X S sz [.ref (ad 0), .int aim, .int sg]) (dQv D cy ad X S sz (fun S' => S' = kFind S aim sg)) 0 0 (dA cy ad X S sz) := by
  refine dHead (cc := cX3_findSlopes) (maxL := 5) (ret := none) (by decide) rfl (Nat.le_of_ble_eq_true rfl) ?_
  intro p e s m below meth c ls hx hb hr hlocks hml hown hts hsz hP hK hD hS hA hl
  have hin : ∀ w ∈ u_ws RX3 TX3 12, w ∈ wsX3_findSlopes := by decide +kernel
  have hown : s.vm.findClass RX3 = some m.cls := hown
  have hl : lv_has ls 5 [(0, .ref (ad 0)), (1, .int aim), (2, .int sg)] := hl
  refine lv_iconst (v := nI 0) hx hb dX3_findSlopes_0 (by decide) ?_
  refine lv_istore_n (lv' := [(3, .int (nI 0)), (0, .ref (ad 0)), (1, .int aim), (2, .int sg)]) hx hb dX3_findSlopes_1 rfl hl (by decide) rfl (fun ls hl => ?_)
  have L2 : ∀ (n i : Nat) (U : DS) (H : Heap) (locs : List Loc) (ls : Array Slot), i + n = 5 → va_P D vwCl (wD cy ad U ++ X) H → va_D (dA cy ad X S sz) (wD cy ad U ++ X) → va_S (dA cy ad X S sz) s.heap H locs → lv_has ls 5 [(3, .int (nI i)), (0, .ref (ad 0)), (1, .int aim), (2, .int sg)] → (∀ (H : Heap) (locs : List Loc) (ls : Array Slot), va_P D vwCl (wD cy ad (lpN (kZ2) n i U) ++ X) H → va_D (dA cy ad X S sz) (wD cy ad (lpN (kZ2) n i U) ++ X) → va_S (dA cy ad X S sz) s.heap H locs → lv_has ls 5 [(3, .int (nI 5)), (0, .ref (ad 0)), (1, .int aim), (2, .int sg)] → W p l e (headSpec wsX3_findSlopes (rm9 1 24)).room s m ([.ref (ad 0), .int aim, .int sg] : List Value).toArray below meth c H locs 0 0 (MQ below (dQv D cy ad X S sz (fun S' => S' = kFind S aim sg)) ([.ref (ad 0), .int aim, .int sg] : List Value).toArray s 0 0 (dA cy ad X S sz)) (F0 m 39 ls [])) → W p l e (headSpec wsX3_findSlopes (rm9 1 24)).room s m ([.ref (ad 0), .int aim, .int sg] : List Value).toArray below meth c H locs 0 0 (MQ below (dQv D cy ad X S sz (fun S' => S' = kFind S aim sg)) ([.ref (ad 0), .int aim, .int sg] : List Value).toArray s 0 0 (dA cy ad X S sz)) (F0 m 2 ls []) := by
    intro n
    induction n with
    | zero =>
      intro i U H locs ls hk hP hD hS hl hex
      obtain rfl : i = 5 := by omega
      refine lv_iload_n hx hb dX3_findSlopes_2 rfl (lv_at hl 0 rfl) ?_
      refine lv_iconst (v := nI 4) hx hb dX3_findSlopes_3 (by decide) ?_
      refine lv_icmp_gt (tgt := 39) hx hb dX3_findSlopes_4 (by decide) (fun c1 => ?_) (fun c1 => ?_)
      · rw [nI_ltI (by omega) (by omega)] at c1
        exact hex _ _ _ hP hD hS (lv_sub hl [0, 1, 2, 3] rfl)
      · exact absurd c1 (by rw [nI_ltI (by omega) (by omega)]; omega)
    | succ n ih =>
      intro i U H locs ls hk hP hD hS hl hex
      have hk2 : i < 5 := by omega
      refine lv_iload_n hx hb dX3_findSlopes_2 rfl (lv_at hl 0 rfl) ?_
      refine lv_iconst (v := nI 4) hx hb dX3_findSlopes_3 (by decide) ?_
      refine lv_icmp_gt (tgt := 39) hx hb dX3_findSlopes_4 (by decide) (fun c2 => ?_) (fun c2 => ?_)
      · exact absurd c2 (by rw [nI_ltI (by omega) (by omega)]; omega)
      · rw [nI_ltI (by omega) (by omega)] at c2
        refine lv_iconst (v := nI 0) hx hb dX3_findSlopes_7 (by decide) ?_
        refine lv_istore (lv' := [(4, .int (nI 0)), (3, .int (nI i)), (0, .ref (ad 0)), (1, .int aim), (2, .int sg)]) hx hb dX3_findSlopes_8 hl (by decide) rfl (fun ls hl => ?_)
        have L10 : ∀ (n j : Nat) (V : DS) (H : Heap) (locs : List Loc) (ls : Array Slot), j + n = 6 → va_P D vwCl (wD cy ad V ++ X) H → va_D (dA cy ad X S sz) (wD cy ad V ++ X) → va_S (dA cy ad X S sz) s.heap H locs → lv_has ls 5 [(4, .int (nI j)), (0, .ref (ad 0)), (1, .int aim), (2, .int sg), (3, .int (nI i))] → (∀ (H : Heap) (locs : List Loc) (ls : Array Slot), va_P D vwCl (wD cy ad (lpN (kZ1 i) n j V) ++ X) H → va_D (dA cy ad X S sz) (wD cy ad (lpN (kZ1 i) n j V) ++ X) → va_S (dA cy ad X S sz) s.heap H locs → lv_has ls 5 [(4, .int (nI 6)), (0, .ref (ad 0)), (1, .int aim), (2, .int sg), (3, .int (nI i))] → W p l e (headSpec wsX3_findSlopes (rm9 1 24)).room s m ([.ref (ad 0), .int aim, .int sg] : List Value).toArray below meth c H locs 0 0 (MQ below (dQv D cy ad X S sz (fun S' => S' = kFind S aim sg)) ([.ref (ad 0), .int aim, .int sg] : List Value).toArray s 0 0 (dA cy ad X S sz)) (F0 m 33 ls [])) → W p l e (headSpec wsX3_findSlopes (rm9 1 24)).room s m ([.ref (ad 0), .int aim, .int sg] : List Value).toArray below meth c H locs 0 0 (MQ below (dQv D cy ad X S sz (fun S' => S' = kFind S aim sg)) ([.ref (ad 0), .int aim, .int sg] : List Value).toArray s 0 0 (dA cy ad X S sz)) (F0 m 10 ls []) := by
          intro n
          induction n with
          | zero =>
            intro j V H locs ls hk hP hD hS hl hex
            obtain rfl : j = 6 := by omega
            refine lv_iload hx hb dX3_findSlopes_10 (lv_at hl 0 rfl) ?_
            refine lv_bipush (v := nI 6) hx hb dX3_findSlopes_12 (by decide) ?_
            refine lv_icmp_ge (tgt := 33) hx hb dX3_findSlopes_14 (by decide) (fun c3 => ?_) (fun c3 => ?_)
            · rw [nI_leI (by omega) (by omega)] at c3
              exact hex _ _ _ hP hD hS (lv_sub hl [0, 1, 2, 3, 4] rfl)
            · exact absurd c3 (by rw [nI_leI (by omega) (by omega)]; omega)
          | succ n ih =>
            intro j V H locs ls hk hP hD hS hl hex
            have hk10 : j < 6 := by omega
            refine lv_iload hx hb dX3_findSlopes_10 (lv_at hl 0 rfl) ?_
            refine lv_bipush (v := nI 6) hx hb dX3_findSlopes_12 (by decide) ?_
            refine lv_icmp_ge (tgt := 33) hx hb dX3_findSlopes_14 (by decide) (fun c4 => ?_) (fun c4 => ?_)
            · exact absurd c4 (by rw [nI_leI (by omega) (by omega)]; omega)
            · rw [nI_leI (by omega) (by omega)] at c4
              refine lv_aload_n hx hb dX3_findSlopes_17 rfl (lv_at hl 1 rfl) ?_
              refine rD_get (v := .ref (ad 10)) hx hb hts hin hown hK hP 10 (by decide) rfl (by decide +kernel) dX3_findSlopes_18 ?_
              refine lv_iload_n hx hb dX3_findSlopes_21 rfl (lv_at hl 4 rfl) ?_
              refine rD_slo (i := i) hx hb hK hP (by omega) dX3_findSlopes_22 ?_
              refine lv_iload hx hb dX3_findSlopes_23 (lv_at hl 0 rfl) ?_
              refine lv_lconst (v := 0) hx hb dX3_findSlopes_25 (by decide) ?_
              refine rD_sst (n := i) (i := j) hx hb hK hP hD hS (by omega) (by omega) dX3_findSlopes_26 (fun H locs hP hD hS => ?_)
              refine lv_iinc (v := nI (j + 1)) (lv' := [(4, .int (nI (j + 1))), (0, .ref (ad 0)), (1, .int aim), (2, .int sg), (3, .int (nI i))]) hx hb dX3_findSlopes_27 hl (k := 0) rfl (nI_1 _) (by decide) rfl (fun ls hl => ?_)
              refine lv_goto (tgt := 10) hx hb dX3_findSlopes_30 (by decide) ?_
              have he : (kZ1 i) j V = (sSl V i j 0) := rfl
              rw [lpN_s, he] at hex
              exact ih ((j + 1)) (sSl V i j 0) _ _ _ (by omega) hP hD hS (lv_sub hl [0, 1, 2, 3, 4] rfl) hex
        refine L10 6 0 U _ _ _ (by omega) hP hD hS (lv_sub hl [0, 2, 3, 4, 1] rfl) (fun H locs ls hP hD hS hl => ?_)
        refine lv_iinc (v := nI (i + 1)) (lv' := [(3, .int (nI (i + 1))), (4, .int (nI 6)), (0, .ref (ad 0)), (1, .int aim), (2, .int sg)]) hx hb dX3_findSlopes_33 hl (k := 4) rfl (nI_1 _) (by decide) rfl (fun ls hl => ?_)
        refine lv_goto (tgt := 2) hx hb dX3_findSlopes_36 (by decide) ?_
        have he : (kZ2) i U = (lpN (kZ1 i) 6 0 U) := rfl
        rw [lpN_s, he] at hex
        exact ih ((i + 1)) (lpN (kZ1 i) 6 0 U) _ _ _ (by omega) hP hD hS (lv_sub hl [0, 2, 3, 4] rfl) hex
  refine L2 5 0 S _ _ _ (by omega) hP hD hS (lv_sub hl [0, 1, 2, 3] rfl) (fun H locs ls hP hD hS hl => ?_)
  refine lv_iconst (v := nI 0) hx hb dX3_findSlopes_39 (by decide) ?_
  refine lv_istore_n (lv' := [(3, .int (nI 0)), (0, .ref (ad 0)), (1, .int aim), (2, .int sg)]) hx hb dX3_findSlopes_40 rfl hl (by decide) rfl (fun ls hl => ?_)
  have L41 : ∀ (n k : Nat) (U : DS) (H : Heap) (locs : List Loc) (ls : Array Slot), k + n = 27 → va_P D vwCl (wD cy ad U ++ X) H → va_D (dA cy ad X S sz) (wD cy ad U ++ X) → va_S (dA cy ad X S sz) s.heap H locs → lv_has ls 5 [(3, .int (nI k)), (0, .ref (ad 0)), (1, .int aim), (2, .int sg)] → (∀ (H : Heap) (locs : List Loc) (ls : Array Slot), va_P D vwCl (wD cy ad (lpN (kF1) n k U) ++ X) H → va_D (dA cy ad X S sz) (wD cy ad (lpN (kF1) n k U) ++ X) → va_S (dA cy ad X S sz) s.heap H locs → lv_has ls 5 [(3, .int (nI 27)), (0, .ref (ad 0)), (1, .int aim), (2, .int sg)] → W p l e (headSpec wsX3_findSlopes (rm9 1 24)).room s m ([.ref (ad 0), .int aim, .int sg] : List Value).toArray below meth c H locs 0 0 (MQ below (dQv D cy ad X S sz (fun S' => S' = kFind S aim sg)) ([.ref (ad 0), .int aim, .int sg] : List Value).toArray s 0 0 (dA cy ad X S sz)) (F0 m 121 ls [])) → W p l e (headSpec wsX3_findSlopes (rm9 1 24)).room s m ([.ref (ad 0), .int aim, .int sg] : List Value).toArray below meth c H locs 0 0 (MQ below (dQv D cy ad X S sz (fun S' => S' = kFind S aim sg)) ([.ref (ad 0), .int aim, .int sg] : List Value).toArray s 0 0 (dA cy ad X S sz)) (F0 m 41 ls []) := by
    intro n
    induction n with
    | zero =>
      intro k U H locs ls hk hP hD hS hl hex
      obtain rfl : k = 27 := by omega
      refine lv_iload_n hx hb dX3_findSlopes_41 rfl (lv_at hl 0 rfl) ?_
      refine lv_bipush (v := nI 27) hx hb dX3_findSlopes_42 (by decide) ?_
      refine lv_icmp_ge (tgt := 121) hx hb dX3_findSlopes_44 (by decide) (fun c5 => ?_) (fun c5 => ?_)
      · rw [nI_leI (by omega) (by omega)] at c5
        exact hex _ _ _ hP hD hS (lv_sub hl [0, 1, 2, 3] rfl)
      · exact absurd c5 (by rw [nI_leI (by omega) (by omega)]; omega)
    | succ n ih =>
      intro k U H locs ls hk hP hD hS hl hex
      have hk41 : k < 27 := by omega
      refine lv_iload_n hx hb dX3_findSlopes_41 rfl (lv_at hl 0 rfl) ?_
      refine lv_bipush (v := nI 27) hx hb dX3_findSlopes_42 (by decide) ?_
      refine lv_icmp_ge (tgt := 121) hx hb dX3_findSlopes_44 (by decide) (fun c6 => ?_) (fun c6 => ?_)
      · exact absurd c6 (by rw [nI_leI (by omega) (by omega)]; omega)
      · rw [nI_leI (by omega) (by omega)] at c6
        refine lv_aload_n hx hb dX3_findSlopes_47 rfl (lv_at hl 1 rfl) ?_
        refine rD_get (v := .ref (ad 2)) hx hb hts hin hown hK hP 2 (by decide) rfl (by decide +kernel) dX3_findSlopes_48 ?_
        refine lv_iload_n hx hb dX3_findSlopes_51 rfl (lv_at hl 0 rfl) ?_
        refine rD_zld (i := k) hx hb hK hP (by omega) dX3_findSlopes_52 ?_
        refine lv_if_eq (tgt := 115) hx hb dX3_findSlopes_53 (by decide) (fun c7 => ?_) (fun c7 => ?_)
        · skip
          refine lv_iinc (v := nI (k + 1)) (lv' := [(3, .int (nI (k + 1))), (0, .ref (ad 0)), (1, .int aim), (2, .int sg)]) hx hb dX3_findSlopes_115 hl (k := 0) rfl (nI_1 _) (by decide) rfl (fun ls hl => ?_)
          refine lv_goto (tgt := 41) hx hb dX3_findSlopes_118 (by decide) ?_
          have he : (kF1) k U = U := by simp [kF1, c7, c6]
          rw [lpN_s, he] at hex
          exact ih ((k + 1)) U _ _ _ (by omega) hP hD hS (lv_sub hl [0, 1, 2, 3] rfl) hex
        · skip
          refine lv_aload_n hx hb dX3_findSlopes_56 rfl (lv_at hl 1 rfl) ?_
          refine rD_get (v := .ref (ad 8)) hx hb hts hin hown hK hP 8 (by decide) rfl (by decide +kernel) dX3_findSlopes_57 ?_
          refine lv_iload_n hx hb dX3_findSlopes_60 rfl (lv_at hl 0 rfl) ?_
          refine rD_ild (i := k) hx hb hK hP 8 (by decide) (by decide) (by omega) dX3_findSlopes_61 ?_
          refine lv_iconst (v := -1) hx hb dX3_findSlopes_62 (by decide) ?_
          refine lv_icmp_ne (tgt := 115) hx hb dX3_findSlopes_63 (by decide) (fun c8 => ?_) (fun c8 => ?_)
          · skip
            refine lv_iinc (v := nI (k + 1)) (lv' := [(3, .int (nI (k + 1))), (0, .ref (ad 0)), (1, .int aim), (2, .int sg)]) hx hb dX3_findSlopes_115 hl (k := 0) rfl (nI_1 _) (by decide) rfl (fun ls hl => ?_)
            refine lv_goto (tgt := 41) hx hb dX3_findSlopes_118 (by decide) ?_
            have he : (kF1) k U = U := by simp [kF1, c7, c8, c6]
            rw [lpN_s, he] at hex
            exact ih ((k + 1)) U _ _ _ (by omega) hP hD hS (lv_sub hl [0, 1, 2, 3] rfl) hex
          · skip
            refine lv_aload_n hx hb dX3_findSlopes_66 rfl (lv_at hl 1 rfl) ?_
            refine rD_get (v := .ref (ad 4)) hx hb hts hin hown hK hP 4 (by decide) rfl (by decide +kernel) dX3_findSlopes_67 ?_
            refine lv_iload_n hx hb dX3_findSlopes_70 rfl (lv_at hl 0 rfl) ?_
            refine rD_ild (i := k) hx hb hK hP 4 (by decide) (by decide) (by omega) dX3_findSlopes_71 ?_
            refine lv_aload_n hx hb dX3_findSlopes_72 rfl (lv_at hl 1 rfl) ?_
            refine rD_get (v := .int (dCt U)) hx hb hts hin hown hK hP 11 (by decide) rfl (by decide +kernel) dX3_findSlopes_73 ?_
            refine lv_icmp_ge (tgt := 115) hx hb dX3_findSlopes_76 (by decide) (fun c9 => ?_) (fun c9 => ?_)
            · skip
              refine lv_iinc (v := nI (k + 1)) (lv' := [(3, .int (nI (k + 1))), (0, .ref (ad 0)), (1, .int aim), (2, .int sg)]) hx hb dX3_findSlopes_115 hl (k := 0) rfl (nI_1 _) (by decide) rfl (fun ls hl => ?_)
              refine lv_goto (tgt := 41) hx hb dX3_findSlopes_118 (by decide) ?_
              have he : (kF1) k U = U := by simp [kF1, c7, c8, c9, c6]
              rw [lpN_s, he] at hex
              exact ih ((k + 1)) U _ _ _ (by omega) hP hD hS (lv_sub hl [0, 1, 2, 3] rfl) hex
            · skip
              refine lv_aload_n hx hb dX3_findSlopes_79 rfl (lv_at hl 1 rfl) ?_
              refine lv_aload_n hx hb dX3_findSlopes_80 rfl (lv_at hl 1 rfl) ?_
              refine rD_get (v := .ref (ad 4)) hx hb hts hin hown hK hP 4 (by decide) rfl (by decide +kernel) dX3_findSlopes_81 ?_
              refine lv_iload_n hx hb dX3_findSlopes_84 rfl (lv_at hl 0 rfl) ?_
              refine rD_ild (i := k) hx hb hK hP 4 (by decide) (by decide) (by omega) dX3_findSlopes_85 ?_
              refine lv_iload_n hx hb dX3_findSlopes_86 rfl (lv_at hl 0 rfl) ?_
              refine lv_aload_n hx hb dX3_findSlopes_87 rfl (lv_at hl 1 rfl) ?_
              refine rD_get (v := .ref (ad 7)) hx hb hts hin hown hK hP 7 (by decide) rfl (by decide +kernel) dX3_findSlopes_88 ?_
              refine lv_iload_n hx hb dX3_findSlopes_91 rfl (lv_at hl 0 rfl) ?_
              refine rD_ild (i := k) hx hb hK hP 7 (by decide) (by decide) (by omega) dX3_findSlopes_92 ?_
              refine lv_if_le (tgt := 105) hx hb dX3_findSlopes_93 (by decide) (fun c10 => ?_) (fun c10 => ?_)
              · skip
                refine lv_aload_n hx hb dX3_findSlopes_105 rfl (lv_at hl 1 rfl) ?_
                refine rD_get (v := .ref (ad 6)) hx hb hts hin hown hK hP 6 (by decide) rfl (by decide +kernel) dX3_findSlopes_106 ?_
                refine lv_iload_n hx hb dX3_findSlopes_109 rfl (lv_at hl 0 rfl) ?_
                refine rD_ild (i := k) hx hb hK hP 6 (by decide) (by decide) (by omega) dX3_findSlopes_110 ?_
                refine lv_ineg hx hb dX3_findSlopes_111 ?_
                refine dCallv (As := [.int (dI U 4 k), .int (nI k), .int (-(dI U 6 k))]) (rest := []) hx hb hml hown hts hK hP hD hS hA hl.1 (cD_addSlopes l D cy ad _ _ _ (k := k) (by omega) (dI U 4 k) (-(dI U 6 k))) (cwV 3 hts gX3_findSlopes_X3_addSlopes rfl rfl rfl (by decide +kernel) ⟨Nat.le_of_ble_eq_true rfl, Nat.le_of_ble_eq_true rfl⟩) rfl rfl (Nat.le_of_ble_eq_true rfl) ⟨Nat.le_of_ble_eq_true rfl, Nat.le_of_ble_eq_true rfl⟩ dX3_findSlopes_112 (fun S11 H locs e11 hP hD hS => ?_)
                rw [show S11 = _ from e11] at hP hD
                refine lv_iinc (v := nI (k + 1)) (lv' := [(3, .int (nI (k + 1))), (0, .ref (ad 0)), (1, .int aim), (2, .int sg)]) hx hb dX3_findSlopes_115 hl (k := 0) rfl (nI_1 _) (by decide) rfl (fun ls hl => ?_)
                refine lv_goto (tgt := 41) hx hb dX3_findSlopes_118 (by decide) ?_
                have he : (kF1) k U = (kAdd U (dI U 4 k) k (-(dI U 6 k))) := by simp [kF1, c7, c8, c9, c10, c6]
                rw [lpN_s, he] at hex
                exact ih ((k + 1)) (kAdd U (dI U 4 k) k (-(dI U 6 k))) _ _ _ (by omega) hP hD hS (lv_sub hl [0, 1, 2, 3] rfl) hex
              · skip
                refine lv_aload_n hx hb dX3_findSlopes_96 rfl (lv_at hl 1 rfl) ?_
                refine rD_get (v := .ref (ad 5)) hx hb hts hin hown hK hP 5 (by decide) rfl (by decide +kernel) dX3_findSlopes_97 ?_
                refine lv_iload_n hx hb dX3_findSlopes_100 rfl (lv_at hl 0 rfl) ?_
                refine rD_ild (i := k) hx hb hK hP 5 (by decide) (by decide) (by omega) dX3_findSlopes_101 ?_
                refine lv_goto (tgt := 112) hx hb dX3_findSlopes_102 (by decide) ?_
                refine dCallv (As := [.int (dI U 4 k), .int (nI k), .int (dI U 5 k)]) (rest := []) hx hb hml hown hts hK hP hD hS hA hl.1 (cD_addSlopes l D cy ad _ _ _ (k := k) (by omega) (dI U 4 k) (dI U 5 k)) (cwV 3 hts gX3_findSlopes_X3_addSlopes rfl rfl rfl (by decide +kernel) ⟨Nat.le_of_ble_eq_true rfl, Nat.le_of_ble_eq_true rfl⟩) rfl rfl (Nat.le_of_ble_eq_true rfl) ⟨Nat.le_of_ble_eq_true rfl, Nat.le_of_ble_eq_true rfl⟩ dX3_findSlopes_112 (fun S12 H locs e12 hP hD hS => ?_)
                rw [show S12 = _ from e12] at hP hD
                refine lv_iinc (v := nI (k + 1)) (lv' := [(3, .int (nI (k + 1))), (0, .ref (ad 0)), (1, .int aim), (2, .int sg)]) hx hb dX3_findSlopes_115 hl (k := 0) rfl (nI_1 _) (by decide) rfl (fun ls hl => ?_)
                refine lv_goto (tgt := 41) hx hb dX3_findSlopes_118 (by decide) ?_
                have he : (kF1) k U = (kAdd U (dI U 4 k) k (dI U 5 k)) := by simp [kF1, c7, c8, c9, c10, c6]
                rw [lpN_s, he] at hex
                exact ih ((k + 1)) (kAdd U (dI U 4 k) k (dI U 5 k)) _ _ _ (by omega) hP hD hS (lv_sub hl [0, 1, 2, 3] rfl) hex
  refine L41 27 0 (lpN (kZ2) 5 0 S) _ _ _ (by omega) hP hD hS (lv_sub hl [0, 1, 2, 3] rfl) (fun H locs ls hP hD hS hl => ?_)
  refine lv_iload_n hx hb dX3_findSlopes_121 rfl (lv_at hl 2 rfl) ?_
  refine lv_iconst (v := -1) hx hb dX3_findSlopes_122 (by decide) ?_
  refine lv_icmp_eq (tgt := 133) hx hb dX3_findSlopes_123 (by decide) (fun c13 => ?_) (fun c13 => ?_)
  · skip
    exact W.vret hx hb hr (fun t ht hW => ⟨⟨_, rfl, by simp only [kFind]; rw [if_pos (by assumption)], by rw [ht]; exact hP, va_K.moved hW.alike hK, hD⟩, hS.F ht⟩) hS.2.2 dX3_findSlopes_133
  · skip
    obtain ⟨a, ha, hae⟩ := haim.resolve_left c13
    rw [hae] at hl
    refine lv_aload_n hx hb dX3_findSlopes_126 rfl (lv_at hl 1 rfl) ?_
    refine lv_iconst (v := nI 4) hx hb dX3_findSlopes_127 (by decide) ?_
    refine lv_iload_n hx hb dX3_findSlopes_128 rfl (lv_at hl 2 rfl) ?_
    refine lv_iload_n hx hb dX3_findSlopes_129 rfl (lv_at hl 3 rfl) ?_
    refine dCallv (As := [.int (nI 4), .int (nI a), .int sg]) (rest := []) hx hb hml hown hts hK hP hD hS hA hl.1 (cD_addSlopes l D cy ad _ _ _ (k := a) (by omega) (nI 4) sg) (cwV 3 hts gX3_findSlopes_X3_addSlopes rfl rfl rfl (by decide +kernel) ⟨Nat.le_of_ble_eq_true rfl, Nat.le_of_ble_eq_true rfl⟩) rfl rfl (Nat.le_of_ble_eq_true rfl) ⟨Nat.le_of_ble_eq_true rfl, Nat.le_of_ble_eq_true rfl⟩ dX3_findSlopes_130 (fun S14 H locs e14 hP hD hS => ?_)
    rw [show S14 = _ from e14] at hP hD
    exact W.vret hx hb hr (fun t ht hW => ⟨⟨_, rfl, by have e9 : aim.toNatClampNeg = a := (by rw [hae, nI_clamp (by omega)]); simp only [kFind, e9]; rw [if_neg (by assumption)], by rw [ht]; exact hP, va_K.moved hW.alike hK, hD⟩, hS.F ht⟩) hS.2.2 dX3_findSlopes_133
set_option maxHeartbeats 4000000 in
set_option maxRecDepth 100000 in
theorem cD_directionOf (l : Launch) (D : va_G) (cy : Nat → ClassId) (ad : Nat → Nat) (X : va_W) (S : DS) (sz : Nat) {c0 : Nat} (hc0 : c0 < 6) : Met l yX3_directionOf wsX3_directionOf (rm9 1 23) (dPc D cy ad X S sz [.ref (ad 0), .int (nI c0)]) (dQi D cy ad X S sz (fun r S' => r = kDir S c0 ∧ S' = S)) 0 0 (dA cy ad X S sz) := by
  refine dHead (cc := cX3_directionOf) (maxL := 10) (ret := (some .int)) (by decide) rfl (Nat.le_of_ble_eq_true rfl) ?_
  intro p e s m below meth c ls hx hb hr hlocks hml hown hts hsz hP hK hD hS hA hl
  have hin : ∀ w ∈ u_ws RX3 TX3 12, w ∈ wsX3_directionOf := by decide +kernel
  have hown : s.vm.findClass RX3 = some m.cls := hown
  have hl : lv_has ls 10 [(0, .ref (ad 0)), (1, .int (nI c0))] := hl
  refine lv_iload_n hx hb dX3_directionOf_0 rfl (lv_at hl 1 rfl) ?_
  refine lv_if_lt (tgt := 10) hx hb dX3_directionOf_1 (by decide) (fun c1 => ?_) (fun c1 => ?_)
  · exact absurd c1 (nI_pos (by omega))
  · skip
    refine lv_iload_n hx hb dX3_directionOf_4 rfl (lv_at hl 1 rfl) ?_
    refine lv_bipush (v := nI 6) hx hb dX3_directionOf_5 (by decide) ?_
    refine lv_icmp_lt (tgt := 12) hx hb dX3_directionOf_7 (by decide) (fun c2 => ?_) (fun c2 => ?_)
    · rw [nI_ltI (by omega) (by omega)] at c2
      refine lv_aload_n hx hb dX3_directionOf_12 rfl (lv_at hl 0 rfl) ?_
      refine rD_get (v := .ref (ad 9)) hx hb hts hin hown hK hP 9 (by decide) rfl (by decide +kernel) dX3_directionOf_13 ?_
      refine lv_iload_n hx hb dX3_directionOf_16 rfl (lv_at hl 1 rfl) ?_
      refine rD_ild9 (i := c0) hx hb hK hP (by omega) dX3_directionOf_17 ?_
      refine lv_istore_n (lv' := [(2, .int (dI S 9 c0)), (0, .ref (ad 0)), (1, .int (nI c0))]) hx hb dX3_directionOf_18 rfl hl (by decide) rfl (fun ls hl => ?_)
      have J47 : ∀ (hc : Int32) (H : Heap) (locs : List Loc) (ls : Array Slot), hc = kHas S (dI S 9 c0) → va_P D vwCl (wD cy ad S ++ X) H → va_D (dA cy ad X S sz) (wD cy ad S ++ X) → va_S (dA cy ad X S sz) s.heap H locs → lv_has ls 10 [(0, .ref (ad 0)), (1, .int (nI c0)), (2, .int (dI S 9 c0))] → W p l e (headSpec wsX3_directionOf (rm9 1 23)).room s m ([.ref (ad 0), .int (nI c0)] : List Value).toArray below meth c H locs 0 0 (MQ below (dQi D cy ad X S sz (fun r S' => r = kDir S c0 ∧ S' = S)) ([.ref (ad 0), .int (nI c0)] : List Value).toArray s 0 0 (dA cy ad X S sz)) (F0 m 47 ls [.int hc]) := by
        intro hc H locs ls hhc hP hD hS hl
        refine lv_istore_n (lv' := [(3, .int hc), (0, .ref (ad 0)), (1, .int (nI c0)), (2, .int (dI S 9 c0))]) hx hb dX3_directionOf_47 rfl hl (by decide) rfl (fun ls hl => ?_)
        refine lv_iconst (v := nI 0) hx hb dX3_directionOf_48 (by decide) ?_
        refine lv_istore (lv' := [(4, .int (nI 0)), (3, .int hc), (0, .ref (ad 0)), (1, .int (nI c0)), (2, .int (dI S 9 c0))]) hx hb dX3_directionOf_49 hl (by decide) rfl (fun ls hl => ?_)
        refine lv_iconst (v := nI 0) hx hb dX3_directionOf_51 (by decide) ?_
        refine lv_istore (lv' := [(5, .int (nI 0)), (4, .int (nI 0)), (3, .int hc), (0, .ref (ad 0)), (1, .int (nI c0)), (2, .int (dI S 9 c0))]) hx hb dX3_directionOf_52 hl (by decide) rfl (fun ls hl => ?_)
        refine lv_iconst (v := nI 0) hx hb dX3_directionOf_54 (by decide) ?_
        refine lv_istore (lv' := [(6, .int (nI 0)), (5, .int (nI 0)), (4, .int (nI 0)), (3, .int hc), (0, .ref (ad 0)), (1, .int (nI c0)), (2, .int (dI S 9 c0))]) hx hb dX3_directionOf_55 hl (by decide) rfl (fun ls hl => ?_)
        have L57 : ∀ (n i : Nat) (q : Int32 × Int32) (H : Heap) (locs : List Loc) (ls : Array Slot), i + n = 5 → va_P D vwCl (wD cy ad S ++ X) H → va_D (dA cy ad X S sz) (wD cy ad S ++ X) → va_S (dA cy ad X S sz) s.heap H locs → lv_has ls 10 [(6, .int (nI i)), (0, .ref (ad 0)), (1, .int (nI c0)), (2, .int (dI S 9 c0)), (3, .int hc), (4, .int q.1), (5, .int q.2)] → (∀ (H : Heap) (locs : List Loc) (ls : Array Slot), va_P D vwCl (wD cy ad S ++ X) H → va_D (dA cy ad X S sz) (wD cy ad S ++ X) → va_S (dA cy ad X S sz) s.heap H locs → lv_has ls 10 [(6, .int (nI 5)), (0, .ref (ad 0)), (1, .int (nI c0)), (2, .int (dI S 9 c0)), (3, .int hc), (4, .int ((lpN (fDir S c0 (dI S 9 c0)) n i q).1)), (5, .int ((lpN (fDir S c0 (dI S 9 c0)) n i q).2))] → W p l e (headSpec wsX3_directionOf (rm9 1 23)).room s m ([.ref (ad 0), .int (nI c0)] : List Value).toArray below meth c H locs 0 0 (MQ below (dQi D cy ad X S sz (fun r S' => r = kDir S c0 ∧ S' = S)) ([.ref (ad 0), .int (nI c0)] : List Value).toArray s 0 0 (dA cy ad X S sz)) (F0 m 175 ls [])) → W p l e (headSpec wsX3_directionOf (rm9 1 23)).room s m ([.ref (ad 0), .int (nI c0)] : List Value).toArray below meth c H locs 0 0 (MQ below (dQi D cy ad X S sz (fun r S' => r = kDir S c0 ∧ S' = S)) ([.ref (ad 0), .int (nI c0)] : List Value).toArray s 0 0 (dA cy ad X S sz)) (F0 m 57 ls []) := by
          intro n
          induction n with
          | zero =>
            intro i q H locs ls hk hP hD hS hl hex
            obtain rfl : i = 5 := by omega
            refine lv_iload hx hb dX3_directionOf_57 (lv_at hl 0 rfl) ?_
            refine lv_iconst (v := nI 4) hx hb dX3_directionOf_59 (by decide) ?_
            refine lv_icmp_gt (tgt := 175) hx hb dX3_directionOf_60 (by decide) (fun c3 => ?_) (fun c3 => ?_)
            · rw [nI_ltI (by omega) (by omega)] at c3
              exact hex _ _ _ hP hD hS (lv_sub hl [0, 1, 2, 3, 4, 5, 6] rfl)
            · exact absurd c3 (by rw [nI_ltI (by omega) (by omega)]; omega)
          | succ n ih =>
            intro i q H locs ls hk hP hD hS hl hex
            have hk57 : i < 5 := by omega
            refine lv_iload hx hb dX3_directionOf_57 (lv_at hl 0 rfl) ?_
            refine lv_iconst (v := nI 4) hx hb dX3_directionOf_59 (by decide) ?_
            refine lv_icmp_gt (tgt := 175) hx hb dX3_directionOf_60 (by decide) (fun c4 => ?_) (fun c4 => ?_)
            · exact absurd c4 (by rw [nI_ltI (by omega) (by omega)]; omega)
            · rw [nI_ltI (by omega) (by omega)] at c4
              have J83 : ∀ (ow : Int32) (H : Heap) (locs : List Loc) (ls : Array Slot), ow = kOwn S (dI S 9 c0) i → va_P D vwCl (wD cy ad S ++ X) H → va_D (dA cy ad X S sz) (wD cy ad S ++ X) → va_S (dA cy ad X S sz) s.heap H locs → lv_has ls 10 [(0, .ref (ad 0)), (1, .int (nI c0)), (2, .int (dI S 9 c0)), (3, .int hc), (4, .int q.1), (5, .int q.2), (6, .int (nI i))] → W p l e (headSpec wsX3_directionOf (rm9 1 23)).room s m ([.ref (ad 0), .int (nI c0)] : List Value).toArray below meth c H locs 0 0 (MQ below (dQi D cy ad X S sz (fun r S' => r = kDir S c0 ∧ S' = S)) ([.ref (ad 0), .int (nI c0)] : List Value).toArray s 0 0 (dA cy ad X S sz)) (F0 m 83 ls [.int ow]) := by
                intro ow H locs ls how hP hD hS hl
                refine lv_istore (lv' := [(7, .int ow), (0, .ref (ad 0)), (1, .int (nI c0)), (2, .int (dI S 9 c0)), (3, .int hc), (4, .int q.1), (5, .int q.2), (6, .int (nI i))]) hx hb dX3_directionOf_83 hl (by decide) rfl (fun ls hl => ?_)
                refine lv_aload_n hx hb dX3_directionOf_85 rfl (lv_at hl 1 rfl) ?_
                refine rD_get (v := .ref (ad 10)) hx hb hts hin hown hK hP 10 (by decide) rfl (by decide +kernel) dX3_directionOf_86 ?_
                refine lv_iload hx hb dX3_directionOf_89 (lv_at hl 7 rfl) ?_
                refine rD_slo (i := i) hx hb hK hP (by omega) dX3_directionOf_91 ?_
                refine lv_iload_n hx hb dX3_directionOf_92 rfl (lv_at hl 2 rfl) ?_
                refine rD_sld (n := i) (i := c0) hx hb hK hP (by omega) (by omega) dX3_directionOf_93 ?_
                refine lv_lstore (lv' := [(8, .long (dSl S i c0)), (7, .int ow), (0, .ref (ad 0)), (1, .int (nI c0)), (2, .int (dI S 9 c0)), (3, .int hc), (4, .int q.1), (5, .int q.2), (6, .int (nI i))]) hx hb dX3_directionOf_94 hl (by decide) rfl (fun ls hl => ?_)
                refine lv_iload hx hb dX3_directionOf_96 (lv_at hl 6 rfl) ?_
                refine lv_if_ne (tgt := 132) hx hb dX3_directionOf_98 (by decide) (fun c5 => ?_) (fun c5 => ?_)
                · skip
                  refine lv_iload hx hb dX3_directionOf_132 (lv_at hl 7 rfl) ?_
                  refine lv_if_ne (tgt := 169) hx hb dX3_directionOf_134 (by decide) (fun c6 => ?_) (fun c6 => ?_)
                  · skip
                    refine lv_iinc (v := nI (i + 1)) (lv' := [(6, .int (nI (i + 1))), (8, .long (dSl S i c0)), (7, .int ow), (0, .ref (ad 0)), (1, .int (nI c0)), (2, .int (dI S 9 c0)), (3, .int hc), (4, .int q.1), (5, .int q.2)]) hx hb dX3_directionOf_169 hl (k := 8) rfl (nI_1 _) (by decide) rfl (fun ls hl => ?_)
                    refine lv_goto (tgt := 57) hx hb dX3_directionOf_172 (by decide) ?_
                    have he : (fDir S c0 (dI S 9 c0)) i q = (q.1, q.2) := by simp [fDir, ← how, c1, c5, c6, c2, c4]
                    rw [lpN_s, he] at hex
                    exact ih ((i + 1)) (q.1, q.2) _ _ _ (by omega) hP hD hS (lv_sub hl [0, 3, 4, 5, 6, 7, 8] rfl) hex
                  · skip
                    refine lv_iload hx hb dX3_directionOf_137 (lv_at hl 1 rfl) ?_
                    refine lv_if_eq (tgt := 160) hx hb dX3_directionOf_139 (by decide) (fun c7 => ?_) (fun c7 => ?_)
                    · skip
                      refine lv_lload hx hb dX3_directionOf_160 (lv_at hl 0 rfl) ?_
                      refine lv_lneg hx hb dX3_directionOf_162 ?_
                      refine lv_lconst (v := 0) hx hb dX3_directionOf_163 (by decide) ?_
                      refine pCalli (As := [.long (-(dSl S i c0)), .long 0]) (rest := []) hx hb hml hown hts hP hS hA hl.1 (cJ_cmp l _ (-(dSl S i c0)) 0) (va_cwS 2 hts gX3_directionOf_J13_compare_74951 rfl rfl rfl (by decide +kernel) ⟨Nat.le_of_ble_eq_true rfl, Nat.le_of_ble_eq_true rfl⟩) rfl rfl (Nat.le_of_ble_eq_true rfl) ⟨Nat.le_of_ble_eq_true rfl, Nat.le_of_ble_eq_true rfl⟩ dX3_directionOf_164 (fun r8 H locs e8 hP hS => ?_)
                      rw [show r8 = cmpL (-(dSl S i c0)) 0 from e8]
                      refine lv_istore (lv' := [(5, .int (cmpL (-(dSl S i c0)) 0)), (8, .long (dSl S i c0)), (7, .int ow), (0, .ref (ad 0)), (1, .int (nI c0)), (2, .int (dI S 9 c0)), (3, .int hc), (4, .int q.1), (6, .int (nI i))]) hx hb dX3_directionOf_167 hl (by decide) rfl (fun ls hl => ?_)
                      refine lv_iinc (v := nI (i + 1)) (lv' := [(6, .int (nI (i + 1))), (5, .int (cmpL (-(dSl S i c0)) 0)), (8, .long (dSl S i c0)), (7, .int ow), (0, .ref (ad 0)), (1, .int (nI c0)), (2, .int (dI S 9 c0)), (3, .int hc), (4, .int q.1)]) hx hb dX3_directionOf_169 hl (k := 8) rfl (nI_1 _) (by decide) rfl (fun ls hl => ?_)
                      refine lv_goto (tgt := 57) hx hb dX3_directionOf_172 (by decide) ?_
                      have he : (fDir S c0 (dI S 9 c0)) i q = (q.1, cmpL (-(dSl S i c0)) 0) := by simp [fDir, ← how, c1, c5, c6, c7, c2, c4]
                      rw [lpN_s, he] at hex
                      exact ih ((i + 1)) (q.1, cmpL (-(dSl S i c0)) 0) _ _ _ (by omega) hP hD hS (lv_sub hl [0, 4, 5, 6, 7, 8, 1] rfl) hex
                    · skip
                      obtain ⟨r, hr, hre⟩ := kOwn_ne (how ▸ c7)
                      have e8 : (dI S 9 c0).toNatClampNeg = r := (by rw [hre, nI_clamp (by omega)])
                      rw [hre] at hl
                      refine lv_aload_n hx hb dX3_directionOf_142 rfl (lv_at hl 2 rfl) ?_
                      refine rD_get (v := .long (dSc S)) hx hb hts hin hown hK hP 1 (by decide) rfl (by decide +kernel) dX3_directionOf_143 ?_
                      refine lv_aload_n hx hb dX3_directionOf_146 rfl (lv_at hl 2 rfl) ?_
                      refine rD_get (v := .ref (ad 6)) hx hb hts hin hown hK hP 6 (by decide) rfl (by decide +kernel) dX3_directionOf_147 ?_
                      refine lv_iload_n hx hb dX3_directionOf_150 rfl (lv_at hl 4 rfl) ?_
                      refine rD_ild (i := r) hx hb hK hP 6 (by decide) (by decide) (by omega) dX3_directionOf_151 ?_
                      refine lv_i2l hx hb dX3_directionOf_152 (v := (dI S 6 r).toInt64) rfl ?_
                      refine lv_lmul hx hb dX3_directionOf_153 ?_
                      refine lv_lload hx hb dX3_directionOf_154 (lv_at hl 0 rfl) ?_
                      refine lv_lsub hx hb dX3_directionOf_156 ?_
                      refine lv_goto (tgt := 163) hx hb dX3_directionOf_157 (by decide) ?_
                      refine lv_lconst (v := 0) hx hb dX3_directionOf_163 (by decide) ?_
                      refine pCalli (As := [.long (((dSc S) * ((dI S 6 r).toInt64)) - (dSl S i c0)), .long 0]) (rest := []) hx hb hml hown hts hP hS hA hl.1 (cJ_cmp l _ (((dSc S) * ((dI S 6 r).toInt64)) - (dSl S i c0)) 0) (va_cwS 2 hts gX3_directionOf_J13_compare_74951 rfl rfl rfl (by decide +kernel) ⟨Nat.le_of_ble_eq_true rfl, Nat.le_of_ble_eq_true rfl⟩) rfl rfl (Nat.le_of_ble_eq_true rfl) ⟨Nat.le_of_ble_eq_true rfl, Nat.le_of_ble_eq_true rfl⟩ dX3_directionOf_164 (fun r9 H locs e9 hP hS => ?_)
                      rw [show r9 = cmpL (((dSc S) * ((dI S 6 r).toInt64)) - (dSl S i c0)) 0 from e9]
                      refine lv_istore (lv' := [(5, .int (cmpL (((dSc S) * ((dI S 6 r).toInt64)) - (dSl S i c0)) 0)), (8, .long (dSl S i c0)), (7, .int ow), (0, .ref (ad 0)), (1, .int (nI c0)), (2, .int (nI r)), (3, .int hc), (4, .int q.1), (6, .int (nI i))]) hx hb dX3_directionOf_167 hl (by decide) rfl (fun ls hl => ?_)
                      refine lv_iinc (v := nI (i + 1)) (lv' := [(6, .int (nI (i + 1))), (5, .int (cmpL (((dSc S) * ((dI S 6 r).toInt64)) - (dSl S i c0)) 0)), (8, .long (dSl S i c0)), (7, .int ow), (0, .ref (ad 0)), (1, .int (nI c0)), (2, .int (nI r)), (3, .int hc), (4, .int q.1)]) hx hb dX3_directionOf_169 hl (k := 8) rfl (nI_1 _) (by decide) rfl (fun ls hl => ?_)
                      refine lv_goto (tgt := 57) hx hb dX3_directionOf_172 (by decide) ?_
                      rw [← hre] at hl
                      have he : (fDir S c0 (dI S 9 c0)) i q = (q.1, cmpL (((dSc S) * ((dI S 6 r).toInt64)) - (dSl S i c0)) 0) := by simp [fDir, ← how, c1, c5, c6, c7, c2, c4, e8]
                      rw [lpN_s, he] at hex
                      exact ih ((i + 1)) (q.1, cmpL (((dSc S) * ((dI S 6 r).toInt64)) - (dSl S i c0)) 0) _ _ _ (by omega) hP hD hS (lv_sub hl [0, 4, 5, 6, 7, 8, 1] rfl) hex
                · skip
                  refine lv_iload hx hb dX3_directionOf_101 (lv_at hl 1 rfl) ?_
                  refine lv_if_eq (tgt := 124) hx hb dX3_directionOf_103 (by decide) (fun c10 => ?_) (fun c10 => ?_)
                  · skip
                    refine lv_lload hx hb dX3_directionOf_124 (lv_at hl 0 rfl) ?_
                    refine lv_lconst (v := 0) hx hb dX3_directionOf_126 (by decide) ?_
                    refine pCalli (As := [.long (dSl S i c0), .long 0]) (rest := []) hx hb hml hown hts hP hS hA hl.1 (cJ_cmp l _ (dSl S i c0) 0) (va_cwS 2 hts gX3_directionOf_J13_compare_74951 rfl rfl rfl (by decide +kernel) ⟨Nat.le_of_ble_eq_true rfl, Nat.le_of_ble_eq_true rfl⟩) rfl rfl (Nat.le_of_ble_eq_true rfl) ⟨Nat.le_of_ble_eq_true rfl, Nat.le_of_ble_eq_true rfl⟩ dX3_directionOf_127 (fun r11 H locs e11 hP hS => ?_)
                    rw [show r11 = cmpL (dSl S i c0) 0 from e11]
                    refine lv_istore (lv' := [(4, .int (cmpL (dSl S i c0) 0)), (8, .long (dSl S i c0)), (7, .int ow), (0, .ref (ad 0)), (1, .int (nI c0)), (2, .int (dI S 9 c0)), (3, .int hc), (5, .int q.2), (6, .int (nI i))]) hx hb dX3_directionOf_130 hl (by decide) rfl (fun ls hl => ?_)
                    refine lv_iload hx hb dX3_directionOf_132 (lv_at hl 7 rfl) ?_
                    refine lv_if_ne (tgt := 169) hx hb dX3_directionOf_134 (by decide) (fun c12 => ?_) (fun c12 => ?_)
                    · skip
                      refine lv_iinc (v := nI (i + 1)) (lv' := [(6, .int (nI (i + 1))), (4, .int (cmpL (dSl S i c0) 0)), (8, .long (dSl S i c0)), (7, .int ow), (0, .ref (ad 0)), (1, .int (nI c0)), (2, .int (dI S 9 c0)), (3, .int hc), (5, .int q.2)]) hx hb dX3_directionOf_169 hl (k := 8) rfl (nI_1 _) (by decide) rfl (fun ls hl => ?_)
                      refine lv_goto (tgt := 57) hx hb dX3_directionOf_172 (by decide) ?_
                      have he : (fDir S c0 (dI S 9 c0)) i q = (cmpL (dSl S i c0) 0, q.2) := by simp [fDir, ← how, c1, c5, c10, c12, c2, c4]
                      rw [lpN_s, he] at hex
                      exact ih ((i + 1)) (cmpL (dSl S i c0) 0, q.2) _ _ _ (by omega) hP hD hS (lv_sub hl [0, 4, 5, 6, 7, 1, 8] rfl) hex
                    · skip
                      refine lv_iload hx hb dX3_directionOf_137 (lv_at hl 2 rfl) ?_
                      refine lv_if_eq (tgt := 160) hx hb dX3_directionOf_139 (by decide) (fun c13 => ?_) (fun c13 => ?_)
                      · skip
                        refine lv_lload hx hb dX3_directionOf_160 (lv_at hl 1 rfl) ?_
                        refine lv_lneg hx hb dX3_directionOf_162 ?_
                        refine lv_lconst (v := 0) hx hb dX3_directionOf_163 (by decide) ?_
                        refine pCalli (As := [.long (-(dSl S i c0)), .long 0]) (rest := []) hx hb hml hown hts hP hS hA hl.1 (cJ_cmp l _ (-(dSl S i c0)) 0) (va_cwS 2 hts gX3_directionOf_J13_compare_74951 rfl rfl rfl (by decide +kernel) ⟨Nat.le_of_ble_eq_true rfl, Nat.le_of_ble_eq_true rfl⟩) rfl rfl (Nat.le_of_ble_eq_true rfl) ⟨Nat.le_of_ble_eq_true rfl, Nat.le_of_ble_eq_true rfl⟩ dX3_directionOf_164 (fun r14 H locs e14 hP hS => ?_)
                        rw [show r14 = cmpL (-(dSl S i c0)) 0 from e14]
                        refine lv_istore (lv' := [(5, .int (cmpL (-(dSl S i c0)) 0)), (4, .int (cmpL (dSl S i c0) 0)), (8, .long (dSl S i c0)), (7, .int ow), (0, .ref (ad 0)), (1, .int (nI c0)), (2, .int (dI S 9 c0)), (3, .int hc), (6, .int (nI i))]) hx hb dX3_directionOf_167 hl (by decide) rfl (fun ls hl => ?_)
                        refine lv_iinc (v := nI (i + 1)) (lv' := [(6, .int (nI (i + 1))), (5, .int (cmpL (-(dSl S i c0)) 0)), (4, .int (cmpL (dSl S i c0) 0)), (8, .long (dSl S i c0)), (7, .int ow), (0, .ref (ad 0)), (1, .int (nI c0)), (2, .int (dI S 9 c0)), (3, .int hc)]) hx hb dX3_directionOf_169 hl (k := 8) rfl (nI_1 _) (by decide) rfl (fun ls hl => ?_)
                        refine lv_goto (tgt := 57) hx hb dX3_directionOf_172 (by decide) ?_
                        have he : (fDir S c0 (dI S 9 c0)) i q = (cmpL (dSl S i c0) 0, cmpL (-(dSl S i c0)) 0) := by simp [fDir, ← how, c1, c5, c13, c12, c2, c4]
                        rw [lpN_s, he] at hex
                        exact ih ((i + 1)) (cmpL (dSl S i c0) 0, cmpL (-(dSl S i c0)) 0) _ _ _ (by omega) hP hD hS (lv_sub hl [0, 5, 6, 7, 8, 2, 1] rfl) hex
                      · exact absurd c10 c13
                  · skip
                    obtain ⟨r, hr, hre⟩ := kOwn_ne (how ▸ c10)
                    have e8 : (dI S 9 c0).toNatClampNeg = r := (by rw [hre, nI_clamp (by omega)])
                    rw [hre] at hl
                    refine lv_lload hx hb dX3_directionOf_106 (lv_at hl 0 rfl) ?_
                    refine lv_aload_n hx hb dX3_directionOf_108 rfl (lv_at hl 2 rfl) ?_
                    refine rD_get (v := .long (dSc S)) hx hb hts hin hown hK hP 1 (by decide) rfl (by decide +kernel) dX3_directionOf_109 ?_
                    refine lv_aload_n hx hb dX3_directionOf_112 rfl (lv_at hl 2 rfl) ?_
                    refine rD_get (v := .ref (ad 5)) hx hb hts hin hown hK hP 5 (by decide) rfl (by decide +kernel) dX3_directionOf_113 ?_
                    refine lv_iload_n hx hb dX3_directionOf_116 rfl (lv_at hl 4 rfl) ?_
                    refine rD_ild (i := r) hx hb hK hP 5 (by decide) (by decide) (by omega) dX3_directionOf_117 ?_
                    refine lv_i2l hx hb dX3_directionOf_118 (v := (dI S 5 r).toInt64) rfl ?_
                    refine lv_lmul hx hb dX3_directionOf_119 ?_
                    refine lv_ladd hx hb dX3_directionOf_120 ?_
                    refine lv_goto (tgt := 126) hx hb dX3_directionOf_121 (by decide) ?_
                    refine lv_lconst (v := 0) hx hb dX3_directionOf_126 (by decide) ?_
                    refine pCalli (As := [.long ((dSl S i c0) + ((dSc S) * ((dI S 5 r).toInt64))), .long 0]) (rest := []) hx hb hml hown hts hP hS hA hl.1 (cJ_cmp l _ ((dSl S i c0) + ((dSc S) * ((dI S 5 r).toInt64))) 0) (va_cwS 2 hts gX3_directionOf_J13_compare_74951 rfl rfl rfl (by decide +kernel) ⟨Nat.le_of_ble_eq_true rfl, Nat.le_of_ble_eq_true rfl⟩) rfl rfl (Nat.le_of_ble_eq_true rfl) ⟨Nat.le_of_ble_eq_true rfl, Nat.le_of_ble_eq_true rfl⟩ dX3_directionOf_127 (fun r15 H locs e15 hP hS => ?_)
                    rw [show r15 = cmpL ((dSl S i c0) + ((dSc S) * ((dI S 5 r).toInt64))) 0 from e15]
                    refine lv_istore (lv' := [(4, .int (cmpL ((dSl S i c0) + ((dSc S) * ((dI S 5 r).toInt64))) 0)), (8, .long (dSl S i c0)), (7, .int ow), (0, .ref (ad 0)), (1, .int (nI c0)), (2, .int (nI r)), (3, .int hc), (5, .int q.2), (6, .int (nI i))]) hx hb dX3_directionOf_130 hl (by decide) rfl (fun ls hl => ?_)
                    refine lv_iload hx hb dX3_directionOf_132 (lv_at hl 7 rfl) ?_
                    refine lv_if_ne (tgt := 169) hx hb dX3_directionOf_134 (by decide) (fun c16 => ?_) (fun c16 => ?_)
                    · skip
                      refine lv_iinc (v := nI (i + 1)) (lv' := [(6, .int (nI (i + 1))), (4, .int (cmpL ((dSl S i c0) + ((dSc S) * ((dI S 5 r).toInt64))) 0)), (8, .long (dSl S i c0)), (7, .int ow), (0, .ref (ad 0)), (1, .int (nI c0)), (2, .int (nI r)), (3, .int hc), (5, .int q.2)]) hx hb dX3_directionOf_169 hl (k := 8) rfl (nI_1 _) (by decide) rfl (fun ls hl => ?_)
                      refine lv_goto (tgt := 57) hx hb dX3_directionOf_172 (by decide) ?_
                      rw [← hre] at hl
                      have he : (fDir S c0 (dI S 9 c0)) i q = (cmpL ((dSl S i c0) + ((dSc S) * ((dI S 5 r).toInt64))) 0, q.2) := by simp [fDir, ← how, c1, c5, c10, c16, c2, c4, e8]
                      rw [lpN_s, he] at hex
                      exact ih ((i + 1)) (cmpL ((dSl S i c0) + ((dSc S) * ((dI S 5 r).toInt64))) 0, q.2) _ _ _ (by omega) hP hD hS (lv_sub hl [0, 4, 5, 6, 7, 1, 8] rfl) hex
                    · skip
                      refine lv_iload hx hb dX3_directionOf_137 (lv_at hl 2 rfl) ?_
                      refine lv_if_eq (tgt := 160) hx hb dX3_directionOf_139 (by decide) (fun c17 => ?_) (fun c17 => ?_)
                      · exact absurd c17 c10
                      · skip
                        refine lv_aload_n hx hb dX3_directionOf_142 rfl (lv_at hl 3 rfl) ?_
                        refine rD_get (v := .long (dSc S)) hx hb hts hin hown hK hP 1 (by decide) rfl (by decide +kernel) dX3_directionOf_143 ?_
                        refine lv_aload_n hx hb dX3_directionOf_146 rfl (lv_at hl 3 rfl) ?_
                        refine rD_get (v := .ref (ad 6)) hx hb hts hin hown hK hP 6 (by decide) rfl (by decide +kernel) dX3_directionOf_147 ?_
                        refine lv_iload_n hx hb dX3_directionOf_150 rfl (lv_at hl 5 rfl) ?_
                        refine rD_ild (i := r) hx hb hK hP 6 (by decide) (by decide) (by omega) dX3_directionOf_151 ?_
                        refine lv_i2l hx hb dX3_directionOf_152 (v := (dI S 6 r).toInt64) rfl ?_
                        refine lv_lmul hx hb dX3_directionOf_153 ?_
                        refine lv_lload hx hb dX3_directionOf_154 (lv_at hl 1 rfl) ?_
                        refine lv_lsub hx hb dX3_directionOf_156 ?_
                        refine lv_goto (tgt := 163) hx hb dX3_directionOf_157 (by decide) ?_
                        refine lv_lconst (v := 0) hx hb dX3_directionOf_163 (by decide) ?_
                        refine pCalli (As := [.long (((dSc S) * ((dI S 6 r).toInt64)) - (dSl S i c0)), .long 0]) (rest := []) hx hb hml hown hts hP hS hA hl.1 (cJ_cmp l _ (((dSc S) * ((dI S 6 r).toInt64)) - (dSl S i c0)) 0) (va_cwS 2 hts gX3_directionOf_J13_compare_74951 rfl rfl rfl (by decide +kernel) ⟨Nat.le_of_ble_eq_true rfl, Nat.le_of_ble_eq_true rfl⟩) rfl rfl (Nat.le_of_ble_eq_true rfl) ⟨Nat.le_of_ble_eq_true rfl, Nat.le_of_ble_eq_true rfl⟩ dX3_directionOf_164 (fun r18 H locs e18 hP hS => ?_)
                        rw [show r18 = cmpL (((dSc S) * ((dI S 6 r).toInt64)) - (dSl S i c0)) 0 from e18]
                        refine lv_istore (lv' := [(5, .int (cmpL (((dSc S) * ((dI S 6 r).toInt64)) - (dSl S i c0)) 0)), (4, .int (cmpL ((dSl S i c0) + ((dSc S) * ((dI S 5 r).toInt64))) 0)), (8, .long (dSl S i c0)), (7, .int ow), (0, .ref (ad 0)), (1, .int (nI c0)), (2, .int (nI r)), (3, .int hc), (6, .int (nI i))]) hx hb dX3_directionOf_167 hl (by decide) rfl (fun ls hl => ?_)
                        refine lv_iinc (v := nI (i + 1)) (lv' := [(6, .int (nI (i + 1))), (5, .int (cmpL (((dSc S) * ((dI S 6 r).toInt64)) - (dSl S i c0)) 0)), (4, .int (cmpL ((dSl S i c0) + ((dSc S) * ((dI S 5 r).toInt64))) 0)), (8, .long (dSl S i c0)), (7, .int ow), (0, .ref (ad 0)), (1, .int (nI c0)), (2, .int (nI r)), (3, .int hc)]) hx hb dX3_directionOf_169 hl (k := 8) rfl (nI_1 _) (by decide) rfl (fun ls hl => ?_)
                        refine lv_goto (tgt := 57) hx hb dX3_directionOf_172 (by decide) ?_
                        rw [← hre] at hl
                        have he : (fDir S c0 (dI S 9 c0)) i q = (cmpL ((dSl S i c0) + ((dSc S) * ((dI S 5 r).toInt64))) 0, cmpL (((dSc S) * ((dI S 6 r).toInt64)) - (dSl S i c0)) 0) := by simp [fDir, ← how, c1, c5, c17, c16, c2, c4, e8]
                        rw [lpN_s, he] at hex
                        exact ih ((i + 1)) (cmpL ((dSl S i c0) + ((dSc S) * ((dI S 5 r).toInt64))) 0, cmpL (((dSc S) * ((dI S 6 r).toInt64)) - (dSl S i c0)) 0) _ _ _ (by omega) hP hD hS (lv_sub hl [0, 5, 6, 7, 8, 2, 1] rfl) hex
              refine lv_iload_n hx hb dX3_directionOf_63 rfl (lv_at hl 4 rfl) ?_
              refine lv_if_eq (tgt := 82) hx hb dX3_directionOf_64 (by decide) (fun c19 => ?_) (fun c19 => ?_)
              · skip
                refine lv_iconst (v := nI 0) hx hb dX3_directionOf_82 (by decide) ?_
                exact J83 _ _ _ _ (by simp [kOwn, ← hhc, c1, c19, c2, c4]) hP hD hS (lv_sub hl [1, 2, 3, 4, 5, 6, 0] rfl)
              · skip
                obtain ⟨r, hr, hre⟩ := kHas_ne (hhc ▸ c19)
                rw [hre] at hl
                refine lv_aload_n hx hb dX3_directionOf_67 rfl (lv_at hl 1 rfl) ?_
                refine rD_get (v := .ref (ad 4)) hx hb hts hin hown hK hP 4 (by decide) rfl (by decide +kernel) dX3_directionOf_68 ?_
                refine lv_iload_n hx hb dX3_directionOf_71 rfl (lv_at hl 3 rfl) ?_
                refine rD_ild (i := r) hx hb hK hP 4 (by decide) (by decide) (by omega) dX3_directionOf_72 ?_
                refine lv_iload hx hb dX3_directionOf_73 (lv_at hl 0 rfl) ?_
                refine lv_icmp_ne (tgt := 82) hx hb dX3_directionOf_75 (by decide) (fun c20 => ?_) (fun c20 => ?_)
                · skip
                  refine lv_iconst (v := nI 0) hx hb dX3_directionOf_82 (by decide) ?_
                  rw [← hre] at hl
                  exact J83 _ _ _ _ (by have e9 : (dI S 9 c0).toNatClampNeg = r := (by rw [hre, nI_clamp (by omega)]); simp [kOwn, ← hhc, e9, c1, c19, c20, c2, c4]) hP hD hS (lv_sub hl [1, 2, 3, 4, 5, 6, 0] rfl)
                · skip
                  refine lv_iconst (v := nI 1) hx hb dX3_directionOf_78 (by decide) ?_
                  refine lv_goto (tgt := 83) hx hb dX3_directionOf_79 (by decide) ?_
                  rw [← hre] at hl
                  exact J83 _ _ _ _ (by have e9 : (dI S 9 c0).toNatClampNeg = r := (by rw [hre, nI_clamp (by omega)]); simp [kOwn, ← hhc, e9, c1, c19, c20, c2, c4]) hP hD hS (lv_sub hl [1, 2, 3, 4, 5, 6, 0] rfl)
        refine L57 5 0 (nI 0, nI 0) _ _ _ (by omega) hP hD hS (lv_sub hl [0, 4, 5, 6, 3, 2, 1] rfl) (fun H locs ls hP hD hS hl => ?_)
        refine lv_iload hx hb dX3_directionOf_175 (lv_at hl 5 rfl) ?_
        refine lv_if_ge (tgt := 184) hx hb dX3_directionOf_177 (by decide) (fun c21 => ?_) (fun c21 => ?_)
        · skip
          refine lv_iload hx hb dX3_directionOf_184 (lv_at hl 6 rfl) ?_
          refine lv_if_ge (tgt := 193) hx hb dX3_directionOf_186 (by decide) (fun c22 => ?_) (fun c22 => ?_)
          · skip
            refine lv_iconst (v := nI 0) hx hb dX3_directionOf_193 (by decide) ?_
            exact W.iret hx hb hr (fun t ht hW => ⟨⟨_, _, rfl, ⟨by simp [kDir, c21, c22], rfl⟩, by rw [ht]; exact hP, va_K.moved hW.alike hK, hD⟩, hS.F ht⟩) hS.2.2 dX3_directionOf_194
          · skip
            refine lv_iconst (v := -1) hx hb dX3_directionOf_189 (by decide) ?_
            refine lv_goto (tgt := 194) hx hb dX3_directionOf_190 (by decide) ?_
            exact W.iret hx hb hr (fun t ht hW => ⟨⟨_, _, rfl, ⟨by simp [kDir, c21, c22], rfl⟩, by rw [ht]; exact hP, va_K.moved hW.alike hK, hD⟩, hS.F ht⟩) hS.2.2 dX3_directionOf_194
        · skip
          refine lv_iconst (v := nI 1) hx hb dX3_directionOf_180 (by decide) ?_
          refine lv_goto (tgt := 194) hx hb dX3_directionOf_181 (by decide) ?_
          exact W.iret hx hb hr (fun t ht hW => ⟨⟨_, _, rfl, ⟨by simp [kDir, c21], rfl⟩, by rw [ht]; exact hP, va_K.moved hW.alike hK, hD⟩, hS.F ht⟩) hS.2.2 dX3_directionOf_194
      refine lv_iload_n hx hb dX3_directionOf_19 rfl (lv_at hl 0 rfl) ?_
      refine lv_if_lt (tgt := 46) hx hb dX3_directionOf_20 (by decide) (fun c23 => ?_) (fun c23 => ?_)
      · skip
        refine lv_iconst (v := nI 0) hx hb dX3_directionOf_46 (by decide) ?_
        exact J47 _ _ _ _ (by simp [kHas, c1, c23, c2]) hP hD hS (lv_sub hl [1, 2, 0] rfl)
      · skip
        refine lv_iload_n hx hb dX3_directionOf_23 rfl (lv_at hl 0 rfl) ?_
        refine lv_bipush (v := nI 27) hx hb dX3_directionOf_24 (by decide) ?_
        refine lv_icmp_ge (tgt := 46) hx hb dX3_directionOf_26 (by decide) (fun c24 => ?_) (fun c24 => ?_)
        · skip
          refine lv_iconst (v := nI 0) hx hb dX3_directionOf_46 (by decide) ?_
          exact J47 _ _ _ _ (by simp [kHas, c1, c23, c24, c2]) hP hD hS (lv_sub hl [1, 2, 0] rfl)
        · skip
          obtain ⟨r, hr, hre⟩ := ixN 27 c23 (Int32.not_le.mp c24) (by decide)
          rw [hre] at hl
          refine lv_aload_n hx hb dX3_directionOf_29 rfl (lv_at hl 1 rfl) ?_
          refine rD_get (v := .ref (ad 4)) hx hb hts hin hown hK hP 4 (by decide) rfl (by decide +kernel) dX3_directionOf_30 ?_
          refine lv_iload_n hx hb dX3_directionOf_33 rfl (lv_at hl 0 rfl) ?_
          refine rD_ild (i := r) hx hb hK hP 4 (by decide) (by decide) (by omega) dX3_directionOf_34 ?_
          refine lv_aload_n hx hb dX3_directionOf_35 rfl (lv_at hl 1 rfl) ?_
          refine rD_get (v := .int (dCt S)) hx hb hts hin hown hK hP 11 (by decide) rfl (by decide +kernel) dX3_directionOf_36 ?_
          refine lv_icmp_ge (tgt := 46) hx hb dX3_directionOf_39 (by decide) (fun c25 => ?_) (fun c25 => ?_)
          · skip
            refine lv_iconst (v := nI 0) hx hb dX3_directionOf_46 (by decide) ?_
            rw [← hre] at hl
            exact J47 _ _ _ _ (by have e9 : (dI S 9 c0).toNatClampNeg = r := (by rw [hre, nI_clamp (by omega)]); simp [kHas, e9, c1, c23, c24, c25, c2]) hP hD hS (lv_sub hl [1, 2, 0] rfl)
          · skip
            refine lv_iconst (v := nI 1) hx hb dX3_directionOf_42 (by decide) ?_
            refine lv_goto (tgt := 47) hx hb dX3_directionOf_43 (by decide) ?_
            rw [← hre] at hl
            exact J47 _ _ _ _ (by have e9 : (dI S 9 c0).toNatClampNeg = r := (by rw [hre, nI_clamp (by omega)]); simp [kHas, e9, c1, c23, c24, c25, c2]) hP hD hS (lv_sub hl [1, 2, 0] rfl)
    · exact absurd c2 (by rw [nI_ltI (by omega) (by omega)]; omega)
theorem lpN_inv {α : Type} {f : Nat → α → α} (P : α → Prop) : ∀ (n k : Nat) (a : α), (∀ (j : Nat) (b : α), j < k + n → P b → P (f j b)) → P a → P (lpN f n k a) := by
  intro n
  induction n with
  | zero => intro k a _ ha; exact ha
  | succ n ih =>
    intro k a h ha
    exact ih (k + 1) _ (fun j b hj hb => h j b (by omega) hb) (h k a (by omega) ha)
theorem entIx {q : Int32} {N : Nat} (h : q = -1 ∨ ∃ j : Nat, j < N ∧ q = nI j) (h0 : ¬ q < 0) : ∃ j : Nat, j < N ∧ q = nI j := by
  rcases h with rfl | h
  · exact absurd (by decide) h0
  · exact h
theorem kEnt_ix {S : DS} : kEnt S = -1 ∨ ∃ j : Nat, j < 6 ∧ kEnt S = nI j := by
  refine lpN_inv (fun q : Int32 => q = -1 ∨ ∃ j : Nat, j < 6 ∧ q = nI j) 6 0 (-1) (fun j b hj hb => ?_) (Or.inl rfl)
  unfold fEnt
  split
  · split
    · exact hb
    · exact Or.inr ⟨j, by omega, rfl⟩
  · split
    · exact hb
    · split
      · exact hb
      · exact Or.inr ⟨j, by omega, rfl⟩
set_option maxHeartbeats 4000000 in
set_option maxRecDepth 100000 in
theorem cD_enteringColumn (l : Launch) (D : va_G) (cy : Nat → ClassId) (ad : Nat → Nat) (X : va_W) (S : DS) (sz : Nat)  : Met l yX3_enteringColumn wsX3_enteringColumn (rm9 2 52) (dPc D cy ad X S sz [.ref (ad 0)]) (dQi D cy ad X S sz (fun r S' => r = kEnt S ∧ S' = S)) 0 0 (dA cy ad X S sz) := by
  refine dHead (cc := cX3_enteringColumn) (maxL := 3) (ret := (some .int)) (by decide) rfl (Nat.le_of_ble_eq_true rfl) ?_
  intro p e s m below meth c ls hx hb hr hlocks hml hown hts hsz hP hK hD hS hA hl
  have hin : ∀ w ∈ u_ws RX3 TX3 12, w ∈ wsX3_enteringColumn := by decide +kernel
  have hown : s.vm.findClass RX3 = some m.cls := hown
  have hl : lv_has ls 3 [(0, .ref (ad 0))] := hl
  refine lv_iconst (v := -1) hx hb dX3_enteringColumn_0 (by decide) ?_
  refine lv_istore_n (lv' := [(1, .int (-1)), (0, .ref (ad 0))]) hx hb dX3_enteringColumn_1 rfl hl (by decide) rfl (fun ls hl => ?_)
  refine lv_iconst (v := nI 0) hx hb dX3_enteringColumn_2 (by decide) ?_
  refine lv_istore_n (lv' := [(2, .int (nI 0)), (1, .int (-1)), (0, .ref (ad 0))]) hx hb dX3_enteringColumn_3 rfl hl (by decide) rfl (fun ls hl => ?_)
  have L4 : ∀ (n k : Nat) (q : Int32) (H : Heap) (locs : List Loc) (ls : Array Slot), k + n = 6 → (q = -1 ∨ ∃ j : Nat, j < 6 ∧ q = nI j) → va_P D vwCl (wD cy ad S ++ X) H → va_D (dA cy ad X S sz) (wD cy ad S ++ X) → va_S (dA cy ad X S sz) s.heap H locs → lv_has ls 3 [(2, .int (nI k)), (0, .ref (ad 0)), (1, .int q)] → (∀ (H : Heap) (locs : List Loc) (ls : Array Slot), ((lpN (fEnt S) n k q) = -1 ∨ ∃ j : Nat, j < 6 ∧ (lpN (fEnt S) n k q) = nI j) → va_P D vwCl (wD cy ad S ++ X) H → va_D (dA cy ad X S sz) (wD cy ad S ++ X) → va_S (dA cy ad X S sz) s.heap H locs → lv_has ls 3 [(2, .int (nI 6)), (0, .ref (ad 0)), (1, .int (lpN (fEnt S) n k q))] → W p l e (headSpec wsX3_enteringColumn (rm9 2 52)).room s m ([.ref (ad 0)] : List Value).toArray below meth c H locs 0 0 (MQ below (dQi D cy ad X S sz (fun r S' => r = kEnt S ∧ S' = S)) ([.ref (ad 0)] : List Value).toArray s 0 0 (dA cy ad X S sz)) (F0 m 45 ls [])) → W p l e (headSpec wsX3_enteringColumn (rm9 2 52)).room s m ([.ref (ad 0)] : List Value).toArray below meth c H locs 0 0 (MQ below (dQi D cy ad X S sz (fun r S' => r = kEnt S ∧ S' = S)) ([.ref (ad 0)] : List Value).toArray s 0 0 (dA cy ad X S sz)) (F0 m 4 ls []) := by
    intro n
    induction n with
    | zero =>
      intro k q H locs ls hk hq hP hD hS hl hex
      obtain rfl : k = 6 := by omega
      refine lv_iload_n hx hb dX3_enteringColumn_4 rfl (lv_at hl 0 rfl) ?_
      refine lv_bipush (v := nI 6) hx hb dX3_enteringColumn_5 (by decide) ?_
      refine lv_icmp_ge (tgt := 45) hx hb dX3_enteringColumn_7 (by decide) (fun c1 => ?_) (fun c1 => ?_)
      · rw [nI_leI (by omega) (by omega)] at c1
        exact hex _ _ _ hq hP hD hS (lv_sub hl [0, 1, 2] rfl)
      · exact absurd c1 (by rw [nI_leI (by omega) (by omega)]; omega)
    | succ n ih =>
      intro k q H locs ls hk hq hP hD hS hl hex
      have hk4 : k < 6 := by omega
      refine lv_iload_n hx hb dX3_enteringColumn_4 rfl (lv_at hl 0 rfl) ?_
      refine lv_bipush (v := nI 6) hx hb dX3_enteringColumn_5 (by decide) ?_
      refine lv_icmp_ge (tgt := 45) hx hb dX3_enteringColumn_7 (by decide) (fun c2 => ?_) (fun c2 => ?_)
      · exact absurd c2 (by rw [nI_leI (by omega) (by omega)]; omega)
      · rw [nI_leI (by omega) (by omega)] at c2
        refine lv_iload_n hx hb dX3_enteringColumn_10 rfl (lv_at hl 2 rfl) ?_
        refine lv_if_lt (tgt := 29) hx hb dX3_enteringColumn_11 (by decide) (fun c3 => ?_) (fun c3 => ?_)
        · skip
          refine lv_aload_n hx hb dX3_enteringColumn_29 rfl (lv_at hl 1 rfl) ?_
          refine lv_iload_n hx hb dX3_enteringColumn_30 rfl (lv_at hl 0 rfl) ?_
          refine dCalli (As := [.int (nI k)]) (rest := []) hx hb hml hown hts hK hP hD hS hA hl.1 (cD_directionOf l D cy ad _ _ _ (c0 := k) (by omega)) (cwV 1 hts gX3_enteringColumn_X3_directionOf rfl rfl rfl (by decide +kernel) ⟨Nat.le_of_ble_eq_true rfl, Nat.le_of_ble_eq_true rfl⟩) rfl rfl (Nat.le_of_ble_eq_true rfl) ⟨Nat.le_of_ble_eq_true rfl, Nat.le_of_ble_eq_true rfl⟩ dX3_enteringColumn_31 (fun r4 S4 H locs e4 hP hD hS => ?_)
          obtain ⟨e4a, e4b⟩ := e4
          rw [e4a]
          rw [e4b] at hP hD
          refine lv_if_eq (tgt := 39) hx hb dX3_enteringColumn_34 (by decide) (fun c5 => ?_) (fun c5 => ?_)
          · skip
            refine lv_iinc (v := nI (k + 1)) (lv' := [(2, .int (nI (k + 1))), (0, .ref (ad 0)), (1, .int q)]) hx hb dX3_enteringColumn_39 hl (k := 0) rfl (nI_1 _) (by decide) rfl (fun ls hl => ?_)
            refine lv_goto (tgt := 4) hx hb dX3_enteringColumn_42 (by decide) ?_
            have he : (fEnt S) k q = q := by simp [fEnt, c3, c5, c2]
            rw [lpN_s, he] at hex
            exact ih ((k + 1)) q _ _ _ (by omega) hq hP hD hS (lv_sub hl [0, 1, 2] rfl) hex
          · skip
            refine lv_iload_n hx hb dX3_enteringColumn_37 rfl (lv_at hl 0 rfl) ?_
            refine lv_istore_n (lv' := [(1, .int (nI k)), (2, .int (nI k)), (0, .ref (ad 0))]) hx hb dX3_enteringColumn_38 rfl hl (by decide) rfl (fun ls hl => ?_)
            refine lv_iinc (v := nI (k + 1)) (lv' := [(2, .int (nI (k + 1))), (1, .int (nI k)), (0, .ref (ad 0))]) hx hb dX3_enteringColumn_39 hl (k := 1) rfl (nI_1 _) (by decide) rfl (fun ls hl => ?_)
            refine lv_goto (tgt := 4) hx hb dX3_enteringColumn_42 (by decide) ?_
            have he : (fEnt S) k q = (nI k) := by simp [fEnt, c3, c5, c2]
            rw [lpN_s, he] at hex
            exact ih ((k + 1)) (nI k) _ _ _ (by omega) (Or.inr ⟨k, by omega, rfl⟩) hP hD hS (lv_sub hl [0, 2, 1] rfl) hex
        · skip
          obtain ⟨r, hr, hre⟩ := entIx hq c3
          have e8 : q.toNatClampNeg = r := (by rw [hre, nI_clamp (by omega)])
          rw [hre] at hl
          refine lv_aload_n hx hb dX3_enteringColumn_14 rfl (lv_at hl 1 rfl) ?_
          refine rD_get (v := .ref (ad 9)) hx hb hts hin hown hK hP 9 (by decide) rfl (by decide +kernel) dX3_enteringColumn_15 ?_
          refine lv_iload_n hx hb dX3_enteringColumn_18 rfl (lv_at hl 0 rfl) ?_
          refine rD_ild9 (i := k) hx hb hK hP (by omega) dX3_enteringColumn_19 ?_
          refine lv_aload_n hx hb dX3_enteringColumn_20 rfl (lv_at hl 1 rfl) ?_
          refine rD_get (v := .ref (ad 9)) hx hb hts hin hown hK hP 9 (by decide) rfl (by decide +kernel) dX3_enteringColumn_21 ?_
          refine lv_iload_n hx hb dX3_enteringColumn_24 rfl (lv_at hl 2 rfl) ?_
          refine rD_ild9 (i := r) hx hb hK hP (by omega) dX3_enteringColumn_25 ?_
          refine lv_icmp_ge (tgt := 39) hx hb dX3_enteringColumn_26 (by decide) (fun c6 => ?_) (fun c6 => ?_)
          · skip
            refine lv_iinc (v := nI (k + 1)) (lv' := [(2, .int (nI (k + 1))), (0, .ref (ad 0)), (1, .int (nI r))]) hx hb dX3_enteringColumn_39 hl (k := 0) rfl (nI_1 _) (by decide) rfl (fun ls hl => ?_)
            refine lv_goto (tgt := 4) hx hb dX3_enteringColumn_42 (by decide) ?_
            rw [← hre] at hl
            have he : (fEnt S) k q = q := by simp [fEnt, c3, c6, c2, e8]
            rw [lpN_s, he] at hex
            exact ih ((k + 1)) q _ _ _ (by omega) hq hP hD hS (lv_sub hl [0, 1, 2] rfl) hex
          · skip
            refine lv_aload_n hx hb dX3_enteringColumn_29 rfl (lv_at hl 1 rfl) ?_
            refine lv_iload_n hx hb dX3_enteringColumn_30 rfl (lv_at hl 0 rfl) ?_
            refine dCalli (As := [.int (nI k)]) (rest := []) hx hb hml hown hts hK hP hD hS hA hl.1 (cD_directionOf l D cy ad _ _ _ (c0 := k) (by omega)) (cwV 1 hts gX3_enteringColumn_X3_directionOf rfl rfl rfl (by decide +kernel) ⟨Nat.le_of_ble_eq_true rfl, Nat.le_of_ble_eq_true rfl⟩) rfl rfl (Nat.le_of_ble_eq_true rfl) ⟨Nat.le_of_ble_eq_true rfl, Nat.le_of_ble_eq_true rfl⟩ dX3_enteringColumn_31 (fun r7 S7 H locs e7 hP hD hS => ?_)
            obtain ⟨e7a, e7b⟩ := e7
            rw [e7a]
            rw [e7b] at hP hD
            refine lv_if_eq (tgt := 39) hx hb dX3_enteringColumn_34 (by decide) (fun c8 => ?_) (fun c8 => ?_)
            · skip
              refine lv_iinc (v := nI (k + 1)) (lv' := [(2, .int (nI (k + 1))), (0, .ref (ad 0)), (1, .int (nI r))]) hx hb dX3_enteringColumn_39 hl (k := 0) rfl (nI_1 _) (by decide) rfl (fun ls hl => ?_)
              refine lv_goto (tgt := 4) hx hb dX3_enteringColumn_42 (by decide) ?_
              rw [← hre] at hl
              have he : (fEnt S) k q = q := by simp [fEnt, c3, c6, c8, c2, e8]
              rw [lpN_s, he] at hex
              exact ih ((k + 1)) q _ _ _ (by omega) hq hP hD hS (lv_sub hl [0, 1, 2] rfl) hex
            · skip
              refine lv_iload_n hx hb dX3_enteringColumn_37 rfl (lv_at hl 0 rfl) ?_
              refine lv_istore_n (lv' := [(1, .int (nI k)), (2, .int (nI k)), (0, .ref (ad 0))]) hx hb dX3_enteringColumn_38 rfl hl (by decide) rfl (fun ls hl => ?_)
              refine lv_iinc (v := nI (k + 1)) (lv' := [(2, .int (nI (k + 1))), (1, .int (nI k)), (0, .ref (ad 0))]) hx hb dX3_enteringColumn_39 hl (k := 1) rfl (nI_1 _) (by decide) rfl (fun ls hl => ?_)
              refine lv_goto (tgt := 4) hx hb dX3_enteringColumn_42 (by decide) ?_
              have he : (fEnt S) k q = (nI k) := by simp [fEnt, c3, c6, c8, c2, e8]
              rw [lpN_s, he] at hex
              exact ih ((k + 1)) (nI k) _ _ _ (by omega) (Or.inr ⟨k, by omega, rfl⟩) hP hD hS (lv_sub hl [0, 2, 1] rfl) hex
  refine L4 6 0 (-1) _ _ _ (by omega) (Or.inl rfl) hP hD hS (lv_sub hl [0, 2, 1] rfl) (fun H locs ls hq hP hD hS hl => ?_)
  refine lv_iload_n hx hb dX3_enteringColumn_45 rfl (lv_at hl 2 rfl) ?_
  exact W.iret hx hb hr (fun t ht hW => ⟨⟨_, _, rfl, ⟨rfl, rfl⟩, by rw [ht]; exact hP, va_K.moved hW.alike hK, hD⟩, hS.F ht⟩) hS.2.2 dX3_enteringColumn_46
