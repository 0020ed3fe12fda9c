/-! the reference: all costs are made least -/
def jCs (mask s9 : Int32) (R C k : Nat) (U : MS) : MS := if jThere U k = 0 then U else if ¬ (mask >>> (nI k &&& 31)) &&& nI 1 = nI 1 then U else if ¬ jOf U k 8 = s9 then U
  else jAddC (jAddC U (nI (j_lack k)) (jOf U k 9).toInt64 R C) (nI (j_ahead k)) (if ¬ jOf U k 6 = nI 1 then 0 else (jOf U k 9).toInt64) R C
theorem jOk_clear {S : MS} {R C : Nat} (h : jOk S R C) : jOk (jClear S R C) R C := h
def jPut (V : MS) (s : Nat) (g : Int64) (R : Nat) : MS := mk9 (aF V) (aG V) (a1 V) (a2 V) (a3 V) (a4 V) (a5 V) (a6 V) (a7 V) (a8 V) (a9 V) (a10 V) (a11 V) (a12 V) (vp_updL (a13 V) s (a9 V (22 * R) / g)) (vp_updL (a14 V) s (aG V 16 / g)) (a15 V) (a16 V) (a17 V) (a18 V) (a19 V) (a20 V)
def jLv (n R C : Nat) (mask : Int32) (s : Nat) (U : MS) : Option MS :=
  match leRun R C n (lpN (jCs mask (nI s) R C) 14 0 (jClear U R C)) with
  | none => none
  | some V => match jGcd n (jAbs (a9 (jBar V R C) (22 * R))) (aG (jBar V R C) 16) with
    | none => none
    | some g => if g = 0 then none else some (jPut (jBar V R C) s g R)
theorem jLv_some {n R C : Nat} {mask : Int32} {s : Nat} {U Z : MS} (h : jLv n R C mask s U = some Z) : ∃ (V : MS) (g : Int64), leRun R C n (lpN (jCs mask (nI s) R C) 14 0 (jClear U R C)) = some V ∧ jGcd n (jAbs (a9 (jBar V R C) (22 * R))) (aG (jBar V R C) 16) = some g ∧ ¬ g = 0 ∧ Z = jPut (jBar V R C) s g R := by
  unfold jLv at h
  split at h
  · cases h
  · rename_i V hV
    split at h
    · cases h
    · rename_i g hg
      split at h
      · cases h
      · rename_i h0
        exact ⟨V, g, hV, hg, h0, (Option.some.inj h).symm⟩
def jAllN (n R C : Nat) (mask : Int32) : Nat → Nat → MS → Option MS
  | 0, _, U => some U
  | k + 1, s, U => match jLv n R C mask s U with
    | none => none
    | some V => jAllN n R C mask k (s + 1) V
theorem jAllN_some {n R C k s : Nat} {mask : Int32} {U Z : MS} (h : jAllN n R C mask (k + 1) s U = some Z) : ∃ V : MS, jLv n R C mask s U = some V ∧ jAllN n R C mask k (s + 1) V = some Z := by
  unfold jAllN at h
  split at h
  · cases h
  · rename_i V hV
    exact ⟨V, hV, h⟩
theorem chRun_b {R C : Nat} {b9 : Int32} {S9 : MS} : ∀ (n : Nat) (S : MS), chRun R C n S = some (b9, S9) → b9 = nI 0 ∨ b9 = nI 1 := by
  intro n
  induction n with
  | zero => intro S h; cases h
  | succ n ih =>
    intro S h
    rw [chRun_s] at h
    split at h
    · exact Or.inr (congrArg Prod.fst (Option.some.inj h)).symm
    split at h
    · exact ih _ h
    · exact Or.inl (congrArg Prod.fst (Option.some.inj h)).symm
set_option maxHeartbeats 4000000 in
set_option maxRecDepth 100000 in
theorem cM_solveAll (l : Launch) (D : va_G) (cy : Nat → ClassId) (ad : Nat → Nat) (X : va_W) (S : MS) (sz : Nat) (mask : Int32) {R C : Nat} (hok : jOk (jLay S mask (nI 0)) R C) (hR36 : R ≤ 36) (hC21 : C ≤ 21) {n9 : Nat} {b9 : Int32} {S9 S8 : MS} (hrunA : chRun R C n9 (jClear (jLay S mask (nI 0)) R C) = some (b9, S9)) (hrunB : if b9 = 0 then S8 = S9 else jAllN n9 R C mask 3 1 S9 = some S8) : Met l yX9_solveAll wsX9_solveAll (rm9 4 103) (gPc D cy (wM cy ad S ++ X) sz [.ref (ad 0), .int mask]) (gQi D cy (wM cy ad S ++ X) sz (fun r ws' => r = b9 ∧ ws' = wM cy ad S8 ++ X)) 0 0 (va_A (wM cy ad S ++ X) sz) := by
  refine gHead (cc := cX9_solveAll) (maxL := 4) (ret := (some .boolean)) (by decide) rfl (Nat.le_of_ble_eq_true rfl) ?_
  intro p e s m below meth c ls hx hb hr hlocks hml hown hts hsz hP hK hD hS hA hl
  have hin : ∀ w ∈ u_ws RX9 TX9 36, w ∈ wsX9_solveAll := by decide +kernel
  have hown : s.vm.findClass RX9 = some m.cls := hown
  have hl : lv_has ls 4 [(0, .ref (ad 0)), (1, .int mask)] := hl
  refine lv_aload_n hx hb dX9_solveAll_0 rfl (lv_at hl 0 rfl) ?_
  refine lv_iload_n hx hb dX9_solveAll_1 rfl (lv_at hl 1 rfl) ?_
  refine lv_iconst (v := nI 0) hx hb dX9_solveAll_2 (by decide) ?_
  refine gCallv (ws := wM cy ad S ++ X) (As := [.int mask, .int (nI 0)]) (rest := []) (q0 := 0) (r0 := (RX9, TX9, 36)) hx hb hml hown hts hK hP hD hS hA hl.1 wM_0 rfl (cM_layRows l D cy ad X (S) _ mask (nI 0)) (cwV 2 hts gX9_solveAll_X9_layRows rfl rfl rfl (by decide +kernel) ⟨Nat.le_of_ble_eq_true rfl, Nat.le_of_ble_eq_true rfl⟩) rfl rfl (Nat.le_of_ble_eq_true rfl) ⟨Nat.le_of_ble_eq_true rfl, Nat.le_of_ble_eq_true rfl⟩ dX9_solveAll_3 (fun ws1 H locs e1 hP hD hS => ?_)
  rw [show ws1 = _ from e1] at hP hD
  have hP : va_P D vwCl (wM cy ad (jLay S mask (nI 0)) ++ X) H := hP
  have hD : va_D (va_A (wM cy ad S ++ X) sz) (wM cy ad (jLay S mask (nI 0)) ++ X) := hD
  refine lv_aload_n hx hb dX9_solveAll_6 rfl (lv_at hl 0 rfl) ?_
  refine gCalli (ws := wM cy ad (jLay S mask (nI 0)) ++ X) (As := []) (rest := []) (q0 := 0) (r0 := (RX9, TX9, 36)) hx hb hml hown hts hK hP hD hS hA hl.1 wM_0 rfl (cM_canHold l D cy ad X (jLay S mask (nI 0)) _ hok hR36 hC21 hrunA) (cwV 0 hts gX9_solveAll_X9_canHold rfl rfl rfl (by decide +kernel) ⟨Nat.le_of_ble_eq_true rfl, Nat.le_of_ble_eq_true rfl⟩) rfl rfl (Nat.le_of_ble_eq_true rfl) ⟨Nat.le_of_ble_eq_true rfl, Nat.le_of_ble_eq_true rfl⟩ dX9_solveAll_7 (fun r2 ws2 H locs e2 hP hD hS => ?_)
  obtain ⟨e2a, e2b⟩ := e2
  rw [show r2 = b9 from e2a]
  rw [e2b] at hP hD
  have hP : va_P D vwCl (wM cy ad S9 ++ X) H := hP
  have hD : va_D (va_A (wM cy ad S ++ X) sz) (wM cy ad S9 ++ X) := hD
  refine lv_if_ne (tgt := 15) hx hb dX9_solveAll_10 (by decide) (fun c3 => ?_) (fun c3 => ?_)
  · skip
    rw [if_neg c3] at hrunB
    refine lv_iconst (v := nI 1) hx hb dX9_solveAll_15 (by decide) ?_
    refine lv_istore_n (lv' := [(2, .int (nI 1)), (0, .ref (ad 0)), (1, .int mask)]) hx hb dX9_solveAll_16 rfl hl (by decide) rfl (fun ls hl => ?_)
    have L17 : ∀ (n sg : Nat) (U : MS) (H : Heap) (locs : List Loc) (ls : Array Slot), sg + n = 4 → 1 ≤ sg → jOk U R C → jAllN n9 R C mask n sg U = some S8 → va_P D vwCl (wM cy ad U ++ X) H → va_D (va_A (wM cy ad S ++ X) sz) (wM cy ad U ++ X) → va_S (va_A (wM cy ad S ++ X) sz) s.heap H locs → lv_has ls 4 [(2, .int (nI sg)), (0, .ref (ad 0)), (1, .int mask)] → W p l e (headSpec wsX9_solveAll (rm9 4 103)).room s m ([.ref (ad 0), .int mask] : List Value).toArray below meth c H locs 0 0 (MQ below (gQi D cy (wM cy ad S ++ X) sz (fun r ws' => r = b9 ∧ ws' = wM cy ad S8 ++ X)) ([.ref (ad 0), .int mask] : List Value).toArray s 0 0 (va_A (wM cy ad S ++ X) sz)) (F0 m 17 ls []) := by
      intro n
      induction n with
      | zero =>
        intro sg U H locs ls hs h1 hU hrun hP hD hS hl
        obtain rfl : 4 = sg := by omega
        have hU8 : U = S8 := Option.some.inj hrun
        refine lv_iload_n hx hb dX9_solveAll_17 rfl (lv_at hl 0 rfl) ?_
        refine lv_iconst (v := nI 3) hx hb dX9_solveAll_18 (by decide) ?_
        refine lv_icmp_gt (tgt := 181) hx hb dX9_solveAll_19 (by decide) (fun c4 => ?_) (fun c4 => ?_)
        · rw [nI_ltI (by omega) (by omega)] at c4
          refine lv_iconst (v := nI 1) hx hb dX9_solveAll_181 (by decide) ?_
          exact W.zret hx hb hr (by decide) (fun t ht hW => ⟨⟨_, _, rfl, ⟨((chRun_b _ _ hrunA).resolve_left (fun q => c3 (q.trans nI_0))).symm, by rw [hU8]⟩, by rw [ht]; exact hP, va_K.moved hW.alike hK, hD⟩, hS.F ht⟩) hS.2.2 dX9_solveAll_182
        · exact absurd c4 (by rw [nI_ltI (by omega) (by omega)]; omega)
      | succ n ih =>
        intro sg U H locs ls hs h1 hU hrun hP hD hS hl
        obtain ⟨Z, hZ, hrun⟩ := jAllN_some hrun
        obtain ⟨V, g, hV1, hg1, hg0, rfl⟩ := jLv_some hZ
        have hs4 : sg < 4 := by omega
        refine lv_iload_n hx hb dX9_solveAll_17 rfl (lv_at hl 0 rfl) ?_
        refine lv_iconst (v := nI 3) hx hb dX9_solveAll_18 (by decide) ?_
        refine lv_icmp_gt (tgt := 181) hx hb dX9_solveAll_19 (by decide) (fun c5 => ?_) (fun c5 => ?_)
        · exact absurd c5 (by rw [nI_ltI (by omega) (by omega)]; omega)
        · rw [nI_ltI (by omega) (by omega)] at c5
          refine lv_aload_n hx hb dX9_solveAll_22 rfl (lv_at hl 1 rfl) ?_
          refine gCallv (ws := wM cy ad U ++ X) (As := []) (rest := []) (q0 := 0) (r0 := (RX9, TX9, 36)) hx hb hml hown hts hK hP hD hS hA hl.1 wM_0 rfl (cM_clearCost l D cy ad X (U) _ (R := R) (C := C) hU.1 hU.2.1 hR36 hC21) (cwV 0 hts gX9_solveAll_X9_clearCost rfl rfl rfl (by decide +kernel) ⟨Nat.le_of_ble_eq_true rfl, Nat.le_of_ble_eq_true rfl⟩) rfl rfl (Nat.le_of_ble_eq_true rfl) ⟨Nat.le_of_ble_eq_true rfl, Nat.le_of_ble_eq_true rfl⟩ dX9_solveAll_23 (fun ws6 H locs e6 hP hD hS => ?_)
          rw [show ws6 = _ from e6] at hP hD
          have hP : va_P D vwCl (wM cy ad (jClear U R C) ++ X) H := hP
          have hD : va_D (va_A (wM cy ad S ++ X) sz) (wM cy ad (jClear U R C) ++ X) := hD
          refine lv_iconst (v := nI 0) hx hb dX9_solveAll_26 (by decide) ?_
          refine lv_istore_n (lv' := [(3, .int (nI 0)), (2, .int (nI sg)), (0, .ref (ad 0)), (1, .int mask)]) hx hb dX9_solveAll_27 rfl hl (by decide) rfl (fun ls hl => ?_)
          have L28 : ∀ (n k : Nat) (q : MS) (H : Heap) (locs : List Loc) (ls : Array Slot), k + n = 14 → jOk q R C → va_P D vwCl (wM cy ad q ++ X) H → va_D (va_A (wM cy ad S ++ X) sz) (wM cy ad q ++ X) → va_S (va_A (wM cy ad S ++ X) sz) s.heap H locs → lv_has ls 4 [(3, .int (nI k)), (0, .ref (ad 0)), (1, .int mask), (2, .int (nI sg))] → (∀ (H : Heap) (locs : List Loc) (ls : Array Slot), jOk (lpN (jCs mask (nI sg) R C) n k q) R C → va_P D vwCl (wM cy ad (lpN (jCs mask (nI sg) R C) n k q) ++ X) H → va_D (va_A (wM cy ad S ++ X) sz) (wM cy ad (lpN (jCs mask (nI sg) R C) n k q) ++ X) → va_S (va_A (wM cy ad S ++ X) sz) s.heap H locs → lv_has ls 4 [(3, .int (nI 14)), (0, .ref (ad 0)), (1, .int mask), (2, .int (nI sg))] → W p l e (headSpec wsX9_solveAll (rm9 4 103)).room s m ([.ref (ad 0), .int mask] : List Value).toArray below meth c H locs 0 0 (MQ below (gQi D cy (wM cy ad S ++ X) sz (fun r ws' => r = b9 ∧ ws' = wM cy ad S8 ++ X)) ([.ref (ad 0), .int mask] : List Value).toArray s 0 0 (va_A (wM cy ad S ++ X) sz)) (F0 m 115 ls [])) → W p l e (headSpec wsX9_solveAll (rm9 4 103)).room s m ([.ref (ad 0), .int mask] : List Value).toArray below meth c H locs 0 0 (MQ below (gQi D cy (wM cy ad S ++ X) sz (fun r ws' => r = b9 ∧ ws' = wM cy ad S8 ++ X)) ([.ref (ad 0), .int mask] : List Value).toArray s 0 0 (va_A (wM cy ad S ++ X) sz)) (F0 m 28 ls []) := by
            intro n
            induction n with
            | zero =>
              intro k q H locs ls hk hq hP hD hS hl hex
              obtain rfl : 14 = k := by omega
              refine lv_iload_n hx hb dX9_solveAll_28 rfl (lv_at hl 0 rfl) ?_
              refine lv_bipush (v := nI 14) hx hb dX9_solveAll_29 (by decide) ?_
              refine lv_icmp_ge (tgt := 115) hx hb dX9_solveAll_31 (by decide) (fun c7 => ?_) (fun c7 => ?_)
              · rw [nI_leI (by omega) (by omega)] at c7
                exact hex _ _ _ hq hP hD hS (lv_sub hl [0, 1, 2, 3] rfl)
              · exact absurd c7 (by rw [nI_leI (by omega) (by omega)]; omega)
            | succ n ih =>
              intro k q H locs ls hk hq hP hD hS hl hex
              have hk28 : k < 14 := by omega
              refine lv_iload_n hx hb dX9_solveAll_28 rfl (lv_at hl 0 rfl) ?_
              refine lv_bipush (v := nI 14) hx hb dX9_solveAll_29 (by decide) ?_
              refine lv_icmp_ge (tgt := 115) hx hb dX9_solveAll_31 (by decide) (fun c8 => ?_) (fun c8 => ?_)
              · exact absurd c8 (by rw [nI_leI (by omega) (by omega)]; omega)
              · rw [nI_leI (by omega) (by omega)] at c8
                refine lv_aload_n hx hb dX9_solveAll_34 rfl (lv_at hl 1 rfl) ?_
                refine lv_iload_n hx hb dX9_solveAll_35 rfl (lv_at hl 0 rfl) ?_
                refine gCalli (ws := wM cy ad q ++ X) (As := [.int (nI k)]) (rest := []) (q0 := 0) (r0 := (RX9, TX9, 36)) hx hb hml hown hts hK hP hD hS hA hl.1 wM_0 rfl (cM_isThere l D cy ad X (q) _ (c9 := k) (by omega)) (cwV 1 hts gX9_solveAll_X9_isThere rfl rfl rfl (by decide +kernel) ⟨Nat.le_of_ble_eq_true rfl, Nat.le_of_ble_eq_true rfl⟩) rfl rfl (Nat.le_of_ble_eq_true rfl) ⟨Nat.le_of_ble_eq_true rfl, Nat.le_of_ble_eq_true rfl⟩ dX9_solveAll_36 (fun r9 ws9 H locs e9 hP hD hS => ?_)
                obtain ⟨e9a, e9b⟩ := e9
                rw [show r9 = jThere q k from e9a]
                rw [e9b] at hP hD
                refine lv_if_eq (tgt := 109) hx hb dX9_solveAll_39 (by decide) (fun c10 => ?_) (fun c10 => ?_)
                · skip
                  refine lv_iinc (v := nI (k + 1)) (lv' := [(3, .int (nI (k + 1))), (0, .ref (ad 0)), (1, .int mask), (2, .int (nI sg))]) hx hb dX9_solveAll_109 hl (k := 0) rfl (nI_1 _) (by decide) rfl (fun ls hl => ?_)
                  refine lv_goto (tgt := 28) hx hb dX9_solveAll_112 (by decide) ?_
                  have he : (jCs mask (nI sg) R C) k q = q := by simp [jCs, c3, c10, c5, c8]
                  rw [lpN_s (f := jCs mask (nI sg) R C), he] at hex
                  exact ih ((k + 1)) q _ _ _ (by omega) hq hP hD hS (lv_sub hl [0, 1, 2, 3] rfl) hex
                · skip
                  refine lv_iload_n hx hb dX9_solveAll_42 rfl (lv_at hl 2 rfl) ?_
                  refine lv_iload_n hx hb dX9_solveAll_43 rfl (lv_at hl 0 rfl) ?_
                  refine lv_ishr hx hb dX9_solveAll_44 ?_
                  refine lv_iconst (v := nI 1) hx hb dX9_solveAll_45 (by decide) ?_
                  refine lv_iand hx hb dX9_solveAll_46 ?_
                  refine lv_iconst (v := nI 1) hx hb dX9_solveAll_47 (by decide) ?_
                  refine lv_icmp_ne (tgt := 109) hx hb dX9_solveAll_48 (by decide) (fun c11 => ?_) (fun c11 => ?_)
                  · skip
                    refine lv_iinc (v := nI (k + 1)) (lv' := [(3, .int (nI (k + 1))), (0, .ref (ad 0)), (1, .int mask), (2, .int (nI sg))]) hx hb dX9_solveAll_109 hl (k := 0) rfl (nI_1 _) (by decide) rfl (fun ls hl => ?_)
                    refine lv_goto (tgt := 28) hx hb dX9_solveAll_112 (by decide) ?_
                    have he : (jCs mask (nI sg) R C) k q = q := by simp [jCs, c3, c10, c11, c5, c8]
                    rw [lpN_s (f := jCs mask (nI sg) R C), he] at hex
                    exact ih ((k + 1)) q _ _ _ (by omega) hq hP hD hS (lv_sub hl [0, 1, 2, 3] rfl) hex
                  · skip
                    refine lv_aload_n hx hb dX9_solveAll_51 rfl (lv_at hl 1 rfl) ?_
                    refine lv_iload_n hx hb dX9_solveAll_52 rfl (lv_at hl 0 rfl) ?_
                    refine lv_bipush (v := nI 8) hx hb dX9_solveAll_53 (by decide) ?_
                    refine gCalli (ws := wM cy ad q ++ X) (As := [.int (nI k), .int (nI 8)]) (rest := []) (q0 := 0) (r0 := (RX9, TX9, 36)) hx hb hml hown hts hK hP hD hS hA hl.1 wM_0 rfl (cM_of l D cy ad X (q) _ (c9 := k) (w9 := 8) (by omega) (by omega)) (cwV 2 hts gX9_solveAll_X9_of rfl rfl rfl (by decide +kernel) ⟨Nat.le_of_ble_eq_true rfl, Nat.le_of_ble_eq_true rfl⟩) rfl rfl (Nat.le_of_ble_eq_true rfl) ⟨Nat.le_of_ble_eq_true rfl, Nat.le_of_ble_eq_true rfl⟩ dX9_solveAll_55 (fun r12 ws12 H locs e12 hP hD hS => ?_)
                    obtain ⟨e12a, e12b⟩ := e12
                    rw [show r12 = jOf q k 8 from e12a]
                    rw [e12b] at hP hD
                    refine lv_iload_n hx hb dX9_solveAll_58 rfl (lv_at hl 3 rfl) ?_
                    refine lv_icmp_ne (tgt := 109) hx hb dX9_solveAll_59 (by decide) (fun c13 => ?_) (fun c13 => ?_)
                    · skip
                      refine lv_iinc (v := nI (k + 1)) (lv' := [(3, .int (nI (k + 1))), (0, .ref (ad 0)), (1, .int mask), (2, .int (nI sg))]) hx hb dX9_solveAll_109 hl (k := 0) rfl (nI_1 _) (by decide) rfl (fun ls hl => ?_)
                      refine lv_goto (tgt := 28) hx hb dX9_solveAll_112 (by decide) ?_
                      have he : (jCs mask (nI sg) R C) k q = q := by simp [jCs, c3, c10, c11, c13, c5, c8]
                      rw [lpN_s (f := jCs mask (nI sg) R C), he] at hex
                      exact ih ((k + 1)) q _ _ _ (by omega) hq hP hD hS (lv_sub hl [0, 1, 2, 3] rfl) hex
                    · skip
                      refine lv_aload_n hx hb dX9_solveAll_62 rfl (lv_at hl 1 rfl) ?_
                      refine lv_iload_n hx hb dX9_solveAll_63 rfl (lv_at hl 0 rfl) ?_
                      refine pCalli (As := [.int (nI k)]) (rest := [.ref (ad 0)]) hx hb hml hown hts hP hS hA hl.1 (cM_lack l _ (c9 := k) (by omega)) (va_cwS 1 hts gX9_solveAll_X9_lack rfl rfl rfl (by decide +kernel) ⟨Nat.le_of_ble_eq_true rfl, Nat.le_of_ble_eq_true rfl⟩) rfl rfl (Nat.le_of_ble_eq_true rfl) ⟨Nat.le_of_ble_eq_true rfl, Nat.le_of_ble_eq_true rfl⟩ dX9_solveAll_64 (fun r14 H locs e14 hP hS => ?_)
                      rw [show r14 = nI (j_lack k) from e14]
                      refine lv_aload_n hx hb dX9_solveAll_67 rfl (lv_at hl 1 rfl) ?_
                      refine lv_iload_n hx hb dX9_solveAll_68 rfl (lv_at hl 0 rfl) ?_
                      refine lv_bipush (v := nI 9) hx hb dX9_solveAll_69 (by decide) ?_
                      refine gCalli (ws := wM cy ad q ++ X) (As := [.int (nI k), .int (nI 9)]) (rest := [.int (nI (j_lack k)), .ref (ad 0)]) (q0 := 0) (r0 := (RX9, TX9, 36)) hx hb hml hown hts hK hP hD hS hA hl.1 wM_0 rfl (cM_of l D cy ad X (q) _ (c9 := k) (w9 := 9) (by omega) (by omega)) (cwV 2 hts gX9_solveAll_X9_of rfl rfl rfl (by decide +kernel) ⟨Nat.le_of_ble_eq_true rfl, Nat.le_of_ble_eq_true rfl⟩) rfl rfl (Nat.le_of_ble_eq_true rfl) ⟨Nat.le_of_ble_eq_true rfl, Nat.le_of_ble_eq_true rfl⟩ dX9_solveAll_71 (fun r15 ws15 H locs e15 hP hD hS => ?_)
                      obtain ⟨e15a, e15b⟩ := e15
                      rw [show r15 = jOf q k 9 from e15a]
                      rw [e15b] at hP hD
                      refine lv_i2l hx hb dX9_solveAll_74 (v := (jOf q k 9).toInt64) rfl ?_
                      refine gCallv (ws := wM cy ad q ++ X) (As := [.int (nI (j_lack k)), .long ((jOf q k 9).toInt64)]) (rest := []) (q0 := 0) (r0 := (RX9, TX9, 36)) hx hb hml hown hts hK hP hD hS hA hl.1 wM_0 rfl (cM_addCost l D cy ad X (q) _ (R := R) (C := C) (show aF (q) 14 = nI R from hq.1) (show aF (q) 15 = nI C from hq.2.1) hR36 hC21 _ _) (cwV 2 hts gX9_solveAll_X9_addCost rfl rfl rfl (by decide +kernel) ⟨Nat.le_of_ble_eq_true rfl, Nat.le_of_ble_eq_true rfl⟩) rfl rfl (Nat.le_of_ble_eq_true rfl) ⟨Nat.le_of_ble_eq_true rfl, Nat.le_of_ble_eq_true rfl⟩ dX9_solveAll_75 (fun ws16 H locs e16 hP hD hS => ?_)
                      rw [show ws16 = _ from e16] at hP hD
                      have hP : va_P D vwCl (wM cy ad (jAddC q (nI (j_lack k)) ((jOf q k 9).toInt64) R C) ++ X) H := hP
                      have hD : va_D (va_A (wM cy ad S ++ X) sz) (wM cy ad (jAddC q (nI (j_lack k)) ((jOf q k 9).toInt64) R C) ++ X) := hD
                      refine lv_aload_n hx hb dX9_solveAll_78 rfl (lv_at hl 1 rfl) ?_
                      refine lv_iload_n hx hb dX9_solveAll_79 rfl (lv_at hl 0 rfl) ?_
                      refine pCalli (As := [.int (nI k)]) (rest := [.ref (ad 0)]) hx hb hml hown hts hP hS hA hl.1 (cM_ahead l _ (c9 := k) (by omega)) (va_cwS 1 hts gX9_solveAll_X9_ahead rfl rfl rfl (by decide +kernel) ⟨Nat.le_of_ble_eq_true rfl, Nat.le_of_ble_eq_true rfl⟩) rfl rfl (Nat.le_of_ble_eq_true rfl) ⟨Nat.le_of_ble_eq_true rfl, Nat.le_of_ble_eq_true rfl⟩ dX9_solveAll_80 (fun r17 H locs e17 hP hS => ?_)
                      rw [show r17 = nI (j_ahead k) from e17]
                      refine lv_aload_n hx hb dX9_solveAll_83 rfl (lv_at hl 1 rfl) ?_
                      refine lv_iload_n hx hb dX9_solveAll_84 rfl (lv_at hl 0 rfl) ?_
                      refine lv_bipush (v := nI 6) hx hb dX9_solveAll_85 (by decide) ?_
                      refine gCalli (ws := wM cy ad (jAddC q (nI (j_lack k)) ((jOf q k 9).toInt64) R C) ++ X) (As := [.int (nI k), .int (nI 6)]) (rest := [.int (nI (j_ahead k)), .ref (ad 0)]) (q0 := 0) (r0 := (RX9, TX9, 36)) hx hb hml hown hts hK hP hD hS hA hl.1 wM_0 rfl (cM_of l D cy ad X (jAddC q (nI (j_lack k)) ((jOf q k 9).toInt64) R C) _ (c9 := k) (w9 := 6) (by omega) (by omega)) (cwV 2 hts gX9_solveAll_X9_of rfl rfl rfl (by decide +kernel) ⟨Nat.le_of_ble_eq_true rfl, Nat.le_of_ble_eq_true rfl⟩) rfl rfl (Nat.le_of_ble_eq_true rfl) ⟨Nat.le_of_ble_eq_true rfl, Nat.le_of_ble_eq_true rfl⟩ dX9_solveAll_87 (fun r18 ws18 H locs e18 hP hD hS => ?_)
                      obtain ⟨e18a, e18b⟩ := e18
                      rw [show r18 = jOf q k 6 from e18a]
                      rw [e18b] at hP hD
                      refine lv_iconst (v := nI 1) hx hb dX9_solveAll_90 (by decide) ?_
                      refine lv_icmp_ne (tgt := 105) hx hb dX9_solveAll_91 (by decide) (fun c19 => ?_) (fun c19 => ?_)
                      · skip
                        refine lv_lconst (v := 0) hx hb dX9_solveAll_105 (by decide) ?_
                        refine gCallv (ws := wM cy ad (jAddC q (nI (j_lack k)) ((jOf q k 9).toInt64) R C) ++ X) (As := [.int (nI (j_ahead k)), .long 0]) (rest := []) (q0 := 0) (r0 := (RX9, TX9, 36)) hx hb hml hown hts hK hP hD hS hA hl.1 wM_0 rfl (cM_addCost l D cy ad X (jAddC q (nI (j_lack k)) ((jOf q k 9).toInt64) R C) _ (R := R) (C := C) (show aF (jAddC q (nI (j_lack k)) ((jOf q k 9).toInt64) R C) 14 = nI R from hq.1) (show aF (jAddC q (nI (j_lack k)) ((jOf q k 9).toInt64) R C) 15 = nI C from hq.2.1) hR36 hC21 _ _) (cwV 2 hts gX9_solveAll_X9_addCost rfl rfl rfl (by decide +kernel) ⟨Nat.le_of_ble_eq_true rfl, Nat.le_of_ble_eq_true rfl⟩) rfl rfl (Nat.le_of_ble_eq_true rfl) ⟨Nat.le_of_ble_eq_true rfl, Nat.le_of_ble_eq_true rfl⟩ dX9_solveAll_106 (fun ws20 H locs e20 hP hD hS => ?_)
                        rw [show ws20 = _ from e20] at hP hD
                        have hP : va_P D vwCl (wM cy ad (jAddC (jAddC q (nI (j_lack k)) ((jOf q k 9).toInt64) R C) (nI (j_ahead k)) 0 R C) ++ X) H := hP
                        have hD : va_D (va_A (wM cy ad S ++ X) sz) (wM cy ad (jAddC (jAddC q (nI (j_lack k)) ((jOf q k 9).toInt64) R C) (nI (j_ahead k)) 0 R C) ++ X) := hD
                        refine lv_iinc (v := nI (k + 1)) (lv' := [(3, .int (nI (k + 1))), (0, .ref (ad 0)), (1, .int mask), (2, .int (nI sg))]) hx hb dX9_solveAll_109 hl (k := 0) rfl (nI_1 _) (by decide) rfl (fun ls hl => ?_)
                        refine lv_goto (tgt := 28) hx hb dX9_solveAll_112 (by decide) ?_
                        have he : (jCs mask (nI sg) R C) k q = (jAddC (jAddC q (nI (j_lack k)) ((jOf q k 9).toInt64) R C) (nI (j_ahead k)) 0 R C) := by simp [jCs, c3, c10, c11, c13, c19, c5, c8]
                        rw [lpN_s (f := jCs mask (nI sg) R C), he] at hex
                        exact ih ((k + 1)) (jAddC (jAddC q (nI (j_lack k)) ((jOf q k 9).toInt64) R C) (nI (j_ahead k)) 0 R C) _ _ _ (by omega) hq hP hD hS (lv_sub hl [0, 1, 2, 3] rfl) hex
                      · skip
                        refine lv_aload_n hx hb dX9_solveAll_94 rfl (lv_at hl 1 rfl) ?_
                        refine lv_iload_n hx hb dX9_solveAll_95 rfl (lv_at hl 0 rfl) ?_
                        refine lv_bipush (v := nI 9) hx hb dX9_solveAll_96 (by decide) ?_
                        refine gCalli (ws := wM cy ad (jAddC q (nI (j_lack k)) ((jOf q k 9).toInt64) R C) ++ X) (As := [.int (nI k), .int (nI 9)]) (rest := [.int (nI (j_ahead k)), .ref (ad 0)]) (q0 := 0) (r0 := (RX9, TX9, 36)) hx hb hml hown hts hK hP hD hS hA hl.1 wM_0 rfl (cM_of l D cy ad X (jAddC q (nI (j_lack k)) ((jOf q k 9).toInt64) R C) _ (c9 := k) (w9 := 9) (by omega) (by omega)) (cwV 2 hts gX9_solveAll_X9_of rfl rfl rfl (by decide +kernel) ⟨Nat.le_of_ble_eq_true rfl, Nat.le_of_ble_eq_true rfl⟩) rfl rfl (Nat.le_of_ble_eq_true rfl) ⟨Nat.le_of_ble_eq_true rfl, Nat.le_of_ble_eq_true rfl⟩ dX9_solveAll_98 (fun r21 ws21 H locs e21 hP hD hS => ?_)
                        obtain ⟨e21a, e21b⟩ := e21
                        rw [show r21 = jOf q k 9 from e21a]
                        rw [e21b] at hP hD
                        refine lv_i2l hx hb dX9_solveAll_101 (v := (jOf q k 9).toInt64) rfl ?_
                        refine lv_goto (tgt := 106) hx hb dX9_solveAll_102 (by decide) ?_
                        refine gCallv (ws := wM cy ad (jAddC q (nI (j_lack k)) ((jOf q k 9).toInt64) R C) ++ X) (As := [.int (nI (j_ahead k)), .long ((jOf q k 9).toInt64)]) (rest := []) (q0 := 0) (r0 := (RX9, TX9, 36)) hx hb hml hown hts hK hP hD hS hA hl.1 wM_0 rfl (cM_addCost l D cy ad X (jAddC q (nI (j_lack k)) ((jOf q k 9).toInt64) R C) _ (R := R) (C := C) (show aF (jAddC q (nI (j_lack k)) ((jOf q k 9).toInt64) R C) 14 = nI R from hq.1) (show aF (jAddC q (nI (j_lack k)) ((jOf q k 9).toInt64) R C) 15 = nI C from hq.2.1) hR36 hC21 _ _) (cwV 2 hts gX9_solveAll_X9_addCost rfl rfl rfl (by decide +kernel) ⟨Nat.le_of_ble_eq_true rfl, Nat.le_of_ble_eq_true rfl⟩) rfl rfl (Nat.le_of_ble_eq_true rfl) ⟨Nat.le_of_ble_eq_true rfl, Nat.le_of_ble_eq_true rfl⟩ dX9_solveAll_106 (fun ws22 H locs e22 hP hD hS => ?_)
                        rw [show ws22 = _ from e22] at hP hD
                        have hP : va_P D vwCl (wM cy ad (jAddC (jAddC q (nI (j_lack k)) ((jOf q k 9).toInt64) R C) (nI (j_ahead k)) ((jOf q k 9).toInt64) R C) ++ X) H := hP
                        have hD : va_D (va_A (wM cy ad S ++ X) sz) (wM cy ad (jAddC (jAddC q (nI (j_lack k)) ((jOf q k 9).toInt64) R C) (nI (j_ahead k)) ((jOf q k 9).toInt64) R C) ++ X) := hD
                        refine lv_iinc (v := nI (k + 1)) (lv' := [(3, .int (nI (k + 1))), (0, .ref (ad 0)), (1, .int mask), (2, .int (nI sg))]) hx hb dX9_solveAll_109 hl (k := 0) rfl (nI_1 _) (by decide) rfl (fun ls hl => ?_)
                        refine lv_goto (tgt := 28) hx hb dX9_solveAll_112 (by decide) ?_
                        have he : (jCs mask (nI sg) R C) k q = (jAddC (jAddC q (nI (j_lack k)) ((jOf q k 9).toInt64) R C) (nI (j_ahead k)) ((jOf q k 9).toInt64) R C) := by simp [jCs, c3, c10, c11, c13, c19, c5, c8]
                        rw [lpN_s (f := jCs mask (nI sg) R C), he] at hex
                        exact ih ((k + 1)) (jAddC (jAddC q (nI (j_lack k)) ((jOf q k 9).toInt64) R C) (nI (j_ahead k)) ((jOf q k 9).toInt64) R C) _ _ _ (by omega) hq hP hD hS (lv_sub hl [0, 1, 2, 3] rfl) hex
          refine L28 14 0 (jClear U R C) _ _ _ (by omega) hU hP hD hS (lv_sub hl [0, 2, 3, 1] rfl) (fun H locs ls hq hP hD hS hl => ?_)
          refine lv_aload_n hx hb dX9_solveAll_115 rfl (lv_at hl 1 rfl) ?_
          refine gCallv (ws := wM cy ad (lpN (jCs mask (nI sg) R C) 14 0 (jClear U R C)) ++ X) (As := []) (rest := []) (q0 := 0) (r0 := (RX9, TX9, 36)) hx hb hml hown hts hK hP hD hS hA hl.1 wM_0 rfl (cM_lessen l D cy ad X ((lpN (jCs mask (nI sg) R C) 14 0 (jClear U R C))) _ hq hR36 hC21 hV1) (cwV 0 hts gX9_solveAll_X9_lessen rfl rfl rfl (by decide +kernel) ⟨Nat.le_of_ble_eq_true rfl, Nat.le_of_ble_eq_true rfl⟩) rfl rfl (Nat.le_of_ble_eq_true rfl) ⟨Nat.le_of_ble_eq_true rfl, Nat.le_of_ble_eq_true rfl⟩ dX9_solveAll_116 (fun ws23 H locs e23 hP hD hS => ?_)
          rw [show ws23 = _ from e23] at hP hD
          have hP : va_P D vwCl (wM cy ad V ++ X) H := hP
          have hD : va_D (va_A (wM cy ad S ++ X) sz) (wM cy ad V ++ X) := hD
          have hV := jOk_le hR36 hC21 _ _ hq hV1
          refine lv_aload_n hx hb dX9_solveAll_119 rfl (lv_at hl 1 rfl) ?_
          refine gCallv (ws := wM cy ad V ++ X) (As := []) (rest := []) (q0 := 0) (r0 := (RX9, TX9, 36)) hx hb hml hown hts hK hP hD hS hA hl.1 wM_0 rfl (cM_bar l D cy ad X (V) _ (R := R) (C := C) hV.1 hV.2.1 hR36 hC21 hV.2.2.2.2) (cwV 0 hts gX9_solveAll_X9_bar rfl rfl rfl (by decide +kernel) ⟨Nat.le_of_ble_eq_true rfl, Nat.le_of_ble_eq_true rfl⟩) rfl rfl (Nat.le_of_ble_eq_true rfl) ⟨Nat.le_of_ble_eq_true rfl, Nat.le_of_ble_eq_true rfl⟩ dX9_solveAll_120 (fun ws24 H locs e24 hP hD hS => ?_)
          rw [show ws24 = _ from e24] at hP hD
          have hP : va_P D vwCl (wM cy ad (jBar V R C) ++ X) H := hP
          have hD : va_D (va_A (wM cy ad S ++ X) sz) (wM cy ad (jBar V R C) ++ X) := hD
          refine lv_aload_n hx hb dX9_solveAll_123 rfl (lv_at hl 1 rfl) ?_
          refine rM_get (v := .ref (ad 13)) hx hb hts hin hown hK hP 19 (by decide) rfl (by decide +kernel) dX9_solveAll_124 ?_
          refine lv_iload_n hx hb dX9_solveAll_127 rfl (lv_at hl 3 rfl) ?_
          refine lv_aload_n hx hb dX9_solveAll_128 rfl (lv_at hl 1 rfl) ?_
          refine rM_get (v := .ref (ad 9)) hx hb hts hin hown hK hP 11 (by decide) rfl (by decide +kernel) dX9_solveAll_129 ?_
          refine lv_bipush (v := nI 22) hx hb dX9_solveAll_132 (by decide) ?_
          refine lv_aload_n hx hb dX9_solveAll_134 rfl (lv_at hl 1 rfl) ?_
          refine rM_get (v := .int (aF (jBar V R C) 14)) hx hb hts hin hown hK hP 14 (by decide) rfl (by decide +kernel) dX9_solveAll_135 ?_
          rw [(show aF (jBar V R C) 14 = nI R from hV.1)]
          refine lv_imul hx hb dX9_solveAll_138 ?_
          rw [pk_mul]
          refine rM_ld9 (i := (22 * R)) hx hb hK hP (by omega) dX9_solveAll_139 ?_
          refine W.eq (g2 := F0 m 140 ls [.long ((a9 (jBar V R C)) (22 * R)), .int (nI sg), .ref (ad 13)]) rfl ?_
          refine lv_aload_n hx hb dX9_solveAll_140 rfl (lv_at hl 1 rfl) ?_
          refine rM_get (v := .long (aG (jBar V R C) 16)) hx hb hts hin hown hK hP 16 (by decide) rfl (by decide +kernel) dX9_solveAll_141 ?_
          refine lv_iconst (v := nI 0) hx hb dX9_solveAll_144 (by decide) ?_
          refine pCalll (As := [.long ((a9 (jBar V R C)) (22 * R)), .long (aG (jBar V R C) 16), .int (nI 0)]) (rest := [.int (nI sg), .ref (ad 13)]) hx hb hml hown hts hP hS hA hl.1 (cM_part l _ _ _ _ hg1 hg0) (va_cwS 3 hts gX9_solveAll_X9_part rfl rfl rfl (by decide +kernel) ⟨Nat.le_of_ble_eq_true rfl, Nat.le_of_ble_eq_true rfl⟩) rfl rfl (Nat.le_of_ble_eq_true rfl) ⟨Nat.le_of_ble_eq_true rfl, Nat.le_of_ble_eq_true rfl⟩ dX9_solveAll_145 (fun r25 H locs e25 hP hS => ?_)
          rw [show r25 = ((a9 (jBar V R C)) (22 * R)) / g from e25.trans (if_neg (fun q => q nI_0))]
          refine rM_st13 (i := sg) hx hb hK hP hD hS (by omega) dX9_solveAll_148 (fun H locs hP hD hS => ?_)
          have hP : va_P D vwCl (wM cy ad (mk9 (aF (jBar V R C)) (aG (jBar V R C)) (a1 (jBar V R C)) (a2 (jBar V R C)) (a3 (jBar V R C)) (a4 (jBar V R C)) (a5 (jBar V R C)) (a6 (jBar V R C)) (a7 (jBar V R C)) (a8 (jBar V R C)) (a9 (jBar V R C)) (a10 (jBar V R C)) (a11 (jBar V R C)) (a12 (jBar V R C)) (vp_updL (a13 (jBar V R C)) sg (((a9 (jBar V R C)) (22 * R)) / g)) (a14 (jBar V R C)) (a15 (jBar V R C)) (a16 (jBar V R C)) (a17 (jBar V R C)) (a18 (jBar V R C)) (a19 (jBar V R C)) (a20 (jBar V R C))) ++ X) H := hP
          have hD : va_D (va_A (wM cy ad S ++ X) sz) (wM cy ad (mk9 (aF (jBar V R C)) (aG (jBar V R C)) (a1 (jBar V R C)) (a2 (jBar V R C)) (a3 (jBar V R C)) (a4 (jBar V R C)) (a5 (jBar V R C)) (a6 (jBar V R C)) (a7 (jBar V R C)) (a8 (jBar V R C)) (a9 (jBar V R C)) (a10 (jBar V R C)) (a11 (jBar V R C)) (a12 (jBar V R C)) (vp_updL (a13 (jBar V R C)) sg (((a9 (jBar V R C)) (22 * R)) / g)) (a14 (jBar V R C)) (a15 (jBar V R C)) (a16 (jBar V R C)) (a17 (jBar V R C)) (a18 (jBar V R C)) (a19 (jBar V R C)) (a20 (jBar V R C))) ++ X) := hD
          refine lv_aload_n hx hb dX9_solveAll_149 rfl (lv_at hl 1 rfl) ?_
          refine rM_get (v := .ref (ad 14)) hx hb hts hin hown hK hP 20 (by decide) rfl (by decide +kernel) dX9_solveAll_150 ?_
          refine lv_iload_n hx hb dX9_solveAll_153 rfl (lv_at hl 3 rfl) ?_
          refine lv_aload_n hx hb dX9_solveAll_154 rfl (lv_at hl 1 rfl) ?_
          refine rM_get (v := .ref (ad 9)) hx hb hts hin hown hK hP 11 (by decide) rfl (by decide +kernel) dX9_solveAll_155 ?_
          refine lv_bipush (v := nI 22) hx hb dX9_solveAll_158 (by decide) ?_
          refine lv_aload_n hx hb dX9_solveAll_160 rfl (lv_at hl 1 rfl) ?_
          refine rM_get (v := .int (aF (jBar V R C) 14)) hx hb hts hin hown hK hP 14 (by decide) rfl (by decide +kernel) dX9_solveAll_161 ?_
          rw [(show aF (jBar V R C) 14 = nI R from hV.1)]
          refine lv_imul hx hb dX9_solveAll_164 ?_
          rw [pk_mul]
          refine rM_ld9 (i := (22 * R)) hx hb hK hP (by omega) dX9_solveAll_165 ?_
          refine W.eq (g2 := F0 m 166 ls [.long ((a9 (jBar V R C)) (22 * R)), .int (nI sg), .ref (ad 14)]) rfl ?_
          refine lv_aload_n hx hb dX9_solveAll_166 rfl (lv_at hl 1 rfl) ?_
          refine rM_get (v := .long (aG (jBar V R C) 16)) hx hb hts hin hown hK hP 16 (by decide) rfl (by decide +kernel) dX9_solveAll_167 ?_
          refine lv_iconst (v := nI 1) hx hb dX9_solveAll_170 (by decide) ?_
          refine pCalll (As := [.long ((a9 (jBar V R C)) (22 * R)), .long (aG (jBar V R C) 16), .int (nI 1)]) (rest := [.int (nI sg), .ref (ad 14)]) hx hb hml hown hts hP hS hA hl.1 (cM_part l _ _ _ _ hg1 hg0) (va_cwS 3 hts gX9_solveAll_X9_part rfl rfl rfl (by decide +kernel) ⟨Nat.le_of_ble_eq_true rfl, Nat.le_of_ble_eq_true rfl⟩) rfl rfl (Nat.le_of_ble_eq_true rfl) ⟨Nat.le_of_ble_eq_true rfl, Nat.le_of_ble_eq_true rfl⟩ dX9_solveAll_171 (fun r26 H locs e26 hP hS => ?_)
          rw [show r26 = (aG (jBar V R C) 16) / g from e26.trans (if_pos (by decide))]
          refine rM_st14 (i := sg) hx hb hK hP hD hS (by omega) dX9_solveAll_174 (fun H locs hP hD hS => ?_)
          have hP : va_P D vwCl (wM cy ad (mk9 (aF (jBar V R C)) (aG (jBar V R C)) (a1 (jBar V R C)) (a2 (jBar V R C)) (a3 (jBar V R C)) (a4 (jBar V R C)) (a5 (jBar V R C)) (a6 (jBar V R C)) (a7 (jBar V R C)) (a8 (jBar V R C)) (a9 (jBar V R C)) (a10 (jBar V R C)) (a11 (jBar V R C)) (a12 (jBar V R C)) (vp_updL (a13 (jBar V R C)) sg (((a9 (jBar V R C)) (22 * R)) / g)) (vp_updL (a14 (jBar V R C)) sg ((aG (jBar V R C) 16) / g)) (a15 (jBar V R C)) (a16 (jBar V R C)) (a17 (jBar V R C)) (a18 (jBar V R C)) (a19 (jBar V R C)) (a20 (jBar V R C))) ++ X) H := hP
          have hD : va_D (va_A (wM cy ad S ++ X) sz) (wM cy ad (mk9 (aF (jBar V R C)) (aG (jBar V R C)) (a1 (jBar V R C)) (a2 (jBar V R C)) (a3 (jBar V R C)) (a4 (jBar V R C)) (a5 (jBar V R C)) (a6 (jBar V R C)) (a7 (jBar V R C)) (a8 (jBar V R C)) (a9 (jBar V R C)) (a10 (jBar V R C)) (a11 (jBar V R C)) (a12 (jBar V R C)) (vp_updL (a13 (jBar V R C)) sg (((a9 (jBar V R C)) (22 * R)) / g)) (vp_updL (a14 (jBar V R C)) sg ((aG (jBar V R C) 16) / g)) (a15 (jBar V R C)) (a16 (jBar V R C)) (a17 (jBar V R C)) (a18 (jBar V R C)) (a19 (jBar V R C)) (a20 (jBar V R C))) ++ X) := hD
          refine lv_iinc (v := nI (sg + 1)) (lv' := [(2, .int (nI (sg + 1))), (3, .int (nI 14)), (0, .ref (ad 0)), (1, .int mask)]) hx hb dX9_solveAll_175 hl (k := 3) rfl (nI_1 _) (by decide) rfl (fun ls hl => ?_)
          refine lv_goto (tgt := 17) hx hb dX9_solveAll_178 (by decide) ?_
          have hU2 : jOk (jPut (jBar V R C) sg g R) R C := hV
          exact ih (sg + 1) _ _ _ _ (by omega) (by omega) hU2 hrun hP hD hS (lv_sub hl [0, 2, 3] rfl)
    exact L17 3 1 S9 _ _ _ (by omega) (by omega) (jOk_ch hR36 hC21 _ _ (jOk_clear hok) hrunA) hrunB hP hD hS (lv_sub hl [0, 1, 2] rfl)
  · skip
    refine lv_iconst (v := nI 0) hx hb dX9_solveAll_13 (by decide) ?_
    exact W.zret hx hb hr (by decide) (fun t ht hW => ⟨⟨_, _, rfl, ⟨by rw [c3]; exact nI_0, by rw [if_pos c3] at hrunB; rw [hrunB]⟩, by rw [ht]; exact hP, va_K.moved hW.alike hK, hD⟩, hS.F ht⟩) hS.2.2 dX9_solveAll_14
