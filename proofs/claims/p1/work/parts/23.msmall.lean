/-! the reference: small methods -/
def j_in (x y z : Int32) : Int32 := if x < y then nI 0 else if z < x then nI 0 else nI 1
set_option maxHeartbeats 4000000 in
set_option maxRecDepth 100000 in
theorem cM_in (l : Launch) (sz : Nat) (x y z : Int32) : Met l yX9_in wsX9_in (rm9 0 0) (pPc sz [.int x, .int y, .int z]) (pQi sz (fun r => r = j_in x y z)) 0 0 (fun q => sz ≤ q) := by
  refine pHead (cc := cX9_in) (maxL := 3) (ret := (some .boolean)) (by decide) rfl (Nat.le_of_ble_eq_true rfl) ?_
  intro p e s m below meth c ls hx hb hr hlocks hml hown hts hsz hS hl
  have hown : s.vm.findClass RX9 = some m.cls := hown
  have hl : lv_has ls 3 [(0, .int x), (1, .int y), (2, .int z)] := hl
  refine lv_iload_n hx hb dX9_in_0 rfl (lv_at hl 0 rfl) ?_
  refine lv_iload_n hx hb dX9_in_1 rfl (lv_at hl 1 rfl) ?_
  refine lv_icmp_lt (tgt := 14) hx hb dX9_in_2 (by decide) (fun c1 => ?_) (fun c1 => ?_)
  · skip
    refine lv_iconst (v := nI 0) hx hb dX9_in_14 (by decide) ?_
    exact W.zret hx hb hr (by decide) (fun t ht hW => ⟨⟨_, (), rfl, by simp only [j_in]; simp [c1], trivial⟩, hS.F ht⟩) hS.2.2 dX9_in_15
  · skip
    refine lv_iload_n hx hb dX9_in_5 rfl (lv_at hl 0 rfl) ?_
    refine lv_iload_n hx hb dX9_in_6 rfl (lv_at hl 2 rfl) ?_
    refine lv_icmp_gt (tgt := 14) hx hb dX9_in_7 (by decide) (fun c2 => ?_) (fun c2 => ?_)
    · skip
      refine lv_iconst (v := nI 0) hx hb dX9_in_14 (by decide) ?_
      exact W.zret hx hb hr (by decide) (fun t ht hW => ⟨⟨_, (), rfl, by simp only [j_in]; simp [c1, c2], trivial⟩, hS.F ht⟩) hS.2.2 dX9_in_15
    · skip
      refine lv_iconst (v := nI 1) hx hb dX9_in_10 (by decide) ?_
      refine lv_goto (tgt := 15) hx hb dX9_in_11 (by decide) ?_
      exact W.zret hx hb hr (by decide) (fun t ht hW => ⟨⟨_, (), rfl, by simp only [j_in]; simp [c1, c2], trivial⟩, hS.F ht⟩) hS.2.2 dX9_in_15
def j_isVariable (x : Int32) : Int32 := j_in x (nI 0) (nI 5)
set_option maxHeartbeats 4000000 in
set_option maxRecDepth 100000 in
theorem cM_isVariable (l : Launch) (sz : Nat) (x : Int32) : Met l yX9_isVariable wsX9_isVariable (rm9 1 22) (pPc sz [.int x]) (pQi sz (fun r => r = j_isVariable x)) 0 0 (fun q => sz ≤ q) := by
  refine pHead (cc := cX9_isVariable) (maxL := 1) (ret := (some .boolean)) (by decide) rfl (Nat.le_of_ble_eq_true rfl) ?_
  intro p e s m below meth c ls hx hb hr hlocks hml hown hts hsz hS hl
  have hown : s.vm.findClass RX9 = some m.cls := hown
  have hl : lv_has ls 1 [(0, .int x)] := hl
  refine lv_iload_n hx hb dX9_isVariable_0 rfl (lv_at hl 0 rfl) ?_
  refine lv_iconst (v := nI 0) hx hb dX9_isVariable_1 (by decide) ?_
  refine lv_iconst (v := nI 5) hx hb dX9_isVariable_2 (by decide) ?_
  refine pCalli (D := (fun _ => 0, fun _ _ => 0)) (cl := vwCl) (ws0 := []) (As := [.int x, .int (nI 0), .int (nI 5)]) (rest := []) hx hb hml hown hts (fun k q h => by simp at h) hS (fun q h => by rw [hsz] at h; exact h) hl.1 (cM_in l _ x (nI 0) (nI 5)) (va_cwS 3 hts gX9_isVariable_X9_in rfl rfl rfl (by decide +kernel) ⟨Nat.le_of_ble_eq_true rfl, Nat.le_of_ble_eq_true rfl⟩) rfl rfl (Nat.le_of_ble_eq_true rfl) ⟨Nat.le_of_ble_eq_true rfl, Nat.le_of_ble_eq_true rfl⟩ dX9_isVariable_3 (fun r1 H locs e1 _ hS => ?_)
  rw [show r1 = j_in x (nI 0) (nI 5) from e1]
  exact W.zret hx hb hr (by unfold j_in; repeat (split <;> try rfl)) (fun t ht hW => ⟨⟨_, (), rfl, rfl, trivial⟩, hS.F ht⟩) hS.2.2 dX9_isVariable_6
def j_isPart (x : Int32) : Int32 := j_in x (nI 0) (nI 1)
set_option maxHeartbeats 4000000 in
set_option maxRecDepth 100000 in
theorem cM_isPart (l : Launch) (sz : Nat) (x : Int32) : Met l yX9_isPart wsX9_isPart (rm9 1 22) (pPc sz [.int x]) (pQi sz (fun r => r = j_isPart x)) 0 0 (fun q => sz ≤ q) := by
  refine pHead (cc := cX9_isPart) (maxL := 1) (ret := (some .boolean)) (by decide) rfl (Nat.le_of_ble_eq_true rfl) ?_
  intro p e s m below meth c ls hx hb hr hlocks hml hown hts hsz hS hl
  have hown : s.vm.findClass RX9 = some m.cls := hown
  have hl : lv_has ls 1 [(0, .int x)] := hl
  refine lv_iload_n hx hb dX9_isPart_0 rfl (lv_at hl 0 rfl) ?_
  refine lv_iconst (v := nI 0) hx hb dX9_isPart_1 (by decide) ?_
  refine lv_iconst (v := nI 1) hx hb dX9_isPart_2 (by decide) ?_
  refine pCalli (D := (fun _ => 0, fun _ _ => 0)) (cl := vwCl) (ws0 := []) (As := [.int x, .int (nI 0), .int (nI 1)]) (rest := []) hx hb hml hown hts (fun k q h => by simp at h) hS (fun q h => by rw [hsz] at h; exact h) hl.1 (cM_in l _ x (nI 0) (nI 1)) (va_cwS 3 hts gX9_isPart_X9_in rfl rfl rfl (by decide +kernel) ⟨Nat.le_of_ble_eq_true rfl, Nat.le_of_ble_eq_true rfl⟩) rfl rfl (Nat.le_of_ble_eq_true rfl) ⟨Nat.le_of_ble_eq_true rfl, Nat.le_of_ble_eq_true rfl⟩ dX9_isPart_3 (fun r1 H locs e1 _ hS => ?_)
  rw [show r1 = j_in x (nI 0) (nI 1) from e1]
  exact W.zret hx hb hr (by unfold j_in; repeat (split <;> try rfl)) (fun t ht hW => ⟨⟨_, (), rfl, rfl, trivial⟩, hS.F ht⟩) hS.2.2 dX9_isPart_6
def j_isConstant (x : Int32) : Int32 := j_in x ((-200)) (nI 200)
set_option maxHeartbeats 4000000 in
set_option maxRecDepth 100000 in
theorem cM_isConstant (l : Launch) (sz : Nat) (x : Int32) : Met l yX9_isConstant wsX9_isConstant (rm9 1 22) (pPc sz [.int x]) (pQi sz (fun r => r = j_isConstant x)) 0 0 (fun q => sz ≤ q) := by
  refine pHead (cc := cX9_isConstant) (maxL := 1) (ret := (some .boolean)) (by decide) rfl (Nat.le_of_ble_eq_true rfl) ?_
  intro p e s m below meth c ls hx hb hr hlocks hml hown hts hsz hS hl
  have hown : s.vm.findClass RX9 = some m.cls := hown
  have hl : lv_has ls 1 [(0, .int x)] := hl
  refine lv_iload_n hx hb dX9_isConstant_0 rfl (lv_at hl 0 rfl) ?_
  refine lv_sipush (v := (-200)) hx hb dX9_isConstant_1 (by decide) ?_
  refine lv_sipush (v := nI 200) hx hb dX9_isConstant_4 (by decide) ?_
  refine pCalli (D := (fun _ => 0, fun _ _ => 0)) (cl := vwCl) (ws0 := []) (As := [.int x, .int (-200), .int (nI 200)]) (rest := []) hx hb hml hown hts (fun k q h => by simp at h) hS (fun q h => by rw [hsz] at h; exact h) hl.1 (cM_in l _ x (-200) (nI 200)) (va_cwS 3 hts gX9_isConstant_X9_in rfl rfl rfl (by decide +kernel) ⟨Nat.le_of_ble_eq_true rfl, Nat.le_of_ble_eq_true rfl⟩) rfl rfl (Nat.le_of_ble_eq_true rfl) ⟨Nat.le_of_ble_eq_true rfl, Nat.le_of_ble_eq_true rfl⟩ dX9_isConstant_7 (fun r1 H locs e1 _ hS => ?_)
  rw [show r1 = j_in x (-200) (nI 200) from e1]
  exact W.zret hx hb hr (by unfold j_in; repeat (split <;> try rfl)) (fun t ht hW => ⟨⟨_, (), rfl, rfl, trivial⟩, hS.F ht⟩) hS.2.2 dX9_isConstant_10
def j_isStrength (x y : Int32) : Int32 := if j_in x (nI 0) (nI 3) = 0 then nI 0 else if j_in y (nI 1) (nI 5) = 0 then nI 0 else nI 1
set_option maxHeartbeats 4000000 in
set_option maxRecDepth 100000 in
theorem cM_isStrength (l : Launch) (sz : Nat) (x y : Int32) : Met l yX9_isStrength wsX9_isStrength (rm9 1 22) (pPc sz [.int x, .int y]) (pQi sz (fun r => r = j_isStrength x y)) 0 0 (fun q => sz ≤ q) := by
  refine pHead (cc := cX9_isStrength) (maxL := 2) (ret := (some .boolean)) (by decide) rfl (Nat.le_of_ble_eq_true rfl) ?_
  intro p e s m below meth c ls hx hb hr hlocks hml hown hts hsz hS hl
  have hown : s.vm.findClass RX9 = some m.cls := hown
  have hl : lv_has ls 2 [(0, .int x), (1, .int y)] := hl
  refine lv_iload_n hx hb dX9_isStrength_0 rfl (lv_at hl 0 rfl) ?_
  refine lv_iconst (v := nI 0) hx hb dX9_isStrength_1 (by decide) ?_
  refine lv_iconst (v := nI 3) hx hb dX9_isStrength_2 (by decide) ?_
  refine pCalli (D := (fun _ => 0, fun _ _ => 0)) (cl := vwCl) (ws0 := []) (As := [.int x, .int (nI 0), .int (nI 3)]) (rest := []) hx hb hml hown hts (fun k q h => by simp at h) hS (fun q h => by rw [hsz] at h; exact h) hl.1 (cM_in l _ x (nI 0) (nI 3)) (va_cwS 3 hts gX9_isStrength_X9_in rfl rfl rfl (by decide +kernel) ⟨Nat.le_of_ble_eq_true rfl, Nat.le_of_ble_eq_true rfl⟩) rfl rfl (Nat.le_of_ble_eq_true rfl) ⟨Nat.le_of_ble_eq_true rfl, Nat.le_of_ble_eq_true rfl⟩ dX9_isStrength_3 (fun r1 H locs e1 _ hS => ?_)
  rw [show r1 = j_in x (nI 0) (nI 3) from e1]
  refine lv_if_eq (tgt := 22) hx hb dX9_isStrength_6 (by decide) (fun c2 => ?_) (fun c2 => ?_)
  · skip
    refine lv_iconst (v := nI 0) hx hb dX9_isStrength_22 (by decide) ?_
    exact W.zret hx hb hr (by decide) (fun t ht hW => ⟨⟨_, (), rfl, by simp only [j_isStrength]; simp [c2], trivial⟩, hS.F ht⟩) hS.2.2 dX9_isStrength_23
  · skip
    refine lv_iload_n hx hb dX9_isStrength_9 rfl (lv_at hl 1 rfl) ?_
    refine lv_iconst (v := nI 1) hx hb dX9_isStrength_10 (by decide) ?_
    refine lv_iconst (v := nI 5) hx hb dX9_isStrength_11 (by decide) ?_
    refine pCalli (D := (fun _ => 0, fun _ _ => 0)) (cl := vwCl) (ws0 := []) (As := [.int y, .int (nI 1), .int (nI 5)]) (rest := []) hx hb hml hown hts (fun k q h => by simp at h) hS (fun q h => by rw [hsz] at h; exact h) hl.1 (cM_in l _ y (nI 1) (nI 5)) (va_cwS 3 hts gX9_isStrength_X9_in rfl rfl rfl (by decide +kernel) ⟨Nat.le_of_ble_eq_true rfl, Nat.le_of_ble_eq_true rfl⟩) rfl rfl (Nat.le_of_ble_eq_true rfl) ⟨Nat.le_of_ble_eq_true rfl, Nat.le_of_ble_eq_true rfl⟩ dX9_isStrength_12 (fun r3 H locs e3 _ hS => ?_)
    rw [show r3 = j_in y (nI 1) (nI 5) from e3]
    refine lv_if_eq (tgt := 22) hx hb dX9_isStrength_15 (by decide) (fun c4 => ?_) (fun c4 => ?_)
    · skip
      refine lv_iconst (v := nI 0) hx hb dX9_isStrength_22 (by decide) ?_
      exact W.zret hx hb hr (by decide) (fun t ht hW => ⟨⟨_, (), rfl, by simp only [j_isStrength]; simp [c2, c4], trivial⟩, hS.F ht⟩) hS.2.2 dX9_isStrength_23
    · skip
      refine lv_iconst (v := nI 1) hx hb dX9_isStrength_18 (by decide) ?_
      refine lv_goto (tgt := 23) hx hb dX9_isStrength_19 (by decide) ?_
      exact W.zret hx hb hr (by decide) (fun t ht hW => ⟨⟨_, (), rfl, by simp only [j_isStrength]; simp [c2, c4], trivial⟩, hS.F ht⟩) hS.2.2 dX9_isStrength_23
def j_ahead (c : Nat) : Nat := 12 + 2 * c
def j_lack (c : Nat) : Nat := 13 + 2 * c
set_option maxHeartbeats 4000000 in
set_option maxRecDepth 100000 in
theorem cM_ahead (l : Launch) (sz : Nat) {c9 : Nat} (hc : c9 < 15) : Met l yX9_ahead wsX9_ahead (rm9 0 0) (pPc sz [.int (nI c9)]) (pQi sz (fun r => r = nI (j_ahead c9))) 0 0 (fun q => sz ≤ q) := by
  refine pHead (cc := cX9_ahead) (maxL := 1) (ret := (some .int)) (by decide) rfl (Nat.le_of_ble_eq_true rfl) ?_
  intro p e s m below meth c ls hx hb hr hlocks hml hown hts hsz hS hl
  have hown : s.vm.findClass RX9 = some m.cls := hown
  have hl : lv_has ls 1 [(0, .int (nI c9))] := hl
  refine lv_bipush (v := nI 12) hx hb dX9_ahead_0 (by decide) ?_
  refine lv_iconst (v := nI 2) hx hb dX9_ahead_2 (by decide) ?_
  refine lv_iload_n hx hb dX9_ahead_3 rfl (lv_at hl 0 rfl) ?_
  refine lv_imul hx hb dX9_ahead_4 ?_
  rw [pk_mul]
  refine lv_iadd hx hb dX9_ahead_5 ?_
  rw [nI_add]
  exact W.iret hx hb hr (fun t ht hW => ⟨⟨_, (), rfl, rfl, trivial⟩, hS.F ht⟩) hS.2.2 dX9_ahead_6
set_option maxHeartbeats 4000000 in
set_option maxRecDepth 100000 in
theorem cM_lack (l : Launch) (sz : Nat) {c9 : Nat} (hc : c9 < 15) : Met l yX9_lack wsX9_lack (rm9 0 0) (pPc sz [.int (nI c9)]) (pQi sz (fun r => r = nI (j_lack c9))) 0 0 (fun q => sz ≤ q) := by
  refine pHead (cc := cX9_lack) (maxL := 1) (ret := (some .int)) (by decide) rfl (Nat.le_of_ble_eq_true rfl) ?_
  intro p e s m below meth c ls hx hb hr hlocks hml hown hts hsz hS hl
  have hown : s.vm.findClass RX9 = some m.cls := hown
  have hl : lv_has ls 1 [(0, .int (nI c9))] := hl
  refine lv_bipush (v := nI 13) hx hb dX9_lack_0 (by decide) ?_
  refine lv_iconst (v := nI 2) hx hb dX9_lack_2 (by decide) ?_
  refine lv_iload_n hx hb dX9_lack_3 rfl (lv_at hl 0 rfl) ?_
  refine lv_imul hx hb dX9_lack_4 ?_
  rw [pk_mul]
  refine lv_iadd hx hb dX9_lack_5 ?_
  rw [nI_add]
  exact W.iret hx hb hr (fun t ht hW => ⟨⟨_, (), rfl, rfl, trivial⟩, hS.F ht⟩) hS.2.2 dX9_lack_6
def jOf (S : MS) (c w : Nat) : Int32 := a1 S (11 * c + w)
set_option maxHeartbeats 4000000 in
set_option maxRecDepth 100000 in
theorem cM_of (l : Launch) (D : va_G) (cy : Nat → ClassId) (ad : Nat → Nat) (X : va_W) (S : MS) (sz : Nat) {c9 w9 : Nat} (hc : c9 < 15) (hw : w9 < 11) : Met l yX9_of wsX9_of (rm9 0 0) (gPc D cy (wM cy ad S ++ X) sz [.ref (ad 0), .int (nI c9), .int (nI w9)]) (gQi D cy (wM cy ad S ++ X) sz (fun r ws' => r = jOf S c9 w9 ∧ ws' = wM cy ad S ++ X)) 0 0 (va_A (wM cy ad S ++ X) sz) := by
  refine gHead (cc := cX9_of) (maxL := 3) (ret := (some .int)) (by decide) rfl (Nat.le_of_ble_eq_true rfl) ?_
  intro p e s m below meth c ls hx hb hr hlocks hml hown hts hsz hP hK hD hS hA hl
  have hin : ∀ w ∈ u_ws RX9 TX9 36, w ∈ wsX9_of := by decide +kernel
  have hown : s.vm.findClass RX9 = some m.cls := hown
  have hl : lv_has ls 3 [(0, .ref (ad 0)), (1, .int (nI c9)), (2, .int (nI w9))] := hl
  refine lv_aload_n hx hb dX9_of_0 rfl (lv_at hl 0 rfl) ?_
  refine rM_get (v := .ref (ad 1)) hx hb hts hin hown hK hP 0 (by decide) rfl (by decide +kernel) dX9_of_1 ?_
  refine lv_bipush (v := nI 11) hx hb dX9_of_4 (by decide) ?_
  refine lv_iload_n hx hb dX9_of_6 rfl (lv_at hl 1 rfl) ?_
  refine lv_imul hx hb dX9_of_7 ?_
  rw [pk_mul]
  refine lv_iload_n hx hb dX9_of_8 rfl (lv_at hl 2 rfl) ?_
  refine lv_iadd hx hb dX9_of_9 ?_
  rw [nI_add]
  refine rM_ld1 (i := ((11 * c9) + w9)) hx hb hK hP (by omega) dX9_of_10 ?_
  refine W.eq (g2 := F0 m 11 ls [.int (a1 S ((11 * c9) + w9))]) rfl ?_
  exact W.iret hx hb hr (fun t ht hW => ⟨⟨_, _, rfl, ⟨rfl, rfl⟩, by rw [ht]; exact hP, va_K.moved hW.alike hK, hD⟩, hS.F ht⟩) hS.2.2 dX9_of_11
