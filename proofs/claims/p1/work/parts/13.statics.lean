/-! static methods on numbers; the costs of a layout -/
/-- Euclid's algorithm, n rounds at most -/
def gcdN : Nat → Int64 → Int64 → Int64
  | 0, d, _ => d
  | n + 1, d, r => if ¬ lg_cmp r 0 = 0 then gcdN n r (d - d / r * r) else d
theorem gcdN_s {n : Nat} {d r : Int64} : gcdN (n + 1) d r = if ¬ lg_cmp r 0 = 0 then gcdN n r (d - d / r * r) else d := rfl
def kPart (u d : Int64) (part : Int32) : Int64 := if 0 < lg_cmp (gcdN 200 d (absL u)) 0 then (if ¬ part = 0 then d / gcdN 200 d (absL u) else u / gcdN 200 d (absL u)) else (if ¬ part = 0 then 1 else 0)
theorem lc_pos {x : Int64} (h : 0 < lg_cmp x 0) : ¬ x = 0 := fun e => by subst e; exact absurd h (by decide)
def k_isVariable (x : Int32) : Int32 := if x < 0 then nI 0 else if nI 6 ≤ x then nI 0 else nI 1
set_option maxHeartbeats 4000000 in
set_option maxRecDepth 100000 in
theorem cS_isVariable (l : Launch) (sz : Nat) (x : Int32) : Met l yX8_isVariable wsX8_isVariable (rm9 0 0) (pPc sz [.int x]) (pQi sz (fun r => r = k_isVariable x)) 0 0 (fun q => sz ≤ q) := by
  refine pHead (cc := cX8_isVariable) (maxL := 1) (ret := (some .boolean)) (by decide) rfl (Nat.le_of_ble_eq_true rfl) ?_
  intro p e s m below meth c ls hx hb hr hlocks hml hown hts hsz hS hl
  have hown : s.vm.findClass RX8 = some m.cls := hown
  have hl : lv_has ls 1 [(0, .int x)] := hl
  refine lv_iload_n hx hb dX8_isVariable_0 rfl (lv_at hl 0 rfl) ?_
  refine lv_if_lt (tgt := 14) hx hb dX8_isVariable_1 (by decide) (fun c1 => ?_) (fun c1 => ?_)
  · skip
    refine lv_iconst (v := nI 0) hx hb dX8_isVariable_14 (by decide) ?_
    exact W.zret hx hb hr (by decide) (fun t ht hW => ⟨⟨_, (), rfl, by simp only [k_isVariable]; simp [c1], trivial⟩, hS.F ht⟩) hS.2.2 dX8_isVariable_15
  · skip
    refine lv_iload_n hx hb dX8_isVariable_4 rfl (lv_at hl 0 rfl) ?_
    refine lv_bipush (v := nI 6) hx hb dX8_isVariable_5 (by decide) ?_
    refine lv_icmp_ge (tgt := 14) hx hb dX8_isVariable_7 (by decide) (fun c2 => ?_) (fun c2 => ?_)
    · skip
      refine lv_iconst (v := nI 0) hx hb dX8_isVariable_14 (by decide) ?_
      exact W.zret hx hb hr (by decide) (fun t ht hW => ⟨⟨_, (), rfl, by simp only [k_isVariable]; simp [c1, c2], trivial⟩, hS.F ht⟩) hS.2.2 dX8_isVariable_15
    · skip
      refine lv_iconst (v := nI 1) hx hb dX8_isVariable_10 (by decide) ?_
      refine lv_goto (tgt := 15) hx hb dX8_isVariable_11 (by decide) ?_
      exact W.zret hx hb hr (by decide) (fun t ht hW => ⟨⟨_, (), rfl, by simp only [k_isVariable]; simp [c1, c2], trivial⟩, hS.F ht⟩) hS.2.2 dX8_isVariable_15
def k_isWithin (x y : Int32) : Int32 := if x < -y then nI 0 else if y < x then nI 0 else nI 1
set_option maxHeartbeats 4000000 in
set_option maxRecDepth 100000 in
theorem cS_isWithin (l : Launch) (sz : Nat) (x y : Int32) : Met l yX8_isWithin wsX8_isWithin (rm9 0 0) (pPc sz [.int x, .int y]) (pQi sz (fun r => r = k_isWithin x y)) 0 0 (fun q => sz ≤ q) := by
  refine pHead (cc := cX8_isWithin) (maxL := 2) (ret := (some .boolean)) (by decide) rfl (Nat.le_of_ble_eq_true rfl) ?_
  intro p e s m below meth c ls hx hb hr hlocks hml hown hts hsz hS hl
  have hown : s.vm.findClass RX8 = some m.cls := hown
  have hl : lv_has ls 2 [(0, .int x), (1, .int y)] := hl
  refine lv_iload_n hx hb dX8_isWithin_0 rfl (lv_at hl 0 rfl) ?_
  refine lv_iload_n hx hb dX8_isWithin_1 rfl (lv_at hl 1 rfl) ?_
  refine lv_ineg hx hb dX8_isWithin_2 ?_
  refine lv_icmp_lt (tgt := 15) hx hb dX8_isWithin_3 (by decide) (fun c1 => ?_) (fun c1 => ?_)
  · skip
    refine lv_iconst (v := nI 0) hx hb dX8_isWithin_15 (by decide) ?_
    exact W.zret hx hb hr (by decide) (fun t ht hW => ⟨⟨_, (), rfl, by simp only [k_isWithin]; simp [c1], trivial⟩, hS.F ht⟩) hS.2.2 dX8_isWithin_16
  · skip
    refine lv_iload_n hx hb dX8_isWithin_6 rfl (lv_at hl 0 rfl) ?_
    refine lv_iload_n hx hb dX8_isWithin_7 rfl (lv_at hl 1 rfl) ?_
    refine lv_icmp_gt (tgt := 15) hx hb dX8_isWithin_8 (by decide) (fun c2 => ?_) (fun c2 => ?_)
    · skip
      refine lv_iconst (v := nI 0) hx hb dX8_isWithin_15 (by decide) ?_
      exact W.zret hx hb hr (by decide) (fun t ht hW => ⟨⟨_, (), rfl, by simp only [k_isWithin]; simp [c1, c2], trivial⟩, hS.F ht⟩) hS.2.2 dX8_isWithin_16
    · skip
      refine lv_iconst (v := nI 1) hx hb dX8_isWithin_11 (by decide) ?_
      refine lv_goto (tgt := 16) hx hb dX8_isWithin_12 (by decide) ?_
      exact W.zret hx hb hr (by decide) (fun t ht hW => ⟨⟨_, (), rfl, by simp only [k_isWithin]; simp [c1, c2], trivial⟩, hS.F ht⟩) hS.2.2 dX8_isWithin_16
def k_isRelation (x : Int32) : Int32 := if x < 0 then nI 0 else if nI 2 < x then nI 0 else nI 1
set_option maxHeartbeats 4000000 in
set_option maxRecDepth 100000 in
theorem cS_isRelation (l : Launch) (sz : Nat) (x : Int32) : Met l yX8_isRelation wsX8_isRelation (rm9 0 0) (pPc sz [.int x]) (pQi sz (fun r => r = k_isRelation x)) 0 0 (fun q => sz ≤ q) := by
  refine pHead (cc := cX8_isRelation) (maxL := 1) (ret := (some .boolean)) (by decide) rfl (Nat.le_of_ble_eq_true rfl) ?_
  intro p e s m below meth c ls hx hb hr hlocks hml hown hts hsz hS hl
  have hown : s.vm.findClass RX8 = some m.cls := hown
  have hl : lv_has ls 1 [(0, .int x)] := hl
  refine lv_iload_n hx hb dX8_isRelation_0 rfl (lv_at hl 0 rfl) ?_
  refine lv_if_lt (tgt := 13) hx hb dX8_isRelation_1 (by decide) (fun c1 => ?_) (fun c1 => ?_)
  · skip
    refine lv_iconst (v := nI 0) hx hb dX8_isRelation_13 (by decide) ?_
    exact W.zret hx hb hr (by decide) (fun t ht hW => ⟨⟨_, (), rfl, by simp only [k_isRelation]; simp [c1], trivial⟩, hS.F ht⟩) hS.2.2 dX8_isRelation_14
  · skip
    refine lv_iload_n hx hb dX8_isRelation_4 rfl (lv_at hl 0 rfl) ?_
    refine lv_iconst (v := nI 2) hx hb dX8_isRelation_5 (by decide) ?_
    refine lv_icmp_gt (tgt := 13) hx hb dX8_isRelation_6 (by decide) (fun c2 => ?_) (fun c2 => ?_)
    · skip
      refine lv_iconst (v := nI 0) hx hb dX8_isRelation_13 (by decide) ?_
      exact W.zret hx hb hr (by decide) (fun t ht hW => ⟨⟨_, (), rfl, by simp only [k_isRelation]; simp [c1, c2], trivial⟩, hS.F ht⟩) hS.2.2 dX8_isRelation_14
    · skip
      refine lv_iconst (v := nI 1) hx hb dX8_isRelation_9 (by decide) ?_
      refine lv_goto (tgt := 14) hx hb dX8_isRelation_10 (by decide) ?_
      exact W.zret hx hb hr (by decide) (fun t ht hW => ⟨⟨_, (), rfl, by simp only [k_isRelation]; simp [c1, c2], trivial⟩, hS.F ht⟩) hS.2.2 dX8_isRelation_14
def k_isStrength (x : Int32) : Int32 := if x < 0 then nI 0 else if nI 3 < x then nI 0 else nI 1
set_option maxHeartbeats 4000000 in
set_option maxRecDepth 100000 in
theorem cS_isStrength (l : Launch) (sz : Nat) (x : Int32) : Met l yX8_isStrength wsX8_isStrength (rm9 0 0) (pPc sz [.int x]) (pQi sz (fun r => r = k_isStrength x)) 0 0 (fun q => sz ≤ q) := by
  refine pHead (cc := cX8_isStrength) (maxL := 1) (ret := (some .boolean)) (by decide) rfl (Nat.le_of_ble_eq_true rfl) ?_
  intro p e s m below meth c ls hx hb hr hlocks hml hown hts hsz hS hl
  have hown : s.vm.findClass RX8 = some m.cls := hown
  have hl : lv_has ls 1 [(0, .int x)] := hl
  refine lv_iload_n hx hb dX8_isStrength_0 rfl (lv_at hl 0 rfl) ?_
  refine lv_if_lt (tgt := 13) hx hb dX8_isStrength_1 (by decide) (fun c1 => ?_) (fun c1 => ?_)
  · skip
    refine lv_iconst (v := nI 0) hx hb dX8_isStrength_13 (by decide) ?_
    exact W.zret hx hb hr (by decide) (fun t ht hW => ⟨⟨_, (), rfl, by simp only [k_isStrength]; simp [c1], trivial⟩, hS.F ht⟩) hS.2.2 dX8_isStrength_14
  · skip
    refine lv_iload_n hx hb dX8_isStrength_4 rfl (lv_at hl 0 rfl) ?_
    refine lv_iconst (v := nI 3) hx hb dX8_isStrength_5 (by decide) ?_
    refine lv_icmp_gt (tgt := 13) hx hb dX8_isStrength_6 (by decide) (fun c2 => ?_) (fun c2 => ?_)
    · skip
      refine lv_iconst (v := nI 0) hx hb dX8_isStrength_13 (by decide) ?_
      exact W.zret hx hb hr (by decide) (fun t ht hW => ⟨⟨_, (), rfl, by simp only [k_isStrength]; simp [c1, c2], trivial⟩, hS.F ht⟩) hS.2.2 dX8_isStrength_14
    · skip
      refine lv_iconst (v := nI 1) hx hb dX8_isStrength_9 (by decide) ?_
      refine lv_goto (tgt := 14) hx hb dX8_isStrength_10 (by decide) ?_
      exact W.zret hx hb hr (by decide) (fun t ht hW => ⟨⟨_, (), rfl, by simp only [k_isStrength]; simp [c1, c2], trivial⟩, hS.F ht⟩) hS.2.2 dX8_isStrength_14
def k_isSoft (x : Int32) : Int32 := if x < nI 1 then nI 0 else if nI 3 < x then nI 0 else nI 1
set_option maxHeartbeats 4000000 in
set_option maxRecDepth 100000 in
theorem cS_isSoft (l : Launch) (sz : Nat) (x : Int32) : Met l yX8_isSoft wsX8_isSoft (rm9 0 0) (pPc sz [.int x]) (pQi sz (fun r => r = k_isSoft x)) 0 0 (fun q => sz ≤ q) := by
  refine pHead (cc := cX8_isSoft) (maxL := 1) (ret := (some .boolean)) (by decide) rfl (Nat.le_of_ble_eq_true rfl) ?_
  intro p e s m below meth c ls hx hb hr hlocks hml hown hts hsz hS hl
  have hown : s.vm.findClass RX8 = some m.cls := hown
  have hl : lv_has ls 1 [(0, .int x)] := hl
  refine lv_iload_n hx hb dX8_isSoft_0 rfl (lv_at hl 0 rfl) ?_
  refine lv_iconst (v := nI 1) hx hb dX8_isSoft_1 (by decide) ?_
  refine lv_icmp_lt (tgt := 14) hx hb dX8_isSoft_2 (by decide) (fun c1 => ?_) (fun c1 => ?_)
  · skip
    refine lv_iconst (v := nI 0) hx hb dX8_isSoft_14 (by decide) ?_
    exact W.zret hx hb hr (by decide) (fun t ht hW => ⟨⟨_, (), rfl, by simp only [k_isSoft]; simp [c1], trivial⟩, hS.F ht⟩) hS.2.2 dX8_isSoft_15
  · skip
    refine lv_iload_n hx hb dX8_isSoft_5 rfl (lv_at hl 0 rfl) ?_
    refine lv_iconst (v := nI 3) hx hb dX8_isSoft_6 (by decide) ?_
    refine lv_icmp_gt (tgt := 14) hx hb dX8_isSoft_7 (by decide) (fun c2 => ?_) (fun c2 => ?_)
    · skip
      refine lv_iconst (v := nI 0) hx hb dX8_isSoft_14 (by decide) ?_
      exact W.zret hx hb hr (by decide) (fun t ht hW => ⟨⟨_, (), rfl, by simp only [k_isSoft]; simp [c1, c2], trivial⟩, hS.F ht⟩) hS.2.2 dX8_isSoft_15
    · skip
      refine lv_iconst (v := nI 1) hx hb dX8_isSoft_10 (by decide) ?_
      refine lv_goto (tgt := 15) hx hb dX8_isSoft_11 (by decide) ?_
      exact W.zret hx hb hr (by decide) (fun t ht hW => ⟨⟨_, (), rfl, by simp only [k_isSoft]; simp [c1, c2], trivial⟩, hS.F ht⟩) hS.2.2 dX8_isSoft_15
def k_isWeight (x : Int32) : Int32 := if x < nI 1 then nI 0 else if nI 5 < x then nI 0 else nI 1
set_option maxHeartbeats 4000000 in
set_option maxRecDepth 100000 in
theorem cS_isWeight (l : Launch) (sz : Nat) (x : Int32) : Met l yX8_isWeight wsX8_isWeight (rm9 0 0) (pPc sz [.int x]) (pQi sz (fun r => r = k_isWeight x)) 0 0 (fun q => sz ≤ q) := by
  refine pHead (cc := cX8_isWeight) (maxL := 1) (ret := (some .boolean)) (by decide) rfl (Nat.le_of_ble_eq_true rfl) ?_
  intro p e s m below meth c ls hx hb hr hlocks hml hown hts hsz hS hl
  have hown : s.vm.findClass RX8 = some m.cls := hown
  have hl : lv_has ls 1 [(0, .int x)] := hl
  refine lv_iload_n hx hb dX8_isWeight_0 rfl (lv_at hl 0 rfl) ?_
  refine lv_iconst (v := nI 1) hx hb dX8_isWeight_1 (by decide) ?_
  refine lv_icmp_lt (tgt := 14) hx hb dX8_isWeight_2 (by decide) (fun c1 => ?_) (fun c1 => ?_)
  · skip
    refine lv_iconst (v := nI 0) hx hb dX8_isWeight_14 (by decide) ?_
    exact W.zret hx hb hr (by decide) (fun t ht hW => ⟨⟨_, (), rfl, by simp only [k_isWeight]; simp [c1], trivial⟩, hS.F ht⟩) hS.2.2 dX8_isWeight_15
  · skip
    refine lv_iload_n hx hb dX8_isWeight_5 rfl (lv_at hl 0 rfl) ?_
    refine lv_iconst (v := nI 5) hx hb dX8_isWeight_6 (by decide) ?_
    refine lv_icmp_gt (tgt := 14) hx hb dX8_isWeight_7 (by decide) (fun c2 => ?_) (fun c2 => ?_)
    · skip
      refine lv_iconst (v := nI 0) hx hb dX8_isWeight_14 (by decide) ?_
      exact W.zret hx hb hr (by decide) (fun t ht hW => ⟨⟨_, (), rfl, by simp only [k_isWeight]; simp [c1, c2], trivial⟩, hS.F ht⟩) hS.2.2 dX8_isWeight_15
    · skip
      refine lv_iconst (v := nI 1) hx hb dX8_isWeight_10 (by decide) ?_
      refine lv_goto (tgt := 15) hx hb dX8_isWeight_11 (by decide) ?_
      exact W.zret hx hb hr (by decide) (fun t ht hW => ⟨⟨_, (), rfl, by simp only [k_isWeight]; simp [c1, c2], trivial⟩, hS.F ht⟩) hS.2.2 dX8_isWeight_15
def k_isPart (x : Int32) : Int32 := if x = 0 then nI 1 else if x = nI 1 then nI 1 else nI 0
set_option maxHeartbeats 4000000 in
set_option maxRecDepth 100000 in
theorem cS_isPart (l : Launch) (sz : Nat) (x : Int32) : Met l yX8_isPart wsX8_isPart (rm9 0 0) (pPc sz [.int x]) (pQi sz (fun r => r = k_isPart x)) 0 0 (fun q => sz ≤ q) := by
  refine pHead (cc := cX8_isPart) (maxL := 1) (ret := (some .boolean)) (by decide) rfl (Nat.le_of_ble_eq_true rfl) ?_
  intro p e s m below meth c ls hx hb hr hlocks hml hown hts hsz hS hl
  have hown : s.vm.findClass RX8 = some m.cls := hown
  have hl : lv_has ls 1 [(0, .int x)] := hl
  refine lv_iload_n hx hb dX8_isPart_0 rfl (lv_at hl 0 rfl) ?_
  refine lv_if_eq (tgt := 9) hx hb dX8_isPart_1 (by decide) (fun c1 => ?_) (fun c1 => ?_)
  · skip
    refine lv_iconst (v := nI 1) hx hb dX8_isPart_9 (by decide) ?_
    refine lv_goto (tgt := 14) hx hb dX8_isPart_10 (by decide) ?_
    exact W.zret hx hb hr (by decide) (fun t ht hW => ⟨⟨_, (), rfl, by simp only [k_isPart]; simp [c1], trivial⟩, hS.F ht⟩) hS.2.2 dX8_isPart_14
  · skip
    refine lv_iload_n hx hb dX8_isPart_4 rfl (lv_at hl 0 rfl) ?_
    refine lv_iconst (v := nI 1) hx hb dX8_isPart_5 (by decide) ?_
    refine lv_icmp_ne (tgt := 13) hx hb dX8_isPart_6 (by decide) (fun c2 => ?_) (fun c2 => ?_)
    · skip
      refine lv_iconst (v := nI 0) hx hb dX8_isPart_13 (by decide) ?_
      exact W.zret hx hb hr (by decide) (fun t ht hW => ⟨⟨_, (), rfl, by simp only [k_isPart]; simp [c1, c2], trivial⟩, hS.F ht⟩) hS.2.2 dX8_isPart_14
    · skip
      refine lv_iconst (v := nI 1) hx hb dX8_isPart_9 (by decide) ?_
      refine lv_goto (tgt := 14) hx hb dX8_isPart_10 (by decide) ?_
      exact W.zret hx hb hr (by decide) (fun t ht hW => ⟨⟨_, (), rfl, by simp only [k_isPart]; simp [c1, c2], trivial⟩, hS.F ht⟩) hS.2.2 dX8_isPart_14
