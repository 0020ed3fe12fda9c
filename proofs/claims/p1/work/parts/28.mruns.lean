/-! the reference: its loops of exchanges, by runs: n rounds are enough -/
theorem ln0 {x : Int64} (h : ¬ lg_cmp x 0 ≤ 0) : ¬ x = 0 := fun e => h (by subst e; decide)
theorem lm0 {x : Int64} (h : ¬ 0 ≤ lg_cmp x 0) : ¬ x = 0 := fun e => h (by subst e; decide)
def jOk (S : MS) (R C : Nat) : Prop := aF S 14 = nI R ∧ aF S 15 = nI C ∧ ¬ aG S 16 = 0 ∧ (∀ i : Nat, i < R → ∃ v : Nat, v < 42 ∧ a10 S i = nI v) ∧ ∀ j : Nat, 1 ≤ j → j ≤ C → ∃ v : Nat, v < 42 ∧ a11 S j = nI v
theorem jSwap_F {S : MS} {r q R C : Nat} : aF (jSwap S r q R C) = aF S := by
  unfold jSwap
  split <;> rfl
theorem jSwap_10 {S : MS} {r q R C : Nat} : a10 (jSwap S r q R C) = upd (a10 S) r (a11 S q) := by
  unfold jSwap
  split <;> rfl
theorem jSwap_11 {S : MS} {r q R C : Nat} : a11 (jSwap S r q R C) = upd (a11 S) q (a10 S r) := by
  unfold jSwap
  split <;> rfl
theorem jSwap_B {S : MS} {r q R C : Nat} (h : ¬ a9 S (22 * r + q) = 0) : ¬ aG (jSwap S r q R C) 16 = 0 := by
  unfold jSwap
  split
  · intro e
    exact h e
  · intro e
    have e1 : -(a9 S (22 * r + q)) = 0 := e
    exact h (by have := congrArg (fun x : Int64 => -x) e1; simpa using this)
theorem jOk_swap {S : MS} {r q R C : Nat} (h : jOk S R C) (hr : r < R) (hq : 1 ≤ q) (hq2 : q ≤ C) (hp : ¬ a9 S (22 * r + q) = 0) : jOk (jSwap S r q R C) R C := by
  obtain ⟨h1, h2, h3, h4, h5⟩ := h
  refine ⟨by rw [jSwap_F]; exact h1, by rw [jSwap_F]; exact h2, jSwap_B hp, fun i hi => ?_, fun j hj hj2 => ?_⟩
  · rw [jSwap_10]
    by_cases e : i = r
    · subst e
      obtain ⟨v, hv, hve⟩ := h5 q hq hq2
      exact ⟨v, hv, by simp [upd, hve]⟩
    · obtain ⟨v, hv, hve⟩ := h4 i hi
      exact ⟨v, hv, by simp [upd, e, hve]⟩
  · rw [jSwap_11]
    by_cases e : j = q
    · subst e
      obtain ⟨v, hv, hve⟩ := h4 r hr
      exact ⟨v, hv, by simp [upd, hve]⟩
    · obtain ⟨v, hv, hve⟩ := h5 j hj hj2
      exact ⟨v, hv, by simp [upd, e, hve]⟩
theorem lpN_inv2 {α : Type} {f : Nat → α → α} (P : α → Prop) : ∀ (n k : Nat) (a : α), (∀ (j : Nat) (b : α), k ≤ j → j < k + n → P b → P (f j b)) → P a → P (lpN f n k a) := by
  intro n
  induction n with
  | zero => intro k a _ ha; exact ha
  | succ n ih =>
    intro k a h ha
    exact ih (k + 1) _ (fun j b hj0 hj hb => h j b (by omega) (by omega) hb) (h k a (by omega) (by omega) ha)
theorem jWorst_ix {S : MS} {R : Nat} : jWorst S R = -6 ∨ ∃ j : Nat, j < R ∧ jWorst S R = nI j := by
  refine lpN_inv2 (fun q : Int32 => q = -6 ∨ ∃ j : Nat, j < R ∧ q = nI j) R 0 (-6) (fun j b _ hj hb => ?_) (Or.inl rfl)
  unfold fWr
  split
  · exact hb
  split
  · exact Or.inr ⟨j, by omega, rfl⟩
  split
  · exact hb
  · exact Or.inr ⟨j, by omega, rfl⟩
theorem jHelp_ix {S : MS} {r C : Nat} : jHelp S r C = -6 ∨ ∃ j : Nat, (1 ≤ j ∧ j ≤ C ∧ ¬ a9 S (22 * r + j) = 0) ∧ jHelp S r C = nI j := by
  refine lpN_inv2 (fun q : Int32 => q = -6 ∨ ∃ j : Nat, (1 ≤ j ∧ j ≤ C ∧ ¬ a9 S (22 * r + j) = 0) ∧ q = nI j) C 1 (-6) (fun j b h1 hj hb => ?_) (Or.inl rfl)
  unfold fHe
  split
  · exact hb
  · rename_i hc
    have hj3 : 1 ≤ j ∧ j ≤ C ∧ ¬ a9 S (22 * r + j) = 0 := ⟨h1, by omega, ln0 hc⟩
    split
    · exact Or.inr ⟨j, hj3, rfl⟩
    split
    · exact hb
    · exact Or.inr ⟨j, hj3, rfl⟩
theorem jCheap_ix {S : MS} {R C : Nat} : jCheap S R C = -6 ∨ ∃ j : Nat, (1 ≤ j ∧ j ≤ C) ∧ jCheap S R C = nI j := by
  refine lpN_inv2 (fun q : Int32 => q = -6 ∨ ∃ j : Nat, (1 ≤ j ∧ j ≤ C) ∧ q = nI j) C 1 (-6) (fun j b h1 hj hb => ?_) (Or.inl rfl)
  unfold fCh
  split
  · exact hb
  split
  · exact hb
  split
  · exact Or.inr ⟨j, ⟨h1, by omega⟩, rfl⟩
  split
  · exact hb
  · exact Or.inr ⟨j, ⟨h1, by omega⟩, rfl⟩
theorem jFirst_ix {S : MS} {q R : Nat} : jFirst S q R = -6 ∨ ∃ j : Nat, (j < R ∧ ¬ a9 S (22 * j + q) = 0) ∧ jFirst S q R = nI j := by
  refine lpN_inv2 (fun f : Int32 => f = -6 ∨ ∃ j : Nat, (j < R ∧ ¬ a9 S (22 * j + q) = 0) ∧ f = nI j) R 0 (-6) (fun j b _ hj hb => ?_) (Or.inl rfl)
  unfold fFe
  split
  · exact hb
  · rename_i hc
    have hj3 : j < R ∧ ¬ a9 S (22 * j + q) = 0 := ⟨by omega, lm0 hc⟩
    split
    · exact Or.inr ⟨j, hj3, rfl⟩
    split
    · exact Or.inr ⟨j, hj3, rfl⟩
    split
    · exact hb
    split
    · exact hb
    · exact Or.inr ⟨j, hj3, rfl⟩
def chRun (R C : Nat) : Nat → MS → Option (Int32 × MS)
  | 0, _ => none
  | n + 1, S => if jWorst S R < 0 then some (nI 1, S) else if 0 ≤ jHelp S (jWorst S R).toNatClampNeg C then chRun R C n (jSwap S (jWorst S R).toNatClampNeg (jHelp S (jWorst S R).toNatClampNeg C).toNatClampNeg R C) else some (nI 0, S)
theorem chRun_s {R C n : Nat} {S : MS} : chRun R C (n + 1) S = if jWorst S R < 0 then some (nI 1, S) else if 0 ≤ jHelp S (jWorst S R).toNatClampNeg C then chRun R C n (jSwap S (jWorst S R).toNatClampNeg (jHelp S (jWorst S R).toNatClampNeg C).toNatClampNeg R C) else some (nI 0, S) := rfl
def leRun (R C : Nat) : Nat → MS → Option MS
  | 0, _ => none
  | n + 1, S => if jCheap S R C < 0 then some S else if jFirst S (jCheap S R C).toNatClampNeg R < 0 then none else leRun R C n (jSwap S (jFirst S (jCheap S R C).toNatClampNeg R).toNatClampNeg (jCheap S R C).toNatClampNeg R C)
theorem leRun_s {R C n : Nat} {S : MS} : leRun R C (n + 1) S = if jCheap S R C < 0 then some S else if jFirst S (jCheap S R C).toNatClampNeg R < 0 then none else leRun R C n (jSwap S (jFirst S (jCheap S R C).toNatClampNeg R).toNatClampNeg (jCheap S R C).toNatClampNeg R C) := rfl
set_option maxHeartbeats 4000000 in
set_option maxRecDepth 100000 in
theorem cM_lessen (l : Launch) (D : va_G) (cy : Nat → ClassId) (ad : Nat → Nat) (X : va_W) (S : MS) (sz : Nat) {R C : Nat} (hok : jOk S R C) (hR36 : R ≤ 36) (hC21 : C ≤ 21) {n9 : Nat} {S9 : MS} (hrun9 : leRun R C n9 S = some S9) : Met l yX9_lessen wsX9_lessen (rm9 2 59) (gPc D cy (wM cy ad S ++ X) sz [.ref (ad 0)]) (gQv D cy (wM cy ad S ++ X) sz (fun ws' => ws' = wM cy ad S9 ++ X)) 0 0 (va_A (wM cy ad S ++ X) sz) := by
  refine gHead (cc := cX9_lessen) (maxL := 2) (ret := none) (by decide) rfl (Nat.le_of_ble_eq_true rfl) ?_
  intro p e s m below meth c ls hx hb hr hlocks hml hown hts hsz hP hK hD hS hA hl
  have hin : ∀ w ∈ u_ws RX9 TX9 36, w ∈ wsX9_lessen := by decide +kernel
  have hown : s.vm.findClass RX9 = some m.cls := hown
  have hl : lv_has ls 2 [(0, .ref (ad 0))] := hl
  refine lv_aload_n hx hb dX9_lessen_0 rfl (lv_at hl 0 rfl) ?_
  refine gCalli (ws := wM cy ad S ++ X) (As := []) (rest := []) (q0 := 0) (r0 := (RX9, TX9, 36)) hx hb hml hown hts hK hP hD hS hA hl.1 wM_0 rfl (cM_cheaper l D cy ad X _ _ (R := R) (C := C) hok.1 hok.2.1 hR36 hC21 hok.2.2.2.2) (cwV 0 hts gX9_lessen_X9_cheaper rfl rfl rfl (by decide +kernel) ⟨Nat.le_of_ble_eq_true rfl, Nat.le_of_ble_eq_true rfl⟩) rfl rfl (Nat.le_of_ble_eq_true rfl) ⟨Nat.le_of_ble_eq_true rfl, Nat.le_of_ble_eq_true rfl⟩ dX9_lessen_1 (fun r1 ws1 H locs e1 hP hD hS => ?_)
  obtain ⟨e1a, e1b⟩ := e1
  rw [show r1 = jCheap S R C from e1a]
  rw [e1b] at hP hD
  refine lv_istore_n (lv' := [(1, .int (jCheap S R C)), (0, .ref (ad 0))]) hx hb dX9_lessen_4 rfl hl (by decide) rfl (fun ls hl => ?_)
  have L5 : ∀ (n : Nat) (T : MS) (H : Heap) (locs : List Loc) (ls : Array Slot), jOk T R C → leRun R C n T = some S9 → va_P D vwCl (wM cy ad T ++ X) H → va_D (va_A (wM cy ad S ++ X) sz) (wM cy ad T ++ X) → va_S (va_A (wM cy ad S ++ X) sz) s.heap H locs → lv_has ls 2 [(0, .ref (ad 0)), (1, .int (jCheap T R C))] → W p l e (headSpec wsX9_lessen (rm9 2 59)).room s m ([.ref (ad 0)] : List Value).toArray below meth c H locs 0 0 (MQ below (gQv D cy (wM cy ad S ++ X) sz (fun ws' => ws' = wM cy ad S9 ++ X)) ([.ref (ad 0)] : List Value).toArray s 0 0 (va_A (wM cy ad S ++ X) sz)) (F0 m 5 ls []) := by
    intro n
    induction n with
    | zero => intro T H locs ls hT hrun; cases hrun
    | succ n ih =>
      intro T H locs ls hT hrun hP hD hS hl
      refine lv_iload_n hx hb dX9_lessen_5 rfl (lv_at hl 1 rfl) ?_
      refine lv_if_lt (tgt := 27) hx hb dX9_lessen_6 (by decide) (fun c2 => ?_) (fun c2 => ?_)
      · skip
        exact W.vret hx hb hr (fun t ht hW => ⟨⟨_, rfl, by rw [leRun_s, if_pos c2] at hrun; rw [Option.some.inj hrun], by rw [ht]; exact hP, va_K.moved hW.alike hK, hD⟩, hS.F ht⟩) hS.2.2 dX9_lessen_27
      · skip
        obtain ⟨q0, ⟨hq1, hq2⟩, hqe⟩ := entI6 jCheap_ix c2
        have qq8 : (jCheap T R C).toNatClampNeg = q0 := (by rw [hqe, nI_clamp (by omega)])
        rw [leRun_s, if_neg c2, qq8] at hrun
        rw [hqe] at hl
        refine lv_aload_n hx hb dX9_lessen_9 rfl (lv_at hl 0 rfl) ?_
        refine lv_aload_n hx hb dX9_lessen_10 rfl (lv_at hl 0 rfl) ?_
        refine lv_iload_n hx hb dX9_lessen_11 rfl (lv_at hl 1 rfl) ?_
        refine gCalli (ws := wM cy ad T ++ X) (As := [.int (nI q0)]) (rest := [.ref (ad 0)]) (q0 := 0) (r0 := (RX9, TX9, 36)) hx hb hml hown hts hK hP hD hS hA hl.1 wM_0 rfl (cM_firstToEnd l D cy ad X _ _ (R := R) (q9 := q0) hT.1 hR36 (by omega)) (cwV 1 hts gX9_lessen_X9_firstToEnd rfl rfl rfl (by decide +kernel) ⟨Nat.le_of_ble_eq_true rfl, Nat.le_of_ble_eq_true rfl⟩) rfl rfl (Nat.le_of_ble_eq_true rfl) ⟨Nat.le_of_ble_eq_true rfl, Nat.le_of_ble_eq_true rfl⟩ dX9_lessen_12 (fun r3 ws3 H locs e3 hP hD hS => ?_)
        obtain ⟨e3a, e3b⟩ := e3
        rw [show r3 = jFirst T q0 R from e3a]
        rw [e3b] at hP hD
        have hf9 : ¬ jFirst T q0 R < 0 := fun h9 => by rw [if_pos h9] at hrun; cases hrun
        obtain ⟨r0, ⟨hr1, hr2⟩, hre⟩ := entI6 jFirst_ix hf9
        have qq9 : (jFirst T q0 R).toNatClampNeg = r0 := (by rw [hre, nI_clamp (by omega)])
        rw [if_neg hf9, qq9] at hrun
        rw [hre]
        refine lv_iload_n hx hb dX9_lessen_15 rfl (lv_at hl 1 rfl) ?_
        refine gCallv (ws := wM cy ad T ++ X) (As := [.int (nI r0), .int (nI q0)]) (rest := []) (q0 := 0) (r0 := (RX9, TX9, 36)) hx hb hml hown hts hK hP hD hS hA hl.1 wM_0 rfl (cM_swap l D cy ad X _ _ (r := r0) (q := q0) (R := R) (C := C) hT.1 hT.2.1 hR36 hC21 (by omega) (by omega) hT.2.2.1) (cwV 2 hts gX9_lessen_X9_swap rfl rfl rfl (by decide +kernel) ⟨Nat.le_of_ble_eq_true rfl, Nat.le_of_ble_eq_true rfl⟩) rfl rfl (Nat.le_of_ble_eq_true rfl) ⟨Nat.le_of_ble_eq_true rfl, Nat.le_of_ble_eq_true rfl⟩ dX9_lessen_16 (fun ws4 H locs e4 hP hD hS => ?_)
        rw [show ws4 = _ from e4] at hP hD
        have hP : va_P D vwCl (wM cy ad (jSwap T r0 q0 R C) ++ X) H := hP
        have hD : va_D (va_A (wM cy ad S ++ X) sz) (wM cy ad (jSwap T r0 q0 R C) ++ X) := hD
        have hT2 := jOk_swap hT hr1 hq1 hq2 hr2
        refine lv_aload_n hx hb dX9_lessen_19 rfl (lv_at hl 0 rfl) ?_
        refine gCalli (ws := wM cy ad (jSwap T r0 q0 R C) ++ X) (As := []) (rest := []) (q0 := 0) (r0 := (RX9, TX9, 36)) hx hb hml hown hts hK hP hD hS hA hl.1 wM_0 rfl (cM_cheaper l D cy ad X _ _ (R := R) (C := C) hT2.1 hT2.2.1 hR36 hC21 hT2.2.2.2.2) (cwV 0 hts gX9_lessen_X9_cheaper rfl rfl rfl (by decide +kernel) ⟨Nat.le_of_ble_eq_true rfl, Nat.le_of_ble_eq_true rfl⟩) rfl rfl (Nat.le_of_ble_eq_true rfl) ⟨Nat.le_of_ble_eq_true rfl, Nat.le_of_ble_eq_true rfl⟩ dX9_lessen_20 (fun r5 ws5 H locs e5 hP hD hS => ?_)
        obtain ⟨e5a, e5b⟩ := e5
        rw [show r5 = jCheap (jSwap T r0 q0 R C) R C from e5a]
        rw [e5b] at hP hD
        refine lv_istore_n (lv' := [(1, .int (jCheap (jSwap T r0 q0 R C) R C)), (0, .ref (ad 0))]) hx hb dX9_lessen_23 rfl hl (by decide) rfl (fun ls hl => ?_)
        refine lv_goto (tgt := 5) hx hb dX9_lessen_24 (by decide) ?_
        exact ih _ _ _ _ hT2 hrun hP hD hS (lv_sub hl [1, 0] rfl)
  exact L5 n9 _ _ _ _ hok hrun9 hP hD hS (lv_sub hl [1, 0] rfl)
set_option maxHeartbeats 4000000 in
set_option maxRecDepth 100000 in
theorem cM_canHold (l : Launch) (D : va_G) (cy : Nat → ClassId) (ad : Nat → Nat) (X : va_W) (S : MS) (sz : Nat) {R C : Nat} (hok : jOk S R C) (hR36 : R ≤ 36) (hC21 : C ≤ 21) {n9 : Nat} {b9 : Int32} {S9 : MS} (hrun9 : chRun R C n9 (jClear S R C) = some (b9, S9)) : Met l yX9_canHold wsX9_canHold (rm9 2 59) (gPc D cy (wM cy ad S ++ X) sz [.ref (ad 0)]) (gQi D cy (wM cy ad S ++ X) sz (fun r ws' => r = b9 ∧ ws' = wM cy ad S9 ++ X)) 0 0 (va_A (wM cy ad S ++ X) sz) := by
  refine gHead (cc := cX9_canHold) (maxL := 3) (ret := (some .boolean)) (by decide) rfl (Nat.le_of_ble_eq_true rfl) ?_
  intro p e s m below meth c ls hx hb hr hlocks hml hown hts hsz hP hK hD hS hA hl
  have hin : ∀ w ∈ u_ws RX9 TX9 36, w ∈ wsX9_canHold := by decide +kernel
  have hown : s.vm.findClass RX9 = some m.cls := hown
  have hl : lv_has ls 3 [(0, .ref (ad 0))] := hl
  refine lv_aload_n hx hb dX9_canHold_0 rfl (lv_at hl 0 rfl) ?_
  refine gCallv (ws := wM cy ad S ++ X) (As := []) (rest := []) (q0 := 0) (r0 := (RX9, TX9, 36)) hx hb hml hown hts hK hP hD hS hA hl.1 wM_0 rfl (cM_clearCost l D cy ad X _ _ (R := R) (C := C) hok.1 hok.2.1 hR36 hC21) (cwV 0 hts gX9_canHold_X9_clearCost rfl rfl rfl (by decide +kernel) ⟨Nat.le_of_ble_eq_true rfl, Nat.le_of_ble_eq_true rfl⟩) rfl rfl (Nat.le_of_ble_eq_true rfl) ⟨Nat.le_of_ble_eq_true rfl, Nat.le_of_ble_eq_true rfl⟩ dX9_canHold_1 (fun ws1 H locs e1 hP hD hS => ?_)
  rw [show ws1 = _ from e1] at hP hD
  have hP : va_P D vwCl (wM cy ad (jClear S R C) ++ X) H := hP
  have hD : va_D (va_A (wM cy ad S ++ X) sz) (wM cy ad (jClear S R C) ++ X) := hD
  refine lv_aload_n hx hb dX9_canHold_4 rfl (lv_at hl 0 rfl) ?_
  refine gCalli (ws := wM cy ad (jClear S R C) ++ X) (As := []) (rest := []) (q0 := 0) (r0 := (RX9, TX9, 36)) hx hb hml hown hts hK hP hD hS hA hl.1 wM_0 rfl (cM_worstRow l D cy ad X _ _ (R := R) hok.1 hR36) (cwV 0 hts gX9_canHold_X9_worstRow rfl rfl rfl (by decide +kernel) ⟨Nat.le_of_ble_eq_true rfl, Nat.le_of_ble_eq_true rfl⟩) rfl rfl (Nat.le_of_ble_eq_true rfl) ⟨Nat.le_of_ble_eq_true rfl, Nat.le_of_ble_eq_true rfl⟩ dX9_canHold_5 (fun r2 ws2 H locs e2 hP hD hS => ?_)
  obtain ⟨e2a, e2b⟩ := e2
  rw [show r2 = jWorst (jClear S R C) R from e2a]
  rw [e2b] at hP hD
  refine lv_istore_n (lv' := [(1, .int (jWorst (jClear S R C) R)), (0, .ref (ad 0))]) hx hb dX9_canHold_8 rfl hl (by decide) rfl (fun ls hl => ?_)
  have L9 : ∀ (n : Nat) (T : MS) (H : Heap) (locs : List Loc) (ls : Array Slot), jOk T R C → chRun R C n T = some (b9, S9) → va_P D vwCl (wM cy ad T ++ X) H → va_D (va_A (wM cy ad S ++ X) sz) (wM cy ad T ++ X) → va_S (va_A (wM cy ad S ++ X) sz) s.heap H locs → lv_has ls 3 [(0, .ref (ad 0)), (1, .int (jWorst T R))] → W p l e (headSpec wsX9_canHold (rm9 2 59)).room s m ([.ref (ad 0)] : List Value).toArray below meth c H locs 0 0 (MQ below (gQi D cy (wM cy ad S ++ X) sz (fun r ws' => r = b9 ∧ ws' = wM cy ad S9 ++ X)) ([.ref (ad 0)] : List Value).toArray s 0 0 (va_A (wM cy ad S ++ X) sz)) (F0 m 9 ls []) := by
    intro n
    induction n with
    | zero => intro T H locs ls hT hrun; cases hrun
    | succ n ih =>
      intro T H locs ls hT hrun hP hD hS hl
      refine lv_iload_n hx hb dX9_canHold_9 rfl (lv_at hl 1 rfl) ?_
      refine lv_if_lt (tgt := 39) hx hb dX9_canHold_10 (by decide) (fun c3 => ?_) (fun c3 => ?_)
      · skip
        refine lv_iconst (v := nI 1) hx hb dX9_canHold_39 (by decide) ?_
        exact W.zret hx hb hr (by decide) (fun t ht hW => ⟨⟨_, _, rfl, (by rw [chRun_s, if_pos c3] at hrun; have h9 := Option.some.inj hrun; exact ⟨congrArg Prod.fst h9, by rw [show T = S9 from congrArg Prod.snd h9]⟩), by rw [ht]; exact hP, va_K.moved hW.alike hK, hD⟩, hS.F ht⟩) hS.2.2 dX9_canHold_40
      · skip
        obtain ⟨r0, hr1, hre⟩ := entI6 jWorst_ix c3
        have qq8 : (jWorst T R).toNatClampNeg = r0 := (by rw [hre, nI_clamp (by omega)])
        rw [chRun_s, if_neg c3, qq8] at hrun
        rw [hre] at hl
        refine lv_aload_n hx hb dX9_canHold_13 rfl (lv_at hl 0 rfl) ?_
        refine lv_iload_n hx hb dX9_canHold_14 rfl (lv_at hl 1 rfl) ?_
        refine gCalli (ws := wM cy ad T ++ X) (As := [.int (nI r0)]) (rest := []) (q0 := 0) (r0 := (RX9, TX9, 36)) hx hb hml hown hts hK hP hD hS hA hl.1 wM_0 rfl (cM_helper l D cy ad X _ _ (r := r0) (C := C) (by omega) hT.2.1 hC21) (cwV 1 hts gX9_canHold_X9_helper rfl rfl rfl (by decide +kernel) ⟨Nat.le_of_ble_eq_true rfl, Nat.le_of_ble_eq_true rfl⟩) rfl rfl (Nat.le_of_ble_eq_true rfl) ⟨Nat.le_of_ble_eq_true rfl, Nat.le_of_ble_eq_true rfl⟩ dX9_canHold_15 (fun r4 ws4 H locs e4 hP hD hS => ?_)
        obtain ⟨e4a, e4b⟩ := e4
        rw [show r4 = jHelp T r0 C from e4a]
        rw [e4b] at hP hD
        refine lv_istore_n (lv' := [(2, .int (jHelp T r0 C)), (0, .ref (ad 0)), (1, .int (nI r0))]) hx hb dX9_canHold_18 rfl hl (by decide) rfl (fun ls hl => ?_)
        refine lv_iload_n hx hb dX9_canHold_19 rfl (lv_at hl 0 rfl) ?_
        refine lv_if_ge (tgt := 25) hx hb dX9_canHold_20 (by decide) (fun c5 => ?_) (fun c5 => ?_)
        · skip
          obtain ⟨q0, ⟨hq1, hq2, hq3⟩, hqe⟩ := entI6 jHelp_ix (Int32.not_lt.mpr c5)
          have qq9 : (jHelp T r0 C).toNatClampNeg = q0 := (by rw [hqe, nI_clamp (by omega)])
          rw [if_pos c5, qq9] at hrun
          rw [hqe] at hl
          have hT2 := jOk_swap hT hr1 hq1 hq2 hq3
          refine lv_aload_n hx hb dX9_canHold_25 rfl (lv_at hl 1 rfl) ?_
          refine lv_iload_n hx hb dX9_canHold_26 rfl (lv_at hl 2 rfl) ?_
          refine lv_iload_n hx hb dX9_canHold_27 rfl (lv_at hl 0 rfl) ?_
          refine gCallv (ws := wM cy ad T ++ X) (As := [.int (nI r0), .int (nI q0)]) (rest := []) (q0 := 0) (r0 := (RX9, TX9, 36)) hx hb hml hown hts hK hP hD hS hA hl.1 wM_0 rfl (cM_swap l D cy ad X _ _ (r := r0) (q := q0) (R := R) (C := C) hT.1 hT.2.1 hR36 hC21 (by omega) (by omega) hT.2.2.1) (cwV 2 hts gX9_canHold_X9_swap rfl rfl rfl (by decide +kernel) ⟨Nat.le_of_ble_eq_true rfl, Nat.le_of_ble_eq_true rfl⟩) rfl rfl (Nat.le_of_ble_eq_true rfl) ⟨Nat.le_of_ble_eq_true rfl, Nat.le_of_ble_eq_true rfl⟩ dX9_canHold_28 (fun ws6 H locs e6 hP hD hS => ?_)
          rw [show ws6 = _ from e6] at hP hD
          have hP : va_P D vwCl (wM cy ad (jSwap T r0 q0 R C) ++ X) H := hP
          have hD : va_D (va_A (wM cy ad S ++ X) sz) (wM cy ad (jSwap T r0 q0 R C) ++ X) := hD
          refine lv_aload_n hx hb dX9_canHold_31 rfl (lv_at hl 1 rfl) ?_
          refine gCalli (ws := wM cy ad (jSwap T r0 q0 R C) ++ X) (As := []) (rest := []) (q0 := 0) (r0 := (RX9, TX9, 36)) hx hb hml hown hts hK hP hD hS hA hl.1 wM_0 rfl (cM_worstRow l D cy ad X _ _ (R := R) hT2.1 hR36) (cwV 0 hts gX9_canHold_X9_worstRow rfl rfl rfl (by decide +kernel) ⟨Nat.le_of_ble_eq_true rfl, Nat.le_of_ble_eq_true rfl⟩) rfl rfl (Nat.le_of_ble_eq_true rfl) ⟨Nat.le_of_ble_eq_true rfl, Nat.le_of_ble_eq_true rfl⟩ dX9_canHold_32 (fun r7 ws7 H locs e7 hP hD hS => ?_)
          obtain ⟨e7a, e7b⟩ := e7
          rw [show r7 = jWorst (jSwap T r0 q0 R C) R from e7a]
          rw [e7b] at hP hD
          refine lv_istore_n (lv' := [(1, .int (jWorst (jSwap T r0 q0 R C) R)), (2, .int (nI q0)), (0, .ref (ad 0))]) hx hb dX9_canHold_35 rfl hl (by decide) rfl (fun ls hl => ?_)
          refine lv_goto (tgt := 9) hx hb dX9_canHold_36 (by decide) ?_
          exact ih _ _ _ _ hT2 hrun hP hD hS (lv_sub hl [2, 0] rfl)
        · skip
          refine lv_iconst (v := nI 0) hx hb dX9_canHold_23 (by decide) ?_
          exact W.zret hx hb hr (by decide) (fun t ht hW => ⟨⟨_, _, rfl, (by rw [if_neg c5] at hrun; have h9 := Option.some.inj hrun; exact ⟨congrArg Prod.fst h9, by rw [show T = S9 from congrArg Prod.snd h9]⟩), by rw [ht]; exact hP, va_K.moved hW.alike hK, hD⟩, hS.F ht⟩) hS.2.2 dX9_canHold_24
  exact L9 n9 (jClear S R C) _ _ _ (show jOk (jClear S R C) R C from hok) hrun9 hP hD hS (lv_sub hl [1, 0] rfl)
