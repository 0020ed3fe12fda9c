/-! p1: a variable that is forced to a number: the reference (mathematics) -/
theorem if_iff {α : Type} {A B : Prop} [Decidable A] [Decidable B] {X Y : α} (h : A ↔ B) : (if A then X else Y) = if B then X else Y := by
  by_cases a : A
  · rw [if_pos a, if_pos (h.mp a)]
  · rw [if_neg a, if_neg (fun b => a (h.mpr b))]
theorem uL_g {f : Nat → Int64} {k : Nat} {y : Int64} (j : Nat) : vp_updL f k y j = if j = k then y else f j := rfl
theorem uI_g {f : Nat → Int32} {k : Nat} {y : Int32} (j : Nat) : upd f k y j = if j = k then y else f j := rfl
/-- the cells behind an exchange, one by one -/
theorem jCell_g {S : MS} {r q R C : Nat} (hr : r ≤ R) (hq : q < 22) (hC : C < 22) {i j : Nat} (hi : i ≤ R) (hj : j ≤ C) : jCell S r q R C (22 * i + j) =
    if i = r then (if j = q then aG S 16 else -(a9 S (22 * r + j))) else if j = q then a9 S (22 * i + q) else (a9 S (22 * i + j) * a9 S (22 * r + q) - a9 S (22 * i + q) * a9 S (22 * r + j)) / aG S 16 := by
  have inner : ∀ (own : Int64) (i0 : Nat) (c : Nat → Int64), ¬ i0 = r → (∀ j : Nat, j < 22 → lpN (fSj (a9 S (22 * r + q)) own (aG S 16) r q i0) (C + 1) 0 c (22 * i0 + j) = if j < C + 1 ∧ ¬ j = q then (c (22 * i0 + j) * a9 S (22 * r + q) - own * c (22 * r + j)) / aG S 16 else c (22 * i0 + j)) ∧ ∀ i2 j : Nat, j < 22 → ¬ i2 = i0 → lpN (fSj (a9 S (22 * r + q)) own (aG S 16) r q i0) (C + 1) 0 c (22 * i2 + j) = c (22 * i2 + j) := fun own i0 c hi0 => by
    have z := lpN_ind (f := fSj (a9 S (22 * r + q)) own (aG S 16) r q i0) (fun k g => (∀ j : Nat, j < 22 → g (22 * i0 + j) = if j < k ∧ ¬ j = q then (c (22 * i0 + j) * a9 S (22 * r + q) - own * c (22 * r + j)) / aG S 16 else c (22 * i0 + j)) ∧ ∀ i2 j : Nat, j < 22 → ¬ i2 = i0 → g (22 * i2 + j) = c (22 * i2 + j)) (C + 1) 0 c ⟨fun j _ => by rw [if_neg (show ¬ (j < 0 ∧ ¬ j = q) by omega)], fun _ _ _ _ => rfl⟩ (fun k g _ hk z => by
      obtain ⟨z1, z2⟩ := z
      unfold fSj
      by_cases e : k = q
      · rw [if_pos e]
        refine ⟨fun j hj => ?_, z2⟩
        rw [z1 j hj]
        exact if_iff (by omega)
      · rw [if_neg e]
        refine ⟨fun j hj => ?_, fun i2 j hj h2 => ?_⟩
        · rw [uL_g]
          by_cases e2 : j = k
          · rw [e2, if_pos rfl, if_pos (show k < k + 1 ∧ ¬ k = q by omega), z1 k (by omega), if_neg (show ¬ (k < k ∧ ¬ k = q) by omega), z2 r k (by omega) (fun w => hi0 w.symm)]
          · rw [if_neg (show ¬ 22 * i0 + j = 22 * i0 + k by omega), z1 j hj]
            exact if_iff (by omega)
        · rw [uL_g, if_neg (show ¬ 22 * i2 + j = 22 * i0 + k by omega)]
          exact z2 i2 j hj h2)
    refine ⟨fun j hj => ?_, z.2⟩
    rw [z.1 j hj]
    exact if_iff (by omega)
  have outer := lpN_ind (f := fSi (a9 S (22 * r + q)) (aG S 16) r q C) (fun k g => ∀ i2 j : Nat, j < 22 → g (22 * i2 + j) = if i2 < k ∧ ¬ i2 = r ∧ j < C + 1 ∧ ¬ j = q then (a9 S (22 * i2 + j) * a9 S (22 * r + q) - a9 S (22 * i2 + q) * a9 S (22 * r + j)) / aG S 16 else a9 S (22 * i2 + j)) (R + 1) 0 (a9 S) (fun i2 j _ => by rw [if_neg (show ¬ (i2 < 0 ∧ ¬ i2 = r ∧ j < C + 1 ∧ ¬ j = q) by omega)]) (fun k g _ hk z => by
    unfold fSi
    by_cases e : k = r
    · rw [if_pos e]
      intro i2 j hj
      rw [z i2 j hj]
      exact if_iff (by omega)
    · rw [if_neg e]
      intro i2 j hj
      obtain ⟨n1, n2⟩ := inner (g (22 * k + q)) k g e
      by_cases e2 : i2 = k
      · rw [e2, n1 j hj, z k j hj, z r j hj, z k q hq, if_neg (show ¬ (k < k ∧ ¬ k = r ∧ j < C + 1 ∧ ¬ j = q) by omega), if_neg (show ¬ (k < k ∧ ¬ k = r ∧ q < C + 1 ∧ ¬ q = q) by omega), if_neg (show ¬ (r < k ∧ ¬ r = r ∧ j < C + 1 ∧ ¬ j = q) by omega)]
        exact if_iff (by omega)
      · rw [n2 i2 j hj e2, z i2 j hj]
        exact if_iff (by omega))
  have z := lpN_ind (f := fSr (aG S 16) r q) (fun k g => (∀ j : Nat, j < 22 → g (22 * r + j) = if j < k then (if j = q then aG S 16 else -(a9 S (22 * r + j))) else a9 S (22 * r + j)) ∧ ∀ i2 j : Nat, j < 22 → ¬ i2 = r → g (22 * i2 + j) = lpN (fSi (a9 S (22 * r + q)) (aG S 16) r q C) (R + 1) 0 (a9 S) (22 * i2 + j)) (C + 1) 0 (lpN (fSi (a9 S (22 * r + q)) (aG S 16) r q C) (R + 1) 0 (a9 S)) ⟨fun j hj => by rw [if_neg (show ¬ j < 0 by omega), outer r j hj, if_neg (show ¬ (r < 0 + (R + 1) ∧ ¬ r = r ∧ j < C + 1 ∧ ¬ j = q) by omega)], fun _ _ _ _ => rfl⟩ (fun k g _ hk z => by
    unfold fSr
    refine ⟨fun j hj => ?_, fun i2 j hj h2 => ?_⟩
    · rw [uL_g]
      by_cases e2 : j = k
      · rw [e2, if_pos rfl, if_pos (show k < k + 1 by omega), z.1 k (by omega), if_neg (show ¬ k < k by omega)]
        by_cases e3 : k = q
        · rw [if_neg (fun w => w e3), if_pos e3]
        · rw [if_pos e3, if_neg e3]
      · rw [if_neg (show ¬ 22 * r + j = 22 * r + k by omega), z.1 j hj]
        exact if_iff (by omega)
    · rw [uL_g, if_neg (show ¬ 22 * i2 + j = 22 * r + k by omega)]
      exact z.2 i2 j hj h2)
  show lpN (fSr (aG S 16) r q) (C + 1) 0 (lpN (fSi (a9 S (22 * r + q)) (aG S 16) r q C) (R + 1) 0 (a9 S)) (22 * i + j) = _
  by_cases e : i = r
  · rw [e, z.1 j (by omega), if_pos (show j < 0 + (C + 1) by omega), if_pos rfl]
  · rw [z.2 i j (by omega) e, outer i j (by omega), if_neg e]
    by_cases g1 : j = q
    · rw [if_neg (show ¬ (i < 0 + (R + 1) ∧ ¬ i = r ∧ j < C + 1 ∧ ¬ j = q) by omega), if_pos g1, g1]
    · rw [if_pos (show i < 0 + (R + 1) ∧ ¬ i = r ∧ j < C + 1 ∧ ¬ j = q by omega), if_neg g1]
theorem jWorst_0 {S : MS} {R : Nat} (h : ∀ i : Nat, i < R → 0 ≤ lg_cmp (a9 S (22 * i)) 0) : jWorst S R = -6 := by
  unfold jWorst
  refine lpN_inv (fun q : Int32 => q = -6) R 0 (-6) (fun j b hj hb => ?_) rfl
  unfold fWr
  rw [if_pos (h j (by omega))]
  exact hb
theorem jWorst_1 {S : MS} {R r : Nat} (hr : r < R) (h2 : ¬ 0 ≤ lg_cmp (a9 S (22 * r)) 0) (h : ∀ i : Nat, i < R → ¬ i = r → 0 ≤ lg_cmp (a9 S (22 * i)) 0) : jWorst S R = nI r := by
  unfold jWorst
  have z := lpN_ind (f := fWr S) (fun j q => q = if j ≤ r then -6 else nI r) R 0 (-6) (by rw [if_pos (show 0 ≤ r by omega)]) (fun j q _ hj z => by
    rw [z]
    unfold fWr
    by_cases e : j = r
    · rw [e, if_neg h2, if_pos (show r ≤ r by omega), if_pos (show (-6 : Int32) < 0 by decide), if_neg (show ¬ r + 1 ≤ r by omega)]
    · rw [if_pos (h j (by omega) e)]
      exact if_iff (by omega))
  rw [z, if_neg (show ¬ 0 + R ≤ r by omega)]
theorem jHelp_1 {S : MS} {r C q : Nat} (hq1 : 1 ≤ q) (hq : q ≤ C) (h2 : ¬ lg_cmp (a9 S (22 * r + q)) 0 ≤ 0) (h : ∀ j : Nat, 1 ≤ j → j ≤ C → ¬ j = q → lg_cmp (a9 S (22 * r + j)) 0 ≤ 0) : jHelp S r C = nI q := by
  unfold jHelp
  have z := lpN_ind (f := fHe S r) (fun j f => f = if j ≤ q then -6 else nI q) C 1 (-6) (by rw [if_pos hq1]) (fun j f hj1 hj z => by
    rw [z]
    unfold fHe
    by_cases e : j = q
    · rw [e, if_neg h2, if_pos (show q ≤ q by omega), if_pos (show (-6 : Int32) < 0 by decide), if_neg (show ¬ q + 1 ≤ q by omega)]
    · rw [if_pos (h j hj1 (by omega) e)]
      exact if_iff (by omega))
  rw [z, if_neg (show ¬ 1 + C ≤ q by omega)]
theorem jCheap_0 {S : MS} {R C : Nat} (h : ∀ k : Nat, 1 ≤ k → k ≤ C → 0 ≤ lg_cmp (a9 S (22 * R + k)) 0) : jCheap S R C = -6 := by
  unfold jCheap
  have z := lpN_ind (f := fCh S R) (fun _ q => q = -6) C 1 (-6) rfl (fun j q hj1 hj z => by
    rw [z]
    unfold fCh
    by_cases e : ¬ a12 S (a11 S j).toNatClampNeg = 0
    · rw [if_pos e]
    · rw [if_neg e, if_pos (h j hj1 (by omega))])
  exact z
theorem jClear_g {S : MS} {R C : Nat} (hC : C < 22) : (∀ j : Nat, j ≤ C → a9 (jClear S R C) (22 * R + j) = 0) ∧ ∀ i j : Nat, i < R → j < 22 → a9 (jClear S R C) (22 * i + j) = a9 S (22 * i + j) := by
  have z := lpN_ind (f := fCC R) (fun k g => (∀ j : Nat, j < k → g (22 * R + j) = 0) ∧ ∀ i j : Nat, i < R → j < 22 → g (22 * i + j) = a9 S (22 * i + j)) (C + 1) 0 (a9 S) ⟨fun j h => absurd h (by omega), fun _ _ _ _ => rfl⟩ (fun k g _ hk z => by
    unfold fCC
    refine ⟨fun j hj => ?_, fun i j hi hj => ?_⟩
    · rw [uL_g]
      by_cases e : 22 * R + j = 22 * R + k
      · rw [if_pos e]
      · rw [if_neg e]
        exact z.1 j (by omega)
    · rw [uL_g, if_neg (show ¬ 22 * i + j = 22 * R + k by omega)]
      exact z.2 i j hi hj)
  exact ⟨fun j hj => z.1 j (by omega), z.2⟩
/-- a level without costs -/
theorem jLv_z {U : MS} {mask : Int32} {R C s : Nat} (n : Nat) (hC : C < 22) (hb : aG U 16 = 1) (ht : ∀ k : Nat, k < 14 → jThere U k = 0) : jLv (n + 2) R C mask s U = some (jPut (jBar (jClear U R C) R C) s 1 R) := by
  have hz := (jClear_g (S := U) (R := R) hC).1
  have h1 : lpN (jCs mask (nI s) R C) 14 0 (jClear U R C) = jClear U R C := by
    refine lpN_inv (fun T => T = jClear U R C) 14 0 _ (fun j b hj hb => ?_) rfl
    rw [hb]
    unfold jCs
    rw [if_pos (show jThere (jClear U R C) j = 0 from ht j (by omega))]
  have h2 : leRun R C (n + 2) (jClear U R C) = some (jClear U R C) := by
    rw [leRun_s, jCheap_0 (fun k h1 h2 => by rw [hz k h2]; decide), if_pos (show (-6 : Int32) < 0 by decide)]
  have h3 : a9 (jBar (jClear U R C) R C) (22 * R) = 0 := hz 0 (by omega)
  have h4 : aG (jBar (jClear U R C) R C) 16 = 1 := hb
  have h5 : jGcd (n + 2) (jAbs 0) 1 = some 1 := by
    rw [show jAbs 0 = 0 by decide, jGcd_s, if_neg (show ¬ lg_cmp 1 0 = 0 by decide), jGcd_s, if_pos (show lg_cmp (0 - 0 / 1 * 1 : Int64) 0 = 0 by decide)]
  unfold jLv
  rw [h1, h2]
  simp only []
  rw [h3, h4, h5]
  simp only []
  rw [if_neg (show ¬ (1 : Int64) = 0 by decide)]
theorem jAll_z {U : MS} {mask : Int32} {R C : Nat} (n : Nat) (hC : C < 22) (hb : aG U 16 = 1) (ht : ∀ k : Nat, k < 14 → jThere U k = 0) : ∃ Z : MS, jAllN (n + 2) R C mask 3 1 U = some Z ∧ (∀ s : Nat, 1 ≤ s → s < 4 → a13 Z s = 0 ∧ a14 Z s = 1) ∧ a1 Z = a1 U ∧ a19 Z = a19 U := by
  have step : ∀ (s : Nat) (V : MS), aG V 16 = 1 → (∀ k : Nat, k < 14 → jThere V k = 0) → ∃ W : MS, jLv (n + 2) R C mask s V = some W ∧ aG W 16 = 1 ∧ a1 W = a1 V ∧ a19 W = a19 V ∧ (∀ r : Nat, a13 W r = if r = s then 0 else a13 V r) ∧ ∀ r : Nat, a14 W r = if r = s then 1 else a14 V r := fun s V h1 h2 => by
    refine ⟨_, jLv_z n hC h1 h2, h1, rfl, rfl, fun r => ?_, fun r => ?_⟩
    · show vp_updL (a13 V) s (a9 (jBar (jClear V R C) R C) (22 * R) / 1) r = _
      rw [uL_g, show a9 (jBar (jClear V R C) R C) (22 * R) = 0 from (jClear_g (S := V) (R := R) hC).1 0 (by omega), div1]
    · show vp_updL (a14 V) s (aG V 16 / 1) r = _
      rw [uL_g, h1, div1]
  obtain ⟨A, a1e, a2e, a3e, a4e, a5e, a6e⟩ := step 1 U hb ht
  have hA : ∀ k : Nat, k < 14 → jThere A k = 0 := fun k hk => by
    have := ht k hk
    unfold jThere jOf at this ⊢
    rw [a3e]; exact this
  obtain ⟨B, b1e, b2e, b3e, b4e, b5e, b6e⟩ := step 2 A a2e hA
  have hB : ∀ k : Nat, k < 14 → jThere B k = 0 := fun k hk => by
    have := hA k hk
    unfold jThere jOf at this ⊢
    rw [b3e]; exact this
  obtain ⟨Z, c1e, c2e, c3e, c4e, c5e, c6e⟩ := step 3 B b2e hB
  refine ⟨Z, ?_, fun s h1 h2 => ?_, by rw [c3e, b3e, a3e], by rw [c4e, b4e, a4e]⟩
  · unfold jAllN
    rw [a1e]
    simp only []
    unfold jAllN
    rw [b1e]
    simp only []
    unfold jAllN
    rw [c1e]
    rfl
  · rw [c5e, c6e, b5e, b6e, a5e, a6e]
    rcases (show s = 1 ∨ s = 2 ∨ s = 3 by omega) with rfl | rfl | rfl <;> exact ⟨rfl, rfl⟩
/-- the rows of the limits -/
theorem fBeg_g {Z : Nat → Int64} {A B : Nat → Int32} (hZ : ∀ m : Nat, m < 814 → Z m = 0) {i j : Nat} (hi : i < 37) (hj : j < 22) : (lpN fBeg 6 0 (Z, A, B)).1 (22 * i + j) = if i < 6 then (if j = 0 then 2000 else if j = i + 1 then -1 else 0) else 0 := by
  have z := lpN_ind (f := fBeg) (fun k q => ∀ i j : Nat, i < 37 → j < 22 → q.1 (22 * i + j) = if i < k then (if j = 0 then 2000 else if j = i + 1 then -1 else 0) else 0) 6 0 (Z, A, B) (fun i j hi hj => by
    rw [if_neg (show ¬ i < 0 by omega)]
    exact hZ _ (by omega)) (fun k q _ hk z => by
    intro i j hi hj
    unfold fBeg
    show vp_updL (vp_updL q.1 (22 * k) 2000) (22 * k + k + 1) (-1) (22 * i + j) = _
    rw [uL_g, uL_g]
    by_cases e : i = k
    · rw [e, if_pos (show k < k + 1 by omega)]
      by_cases e2 : j = k + 1
      · rw [if_pos (show 22 * k + j = 22 * k + k + 1 by omega), if_neg (show ¬ j = 0 by omega), if_pos e2]
      · by_cases e3 : j = 0
        · rw [if_neg (show ¬ 22 * k + j = 22 * k + k + 1 by omega), if_pos (show 22 * k + j = 22 * k by omega), if_pos e3]
        · rw [if_neg (show ¬ 22 * k + j = 22 * k + k + 1 by omega), if_neg (show ¬ 22 * k + j = 22 * k by omega), if_neg e3, if_neg e2, z k j (by omega) hj, if_neg (show ¬ k < k by omega)]
    · rw [if_neg (show ¬ 22 * i + j = 22 * k + k + 1 by omega), if_neg (show ¬ 22 * i + j = 22 * k by omega), z i j hi hj]
      exact if_iff (by omega))
  exact z i j hi hj
theorem jBegin_g {S : MS} : ∀ i j : Nat, i < 37 → j < 22 → a9 (jBegin S) (22 * i + j) = if i < 6 then (if j = 0 then 2000 else if j = i + 1 then -1 else 0) else 0 := by
  have z0 := lpN_ind (f := fZ9) (fun k g => ∀ m : Nat, m < k → g m = 0) 814 0 (a9 S) (fun m h => absurd h (by omega)) (fun k g _ hk z => by
    intro m hm
    unfold fZ9
    rw [uL_g]
    by_cases e : m = k
    · rw [if_pos e]
    · rw [if_neg e]
      exact z m (by omega))
  intro i j hi hj
  exact fBeg_g (Z := lpN fZ9 814 0 (a9 S)) (A := a10 S) (B := a11 S) (fun m hm => z0 m (by omega)) hi hj
/-- the row of the forced variable -/
theorem jFo_c {S : MS} {v : Nat} {x : Int32} : (∀ k : Nat, k < 6 → jOf (jFo S v x) 14 k = if ¬ nI k = nI v then nI 0 else nI 1) ∧ jOf (jFo S v x) 14 6 = nI 1 ∧ jOf (jFo S v x) 14 7 = x ∧ jOf (jFo S v x) 14 8 = nI 0 ∧ jOf (jFo S v x) 14 10 = nI 1 := by
  refine ⟨fun k hk => ?_, rfl, rfl, rfl, rfl⟩
  rcases (show k = 0 ∨ k = 1 ∨ k = 2 ∨ k = 3 ∨ k = 4 ∨ k = 5 by omega) with rfl | rfl | rfl | rfl | rfl | rfl <;> rfl
theorem jFo_o {S : MS} {v : Nat} {x : Int32} {m : Nat} (hm : m < 154) : a1 (jFo S v x) m = a1 S m := by
  have z := lpN_inv (f := fCo (lpN (fSi1 v) 6 0 (a18 S)) (11 * 14) 0) (fun g => ∀ m : Nat, m < 154 → g m = a1 S m) 6 0 (a1 S) (fun j b _ hb m hm => by
    unfold fCo
    rw [uI_g, if_neg (show ¬ m = 11 * 14 + j by omega)]
    exact hb m hm) (fun _ _ => rfl)
  show upd (upd (upd (upd (upd (lpN (fCo (lpN (fSi1 v) 6 0 (a18 S)) (11 * 14) 0) 6 0 (a1 S)) (11 * 14 + 6) (nI 1)) (11 * 14 + 7) x) (11 * 14 + 8) (nI 0)) (11 * 14 + 9) (nI 1)) (11 * 14 + 10) (nI 1) m = _
  rw [uI_g, uI_g, uI_g, uI_g, uI_g, if_neg (show ¬ m = 11 * 14 + 10 by omega), if_neg (show ¬ m = 11 * 14 + 9 by omega), if_neg (show ¬ m = 11 * 14 + 8 by omega), if_neg (show ¬ m = 11 * 14 + 7 by omega), if_neg (show ¬ m = 11 * 14 + 6 by omega)]
  exact z m hm
/-- a row is added -/
theorem jRow_g {S : MS} {R c9 v : Nat} {by9 : Int32} (hv : v < 6) (hc : ∀ k : Nat, k < 6 → jOf S c9 k = if ¬ nI k = nI v then nI 0 else nI 1) : (jRow S R c9 by9).1 = nI 1 ∧ (∀ i j : Nat, j < 22 → ¬ i = R → (jRow S R c9 by9).2 (22 * i + j) = a9 S (22 * i + j)) ∧ ∀ j : Nat, 1 ≤ j → j < 7 → (jRow S R c9 by9).2 (22 * R + j) = if j = v + 1 then by9.toInt64 else 0 := by
  have z := lpN_ind (f := fRow S R c9 by9) (fun k q => (q.1 = if k ≤ v then nI 0 else nI 1) ∧ (∀ i j : Nat, j < 22 → ¬ i = R → q.2 (22 * i + j) = a9 S (22 * i + j)) ∧ ∀ j : Nat, 1 ≤ j → j < k + 1 → q.2 (22 * R + j) = if j = v + 1 then by9.toInt64 else 0) 6 0 (nI 0, a9 S) ⟨by rw [if_pos (show 0 ≤ v by omega)], fun _ _ _ _ => rfl, fun j h1 h2 => absurd h1 (by omega)⟩ (fun k q _ hk z => by
    obtain ⟨z1, z2, z3⟩ := z
    unfold fRow
    rw [hc k (by omega), z1]
    have e9 : nI k = nI v ↔ k = v := nI_eq (by omega) (by omega)
    refine ⟨?_, fun i j hj hi => ?_, fun j h1 h2 => ?_⟩
    · show (if k ≤ v then nI 0 else nI 1) + (if ¬ nI k = nI v then nI 0 else nI 1) = if k + 1 ≤ v then nI 0 else nI 1
      by_cases e : k = v
      · rw [if_pos (show k ≤ v by omega), if_neg (fun w => w (e9.mpr e)), if_neg (show ¬ k + 1 ≤ v by omega)]
        decide
      · rw [if_pos (show ¬ nI k = nI v from fun w => e (e9.mp w))]
        by_cases g : k ≤ v
        · rw [if_pos g, if_pos (show k + 1 ≤ v by omega)]; decide
        · rw [if_neg g, if_neg (show ¬ k + 1 ≤ v by omega)]; decide
    · show vp_updL q.2 (22 * R + k + 1) _ (22 * i + j) = _
      rw [uL_g, if_neg (show ¬ 22 * i + j = 22 * R + k + 1 by omega)]
      exact z2 i j hj hi
    · show vp_updL q.2 (22 * R + k + 1) (by9 * (if ¬ nI k = nI v then nI 0 else nI 1)).toInt64 (22 * R + j) = _
      rw [uL_g]
      by_cases e2 : j = k + 1
      · rw [if_pos (show 22 * R + j = 22 * R + k + 1 by omega)]
        by_cases e : k = v
        · rw [if_neg (fun w => w (e9.mpr e)), if_pos (show j = v + 1 by omega), show nI 1 = 1 by decide, Int32.mul_one]
        · rw [if_pos (show ¬ nI k = nI v from fun w => e (e9.mp w)), if_neg (show ¬ j = v + 1 by omega), show nI 0 = 0 by decide, Int32.mul_zero]
          decide
      · rw [if_neg (show ¬ 22 * R + j = 22 * R + k + 1 by omega)]
        exact z3 j h1 (by omega))
  exact ⟨z.1.trans (by rw [if_neg (show ¬ 0 + 6 ≤ v by omega)]), z.2.1, fun j h1 h2 => z.2.2 j h1 (by omega)⟩
theorem i32_small {a : Int32} {z : Int} (h1 : -100000 ≤ z) (h2 : z ≤ 100000) (h : a.toInt = z.bmod (2 ^ 32)) : a.toInt64 = yI z := by
  rw [yI_x, h, Int.bmod_eq_of_le (by omega) (by omega)]
theorem jLay_g {S : MS} {v : Nat} {x : Int32} (hv : v < 6) (hx : -1000 ≤ x.toInt ∧ x.toInt ≤ 1000) (hF : ∀ c : Nat, c < 15 → jOf S c 10 = 0) :
    jOk (jLay (jFo S v x) (nI 32767) (nI 0)) 8 6 ∧ aG (jLay (jFo S v x) (nI 32767) (nI 0)) 16 = 1 ∧ a1 (jLay (jFo S v x) (nI 32767) (nI 0)) = a1 (jFo S v x) ∧ a19 (jLay (jFo S v x) (nI 32767) (nI 0)) = a19 S ∧
    ∀ i j : Nat, i < 8 → j < 7 → a9 (jLay (jFo S v x) (nI 32767) (nI 0)) (22 * i + j) = if i < 6 then (if j = 0 then 2000 else if j = i + 1 then -1 else 0) else if i = 6 then (if j = 0 then yI (-(x.toInt + 1000)) else if j = v + 1 then 1 else 0) else (if j = 0 then yI (x.toInt + 1000) else if j = v + 1 then -1 else 0) := by
  obtain ⟨f1, f2, f3, f4, f5⟩ := jFo_c (S := S) (v := v) (x := x)
  have z := lpN_ind (f := fLay (nI 32767) (nI 0)) (fun k U => (k ≤ 14 → U = jBegin (jFo S v x)) ∧ (k = 15 → U = jAddCon (jBegin (jFo S v x)) 6 6 14)) 15 0 (jBegin (jFo S v x)) ⟨fun _ => rfl, fun h => absurd h (by omega)⟩ (fun k U _ hk z => by
    rw [z.1 (by omega)]
    unfold fLay
    by_cases e : k = 14
    · subst e
      refine ⟨fun h => absurd h (by omega), fun _ => ?_⟩
      have ht : jThere (jBegin (jFo S v x)) 14 = nI 1 := by
        unfold jThere
        rw [if_neg (fun w => w (show jOf (jBegin (jFo S v x)) 14 10 = nI 1 from f5))]
      have e14 : (aF (jBegin (jFo S v x)) 14).toNatClampNeg = 6 := by
        show (nI 6).toNatClampNeg = 6
        exact nI_clamp (by omega)
      have e15 : (aF (jBegin (jFo S v x)) 15).toNatClampNeg = 6 := by
        show (nI 6).toNatClampNeg = 6
        exact nI_clamp (by omega)
      rw [ht, if_neg (show ¬ nI 1 = 0 by decide), if_neg (show ¬ ¬ (nI 32767 >>> (nI 14 &&& 31)) &&& nI 1 = nI 1 by decide), if_pos (show nI 0 = 0 by decide), e14, e15]
    · refine ⟨fun _ => ?_, fun h => absurd h (by omega)⟩
      have ht : jThere (jBegin (jFo S v x)) k = 0 := by
        have h0 : jOf (jBegin (jFo S v x)) k 10 = 0 := (jFo_o (by omega)).trans (hF k (by omega))
        unfold jThere
        rw [h0, if_pos (show ¬ (0 : Int32) = nI 1 by decide)]
        rfl
      rw [if_pos ht])
  have hL : jLay (jFo S v x) (nI 32767) (nI 0) = jAddRow (jAddRow (jBegin (jFo S v x)) 6 14 (nI 40) (nI 1)) 7 14 (nI 41) (-(nI 1)) := by
    show lpN (fLay (nI 32767) (nI 0)) 15 0 (jBegin (jFo S v x)) = _
    rw [z.2 rfl]
    have hby : jBy (jBegin (jFo S v x)) 14 = nI 1 := by
      unfold jBy
      rw [show jOf (jBegin (jFo S v x)) 14 6 = nI 1 from f2, if_pos (show ¬ nI 1 = 0 by decide)]
    unfold jAddCon
    rw [hby, if_pos (show jOf (jBegin (jFo S v x)) 14 8 = 0 from f4), show jOf (jBegin (jFo S v x)) 14 6 = nI 1 from f2, if_neg (show ¬ ¬ nI 1 = nI 1 by decide)]
    rfl
  rw [hL]
  have k1 : jOk (jAddRow (jBegin (jFo S v x)) 6 14 (nI 40) (nI 1)) 7 6 := jOk_row jOk_beg (by omega)
  have k2 : jOk (jAddRow (jAddRow (jBegin (jFo S v x)) 6 14 (nI 40) (nI 1)) 7 14 (nI 41) (-(nI 1))) 8 6 := jOk_row k1 (by omega)
  refine ⟨k2, rfl, rfl, rfl, fun i j hi hj => ?_⟩
  obtain ⟨r1, r2, r3⟩ := jRow_g (S := jBegin (jFo S v x)) (R := 6) (c9 := 14) (by9 := nI 1) hv f1
  obtain ⟨t1, t2, t3⟩ := jRow_g (S := jAddRow (jBegin (jFo S v x)) 6 14 (nI 40) (nI 1)) (R := 7) (c9 := 14) (by9 := -(nI 1)) hv f1
  have A : ∀ i j : Nat, i < 7 → j < 7 → a9 (jAddRow (jBegin (jFo S v x)) 6 14 (nI 40) (nI 1)) (22 * i + j) = if i < 6 then (if j = 0 then 2000 else if j = i + 1 then -1 else 0) else (if j = 0 then yI (-(x.toInt + 1000)) else if j = v + 1 then 1 else 0) := fun i j hi hj => by
    show vp_updL (jRow (jBegin (jFo S v x)) 6 14 (nI 1)).2 (22 * 6) (nI 1 * ((-1000) * (jRow (jBegin (jFo S v x)) 6 14 (nI 1)).1 - jOf (jBegin (jFo S v x)) 14 7)).toInt64 (22 * i + j) = _
    rw [uL_g, r1, show jOf (jBegin (jFo S v x)) 14 7 = x from f3]
    by_cases e : i = 6
    · subst e
      rw [if_neg (show ¬ 6 < 6 by omega)]
      by_cases e2 : j = 0
      · rw [if_pos (show 22 * 6 + j = 22 * 6 by omega), if_pos e2]
        refine i32_small (by omega) (by omega) ?_
        rw [show nI 1 = 1 by decide, Int32.one_mul, Int32.toInt_sub, show ((-1000 : Int32) * 1).toInt = -1000 by decide]
        exact congrArg (fun z : Int => z.bmod (2 ^ 32)) (by omega)
      · rw [if_neg (show ¬ 22 * 6 + j = 22 * 6 by omega), if_neg e2, r3 j (by omega) hj, show (nI 1).toInt64 = 1 by decide]
    · rw [if_neg (show ¬ 22 * i + j = 22 * 6 by omega), r2 i j (by omega) e, jBegin_g i j (by omega) (by omega), if_pos (show i < 6 by omega), if_pos (show i < 6 by omega)]
  show vp_updL (jRow (jAddRow (jBegin (jFo S v x)) 6 14 (nI 40) (nI 1)) 7 14 (-(nI 1))).2 (22 * 7) (-(nI 1) * ((-1000) * (jRow (jAddRow (jBegin (jFo S v x)) 6 14 (nI 40) (nI 1)) 7 14 (-(nI 1))).1 - jOf (jAddRow (jBegin (jFo S v x)) 6 14 (nI 40) (nI 1)) 14 7)).toInt64 (22 * i + j) = _
  rw [uL_g, t1, show jOf (jAddRow (jBegin (jFo S v x)) 6 14 (nI 40) (nI 1)) 14 7 = x from f3]
  by_cases e : i = 7
  · subst e
    rw [if_neg (show ¬ 7 < 6 by omega), if_neg (show ¬ 7 = 6 by omega)]
    by_cases e2 : j = 0
    · rw [if_pos (show 22 * 7 + j = 22 * 7 by omega), if_pos e2]
      refine i32_small (by omega) (by omega) ?_
      rw [show nI 1 = 1 by decide, Int32.neg_mul, Int32.one_mul, Int32.neg_sub, Int32.toInt_sub, show ((-1000 : Int32) * 1).toInt = -1000 by decide]
      exact congrArg (fun z : Int => z.bmod (2 ^ 32)) (by omega)
    · rw [if_neg (show ¬ 22 * 7 + j = 22 * 7 by omega), if_neg e2, t3 j (by omega) hj, show (-(nI 1)).toInt64 = -1 by decide]
  · rw [if_neg (show ¬ 22 * i + j = 22 * 7 by omega), t2 i j (by omega) e, A i j (by omega) hj]
    by_cases g : i < 6
    · rw [if_pos g, if_pos g]
    · rw [if_neg g, if_neg g, if_pos (show i = 6 by omega)]
theorem j_in_t3 {x : Int32} (h : ¬ j_in x (-1000) (nI 1000) = 0) : -1000 ≤ x.toInt ∧ x.toInt ≤ 1000 := kW_t h
theorem yI_pos {z : Int} (h1 : 0 ≤ z) (h2 : z ≤ 100000) : 0 ≤ lg_cmp (yI z) 0 := (lg_cmp_ge _ _).mpr ((yI_ge0 (by omega) (by omega)).mpr h1)
set_option maxHeartbeats 4000000 in
theorem mForce {S : MS} {v : Nat} {x : Int32} (hv : v < 6) (hx : -1000 ≤ x.toInt ∧ x.toInt ≤ 1000) (hF : ∀ c : Nat, c < 15 → jOf S c 10 = 0) : ∃ Z : MS, jSolves (jFo S v x) (nI 32767) (nI 1) Z ∧ (∀ s : Nat, 1 ≤ s → s < 4 → a13 Z s = 0 ∧ a14 Z s = 1) ∧ (∀ c : Nat, c < 15 → jOf (jFoE Z) c 10 = 0) ∧ a19 Z = a19 S := by
  obtain ⟨g1, g2, g3, g4, g5⟩ := jLay_g hv hx hF
  generalize hLe : jLay (jFo S v x) (nI 32767) (nI 0) = L at g1 g2 g3 g4 g5
  have hc := (jClear_g (S := L) (R := 8) (C := 6) (by omega)).2
  have hc0 := (jClear_g (S := L) (R := 8) (C := 6) (by omega)).1
  have c9 : ∀ i j : Nat, i < 8 → j < 7 → a9 (jClear L 8 6) (22 * i + j) = if i < 6 then (if j = 0 then 2000 else if j = i + 1 then -1 else 0) else if i = 6 then (if j = 0 then yI (-(x.toInt + 1000)) else if j = v + 1 then 1 else 0) else (if j = 0 then yI (x.toInt + 1000) else if j = v + 1 then -1 else 0) := fun i j hi hj => (hc i j hi (by omega)).trans (g5 i j hi hj)
  have cG : aG (jClear L 8 6) 16 = 1 := g2
  have ca1 : a1 (jClear L 8 6) = a1 (jFo S v x) := g3
  have ca19 : a19 (jClear L 8 6) = a19 S := g4
  have c0 : ∀ i : Nat, i < 8 → a9 (jClear L 8 6) (22 * i) = if i < 6 then 2000 else if i = 6 then yI (-(x.toInt + 1000)) else yI (x.toInt + 1000) := fun i hi => (c9 i 0 hi (by omega)).trans (by rw [if_pos rfl, if_pos rfl, if_pos rfl])
  have run : ∃ T : MS, chRun 8 6 4 (jClear L 8 6) = some (nI 1, T) ∧ aG T 16 = 1 ∧ a1 T = a1 (jFo S v x) ∧ a19 T = a19 S := by
    by_cases e : x.toInt + 1000 = 0
    · refine ⟨jClear L 8 6, ?_, cG, ca1, ca19⟩
      rw [chRun_s, jWorst_0 (fun i hi => ?_), if_pos (show (-6 : Int32) < 0 by decide)]
      rw [c0 i hi, e]
      split
      · decide
      split
      · decide
      · decide
    · have w : jWorst (jClear L 8 6) 8 = nI 6 := by
        refine jWorst_1 (by omega) ?_ (fun i hi h6 => ?_)
        · rw [c0 6 (by omega), if_neg (show ¬ 6 < 6 by omega), if_pos rfl]
          intro q
          have := (yI_ge0 (by omega) (by omega)).mp ((lg_cmp_ge _ _).mp q)
          omega
        · rw [c0 i hi, if_neg h6]
          split
          · decide
          · exact yI_pos (by omega) (by omega)
      have hp1 : a9 (jClear L 8 6) (22 * 6 + (v + 1)) = 1 := by
        rw [c9 6 (v + 1) (by omega) (by omega), if_neg (show ¬ 6 < 6 by omega), if_pos rfl, if_neg (show ¬ v + 1 = 0 by omega), if_pos rfl]
      have hh : jHelp (jClear L 8 6) 6 6 = nI (v + 1) := by
        refine jHelp_1 (by omega) (by omega) ?_ (fun j h1 h2 h3 => ?_)
        · rw [hp1]; decide
        · rw [c9 6 j (by omega) (by omega), if_neg (show ¬ 6 < 6 by omega), if_pos rfl, if_neg (show ¬ j = 0 by omega), if_neg h3]
          decide
      have e6 : (nI 6).toNatClampNeg = 6 := nI_clamp (by omega)
      have ev : (nI (v + 1)).toNatClampNeg = v + 1 := nI_clamp (by omega)
      have hs : jSwap (jClear L 8 6) 6 (v + 1) 8 6 = mk9 (aF (jClear L 8 6)) (vp_updL (aG (jClear L 8 6)) 16 1) (a1 (jClear L 8 6)) (a2 (jClear L 8 6)) (a3 (jClear L 8 6)) (a4 (jClear L 8 6)) (a5 (jClear L 8 6)) (a6 (jClear L 8 6)) (a7 (jClear L 8 6)) (a8 (jClear L 8 6)) (jCell (jClear L 8 6) 6 (v + 1) 8 6) (upd (a10 (jClear L 8 6)) 6 (a11 (jClear L 8 6) (v + 1))) (upd (a11 (jClear L 8 6)) (v + 1) (a10 (jClear L 8 6) 6)) (a12 (jClear L 8 6)) (a13 (jClear L 8 6)) (a14 (jClear L 8 6)) (a15 (jClear L 8 6)) (a16 (jClear L 8 6)) (a17 (jClear L 8 6)) (a18 (jClear L 8 6)) (a19 (jClear L 8 6)) (a20 (jClear L 8 6)) := by
        unfold jSwap
        rw [hp1, if_pos (show 0 ≤ lg_cmp 1 0 by decide)]
      have hw2 : jWorst (jSwap (jClear L 8 6) 6 (v + 1) 8 6) 8 = -6 := by
        refine jWorst_0 (fun i hi => ?_)
        rw [hs]
        show 0 ≤ lg_cmp (jCell (jClear L 8 6) 6 (v + 1) 8 6 (22 * i + 0)) 0
        rw [jCell_g (by omega) (by omega) (by omega) (by omega) (by omega)]
        by_cases e1 : i = 6
        · rw [if_pos e1, if_neg (show ¬ 0 = v + 1 by omega), c9 6 0 (by omega) (by omega), if_neg (show ¬ 6 < 6 by omega), if_pos rfl, if_pos rfl, Int64.neg_ofInt]
          exact yI_pos (by omega) (by omega)
        · rw [if_neg e1, if_neg (show ¬ 0 = v + 1 by omega), hp1, cG, div1, Int64.mul_one, c9 6 0 (by omega) (by omega), if_neg (show ¬ 6 < 6 by omega), if_pos rfl, if_pos rfl, c9 i 0 hi (by omega), c9 i (v + 1) hi (by omega)]
          by_cases e2 : i < 6
          · rw [if_pos e2, if_pos e2, if_pos rfl, if_neg (show ¬ v + 1 = 0 by omega)]
            by_cases e3 : v + 1 = i + 1
            · rw [if_pos e3, show (2000 : Int64) = yI 2000 from rfl, show (-1 : Int64) = yI (-1) from rfl, ← Int64.ofInt_mul, ← Int64.ofInt_sub]
              exact yI_pos (by omega) (by omega)
            · rw [if_neg e3, Int64.zero_mul, Int64.sub_zero]
              decide
          · rw [if_neg e2, if_neg e2, if_neg e1, if_neg e1, if_pos rfl, if_neg (show ¬ v + 1 = 0 by omega), if_pos rfl, show (-1 : Int64) = yI (-1) from rfl, ← Int64.ofInt_mul, ← Int64.ofInt_sub]
            exact yI_pos (by omega) (by omega)
      refine ⟨jSwap (jClear L 8 6) 6 (v + 1) 8 6, ?_, ?_, ?_, ?_⟩
      · rw [chRun_s, w, if_neg (show ¬ nI 6 < 0 by decide), e6, hh, if_pos (nI_pos' (by omega)), ev, chRun_s, hw2, if_pos (show (-6 : Int32) < 0 by decide)]
      · rw [hs]; rfl
      · rw [hs]; exact ca1
      · rw [hs]; exact ca19
  obtain ⟨T, t1, t2, t3, t4⟩ := run
  have hth : ∀ k : Nat, k < 14 → jThere T k = 0 := fun k hk => by
    have h0 : jOf T k 10 = 0 := by
      show a1 T (11 * k + 10) = 0
      rw [t3, jFo_o (by omega)]
      exact hF k (by omega)
    unfold jThere
    rw [h0, if_pos (show ¬ (0 : Int32) = nI 1 by decide)]
    rfl
  obtain ⟨Z, z1, z2, z3, z4⟩ := jAll_z (mask := nI 32767) (R := 8) (C := 6) 2 (by omega) t2 hth
  refine ⟨Z, ⟨8, 6, 4, T, by rw [hLe]; exact g1, by omega, by omega, by rw [hLe]; exact t1, by rw [if_neg (show ¬ nI 1 = 0 by decide)]; exact z1⟩, z2, fun c hc => ?_, z4.trans t4⟩
  show upd (a1 Z) 164 (nI 0) (11 * c + 10) = 0
  rw [uI_g]
  by_cases e : c = 14
  · rw [if_pos (show 11 * c + 10 = 164 by omega)]; rfl
  · rw [if_neg (show ¬ 11 * c + 10 = 164 by omega), z3, t3, jFo_o (by omega)]
    exact hF c (by omega)
