/-! the reference: what holds of its rows and columns all along -/
theorem jOk_le {R C : Nat} (hR36 : R ≤ 36) (hC21 : C ≤ 21) {S9 : MS} : ∀ (n : Nat) (S : MS), jOk S R C → leRun R C n S = some S9 → jOk S9 R C := by
  intro n
  induction n with
  | zero => intro S _ h; cases h
  | succ n ih =>
    intro S hok h
    rw [leRun_s] at h
    split at h
    · rw [← Option.some.inj h]; exact hok
    · rename_i hc
      obtain ⟨q0, ⟨hq1, hq2⟩, hqe⟩ := entI6 jCheap_ix hc
      have e1 : (jCheap S R C).toNatClampNeg = q0 := by rw [hqe, nI_clamp (by omega)]
      rw [e1] at h
      split at h
      · cases h
      · rename_i hf
        obtain ⟨r0, ⟨hr1, hr2⟩, hre⟩ := entI6 jFirst_ix hf
        have e2 : (jFirst S q0 R).toNatClampNeg = r0 := by rw [hre, nI_clamp (by omega)]
        rw [e2] at h
        exact ih _ (jOk_swap hok hr1 hq1 hq2 hr2) h
theorem jOk_ch {R C : Nat} (hR36 : R ≤ 36) (hC21 : C ≤ 21) {b9 : Int32} {S9 : MS} : ∀ (n : Nat) (S : MS), jOk S R C → chRun R C n S = some (b9, S9) → jOk S9 R C := by
  intro n
  induction n with
  | zero => intro S _ h; cases h
  | succ n ih =>
    intro S hok h
    rw [chRun_s] at h
    split at h
    · rw [← show S = S9 from congrArg Prod.snd (Option.some.inj h)]; exact hok
    · rename_i hc
      obtain ⟨r0, hr1, hre⟩ := entI6 jWorst_ix hc
      have e1 : (jWorst S R).toNatClampNeg = r0 := by rw [hre, nI_clamp (by omega)]
      rw [e1] at h
      split at h
      · rename_i hf
        obtain ⟨q0, ⟨hq1, hq2, hq3⟩, hqe⟩ := entI6 jHelp_ix (Int32.not_lt.mpr hf)
        have e2 : (jHelp S r0 C).toNatClampNeg = q0 := by rw [hqe, nI_clamp (by omega)]
        rw [e2] at h
        exact ih _ (jOk_swap hok hr1 hq1 hq2 hq3) h
      · rw [← show S = S9 from congrArg Prod.snd (Option.some.inj h)]; exact hok
theorem jOk_beg {S : MS} : jOk (jBegin S) 6 6 := by
  refine ⟨rfl, rfl, by show ¬ (1 : Int64) = 0; decide, fun i hi => ?_, fun j h1 h2 => ?_⟩
  · match i, hi with
    | 0, _ => exact ⟨6, by omega, rfl⟩
    | 1, _ => exact ⟨7, by omega, rfl⟩
    | 2, _ => exact ⟨8, by omega, rfl⟩
    | 3, _ => exact ⟨9, by omega, rfl⟩
    | 4, _ => exact ⟨10, by omega, rfl⟩
    | 5, _ => exact ⟨11, by omega, rfl⟩
  · match j, h1, h2 with
    | 1, _, _ => exact ⟨0, by omega, rfl⟩
    | 2, _, _ => exact ⟨1, by omega, rfl⟩
    | 3, _, _ => exact ⟨2, by omega, rfl⟩
    | 4, _, _ => exact ⟨3, by omega, rfl⟩
    | 5, _, _ => exact ⟨4, by omega, rfl⟩
    | 6, _, _ => exact ⟨5, by omega, rfl⟩
theorem jOk_row {S : MS} {R C c9 v : Nat} {by9 : Int32} (h : jOk S R C) (hv : v < 42) : jOk (jAddRow S R c9 (nI v) by9) (R + 1) C := by
  obtain ⟨h1, h2, h3, h4, h5⟩ := h
  refine ⟨rfl, h2, h3, fun i hi => ?_, h5⟩
  by_cases e : i = R
  · subst e
    exact ⟨v, hv, by show upd (a10 S) i (nI v) i = nI v; simp [upd]⟩
  · obtain ⟨u, hu, hue⟩ := h4 i (by omega)
    exact ⟨u, hu, by show upd (a10 S) R (nI v) i = nI u; simp [upd, e, hue]⟩
theorem jOk_con {S : MS} {R C c9 : Nat} (h : jOk S R C) (hc : c9 < 15) : ∃ R2 C2 : Nat, jOk (jAddCon S R C c9) R2 C2 ∧ R2 ≤ R + 2 ∧ C2 ≤ C + 1 := by
  have h1 := jOk_row (c9 := c9) (v := j_ahead c9) (by9 := jBy S c9) h (by unfold j_ahead; omega)
  unfold jAddCon
  split
  · split
    · exact ⟨R + 1, C, h1, by omega, by omega⟩
    · exact ⟨R + 2, C, jOk_row (v := j_lack c9) h1 (by unfold j_lack; omega), by omega, by omega⟩
  · obtain ⟨g1, g2, g3, g4, g5⟩ := h1
    refine ⟨R + 1, C + 1, ⟨rfl, rfl, g3, g4, fun j hj hj2 => ?_⟩, by omega, by omega⟩
    by_cases e : j = C + 1
    · subst e
      exact ⟨j_lack c9, by unfold j_lack; omega, by show upd (a11 S) (C + 1) (nI (j_lack c9)) (C + 1) = _; simp [upd]⟩
    · obtain ⟨u, hu, hue⟩ := g5 j hj (by omega)
      exact ⟨u, hu, by show upd (a11 S) (C + 1) (nI (j_lack c9)) j = nI u; simp only [upd, if_neg e]; exact hue⟩
theorem jOk_lay {S : MS} {mask req : Int32} : ∃ R C : Nat, jOk (jLay S mask req) R C ∧ R ≤ 36 ∧ C ≤ 21 := by
  have key : ∀ (n k : Nat) (U : MS), k + n = 15 → (∃ R C : Nat, jOk U R C ∧ R ≤ 6 + 2 * k ∧ C ≤ 6 + k) → ∃ R C : Nat, jOk (lpN (fLay mask req) n k U) R C ∧ R ≤ 36 ∧ C ≤ 21 := by
    intro n
    induction n with
    | zero =>
      intro k U hk h
      obtain ⟨R, C, h1, h2, h3⟩ := h
      exact ⟨R, C, h1, by omega, by omega⟩
    | succ n ih =>
      intro k U hk h
      refine ih (k + 1) _ (by omega) ?_
      obtain ⟨R, C, h1, h2, h3⟩ := h
      have e1 : (aF U 14).toNatClampNeg = R := by rw [h1.1, nI_clamp (by omega)]
      have e2 : (aF U 15).toNatClampNeg = C := by rw [h1.2.1, nI_clamp (by omega)]
      obtain ⟨R2, C2, g1, g2, g3⟩ := jOk_con (c9 := k) h1 (by omega)
      unfold fLay
      rw [e1, e2]
      split
      · exact ⟨R, C, h1, by omega, by omega⟩
      split
      · exact ⟨R, C, h1, by omega, by omega⟩
      split
      · exact ⟨R2, C2, g1, by omega, by omega⟩
      split
      · exact ⟨R, C, h1, by omega, by omega⟩
      · exact ⟨R2, C2, g1, by omega, by omega⟩
  exact key 15 0 _ (by omega) ⟨6, 6, jOk_beg, by omega, by omega⟩
