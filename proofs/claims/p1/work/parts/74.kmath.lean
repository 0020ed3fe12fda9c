/-! p1: the class on a fresh object, by evaluation -/
theorem kTell_z {S : DS} (h : ∀ k : Nat, k < 27 → dI S 2 k = 0 ∨ kCost S k = 0) (f : Nat → Int64) (s : Nat) (hs : s < 4) : kTell S f s = 0 := by
  have h0 : ∀ s : Nat, s < 4 → lpN fCl 4 0 f s = 0 := by
    intro s hs
    rcases (show s = 0 ∨ s = 1 ∨ s = 2 ∨ s = 3 by omega) with rfl | rfl | rfl | rfl <;> simp [lpN, fCl, vp_updL]
  refine lpN_inv (fun g : Nat → Int64 => ∀ s : Nat, s < 4 → g s = 0) 27 0 _ (fun j b hj hb => ?_) h0 s hs
  unfold fTl
  split
  · exact hb
  · rename_i hp
    rcases h j (by omega) with h1 | h1
    · exact absurd h1 hp
    · rw [h1]
      intro s hs
      unfold kInc
      repeat' split
      all_goals first | exact hb s hs | (simp only [vp_updL]; split <;> first | exact hb s hs | (rename_i q; rw [← q, hb s hs]; rfl))
theorem kK1c : dSc (kSet SD0) = 1 ∧ ∀ k : Nat, k < 27 → dI (kSet SD0) 2 k = 0 ∨ kCost (kSet SD0) k = 0 := by decide +kernel
theorem kK1g {S : DS} (h : dSc S = 1 ∧ ∀ k : Nat, k < 27 → dI S 2 k = 0 ∨ kCost S k = 0) : dSc S = 1 ∧ ∀ (f : Nat → Int64) (s : Nat), s < 4 → kTell S f s = 0 := ⟨h.1, kTell_z h.2⟩
theorem kK1 : dSc (kSet SD0) = 1 ∧ ∀ (f : Nat → Int64) (s : Nat), s < 4 → kTell (kSet SD0) f s = 0 := kK1g kK1c
abbrev kK2P (S : DS) (lv : Int32) (v : Nat) : Prop := (kNum (kGo S (15 + v) (nI 1) lv) (15 + v) = -1000 ∧ dSc (kGo S (15 + v) (nI 1) lv) = 1) ∧ kNum (kGo S (15 + v) (nI 0) lv) (15 + v) = 1000 ∧ dSc (kGo S (15 + v) (nI 0) lv) = 1
theorem kK2c : ∀ v : Nat, v < 6 → kK2P SD0 (nI 4) v := by decide +kernel
theorem kK2b : ∀ v : Nat, v < 6 → kK2P SD0 (nI 1) v := by decide +kernel
theorem kK2g {S : DS} (h4 : ∀ v : Nat, v < 6 → kK2P S (nI 4) v) (h1 : ∀ v : Nat, v < 6 → kK2P S (nI 1) v) : ∀ v : Nat, v < 6 → ∀ lv : Int32, (lv = nI 4 ∨ lv = nI 1) → (kNum (kGo S (15 + v) (nI 1) lv) (15 + v) = -1000 ∧ dSc (kGo S (15 + v) (nI 1) lv) = 1) ∧ kNum (kGo S (15 + v) (nI 0) lv) (15 + v) = 1000 ∧ dSc (kGo S (15 + v) (nI 0) lv) = 1 := by
  intro v hv lv h
  rcases h with h | h
  · rw [h]; exact h4 v hv
  · rw [h]; exact h1 v hv
theorem kK2 : ∀ v : Nat, v < 6 → ∀ lv : Int32, (lv = nI 4 ∨ lv = nI 1) → (kNum (kGo SD0 (15 + v) (nI 1) lv) (15 + v) = -1000 ∧ dSc (kGo SD0 (15 + v) (nI 1) lv) = 1) ∧ kNum (kGo SD0 (15 + v) (nI 0) lv) (15 + v) = 1000 ∧ dSc (kGo SD0 (15 + v) (nI 0) lv) = 1 := kK2g kK2c kK2b
theorem kK3 : (lpN fAmb 6 0 (nI 0, SD0)).1 = nI 63 := by decide +kernel
