/-! p1: a variable that is forced to a number: the class, the rows' last column -/
abbrev yI (z : Int) : Int64 := Int64.ofInt z
theorem yI_t {z : Int} (h1 : -100000 ≤ z) (h2 : z ≤ 100000) : (yI z).toInt = z := Int64.toInt_ofInt_of_le (by omega) (by omega)
theorem yI_x (x : Int32) : x.toInt64 = yI x.toInt := by
  rw [← Int64.toInt_inj, Int32.toInt_toInt64]
  have h1 := x.le_toInt
  have h2 := x.toInt_lt
  exact (Int64.toInt_ofInt_of_le (by omega) (by omega)).symm
theorem yI_le {a b : Int} (h1 : -100000 ≤ a) (h2 : a ≤ 100000) (h3 : -100000 ≤ b) (h4 : b ≤ 100000) : yI a ≤ yI b ↔ a ≤ b := by
  rw [Int64.le_iff_toInt_le, yI_t h1 h2, yI_t h3 h4]
theorem yI_lt {a b : Int} (h1 : -100000 ≤ a) (h2 : a ≤ 100000) (h3 : -100000 ≤ b) (h4 : b ≤ 100000) : yI a < yI b ↔ a < b := by
  rw [Int64.lt_iff_toInt_lt, yI_t h1 h2, yI_t h3 h4]
theorem yI_0 : yI 0 = 0 := by decide
theorem yI_gt0 {a : Int} (h1 : -100000 ≤ a) (h2 : a ≤ 100000) : 0 < yI a ↔ 0 < a := by
  have e := yI_lt (a := 0) (b := a) (by omega) (by omega) h1 h2
  rw [yI_0] at e
  exact e
theorem yI_ge0 {a : Int} (h1 : -100000 ≤ a) (h2 : a ≤ 100000) : 0 ≤ yI a ↔ 0 ≤ a := by
  have e := yI_le (a := 0) (b := a) (by omega) (by omega) h1 h2
  rw [yI_0] at e
  exact e
theorem yI_le0 {a : Int} (h1 : -100000 ≤ a) (h2 : a ≤ 100000) : yI a ≤ 0 ↔ a ≤ 0 := by
  have e := yI_le (a := a) (b := 0) h1 h2 (by omega) (by omega)
  rw [yI_0] at e
  exact e
theorem absL_o {a : Int} (h1 : -100000 ≤ a) (h2 : a ≤ 100000) : absL (yI a) = yI (if 0 < a then a else -a) := by
  unfold absL
  by_cases g : 0 < a
  · rw [if_pos g, if_pos ((yI_gt0 h1 h2).mpr g)]
  · rw [if_neg g, if_neg (fun q => g ((yI_gt0 h1 h2).mp q))]
    exact Int64.neg_ofInt
theorem div1 (x : Int64) : x / 1 = x := by
  rw [← Int64.toInt_inj, Int64.toInt_div_of_ne_right _ _ (by decide)]
  exact Int.tdiv_one _
theorem kSub6 {S : DS} {k a c : Nat} (h1 : dSc S = 1) (hn : dRo S a c = 1) (hka : ¬ k = a) : dRo (kSub S k a c) k 6 = dRo S k 6 - dRo S k c * dRo S a 6 ∨ c = 6 := by
  by_cases hc : c = 6
  · exact Or.inr hc
  refine Or.inl ?_
  have en : kNs S a c = 1 := by unfold kNs; rw [hn, if_pos (by decide)]
  have ef : kFa S k a c = dRo S k c := by unfold kFa; rw [hn, if_pos (by decide)]
  unfold kSub
  rw [en, ef, h1, if_neg (show ¬ lg_cmp 1 0 = 0 by decide)]
  have key : ∀ f : Int64, dRo (lpN (fSub k a 1 f) 7 0 S) k 6 = dRo S k 6 - f * dRo S a 6 := fun f => by
    have q := lpN_ind (f := fSub k a 1 f) (fun i T => dSc T = 1 ∧ (∀ c2 : Nat, dRo T a c2 = dRo S a c2) ∧ dRo T k 6 = if i ≤ 6 then dRo S k 6 else dRo S k 6 - f * dRo S a 6) 7 0 S ⟨h1, fun _ => rfl, by rw [if_pos (show 0 ≤ 6 by omega)]⟩ (fun i T _ hi q => by
      unfold fSub
      refine ⟨q.1, fun c2 => ?_, ?_⟩
      · rw [sRo_g, if_neg (fun w => hka w.1.symm)]
        exact q.2.1 c2
      · rw [sRo_g]
        by_cases e : i = 6
        · subst e
          rw [if_pos ⟨rfl, rfl⟩, if_neg (show ¬ 6 + 1 ≤ 6 by omega), q.2.2, if_pos (show 6 ≤ 6 by omega), q.1, q.2.1, div1, Int64.mul_one]
        · rw [if_neg (fun w => e w.2.symm), q.2.2, if_pos (show i ≤ 6 by omega), if_pos (show i + 1 ≤ 6 by omega)])
    rw [q.2.2, if_neg (show ¬ 0 + 7 ≤ 6 by omega)]
  by_cases h2 : ¬ lg_cmp (dRo S k c) 0 = 0
  · rw [if_pos h2, sRo_g, if_neg (fun w => hc w.2.symm)]
    exact key _
  · rw [if_neg h2, if_neg (show ¬ ¬ lg_cmp 1 1 = 0 by decide)]
    have h3 : dRo S k c = 0 := (lg_cmp_eq _ _).mp (Classical.not_not.mp h2)
    rw [h3, Int64.zero_mul, Int64.sub_zero]
theorem kSub_o {S : DS} {k a c : Nat} : dSc (kSub S k a c) = dSc S ∧ dI (kSub S k a c) = dI S ∧ ∀ k2 c2 : Nat, ¬ k2 = k → dRo (kSub S k a c) k2 c2 = dRo S k2 c2 := by
  have key : ∀ ns f : Int64, dSc (lpN (fSub k a ns f) 7 0 S) = dSc S ∧ dI (lpN (fSub k a ns f) 7 0 S) = dI S ∧ ∀ k2 c2 : Nat, ¬ k2 = k → dRo (lpN (fSub k a ns f) 7 0 S) k2 c2 = dRo S k2 c2 := fun ns f => lpN_ind (f := fSub k a ns f) (fun _ T => dSc T = dSc S ∧ dI T = dI S ∧ ∀ k2 c2 : Nat, ¬ k2 = k → dRo T k2 c2 = dRo S k2 c2) 7 0 S ⟨rfl, rfl, fun _ _ _ => rfl⟩ (fun i T _ hi q => by
    unfold fSub
    refine ⟨q.1, q.2.1, fun k2 c2 hk2 => ?_⟩
    rw [sRo_g, if_neg (fun w => hk2 w.1)]
    exact q.2.2 k2 c2 hk2)
  have k2 : ∀ ns f x : Int64, dSc (sRo (lpN (fSub k a ns f) 7 0 S) k c x) = dSc S ∧ dI (sRo (lpN (fSub k a ns f) 7 0 S) k c x) = dI S ∧ ∀ k2 c2 : Nat, ¬ k2 = k → dRo (sRo (lpN (fSub k a ns f) 7 0 S) k c x) k2 c2 = dRo S k2 c2 := fun ns f x => ⟨(key ns f).1, (key ns f).2.1, fun k2 c2 hk2 => by
    rw [sRo_g, if_neg (fun w => hk2 w.1)]
    exact (key ns f).2.2 k2 c2 hk2⟩
  unfold kSub
  split
  · exact ⟨rfl, rfl, fun _ _ _ => rfl⟩
  split
  · exact k2 _ _ _
  split
  · exact k2 _ _ _
  · exact ⟨rfl, rfl, fun _ _ _ => rfl⟩
/-- the last column behind an exchange at an entry 1 -/
theorem kEx6 {S : DS} {a c : Nat} (d : Int32) (h1 : dSc S = 1) (hn : dRo S a c = 1) (hc : c < 6) : dRo (kEx S a c d) a 6 = 0 ∧ ∀ k : Nat, k < 27 → ¬ k = a → ¬ dI S 2 k = 0 → dRo (kEx S a c d) k 6 = dRo S k 6 - dRo S k c * dRo S a 6 := by
  have q := lpN_ind (f := fEx a c) (fun j T => dSc T = 1 ∧ dI T = dI S ∧ (∀ k c2 : Nat, k = a ∨ j ≤ k → dRo T k c2 = dRo S k c2) ∧ ∀ k : Nat, k < j → ¬ k = a → ¬ dI S 2 k = 0 → dRo T k 6 = dRo S k 6 - dRo S k c * dRo S a 6) 27 0 S ⟨h1, rfl, fun _ _ _ => rfl, fun k hk => absurd hk (by omega)⟩ (fun j T _ hj q => by
    obtain ⟨q1, q2, q3, q4⟩ := q
    unfold fEx
    by_cases g1 : dI T 2 j = 0
    · rw [if_pos g1]
      refine ⟨q1, q2, fun k c2 hk => q3 k c2 (by omega), fun k hk hka hp => ?_⟩
      by_cases e : k = j
      · subst e
        exact absurd (by rw [← q2]; exact g1) hp
      · exact q4 k (by omega) hka hp
    by_cases g2 : j = a
    · rw [if_neg g1, if_pos g2]
      exact ⟨q1, q2, fun k c2 hk => q3 k c2 (by omega), fun k hk hka hp => q4 k (by omega) hka hp⟩
    rw [if_neg g1, if_neg g2]
    obtain ⟨o1, o2, o3⟩ := kSub_o (S := T) (k := j) (a := a) (c := c)
    refine ⟨o1.trans q1, o2.trans q2, fun k c2 hk => ?_, fun k hk hka hp => ?_⟩
    · rw [o3 k c2 (by omega)]
      exact q3 k c2 (by omega)
    · by_cases e : k = j
      · subst e
        rw [(kSub6 (c := c) q1 (by rw [q3 a c (Or.inl rfl)]; exact hn) hka).resolve_right (by omega), q3 k 6 (Or.inr (Nat.le_refl k)), q3 k c (Or.inr (Nat.le_refl k)), q3 a 6 (Or.inl rfl)]
      · rw [o3 k 6 e]
        exact q4 k (by omega) hka hp)
  obtain ⟨q1, q2, q3, q4⟩ := q
  have z := lpN_ind (f := fZr a) (fun i T => (∀ c2 : Nat, c2 < i → dRo T a c2 = 0) ∧ ∀ k c2 : Nat, ¬ k = a → dRo T k c2 = dRo (lpN (fEx a c) 27 0 S) k c2) 7 0 (lpN (fEx a c) 27 0 S) ⟨fun c2 h => absurd h (by omega), fun _ _ _ => rfl⟩ (fun i T _ hi q => by
    unfold fZr
    refine ⟨fun c2 h => ?_, fun k c2 hk => ?_⟩
    · rw [sRo_g]
      by_cases e : a = a ∧ c2 = i
      · rw [if_pos e]
      · rw [if_neg e]
        exact q.1 c2 (by omega)
    · rw [sRo_g, if_neg (fun w => hk w.1)]
      exact q.2 k c2 hk)
  obtain ⟨z1, z2⟩ := z
  have hro : ∀ U : DS, dRo (kEx3 U a c d) = dRo U := fun U => by
    unfold kEx3
    split
    · rfl
    split
    · rfl
    · rfl
  unfold kEx
  rw [hn, if_pos (show ¬ lg_cmp (absL 1) 0 = 0 by decide), hro]
  have h6 : ∀ k : Nat, dRo (kEx1 S a c (absL 1)) k 6 = dRo (lpN (fZr a) 7 0 (lpN (fEx a c) 27 0 S)) k 6 := fun k => by
    unfold kEx1
    show dRo (sRo (lpN (fZr a) 7 0 (lpN (fEx a c) 27 0 S)) a c (absL 1)) k 6 = _
    rw [sRo_g, if_neg (fun w => by omega)]
  refine ⟨by rw [h6, z1 6 (by omega)], fun k hk hka hp => ?_⟩
  rw [h6, z2 k 6 hka]
  exact q4 k hk hka hp
/-- the row that leaves -/
theorem kLv14 {S : DS} {c : Nat} {d : Int32} (h0 : ∀ k : Nat, k < 14 → dI S 2 k = 0) (h1 : ¬ dI S 2 14 = 0) (h2 : dI S 8 14 = -1) (h3 : (-(dI S 7 14) * d).toInt64 * dRo S 14 c = 1)
    (h4 : ∀ k : Nat, k < 27 → 14 < k → lg_cmp ((-(dI S 7 k) * d).toInt64 * dRo S k c) 0 ≤ 0 ∨ ((-(dI S 7 k) * d).toInt64 * dRo S k c = 1 ∧ absL (dRo S 14 6) ≤ absL (dRo S k 6))) : kLv S c d = nI 14 := by
  have q := lpN_ind (f := fLv S c d) (fun j q => (j ≤ 14 → q = (-1, 0, 1)) ∧ (14 < j → q = (nI 14, absL (dRo S 14 6), 1))) 27 0 (-1, 0, 1) ⟨fun _ => rfl, fun h => absurd h (by omega)⟩ (fun j q _ hj hq => by
    obtain ⟨hq1, hq2⟩ := hq
    by_cases e1 : j < 14
    · refine ⟨fun _ => ?_, fun h => absurd h (by omega)⟩
      unfold fLv
      rw [if_pos (h0 j e1)]
      exact hq1 (by omega)
    by_cases e2 : j = 14
    · subst e2
      refine ⟨fun h => absurd h (by omega), fun _ => ?_⟩
      rw [hq1 (by omega)]
      unfold fLv
      rw [if_neg h1, if_neg (fun w => w h2), h3, if_neg (show ¬ lg_cmp 1 0 ≤ 0 by decide), if_pos (show (-1 : Int32) < 0 by decide)]
    refine ⟨fun h => absurd h (by omega), fun _ => ?_⟩
    rw [hq2 (by omega)]
    unfold fLv
    by_cases g1 : dI S 2 j = 0
    · rw [if_pos g1]
    by_cases g2 : ¬ dI S 8 j = -1
    · rw [if_neg g1, if_pos g2]
    rcases h4 j (by omega) (by omega) with g3 | ⟨g3, g4⟩
    · rw [if_neg g1, if_neg g2, if_pos g3]
    · rw [if_neg g1, if_neg g2, g3, if_neg (show ¬ lg_cmp 1 0 ≤ 0 by decide), if_neg (show ¬ nI 14 < 0 by decide), if_pos]
      show 0 ≤ lg_cmp (absL (dRo S j 6) * 1) (absL (dRo S 14 6) * 1)
      rw [Int64.mul_one, Int64.mul_one]
      exact (lg_cmp_ge _ _).mpr g4)
  unfold kLv
  rw [q.2 (by omega)]
/-- a row is emptied -/
theorem kZr_g {S : DS} {a : Nat} : dSc (lpN (fZr a) 7 0 S) = dSc S ∧ dCt (lpN (fZr a) 7 0 S) = dCt S ∧ dI (lpN (fZr a) 7 0 S) = dI S ∧ (∀ c : Nat, c < 7 → dRo (lpN (fZr a) 7 0 S) a c = 0) ∧ ∀ k c : Nat, ¬ k = a → dRo (lpN (fZr a) 7 0 S) k c = dRo S k c := by
  have q := lpN_ind (f := fZr a) (fun i T => dSc T = dSc S ∧ dCt T = dCt S ∧ dI T = dI S ∧ (∀ c : Nat, c < i → dRo T a c = 0) ∧ ∀ k c : Nat, ¬ k = a → dRo T k c = dRo S k c) 7 0 S ⟨rfl, rfl, rfl, fun c h => absurd h (by omega), fun _ _ _ => rfl⟩ (fun i T _ hi q => by
    unfold fZr
    refine ⟨q.1, q.2.1, q.2.2.1, fun c h => ?_, fun k c hk => ?_⟩
    · rw [sRo_g]
      by_cases e : a = a ∧ c = i
      · rw [if_pos e]
      · rw [if_neg e]
        exact q.2.2.2.1 c (by omega)
    · rw [sRo_g, if_neg (fun w => hk w.1)]
      exact q.2.2.2.2 k c hk)
  exact ⟨q.1, q.2.1, q.2.2.1, fun c h => q.2.2.2.1 c (by omega), q.2.2.2.2⟩
theorem kLift14 {S : DS} (h : dI S 8 14 = -1) : kLift S (nI 14) = kLift1 S 14 := by
  unfold kLift
  rw [if_neg (show ¬ nI 14 < 0 by decide), if_neg (show ¬ nI 14 < nI 14 by decide), nI_clamp (n := 14) (by decide), h, if_pos (show (-1 : Int32) < 0 by decide)]
theorem fPl_v {U : DS} {v : Nat} (hv : v < 6) : lpN (fPl 14 (upd (fun _ => 0) v (nI 1))) 6 0 U = kAV1 (lpN (fAV 14 v (nI 1)) 7 0 U) 14 (nI 1) := by
  have e1 : ∀ (k : Nat) (T : DS), ¬ k = v → fPl 14 (upd (fun _ => 0) v (nI 1)) k T = T := fun k T h => by
    unfold fPl kAV
    rw [if_pos (show upd (fun _ => 0) v (nI 1) k = 0 from if_neg h)]
  have e2 : ∀ T : DS, fPl 14 (upd (fun _ => 0) v (nI 1)) v T = kAV1 (lpN (fAV 14 v (nI 1)) 7 0 T) 14 (nI 1) := fun T => by
    have e3 : upd (fun _ => 0) v (nI 1) v = nI 1 := if_pos rfl
    unfold fPl kAV
    rw [e3, if_neg (show ¬ nI 1 = 0 by decide)]
  have q := lpN_ind (f := fPl 14 (upd (fun _ => 0) v (nI 1))) (fun j T => T = if j ≤ v then U else kAV1 (lpN (fAV 14 v (nI 1)) 7 0 U) 14 (nI 1)) 6 0 U (by rw [if_pos (show 0 ≤ v by omega)]) (fun j T _ hj q => by
    by_cases g : j = v
    · rw [q, if_pos (show j ≤ v by omega), g, e2, if_neg (show ¬ v + 1 ≤ v by omega)]
    · rw [e1 j T g, q]
      by_cases g2 : j ≤ v
      · rw [if_pos g2, if_pos (show j + 1 ≤ v by omega)]
      · rw [if_neg g2, if_neg (show ¬ j + 1 ≤ v by omega)])
  rw [q, if_neg (show ¬ 0 + 6 ≤ v by omega)]
theorem fAV6 {U : DS} {v : Nat} : dRo (lpN (fAV 14 v (nI 1)) 7 0 U) 14 6 = dRo U 14 6 + dRo U (15 + v) 6 ∧ dSc (lpN (fAV 14 v (nI 1)) 7 0 U) = dSc U ∧ ∀ k c : Nat, ¬ k = 14 → dRo (lpN (fAV 14 v (nI 1)) 7 0 U) k c = dRo U k c := by
  have q := lpN_ind (f := fAV 14 v (nI 1)) (fun i T => (dRo T 14 6 = if i ≤ 6 then dRo U 14 6 else dRo U 14 6 + dRo U (15 + v) 6) ∧ dSc T = dSc U ∧ ∀ k c : Nat, ¬ k = 14 → dRo T k c = dRo U k c) 7 0 U ⟨by rw [if_pos (show 0 ≤ 6 by omega)], rfl, fun _ _ _ => rfl⟩ (fun i T _ hi q => by
    unfold fAV
    refine ⟨?_, q.2.1, fun k c hk => ?_⟩
    · rw [sRo_g]
      by_cases e : i = 6
      · subst e
        rw [if_pos ⟨rfl, rfl⟩, if_neg (show ¬ 6 + 1 ≤ 6 by omega), q.1, if_pos (show 6 ≤ 6 by omega), q.2.2 (15 + v) 6 (by omega), show (nI 1).toInt64 = 1 by decide, Int64.one_mul]
      · rw [if_neg (fun w => e w.2.symm), q.1, if_pos (show i ≤ 6 by omega), if_pos (show i + 1 ≤ 6 by omega)]
    · rw [sRo_g, if_neg (fun w => hk w.1)]
      exact q.2.2 k c hk)
  exact ⟨by rw [q.1, if_neg (show ¬ 0 + 7 ≤ 6 by omega)], q.2⟩
def kPinU (S : DS) (v : Nat) (x : Int32) : DS := kPl2 (lpN (fPl 14 (upd (fun _ => 0) v (nI 1))) 6 0 (kPl1 (kLift1 S 14) 14 x)) 14 (nI 1) x (nI 0) (nI 1)
theorem kPin_e {S : DS} {v : Nat} {x : Int32} (h : dI S 8 14 = -1) : kPin S v x = sI (kPinU S v x) 7 14 (if 0 ≤ lg_cmp (dRo (kPinU S v x) 14 6) 0 then nI 1 else -1) := by
  unfold kPin kPl
  rw [kLift14 h]
  rfl
theorem kPl2_o {X : DS} {k : Nat} {rel con str wei : Int32} : dRo (kPl2 X k rel con str wei) = dRo X ∧ dSc (kPl2 X k rel con str wei) = dSc X := ⟨rfl, rfl⟩
theorem kLift1_o {S : DS} {r : Nat} : dRo (kLift1 S r) = dRo S ∧ dSc (kLift1 S r) = dSc S := ⟨rfl, rfl⟩
theorem sRo_o {S : DS} {i j : Nat} {y : Int64} : dSc (sRo S i j y) = dSc S := rfl
theorem kPl1_g {S : DS} {x : Int32} (hs : dSc S = 1) : dRo (kPl1 S 14 x) 14 6 = -1 * x.toInt64 ∧ dSc (kPl1 S 14 x) = 1 ∧ ∀ k c : Nat, ¬ k = 14 → dRo (kPl1 S 14 x) k c = dRo S k c := by
  obtain ⟨z1, z2, z3, z4, z5⟩ := kZr_g (S := S) (a := 14)
  unfold kPl1
  generalize lpN (fZr 14) 7 0 S = Z at z1 z2 z3 z4 z5 ⊢
  have z1 : dSc Z = 1 := z1.trans hs
  refine ⟨?_, z1, fun k c hk => ?_⟩
  · rw [sRo_g, if_pos ⟨rfl, rfl⟩, z1]
  · rw [sRo_g, if_neg (fun w => hk w.1)]
    exact z5 k c hk
theorem kAV1_g {B : DS} (hs : dSc B = 1) : dRo (kAV1 B 14 (nI 1)) 14 6 = dRo B 14 6 + 1000 ∧ dSc (kAV1 B 14 (nI 1)) = 1 ∧ ∀ k c : Nat, ¬ k = 14 → dRo (kAV1 B 14 (nI 1)) k c = dRo B k c := by
  unfold kAV1
  refine ⟨?_, hs, fun k c hk => ?_⟩
  · rw [sRo_g, if_pos ⟨rfl, rfl⟩, hs, show (nI 1 * nI 1000).toInt64 = 1000 by decide, Int64.mul_one]
  · rw [sRo_g, if_neg (fun w => hk w.1)]
theorem kPinU6 {S : DS} {v : Nat} {x : Int32} (hv : v < 6) (hs : dSc S = 1) : dRo (kPinU S v x) 14 6 = -1 * x.toInt64 + dRo S (15 + v) 6 + 1000 ∧ dSc (kPinU S v x) = 1 ∧ ∀ k c : Nat, ¬ k = 14 → dRo (kPinU S v x) k c = dRo S k c := by
  have l1 := kLift1_o (S := S) (r := 14)
  obtain ⟨a1, a2, a3⟩ := kPl1_g (S := kLift1 S 14) (x := x) (l1.2.trans hs)
  rw [l1.1] at a3
  unfold kPinU
  rw [fPl_v hv]
  generalize kPl1 (kLift1 S 14) 14 x = A at a1 a2 a3 ⊢
  obtain ⟨b1, b2, b3⟩ := fAV6 (U := A) (v := v)
  generalize lpN (fAV 14 v (nI 1)) 7 0 A = B at b1 b2 b3 ⊢
  obtain ⟨c1, c2, c3⟩ := kAV1_g (b2.trans a2)
  generalize kAV1 B 14 (nI 1) = C at c1 c2 c3 ⊢
  obtain ⟨d1, d2⟩ := kPl2_o (X := C) (k := 14) (rel := nI 1) (con := x) (str := nI 0) (wei := nI 1)
  rw [d1, d2]
  refine ⟨?_, c2, fun k c hk => ?_⟩
  · rw [c1, b1, a1, a3 (15 + v) 6 (by omega)]
  · rw [c3 k c hk, b3 k c hk, a3 k c hk]
theorem kPinU_c {S T : DS} (h : cR cWb cVb S T) {v : Nat} (hv : v < 6) (x y : Int32) : cR (fun a j => ((((cWb a j ∨ (a = 2 ∧ j = 14)) ∨ (a = 4 ∧ j = 14)) ∨ (a = 5 ∧ j = 14)) ∨ (a = 6 ∧ j = 14))) cVa (kPinU S v x) (kPinU T v y) := by
  have h1 : cR cWb cVb (kLift1 S 14) (kLift1 T 14) := by
    unfold kLift1
    exact cR_sIk (cR_sIk h 8 _ _) 2 _ _
  obtain ⟨a1, a2, a3, a4, a5⟩ := kZr_g (S := kLift1 S 14) (a := 14)
  obtain ⟨b1, b2, b3, b4, b5⟩ := kZr_g (S := kLift1 T 14) (a := 14)
  have h2 : cR cWb cVa (lpN (fZr 14) 7 0 (kLift1 S 14)) (lpN (fZr 14) 7 0 (kLift1 T 14)) := ⟨a1.trans (h1.1.trans b1.symm), a2.trans (h1.2.1.trans b2.symm), fun a j q => by rw [a3, b3]; exact h1.2.2.1 a j q, fun k c q hc => by
    by_cases e : k = 14
    · subst e
      rw [a4 c (by omega), b4 c (by omega)]
    · rw [a5 k c e, b5 k c e]
      exact h1.2.2.2 k c ⟨q, e⟩ hc⟩
  have h3 : cR cWb cVa (kPl1 (kLift1 S 14) 14 x) (kPl1 (kLift1 T 14) 14 y) := by
    unfold kPl1
    exact cR_sRo h2 14 6 (fun q => absurd q (by omega))
  have h4 : cR cWb cVa (lpN (fAV 14 v (nI 1)) 7 0 (kPl1 (kLift1 S 14) 14 x)) (lpN (fAV 14 v (nI 1)) 7 0 (kPl1 (kLift1 T 14) 14 y)) := lpN_rel (cR cWb cVa) 7 0 _ _ h3 (fun i A B _ hi q => by
    unfold fAV
    exact cR_sRo q 14 i (fun hi6 => by rw [q.2.2.2 14 i (show 14 < 27 by omega) hi6, q.2.2.2 (15 + v) i (show 15 + v < 27 by omega) hi6]))
  have h5 : cR cWb cVa (kAV1 (lpN (fAV 14 v (nI 1)) 7 0 (kPl1 (kLift1 S 14) 14 x)) 14 (nI 1)) (kAV1 (lpN (fAV 14 v (nI 1)) 7 0 (kPl1 (kLift1 T 14) 14 y)) 14 (nI 1)) := by
    unfold kAV1
    exact cR_sRo h4 14 6 (fun q => absurd q (by omega))
  unfold kPinU
  rw [fPl_v hv, fPl_v hv]
  unfold kPl2
  exact cR_sI (cR_sI (cR_sI (cR_sIn (cR_sI h5 2 14 _) 3 14 x y (fun q => by
    rcases q with ⟨⟨_, _, q, _⟩, _⟩ | ⟨q, _⟩
    · exact q rfl
    · omega)) 4 14 _) 5 14 _) 6 14 _
/-- what is known of the states on the way -/
def fam (SD S : DS) : Prop := dSc S = 1 ∧ dI S 8 14 = -1 ∧ cR cWb cVb S SD ∧ ∃ m : Nat → Int, (∀ u : Nat, u < 6 → -1000 ≤ m u ∧ m u ≤ 1000) ∧ ∀ u : Nat, u < 6 → dRo S (15 + u) 6 = yI (m u - 1000) ∧ dRo S (21 + u) 6 = yI (m u + 1000)
theorem kPin_c {S T : DS} (h : cR cWb cVb S T) (hS : dI S 8 14 = -1) (hT : dI T 8 14 = -1) {v : Nat} (hv : v < 6) (x y : Int32) (hs : (if 0 ≤ lg_cmp (dRo (kPinU S v x) 14 6) 0 then nI 1 else -1) = (if 0 ≤ lg_cmp (dRo (kPinU T v y) 14 6) 0 then nI 1 else -1)) : cR cWa cVa (kPin S v x) (kPin T v y) := by
  rw [kPin_e hS, kPin_e hT, hs]
  refine cR_mono (cR_sI (kPinU_c h hv x y) 7 14 _) (fun a j q => ?_) (fun k q => q)
  obtain ⟨q1, q2, q3, q4, q5⟩ := q
  by_cases e : j = 14
  · by_cases e8 : a = 8
    · exact Or.inl (Or.inl (Or.inl (Or.inl (Or.inl ⟨⟨q1, q2, q3, q4, q5⟩, Or.inr e8⟩))))
    have q6 : ¬ a = 9 := fun q => by have := q5 q; omega
    rcases (show a = 2 ∨ a = 4 ∨ a = 5 ∨ a = 6 ∨ a = 7 by omega) with g | g | g | g | g
    · exact Or.inl (Or.inl (Or.inl (Or.inl (Or.inr ⟨g, e⟩))))
    · exact Or.inl (Or.inl (Or.inl (Or.inr ⟨g, e⟩)))
    · exact Or.inl (Or.inl (Or.inr ⟨g, e⟩))
    · exact Or.inl (Or.inr ⟨g, e⟩)
    · exact Or.inr ⟨g, e⟩
  · exact Or.inl (Or.inl (Or.inl (Or.inl (Or.inl ⟨⟨q1, q2, q3, q4, q5⟩, Or.inl e⟩))))
/-- what is evaluated -/
def kU (SD : DS) (v : Nat) (x0 : Int32) : DS := kFind (sCt (kPin SD v x0) (nI 4)) (-1) (nI 1)
def kU2 (SD : DS) (v : Nat) (x0 d : Int32) : DS := kFind (kEx (kU SD v x0) 14 v d) (-1) (nI 1)
abbrev famA1 (T : DS) (v : Nat) (d : Int32) : Prop := kEnt T = nI v ∧ kDir T v = d
abbrev famA2 (T : DS) : Prop := ∀ k : Nat, k < 14 → dI T 2 k = 0
abbrev famA3 (T : DS) (v : Nat) (d : Int32) : Prop := dI T 8 14 = -1 ∧ (-(dI T 7 14) * d).toInt64 * dRo T 14 v = 1 ∧ dRo T 14 v = 1
abbrev famA4 (T : DS) : Prop := ∀ k : Nat, k < 27 → k < 14 ∨ ¬ dI T 2 k = 0
abbrev famA5 (T : DS) (v : Nat) : Prop := ∀ u : Nat, u < 6 → dRo T (15 + u) v = (if u = v then 1 else 0) ∧ dRo T (21 + u) v = (if u = v then 1 else 0)
abbrev famB (T : DS) (v : Nat) (d : Int32) (r1 : Nat) : Prop :=
  ∀ k : Nat, k < 27 → k < 15 ∨ lg_cmp ((-(dI T 7 k) * d).toInt64 * dRo T k v) 0 ≤ 0 ∨ ((-(dI T 7 k) * d).toInt64 * dRo T k v = 1 ∧ k = r1 + v)
abbrev famD1 (SD T2 : DS) : Prop := kEnt T2 = -1 ∧ dSc T2 = 1 ∧ dCt (kLift T2 (nI 14)) = dCt SD
abbrev famD2 (T2 : DS) : Prop := ∀ u : Nat, u < 6 → dI T2 6 (15 + u) = 0 ∧ dI T2 5 (21 + u) = 0
def bE (a j : Nat) : Bool := decide (a < 2) || decide (a = 3) || (decide (a = 9) && decide (6 ≤ j)) || (decide (j = 14) && decide (¬ a = 8))
abbrev famE (SD T2 : DS) : Prop := ∀ a : Nat, a < 10 → ∀ j : Nat, j < 27 → bE a j = true ∨ dI (kLift T2 (nI 14)) a j = dI SD a j
abbrev famG (SD T2 : DS) : Prop := ∀ k : Nat, k < 27 → ∀ c : Nat, c < 6 → k = 14 ∨ dRo (kLift T2 (nI 14)) k c = dRo SD k c
theorem bE_f {a j : Nat} (h : 2 ≤ a ∧ ¬ a = 3 ∧ (a = 9 → j < 6) ∧ (¬ j = 14 ∨ a = 8)) : ¬ bE a j = true := by
  unfold bE
  simp only [Bool.or_eq_true, Bool.and_eq_true, decide_eq_true_eq]
  omega
theorem kDesN_2 {S U : DS} {aim sg c r : Int32} {n : Nat} (hU : U = kFind S aim sg) (h1 : kEnt U = c) (h2 : 0 ≤ c) (h3 : kLv U c.toNatClampNeg (kDir U c.toNatClampNeg) = r) (h4 : 0 ≤ r) (h5 : kEnt (kFind (kEx U r.toNatClampNeg c.toNatClampNeg (kDir U c.toNatClampNeg)) aim sg) = -1) : kDesN aim sg (n + 2) S = kFind (kEx U r.toNatClampNeg c.toNatClampNeg (kDir U c.toNatClampNeg)) aim sg := by
  rw [show n + 2 = n + 1 + 1 by omega, kDesN, ← hU, h1, if_pos h2, h3, if_pos h4, kDesN, h5, if_neg (show ¬ (0 : Int32) ≤ -1 by decide)]
