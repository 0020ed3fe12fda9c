/-! p1: what the two solvers say on a fresh object -/
/-- the reference: solved, then every variable's least and greatest value; the run of ambiguous -/
def MZ (Z : MS) (E : Int32 → Nat → MS) (E1 U : Nat → MS) : Prop :=
  jSolves SM0 (nI 32767) (nI 1) Z ∧ (∀ s : Nat, 1 ≤ s → s < 4 → a13 Z s = 0 ∧ a14 Z s = 1) ∧ (∀ c : Nat, c < 15 → jOf Z c 10 = 0) ∧ (∀ v : Nat, v < 6 → (jLeast (j18 Z (nI 1)) 0 (nI v) (nI 1) (E (nI 1) v) ∧ aG (E (nI 1) v) 21 = -1000 ∧ aG (E (nI 1) v) 22 = 1) ∧ jLeast (j18 Z (nI 1)) 0 (nI v) (-1) (E (-1) v) ∧ aG (E (-1) v) 21 = 1000 ∧ aG (E (-1) v) 22 = 1) ∧ U 0 = j18 Z (nI 1) ∧ ∀ v : Nat, v < 6 → jLeast (U v) 0 (nI v) (nI 1) (E1 v) ∧ jLeast (E1 v) 0 (nI v) (-1) (U (v + 1)) ∧ ¬ aG (E1 v) 21 = aG (U (v + 1)) 21
def MY (Y : MS) (E : Int32 → Nat → MS) : Prop := jPoss SM0 (nI 32767) (nI 1) Y ∧ ∀ v : Nat, v < 6 → (jLeast Y 0 (nI v) (nI 1) (E (nI 1) v) ∧ aG (E (nI 1) v) 21 = -1000 ∧ aG (E (nI 1) v) 22 = 1) ∧ jLeast Y 0 (nI v) (-1) (E (-1) v) ∧ aG (E (-1) v) 21 = 1000 ∧ aG (E (-1) v) 22 = 1
def MF (Fo : Nat → Int32 → MS) : Prop := ∀ (v : Nat) (x : Int32), v < 6 → ¬ j_in x (-1000) (nI 1000) = 0 → jSolves (jFo SM0 v x) (nI 32767) (nI 1) (Fo v x) ∧ ∀ s : Nat, 1 ≤ s → s < 4 → a13 (Fo v x) s = 0 ∧ a14 (Fo v x) s = 1
theorem mZ : ∃ (Z : MS) (E : Int32 → Nat → MS) (E1 U : Nat → MS), MZ Z E E1 U := by
  refine ⟨zZ SM0, fun y v => zE (j18 (zZ SM0) (nI 1)) (nI v) y, fun v => zE (zU (zZ SM0) v) (nI v) (nI 1), zU (zZ SM0), zSolves zc1, fun s h1 h2 => zc2 s h2 h1, zc3, fun v hv => ?_, rfl, fun v hv => ?_⟩
  · obtain ⟨⟨h1, h2, h3⟩, h4, h5, h6⟩ := zc4 v hv
    exact ⟨⟨zLeast h1, h2, h3⟩, zLeast h4, h5, h6⟩
  · obtain ⟨h1, h2, h3⟩ := zc5 v hv
    exact ⟨zLeast h1, zLeast h2, h3⟩
theorem mY : ∃ (Y : MS) (E : Int32 → Nat → MS), MY Y E := by
  refine ⟨zO1 (zYo SM0), fun y v => zE (zO1 (zYo SM0)) (nI v) y, zPoss zc6, fun v hv => ?_⟩
  obtain ⟨⟨h1, h2, h3⟩, h4, h5, h6⟩ := zc7 v hv
  exact ⟨⟨zLeast h1, h2, h3⟩, zLeast h4, h5, h6⟩
theorem mF : ∃ Fo : Nat → Int32 → MS, MF Fo := by
  refine ⟨fun v x => if h : v < 6 ∧ (-1000 ≤ x.toInt ∧ x.toInt ≤ 1000) then (mForce (S := SM0) h.1 h.2 (fun _ _ => rfl)).choose else SM0, fun v x hv hx => ?_⟩
  have h : v < 6 ∧ (-1000 ≤ x.toInt ∧ x.toInt ≤ 1000) := ⟨hv, j_in_t3 hx⟩
  have q := (mForce (S := SM0) (v := v) (x := x) h.1 h.2 (fun _ _ => rfl)).choose_spec
  simp only [dif_pos h]
  exact ⟨q.1, q.2.1⟩
theorem mM : ∃ F : MS → Prop, F SM0 ∧ ∀ v0 : Nat, v0 < 6 → kOkM v0 F := ⟨fun S => ∀ c : Nat, c < 15 → jOf S c 10 = 0, fun _ _ => rfl, fun v0 hv => ⟨fun S h => h, fun S x hF hx => by
  obtain ⟨Z, z1, z2, z3, z4⟩ := mForce hv (j_in_t3 hx) hF
  exact ⟨Z, z1, z3, fun s h1 h2 => (z2 s h1 h2).1, fun s _ => by rw [z4]⟩⟩⟩
noncomputable def qZ : MS := mZ.choose
noncomputable def qE : Int32 → Nat → MS := mZ.choose_spec.choose
noncomputable def qE1 : Nat → MS := mZ.choose_spec.choose_spec.choose
noncomputable def qU : Nat → MS := mZ.choose_spec.choose_spec.choose_spec.choose
theorem qMZ : MZ qZ qE qE1 qU := mZ.choose_spec.choose_spec.choose_spec.choose_spec
theorem qZs : jSolves SM0 (nI 32767) (nI 1) qZ := qMZ.1
theorem qZone : ∀ c : Nat, c < 15 → jOf qZ c 10 = 0 := qMZ.2.2.1
theorem qEl : ∀ v0 : Nat, v0 < 6 → jLeast (j18 qZ (nI 1)) 0 (nI v0) (nI 1) (qE (nI 1) v0) := fun v h => (qMZ.2.2.2.1 v h).1.1
theorem qEh : ∀ v0 : Nat, v0 < 6 → jLeast (j18 qZ (nI 1)) 0 (nI v0) (-1) (qE (-1) v0) := fun v h => (qMZ.2.2.2.1 v h).2.1
theorem qU0 : qU 0 = j18 qZ (nI 1) := qMZ.2.2.2.2.1
theorem qU1 : ∀ v0 : Nat, v0 < 6 → jLeast (qU v0) 0 (nI v0) (nI 1) (qE1 v0) := fun v h => (qMZ.2.2.2.2.2 v h).1
theorem qU2 : ∀ v0 : Nat, v0 < 6 → jLeast (qE1 v0) 0 (nI v0) (-1) (qU (v0 + 1)) := fun v h => (qMZ.2.2.2.2.2 v h).2.1
theorem qU3 : ∀ v0 : Nat, v0 < 6 → ¬ aG (qE1 v0) 21 = aG (qU (v0 + 1)) 21 := fun v h => (qMZ.2.2.2.2.2 v h).2.2
noncomputable def qY : MS := mY.choose
noncomputable def qR : Int32 → Nat → MS := mY.choose_spec.choose
theorem qMY : MY qY qR := mY.choose_spec.choose_spec
theorem qYs : jPoss SM0 (nI 32767) (nI 1) qY := qMY.1
theorem qRs : ∀ (by9 : Int32) (v0 : Nat), (by9 = nI 1 ∨ by9 = -1) → v0 < 6 → jLeast qY 0 (nI v0) by9 (qR by9 v0) := by
  rintro by9 v0 (rfl | rfl) h
  · exact (qMY.2 v0 h).1.1
  · exact (qMY.2 v0 h).2.1
noncomputable def qFo : Nat → Int32 → MS := mF.choose
theorem qMF : MF qFo := mF.choose_spec
theorem qFos (v0 : Nat) (h1 : v0 < 6) (x : Int32) (h2 : ¬ j_in x (-1000) (nI 1000) = 0) : jSolves (jFo SM0 v0 x) (nI 32767) (nI 1) (qFo v0 x) := (qMF v0 x h1 h2).1
noncomputable def qMp : MS → Prop := mM.choose
theorem qM0 : qMp SM0 := mM.choose_spec.1
theorem qM : ∀ v0 : Nat, v0 < 6 → kOkM v0 qMp := mM.choose_spec.2
noncomputable def qFp : DS → Prop := kK4.choose
theorem qF0 : qFp SD0 := kK4.choose_spec.1
theorem qF : ∀ v0 : Nat, v0 < 6 → kOkF v0 qFp := kK4.choose_spec.2
theorem qOne : ∀ c : Nat, c < 15 → jOf SM0 c 10 = 0 := fun _ _ => rfl
theorem kPart01 {y : Int32} (h : ¬ j_isPart y = 0) (u : Int64) (hu : u = 0 ∨ u = -1000 ∨ u = 1000) : kPart u 1 y = if y = 0 then u else 1 := by
  obtain ⟨k, hk, rfl⟩ := j_in_ne0 h
  rcases (show k = 0 ∨ k = 1 by omega) with rfl | rfl <;> rcases hu with rfl | rfl | rfl <;> decide +kernel
theorem q_end (lv : Int32) (hlv : lv = nI 4 ∨ lv = nI 1) (E : Int32 → Nat → MS) (hE : ∀ v : Nat, v < 6 → (aG (E (nI 1) v) 21 = -1000 ∧ aG (E (nI 1) v) 22 = 1) ∧ aG (E (-1) v) 21 = 1000 ∧ aG (E (-1) v) 22 = 1) (v sd pt : Int32) : kVA SD0 v sd pt lv = if j_isVariable v = 0 then (-1000000000000000001) else if j_isPart sd = 0 then (-1000000000000000002) else if j_isPart pt = 0 then (-1000000000000000002) else jEnd (E (if sd = 0 then nI 1 else -1)) v pt := by
  unfold kVA jEnd
  rw [e_var, e_part sd, e_part pt]
  by_cases h1 : j_isVariable v = 0
  · rw [if_pos h1, if_pos h1]
  by_cases h2 : j_isPart sd = 0
  · rw [if_neg h1, if_pos h2, if_neg h1, if_pos h2]
  by_cases h3 : j_isPart pt = 0
  · rw [if_neg h1, if_neg h2, if_pos h3, if_neg h1, if_neg h2, if_pos h3]
  rw [if_neg h1, if_neg h2, if_neg h3, if_neg h1, if_neg h2, if_neg h3, if_neg h1, if_neg h3]
  obtain ⟨k, hk, rfl⟩ := j_isVar_ix h1
  rw [nI_clamp (by omega)]
  obtain ⟨⟨a1, a2⟩, a3, a4⟩ := kK2 k hk lv hlv
  obtain ⟨⟨b1, b2⟩, b3, b4⟩ := hE k hk
  by_cases h4 : sd = 0
  · rw [if_pos h4, if_pos h4, a1, a2, b1, b2, kPart01 h3 _ (Or.inr (Or.inl rfl))]
    by_cases h5 : pt = 0
    · rw [if_pos h5, if_neg (fun q => q h5)]
    · rw [if_neg h5, if_pos h5]
  · rw [if_neg h4, if_neg h4, a3, a4, b3, b4, kPart01 h3 _ (Or.inr (Or.inr rfl))]
    by_cases h5 : pt = 0
    · rw [if_pos h5, if_neg (fun q => q h5)]
    · rw [if_neg h5, if_pos h5]
theorem hqE : ∀ v : Nat, v < 6 → (aG (qE (nI 1) v) 21 = -1000 ∧ aG (qE (nI 1) v) 22 = 1) ∧ aG (qE (-1) v) 21 = 1000 ∧ aG (qE (-1) v) 22 = 1 := fun v h => ⟨(qMZ.2.2.2.1 v h).1.2, (qMZ.2.2.2.1 v h).2.2⟩
theorem hqR : ∀ v : Nat, v < 6 → (aG (qR (nI 1) v) 21 = -1000 ∧ aG (qR (nI 1) v) 22 = 1) ∧ aG (qR (-1) v) 21 = 1000 ∧ aG (qR (-1) v) 22 = 1 := fun v h => ⟨(qMY.2 v h).1.2, (qMY.2 v h).2.2⟩
theorem kCoP1 {f : Nat → Int64} {x y : Int32} (hx : ¬ j_in x (nI 1) (nI 3) = 0) (hy : ¬ j_isPart y = 0) (hf : ∀ s : Nat, s < 4 → f s = 0) : kCoP f 1 x y = if y = 0 then 0 else 1 := by
  obtain ⟨k, hk, rfl⟩ := j_in_13 hx
  unfold kCoP
  rw [if_neg (nI_pos (by omega)), if_pos (by rw [nI_leI (by omega) (by omega)]; omega), nI_clamp (by omega), hf k hk]
  exact kPart01 hy 0 (Or.inl rfl)
theorem kCo_z {S : DS} (h : dSc S = 1) : (kCo S (fun _ => 0, 1)).2 = 1 := h
theorem kCo_c {S : DS} (h : ∀ (f : Nat → Int64) (s : Nat), s < 4 → kTell S f s = 0) : (kCo S (fun _ => 0, 1)).1 0 = 0 := h _ 0 (by omega)
theorem kCo_d {S : DS} (h : ∀ (f : Nat → Int64) (s : Nat), s < 4 → kTell S f s = 0) : ∀ s : Nat, s < 4 → (kCo S (fun _ => 0, 1)).1 s = 0 := fun s hs => h _ s hs
theorem q_pt (A : Int32) (y : Int32) : (if y < 0 then -2 else if y < nI 2 then A else -2) = (if j_isPart y = 0 then -2 else A) := by
  unfold j_isPart j_in
  by_cases h1 : y < nI 0
  · rw [if_pos h1, if_pos (show y < 0 from h1)]; rfl
  · rw [if_neg h1, if_neg (show ¬ y < 0 from h1)]
    by_cases h2 : nI 1 < y
    · rw [if_pos h2, if_neg (show ¬ y < nI 2 by
        simp only [Int32.lt_iff_toInt_lt, show (nI 1 : Int32).toInt = 1 by decide, show (nI 2 : Int32).toInt = 2 by decide] at *
        omega)]; rfl
    · rw [if_neg h2, if_pos (show y < nI 2 by
        simp only [Int32.lt_iff_toInt_lt, show (nI 1 : Int32).toInt = 1 by decide, show (nI 2 : Int32).toInt = 2 by decide] at *
        omega)]; rfl
theorem j_in_13b {x : Int32} (h : ¬ j_in x (nI 1) (nI 3) = 0) : 1 ≤ x.toNatClampNeg ∧ x.toNatClampNeg < 4 := by
  obtain ⟨k, hk, rfl⟩ := j_in_13 h
  rw [nI_clamp (by omega)]
  rcases (show k = 0 ∨ 1 ≤ k by omega) with rfl | h1
  · exact absurd (by decide) h
  · exact ⟨h1, hk⟩
theorem q_term (y1 y2 : Int32) : ((if k_isVariable y1 = 0 then -1 else if k_isWithin y2 (nI 3) = 0 then -2 else nI 10) : Int32) = jTermR SM0 y1 y2 := by
  rw [e_var]
  unfold jTermR
  rfl
theorem q_add (y1 y2 y3 y4 : Int32) : ((if k_isRelation y1 = 0 then -2 else if k_isWithin y2 (nI 200) = 0 then -2 else if k_isStrength y3 = 0 then -2 else if k_isWeight y4 = 0 then -2 else -5) : Int32) = (if j_in y1 (nI 0) (nI 2) = 0 then -2 else if j_isConstant y2 = 0 then -2 else if j_isStrength y3 y4 = 0 then -2 else -5) := by
  rw [e_rel, e_within]
  by_cases h1 : j_in y1 (nI 0) (nI 2) = 0
  · rw [if_pos h1, if_pos h1]
  rw [if_neg h1, if_neg h1]
  by_cases h2 : j_isConstant y2 = 0
  · rw [if_pos h2]; exact if_pos h2
  rw [if_neg h2]
  refine (if_neg h2).trans ?_
  by_cases h3 : j_isStrength y3 y4 = 0
  · rw [if_pos h3]
    rcases (e_str y3 y4).mpr h3 with h | h
    · rw [if_pos h]
    · split <;> first | rfl | (rw [if_pos h])
  · rw [if_neg h3, if_neg (fun q => h3 ((e_str y3 y4).mp (Or.inl q))), if_neg (fun q => h3 ((e_str y3 y4).mp (Or.inr q)))]
theorem q_remove (y1 : Int32) : (-1 : Int32) = -1 := rfl
theorem q_setConstant (y1 y2 : Int32) : (-1 : Int32) = -1 := rfl
theorem q_setStrength (y1 y2 y3 : Int32) : (-1 : Int32) = -1 := rfl
theorem q_about (y1 y2 : Int32) : (-1 : Int32) = -1 := rfl
theorem q_constraints : (nI 0 : Int32) = jSet SM0 := (jSet_0 qOne).symm
theorem q_say (y1 : Int32) : ((if y1 < nI 33 then -2 else if nI 126 < y1 then -2 else nI 1) : Int32) = jSayR 0 y1 := by
  unfold jSayR j_in
  by_cases h1 : y1 < nI 33
  · rw [if_pos h1, if_pos h1]; rfl
  · by_cases h2 : nI 126 < y1
    · rw [if_neg h1, if_pos h2, if_neg h1, if_pos h2]; rfl
    · rw [if_neg h1, if_neg h2, if_neg h1, if_neg h2]; rfl
theorem q_wipe : (nI 0 : Int32) = aF SM0 5 := rfl
theorem q_fault : (nI 0 : Int32) = nI 0 := rfl
theorem q_parse : (-5 : Int32) = -5 := rfl
theorem q_spell (y1 y2 : Int32) : (-1 : Int32) = -1 := rfl
theorem q_undo : (-5 : Int32) = -5 := rfl
theorem q_redo : (-5 : Int32) = -5 := rfl
theorem q_cost (y1 y2 : Int32) : ((if k_isSoft y1 = 0 then (-1000000000000000002) else if k_isPart y2 = 0 then (-1000000000000000002) else kCoP (kCo (kSet SD0) (fun _ => 0, 1)).1 (kCo (kSet SD0) (fun _ => 0, 1)).2 y1 y2) : Int64) = (if j_in y1 (nI 1) (nI 3) = 0 then (-1000000000000000002) else if j_isPart y2 = 0 then (-1000000000000000002) else if y2 = 0 then a13 qZ y1.toNatClampNeg else a14 qZ y1.toNatClampNeg) := by
  rw [e_soft, e_part]
  by_cases h1 : j_in y1 (nI 1) (nI 3) = 0
  · rw [if_pos h1, if_pos h1]
  by_cases h2 : j_isPart y2 = 0
  · rw [if_neg h1, if_pos h2, if_neg h1, if_pos h2]
  rw [if_neg h1, if_neg h2, if_neg h1, if_neg h2]
  obtain ⟨k1, k2⟩ := kK1
  rw [kCo_z k1, kCoP1 h1 h2 (kCo_d k2)]
  obtain ⟨g1, g2⟩ := j_in_13b h1
  rw [(qMZ.2.1 _ g1 g2).1, (qMZ.2.1 _ g1 g2).2]
theorem q_low (y1 y2 : Int32) : (kVA SD0 y1 (nI 0) y2 (nI 4) : Int64) = jEnd (qE (nI 1)) y1 y2 := by
  rw [q_end (nI 4) (Or.inl rfl) qE hqE, if_pos (show (nI 0 : Int32) = 0 by decide), jEnd]
  by_cases h1 : j_isVariable y1 = 0
  · rw [if_pos h1, if_pos h1]
  · rw [if_neg h1, if_neg (show ¬ j_isPart (nI 0) = 0 by decide), if_neg h1]
    by_cases h2 : j_isPart y2 = 0
    · rw [if_pos h2, if_pos h2]
    · rw [if_neg h2]
theorem q_high (y1 y2 : Int32) : (kVA SD0 y1 (nI 1) y2 (nI 4) : Int64) = jEnd (qE (-1)) y1 y2 := by
  rw [q_end (nI 4) (Or.inl rfl) qE hqE, if_neg (show ¬ (nI 1 : Int32) = 0 by decide), jEnd]
  by_cases h1 : j_isVariable y1 = 0
  · rw [if_pos h1, if_pos h1]
  · rw [if_neg h1, if_neg (show ¬ j_isPart (nI 1) = 0 by decide), if_neg h1]
    by_cases h2 : j_isPart y2 = 0
    · rw [if_pos h2, if_pos h2]
    · rw [if_neg h2]
theorem q_ambiguous : ((lpN fAmb 6 0 (nI 0, SD0)).1 : Int32) = lpN fAm9 6 0 (nI 0) := kK3.trans (by decide +kernel)
theorem q_value (y1 y2 y3 : Int32) : ((-1000000000000000001) : Int64) = (-1000000000000000001) := rfl
theorem q_status (y1 : Int32) : (-1 : Int32) = -1 := rfl
theorem q_reach (y1 y2 y3 : Int32) : (kVA SD0 y1 y2 y3 (nI 1) : Int64) = (if j_isVariable y1 = 0 then (-1000000000000000001) else if j_isPart y2 = 0 then (-1000000000000000002) else if j_isPart y3 = 0 then (-1000000000000000002) else jEnd (qR (if y2 = 0 then nI 1 else -1)) y1 y3) := q_end (nI 1) (Or.inr rfl) qR hqR y1 y2 y3
theorem q_connected (y1 : Int32) : ((if k_isVariable y1 = 0 then -1 else nI 1 <<< (y1 &&& 31)) : Int32) = (if j_isVariable y1 = 0 then -1 else nI 1 <<< (y1 &&& 31)) := by
  rw [e_var]
theorem q_blockers (y1 y2 : Int32) : ((if k_isRelation y1 = 0 then -2 else if k_isWithin y2 (nI 200) = 0 then -2 else -5) : Int32) = (if j_in y1 (nI 0) (nI 2) = 0 then -2 else if j_isConstant y2 = 0 then -2 else -5) := by
  rw [e_rel, e_within]
  rfl
theorem q_force (y1 y2 y3 y4 : Int32) : ((if k_isVariable y1 = 0 then (-1000000000000000001) else if k_isWithin y2 (nI 1000) = 0 then (-1000000000000000002) else if k_isSoft y3 = 0 then (-1000000000000000002) else if k_isPart y4 = 0 then (-1000000000000000002) else if ¬ lg_cmp ((kCo (kAt1 SD0 y1.toNatClampNeg y2) (fun _ => 0, 1)).1 0) 0 = 0 then (-1000000000000000003) else kCoP (kCo (kAt1 SD0 y1.toNatClampNeg y2) (fun _ => 0, 1)).1 (kCo (kAt1 SD0 y1.toNatClampNeg y2) (fun _ => 0, 1)).2 y3 y4) : Int64) = (if j_isVariable y1 = 0 then (-1000000000000000001) else if j_in y2 (-1000) (nI 1000) = 0 then (-1000000000000000002) else if j_in y3 (nI 1) (nI 3) = 0 then (-1000000000000000002) else if j_isPart y4 = 0 then (-1000000000000000002) else if nI 1 = 0 then (-1000000000000000003) else if y4 = 0 then a13 (qFo y1.toNatClampNeg y2) y3.toNatClampNeg else a14 (qFo y1.toNatClampNeg y2) y3.toNatClampNeg) := by
  rw [e_var, e_within, show (-(nI 1000) : Int32) = -1000 by decide, e_soft, e_part]
  by_cases h1 : j_isVariable y1 = 0
  · rw [if_pos h1, if_pos h1]
  by_cases h2 : j_in y2 (-1000) (nI 1000) = 0
  · rw [if_neg h1, if_pos h2, if_neg h1, if_pos h2]
  by_cases h3 : j_in y3 (nI 1) (nI 3) = 0
  · rw [if_neg h1, if_neg h2, if_pos h3, if_neg h1, if_neg h2, if_pos h3]
  by_cases h4 : j_isPart y4 = 0
  · rw [if_neg h1, if_neg h2, if_neg h3, if_pos h4, if_neg h1, if_neg h2, if_neg h3, if_pos h4]
  rw [if_neg h1, if_neg h2, if_neg h3, if_neg h4, if_neg h1, if_neg h2, if_neg h3, if_neg h4, if_neg (show ¬ nI 1 = 0 by decide)]
  obtain ⟨k, hk, rfl⟩ := j_isVar_ix h1
  rw [nI_clamp (by omega)]
  obtain ⟨-, f2, f3⟩ := qF k hk SD0 y2 qF0 h2
  rw [if_neg (fun q => q (by rw [kCo_c f3]; decide)), kCo_z f2, kCoP1 h3 h4 (kCo_d f3)]
  obtain ⟨g1, g2⟩ := j_in_13b h3
  rw [((qMF k y2 hk h2).2 _ g1 g2).1, ((qMF k y2 hk h2).2 _ g1 g2).2]
theorem q_best (y1 y2 y3 : Int32) : ((if k_isVariable y1 = 0 then -1 else if k_isWithin y2 (nI 1000) = 0 then -2 else if y3 < y2 then -2 else if y2 + nI 15 < y3 then -2 else if nI 1000 < y3 then -2 else y2 + nI 10000) : Int32) = (if j_isVariable y1 = 0 then -1 else if j_in y2 (-1000) (nI 1000) = 0 then -2 else if j_in y3 y2 (nI 1000) = 0 then -2 else if y2 + nI 15 < y3 then -2 else y2 + nI 10000) := by
  rw [e_var, e_within, show (-(nI 1000) : Int32) = -1000 by decide]
  by_cases h1 : j_isVariable y1 = 0
  · rw [if_pos h1, if_pos h1]
  by_cases h2 : j_in y2 (-1000) (nI 1000) = 0
  · rw [if_neg h1, if_pos h2, if_neg h1, if_pos h2]
  rw [if_neg h1, if_neg h2, if_neg h1, if_neg h2]
  unfold j_in
  by_cases h3 : y3 < y2
  · rw [if_pos h3, if_pos h3]; rfl
  by_cases h4 : nI 1000 < y3
  · rw [if_neg h3, if_pos h4, if_neg h3, if_pos h4]
    split <;> rfl
  · rw [if_neg h3, if_neg h4, if_neg h3, if_neg h4]
    by_cases h5 : y2 + nI 15 < y3
    · rw [if_pos h5]; rfl
    · rw [if_neg h5]; rfl
theorem q_burdens : (nI 0 : Int32) = nI 0 := rfl
theorem q_play (y1 y2 : Int32) : (-1 : Int32) = -1 := rfl
theorem q_count (y1 : Int32) : ((if y1.toInt < 0 then -2 else if (4 : Int) < y1.toInt then -2 else nI 0) : Int32) = (if y1.toInt < 0 then -2 else if (4 : Int) < y1.toInt then -2 else nI 0) := rfl
theorem q_save (y1 : Int32) : ((if y1 < 0 then -2 else if y1 < nI 2 then nI 0 else -2) : Int32) = (if j_isPart y1 = 0 then -2 else nI 0) := by
  exact q_pt _ y1
theorem q_restore (y1 : Int32) : ((if y1 < 0 then -2 else if y1 < nI 2 then -5 else -2) : Int32) = (if j_isPart y1 = 0 then -2 else -5) := by
  exact q_pt _ y1
