/-! p1: the reference on a fresh object, by evaluation -/
def zOkB (S : MS) (R C : Nat) : Bool := decide (aF S 14 = nI R ∧ aF S 15 = nI C ∧ ¬ aG S 16 = 0 ∧ (∀ i : Nat, i < R → (a10 S i).toNatClampNeg < 42 ∧ a10 S i = nI (a10 S i).toNatClampNeg) ∧ ∀ j : Nat, j < C + 1 → 1 ≤ j → (a11 S j).toNatClampNeg < 42 ∧ a11 S j = nI (a11 S j).toNatClampNeg)
theorem zOk {S : MS} {R C : Nat} (h : zOkB S R C = true) : jOk S R C := by
  obtain ⟨h1, h2, h3, h4, h5⟩ := of_decide_eq_true h
  exact ⟨h1, h2, h3, fun i hi => ⟨_, h4 i hi⟩, fun j h6 h7 => ⟨_, h5 j (by omega) h6⟩⟩
def zO1 (o : Option (Int32 × MS)) : MS := match o with | some (_, T) => T | none => SM0
def zB1 (o : Option (Int32 × MS)) : Bool := match o with | some (b, _) => decide (b = nI 1) | none => false
theorem zO1_eq {o : Option (Int32 × MS)} (h : zB1 o = true) : o = some (nI 1, zO1 o) := by
  rcases o with _ | ⟨b, T⟩
  · cases h
  · have h1 : b = nI 1 := of_decide_eq_true h
    rw [h1]
    rfl
def zO2 (o : Option MS) : MS := match o with | some T => T | none => SM0
def zB2 (o : Option MS) : Bool := match o with | some _ => true | none => false
theorem zO2_eq {o : Option MS} (h : zB2 o = true) : o = some (zO2 o) := by
  rcases o with _ | T
  · cases h
  · rfl
def zO3 (o : Option Int64) : Int64 := match o with | some T => T | none => 0
def zB3 (o : Option Int64) : Bool := match o with | some g => decide (¬ g = 0) | none => false
theorem zO3_eq {o : Option Int64} (h : zB3 o = true) : o = some (zO3 o) ∧ ¬ zO3 o = 0 := by
  rcases o with _ | g
  · cases h
  · exact ⟨rfl, of_decide_eq_true h⟩
def zV (S : MS) (x y : Int32) : Option MS := leRun 6 6 60 (jFL S 0 x y 6 6).2
def zG (S : MS) (x y : Int32) (V : MS) : Option Int64 := jGcd 60 (jAbs (jUp V y (jFL S 0 x y 6 6).1 6)) (aG V 16)
def zE (S : MS) (x y : Int32) : MS := jFound (zO2 (zV S x y)) y (jFL S 0 x y 6 6).1 6 (zO3 (zG S x y (zO2 (zV S x y))))
def zEB (S : MS) (x y : Int32) : Bool := zOkB S 6 6 && zB2 (zV S x y) && zB3 (zG S x y (zO2 (zV S x y)))
theorem zLeast {S : MS} {x y : Int32} (h : zEB S x y = true) : jLeast S 0 x y (zE S x y) := by
  unfold zEB at h
  rw [Bool.and_eq_true, Bool.and_eq_true] at h
  obtain ⟨⟨h1, h2⟩, h3⟩ := h
  obtain ⟨h4, h5⟩ := zO3_eq h3
  exact ⟨6, 6, 60, zO2 (zV S x y), zO3 (zG S x y (zO2 (zV S x y))), zOk h1, by omega, by omega, zO2_eq h2, h4, h5, rfl⟩
def zTo (S : MS) : Option (Int32 × MS) := chRun 6 6 60 (jClear (jLay S (nI 32767) (nI 0)) 6 6)
def zZo (S : MS) : Option MS := jAllN 60 6 6 (nI 32767) 3 1 (zO1 (zTo S))
def zZ (S : MS) : MS := zO2 (zZo S)
def zZB (S : MS) : Bool := zOkB (jLay S (nI 32767) (nI 0)) 6 6 && zB1 (zTo S) && zB2 (zZo S)
theorem zSolves {S : MS} (h : zZB S = true) : jSolves S (nI 32767) (nI 1) (zZ S) := by
  unfold zZB at h
  rw [Bool.and_eq_true, Bool.and_eq_true] at h
  obtain ⟨⟨h1, h2⟩, h3⟩ := h
  refine ⟨6, 6, 60, zO1 (zTo S), zOk h1, by omega, by omega, zO1_eq h2, ?_⟩
  rw [if_neg (show ¬ nI 1 = 0 by decide)]
  exact zO2_eq h3
def zYo (S : MS) : Option (Int32 × MS) := chRun 6 6 60 (jClear (jLay (j18 S (nI 0)) (nI 32767) (nI 1)) 6 6)
def zYB (S : MS) : Bool := zOkB (jLay (j18 S (nI 0)) (nI 32767) (nI 1)) 6 6 && zB1 (zYo S)
theorem zPoss {S : MS} (h : zYB S = true) : jPoss S (nI 32767) (nI 1) (zO1 (zYo S)) := by
  unfold zYB at h
  rw [Bool.and_eq_true] at h
  exact ⟨6, 6, 60, zOk h.1, by omega, by omega, zO1_eq h.2⟩
def zU (S : MS) : Nat → MS
  | 0 => j18 S (nI 1)
  | v + 1 => zE (zE (zU S v) (nI v) (nI 1)) (nI v) (-1)
theorem zc1 : zZB SM0 = true := by decide +kernel
theorem zc2 : ∀ s : Nat, s < 4 → 1 ≤ s → a13 (zZ SM0) s = 0 ∧ a14 (zZ SM0) s = 1 := by decide +kernel
theorem zc3 : ∀ c : Nat, c < 15 → jOf (zZ SM0) c 10 = 0 := by decide +kernel
abbrev zPv (Y : MS) (v : Nat) : Prop := (zEB Y (nI v) (nI 1) = true ∧ aG (zE Y (nI v) (nI 1)) 21 = -1000 ∧ aG (zE Y (nI v) (nI 1)) 22 = 1) ∧ zEB Y (nI v) (-1) = true ∧ aG (zE Y (nI v) (-1)) 21 = 1000 ∧ aG (zE Y (nI v) (-1)) 22 = 1
theorem zc4 : ∀ v : Nat, v < 6 → zPv (j18 (zZ SM0) (nI 1)) v := by decide +kernel
abbrev zPu (Z : MS) (v : Nat) : Prop := zEB (zU Z v) (nI v) (nI 1) = true ∧ zEB (zE (zU Z v) (nI v) (nI 1)) (nI v) (-1) = true ∧ ¬ aG (zE (zU Z v) (nI v) (nI 1)) 21 = aG (zU Z (v + 1)) 21
theorem zc5 : ∀ v : Nat, v < 6 → zPu (zZ SM0) v := by decide +kernel
theorem zc6 : zYB SM0 = true := by decide +kernel
theorem zc7 : ∀ v : Nat, v < 6 → zPv (zO1 (zYo SM0)) v := by decide +kernel
