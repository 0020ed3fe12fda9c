/-! The world of a Dictionary: 43 cells at addresses ad 0 .. ad 42, apart. 0 the object, 1 its array of rows, 2 placed, 3 constants, 4 levels, 5 costAbove, 6 costBelow, 7 sides, 8 columnOf, 9 rowOf, 10 its array of slopes, 11 .. 37 the rows, 38 .. 42 the slopes. Its state: rows, scale, the arrays of ints by their places, slopes, countedLevels. -/
/-- the classes of arrays: char, int, long, boolean, Change, Constraint, Layout, rows of longs -/
abbrev tyW (cy : Nat → ClassId) : List (ClassId × FieldType) := [(cy 0, .char), (cy 1, .int), (cy 2, .long), (cy 3, .boolean), (cy 4, .object "LayoutSolver$Change"), (cy 5, .object "LayoutSolver$Constraint"), (cy 6, .object "LayoutSolver$Layout"), (cy 7, .array .long)]
abbrev DS : Type := (Nat → Nat → Int64) × Int64 × (Nat → Nat → Int32) × (Nat → Nat → Int64) × Int32
abbrev dRo (S : DS) : Nat → Nat → Int64 := S.1
abbrev dSc (S : DS) : Int64 := S.2.1
abbrev dI (S : DS) : Nat → Nat → Int32 := S.2.2.1
abbrev dSl (S : DS) : Nat → Nat → Int64 := S.2.2.2.1
abbrev dCt (S : DS) : Int32 := S.2.2.2.2
/-- a function of two places with another row -/
def uR {α : Type} (f : Nat → Nat → α) (i : Nat) (g : Nat → α) : Nat → Nat → α := fun a => if a = i then g else f a
theorem uR_s {α : Type} (f : Nat → Nat → α) (i : Nat) (g : Nat → α) : uR f i g i = g := by simp [uR]
theorem uR_n {α : Type} {f : Nat → Nat → α} {i j : Nat} {g : Nat → α} (h : j ≠ i) : uR f i g j = f j := by simp [uR, h]
abbrev sRo (S : DS) (i j : Nat) (v : Int64) : DS := (uR (dRo S) i (vp_updL (dRo S i) j v), dSc S, dI S, dSl S, dCt S)
abbrev sSc (S : DS) (v : Int64) : DS := (dRo S, v, dI S, dSl S, dCt S)
abbrev sI (S : DS) (k j : Nat) (v : Int32) : DS := (dRo S, dSc S, uR (dI S) k (upd (dI S k) j v), dSl S, dCt S)
abbrev sSl (S : DS) (i j : Nat) (v : Int64) : DS := (dRo S, dSc S, dI S, uR (dSl S) i (vp_updL (dSl S i) j v), dCt S)
abbrev sCt (S : DS) (v : Int32) : DS := (dRo S, dSc S, dI S, dSl S, v)
abbrev dFs (ad : Nat → Nat) (S : DS) : List Value := [.ref (ad 1), .long (dSc S), .ref (ad 2), .ref (ad 3), .ref (ad 4), .ref (ad 5), .ref (ad 6), .ref (ad 7), .ref (ad 8), .ref (ad 9), .ref (ad 10), .int (dCt S)]
def dE (cy : Nat → ClassId) (ad : Nat → Nat) (S : DS) (k : Nat) : va_E :=
  if k = 0 then .inr (3, dFs ad S) else if k = 1 then .inl (cy 7, 27, .inr (.inr (.inr (.inr (fun i => some (ad (11 + i))))))) else if k = 10 then .inl (cy 7, 5, .inr (.inr (.inr (.inr (fun i => some (ad (38 + i)))))))
  else if k = 2 then .inl (cy 3, 27, .inl (dI S 2)) else if k = 9 then .inl (cy 1, 6, .inl (dI S 9)) else if k < 9 then .inl (cy 1, 27, .inl (dI S k)) else if k < 38 then .inl (cy 2, 7, .inr (.inl (dRo S (k - 11)))) else .inl (cy 2, 6, .inr (.inl (dSl S (k - 38))))
def wD (cy : Nat → ClassId) (ad : Nat → Nat) (S : DS) : va_W := (List.range 43).map (fun k => (ad k, dE cy ad S k))
theorem wD_get {cy : Nat → ClassId} {ad : Nat → Nat} {S : DS} {k : Nat} (h : k < 43) : (wD cy ad S)[k]? = some (ad k, dE cy ad S k) := by
  simp [wD, List.getElem?_range h]
theorem wD_set {cy : Nat → ClassId} {ad : Nat → Nat} {S S' : DS} {k : Nat} {e : va_E} (h : k < 43) (hk : dE cy ad S' k = e) (hs : ∀ j, j < 43 → j ≠ k → dE cy ad S' j = dE cy ad S j) : (wD cy ad S).set k (ad k, e) = wD cy ad S' := by
  apply List.ext_getElem?
  intro j
  rw [List.getElem?_set]
  by_cases hj : j < 43
  · by_cases hjk : k = j
    · subst hjk
      rw [if_pos rfl, if_pos (by simp [wD]; exact hj), wD_get hj, hk]
    · rw [if_neg hjk, wD_get hj, wD_get hj, hs j hj (fun q => hjk q.symm)]
  · have h1 : (wD cy ad S)[j]? = none := List.getElem?_eq_none (by simp [wD]; omega)
    have h2 : (wD cy ad S')[j]? = none := List.getElem?_eq_none (by simp [wD]; omega)
    have : k ≠ j := by omega
    rw [if_neg this, h1, h2]
theorem wD_len {cy : Nat → ClassId} {ad : Nat → Nat} {S : DS} : (wD cy ad S).length = 43 := by simp [wD]
theorem wX_get {cy : Nat → ClassId} {ad : Nat → Nat} {S : DS} {X : va_W} {k : Nat} (h : k < 43) : (wD cy ad S ++ X)[k]? = some (ad k, dE cy ad S k) := by
  rw [List.getElem?_append_left (by rw [wD_len]; exact h)]
  exact wD_get h
theorem wX_set {cy : Nat → ClassId} {ad : Nat → Nat} {S S' : DS} {X : va_W} {k : Nat} {e : va_E} (h : k < 43) (hk : dE cy ad S' k = e) (hs : ∀ j, j < 43 → j ≠ k → dE cy ad S' j = dE cy ad S j) : (wD cy ad S ++ X).set k (ad k, e) = wD cy ad S' ++ X := by
  rw [List.set_append_left _ _ (by rw [wD_len]; exact h), wD_set h hk hs]
theorem dE_i {cy : Nat → ClassId} {ad : Nat → Nat} {S : DS} {k : Nat} (h : 3 ≤ k) (h2 : k < 9) : dE cy ad S k = .inl (cy 1, 27, .inl (dI S k)) := by
  unfold dE
  rw [if_neg (by omega), if_neg (by omega), if_neg (by omega), if_neg (by omega), if_neg (by omega), if_pos (by omega)]
theorem dE_r {cy : Nat → ClassId} {ad : Nat → Nat} {S : DS} {i : Nat} (h : i < 27) : dE cy ad S (11 + i) = .inl (cy 2, 7, .inr (.inl (dRo S i))) := by
  unfold dE
  rw [if_neg (by omega), if_neg (by omega), if_neg (by omega), if_neg (by omega), if_neg (by omega), if_neg (by omega), if_pos (by omega), show 11 + i - 11 = i by omega]
theorem dE_s {cy : Nat → ClassId} {ad : Nat → Nat} {S : DS} {i : Nat} : dE cy ad S (38 + i) = .inl (cy 2, 6, .inr (.inl (dSl S i))) := by
  unfold dE
  rw [if_neg (by omega), if_neg (by omega), if_neg (by omega), if_neg (by omega), if_neg (by omega), if_neg (by omega), if_neg (by omega), show 38 + i - 38 = i by omega]
/-- cells that a state's change leaves alone -/
theorem dE_c {cy : Nat → ClassId} {ad : Nat → Nat} {S S' : DS} {k : Nat} (h0 : k = 0 → dSc S' = dSc S ∧ dCt S' = dCt S) (h1 : 2 ≤ k → k < 10 → dI S' k = dI S k) (h2 : 11 ≤ k → k < 38 → dRo S' (k - 11) = dRo S (k - 11)) (h3 : 38 ≤ k → dSl S' (k - 38) = dSl S (k - 38)) : dE cy ad S' k = dE cy ad S k := by
  by_cases k0 : k = 0
  · obtain ⟨a, b⟩ := h0 k0
    simp only [dE, if_pos k0, dFs, a, b]
  by_cases k1 : k = 1
  · subst k1; rfl
  by_cases k10 : k = 10
  · subst k10; rfl
  by_cases k2 : k = 2
  · subst k2; simp only [dE, h1 (by omega) (by omega)]; rfl
  by_cases k9 : k = 9
  · subst k9; simp only [dE, h1 (by omega) (by omega)]; rfl
  by_cases k8 : k < 9
  · rw [dE_i (by omega) k8, dE_i (by omega) k8, h1 (by omega) (by omega)]
  by_cases k38 : k < 38
  · obtain ⟨i, rfl⟩ : ∃ i, k = 11 + i := ⟨k - 11, by omega⟩
    rw [dE_r (by omega), dE_r (by omega)]
    have := h2 (by omega) k38
    rw [show 11 + i - 11 = i by omega] at this
    rw [this]
  · obtain ⟨i, rfl⟩ : ∃ i, k = 38 + i := ⟨k - 38, by omega⟩
    rw [dE_s, dE_s]
    have := h3 (by omega)
    rw [show 38 + i - 38 = i by omega] at this
    rw [this]
theorem TX3_1 (k : Nat) : (TX3 k).1 = RX3 := by
  unfold TX3
  split <;> rfl
section VD
variable {p : Program} {l : Launch} {e : Env} {R : Room} {s : State} {m : MethodId} {args : Array Value} {below : List Frame} {meth : Method} {c : Code} {H : Heap} {locs : List Loc} {cells slots : Nat} {Q : State → Prop}
variable {cc : ByteArray} {pc : Nat} {ls : Array Slot} {rest : List Value} {D : va_G} {A : Nat → Prop} {H0 : Heap} {cy : Nat → ClassId} {ad : Nat → Nat} {S : DS} {X : va_W}
theorem rD_get (hexec : p.tables.exec = Jvm.exec) (hb : c.code = cc) {own : String} {Ts : List Cond} {index : Nat} (hts : ∀ w ∈ Ts, w.before args s = true) (hin : ∀ w ∈ u_ws RX3 TX3 12, w ∈ Ts) (hown : s.vm.findClass own = some m.cls) (hK : va_K D vwCl (tyW cy) s) (hP : va_P D vwCl (wD cy ad S ++ X) H) (k : Nat) {v : Value} (hk : k < 12) (hv : (dFs ad S)[k]? = some v) (hm : Cond.fieldLink own index RX3 (TX3 k).2.1 (TX3 k).2.2.1 ∈ Ts) (hdg : decode cc pc = .ok (.getfield index, 3))
    (kk : W p l e R s m args below meth c H locs cells slots Q (F0 m (pc + 3) ls (v :: rest))) : W p l e R s m args below meth c H locs cells slots Q (F0 m pc ls (.ref (ad 0) :: rest)) :=
  va_get (ci := 3) (C := RX3) (T := TX3) (N := 12) hexec hb hts hin hown hK hP 0 (wX_get (by decide)) rfl k hk (hts _ hm) (fun x h => by rw [TX3_1] at h; exact h) hv hdg kk
theorem rD_putSc (hexec : p.tables.exec = Jvm.exec) (hb : c.code = cc) {own : String} {Ts : List Cond} {index : Nat} (hts : ∀ w ∈ Ts, w.before args s = true) (hin : ∀ w ∈ u_ws RX3 TX3 12, w ∈ Ts) (hown : s.vm.findClass own = some m.cls) (hK : va_K D vwCl (tyW cy) s) (hP : va_P D vwCl (wD cy ad S ++ X) H) (hD : va_D A (wD cy ad S ++ X)) (hS : va_S A H0 H locs) {v : Int64} (hm : Cond.fieldLink own index RX3 "scale" "J" ∈ Ts) (hdg : decode cc pc = .ok (.putfield index, 3))
    (kk : ∀ (H : Heap) (locs : List Loc), va_P D vwCl (wD cy ad (sSc S v) ++ X) H → va_D A (wD cy ad (sSc S v) ++ X) → va_S A H0 H locs → W p l e R s m args below meth c H locs cells slots Q (F0 m (pc + 3) ls rest)) : W p l e R s m args below meth c H locs cells slots Q (F0 m pc ls (.long v :: .ref (ad 0) :: rest)) := by
  refine va_put (ty := .long) (ci := 3) (C := RX3) (T := TX3) (N := 12) hexec hb hts hin tyX3 tyX3_ok nmX3 hown hK hP hD hS 0 (wX_get (by decide)) rfl 1 (by decide) (hts _ hm) (fun x h => h) rfl rfl rfl rfl (by show 1 < 12; decide) hdg (fun H1 locs1 a1 a2 a3 => ?_)
  have e1 : (wD cy ad S ++ X).set 0 (ad 0, .inr (3, (dFs ad S).set 1 (.long v))) = wD cy ad (sSc S v) ++ X := wX_set (by decide) rfl (fun j _ h0 => dE_c (fun h => absurd h h0) (fun _ _ => rfl) (fun _ _ => rfl) (fun _ => rfl))
  exact kk H1 locs1 (e1 ▸ a1) (e1 ▸ a2) a3
theorem rD_putCt (hexec : p.tables.exec = Jvm.exec) (hb : c.code = cc) {own : String} {Ts : List Cond} {index : Nat} (hts : ∀ w ∈ Ts, w.before args s = true) (hin : ∀ w ∈ u_ws RX3 TX3 12, w ∈ Ts) (hown : s.vm.findClass own = some m.cls) (hK : va_K D vwCl (tyW cy) s) (hP : va_P D vwCl (wD cy ad S ++ X) H) (hD : va_D A (wD cy ad S ++ X)) (hS : va_S A H0 H locs) {v : Int32} (hm : Cond.fieldLink own index RX3 "countedLevels" "I" ∈ Ts) (hdg : decode cc pc = .ok (.putfield index, 3))
    (kk : ∀ (H : Heap) (locs : List Loc), va_P D vwCl (wD cy ad (sCt S v) ++ X) H → va_D A (wD cy ad (sCt S v) ++ X) → va_S A H0 H locs → W p l e R s m args below meth c H locs cells slots Q (F0 m (pc + 3) ls rest)) : W p l e R s m args below meth c H locs cells slots Q (F0 m pc ls (.int v :: .ref (ad 0) :: rest)) := by
  refine va_put (ty := .int) (ci := 3) (C := RX3) (T := TX3) (N := 12) hexec hb hts hin tyX3 tyX3_ok nmX3 hown hK hP hD hS 0 (wX_get (by decide)) rfl 11 (by decide) (hts _ hm) (fun x h => h) rfl rfl rfl rfl (by show 11 < 12; decide) hdg (fun H1 locs1 a1 a2 a3 => ?_)
  have e1 : (wD cy ad S ++ X).set 0 (ad 0, .inr (3, (dFs ad S).set 11 (.int v))) = wD cy ad (sCt S v) ++ X := wX_set (by decide) rfl (fun j _ h0 => dE_c (fun h => absurd h h0) (fun _ _ => rfl) (fun _ _ => rfl) (fun _ => rfl))
  exact kk H1 locs1 (e1 ▸ a1) (e1 ▸ a2) a3
/-- an array of ints is read (3 .. 8; 9; 2 the booleans) -/
theorem rD_ild (hexec : p.tables.exec = Jvm.exec) (hb : c.code = cc) (hK : va_K D vwCl (tyW cy) s) (hP : va_P D vwCl (wD cy ad S ++ X) H) (k : Nat) (h3 : 3 ≤ k) (h9 : k < 9) {i : Nat} (hi : i < 27) (hdg : decode cc pc = .ok (.iaload, 1)) (kk : W p l e R s m args below meth c H locs cells slots Q (F0 m (pc + 1) ls (.int (dI S k i) :: rest))) : W p l e R s m args below meth c H locs cells slots Q (F0 m pc ls (.int (nI i) :: .ref (ad k) :: rest)) :=
  va_iald hexec hb hK hP k 1 ((wX_get (by omega)).trans (by rw [dE_i h3 h9])) rfl (vp_in_nI hi (by decide)) hdg (by rw [nI_clamp (by omega)]; exact kk)
theorem rD_ild9 (hexec : p.tables.exec = Jvm.exec) (hb : c.code = cc) (hK : va_K D vwCl (tyW cy) s) (hP : va_P D vwCl (wD cy ad S ++ X) H) {i : Nat} (hi : i < 6) (hdg : decode cc pc = .ok (.iaload, 1)) (kk : W p l e R s m args below meth c H locs cells slots Q (F0 m (pc + 1) ls (.int (dI S 9 i) :: rest))) : W p l e R s m args below meth c H locs cells slots Q (F0 m pc ls (.int (nI i) :: .ref (ad 9) :: rest)) :=
  va_iald hexec hb hK hP 9 1 (wX_get (by decide)) rfl (vp_in_nI hi (by decide)) hdg (by rw [nI_clamp (by omega)]; exact kk)
theorem rD_zld (hexec : p.tables.exec = Jvm.exec) (hb : c.code = cc) (hK : va_K D vwCl (tyW cy) s) (hP : va_P D vwCl (wD cy ad S ++ X) H) {i : Nat} (hi : i < 27) (hdg : decode cc pc = .ok (.baload, 1)) (kk : W p l e R s m args below meth c H locs cells slots Q (F0 m (pc + 1) ls (.int (dI S 2 i) :: rest))) : W p l e R s m args below meth c H locs cells slots Q (F0 m pc ls (.int (nI i) :: .ref (ad 2) :: rest)) :=
  va_zald hexec hb hK hP 2 3 (wX_get (by decide)) rfl (vp_in_nI hi (by decide)) hdg (by rw [nI_clamp (by omega)]; exact kk)
theorem rD_ist (hexec : p.tables.exec = Jvm.exec) (hb : c.code = cc) (hK : va_K D vwCl (tyW cy) s) (hP : va_P D vwCl (wD cy ad S ++ X) H) (hD : va_D A (wD cy ad S ++ X)) (hS : va_S A H0 H locs) (k : Nat) (h3 : 3 ≤ k) (h9 : k < 9) {i : Nat} {x : Int32} (hi : i < 27) (hdg : decode cc pc = .ok (.iastore, 1)) (kk : ∀ (H : Heap) (locs : List Loc), va_P D vwCl (wD cy ad (sI S k i x) ++ X) H → va_D A (wD cy ad (sI S k i x) ++ X) → va_S A H0 H locs → W p l e R s m args below meth c H locs cells slots Q (F0 m (pc + 1) ls rest)) : W p l e R s m args below meth c H locs cells slots Q (F0 m pc ls (.int x :: .int (nI i) :: .ref (ad k) :: rest)) := by
  refine va_iast hexec hb hK hP hD hS k 1 ((wX_get (by omega)).trans (by rw [dE_i h3 h9])) rfl (vp_in_nI hi (by decide)) hdg (fun H1 locs1 a1 a2 a3 => ?_)
  rw [nI_clamp (by omega)] at a1 a2
  have e1 : (wD cy ad S ++ X).set k (ad k, .inl (cy 1, 27, .inl (upd (dI S k) i x))) = wD cy ad (sI S k i x) ++ X := wX_set (by omega) (by rw [dE_i h3 h9]; exact congrArg (fun f => (Sum.inl (cy 1, 27, Sum.inl f) : va_E)) (uR_s (dI S) k _)) (fun j _ h0 => dE_c (fun _ => ⟨rfl, rfl⟩) (fun _ _ => uR_n h0) (fun _ _ => rfl) (fun _ => rfl))
  exact kk H1 locs1 (e1 ▸ a1) (e1 ▸ a2) a3
theorem rD_ist9 (hexec : p.tables.exec = Jvm.exec) (hb : c.code = cc) (hK : va_K D vwCl (tyW cy) s) (hP : va_P D vwCl (wD cy ad S ++ X) H) (hD : va_D A (wD cy ad S ++ X)) (hS : va_S A H0 H locs) {i : Nat} {x : Int32} (hi : i < 6) (hdg : decode cc pc = .ok (.iastore, 1)) (kk : ∀ (H : Heap) (locs : List Loc), va_P D vwCl (wD cy ad (sI S 9 i x) ++ X) H → va_D A (wD cy ad (sI S 9 i x) ++ X) → va_S A H0 H locs → W p l e R s m args below meth c H locs cells slots Q (F0 m (pc + 1) ls rest)) : W p l e R s m args below meth c H locs cells slots Q (F0 m pc ls (.int x :: .int (nI i) :: .ref (ad 9) :: rest)) := by
  refine va_iast hexec hb hK hP hD hS 9 1 (wX_get (by decide)) rfl (vp_in_nI hi (by decide)) hdg (fun H1 locs1 a1 a2 a3 => ?_)
  rw [nI_clamp (by omega)] at a1 a2
  have e1 : (wD cy ad S ++ X).set 9 (ad 9, .inl (cy 1, 6, .inl (upd (dI S 9) i x))) = wD cy ad (sI S 9 i x) ++ X := wX_set (by omega) (congrArg (fun f => (Sum.inl (cy 1, 6, Sum.inl f) : va_E)) (uR_s (dI S) 9 _)) (fun j _ h0 => dE_c (fun _ => ⟨rfl, rfl⟩) (fun _ _ => uR_n h0) (fun _ _ => rfl) (fun _ => rfl))
  exact kk H1 locs1 (e1 ▸ a1) (e1 ▸ a2) a3
theorem rD_zst (hexec : p.tables.exec = Jvm.exec) (hb : c.code = cc) (hK : va_K D vwCl (tyW cy) s) (hP : va_P D vwCl (wD cy ad S ++ X) H) (hD : va_D A (wD cy ad S ++ X)) (hS : va_S A H0 H locs) {i : Nat} {x : Int32} (hi : i < 27) (hx : vp_nar .boolean x = x) (hdg : decode cc pc = .ok (.bastore, 1)) (kk : ∀ (H : Heap) (locs : List Loc), va_P D vwCl (wD cy ad (sI S 2 i x) ++ X) H → va_D A (wD cy ad (sI S 2 i x) ++ X) → va_S A H0 H locs → W p l e R s m args below meth c H locs cells slots Q (F0 m (pc + 1) ls rest)) : W p l e R s m args below meth c H locs cells slots Q (F0 m pc ls (.int x :: .int (nI i) :: .ref (ad 2) :: rest)) := by
  refine va_zast hexec hb hK hP hD hS 2 3 (wX_get (by decide)) rfl (vp_in_nI hi (by decide)) hdg (fun H1 locs1 a1 a2 a3 => ?_)
  rw [nI_clamp (by omega)] at a1 a2
  rw [hx] at a1 a2
  have e1 : (wD cy ad S ++ X).set 2 (ad 2, .inl (cy 3, 27, .inl (upd (dI S 2) i x))) = wD cy ad (sI S 2 i x) ++ X := wX_set (by omega) (congrArg (fun f => (Sum.inl (cy 3, 27, Sum.inl f) : va_E)) (uR_s (dI S) 2 _)) (fun j _ h0 => dE_c (fun _ => ⟨rfl, rfl⟩) (fun _ _ => uR_n h0) (fun _ _ => rfl) (fun _ => rfl))
  exact kk H1 locs1 (e1 ▸ a1) (e1 ▸ a2) a3
theorem rD_aald {q n : Nat} {f : Nat → Nat} (hexec : p.tables.exec = Jvm.exec) (hb : c.code = cc) (hK : va_K D vwCl (tyW cy) s) (hP : va_P D vwCl (wD cy ad S ++ X) H) (hq : (wD cy ad S ++ X)[q]? = some (ad q, .inl (cy 7, n, .inr (.inr (.inr (.inr (fun i => some (f i)))))))) {i : Nat} (hi : i < n) (hn9 : n < 2 ^ 31) (hdg : decode cc pc = .ok (.aaload, 1)) (kk : W p l e R s m args below meth c H locs cells slots Q (F0 m (pc + 1) ls (.ref (f i) :: rest))) : W p l e R s m args below meth c H locs cells slots Q (F0 m pc ls (.int (nI i) :: .ref (ad q) :: rest)) := by
  have hv : vp_in (nI i) n := vp_in_nI hi hn9
  have hc : (nI i).toNatClampNeg = i := nI_clamp (by omega)
  exact W.aald (v := va_rf (some (f i))) (ty := .array .long) hexec hb (hP q _ hq) ((hK.2 7 _ rfl).1 n (fun j => va_rf (some (f j)))) rfl (fun q => by cases q) (by show ¬ (nI i < 0 ∨ (arrV _ _ _).slots.size ≤ _); rw [arrV_size]; exact hv) (by show (arrV _ _ _).slots[_]? = _; rw [hc, arrV_read _ _ hi]) rfl rfl hdg kk
theorem rD_row (hexec : p.tables.exec = Jvm.exec) (hb : c.code = cc) (hK : va_K D vwCl (tyW cy) s) (hP : va_P D vwCl (wD cy ad S ++ X) H) {i : Nat} (hi : i < 27) (hdg : decode cc pc = .ok (.aaload, 1)) (kk : W p l e R s m args below meth c H locs cells slots Q (F0 m (pc + 1) ls (.ref (ad (11 + i)) :: rest))) : W p l e R s m args below meth c H locs cells slots Q (F0 m pc ls (.int (nI i) :: .ref (ad 1) :: rest)) :=
  rD_aald (q := 1) (f := fun i => ad (11 + i)) hexec hb hK hP (wX_get (by decide)) hi (by decide) hdg kk
theorem rD_slo (hexec : p.tables.exec = Jvm.exec) (hb : c.code = cc) (hK : va_K D vwCl (tyW cy) s) (hP : va_P D vwCl (wD cy ad S ++ X) H) {i : Nat} (hi : i < 5) (hdg : decode cc pc = .ok (.aaload, 1)) (kk : W p l e R s m args below meth c H locs cells slots Q (F0 m (pc + 1) ls (.ref (ad (38 + i)) :: rest))) : W p l e R s m args below meth c H locs cells slots Q (F0 m pc ls (.int (nI i) :: .ref (ad 10) :: rest)) :=
  rD_aald (q := 10) (f := fun i => ad (38 + i)) hexec hb hK hP (wX_get (by decide)) hi (by decide) hdg kk
theorem wD_r {i : Nat} (h : i < 27) : (wD cy ad S ++ X)[11 + i]? = some (ad (11 + i), .inl (cy 2, 7, .inr (.inl (dRo S i)))) := (wX_get (by omega)).trans (by rw [dE_r h])
theorem wD_s {i : Nat} (h : i < 5) : (wD cy ad S ++ X)[38 + i]? = some (ad (38 + i), .inl (cy 2, 6, .inr (.inl (dSl S i)))) := (wX_get (by omega)).trans (by rw [dE_s])
theorem rD_lld (hexec : p.tables.exec = Jvm.exec) (hb : c.code = cc) (hK : va_K D vwCl (tyW cy) s) (hP : va_P D vwCl (wD cy ad S ++ X) H) {n : Nat} (hn : n < 27) {i : Nat} (hi : i < 7) (hdg : decode cc pc = .ok (.laload, 1)) (kk : W p l e R s m args below meth c H locs cells slots Q (F0 m (pc + 1) ls (.long (dRo S n i) :: rest))) : W p l e R s m args below meth c H locs cells slots Q (F0 m pc ls (.int (nI i) :: .ref (ad (11 + n)) :: rest)) :=
  va_lald hexec hb hK hP (11 + n) 2 (wD_r hn) rfl (vp_in_nI hi (by decide)) hdg (by rw [nI_clamp (by omega)]; exact kk)
theorem rD_sld (hexec : p.tables.exec = Jvm.exec) (hb : c.code = cc) (hK : va_K D vwCl (tyW cy) s) (hP : va_P D vwCl (wD cy ad S ++ X) H) {n : Nat} (hn : n < 5) {i : Nat} (hi : i < 6) (hdg : decode cc pc = .ok (.laload, 1)) (kk : W p l e R s m args below meth c H locs cells slots Q (F0 m (pc + 1) ls (.long (dSl S n i) :: rest))) : W p l e R s m args below meth c H locs cells slots Q (F0 m pc ls (.int (nI i) :: .ref (ad (38 + n)) :: rest)) :=
  va_lald hexec hb hK hP (38 + n) 2 (wD_s hn) rfl (vp_in_nI hi (by decide)) hdg (by rw [nI_clamp (by omega)]; exact kk)
theorem rD_lst (hexec : p.tables.exec = Jvm.exec) (hb : c.code = cc) (hK : va_K D vwCl (tyW cy) s) (hP : va_P D vwCl (wD cy ad S ++ X) H) (hD : va_D A (wD cy ad S ++ X)) (hS : va_S A H0 H locs) {n : Nat} (hn : n < 27) {i : Nat} {x : Int64} (hi : i < 7) (hdg : decode cc pc = .ok (.lastore, 1)) (kk : ∀ (H : Heap) (locs : List Loc), va_P D vwCl (wD cy ad (sRo S n i x) ++ X) H → va_D A (wD cy ad (sRo S n i x) ++ X) → va_S A H0 H locs → W p l e R s m args below meth c H locs cells slots Q (F0 m (pc + 1) ls rest)) : W p l e R s m args below meth c H locs cells slots Q (F0 m pc ls (.long x :: .int (nI i) :: .ref (ad (11 + n)) :: rest)) := by
  refine va_last hexec hb hK hP hD hS (11 + n) 2 (wD_r hn) rfl (vp_in_nI hi (by decide)) hdg (fun H1 locs1 a1 a2 a3 => ?_)
  rw [nI_clamp (by omega)] at a1 a2
  have e1 : (wD cy ad S ++ X).set (11 + n) (ad (11 + n), .inl (cy 2, 7, .inr (.inl (vp_updL (dRo S n) i x)))) = wD cy ad (sRo S n i x) ++ X := wX_set (by omega) (by rw [dE_r hn]; exact congrArg (fun f => (Sum.inl (cy 2, 7, Sum.inr (Sum.inl f)) : va_E)) (uR_s (dRo S) n _)) (fun j _ h0 => dE_c (fun _ => ⟨rfl, rfl⟩) (fun _ _ => rfl) (fun _ _ => uR_n (by omega)) (fun _ => rfl))
  exact kk H1 locs1 (e1 ▸ a1) (e1 ▸ a2) a3
theorem rD_sst (hexec : p.tables.exec = Jvm.exec) (hb : c.code = cc) (hK : va_K D vwCl (tyW cy) s) (hP : va_P D vwCl (wD cy ad S ++ X) H) (hD : va_D A (wD cy ad S ++ X)) (hS : va_S A H0 H locs) {n : Nat} (hn : n < 5) {i : Nat} {x : Int64} (hi : i < 6) (hdg : decode cc pc = .ok (.lastore, 1)) (kk : ∀ (H : Heap) (locs : List Loc), va_P D vwCl (wD cy ad (sSl S n i x) ++ X) H → va_D A (wD cy ad (sSl S n i x) ++ X) → va_S A H0 H locs → W p l e R s m args below meth c H locs cells slots Q (F0 m (pc + 1) ls rest)) : W p l e R s m args below meth c H locs cells slots Q (F0 m pc ls (.long x :: .int (nI i) :: .ref (ad (38 + n)) :: rest)) := by
  refine va_last hexec hb hK hP hD hS (38 + n) 2 (wD_s hn) rfl (vp_in_nI hi (by decide)) hdg (fun H1 locs1 a1 a2 a3 => ?_)
  rw [nI_clamp (by omega)] at a1 a2
  have e1 : (wD cy ad S ++ X).set (38 + n) (ad (38 + n), .inl (cy 2, 6, .inr (.inl (vp_updL (dSl S n) i x)))) = wD cy ad (sSl S n i x) ++ X := wX_set (by omega) (by rw [dE_s]; exact congrArg (fun f => (Sum.inl (cy 2, 6, Sum.inr (Sum.inl f)) : va_E)) (uR_s (dSl S) n _)) (fun j _ h0 => dE_c (fun _ => ⟨rfl, rfl⟩) (fun _ _ => rfl) (fun _ _ => rfl) (fun _ => uR_n (by omega)))
  exact kk H1 locs1 (e1 ▸ a1) (e1 ▸ a2) a3
theorem rD_alen (hexec : p.tables.exec = Jvm.exec) (hb : c.code = cc) (hK : va_K D vwCl (tyW cy) s) (hP : va_P D vwCl (wD cy ad S ++ X) H) {n : Nat} (hn : n < 27) (hdg : decode cc pc = .ok (.arraylength, 1)) (kk : W p l e R s m args below meth c H locs cells slots Q (F0 m (pc + 1) ls (.int (nI 7) :: rest))) : W p l e R s m args below meth c H locs cells slots Q (F0 m pc ls (.ref (ad (11 + n)) :: rest)) :=
  va_alen hexec hb hK hP (11 + n) 2 (wD_r hn) rfl rfl hdg kk
end VD
/-- a method of a Dictionary: its start -/
def dPc (D : va_G) (cy : Nat → ClassId) (ad : Nat → Nat) (X : va_W) (S : DS) (sz : Nat) (As : List Value) : Array Value → State → Prop := va_Pc As (fun U => U.heap.size = sz ∧ va_P D vwCl (wD cy ad S ++ X) U.heap ∧ va_K D vwCl (tyW cy) U ∧ va_D (fun _ => True) (wD cy ad S ++ X))
/-- .. and the world behind it -/
def dB (D : va_G) (cy : Nat → ClassId) (ad : Nat → Nat) (X : va_W) (A : Nat → Prop) (S : DS) (t : State) : Prop := va_P D vwCl (wD cy ad S ++ X) t.heap ∧ va_K D vwCl (tyW cy) t ∧ va_D A (wD cy ad S ++ X)
abbrev dA (cy : Nat → ClassId) (ad : Nat → Nat) (X : va_W) (S : DS) (sz : Nat) : Nat → Prop := va_A (wD cy ad S ++ X) sz
def dQi (D : va_G) (cy : Nat → ClassId) (ad : Nat → Nat) (X : va_W) (S : DS) (sz : Nat) (post : Int32 → DS → Prop) : Array Value → State → Outcome → State → Prop := va_Qi post (dB D cy ad X (dA cy ad X S sz)) (dA cy ad X S sz)
def dQl (D : va_G) (cy : Nat → ClassId) (ad : Nat → Nat) (X : va_W) (S : DS) (sz : Nat) (post : Int64 → DS → Prop) : Array Value → State → Outcome → State → Prop := va_Ql post (dB D cy ad X (dA cy ad X S sz)) (dA cy ad X S sz)
def dQv (D : va_G) (cy : Nat → ClassId) (ad : Nat → Nat) (X : va_W) (S : DS) (sz : Nat) (post : DS → Prop) : Array Value → State → Outcome → State → Prop := va_Qv post (dB D cy ad X (dA cy ad X S sz)) (dA cy ad X S sz)
abbrev rm9 (f n : Nat) : Room := { frames := f, cells := 0, slots := 0, locals := n }
theorem dHead {l : Launch} {y : MethodName} {ws ws' : List Cond} {rm : Room} {cc : ByteArray} {maxL : Nat} {ret : Option FieldType} {D : va_G} {cy : Nat → ClassId} {ad : Nat → Nat} {X : va_W} {S : DS} {sz : Nat} {As : List Value} {Qc : Array Value → State → Outcome → State → Prop} {mc ms : Nat} {free : Addr → Prop} (hy : plainName y.cls = true) (hw : ws = Cond.code y cc maxL ret :: ws') (hn : (lg_sl As).length ≤ maxL)
    (body : ∀ (p : Program) (e : Env) (s : State) (m : MethodId) (below : List Frame) (meth : Method) (c : Code) (ls : Array Slot), p.tables.exec = Jvm.exec → c.code = cc → meth.sig.returnType = ret → meth.locks = false → c.maxLocals = maxL → s.vm.findClass y.cls = some m.cls → (∀ w ∈ ws, w.before As.toArray s = true) → s.heap.size = sz → va_P D vwCl (wD cy ad S ++ X) s.heap → va_K D vwCl (tyW cy) s → va_D (dA cy ad X S sz) (wD cy ad S ++ X) → va_S (dA cy ad X S sz) s.heap s.heap [] → (∀ q : Nat, s.heap.size ≤ q → dA cy ad X S sz q) → lv_has ls maxL (lv_args 0 As) →
      W p l e (headSpec ws rm).room s m As.toArray below meth c s.heap [] 0 0 (MQ below Qc As.toArray s mc ms free) (F0 m 0 ls [])) : Met l y ws rm (dPc D cy ad X S sz As) Qc mc ms free := by
  refine Met.ofW (cc := cc) (maxL := maxL) (ret := ret) hy hw ?_
  intro p e s m args below meth c s₁ B hml hv
  obtain ⟨rfl, hsz, hP, hK, hD0⟩ := hv
  rw [lg_entry_eq]
  exact body p e s m below meth c _ B.exec B.bytes B.returns B.notSynchronized hml (findClass_of_methodNamed B.named) (atoms_spec (ws := ws) B.pre) hsz hP hK (hsz ▸ hD0.self) va_S.rf (fun q h => Or.inr (hsz ▸ h)) (lv_entry As hn)
theorem dBlind {D : va_G} {cy : Nat → ClassId} {ad : Nat → Nat} {X : va_W} {S : DS} {sz : Nat} {As : List Value} : FrameBlind (dPc D cy ad X S sz As) := fun a U g mk q => by
  obtain ⟨q0, q1, qP, qK, qD⟩ := q
  exact ⟨q0, q1, qP, va_K.moved (u := U) (U := U.calling g mk a) (Vm.Alike.refl U.vm) qK, qD⟩
section VDC
variable {p : Program} {l : Launch} {e : Env} {R : Room} {s : State} {m : MethodId} {args : Array Value} {below : List Frame} {meth : Method} {c : Code} {H : Heap} {locs : List Loc} {cells slots : Nat} {Q : State → Prop}
variable {cc : ByteArray} {pc : Nat} {ls : Array Slot} {rest : List Value} {D : va_G} {A : Nat → Prop} {H0 : Heap} {cy : Nat → ClassId} {ad : Nat → Nat} {S : DS} {X : va_W}
theorem dFree (hD : va_D A (wD cy ad S ++ X)) (hS : va_S A H0 H locs) (hA : ∀ q, H0.size ≤ q → A q) : ∀ q, dA cy ad X S H.size q → A q := fun q h => by
  rcases h with ⟨k, e, h⟩ | h
  · exact hD.2 k (q, e) h
  · exact hA q (Nat.le_trans hS.1 h)
/-- behind a call of a method of the same Dictionary -/
theorem dBack {S' : DS} {t : State} {H1 : Heap} (hD : va_D A (wD cy ad S ++ X)) (hS : va_S A H0 H locs) (hA : ∀ q, H0.size ≤ q → A q) (ht : t.heap = H1) (hB : dB D cy ad X (dA cy ad X S H.size) S' t) : va_P D vwCl (wD cy ad S' ++ X) H1 ∧ va_D A (wD cy ad S' ++ X) := by
  obtain ⟨h1, -, h3⟩ := hB
  exact ⟨ht ▸ h1, h3.weaken (fun _ q _ h => dFree hD hS hA q.1 h)⟩
variable {y : MethodName} {bytes : ByteArray} {maxL nL n index : Nat} {ws ws' : List Cond} {rm : Room} {Ts : List Cond} {own : String} {As : List Value}
theorem dCalli {ret : Option FieldType} {post : Int32 → DS → Prop} (hexec : p.tables.exec = Jvm.exec) (hb : c.code = cc) (hml : c.maxLocals = nL) (hown : s.vm.findClass own = some m.cls) (hts : ∀ w ∈ Ts, w.before args s = true) (hK : va_K D vwCl (tyW cy) s) (hP : va_P D vwCl (wD cy ad S ++ X) H) (hD : va_D A (wD cy ad S ++ X)) (hS : va_S A H0 H locs) (hA : ∀ q, H0.size ≤ q → A q) (hls : ls.size = nL)
    (hM : Met l y ws rm (dPc D cy ad X S H.size (.ref (ad 0) :: As)) (dQi D cy ad X S H.size post) 0 0 (dA cy ad X S H.size)) (cw : CallW R s args own RX3 index y bytes maxL ret ws rm 0 0 n) (hn : As.length = n) {st : List Value} (hst : st = As.reverse ++ .ref (ad 0) :: rest) (hW : (rest.map fun v => v.category).sum ≤ 8) (hf : cells + 0 ≤ R.cells ∧ slots + 0 ≤ R.slots) (hdg : decode cc pc = .ok (.invokevirtual index, 3))
    (kk : ∀ (r : Int32) (S' : DS) (H : Heap) (locs : List Loc), post r S' → va_P D vwCl (wD cy ad S' ++ X) H → va_D A (wD cy ad S' ++ X) → va_S A H0 H locs → W p l e R s m args below meth c H locs cells slots Q (F0 m (pc + 3) ls (.int r :: rest))) : W p l e R s m args below meth c H locs cells slots Q (F0 m pc ls st) := by
  refine va_calli (va_runV (As := As) (rest := rest) ⟨hexec, hb, hml, hown, hts⟩ hM cw ⟨dBlind, va_recv hK hP (ci := 3) (q0 := 0) (fs := dFs ad S) rfl (wX_get (by decide)), fun U hU hW => ⟨rfl, by rw [hU], by rw [hU]; exact hP, va_K.moved hW.alike hK, hD.weaken (fun _ _ _ _ => trivial)⟩⟩ rfl hn hls hst (lv_room hW) hdg hf) hS (fun q _ h => dFree hD hS hA q h) (dFree hD hS hA) (fun r S' t H1 locs1 ht hvm hp hB hz hk hS1 => ?_)
  obtain ⟨h1, h2⟩ := dBack hD hS hA ht hB
  exact kk r S' H1 locs1 hp h1 h2 hS1
theorem dCalll {post : Int64 → DS → Prop} (hexec : p.tables.exec = Jvm.exec) (hb : c.code = cc) (hml : c.maxLocals = nL) (hown : s.vm.findClass own = some m.cls) (hts : ∀ w ∈ Ts, w.before args s = true) (hK : va_K D vwCl (tyW cy) s) (hP : va_P D vwCl (wD cy ad S ++ X) H) (hD : va_D A (wD cy ad S ++ X)) (hS : va_S A H0 H locs) (hA : ∀ q, H0.size ≤ q → A q) (hls : ls.size = nL)
    (hM : Met l y ws rm (dPc D cy ad X S H.size (.ref (ad 0) :: As)) (dQl D cy ad X S H.size post) 0 0 (dA cy ad X S H.size)) (cw : CallW R s args own RX3 index y bytes maxL (some .long) ws rm 0 0 n) (hn : As.length = n) {st : List Value} (hst : st = As.reverse ++ .ref (ad 0) :: rest) (hW : (rest.map fun v => v.category).sum ≤ 8) (hf : cells + 0 ≤ R.cells ∧ slots + 0 ≤ R.slots) (hdg : decode cc pc = .ok (.invokevirtual index, 3))
    (kk : ∀ (r : Int64) (S' : DS) (H : Heap) (locs : List Loc), post r S' → va_P D vwCl (wD cy ad S' ++ X) H → va_D A (wD cy ad S' ++ X) → va_S A H0 H locs → W p l e R s m args below meth c H locs cells slots Q (F0 m (pc + 3) ls (.long r :: rest))) : W p l e R s m args below meth c H locs cells slots Q (F0 m pc ls st) := by
  refine va_calll (va_runV (As := As) (rest := rest) ⟨hexec, hb, hml, hown, hts⟩ hM cw ⟨dBlind, va_recv hK hP (ci := 3) (q0 := 0) (fs := dFs ad S) rfl (wX_get (by decide)), fun U hU hW => ⟨rfl, by rw [hU], by rw [hU]; exact hP, va_K.moved hW.alike hK, hD.weaken (fun _ _ _ _ => trivial)⟩⟩ rfl hn hls hst (lv_room hW) hdg hf) hS (fun q _ h => dFree hD hS hA q h) (dFree hD hS hA) (fun r S' t H1 locs1 ht hvm hp hB hz hk hS1 => ?_)
  obtain ⟨h1, h2⟩ := dBack hD hS hA ht hB
  exact kk r S' H1 locs1 hp h1 h2 hS1
theorem dCallv {post : DS → Prop} (hexec : p.tables.exec = Jvm.exec) (hb : c.code = cc) (hml : c.maxLocals = nL) (hown : s.vm.findClass own = some m.cls) (hts : ∀ w ∈ Ts, w.before args s = true) (hK : va_K D vwCl (tyW cy) s) (hP : va_P D vwCl (wD cy ad S ++ X) H) (hD : va_D A (wD cy ad S ++ X)) (hS : va_S A H0 H locs) (hA : ∀ q, H0.size ≤ q → A q) (hls : ls.size = nL)
    (hM : Met l y ws rm (dPc D cy ad X S H.size (.ref (ad 0) :: As)) (dQv D cy ad X S H.size post) 0 0 (dA cy ad X S H.size)) (cw : CallW R s args own RX3 index y bytes maxL none ws rm 0 0 n) (hn : As.length = n) {st : List Value} (hst : st = As.reverse ++ .ref (ad 0) :: rest) (hW : (rest.map fun v => v.category).sum ≤ 8) (hf : cells + 0 ≤ R.cells ∧ slots + 0 ≤ R.slots) (hdg : decode cc pc = .ok (.invokevirtual index, 3))
    (kk : ∀ (S' : DS) (H : Heap) (locs : List Loc), post S' → va_P D vwCl (wD cy ad S' ++ X) H → va_D A (wD cy ad S' ++ X) → va_S A H0 H locs → W p l e R s m args below meth c H locs cells slots Q (F0 m (pc + 3) ls rest)) : W p l e R s m args below meth c H locs cells slots Q (F0 m pc ls st) := by
  refine va_callv (va_runV (As := As) (rest := rest) ⟨hexec, hb, hml, hown, hts⟩ hM cw ⟨dBlind, va_recv hK hP (ci := 3) (q0 := 0) (fs := dFs ad S) rfl (wX_get (by decide)), fun U hU hW => ⟨rfl, by rw [hU], by rw [hU]; exact hP, va_K.moved hW.alike hK, hD.weaken (fun _ _ _ _ => trivial)⟩⟩ rfl hn hls hst (lv_room hW) hdg hf) hS (fun q _ h => dFree hD hS hA q h) (dFree hD hS hA) (fun S' t H1 locs1 ht hvm hp hB hz hk hS1 => ?_)
  obtain ⟨h1, h2⟩ := dBack hD hS hA ht hB
  exact kk S' H1 locs1 hp h1 h2 hS1
end VDC
/-! A static method that looks at its numbers alone: its start, its end, a call of it from any world. -/
abbrev pPc (sz : Nat) (As : List Value) : Array Value → State → Prop := va_Pc As (fun U => U.heap.size = sz)
abbrev pQi (sz : Nat) (post : Int32 → Prop) : Array Value → State → Outcome → State → Prop := va_Qi (fun r (_ : Unit) => post r) (fun _ _ => True) (fun q => sz ≤ q)
abbrev pQl (sz : Nat) (post : Int64 → Prop) : Array Value → State → Outcome → State → Prop := va_Ql (fun r (_ : Unit) => post r) (fun _ _ => True) (fun q => sz ≤ q)
theorem pHead {l : Launch} {y : MethodName} {ws ws' : List Cond} {rm : Room} {cc : ByteArray} {maxL : Nat} {ret : Option FieldType} {sz : Nat} {As : List Value} {Qc : Array Value → State → Outcome → State → Prop} {mc ms : Nat} {free : Addr → Prop} (hy : plainName y.cls = true) (hw : ws = Cond.code y cc maxL ret :: ws') (hn : (lg_sl As).length ≤ maxL)
    (body : ∀ (p : Program) (e : Env) (s : State) (m : MethodId) (below : List Frame) (meth : Method) (c : Code) (ls : Array Slot), p.tables.exec = Jvm.exec → c.code = cc → meth.sig.returnType = ret → meth.locks = false → c.maxLocals = maxL → s.vm.findClass y.cls = some m.cls → (∀ w ∈ ws, w.before As.toArray s = true) → s.heap.size = sz → va_S (fun q => sz ≤ q) s.heap s.heap [] → lv_has ls maxL (lv_args 0 As) →
      W p l e (headSpec ws rm).room s m As.toArray below meth c s.heap [] 0 0 (MQ below Qc As.toArray s mc ms free) (F0 m 0 ls [])) : Met l y ws rm (pPc sz As) Qc mc ms free := by
  refine Met.ofW (cc := cc) (maxL := maxL) (ret := ret) hy hw ?_
  intro p e s m args below meth c s₁ B hml hv
  obtain ⟨rfl, hsz⟩ := hv
  rw [lg_entry_eq]
  exact body p e s m below meth c _ B.exec B.bytes B.returns B.notSynchronized hml (findClass_of_methodNamed B.named) (atoms_spec (ws := ws) B.pre) hsz va_S.rf (lv_entry As hn)
theorem pBlind {sz : Nat} {As : List Value} : FrameBlind (pPc sz As) := fun _ _ _ _ q => q
section VPC
variable {p : Program} {l : Launch} {e : Env} {R : Room} {s : State} {m : MethodId} {args : Array Value} {below : List Frame} {meth : Method} {c : Code} {H : Heap} {locs : List Loc} {cells slots : Nat} {Q : State → Prop}
variable {cc : ByteArray} {pc : Nat} {ls : Array Slot} {rest : List Value} {D : va_G} {A : Nat → Prop} {H0 : Heap} {cl : List vw_C} {ws0 : va_W}
variable {y : MethodName} {bytes : ByteArray} {maxL nL n index : Nat} {ws ws' : List Cond} {rm : Room} {Ts : List Cond} {own : String} {As : List Value}
theorem pCalli {ret : Option FieldType} {post : Int32 → Prop} (hexec : p.tables.exec = Jvm.exec) (hb : c.code = cc) (hml : c.maxLocals = nL) (hown : s.vm.findClass own = some m.cls) (hts : ∀ w ∈ Ts, w.before args s = true) (hP : va_P D cl ws0 H) (hS : va_S A H0 H locs) (hA : ∀ q, H0.size ≤ q → A q) (hls : ls.size = nL)
    (hM : Met l y ws rm (pPc H.size As) (pQi H.size post) 0 0 (fun q => H.size ≤ q)) (cw : CallB R s args own index y bytes maxL ret ws rm 0 0 n ∧ (Cond.static y).before args s = true) (hn : As.length = n) {st : List Value} (hst : st = As.reverse ++ rest) (hW : (rest.map fun v => v.category).sum ≤ 8) (hf : cells + 0 ≤ R.cells ∧ slots + 0 ≤ R.slots) (hdg : decode cc pc = .ok (.invokestatic index, 3))
    (kk : ∀ (r : Int32) (H : Heap) (locs : List Loc), post r → va_P D cl ws0 H → va_S A H0 H locs → W p l e R s m args below meth c H locs cells slots Q (F0 m (pc + 3) ls (.int r :: rest))) : W p l e R s m args below meth c H locs cells slots Q (F0 m pc ls st) := by
  refine va_calli (va_runS (As := As) (rest := rest) ⟨hexec, hb, hml, hown, hts⟩ hM cw ⟨pBlind, fun U hU hW => ⟨rfl, by show U.heap.size = _; rw [hU]⟩⟩ rfl hn hls hst (lv_room hW) hdg hf) hS (fun q h1 h2 => absurd h2 (Nat.not_le.mpr h1)) (fun q h => hA q (Nat.le_trans hS.1 h)) (fun r u t H1 locs1 ht hvm hp hB hz hk hS1 => ?_)
  exact kk r H1 locs1 hp (hP.kept (fun k q hq => hk q.1 (hP k q hq).lt (Nat.not_le.mpr (hP k q hq).lt))) hS1
theorem pCalll {post : Int64 → Prop} (hexec : p.tables.exec = Jvm.exec) (hb : c.code = cc) (hml : c.maxLocals = nL) (hown : s.vm.findClass own = some m.cls) (hts : ∀ w ∈ Ts, w.before args s = true) (hP : va_P D cl ws0 H) (hS : va_S A H0 H locs) (hA : ∀ q, H0.size ≤ q → A q) (hls : ls.size = nL)
    (hM : Met l y ws rm (pPc H.size As) (pQl H.size post) 0 0 (fun q => H.size ≤ q)) (cw : CallB R s args own index y bytes maxL (some .long) ws rm 0 0 n ∧ (Cond.static y).before args s = true) (hn : As.length = n) {st : List Value} (hst : st = As.reverse ++ rest) (hW : (rest.map fun v => v.category).sum ≤ 8) (hf : cells + 0 ≤ R.cells ∧ slots + 0 ≤ R.slots) (hdg : decode cc pc = .ok (.invokestatic index, 3))
    (kk : ∀ (r : Int64) (H : Heap) (locs : List Loc), post r → va_P D cl ws0 H → va_S A H0 H locs → W p l e R s m args below meth c H locs cells slots Q (F0 m (pc + 3) ls (.long r :: rest))) : W p l e R s m args below meth c H locs cells slots Q (F0 m pc ls st) := by
  refine va_calll (va_runS (As := As) (rest := rest) ⟨hexec, hb, hml, hown, hts⟩ hM cw ⟨pBlind, fun U hU hW => ⟨rfl, by show U.heap.size = _; rw [hU]⟩⟩ rfl hn hls hst (lv_room hW) hdg hf) hS (fun q h1 h2 => absurd h2 (Nat.not_le.mpr h1)) (fun q h => hA q (Nat.le_trans hS.1 h)) (fun r u t H1 locs1 ht hvm hp hB hz hk hS1 => ?_)
  exact kk r H1 locs1 hp (hP.kept (fun k q hq => hk q.1 (hP k q hq).lt (Nat.not_le.mpr (hP k q hq).lt))) hS1
end VPC
/-- Long.compare -/
def cmpL (x y : Int64) : Int32 := if 0 ≤ lg_cmp x y then (if ¬ lg_cmp x y = 0 then nI 1 else 0) else -1
