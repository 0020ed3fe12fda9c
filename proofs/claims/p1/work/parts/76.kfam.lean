/-! p1: a variable that is forced to a number: the class (mathematics) -/
theorem lpN_ind {α : Type} {f : Nat → α → α} (P : Nat → α → Prop) : ∀ (n k : Nat) (a : α), P k a → (∀ (j : Nat) (b : α), k ≤ j → j < k + n → P j b → P (j + 1) (f j b)) → P (k + n) (lpN f n k a)
  | 0, _, _, h, _ => h
  | n + 1, k, a, h, hs => by
    rw [lpN_s, show k + (n + 1) = k + 1 + n by omega]
    exact lpN_ind P n (k + 1) (f k a) (hs k a (Nat.le_refl k) (by omega) h) (fun j b h1 h2 hb => hs j b (by omega) (by omega) hb)
theorem lpN_rel {α β : Type} {f : Nat → α → α} {g : Nat → β → β} (P : α → β → Prop) : ∀ (n k : Nat) (a : α) (b : β), P a b → (∀ (j : Nat) (a : α) (b : β), k ≤ j → j < k + n → P a b → P (f j a) (g j b)) → P (lpN f n k a) (lpN g n k b)
  | 0, _, _, _, h, _ => h
  | n + 1, k, a, b, h, hs => by
    rw [lpN_s, lpN_s]
    exact lpN_rel P n (k + 1) (f k a) (g k b) (hs k a b (Nat.le_refl k) (by omega) h) (fun j a b h1 h2 hb => hs j a b (by omega) (by omega) hb)
theorem sI_g {S : DS} {a0 j0 : Nat} {y : Int32} (a j : Nat) : dI (sI S a0 j0 y) a j = if a = a0 ∧ j = j0 then y else dI S a j := by
  show uR (dI S) a0 (upd (dI S a0) j0 y) a j = _
  by_cases h : a = a0
  · subst h
    rw [uR_s]
    show (if j = j0 then y else dI S a j) = _
    by_cases g : j = j0
    · rw [if_pos g, if_pos ⟨rfl, g⟩]
    · rw [if_neg g, if_neg (fun q => g q.2)]
  · rw [uR_n h, if_neg (fun q => h q.1)]
theorem sRo_g {S : DS} {i0 j0 : Nat} {y : Int64} (k c : Nat) : dRo (sRo S i0 j0 y) k c = if k = i0 ∧ c = j0 then y else dRo S k c := by
  show uR (dRo S) i0 (vp_updL (dRo S i0) j0 y) k c = _
  by_cases h : k = i0
  · subst h
    rw [uR_s]
    show (if c = j0 then y else dRo S k c) = _
    by_cases g : c = j0
    · rw [if_pos g, if_pos ⟨rfl, g⟩]
    · rw [if_neg g, if_neg (fun q => g q.2)]
  · rw [uR_n h, if_neg (fun q => h q.1)]
theorem sSl_g {S : DS} {i0 j0 : Nat} {y : Int64} (k c : Nat) : dSl (sSl S i0 j0 y) k c = if k = i0 ∧ c = j0 then y else dSl S k c := by
  show uR (dSl S) i0 (vp_updL (dSl S i0) j0 y) k c = _
  by_cases h : k = i0
  · subst h
    rw [uR_s]
    show (if c = j0 then y else dSl S k c) = _
    by_cases g : c = j0
    · rw [if_pos g, if_pos ⟨rfl, g⟩]
    · rw [if_neg g, if_neg (fun q => g q.2)]
  · rw [uR_n h, if_neg (fun q => h q.1)]
/-- the same but for the rows' last column, what W and V leave out, and slopes -/
def cR (W : Nat → Nat → Prop) (V : Nat → Prop) (S T : DS) : Prop := dSc S = dSc T ∧ dCt S = dCt T ∧ (∀ a j : Nat, W a j → dI S a j = dI T a j) ∧ ∀ k c : Nat, V k → c < 6 → dRo S k c = dRo T k c
def cS (W : Nat → Nat → Prop) (V : Nat → Prop) (S T : DS) : Prop := cR W V S T ∧ ∀ L c : Nat, L < 5 → c < 6 → dSl S L c = dSl T L c
def cWa (a j : Nat) : Prop := 2 ≤ a ∧ a < 10 ∧ ¬ a = 3 ∧ j < 27 ∧ (a = 9 → j < 6)
def cWb (a j : Nat) : Prop := cWa a j ∧ (¬ j = 14 ∨ a = 8)
def cVa (k : Nat) : Prop := k < 27
def cVb (k : Nat) : Prop := k < 27 ∧ ¬ k = 14
theorem cR_mono {W W2 : Nat → Nat → Prop} {V V2 : Nat → Prop} {S T : DS} (h : cR W V S T) (hw : ∀ a j : Nat, W2 a j → W a j) (hv : ∀ k : Nat, V2 k → V k) : cR W2 V2 S T := ⟨h.1, h.2.1, fun a j q => h.2.2.1 a j (hw a j q), fun k c q => h.2.2.2 k c (hv k q)⟩
theorem cR_sI {W : Nat → Nat → Prop} {V : Nat → Prop} {S T : DS} (h : cR W V S T) (a0 j0 : Nat) (y : Int32) : cR (fun a j => W a j ∨ (a = a0 ∧ j = j0)) V (sI S a0 j0 y) (sI T a0 j0 y) := ⟨h.1, h.2.1, fun a j q => by
  rw [sI_g, sI_g]
  by_cases e : a = a0 ∧ j = j0
  · rw [if_pos e, if_pos e]
  · rw [if_neg e, if_neg e]
    exact h.2.2.1 a j (q.resolve_right e), h.2.2.2⟩
theorem cR_sIk {W : Nat → Nat → Prop} {V : Nat → Prop} {S T : DS} (h : cR W V S T) (a0 j0 : Nat) (y : Int32) : cR W V (sI S a0 j0 y) (sI T a0 j0 y) := cR_mono (cR_sI h a0 j0 y) (fun a j q => Or.inl q) (fun k q => q)
theorem cR_sIn {W : Nat → Nat → Prop} {V : Nat → Prop} {S T : DS} (h : cR W V S T) (a0 j0 : Nat) (y y2 : Int32) (hw : ¬ W a0 j0) : cR W V (sI S a0 j0 y) (sI T a0 j0 y2) := ⟨h.1, h.2.1, fun a j q => by
  rw [sI_g, sI_g]
  by_cases e : a = a0 ∧ j = j0
  · obtain ⟨e1, e2⟩ := e
    rw [e1, e2] at q
    exact absurd q hw
  · rw [if_neg e, if_neg e]
    exact h.2.2.1 a j q, h.2.2.2⟩
theorem cR_sRo {W : Nat → Nat → Prop} {V : Nat → Prop} {S T : DS} (h : cR W V S T) (i0 j0 : Nat) {y y2 : Int64} (hv : j0 < 6 → y = y2) : cR W V (sRo S i0 j0 y) (sRo T i0 j0 y2) := ⟨h.1, h.2.1, h.2.2.1, fun k c q hc => by
  rw [sRo_g, sRo_g]
  by_cases e : k = i0 ∧ c = j0
  · rw [if_pos e, if_pos e, hv (by omega)]
  · rw [if_neg e, if_neg e]
    exact h.2.2.2 k c q hc⟩
theorem cR_sSc {W : Nat → Nat → Prop} {V : Nat → Prop} {S T : DS} (h : cR W V S T) (y : Int64) : cR W V (sSc S y) (sSc T y) := ⟨rfl, h.2.1, h.2.2.1, h.2.2.2⟩
/-- slopes alone may differ -/
def sameS (S T : DS) : Prop := dRo T = dRo S ∧ dSc T = dSc S ∧ dI T = dI S ∧ dCt T = dCt S
theorem kAdd_same {S : DS} {lv : Int32} {k : Nat} {f : Int32} : sameS S (kAdd S lv k f) := by
  unfold kAdd
  split
  · exact ⟨rfl, rfl, rfl, rfl⟩
  split
  · exact ⟨rfl, rfl, rfl, rfl⟩
  split
  · exact ⟨rfl, rfl, rfl, rfl⟩
  exact lpN_ind (fun _ T => sameS S T) 6 0 S ⟨rfl, rfl, rfl, rfl⟩ (fun j b _ _ h => h)
/-- slopes begin at 0 -/
theorem kZ_sl {S : DS} : sameS S (lpN kZ2 5 0 S) ∧ ∀ (L c : Nat), L < 5 → c < 6 → dSl (lpN kZ2 5 0 S) L c = 0 := by
  have key := lpN_ind (f := kZ2) (fun i T => sameS S T ∧ ∀ (L c : Nat), L < i → c < 6 → dSl T L c = 0) 5 0 S ⟨⟨rfl, rfl, rfl, rfl⟩, fun L c h _ => absurd h (by omega)⟩ (fun i b _ _ h => by
    have k2 := lpN_ind (f := kZ1 i) (fun j T => sameS S T ∧ (∀ (L c : Nat), L < i → c < 6 → dSl T L c = 0) ∧ ∀ c : Nat, c < j → dSl T i c = 0) 6 0 b ⟨h.1, h.2, fun c hc => absurd hc (by omega)⟩ (fun j T _ _ g => by
      refine ⟨g.1, fun L c hL hc => ?_, fun c hc => ?_⟩
      · show dSl (sSl T i j 0) L c = 0
        rw [sSl_g, if_neg (fun q => by omega)]
        exact g.2.1 L c hL hc
      · show dSl (sSl T i j 0) i c = 0
        rw [sSl_g]
        by_cases h1 : i = i ∧ c = j
        · rw [if_pos h1]
        · rw [if_neg h1]
          exact g.2.2 c (by omega))
    refine ⟨k2.1, fun L c hL hc => ?_⟩
    by_cases h1 : L = i
    · rw [h1]
      exact k2.2.2 c (by omega)
    · exact k2.2.1 L c (by omega) hc)
  exact ⟨key.1, fun L c hL hc => key.2 L c (by omega) hc⟩
theorem kFind_same {S : DS} {sg : Int32} : sameS S (kFind S (-1) sg) := by
  unfold kFind
  rw [if_pos rfl]
  refine lpN_ind (fun _ T => sameS S T) 27 0 _ kZ_sl.1 (fun j b _ _ h => ?_)
  unfold kF1
  split
  · exact h
  split
  · exact h
  split
  · exact h
  · obtain ⟨a1, a2, a3, a4⟩ := kAdd_same (S := b) (lv := dI b 4 j) (k := j) (f := if dI b 7 j ≤ 0 then -(dI b 6 j) else dI b 5 j)
    exact ⟨a1.trans h.1, a2.trans h.2.1, a3.trans h.2.2.1, a4.trans h.2.2.2⟩
theorem cS_z {W : Nat → Nat → Prop} {V : Nat → Prop} {S T : DS} (h : cR W V S T) : cS W V (lpN kZ2 5 0 S) (lpN kZ2 5 0 T) := by
  obtain ⟨⟨a1, a2, a3, a4⟩, a5⟩ := kZ_sl (S := S)
  obtain ⟨⟨b1, b2, b3, b4⟩, b5⟩ := kZ_sl (S := T)
  exact ⟨⟨a2.trans (h.1.trans b2.symm), a4.trans (h.2.1.trans b4.symm), fun a j q => by rw [a3, b3]; exact h.2.2.1 a j q, fun k c q hc => by rw [a1, b1]; exact h.2.2.2 k c q hc⟩, fun L c hL hc => by rw [a5 L c hL hc, b5 L c hL hc]⟩
theorem cS_add {W : Nat → Nat → Prop} {V : Nat → Prop} {S T : DS} (h : cS W V S T) {k : Nat} (hk : V k) (lv f : Int32) : cS W V (kAdd S lv k f) (kAdd T lv k f) := by
  unfold kAdd
  by_cases h1 : f = 0
  · rw [if_pos h1, if_pos h1]; exact h
  by_cases h2 : lv < 0
  · rw [if_neg h1, if_pos h2, if_neg h1, if_pos h2]; exact h
  by_cases h3 : nI 4 < lv
  · rw [if_neg h1, if_neg h2, if_pos h3, if_neg h1, if_neg h2, if_pos h3]; exact h
  rw [if_neg h1, if_neg h2, if_neg h3, if_neg h1, if_neg h2, if_neg h3]
  refine lpN_rel (cS W V) 6 0 S T h (fun j a b _ hj q => ⟨⟨q.1.1, q.1.2.1, q.1.2.2.1, q.1.2.2.2⟩, fun L c hL hc => ?_⟩)
  unfold kAdd1
  rw [sSl_g, sSl_g]
  by_cases e : L = lv.toNatClampNeg ∧ c = j
  · rw [if_pos e, if_pos e, q.1.2.2.2 k j hk (by omega), q.2 lv.toNatClampNeg j (by omega) (by omega)]
  · rw [if_neg e, if_neg e]
    exact q.2 L c hL hc
theorem cS_f1 {S T : DS} (h : cS cWa cVa S T) {k : Nat} (hk : k < 27) : cS cWa cVa (kF1 k S) (kF1 k T) := by
  have g := h.1.2.2.1
  unfold kF1
  rw [g 2 k ⟨by omega, by omega, by omega, hk, by omega⟩, g 8 k ⟨by omega, by omega, by omega, hk, by omega⟩, g 4 k ⟨by omega, by omega, by omega, hk, by omega⟩, g 7 k ⟨by omega, by omega, by omega, hk, by omega⟩, g 6 k ⟨by omega, by omega, by omega, hk, by omega⟩, g 5 k ⟨by omega, by omega, by omega, hk, by omega⟩, h.1.2.1]
  by_cases h1 : dI T 2 k = 0
  · rw [if_pos h1, if_pos h1]; exact h
  by_cases h2 : ¬ dI T 8 k = -1
  · rw [if_neg h1, if_pos h2, if_neg h1, if_pos h2]; exact h
  by_cases h3 : dCt T ≤ dI T 4 k
  · rw [if_neg h1, if_neg h2, if_pos h3, if_neg h1, if_neg h2, if_pos h3]; exact h
  rw [if_neg h1, if_neg h2, if_neg h3, if_neg h1, if_neg h2, if_neg h3]
  exact cS_add h hk _ _
theorem cS_find {S T : DS} (h : cR cWa cVa S T) (sg : Int32) : cS cWa cVa (kFind S (-1) sg) (kFind T (-1) sg) := by
  unfold kFind
  rw [if_pos rfl, if_pos rfl]
  exact lpN_rel (cS cWa cVa) 27 0 _ _ (cS_z h) (fun j a b _ hj q => cS_f1 q (by omega))
theorem kHas_c {S T : DS} (h : cS cWa cVa S T) (row : Int32) : kHas S row = kHas T row := by
  unfold kHas
  by_cases h1 : row < 0
  · rw [if_pos h1, if_pos h1]
  by_cases h2 : nI 27 ≤ row
  · rw [if_neg h1, if_pos h2, if_neg h1, if_pos h2]
  obtain ⟨r, hr, rfl⟩ := ixN 27 h1 (Int32.not_le.mp h2) (by decide)
  rw [if_neg h1, if_neg h2, if_neg h1, if_neg h2, nI_clamp (by omega), h.1.2.1, h.1.2.2.1 4 r ⟨by omega, by omega, by omega, hr, by omega⟩]
theorem kOwn_c {S T : DS} (h : cS cWa cVa S T) (row : Int32) (L : Nat) : kOwn S row L = kOwn T row L := by
  unfold kOwn
  rw [kHas_c h]
  by_cases g : kHas T row = 0
  · rw [if_pos g, if_pos g]
  obtain ⟨r, hr, rfl⟩ := kHas_ne g
  rw [if_neg g, if_neg g, nI_clamp (by omega), h.1.2.2.1 4 r ⟨by omega, by omega, by omega, hr, by omega⟩]
theorem fDir_c {S T : DS} (h : cS cWa cVa S T) {c : Nat} (hc : c < 6) (row : Int32) {L : Nat} (hL : L < 5) (q : Int32 × Int32) : fDir S c row L q = fDir T c row L q := by
  unfold fDir
  rw [kOwn_c h, h.2 L c hL hc]
  by_cases g : kOwn T row L = 0
  · rw [if_pos g, if_pos g, if_pos g, if_pos g]
  obtain ⟨r, hr, rfl⟩ := kOwn_ne g
  rw [if_neg g, if_neg g, if_neg g, if_neg g, nI_clamp (by omega), h.1.1, h.1.2.2.1 5 r ⟨by omega, by omega, by omega, hr, by omega⟩, h.1.2.2.1 6 r ⟨by omega, by omega, by omega, hr, by omega⟩]
theorem kDir_c {S T : DS} (h : cS cWa cVa S T) {c : Nat} (hc : c < 6) : kDir S c = kDir T c := by
  have e9 : dI S 9 c = dI T 9 c := h.1.2.2.1 9 c ⟨by omega, by omega, by omega, by omega, fun _ => hc⟩
  have key : lpN (fDir S c (dI S 9 c)) 5 0 (nI 0, nI 0) = lpN (fDir T c (dI T 9 c)) 5 0 (nI 0, nI 0) := by
    refine lpN_rel (fun a b => a = b) 5 0 _ _ rfl (fun j a b _ hj q => ?_)
    rw [q, e9]
    exact fDir_c h hc _ (by omega) b
  unfold kDir
  rw [key]
theorem kEnt_c {S T : DS} (h : cS cWa cVa S T) : kEnt S = kEnt T := by
  unfold kEnt
  refine (lpN_rel (f := fEnt S) (g := fEnt T) (fun a b => a = b ∧ (a < 0 ∨ a.toNatClampNeg < 6)) 6 0 (-1) (-1) ⟨rfl, Or.inl (by decide)⟩ (fun j a b _ hj q => ?_)).1
  obtain ⟨rfl, hr⟩ := q
  unfold fEnt
  have hn : nI j < 0 ∨ (nI j).toNatClampNeg < 6 := Or.inr (by rw [nI_clamp (by omega)]; omega)
  rw [kDir_c h (show j < 6 by omega), h.1.2.2.1 9 j ⟨by omega, by omega, by omega, by omega, fun _ => by omega⟩]
  by_cases h1 : a < 0
  · rw [if_pos h1, if_pos h1]
    refine ⟨rfl, ?_⟩
    split
    · exact hr
    · exact hn
  · rw [if_neg h1, if_neg h1, h.1.2.2.1 9 a.toNatClampNeg ⟨by omega, by omega, by omega, by have := hr.resolve_left h1; omega, fun _ => hr.resolve_left h1⟩]
    refine ⟨rfl, ?_⟩
    split
    · exact hr
    split
    · exact hr
    · exact hn
theorem cR_sub {S T : DS} (h : cR cWa cVa S T) {k a c : Nat} (hk : k < 27) (ha : a < 27) (hc : c < 6) : cR cWa cVa (kSub S k a c) (kSub T k a c) := by
  have e1 : kNs S a c = kNs T a c := by unfold kNs; rw [h.2.2.2 a c ha hc]
  have e2 : kFa S k a c = kFa T k a c := by unfold kFa; rw [h.2.2.2 a c ha hc, h.2.2.2 k c hk hc]
  have e3 : ∀ ns f : Int64, cR cWa cVa (lpN (fSub k a ns f) 7 0 S) (lpN (fSub k a ns f) 7 0 T) := fun ns f => by
    refine lpN_rel (cR cWa cVa) 7 0 S T h (fun i A B _ hi q => ?_)
    unfold fSub
    exact cR_sRo q k i (fun hi6 => by rw [q.1, q.2.2.2 k i hk hi6, q.2.2.2 a i ha hi6])
  unfold kSub
  rw [e1, e2, h.1]
  by_cases h1 : lg_cmp (dSc T) 0 = 0
  · rw [if_pos h1, if_pos h1]; exact h
  by_cases h2 : ¬ lg_cmp (kFa T k a c) 0 = 0
  · rw [if_neg h1, if_pos h2, if_neg h1, if_pos h2]
    exact cR_sRo (e3 _ _) k c (fun _ => rfl)
  by_cases h3 : ¬ lg_cmp (kNs T a c) (dSc T) = 0
  · rw [if_neg h1, if_neg h2, if_pos h3, if_neg h1, if_neg h2, if_pos h3]
    exact cR_sRo (e3 _ _) k c (fun _ => rfl)
  · rw [if_neg h1, if_neg h2, if_neg h3, if_neg h1, if_neg h2, if_neg h3]; exact h
theorem cR_ex {S T : DS} (h : cR cWa cVa S T) {a c : Nat} (ha : a < 27) (hc : c < 6) (d : Int32) : cR cWa cVa (kEx S a c d) (kEx T a c d) := by
  unfold kEx
  rw [h.2.2.2 a c ha hc]
  by_cases h1 : ¬ lg_cmp (absL (dRo T a c)) 0 = 0
  · rw [if_pos h1, if_pos h1]
    have h2 : ∀ ns : Int64, cR cWa cVa (kEx1 S a c ns) (kEx1 T a c ns) := fun ns => by
      unfold kEx1
      have g1 : cR cWa cVa (lpN (fEx a c) 27 0 S) (lpN (fEx a c) 27 0 T) := lpN_rel (cR cWa cVa) 27 0 S T h (fun j A B _ hj q => by
        unfold fEx
        rw [q.2.2.1 2 j ⟨by omega, by omega, by omega, by omega, by omega⟩]
        by_cases g1 : dI B 2 j = 0
        · rw [if_pos g1, if_pos g1]; exact q
        by_cases g2 : j = a
        · rw [if_neg g1, if_pos g2, if_neg g1, if_pos g2]; exact q
        rw [if_neg g1, if_neg g2, if_neg g1, if_neg g2]
        exact cR_sub q (by omega) ha hc)
      have g2 := lpN_rel (f := fZr a) (g := fZr a) (cR cWa cVa) 7 0 _ _ g1 (fun i A B _ hi q => by
        unfold fZr
        exact cR_sRo q a i (fun _ => rfl))
      have g3 := cR_sRo g2 a c (y := ns) (y2 := ns) (fun _ => rfl)
      exact cR_sSc g3 ns
    have h3 : ∀ {A B : DS}, cR cWa cVa A B → cR cWa cVa (kEx2 A a c) (kEx2 B a c) := fun q => by
      unfold kEx2
      exact cR_sIk (cR_sIk q 9 c _) 8 a _
    unfold kEx3
    have e9 := (h2 (absL (dRo T a c))).2.2.1 9 c ⟨by omega, by omega, by omega, by omega, fun _ => hc⟩
    rw [e9]
    by_cases g1 : dI (kEx1 T a c (absL (dRo T a c))) 9 c < 0
    · rw [if_pos g1, if_pos g1]; exact h3 (h2 _)
    by_cases g2 : nI 27 ≤ dI (kEx1 T a c (absL (dRo T a c))) 9 c
    · rw [if_neg g1, if_pos g2, if_neg g1, if_pos g2]; exact h3 (h2 _)
    · rw [if_neg g1, if_neg g2, if_neg g1, if_neg g2]
      exact h3 (cR_sIk (cR_sIk (h2 _) 8 _ _) 7 _ _)
  · rw [if_neg h1, if_neg h1]; exact h
theorem cR_lift {S T : DS} (h : cR cWa cVa S T) : cR cWa cVa (kLift S (nI 14)) (kLift T (nI 14)) := by
  have h3 : ∀ {A B : DS} {r : Nat}, cR cWa cVa A B → cR cWa cVa (kLift1 A r) (kLift1 B r) := fun q => by
    unfold kLift1
    exact cR_sIk (cR_sIk q 8 _ _) 2 _ _
  unfold kLift
  rw [nI_clamp (n := 14) (by decide), h.2.2.1 8 14 ⟨by omega, by omega, by omega, by omega, by omega⟩, if_neg (show ¬ nI 14 < 0 by decide), if_neg (show ¬ nI 14 < nI 14 by decide), if_neg (show ¬ nI 14 < 0 by decide), if_neg (show ¬ nI 14 < nI 14 by decide)]
  by_cases g1 : dI T 8 14 < 0
  · rw [if_pos g1, if_pos g1]; exact h3 h
  by_cases g2 : nI 6 ≤ dI T 8 14
  · rw [if_neg g1, if_pos g2, if_neg g1, if_pos g2]; exact h3 h
  · rw [if_neg g1, if_neg g2, if_neg g1, if_neg g2]
    exact h3 (cR_sIk h 9 _ _)
