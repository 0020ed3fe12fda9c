/-! p1: a variable that is forced to a number: the class, put together -/
theorem kLift_o {S : DS} {r : Int32} : dSc (kLift S r) = dSc S ∧ dRo (kLift S r) = dRo S := by
  unfold kLift
  split
  · exact ⟨rfl, rfl⟩
  split
  · exact ⟨rfl, rfl⟩
  split
  · exact ⟨rfl, rfl⟩
  split
  · exact ⟨rfl, rfl⟩
  · exact ⟨rfl, rfl⟩
theorem kSet_2 {S : DS} {v : Nat} {d : Int32} {U : DS} (hv : v < 6) (hU : U = kFind (sCt S (nI 4)) (-1) (nI 1)) (h1 : kEnt U = nI v) (h2 : kDir U v = d) (h3 : kLv U v d = nI 14) (h5 : kEnt (kFind (kEx U 14 v d) (-1) (nI 1)) = -1) : kSet S = kFind (kEx U 14 v d) (-1) (nI 1) := by
  have e : (nI v).toNatClampNeg = v := nI_clamp (by omega)
  have e14 : (nI 14).toNatClampNeg = 14 := nI_clamp (by omega)
  unfold kSet kDes
  rw [show (1000000 : Nat) = 999998 + 2 from rfl, kDesN_2 (n := 999998) (r := nI 14) hU h1 (nI_pos' (by omega)) (by rw [e, h2]; exact h3) (by decide) (by rw [e, e14, h2]; exact h5), e, e14, h2]
theorem kW_t {x : Int32} (h : ¬ k_isWithin x (nI 1000) = 0) : -1000 ≤ x.toInt ∧ x.toInt ≤ 1000 := by
  unfold k_isWithin at h
  by_cases h1 : x < -nI 1000
  · rw [if_pos h1] at h; exact absurd rfl h
  by_cases h2 : nI 1000 < x
  · rw [if_neg h1, if_pos h2] at h; exact absurd rfl h
  rw [Int32.lt_iff_toInt_lt, show (-nI 1000 : Int32).toInt = -1000 by decide] at h1
  rw [Int32.lt_iff_toInt_lt, show (nI 1000 : Int32).toInt = 1000 by decide] at h2
  exact ⟨by omega, by omega⟩
theorem kPin6 {S : DS} {m : Nat → Int} {v : Nat} {x : Int32} (hv : v < 6) (hs : dSc S = 1) (hm : dRo S (15 + v) 6 = yI (m v - 1000)) : dRo (kPinU S v x) 14 6 = yI (m v - x.toInt) := by
  rw [(kPinU6 hv hs).1, hm, yI_x, show (-1 : Int64) = yI (-1) by decide, show (1000 : Int64) = yI 1000 by decide, ← Int64.ofInt_mul, ← Int64.ofInt_add, ← Int64.ofInt_add]
  exact congrArg Int64.ofInt (by omega)
theorem cR_sCt {W : Nat → Nat → Prop} {V : Nat → Prop} {S T : DS} (h : cR W V S T) (y : Int32) : cR W V (sCt S y) (sCt T y) := ⟨h.1, rfl, h.2.2.1, h.2.2.2⟩
theorem sCt_o {S : DS} {y : Int32} : dRo (sCt S y) = dRo S ∧ dSc (sCt S y) = dSc S := ⟨rfl, rfl⟩
theorem fam_core {SD S P PT U T X XT U2 T2 : DS} {v : Nat} {x d : Int32} {r1 : Nat} {m : Nat → Int} (hCA1 : famA1 T v d) (hCA2 : famA2 T) (hCA3 : famA3 T v d) (hCA4 : famA4 T) (hCA5 : famA5 T v) (hCB : famB T v d r1) (hCD1 : famD1 SD T2) (c12 : famA2 T2) (c13 : famD2 T2) (hCE : famE SD T2) (hCG : famG SD T2) (hv : v < 6) (hx : -1000 ≤ x.toInt ∧ x.toInt ≤ 1000)
    (h8D : dI SD 8 14 = -1) (hsD : dSc SD = 1) (hm : ∀ u : Nat, u < 6 → -1000 ≤ m u ∧ m u ≤ 1000) (hmS : ∀ u : Nat, u < 6 → dRo S (15 + u) 6 = yI (m u - 1000) ∧ dRo S (21 + u) 6 = yI (m u + 1000))
    (hpin : cR cWa cVa P PT) (hP6 : dRo P 14 6 = yI (m v - x.toInt)) (hPk : ∀ k c : Nat, ¬ k = 14 → dRo P k c = dRo S k c) (hPs : dSc P = 1)
    (hU : U = kFind (sCt P (nI 4)) (-1) (nI 1)) (hT : T = kFind (sCt PT (nI 4)) (-1) (nI 1)) (hX : X = kEx U 14 v d) (hXT : XT = kEx T 14 v d) (hU2 : U2 = kFind X (-1) (nI 1)) (hT2 : T2 = kFind XT (-1) (nI 1))
    (hab : absL (yI (m v - x.toInt)) ≤ absL (dRo S (r1 + v) 6)) (hr1 : r1 = 15 ∨ r1 = 21) :
    kSet P = U2 ∧ fam SD (kLift U2 (nI 14)) ∧ dSc U2 = 1 ∧ ∀ (f : Nat → Int64) (s : Nat), s < 4 → kTell U2 f s = 0 := by
  obtain ⟨c1, c2⟩ := hCA1
  have c3 := hCA2
  obtain ⟨c4, c5, c6⟩ := hCA3
  have c8 : ∀ k : Nat, k < 27 → 13 < k → ¬ dI T 2 k = 0 := fun k h h2 => (hCA4 k h).resolve_left (by omega)
  have c9 := hCA5
  obtain ⟨c10, c11, c11b⟩ := hCD1
  have hcs : cS cWa cVa U T := by
    rw [hU, hT]
    exact cS_find (cR_sCt hpin _) _
  have fs := kFind_same (S := sCt P (nI 4)) (sg := nI 1)
  rw [← hU] at fs
  obtain ⟨f1, f2, f3, f4⟩ := fs
  rw [sCt_o.1] at f1
  rw [sCt_o.2] at f2
  have r14 : dRo U 14 6 = yI (m v - x.toInt) := by rw [f1]; exact hP6
  have rk : ∀ k c : Nat, ¬ k = 14 → dRo U k c = dRo S k c := fun k c hk => by rw [f1]; exact hPk k c hk
  have rs : dSc U = 1 := f2.trans hPs
  have hd : ∀ a j : Nat, cWa a j → dI U a j = dI T a j := hcs.1.2.2.1
  have hr : ∀ k c : Nat, k < 27 → c < 6 → dRo U k c = dRo T k c := hcs.1.2.2.2
  have h1 : kEnt U = nI v := (kEnt_c hcs).trans c1
  have h2 : kDir U v = d := (kDir_c hcs hv).trans c2
  have h3 : kLv U v d = nI 14 := by
    refine kLv14 (fun k hk => ?_) ?_ ?_ ?_ (fun k hk hk2 => ?_)
    · rw [hd 2 k ⟨by omega, by omega, by omega, by omega, by omega⟩]; exact c3 k hk
    · rw [hd 2 14 ⟨by omega, by omega, by omega, by omega, by omega⟩]; exact c8 14 (by omega) (by omega)
    · rw [hd 8 14 ⟨by omega, by omega, by omega, by omega, by omega⟩]; exact c4
    · rw [hd 7 14 ⟨by omega, by omega, by omega, by omega, by omega⟩, hr 14 v (by omega) hv]; exact c5
    · rw [hd 7 k ⟨by omega, by omega, by omega, by omega, by omega⟩, hr k v hk hv]
      rcases (hCB k hk).resolve_left (by omega) with g | ⟨g, g2⟩
      · exact Or.inl g
      · refine Or.inr ⟨g, ?_⟩
        rw [r14, g2, rk (r1 + v) 6 (by omega)]
        exact hab
  have hp : dRo U 14 v = 1 := by rw [hr 14 v (by omega) hv]; exact c6
  have hcx : cR cWa cVa X XT := by
    rw [hX, hXT]
    exact cR_ex hcs.1 (by omega) hv d
  have hcs2 : cS cWa cVa U2 T2 := by
    rw [hU2, hT2]
    exact cS_find hcx _
  have h5 : kEnt (kFind (kEx U 14 v d) (-1) (nI 1)) = -1 := by
    rw [← hX, ← hU2]
    exact (kEnt_c hcs2).trans c10
  have hA : kSet P = U2 := by
    rw [kSet_2 hv hU h1 h2 h3 h5, ← hX, ← hU2]
  obtain ⟨e1, e2⟩ := kEx6 (S := U) (a := 14) (c := v) d rs hp hv
  rw [← hX] at e1 e2
  have gs := kFind_same (S := X) (sg := nI 1)
  rw [← hU2] at gs
  obtain ⟨g1, g2, g3, g4⟩ := gs
  have n1 : ∀ u : Nat, u < 6 → dRo U2 (15 + u) 6 = yI ((if u = v then x.toInt else m u) - 1000) ∧ dRo U2 (21 + u) 6 = yI ((if u = v then x.toInt else m u) + 1000) := fun u hu => by
    have b1 := e2 (15 + u) (by omega) (by omega) (by rw [hd 2 _ ⟨by omega, by omega, by omega, by omega, by omega⟩]; exact c8 _ (by omega) (by omega))
    have b2 := e2 (21 + u) (by omega) (by omega) (by rw [hd 2 _ ⟨by omega, by omega, by omega, by omega, by omega⟩]; exact c8 _ (by omega) (by omega))
    rw [g1, b1, b2, rk (15 + u) 6 (by omega), rk (21 + u) 6 (by omega), (hmS u hu).1, (hmS u hu).2, hr (15 + u) v (by omega) hv, hr (21 + u) v (by omega) hv, (c9 u hu).1, (c9 u hu).2, r14]
    by_cases q : u = v
    · rw [q, if_pos rfl, if_pos rfl, Int64.one_mul, ← Int64.ofInt_sub, ← Int64.ofInt_sub]
      exact ⟨congrArg Int64.ofInt (by omega), congrArg Int64.ofInt (by omega)⟩
    · rw [if_neg q, if_neg q, Int64.zero_mul, Int64.sub_zero, Int64.sub_zero]
      exact ⟨rfl, rfl⟩
  have n2 : ∀ u : Nat, u < 6 → -1000 ≤ (if u = v then x.toInt else m u) ∧ (if u = v then x.toInt else m u) ≤ 1000 := fun u hu => by
    by_cases q : u = v
    · rw [if_pos q]; exact hx
    · rw [if_neg q]; exact hm u hu
  have n3 : dSc U2 = 1 := hcs2.1.1.trans c11
  have n4 : dRo U2 14 6 = 0 := by rw [g1]; exact e1
  have hl : cR cWa cVa (kLift U2 (nI 14)) (kLift T2 (nI 14)) := cR_lift hcs2.1
  obtain ⟨l1, l2⟩ := kLift_o (S := U2) (r := nI 14)
  refine ⟨hA, ⟨l1.trans n3, ?_, ⟨?_, ?_, fun a j q => ?_, fun k c q hc => ?_⟩, fun u => if u = v then x.toInt else m u, n2, fun u hu => ?_⟩, n3, kTell_z (fun k hk => ?_)⟩
  · rw [hl.2.2.1 8 14 ⟨by omega, by omega, by omega, by omega, by omega⟩, (hCE 8 (by omega) 14 (by omega)).resolve_left (bE_f (by omega))]
    exact h8D
  · rw [l1, n3, hsD]
  · exact hl.2.1.trans c11b
  · obtain ⟨⟨q1, q2, q3, q4, q5⟩, q6⟩ := q
    rw [hl.2.2.1 a j ⟨q1, q2, q3, q4, q5⟩]
    exact (hCE a q2 j q4).resolve_left (bE_f ⟨q1, q3, q5, q6⟩)
  · rw [hl.2.2.2 k c q.1 hc]
    exact (hCG k q.1 c hc).resolve_left q.2
  · rw [l2]
    exact n1 u hu
  · by_cases k1 : k < 14
    · refine Or.inl ?_
      rw [hcs2.1.2.2.1 2 k ⟨by omega, by omega, by omega, by omega, by omega⟩]
      exact c12 k k1
    refine Or.inr ?_
    by_cases k2 : k = 14
    · rw [k2]
      unfold kCost
      rw [n4, if_pos (show lg_cmp 0 0 ≤ 0 by decide), Int64.neg_zero, Int64.mul_zero]
    by_cases k3 : k < 21
    · obtain ⟨u, hu, rfl⟩ : ∃ u : Nat, u < 6 ∧ k = 15 + u := ⟨k - 15, by omega, by omega⟩
      have b := n2 u hu
      have b2 := (n1 u hu).1
      generalize (if u = v then x.toInt else m u) = w at b b2
      unfold kCost
      rw [b2, if_pos ((lg_cmp_le _ _).mpr ((yI_le0 (a := w - 1000) (by omega) (by omega)).mpr (by omega))), hcs2.1.2.2.1 6 (15 + u) ⟨by omega, by omega, by omega, by omega, by omega⟩, (c13 u hu).1, show (0 : Int32).toInt64 = 0 by decide, Int64.zero_mul]
    · obtain ⟨u, hu, rfl⟩ : ∃ u : Nat, u < 6 ∧ k = 21 + u := ⟨k - 21, by omega, by omega⟩
      have b := n2 u hu
      have b2 := (n1 u hu).2
      generalize (if u = v then x.toInt else m u) = w at b b2
      unfold kCost
      rw [b2]
      by_cases q : w + 1000 ≤ 0
      · rw [show w + 1000 = 0 by omega, yI_0, if_pos (show lg_cmp 0 0 ≤ 0 by decide), Int64.neg_zero, Int64.mul_zero]
      · rw [if_neg (fun w9 => q ((yI_le0 (by omega) (by omega)).mp ((lg_cmp_le _ _).mp w9))), hcs2.1.2.2.1 5 (21 + u) ⟨by omega, by omega, by omega, by omega, by omega⟩, (c13 u hu).2, show (0 : Int32).toInt64 = 0 by decide, Int64.zero_mul]
abbrev famC (SD : DS) (v : Nat) (x0 d : Int32) (r1 : Nat) : Prop := famA1 (kU SD v x0) v d ∧ famA2 (kU SD v x0) ∧ famA3 (kU SD v x0) v d ∧ famA4 (kU SD v x0) ∧ famA5 (kU SD v x0) v ∧ famB (kU SD v x0) v d r1 ∧ famD1 SD (kU2 SD v x0 d) ∧ famA2 (kU2 SD v x0 d) ∧ famD2 (kU2 SD v x0 d) ∧ famE SD (kU2 SD v x0 d) ∧ famG SD (kU2 SD v x0 d)
theorem fam_one {SD S : DS} {v : Nat} {x x0 d : Int32} {r1 : Nat} {m : Nat → Int} (hC : famC SD v x0 d r1) (hv : v < 6) (hx : -1000 ≤ x.toInt ∧ x.toInt ≤ 1000)
    (hs : dSc S = 1) (h8 : dI S 8 14 = -1) (h8D : dI SD 8 14 = -1) (hsD : dSc SD = 1) (hm : ∀ u : Nat, u < 6 → -1000 ≤ m u ∧ m u ≤ 1000) (hmS : ∀ u : Nat, u < 6 → dRo S (15 + u) 6 = yI (m u - 1000) ∧ dRo S (21 + u) 6 = yI (m u + 1000))
    (hpin : cR cWa cVa (kPin S v x) (kPin SD v x0)) (hab : absL (yI (m v - x.toInt)) ≤ absL (dRo S (r1 + v) 6)) (hr1 : r1 = 15 ∨ r1 = 21) :
    fam SD (kLift (kAt1 S v x) (nI 14)) ∧ dSc (kAt1 S v x) = 1 ∧ ∀ (f : Nat → Int64) (s : Nat), s < 4 → kTell (kAt1 S v x) f s = 0 := by
  obtain ⟨g1, g2, g3, g4, g5, g6, g7, g8, g9, g10, g11⟩ := hC
  obtain ⟨u1, u2, u3⟩ := kPinU6 (S := S) (x := x) hv hs
  have hq6 := kPin6 (S := S) (m := m) (x := x) hv hs (hmS v hv).1
  have p0 := kPin_e (S := S) (v := v) (x := x) h8
  generalize kPinU S v x = Q at u1 u2 u3 hq6 p0
  generalize hP : kPin S v x = P at hpin p0
  have p1 : dRo P = dRo Q ∧ dSc P = dSc Q := by rw [p0]; exact ⟨rfl, rfl⟩
  have key := fam_core (P := P) (PT := kPin SD v x0) (T := kU SD v x0) (T2 := kU2 SD v x0 d) (x := x) g1 g2 g3 g4 g5 g6 g7 g8 g9 g10 g11 hv hx h8D hsD hm hmS hpin (by rw [p1.1]; exact hq6) (fun k c hk => by rw [p1.1]; exact u3 k c hk) (p1.2.trans u2) rfl rfl rfl rfl rfl rfl hab hr1
  unfold kAt1
  rw [hP, key.1]
  exact key.2
theorem side_o {z : Int} (h1 : -100000 ≤ z) (h2 : z ≤ 100000) : (if 0 ≤ lg_cmp (yI z) 0 then nI 1 else -1) = if 0 ≤ z then nI 1 else -1 := by
  have e := yI_ge0 h1 h2
  by_cases g : 0 ≤ z
  · rw [if_pos g, if_pos ((lg_cmp_ge _ _).mpr (e.mpr g))]
  · rw [if_neg g, if_neg (fun q => g (e.mp ((lg_cmp_ge _ _).mp q)))]
theorem fam_step {SD : DS} (h0 : dSc SD = 1 ∧ dI SD 8 14 = -1 ∧ ∀ u : Nat, u < 6 → dRo SD (15 + u) 6 = -1000 ∧ dRo SD (21 + u) 6 = 1000) (hc0 : ∀ v : Nat, v < 6 → famC SD v 0 (-1) 21) (hc1 : ∀ v : Nat, v < 6 → famC SD v (nI 1) (nI 1) 15) : fam SD SD ∧ ∀ v : Nat, v < 6 → kOkF v (fam SD) := by
  obtain ⟨hs, h8, hz⟩ := h0
  refine ⟨⟨hs, h8, ⟨rfl, rfl, fun _ _ _ => rfl, fun _ _ _ _ => rfl⟩, fun _ => 0, fun u hu => ⟨show (-1000 : Int) ≤ 0 by decide, show (0 : Int) ≤ 1000 by decide⟩, fun u hu => ⟨(hz u hu).1.trans (show (-1000 : Int64) = yI (0 - 1000) by decide), (hz u hu).2.trans (show (1000 : Int64) = yI (0 + 1000) by decide)⟩⟩, fun v hv S x hF hx => ?_⟩
  obtain ⟨f1, f2, f3, m, f4, f5⟩ := hF
  have hx2 := kW_t hx
  have hmv := f4 v hv
  have sS : (if 0 ≤ lg_cmp (dRo (kPinU S v x) 14 6) 0 then nI 1 else -1) = if 0 ≤ m v - x.toInt then nI 1 else -1 := by
    rw [kPin6 hv f1 (f5 v hv).1]
    exact side_o (by omega) (by omega)
  have sT : ∀ y : Int32, (-1000 ≤ y.toInt ∧ y.toInt ≤ 1000) → (if 0 ≤ lg_cmp (dRo (kPinU SD v y) 14 6) 0 then nI 1 else -1) = if 0 ≤ 0 - y.toInt then nI 1 else -1 := fun y hy => by
    rw [kPin6 (m := fun _ => 0) hv hs ((hz v hv).1.trans (show (-1000 : Int64) = yI (0 - 1000) by decide))]
    exact side_o (by omega) (by omega)
  by_cases g : 0 ≤ m v - x.toInt
  · refine fam_one (hc0 v hv) hv hx2 f1 f2 h8 hs f4 f5 (kPin_c f3 f2 h8 hv x 0 (by rw [sS, sT 0 (by decide), if_pos g]; decide)) ?_ (Or.inr rfl)
    rw [(f5 v hv).2, absL_o (by omega) (by omega), absL_o (by omega) (by omega)]
    exact (yI_le (by omega) (by omega) (by omega) (by omega)).mpr (by omega)
  · refine fam_one (hc1 v hv) hv hx2 f1 f2 h8 hs f4 f5 (kPin_c f3 f2 h8 hv x (nI 1) (by rw [sS, sT (nI 1) (by decide), if_neg g]; decide)) ?_ (Or.inl rfl)
    rw [(f5 v hv).1, absL_o (by omega) (by omega), absL_o (by omega) (by omega)]
    exact (yI_le (by omega) (by omega) (by omega) (by omega)).mpr (by omega)
theorem fc0 : dSc SD0 = 1 ∧ dI SD0 8 14 = -1 ∧ ∀ u : Nat, u < 6 → dRo SD0 (15 + u) 6 = -1000 ∧ dRo SD0 (21 + u) 6 = 1000 := by decide +kernel
theorem fc_p0 : ∀ v : Nat, v < 6 → famA1 (kU SD0 v 0) v (-1) := by decide +kernel
theorem fc_p1 : ∀ v : Nat, v < 6 → famA2 (kU SD0 v 0) := by decide +kernel
theorem fc_p2 : ∀ v : Nat, v < 6 → famA3 (kU SD0 v 0) v (-1) := by decide +kernel
theorem fc_p3 : ∀ v : Nat, v < 6 → famA4 (kU SD0 v 0) := by decide +kernel
theorem fc_p4 : ∀ v : Nat, v < 6 → famA5 (kU SD0 v 0) v := by decide +kernel
theorem fc_p5 : ∀ v : Nat, v < 6 → famB (kU SD0 v 0) v (-1) 21 := by decide +kernel
theorem fc_p6 : ∀ v : Nat, v < 6 → famD1 SD0 (kU2 SD0 v 0 (-1)) := by decide +kernel
theorem fc_p7 : ∀ v : Nat, v < 6 → famA2 (kU2 SD0 v 0 (-1)) := by decide +kernel
theorem fc_p8 : ∀ v : Nat, v < 6 → famD2 (kU2 SD0 v 0 (-1)) := by decide +kernel
theorem fc_p9 : ∀ v : Nat, v < 6 → famE SD0 (kU2 SD0 v 0 (-1)) := by decide +kernel
theorem fc_p10 : ∀ v : Nat, v < 6 → famG SD0 (kU2 SD0 v 0 (-1)) := by decide +kernel
theorem fc_q0 : ∀ v : Nat, v < 6 → famA1 (kU SD0 v (nI 1)) v (nI 1) := by decide +kernel
theorem fc_q1 : ∀ v : Nat, v < 6 → famA2 (kU SD0 v (nI 1)) := by decide +kernel
theorem fc_q2 : ∀ v : Nat, v < 6 → famA3 (kU SD0 v (nI 1)) v (nI 1) := by decide +kernel
theorem fc_q3 : ∀ v : Nat, v < 6 → famA4 (kU SD0 v (nI 1)) := by decide +kernel
theorem fc_q4 : ∀ v : Nat, v < 6 → famA5 (kU SD0 v (nI 1)) v := by decide +kernel
theorem fc_q5 : ∀ v : Nat, v < 6 → famB (kU SD0 v (nI 1)) v (nI 1) 15 := by decide +kernel
theorem fc_q6 : ∀ v : Nat, v < 6 → famD1 SD0 (kU2 SD0 v (nI 1) (nI 1)) := by decide +kernel
theorem fc_q7 : ∀ v : Nat, v < 6 → famA2 (kU2 SD0 v (nI 1) (nI 1)) := by decide +kernel
theorem fc_q8 : ∀ v : Nat, v < 6 → famD2 (kU2 SD0 v (nI 1) (nI 1)) := by decide +kernel
theorem fc_q9 : ∀ v : Nat, v < 6 → famE SD0 (kU2 SD0 v (nI 1) (nI 1)) := by decide +kernel
theorem fc_q10 : ∀ v : Nat, v < 6 → famG SD0 (kU2 SD0 v (nI 1) (nI 1)) := by decide +kernel
theorem kK4 : ∃ F : DS → Prop, F SD0 ∧ ∀ v0 : Nat, v0 < 6 → kOkF v0 F := ⟨fam SD0, fam_step fc0 (fun v h => ⟨fc_p0 v h, fc_p1 v h, fc_p2 v h, fc_p3 v h, fc_p4 v h, fc_p5 v h, fc_p6 v h, fc_p7 v h, fc_p8 v h, fc_p9 v h, fc_p10 v h⟩) (fun v h => ⟨fc_q0 v h, fc_q1 v h, fc_q2 v h, fc_q3 v h, fc_q4 v h, fc_q5 v h, fc_q6 v h, fc_q7 v h, fc_q8 v h, fc_q9 v h, fc_q10 v h⟩)⟩
