/-! p1: frames, rows for the law, equal tests -/
/-- cells apart from those that a call may touch are as they were -/
theorem va_frame {D : va_G} {cl : List vw_C} {A : Nat → Prop} {wf wc : va_W} {H H1 : Heap} (hP : va_P D cl (wf ++ wc) H) (hD : va_D A (wf ++ wc)) (hk : ∀ q : Nat, q < H.size → ¬ va_A wc H.size q → H1[q]? = H[q]?) : va_P D cl wf H1 ∧ va_D A wf ∧ ∀ (k : Nat) (q : Nat × va_E), wf[k]? = some q → q.1 < H.size ∧ ¬ va_A wc H.size q.1 := by
  have hap : ∀ (k : Nat) (q : Nat × va_E), wf[k]? = some q → q.1 < H.size ∧ ¬ va_A wc H.size q.1 := by
    intro k q hq
    have hl := (List.getElem?_eq_some_iff.mp hq).1
    have hq' : (wf ++ wc)[k]? = some q := by rw [List.getElem?_append_left hl]; exact hq
    refine ⟨(hP k q hq').lt, fun h => ?_⟩
    rcases h with ⟨j, e, hj⟩ | h
    · have hj' : (wf ++ wc)[wf.length + j]? = some (q.1, e) := by rw [List.getElem?_append_right (by omega), show wf.length + j - wf.length = j by omega]; exact hj
      have := hD.1 _ _ _ _ hq' hj' rfl
      omega
    · exact absurd (hP k q hq').lt (Nat.not_lt.mpr h)
  refine ⟨fun k q hq => ?_, ⟨fun i j p q hi hj e => ?_, fun k q hq => ?_⟩, hap⟩
  · have hl := (List.getElem?_eq_some_iff.mp hq).1
    obtain ⟨g1, g2⟩ := hap k q hq
    exact (hP k q (by rw [List.getElem?_append_left hl]; exact hq)).kept (hk q.1 g1 g2)
  · have li := (List.getElem?_eq_some_iff.mp hi).1
    have lj := (List.getElem?_eq_some_iff.mp hj).1
    exact hD.1 i j p q (by rw [List.getElem?_append_left li]; exact hi) (by rw [List.getElem?_append_left lj]; exact hj) e
  · have hl := (List.getElem?_eq_some_iff.mp hq).1
    exact hD.2 k q (by rw [List.getElem?_append_left hl]; exact hq)
theorem va_frame2 {D : va_G} {cl : List vw_C} {A : Nat → Prop} {wf wc w1 : va_W} {H H1 : Heap} (hP : va_P D cl (wf ++ wc) H) (hD : va_D A (wf ++ wc)) (hk : ∀ q : Nat, q < H.size → ¬ va_A wc H.size q → H1[q]? = H[q]?) (hF : ∀ q, va_A wc H.size q → A q) (hP1 : va_P D cl w1 H1) (hD1 : va_D (va_A wc H.size) w1) : va_P D cl (wf ++ w1) H1 ∧ va_D A (wf ++ w1) := by
  obtain ⟨h1, h2, h3⟩ := va_frame hP hD hk
  refine ⟨va_P.app h1 hP1, va_D.app h2 (hD1.weaken (fun k q _ h => hF q.1 h)) (fun i j x y hx hy hxy => ?_)⟩
  exact (h3 i x hx).2 (by rw [hxy]; exact hD1.2 j y hy)
theorem va_right {D : va_G} {cl : List vw_C} {wf wc : va_W} {H : Heap} (hP : va_P D cl (wf ++ wc) H) : va_P D cl wc H := fun k q hq => hP (wf.length + k) q (by rw [List.getElem?_append_right (by omega), show wf.length + k - wf.length = k by omega]; exact hq)
theorem va_rightD {A : Nat → Prop} {wf wc : va_W} (hD : va_D A (wf ++ wc)) : va_D A wc := by
  have e : ∀ (k : Nat) (q : Nat × va_E), wc[k]? = some q → (wf ++ wc)[wf.length + k]? = some q := fun k q hq => by rw [List.getElem?_append_right (by omega), show wf.length + k - wf.length = k by omega]; exact hq
  refine ⟨fun i j p q hi hj h => ?_, fun k q hq => hD.2 _ q (e k q hq)⟩
  have := hD.1 _ _ p q (e i p hi) (e j q hj) h
  omega
section VLAW
variable {p : Program} {l : Launch} {e : Env} {R : Room} {s : State} {m : MethodId} {args : Array Value} {below : List Frame} {meth : Method} {c : Code} {H : Heap} {locs : List Loc} {cells slots : Nat} {Q : State → Prop}
variable {cc : ByteArray} {pc : Nat} {ls : Array Slot} {rest : List Value} {D : va_G} {A : Nat → Prop} {H0 : Heap} {cy : Nat → ClassId} {wx wm : va_W}
variable {y : MethodName} {bytes : ByteArray} {maxL nL n index mc ms : Nat} {wt : List Cond} {rm : Room} {Ts : List Cond} {own : String} {As : List Value} {b q0 ci : Nat} {vs : List Value} {r0 : vw_C} {Pc : Array Value → State → Prop}
theorem frF (hD : va_D A (wm ++ wx)) (hS : va_S A H0 H locs) (hA : ∀ q, H0.size ≤ q → A q) : ∀ q, va_A wx H.size q → A q := fun q h => by
  rcases h with ⟨k, e, h⟩ | h
  · exact (va_rightD hD).2 k (q, e) h
  · exact hA q (Nat.le_trans hS.1 h)
theorem lawXi {ret : Option FieldType} {post : Int32 → va_W → Prop} (hexec : p.tables.exec = Jvm.exec) (hb : c.code = cc) (hml : c.maxLocals = nL) (hown : s.vm.findClass own = some m.cls) (hts : ∀ w ∈ Ts, w.before args s = true) (hK : va_K D vwCl (tyW cy) s) (hP : va_P D vwCl (wm ++ wx) H) (hD : va_D A (wm ++ wx)) (hS : va_S A H0 H locs) (hA : ∀ q, H0.size ≤ q → A q) (hls : ls.size = nL) (hq : wx[q0]? = some (b, .inr (ci, vs))) (hc : vwCl[ci]? = some r0) (hbl : FrameBlind Pc) (hpc : ∀ U : State, U.heap = H → s.WarmedH U.vm → Pc (Value.ref b :: As).toArray U)
    (hM : Met l y wt rm Pc (gQi D cy wx H.size post) mc ms (va_A wx H.size)) (cw : CallW R s args own r0.1 index y bytes maxL ret wt rm mc ms n) (hn : As.length = n) {st : List Value} (hst : st = As.reverse ++ .ref b :: rest) (hW : (rest.map fun v => v.category).sum ≤ 8) (hf : cells + mc ≤ R.cells ∧ slots + ms ≤ R.slots) (hdg : decode cc pc = .ok (.invokevirtual index, 3))
    (kk : ∀ (r : Int32) (w1 : va_W) (H : Heap) (locs : List Loc), post r w1 → va_P D vwCl wm H → va_D A wm → va_S A H0 H locs → W p l e R s m args below meth c H locs (cells + mc) (slots + ms) Q (F0 m (pc + 3) ls (.int r :: rest))) : W p l e R s m args below meth c H locs cells slots Q (F0 m pc ls st) := by
  refine va_calli (va_runV (As := As) (rest := rest) ⟨hexec, hb, hml, hown, hts⟩ hM cw ⟨hbl, va_recv hK (va_right hP) hc hq, hpc⟩ rfl hn hls hst (lv_room hW) hdg hf) hS (fun q _ h => frF hD hS hA q h) (frF hD hS hA) (fun r S' t H1 locs1 ht hvm hp hB hz hk hS1 => ?_)
  obtain ⟨h1, h2, -⟩ := va_frame hP hD hk
  exact kk r S' H1 locs1 hp h1 h2 hS1
theorem lawXl {post : Int64 → va_W → Prop} (hexec : p.tables.exec = Jvm.exec) (hb : c.code = cc) (hml : c.maxLocals = nL) (hown : s.vm.findClass own = some m.cls) (hts : ∀ w ∈ Ts, w.before args s = true) (hK : va_K D vwCl (tyW cy) s) (hP : va_P D vwCl (wm ++ wx) H) (hD : va_D A (wm ++ wx)) (hS : va_S A H0 H locs) (hA : ∀ q, H0.size ≤ q → A q) (hls : ls.size = nL) (hq : wx[q0]? = some (b, .inr (ci, vs))) (hc : vwCl[ci]? = some r0) (hbl : FrameBlind Pc) (hpc : ∀ U : State, U.heap = H → s.WarmedH U.vm → Pc (Value.ref b :: As).toArray U)
    (hM : Met l y wt rm Pc (gQl D cy wx H.size post) mc ms (va_A wx H.size)) (cw : CallW R s args own r0.1 index y bytes maxL (some .long) wt rm mc ms n) (hn : As.length = n) {st : List Value} (hst : st = As.reverse ++ .ref b :: rest) (hW : (rest.map fun v => v.category).sum ≤ 8) (hf : cells + mc ≤ R.cells ∧ slots + ms ≤ R.slots) (hdg : decode cc pc = .ok (.invokevirtual index, 3))
    (kk : ∀ (r : Int64) (w1 : va_W) (H : Heap) (locs : List Loc), post r w1 → va_P D vwCl wm H → va_D A wm → va_S A H0 H locs → W p l e R s m args below meth c H locs (cells + mc) (slots + ms) Q (F0 m (pc + 3) ls (.long r :: rest))) : W p l e R s m args below meth c H locs cells slots Q (F0 m pc ls st) := by
  refine va_calll (va_runV (As := As) (rest := rest) ⟨hexec, hb, hml, hown, hts⟩ hM cw ⟨hbl, va_recv hK (va_right hP) hc hq, hpc⟩ rfl hn hls hst (lv_room hW) hdg hf) hS (fun q _ h => frF hD hS hA q h) (frF hD hS hA) (fun r S' t H1 locs1 ht hvm hp hB hz hk hS1 => ?_)
  obtain ⟨h1, h2, -⟩ := va_frame hP hD hk
  exact kk r S' H1 locs1 hp h1 h2 hS1
end VLAW
theorem e_var (x : Int32) : k_isVariable x = j_isVariable x := by
  unfold k_isVariable j_isVariable j_in
  simp only [Int32.lt_iff_toInt_lt, Int32.le_iff_toInt_le, show (nI 0 : Int32).toInt = 0 by decide, show (0 : Int32).toInt = 0 by decide, show (nI 6 : Int32).toInt = 6 by decide, show (nI 5 : Int32).toInt = 5 by decide]
  repeat' split
  all_goals first | rfl | omega
theorem e_in (x : Int32) (a b : Int32) : (if x < a then nI 0 else if b < x then nI 0 else nI 1) = j_in x a b := rfl
theorem e_within (x y : Int32) : k_isWithin x y = j_in x (-y) y := rfl
theorem e_rel (x : Int32) : k_isRelation x = j_in x (nI 0) (nI 2) := rfl
theorem e_soft (x : Int32) : k_isSoft x = j_in x (nI 1) (nI 3) := rfl
theorem e_str (x y : Int32) : (k_isStrength x = 0 ∨ k_isWeight y = 0) ↔ j_isStrength x y = 0 := by
  have h1 : k_isStrength x = j_in x (nI 0) (nI 3) := rfl
  have h2 : k_isWeight y = j_in y (nI 1) (nI 5) := rfl
  rw [h1, h2]
  unfold j_isStrength
  constructor
  · rintro (h | h)
    · rw [if_pos h]; rfl
    · split <;> first | rfl | (rw [if_pos h]; rfl)
  · intro h
    by_cases g1 : j_in x (nI 0) (nI 3) = 0
    · exact Or.inl g1
    · by_cases g2 : j_in y (nI 1) (nI 5) = 0
      · exact Or.inr g2
      · rw [if_neg g1, if_neg g2] at h
        exact absurd h (by decide)
theorem e_part (x : Int32) : k_isPart x = j_isPart x := by
  unfold k_isPart j_isPart j_in
  simp only [Int32.lt_iff_toInt_lt, ← Int32.toInt_inj, show (nI 0 : Int32).toInt = 0 by decide, show (0 : Int32).toInt = 0 by decide, show (nI 1 : Int32).toInt = 1 by decide]
  repeat' split
  all_goals first | rfl | omega
