/-! Any world, and in it one object with its array (places i, j): what its methods do is told by the two cells. -/
abbrev gPc (D : va_G) (cy : Nat → ClassId) (ws : va_W) (sz : Nat) (As : List Value) : Array Value → State → Prop := va_Pc As (fun U => U.heap.size = sz ∧ va_P D vwCl ws U.heap ∧ va_K D vwCl (tyW cy) U ∧ va_D (fun _ => True) ws)
abbrev gB (D : va_G) (cy : Nat → ClassId) (A : Nat → Prop) (ws : va_W) (t : State) : Prop := va_P D vwCl ws t.heap ∧ va_K D vwCl (tyW cy) t ∧ va_D A ws
abbrev gQi (D : va_G) (cy : Nat → ClassId) (ws : va_W) (sz : Nat) (post : Int32 → va_W → Prop) : Array Value → State → Outcome → State → Prop := va_Qi post (gB D cy (va_A ws sz)) (va_A ws sz)
abbrev gQl (D : va_G) (cy : Nat → ClassId) (ws : va_W) (sz : Nat) (post : Int64 → va_W → Prop) : Array Value → State → Outcome → State → Prop := va_Ql post (gB D cy (va_A ws sz)) (va_A ws sz)
abbrev gQv (D : va_G) (cy : Nat → ClassId) (ws : va_W) (sz : Nat) (post : va_W → Prop) : Array Value → State → Outcome → State → Prop := va_Qv post (gB D cy (va_A ws sz)) (va_A ws sz)
theorem gHead {l : Launch} {y : MethodName} {wt ws' : List Cond} {rm : Room} {cc : ByteArray} {maxL : Nat} {ret : Option FieldType} {D : va_G} {cy : Nat → ClassId} {ws : va_W} {sz : Nat} {As : List Value} {Qc : Array Value → State → Outcome → State → Prop} {mc ms : Nat} {free : Addr → Prop} (hy : plainName y.cls = true) (hw : wt = Cond.code y cc maxL ret :: ws') (hn : (lg_sl As).length ≤ maxL)
    (body : ∀ (p : Program) (e : Env) (s : State) (m : MethodId) (below : List Frame) (meth : Method) (c : Code) (ls : Array Slot), p.tables.exec = Jvm.exec → c.code = cc → meth.sig.returnType = ret → meth.locks = false → c.maxLocals = maxL → s.vm.findClass y.cls = some m.cls → (∀ w ∈ wt, w.before As.toArray s = true) → s.heap.size = sz → va_P D vwCl ws s.heap → va_K D vwCl (tyW cy) s → va_D (va_A ws sz) ws → va_S (va_A ws sz) s.heap s.heap [] → (∀ q : Nat, s.heap.size ≤ q → va_A ws sz q) → lv_has ls maxL (lv_args 0 As) →
      W p l e (headSpec wt rm).room s m As.toArray below meth c s.heap [] 0 0 (MQ below Qc As.toArray s mc ms free) (F0 m 0 ls [])) : Met l y wt rm (gPc D cy ws sz As) Qc mc ms free := by
  refine Met.ofW (cc := cc) (maxL := maxL) (ret := ret) hy hw ?_
  intro p e s m args below meth c s₁ B hml hv
  obtain ⟨rfl, hsz, hP, hK, hD0⟩ := hv
  rw [lg_entry_eq]
  exact body p e s m below meth c _ B.exec B.bytes B.returns B.notSynchronized hml (findClass_of_methodNamed B.named) (atoms_spec (ws := wt) B.pre) hsz hP hK (hsz ▸ hD0.self) va_S.rf (fun q h => Or.inr (hsz ▸ h)) (lv_entry As hn)
theorem gBlind {D : va_G} {cy : Nat → ClassId} {ws : va_W} {sz : Nat} {As : List Value} : FrameBlind (gPc D cy ws sz As) := fun a U g mk q => by
  obtain ⟨q0, q1, qP, qK, qD⟩ := q
  exact ⟨q0, q1, qP, va_K.moved (u := U) (U := U.calling g mk a) (Vm.Alike.refl U.vm) qK, qD⟩
section VGC
variable {p : Program} {l : Launch} {e : Env} {R : Room} {s : State} {m : MethodId} {args : Array Value} {below : List Frame} {meth : Method} {c : Code} {H : Heap} {locs : List Loc} {cells slots : Nat} {Q : State → Prop}
variable {cc : ByteArray} {pc : Nat} {ls : Array Slot} {rest : List Value} {D : va_G} {A : Nat → Prop} {H0 : Heap} {cy : Nat → ClassId} {ws : va_W}
theorem gFree (hD : va_D A ws) (hS : va_S A H0 H locs) (hA : ∀ q, H0.size ≤ q → A q) : ∀ q, va_A ws H.size q → A q := fun q h => by
  rcases h with ⟨k, e, h⟩ | h
  · exact hD.2 k (q, e) h
  · exact hA q (Nat.le_trans hS.1 h)
theorem gBack {ws' : va_W} {t : State} {H1 : Heap} (hD : va_D A ws) (hS : va_S A H0 H locs) (hA : ∀ q, H0.size ≤ q → A q) (ht : t.heap = H1) (hB : gB D cy (va_A ws H.size) ws' t) : va_P D vwCl ws' H1 ∧ va_D A ws' := by
  obtain ⟨h1, -, h3⟩ := hB
  exact ⟨ht ▸ h1, h3.weaken (fun _ q _ h => gFree hD hS hA q.1 h)⟩
variable {y : MethodName} {bytes : ByteArray} {maxL nL n index : Nat} {wt : List Cond} {rm : Room} {Ts : List Cond} {own : String} {As : List Value} {ret : Option FieldType} {b q0 ci : Nat} {vs : List Value} {r0 : vw_C}
theorem gCalli {post : Int32 → va_W → Prop} (hexec : p.tables.exec = Jvm.exec) (hb : c.code = cc) (hml : c.maxLocals = nL) (hown : s.vm.findClass own = some m.cls) (hts : ∀ w ∈ Ts, w.before args s = true) (hK : va_K D vwCl (tyW cy) s) (hP : va_P D vwCl ws H) (hD : va_D A ws) (hS : va_S A H0 H locs) (hA : ∀ q, H0.size ≤ q → A q) (hls : ls.size = nL) (hq : ws[q0]? = some (b, .inr (ci, vs))) (hc : vwCl[ci]? = some r0)
    (hM : Met l y wt rm (gPc D cy ws H.size (.ref b :: As)) (gQi D cy ws H.size post) 0 0 (va_A ws H.size)) (cw : CallW R s args own r0.1 index y bytes maxL ret wt rm 0 0 n) (hn : As.length = n) {st : List Value} (hst : st = As.reverse ++ .ref b :: rest) (hW : (rest.map fun v => v.category).sum ≤ 8) (hf : cells + 0 ≤ R.cells ∧ slots + 0 ≤ R.slots) (hdg : decode cc pc = .ok (.invokevirtual index, 3))
    (kk : ∀ (r : Int32) (ws' : va_W) (H : Heap) (locs : List Loc), post r ws' → va_P D vwCl ws' H → va_D A ws' → va_S A H0 H locs → W p l e R s m args below meth c H locs cells slots Q (F0 m (pc + 3) ls (.int r :: rest))) : W p l e R s m args below meth c H locs cells slots Q (F0 m pc ls st) := by
  refine va_calli (va_runV (As := As) (rest := rest) ⟨hexec, hb, hml, hown, hts⟩ hM cw ⟨gBlind, va_recv hK hP hc hq, fun U hU hW => ⟨rfl, by rw [hU], by rw [hU]; exact hP, va_K.moved hW.alike hK, hD.weaken (fun _ _ _ _ => trivial)⟩⟩ rfl hn hls hst (lv_room hW) hdg hf) hS (fun q _ h => gFree hD hS hA q h) (gFree hD hS hA) (fun r S' t H1 locs1 ht hvm hp hB hz hk hS1 => ?_)
  obtain ⟨h1, h2⟩ := gBack hD hS hA ht hB
  exact kk r S' H1 locs1 hp h1 h2 hS1
theorem gCalll {post : Int64 → va_W → Prop} (hexec : p.tables.exec = Jvm.exec) (hb : c.code = cc) (hml : c.maxLocals = nL) (hown : s.vm.findClass own = some m.cls) (hts : ∀ w ∈ Ts, w.before args s = true) (hK : va_K D vwCl (tyW cy) s) (hP : va_P D vwCl ws H) (hD : va_D A ws) (hS : va_S A H0 H locs) (hA : ∀ q, H0.size ≤ q → A q) (hls : ls.size = nL) (hq : ws[q0]? = some (b, .inr (ci, vs))) (hc : vwCl[ci]? = some r0)
    (hM : Met l y wt rm (gPc D cy ws H.size (.ref b :: As)) (gQl D cy ws H.size post) 0 0 (va_A ws H.size)) (cw : CallW R s args own r0.1 index y bytes maxL ret wt rm 0 0 n) (hn : As.length = n) {st : List Value} (hst : st = As.reverse ++ .ref b :: rest) (hW : (rest.map fun v => v.category).sum ≤ 8) (hf : cells + 0 ≤ R.cells ∧ slots + 0 ≤ R.slots) (hdg : decode cc pc = .ok (.invokevirtual index, 3))
    (kk : ∀ (r : Int64) (ws' : va_W) (H : Heap) (locs : List Loc), post r ws' → va_P D vwCl ws' H → va_D A ws' → va_S A H0 H locs → W p l e R s m args below meth c H locs cells slots Q (F0 m (pc + 3) ls (.long r :: rest))) : W p l e R s m args below meth c H locs cells slots Q (F0 m pc ls st) := by
  refine va_calll (va_runV (As := As) (rest := rest) ⟨hexec, hb, hml, hown, hts⟩ hM cw ⟨gBlind, va_recv hK hP hc hq, fun U hU hW => ⟨rfl, by rw [hU], by rw [hU]; exact hP, va_K.moved hW.alike hK, hD.weaken (fun _ _ _ _ => trivial)⟩⟩ rfl hn hls hst (lv_room hW) hdg hf) hS (fun q _ h => gFree hD hS hA q h) (gFree hD hS hA) (fun r S' t H1 locs1 ht hvm hp hB hz hk hS1 => ?_)
  obtain ⟨h1, h2⟩ := gBack hD hS hA ht hB
  exact kk r S' H1 locs1 hp h1 h2 hS1
theorem gCallv {post : va_W → Prop} (hexec : p.tables.exec = Jvm.exec) (hb : c.code = cc) (hml : c.maxLocals = nL) (hown : s.vm.findClass own = some m.cls) (hts : ∀ w ∈ Ts, w.before args s = true) (hK : va_K D vwCl (tyW cy) s) (hP : va_P D vwCl ws H) (hD : va_D A ws) (hS : va_S A H0 H locs) (hA : ∀ q, H0.size ≤ q → A q) (hls : ls.size = nL) (hq : ws[q0]? = some (b, .inr (ci, vs))) (hc : vwCl[ci]? = some r0)
    (hM : Met l y wt rm (gPc D cy ws H.size (.ref b :: As)) (gQv D cy ws H.size post) 0 0 (va_A ws H.size)) (cw : CallW R s args own r0.1 index y bytes maxL ret wt rm 0 0 n) (hn : As.length = n) {st : List Value} (hst : st = As.reverse ++ .ref b :: rest) (hW : (rest.map fun v => v.category).sum ≤ 8) (hf : cells + 0 ≤ R.cells ∧ slots + 0 ≤ R.slots) (hdg : decode cc pc = .ok (.invokevirtual index, 3))
    (kk : ∀ (ws' : va_W) (H : Heap) (locs : List Loc), post ws' → va_P D vwCl ws' H → va_D A ws' → va_S A H0 H locs → W p l e R s m args below meth c H locs cells slots Q (F0 m (pc + 3) ls rest)) : W p l e R s m args below meth c H locs cells slots Q (F0 m pc ls st) := by
  refine va_callv (va_runV (As := As) (rest := rest) ⟨hexec, hb, hml, hown, hts⟩ hM cw ⟨gBlind, va_recv hK hP hc hq, fun U hU hW => ⟨rfl, by rw [hU], by rw [hU]; exact hP, va_K.moved hW.alike hK, hD.weaken (fun _ _ _ _ => trivial)⟩⟩ rfl hn hls hst (lv_room hW) hdg hf) hS (fun q _ h => gFree hD hS hA q h) (gFree hD hS hA) (fun S' t H1 locs1 ht hvm hp hB hz hk hS1 => ?_)
  obtain ⟨h1, h2⟩ := gBack hD hS hA ht hB
  exact kk S' H1 locs1 hp h1 h2 hS1
end VGC
/-- the world with these two cells at the places i and j -/
def wZ (ws : va_W) (i j : Nat) (e1 e2 : Nat × va_E) : va_W := (ws.set j e2).set i e1
theorem wZ_i {ws : va_W} {i j : Nat} {e1 e2 : Nat × va_E} (hi : i < ws.length) : (wZ ws i j e1 e2)[i]? = some e1 := by
  unfold wZ
  rw [List.getElem?_set, if_pos rfl, if_pos (by rw [List.length_set]; exact hi)]
theorem wZ_j {ws : va_W} {i j : Nat} {e1 e2 : Nat × va_E} (hij : i ≠ j) (hj : j < ws.length) : (wZ ws i j e1 e2)[j]? = some e2 := by
  unfold wZ
  rw [List.getElem?_set, if_neg hij, List.getElem?_set, if_pos rfl, if_pos hj]
theorem wZ_n {ws : va_W} {i j k : Nat} {e1 e2 : Nat × va_E} (hi : i ≠ k) (hj : j ≠ k) : (wZ ws i j e1 e2)[k]? = ws[k]? := by
  unfold wZ
  rw [List.getElem?_set, if_neg hi, List.getElem?_set, if_neg hj]
theorem wZ_si {ws : va_W} {i j : Nat} {e1 e2 e : Nat × va_E} : (wZ ws i j e1 e2).set i e = wZ ws i j e e2 := by
  unfold wZ
  rw [List.set_set]
theorem wZ_sj {ws : va_W} {i j : Nat} {e1 e2 e : Nat × va_E} (hij : i ≠ j) : (wZ ws i j e1 e2).set j e = wZ ws i j e1 e := by
  unfold wZ
  rw [List.set_comm _ _ hij, List.set_set]
theorem wZ_self {ws : va_W} {i j : Nat} {e1 e2 : Nat × va_E} (h1 : ws[i]? = some e1) (h2 : ws[j]? = some e2) : wZ ws i j e1 e2 = ws := by
  apply List.ext_getElem?
  intro k
  unfold wZ
  rw [List.getElem?_set, List.getElem?_set, List.length_set]
  by_cases hi : i = k
  · subst hi
    rw [if_pos rfl, if_pos (List.getElem?_eq_some_iff.mp h1).1, h1]
  · rw [if_neg hi]
    by_cases hj : j = k
    · subst hj
      rw [if_pos rfl, if_pos (List.getElem?_eq_some_iff.mp h2).1, h2]
    · rw [if_neg hj]
