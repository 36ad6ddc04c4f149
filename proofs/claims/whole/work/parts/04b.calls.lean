/-! ends, contracts, calls -/
theorem x_size {p : Program} {l : Launch} {e : Env} {R : Room} {s : State} {m : MethodId} {args : Array Value} {below : List Frame} {meth : Method} {c : Code} {T : State} {locs : List Loc} {cells slots : Nat} {r : Ev} {n : Nat} {I : MI} {Q : MQ2} {H : Heap} (X0 : Stand p l e R s m args below meth c T locs cells slots) (hT : T.heap = H) (hz : s.heap.size + cells = evz r + n) (hle : evz r ≤ s.heap.size) (hW : WD r n I Q s H) (hS : va_S (fun q : Nat => evz r ≤ q) s.heap H locs) : H.size = evz r + n := by
  have h1 : T.heap.size ≤ s.heap.size + cells := X0.same.2.2.1
  rw [hT] at h1
  have h2 : evz r + n ≤ H.size := by
    cases n with
    | zero => exact Nat.le_trans hle hS.1
    | succ k => exact (hW.2 k _ (pool_get (Nat.lt_succ_self k))).lt
  omega
theorem x_iret {r : Ev} {d : Nat} {y : MethodName} {cc : ByteArray} {mr : Nat × Option FieldType} {k9 : Nat} {pc q : Nat} {lv : List (Option Value)} {st : List Value} {n : Nat} {I : MI} {Q : MQ2} {F : Post} {x : Int32} {ty : FieldType} (hd : DR cc pc .ireturn 1 q) (hr : mr.2 = some ty) (hn : narrow ty (.int x) = .int x) (h : F (some (.int x)) I Q) : X r d y cc mr (0, k9) pc lv [.int x] n I Q F := by
  intro p e s m args below meth c H locs cells slots mc ms R ls Qf C hW hS hl h1 h2 fin
  exact W.widen (Nat.le_of_eq h1.2) (by omega) (fin pc ls _ H locs _ I Q (Or.inl ⟨hd.1, x, ty, rfl, rfl, hr, hn⟩) h hW hS)
theorem x_vret {r : Ev} {d : Nat} {y : MethodName} {cc : ByteArray} {mr : Nat × Option FieldType} {k9 : Nat} {pc q : Nat} {lv : List (Option Value)} {st : List Value} {n : Nat} {I : MI} {Q : MQ2} {F : Post}  (hd : DR cc pc .return_ 1 q) (hr : mr.2 = none) (h : F (none) I Q) : X r d y cc mr (0, k9) pc lv [] n I Q F := by
  intro p e s m args below meth c H locs cells slots mc ms R ls Qf C hW hS hl h1 h2 fin
  exact W.widen (Nat.le_of_eq h1.2) (by omega) (fin pc ls _ H locs _ I Q (Or.inr (Or.inl ⟨hd.1, rfl, rfl, hr⟩)) h hW hS)
theorem x_aret {r : Ev} {d : Nat} {y : MethodName} {cc : ByteArray} {mr : Nat × Option FieldType} {k9 : Nat} {pc q : Nat} {lv : List (Option Value)} {st : List Value} {n : Nat} {I : MI} {Q : MQ2} {F : Post} {a : Nat} {rt : FieldType} (hd : DR cc pc .areturn 1 q) (hr : mr.2 = some rt) (hn : ∃ nm, rt = .object nm) (h : F (some (.ref a)) I Q) : X r d y cc mr (0, k9) pc lv [.ref a] n I Q F := by
  intro p e s m args below meth c H locs cells slots mc ms R ls Qf C hW hS hl h1 h2 fin
  exact W.widen (Nat.le_of_eq h1.2) (by omega) (fin pc ls _ H locs _ I Q (Or.inr (Or.inr ⟨hd.1, a, rt, rfl, rfl, hr, hn⟩)) h hW hS)
theorem x_mono {r : Ev} {d : Nat} {y : MethodName} {cc : ByteArray} {mr : Nat × Option FieldType} {b : Nat × Nat} {pc : Nat} {lv : List (Option Value)} {st : List Value} {n : Nat} {I : MI} {Q : MQ2} {F G : Post} (h : X r d y cc mr b pc lv st n I Q F) (hm : ∀ v I' Q', F v I' Q' → G v I' Q') : X r d y cc mr b pc lv st n I Q G :=
  fun p e s m args below meth c H locs cells slots mc ms R ls Qf C hW hS hl h1 h2 fin => h p e s m args below meth c H locs cells slots mc ms R ls Qf C hW hS hl h1 h2 (fun pc' ls' st' H' locs' v I' Q' hr hF => fin pc' ls' st' H' locs' v I' Q' hr (hm v I' Q' hF))
theorem lvs_entry (As : List Value) (mL : Nat) (hc : ∀ v ∈ As, v.category = 1) (hl : As.length ≤ mL) : LVS (lg_sl As ++ List.replicate (mL - (lg_sl As).length) Slot.unset).toArray mL (As.map some ++ List.replicate (mL - As.length) none) := by
  have hsl : lg_sl As = As.map Slot.val := by
    unfold lg_sl
    induction As with
    | nil => rfl
    | cons a t ih =>
      have h1 : a.category = 1 := hc a List.mem_cons_self
      rw [List.flatMap_cons, if_neg (by omega), ih (fun v hv => hc v (List.mem_cons_of_mem _ hv)) (by simp at hl; omega)]
      rfl
  have hlen : (lg_sl As).length ≤ mL := by rw [hsl, List.length_map]; exact hl
  have h := lv_entry As hlen
  refine ⟨h.1, h.2.1, fun i v hv => ?_⟩
  have hi : i < As.length := by
    by_cases hi : i < As.length
    · exact hi
    · rw [List.getElem?_append_right (by rw [List.length_map]; omega)] at hv
      exact absurd (List.eq_of_mem_replicate (List.mem_of_getElem? hv)) (by simp)
  rw [List.getElem?_append_left (by rw [List.length_map]; exact hi), List.getElem?_map, List.getElem?_eq_getElem hi] at hv
  have hv2 : As[i] = v := by simpa using hv
  rw [List.getElem?_toArray, hsl, List.getElem?_append_left (by rw [List.length_map]; exact hi), List.getElem?_map, List.getElem?_eq_getElem hi, hv2]
  rfl
/-- a walk from a method's first place gives its contract -/
theorem ct_of {r : Ev} {d : Nat} {y : MethodName} {cc : ByteArray} {mr : Nat × Option FieldType} {b : Nat × Nat} {As : List Value} {lv : List (Option Value)} {n : Nat} {I : MI} {Q : MQ2} {F : Post} (hy : plainName y.cls = true) (hc : As.all (fun v => v.category == 1) = true) (hl : Nat.ble As.length mr.1 = true) (hlv : As.map some ++ List.replicate (mr.1 - As.length) none = lv) (h : X r d y cc mr b 0 lv [] n I Q F) : CT r d y cc mr b As n I Q F := by
  refine Met.ofW (cc := cc) (maxL := mr.1) (ret := mr.2) hy rfl ?_
  intro p e s m args below meth c s₁ B hml hv
  obtain ⟨rfl, hsz, hWD, hZS⟩ := hv
  have hts := atoms_spec (ws := .code y cc mr.1 mr.2 :: wT) B.pre
  have hown : s.vm.findClass y.cls = some m.cls := findClass_of_methodNamed B.named
  have hr := B.returns
  rw [lg_entry_eq]
  refine h p e s m As.toArray below meth c s.heap [] 0 0 b.1 b.2 _ _ _ ⟨B.exec, B.bytes, hml, hown, fun w hw => hts w (List.mem_cons_of_mem _ hw), fun hn => (name_of_methodNamed B.named B.method).1.trans hn, by omega, Nat.le_refl d, Nat.le_refl _, Nat.le_refl _, Nat.le_refl _, hZS⟩ hWD va_S.rf (by rw [← hlv]; exact lvs_entry As mr.1 (fun v hv => by have := List.all_eq_true.mp hc v hv; simpa using this) (Nat.le_of_ble_eq_true hl)) ⟨by omega, by omega⟩ (by omega) ?_
  intro pc' ls' st' H' locs' v I' Q' hR hF hW hS
  rcases hR with ⟨hd, x, ty, rfl, rfl, hret, hn⟩ | ⟨hd, rfl, rfl, hret⟩ | ⟨hd, a, rt, rfl, rfl, hret, hn⟩
  · exact W.zret (v := x) B.exec B.bytes (hr.trans hret) hn (fun t ht hWm => ⟨⟨_, I', Q', rfl, hF, va_K.moved hWm.alike hW.1, by rw [ht]; exact hW.2⟩, hS.F ht⟩) hS.2.2 hd B.notSynchronized
  · exact W.vret B.exec B.bytes (hr.trans hret) (fun t ht hWm => ⟨⟨_, I', Q', rfl, hF, va_K.moved hWm.alike hW.1, by rw [ht]; exact hW.2⟩, hS.F ht⟩) hS.2.2 hd B.notSynchronized
  · exact W.aret B.exec B.bytes (hr.trans hret) (Or.inl hn) (Or.inr ⟨a, rfl⟩) (fun t ht hWm => ⟨⟨_, I', Q', rfl, hF, va_K.moved hWm.alike hW.1, by rw [ht]; exact hW.2⟩, hS.F ht⟩) hS.2.2 hd B.notSynchronized
/-- behind a call -/
theorem x_after {r : Ev} {d : Nat} {y : MethodName} {cc : ByteArray} {mr : Nat × Option FieldType} {b b' b2 : Nat × Nat} {pc : Nat} {lv : List (Option Value)} {st st0 : List Value} {n : Nat} {F F' : Post} {p : Program} {e : Env} {s : State} {m : MethodId} {args : Array Value} {below : List Frame} {meth : Method} {c : Code} {H : Heap} {locs : List Loc} {cells slots mc ms : Nat} {R : Room} {ls : Array Slot} {Qf : State → Prop}
    (C : XC r d y cc mr p s m args meth c R mc ms) (hS : va_S (fun q : Nat => evz r ≤ q) s.heap H locs) (hl : LVS ls mr.1 lv) (h1 : s.heap.size + cells = evz r + n ∧ cells + b.1 = mc) (h2 : slots + b.2 ≤ ms) (hb : b'.1 + b2.1 = b.1 ∧ b'.2 + b2.2 ≤ b.2)
    (hrun : va_Run p (evl r) e R s m args below meth c H locs cells slots b'.1 b'.2 (F0 m pc ls st0) st (fun st oc t => (∃ (v : Option Value) (I' : MI) (Q' : MQ2), oc = .returned v ∧ F' v I' Q' ∧ WD r (n + b'.1) I' Q' t t.heap) ∧ va_F (fun q : Nat => evz r ≤ q) st t) (fun q : Nat => evz r ≤ q))
    (k : ∀ (v : Option Value) (I' : MI) (Q' : MQ2), F' v I' Q' → X r d y cc mr b2 (pc + 3) lv (v.toList ++ st) (n + b'.1) I' Q' F)
    (fin : ∀ (pc' : Nat) (ls' : Array Slot) (st' : List Value) (H' : Heap) (locs' : List Loc) (v : Option Value) (I' : MI) (Q' : MQ2), RETS cc mr.2 pc' st' v → F v I' Q' → WD r (n + b.1) I' Q' s H' → va_S (fun q : Nat => evz r ≤ q) s.heap H' locs' → W p (evl r) e R s m args below meth c H' locs' mc ms Qf (F0 m pc' ls' st')) :
    W p (evl r) e R s m args below meth c H locs cells slots Qf (F0 m pc ls st0) := by
  intro T hT X0
  obtain ⟨v, st₀, t, T', L, h0, X', hL, e1, e2, ⟨⟨v', I', Q', hv, hF, hWD⟩, hz, hk⟩, stp⟩ := hrun T hT X0
  cases hv
  rw [h0] at hz hk
  have hWs : WD r (n + b'.1) I' Q' s T'.heap := ⟨va_K.moved (by rw [← e2]; exact X'.warmed.alike.symm) hWD.1, by rw [e1]; exact hWD.2⟩
  have hS' : va_S (fun q : Nat => evz r ≤ q) s.heap T'.heap (locs ++ L) := ⟨Nat.le_trans hS.1 (by rw [e1]; exact hz), fun q g1 g2 => by rw [e1, hk q (Nat.lt_of_lt_of_le g1 hS.1) g2]; exact hS.2.1 q g1 g2, fun q hq => by
      rcases List.mem_append.mp hq with h | h
      · exact hS.2.2 q h
      · exact hL q h⟩
  have hn : n + b'.1 + b2.1 = n + b.1 := by omega
  obtain ⟨t2, a1, b1⟩ := k v I' Q' hF p e s m args below meth c T'.heap (locs ++ L) (cells + b'.1) (slots + b'.2) mc ms R ls Qf C hWs hS' hl ⟨by omega, by omega⟩ (by omega) (by rw [hn]; exact fin) T' rfl X'
  exact ⟨t2, stp t2 a1, b1⟩
/-! what the tables say of a method that is called -/
def MFB (y : MethodName) (cc : ByteArray) (mr : Nat × Option FieldType) (k : Nat) : Prop := Cond.initialized y.cls ∈ wT ∧ Cond.code y cc mr.1 mr.2 ∈ wT ∧ (y.cls ≠ "java/lang/invoke/MethodHandle" ∧ y.cls ≠ "java/lang/invoke/VarHandle" ∧ (parseMethodDescriptor y.desc).map (fun d => d.parameters.length) = some k) ∧ mr.1 ≤ 21
def MLk (own : String) (idx : Nat) (y : MethodName) : Prop := Cond.methodLink own idx y ∈ wT
def MLn (own : String) (idx : Nat) (y : MethodName) : Prop := Cond.methodLinkNest own idx y "DewLooms" ∈ wN
def MFV (own : String) (idx : Nat) (y : MethodName) (cc : ByteArray) (mr : Nat × Option FieldType) (k : Nat) : Prop := MFB y cc mr k ∧ MLk own idx y ∧ Cond.instanceMethod y ∈ wT ∧ Cond.selects y.cls y y ∈ wT
def MFS (own : String) (idx : Nat) (y : MethodName) (cc : ByteArray) (mr : Nat × Option FieldType) (k : Nat) : Prop := MFB y cc mr k ∧ (MLk own idx y ∨ MLn own idx y) ∧ Cond.static y ∈ wT
def MFI (own : String) (idx : Nat) (y : MethodName) (cc : ByteArray) (mr : Nat × Option FieldType) (k : Nat) : Prop := MFB y cc mr k ∧ (MLk own idx y ∨ MLn own idx y) ∧ Cond.instanceMethod y ∈ wT ∧ y.name = "<init>"
theorem x_callB {r : Ev} {d d' : Nat} {y y' : MethodName} {cc cc' : ByteArray} {mr mr' : Nat × Option FieldType} {b' : Nat × Nat} {p : Program} {s : State} {m : MethodId} {args : Array Value} {meth : Method} {c : Code} {R : Room} {mc ms idx k : Nat} (C : XC r d y cc mr p s m args meth c R mc ms) (f : MFB y' cc' mr' k) (fl : MLk y.cls idx y') (hd : d' + 1 ≤ d) : CallB R s args y.cls idx y' cc' mr'.1 mr'.2 (.code y' cc' mr'.1 mr'.2 :: wT) ({ frames := d', cells := b'.1, slots := b'.2, locals := 40 * d' } : Room) b'.1 b'.2 k := by
  obtain ⟨f2, f3, f4, f5⟩ := f
  have hts := C.2.2.2.2.1
  have hR1 := C.2.2.2.2.2.2.2.1
  have hR2 := C.2.2.2.2.2.2.2.2.1
  exact callB_of (ws' := wT) k hts (wT_good (fun w hw => (List.mem_cons.mp hw).elim (fun e => by rw [e]; exact f3) id)) rfl rfl rfl (hts _ f2) (hts _ fl) f4 ⟨by show d' + 1 ≤ R.frames; omega, by show 8 + (mr'.1 + 11) + 40 * d' ≤ R.locals; omega⟩
theorem x_callN {r : Ev} {d d' : Nat} {y y' : MethodName} {cc cc' : ByteArray} {mr mr' : Nat × Option FieldType} {b' : Nat × Nat} {p : Program} {s : State} {m : MethodId} {args : Array Value} {meth : Method} {c : Code} {R : Room} {mc ms idx k : Nat} (C : XC r d y cc mr p s m args meth c R mc ms) (f : MFB y' cc' mr' k) (fl : MLn y.cls idx y') (hd : d' + 1 ≤ d) : va_CN R s args y.cls idx y' "DewLooms" cc' mr'.1 mr'.2 (.code y' cc' mr'.1 mr'.2 :: wT) ({ frames := d', cells := b'.1, slots := b'.2, locals := 40 * d' } : Room) b'.1 b'.2 k := by
  obtain ⟨f2, f3, f4, f5⟩ := f
  have hts := C.2.2.2.2.1
  have hR1 := C.2.2.2.2.2.2.2.1
  have hR2 := C.2.2.2.2.2.2.2.2.1
  exact va_cnB (ws' := wT) k hts (wT_good (fun w hw => (List.mem_cons.mp hw).elim (fun e => by rw [e]; exact f3) id)) rfl rfl rfl (C.2.2.2.2.2.2.2.2.2.2.2.1 _ fl) (hts _ f2) f4 ⟨by show d' + 1 ≤ R.frames; omega, by show 8 + (mr'.1 + 11) + 40 * d' ≤ R.locals; omega⟩
theorem x_pre {r : Ev} {n : Nat} {I : MI} {Q : MQ2} {As : List Value} : FrameBlind (va_Pc As (fun U => U.heap.size = evz r + n ∧ WD r n I Q U U.heap ∧ ZS r U U.heap)) := by
  intro a U g mk q
  obtain ⟨q0, q1, q2, z0, z9, ⟨z1, z2, z3, z4⟩, z5, z6⟩ := q
  exact ⟨q0, q1, ⟨va_K.moved (u := U) (U := U.calling g mk a) (Vm.Alike.refl U.vm) q2.1, q2.2⟩, fun w hw => va_Nw.same (nest_tab (List.mem_filter.mp hw).2) (u := U) rfl (z0 w hw), ⟨z9.1.moved (u := U) (U := U.calling g mk a) (Vm.Alike.refl U.vm), z9.2.moved (u := U) (U := U.calling g mk a) (Vm.Alike.refl U.vm)⟩, ⟨z1.moved (u := U) (U := U.calling g mk a) (Vm.Alike.refl U.vm), vk_R.same (u := U) rfl z2, z3.moved (u := U) (U := U.calling g mk a) (Vm.Alike.refl U.vm), z4.moved (u := U) (U := U.calling g mk a) (Vm.Alike.refl U.vm)⟩, z5.moved (u := U) (U := U.calling g mk a) (Vm.Alike.refl U.vm), z6⟩

theorem x_callV {r : Ev} {d : Nat} {y : MethodName} {cc : ByteArray} {mr : Nat × Option FieldType} {b : Nat × Nat} {pc q : Nat} {lv : List (Option Value)} {st : List Value} {n : Nat} {I : MI} {Q : MQ2} {F : Post} {d' : Nat} {y' : MethodName} {cc' : ByteArray} {mr' : Nat × Option FieldType} {b' b2 : Nat × Nat} {idx k0 : Nat} {F' : Post} {As : List Value} {ci id : Nat} (hd : DR cc pc (.invokevirtual idx) 3 q) (f : MFV y.cls idx y' cc' mr' k0) (ho : Ob n ci id) (hci : ci < 10) (hcl : clC ci = y'.cls) (hc : CT r d' y' cc' mr' b' (.ref (evz r + id) :: As) n I Q F') (hdd : Nat.ble (d' + 1) d = true) (hlen : As.length = k0) (hst : Nat.ble (st.map (fun v => v.category)).sum 8 = true) (hb : b'.1 + b2.1 = b.1 ∧ b'.2 + b2.2 ≤ b.2) (k : ∀ (v : Option Value) (I' : MI) (Q' : MQ2), F' v I' Q' → X r d y cc mr b2 q lv (v.toList ++ st) (n + b'.1) I' Q' F) : X r d y cc mr b pc lv (As.reverse ++ .ref (evz r + id) :: st) n I Q F := by
  intro p e s m args below meth c H locs cells slots mc ms R ls Qf C hW hS hl h1 h2 fin
  obtain ⟨hd, rfl⟩ := hd
  intro T hT X0
  have hsz := x_size X0 hT h1.1 C.2.2.2.2.2.2.1 hW hS
  have hf : cells + b'.1 ≤ R.cells ∧ slots + b'.2 ≤ R.slots := by have := C.2.2.2.2.2.2.2.2.2.1; have := C.2.2.2.2.2.2.2.2.2.2.1; omega
  have fl := f.2.1
  · have hcb := x_callB (b' := b') C f.1 fl (Nat.le_of_ble_eq_true hdd)
    refine x_after C hS hl h1 h2 hb (va_runV (As := As) (rest := st) ⟨C.1, C.2.1, C.2.2.1, C.2.2.2.1, C.2.2.2.2.1⟩ hc ⟨hcb, C.2.2.2.2.1 _ f.2.2.1, C.2.2.2.2.1 _ f.2.2.2⟩ ⟨x_pre, (by rw [← hcl]; exact va_recv (q := (clC ci, clT ci, nf ci)) hW.1 hW.2 (ci := ci) (q0 := id) (cf_ok ci hci).1 (wd_at ho hci)), fun U hU hWm => ⟨rfl, by rw [hU]; exact hsz, ⟨va_K.moved hWm.alike hW.1, by rw [hU]; exact hW.2⟩, by rw [hU]; exact C.2.2.2.2.2.2.2.2.2.2.2.goes hS hWm⟩⟩ rfl hlen hl.1 rfl (by show 2 * 0 + _ ≤ 8; have := Nat.le_of_ble_eq_true hst; omega) hd hf) k fin T hT X0
theorem x_callS {r : Ev} {d : Nat} {y : MethodName} {cc : ByteArray} {mr : Nat × Option FieldType} {b : Nat × Nat} {pc q : Nat} {lv : List (Option Value)} {st : List Value} {n : Nat} {I : MI} {Q : MQ2} {F : Post} {d' : Nat} {y' : MethodName} {cc' : ByteArray} {mr' : Nat × Option FieldType} {b' b2 : Nat × Nat} {idx k0 : Nat} {F' : Post} {As : List Value} (hd : DR cc pc (.invokestatic idx) 3 q) (f : MFS y.cls idx y' cc' mr' k0)  (hc : CT r d' y' cc' mr' b' As n I Q F') (hdd : Nat.ble (d' + 1) d = true) (hlen : As.length = k0) (hst : Nat.ble (st.map (fun v => v.category)).sum 8 = true) (hb : b'.1 + b2.1 = b.1 ∧ b'.2 + b2.2 ≤ b.2) (k : ∀ (v : Option Value) (I' : MI) (Q' : MQ2), F' v I' Q' → X r d y cc mr b2 q lv (v.toList ++ st) (n + b'.1) I' Q' F) : X r d y cc mr b pc lv (As.reverse ++ st) n I Q F := by
  intro p e s m args below meth c H locs cells slots mc ms R ls Qf C hW hS hl h1 h2 fin
  obtain ⟨hd, rfl⟩ := hd
  intro T hT X0
  have hsz := x_size X0 hT h1.1 C.2.2.2.2.2.2.1 hW hS
  have hf : cells + b'.1 ≤ R.cells ∧ slots + b'.2 ≤ R.slots := by have := C.2.2.2.2.2.2.2.2.2.1; have := C.2.2.2.2.2.2.2.2.2.2.1; omega
  rcases f.2.1 with fl | fl
  · have hcb := x_callB (b' := b') C f.1 fl (Nat.le_of_ble_eq_true hdd)
    refine x_after C hS hl h1 h2 hb (va_runS (As := As) (rest := st) ⟨C.1, C.2.1, C.2.2.1, C.2.2.2.1, C.2.2.2.2.1⟩ hc ⟨hcb, C.2.2.2.2.1 _ f.2.2⟩ ⟨x_pre, fun U hU hWm => ⟨rfl, by rw [hU]; exact hsz, ⟨va_K.moved hWm.alike hW.1, by rw [hU]; exact hW.2⟩, by rw [hU]; exact C.2.2.2.2.2.2.2.2.2.2.2.goes hS hWm⟩⟩ rfl hlen hl.1 rfl (by show 2 * 0 + _ ≤ 8; have := Nat.le_of_ble_eq_true hst; omega) hd hf) k fin T hT X0
  · have hcb := x_callN (b' := b') C f.1 fl (Nat.le_of_ble_eq_true hdd)
    refine x_after C hS hl h1 h2 hb (va_runSN (As := As) (rest := st) ⟨C.1, C.2.1, C.2.2.1, C.2.2.2.1, C.2.2.2.2.1⟩ hc ⟨hcb, C.2.2.2.2.1 _ f.2.2, trivial⟩ ⟨x_pre, fun U hU hWm => ⟨rfl, by rw [hU]; exact hsz, ⟨va_K.moved hWm.alike hW.1, by rw [hU]; exact hW.2⟩, by rw [hU]; exact C.2.2.2.2.2.2.2.2.2.2.2.goes hS hWm⟩⟩ rfl hlen hl.1 rfl (by show 2 * 0 + _ ≤ 8; have := Nat.le_of_ble_eq_true hst; omega) hd hf) k fin T hT X0
theorem x_callI {r : Ev} {d : Nat} {y : MethodName} {cc : ByteArray} {mr : Nat × Option FieldType} {b : Nat × Nat} {pc q : Nat} {lv : List (Option Value)} {st : List Value} {n : Nat} {I : MI} {Q : MQ2} {F : Post} {d' : Nat} {y' : MethodName} {cc' : ByteArray} {b' b2 : Nat × Nat} {idx k0 : Nat} {F' : Post} {As : List Value} {a mL9 : Nat} (hd : DR cc pc (.invokespecial idx) 3 q) (f : MFI y.cls idx y' cc' (mL9, none) k0)  (hc : CT r d' y' cc' (mL9, none) b' (.ref a :: As) n I Q F') (hdd : Nat.ble (d' + 1) d = true) (hlen : As.length = k0) (hst : Nat.ble (st.map (fun v => v.category)).sum 8 = true) (hb : b'.1 + b2.1 = b.1 ∧ b'.2 + b2.2 ≤ b.2) (k : ∀ (v : Option Value) (I' : MI) (Q' : MQ2), F' v I' Q' → X r d y cc mr b2 q lv (v.toList ++ st) (n + b'.1) I' Q' F) : X r d y cc mr b pc lv (As.reverse ++ .ref a :: st) n I Q F := by
  intro p e s m args below meth c H locs cells slots mc ms R ls Qf C hW hS hl h1 h2 fin
  obtain ⟨hd, rfl⟩ := hd
  intro T hT X0
  have hsz := x_size X0 hT h1.1 C.2.2.2.2.2.2.1 hW hS
  have hf : cells + b'.1 ≤ R.cells ∧ slots + b'.2 ≤ R.slots := by have := C.2.2.2.2.2.2.2.2.2.1; have := C.2.2.2.2.2.2.2.2.2.2.1; omega
  rcases f.2.1 with fl | fl
  · have hcb := x_callB (b' := b') C f.1 fl (Nat.le_of_ble_eq_true hdd)
    refine x_after C hS hl h1 h2 hb (va_runI (As := As) (rest := st) ⟨C.1, C.2.1, C.2.2.1, C.2.2.2.1, C.2.2.2.2.1⟩ hc ⟨hcb, f.2.2.2, C.2.2.2.2.1 _ f.2.2.1⟩ ⟨x_pre, fun U hU hWm => ⟨rfl, by rw [hU]; exact hsz, ⟨va_K.moved hWm.alike hW.1, by rw [hU]; exact hW.2⟩, by rw [hU]; exact C.2.2.2.2.2.2.2.2.2.2.2.goes hS hWm⟩⟩ rfl hlen hl.1 rfl (by show 2 * 0 + _ ≤ 8; have := Nat.le_of_ble_eq_true hst; omega) hd hf) k fin T hT X0
  · have hcb := x_callN (b' := b') C f.1 fl (Nat.le_of_ble_eq_true hdd)
    refine x_after C hS hl h1 h2 hb (va_runIN (As := As) (rest := st) ⟨C.1, C.2.1, C.2.2.1, C.2.2.2.1, C.2.2.2.2.1⟩ hc ⟨hcb, f.2.2.2, C.2.2.2.2.1 _ f.2.2.1⟩ ⟨x_pre, fun U hU hWm => ⟨rfl, by rw [hU]; exact hsz, ⟨va_K.moved hWm.alike hW.1, by rw [hU]; exact hW.2⟩, by rw [hU]; exact C.2.2.2.2.2.2.2.2.2.2.2.goes hS hWm⟩⟩ rfl hlen hl.1 rfl (by show 2 * 0 + _ ≤ 8; have := Nat.le_of_ble_eq_true hst; omega) hd hf) k fin T hT X0
