/-! answers: ri an int, rv nothing, ro an object; the references stay -/
def ri (Q : MQ2) (G : Int32 → MI → Prop) : Post := fun v I' Q' => ∃ x : Int32, v = some (.int x) ∧ Q' = Q ∧ G x I'
def rv (Q : MQ2) (G : MI → Prop) : Post := fun v I' Q' => v = none ∧ Q' = Q ∧ G I'
def ro (r : Ev) (I : MI) (Q : MQ2) (id : Nat) : Post := fun v I' Q' => v = some (.ref (evz r + id)) ∧ Q' = Q ∧ I' = I
def RI (G : Int32 → MI → MQ2 → Prop) : Post := fun v I' Q' => ∃ x : Int32, v = some (.int x) ∧ G x I' Q'
def RV (G : MI → MQ2 → Prop) : Post := fun v I' Q' => v = none ∧ G I' Q'
def Fits8 (st : List Value) : Prop := Nat.ble (st.map (fun v => v.category)).sum 8 = true
theorem x_V0i {r : Ev} {d : Nat} {y : MethodName} {cc : ByteArray} {mr : Nat × Option FieldType} {b : Nat × Nat} {pc q : Nat} {lv : List (Option Value)} {st : List Value} {n : Nat} {I : MI} {Q : MQ2} {F : Post} {d' : Nat} {y' : MethodName} {cc' : ByteArray} {mr' : Nat × Option FieldType} {idx : Nat} {ci id : Nat} {G : Int32 → MI → Prop} (hd : DR cc pc (.invokevirtual idx) 3 q) (f : MFV y.cls idx y' cc' mr' 0) (hc : CT r d' y' cc' mr' (0, 0) [.ref (evz r + id)] n I Q (ri Q G)) (ho : Ob n ci id) (k : ∀ (x : Int32) (I' : MI), G x I' → X r d y cc mr b q lv (.int x :: st) n I' Q F) (hci : Nat.ble (ci + 1) 10 = true := by rfl) (hcl : clC ci = y'.cls := by rfl) (hdd : Nat.ble (d' + 1) d = true := by rfl) (hst : Fits8 st := by rfl) : X r d y cc mr b pc lv (.ref (evz r + id) :: st) n I Q F :=
  x_callV (As := []) (b2 := b) hd f ho (Nat.le_of_ble_eq_true hci) hcl hc hdd rfl hst ⟨Nat.zero_add _, Nat.le_of_eq (Nat.zero_add _)⟩ (fun v I' Q' h => by obtain ⟨x, rfl, rfl, h⟩ := h; exact k x I' h)
theorem x_S0i {r : Ev} {d : Nat} {y : MethodName} {cc : ByteArray} {mr : Nat × Option FieldType} {b : Nat × Nat} {pc q : Nat} {lv : List (Option Value)} {st : List Value} {n : Nat} {I : MI} {Q : MQ2} {F : Post} {d' : Nat} {y' : MethodName} {cc' : ByteArray} {mr' : Nat × Option FieldType} {idx : Nat} {G : Int32 → MI → Prop} (hd : DR cc pc (.invokestatic idx) 3 q) (f : MFS y.cls idx y' cc' mr' 0) (hc : CT r d' y' cc' mr' (0, 0) [] n I Q (ri Q G)) (k : ∀ (x : Int32) (I' : MI), G x I' → X r d y cc mr b q lv (.int x :: st) n I' Q F) (hdd : Nat.ble (d' + 1) d = true := by rfl) (hst : Fits8 st := by rfl) : X r d y cc mr b pc lv (st) n I Q F :=
  x_callS (As := []) (b2 := b) hd f hc hdd rfl hst ⟨Nat.zero_add _, Nat.le_of_eq (Nat.zero_add _)⟩ (fun v I' Q' h => by obtain ⟨x, rfl, rfl, h⟩ := h; exact k x I' h)
theorem x_V1i {r : Ev} {d : Nat} {y : MethodName} {cc : ByteArray} {mr : Nat × Option FieldType} {b : Nat × Nat} {pc q : Nat} {lv : List (Option Value)} {st : List Value} {n : Nat} {I : MI} {Q : MQ2} {F : Post} {d' : Nat} {y' : MethodName} {cc' : ByteArray} {mr' : Nat × Option FieldType} {idx : Nat} {v1 : Value} {ci id : Nat} {G : Int32 → MI → Prop} (hd : DR cc pc (.invokevirtual idx) 3 q) (f : MFV y.cls idx y' cc' mr' 1) (hc : CT r d' y' cc' mr' (0, 0) [.ref (evz r + id), v1] n I Q (ri Q G)) (ho : Ob n ci id) (k : ∀ (x : Int32) (I' : MI), G x I' → X r d y cc mr b q lv (.int x :: st) n I' Q F) (hci : Nat.ble (ci + 1) 10 = true := by rfl) (hcl : clC ci = y'.cls := by rfl) (hdd : Nat.ble (d' + 1) d = true := by rfl) (hst : Fits8 st := by rfl) : X r d y cc mr b pc lv (v1 :: .ref (evz r + id) :: st) n I Q F :=
  x_callV (As := [v1]) (b2 := b) hd f ho (Nat.le_of_ble_eq_true hci) hcl hc hdd rfl hst ⟨Nat.zero_add _, Nat.le_of_eq (Nat.zero_add _)⟩ (fun v I' Q' h => by obtain ⟨x, rfl, rfl, h⟩ := h; exact k x I' h)
theorem x_S1i {r : Ev} {d : Nat} {y : MethodName} {cc : ByteArray} {mr : Nat × Option FieldType} {b : Nat × Nat} {pc q : Nat} {lv : List (Option Value)} {st : List Value} {n : Nat} {I : MI} {Q : MQ2} {F : Post} {d' : Nat} {y' : MethodName} {cc' : ByteArray} {mr' : Nat × Option FieldType} {idx : Nat} {v1 : Value} {G : Int32 → MI → Prop} (hd : DR cc pc (.invokestatic idx) 3 q) (f : MFS y.cls idx y' cc' mr' 1) (hc : CT r d' y' cc' mr' (0, 0) [v1] n I Q (ri Q G)) (k : ∀ (x : Int32) (I' : MI), G x I' → X r d y cc mr b q lv (.int x :: st) n I' Q F) (hdd : Nat.ble (d' + 1) d = true := by rfl) (hst : Fits8 st := by rfl) : X r d y cc mr b pc lv (v1 :: st) n I Q F :=
  x_callS (As := [v1]) (b2 := b) hd f hc hdd rfl hst ⟨Nat.zero_add _, Nat.le_of_eq (Nat.zero_add _)⟩ (fun v I' Q' h => by obtain ⟨x, rfl, rfl, h⟩ := h; exact k x I' h)
theorem x_V2i {r : Ev} {d : Nat} {y : MethodName} {cc : ByteArray} {mr : Nat × Option FieldType} {b : Nat × Nat} {pc q : Nat} {lv : List (Option Value)} {st : List Value} {n : Nat} {I : MI} {Q : MQ2} {F : Post} {d' : Nat} {y' : MethodName} {cc' : ByteArray} {mr' : Nat × Option FieldType} {idx : Nat} {v1 v2 : Value} {ci id : Nat} {G : Int32 → MI → Prop} (hd : DR cc pc (.invokevirtual idx) 3 q) (f : MFV y.cls idx y' cc' mr' 2) (hc : CT r d' y' cc' mr' (0, 0) [.ref (evz r + id), v1, v2] n I Q (ri Q G)) (ho : Ob n ci id) (k : ∀ (x : Int32) (I' : MI), G x I' → X r d y cc mr b q lv (.int x :: st) n I' Q F) (hci : Nat.ble (ci + 1) 10 = true := by rfl) (hcl : clC ci = y'.cls := by rfl) (hdd : Nat.ble (d' + 1) d = true := by rfl) (hst : Fits8 st := by rfl) : X r d y cc mr b pc lv (v2 :: v1 :: .ref (evz r + id) :: st) n I Q F :=
  x_callV (As := [v1, v2]) (b2 := b) hd f ho (Nat.le_of_ble_eq_true hci) hcl hc hdd rfl hst ⟨Nat.zero_add _, Nat.le_of_eq (Nat.zero_add _)⟩ (fun v I' Q' h => by obtain ⟨x, rfl, rfl, h⟩ := h; exact k x I' h)
theorem x_S2i {r : Ev} {d : Nat} {y : MethodName} {cc : ByteArray} {mr : Nat × Option FieldType} {b : Nat × Nat} {pc q : Nat} {lv : List (Option Value)} {st : List Value} {n : Nat} {I : MI} {Q : MQ2} {F : Post} {d' : Nat} {y' : MethodName} {cc' : ByteArray} {mr' : Nat × Option FieldType} {idx : Nat} {v1 v2 : Value} {G : Int32 → MI → Prop} (hd : DR cc pc (.invokestatic idx) 3 q) (f : MFS y.cls idx y' cc' mr' 2) (hc : CT r d' y' cc' mr' (0, 0) [v1, v2] n I Q (ri Q G)) (k : ∀ (x : Int32) (I' : MI), G x I' → X r d y cc mr b q lv (.int x :: st) n I' Q F) (hdd : Nat.ble (d' + 1) d = true := by rfl) (hst : Fits8 st := by rfl) : X r d y cc mr b pc lv (v2 :: v1 :: st) n I Q F :=
  x_callS (As := [v1, v2]) (b2 := b) hd f hc hdd rfl hst ⟨Nat.zero_add _, Nat.le_of_eq (Nat.zero_add _)⟩ (fun v I' Q' h => by obtain ⟨x, rfl, rfl, h⟩ := h; exact k x I' h)
theorem x_V3i {r : Ev} {d : Nat} {y : MethodName} {cc : ByteArray} {mr : Nat × Option FieldType} {b : Nat × Nat} {pc q : Nat} {lv : List (Option Value)} {st : List Value} {n : Nat} {I : MI} {Q : MQ2} {F : Post} {d' : Nat} {y' : MethodName} {cc' : ByteArray} {mr' : Nat × Option FieldType} {idx : Nat} {v1 v2 v3 : Value} {ci id : Nat} {G : Int32 → MI → Prop} (hd : DR cc pc (.invokevirtual idx) 3 q) (f : MFV y.cls idx y' cc' mr' 3) (hc : CT r d' y' cc' mr' (0, 0) [.ref (evz r + id), v1, v2, v3] n I Q (ri Q G)) (ho : Ob n ci id) (k : ∀ (x : Int32) (I' : MI), G x I' → X r d y cc mr b q lv (.int x :: st) n I' Q F) (hci : Nat.ble (ci + 1) 10 = true := by rfl) (hcl : clC ci = y'.cls := by rfl) (hdd : Nat.ble (d' + 1) d = true := by rfl) (hst : Fits8 st := by rfl) : X r d y cc mr b pc lv (v3 :: v2 :: v1 :: .ref (evz r + id) :: st) n I Q F :=
  x_callV (As := [v1, v2, v3]) (b2 := b) hd f ho (Nat.le_of_ble_eq_true hci) hcl hc hdd rfl hst ⟨Nat.zero_add _, Nat.le_of_eq (Nat.zero_add _)⟩ (fun v I' Q' h => by obtain ⟨x, rfl, rfl, h⟩ := h; exact k x I' h)
theorem x_S3i {r : Ev} {d : Nat} {y : MethodName} {cc : ByteArray} {mr : Nat × Option FieldType} {b : Nat × Nat} {pc q : Nat} {lv : List (Option Value)} {st : List Value} {n : Nat} {I : MI} {Q : MQ2} {F : Post} {d' : Nat} {y' : MethodName} {cc' : ByteArray} {mr' : Nat × Option FieldType} {idx : Nat} {v1 v2 v3 : Value} {G : Int32 → MI → Prop} (hd : DR cc pc (.invokestatic idx) 3 q) (f : MFS y.cls idx y' cc' mr' 3) (hc : CT r d' y' cc' mr' (0, 0) [v1, v2, v3] n I Q (ri Q G)) (k : ∀ (x : Int32) (I' : MI), G x I' → X r d y cc mr b q lv (.int x :: st) n I' Q F) (hdd : Nat.ble (d' + 1) d = true := by rfl) (hst : Fits8 st := by rfl) : X r d y cc mr b pc lv (v3 :: v2 :: v1 :: st) n I Q F :=
  x_callS (As := [v1, v2, v3]) (b2 := b) hd f hc hdd rfl hst ⟨Nat.zero_add _, Nat.le_of_eq (Nat.zero_add _)⟩ (fun v I' Q' h => by obtain ⟨x, rfl, rfl, h⟩ := h; exact k x I' h)
theorem x_V4i {r : Ev} {d : Nat} {y : MethodName} {cc : ByteArray} {mr : Nat × Option FieldType} {b : Nat × Nat} {pc q : Nat} {lv : List (Option Value)} {st : List Value} {n : Nat} {I : MI} {Q : MQ2} {F : Post} {d' : Nat} {y' : MethodName} {cc' : ByteArray} {mr' : Nat × Option FieldType} {idx : Nat} {v1 v2 v3 v4 : Value} {ci id : Nat} {G : Int32 → MI → Prop} (hd : DR cc pc (.invokevirtual idx) 3 q) (f : MFV y.cls idx y' cc' mr' 4) (hc : CT r d' y' cc' mr' (0, 0) [.ref (evz r + id), v1, v2, v3, v4] n I Q (ri Q G)) (ho : Ob n ci id) (k : ∀ (x : Int32) (I' : MI), G x I' → X r d y cc mr b q lv (.int x :: st) n I' Q F) (hci : Nat.ble (ci + 1) 10 = true := by rfl) (hcl : clC ci = y'.cls := by rfl) (hdd : Nat.ble (d' + 1) d = true := by rfl) (hst : Fits8 st := by rfl) : X r d y cc mr b pc lv (v4 :: v3 :: v2 :: v1 :: .ref (evz r + id) :: st) n I Q F :=
  x_callV (As := [v1, v2, v3, v4]) (b2 := b) hd f ho (Nat.le_of_ble_eq_true hci) hcl hc hdd rfl hst ⟨Nat.zero_add _, Nat.le_of_eq (Nat.zero_add _)⟩ (fun v I' Q' h => by obtain ⟨x, rfl, rfl, h⟩ := h; exact k x I' h)
theorem x_S4i {r : Ev} {d : Nat} {y : MethodName} {cc : ByteArray} {mr : Nat × Option FieldType} {b : Nat × Nat} {pc q : Nat} {lv : List (Option Value)} {st : List Value} {n : Nat} {I : MI} {Q : MQ2} {F : Post} {d' : Nat} {y' : MethodName} {cc' : ByteArray} {mr' : Nat × Option FieldType} {idx : Nat} {v1 v2 v3 v4 : Value} {G : Int32 → MI → Prop} (hd : DR cc pc (.invokestatic idx) 3 q) (f : MFS y.cls idx y' cc' mr' 4) (hc : CT r d' y' cc' mr' (0, 0) [v1, v2, v3, v4] n I Q (ri Q G)) (k : ∀ (x : Int32) (I' : MI), G x I' → X r d y cc mr b q lv (.int x :: st) n I' Q F) (hdd : Nat.ble (d' + 1) d = true := by rfl) (hst : Fits8 st := by rfl) : X r d y cc mr b pc lv (v4 :: v3 :: v2 :: v1 :: st) n I Q F :=
  x_callS (As := [v1, v2, v3, v4]) (b2 := b) hd f hc hdd rfl hst ⟨Nat.zero_add _, Nat.le_of_eq (Nat.zero_add _)⟩ (fun v I' Q' h => by obtain ⟨x, rfl, rfl, h⟩ := h; exact k x I' h)
theorem x_V0v {r : Ev} {d : Nat} {y : MethodName} {cc : ByteArray} {mr : Nat × Option FieldType} {b : Nat × Nat} {pc q : Nat} {lv : List (Option Value)} {st : List Value} {n : Nat} {I : MI} {Q : MQ2} {F : Post} {d' : Nat} {y' : MethodName} {cc' : ByteArray} {mr' : Nat × Option FieldType} {idx : Nat} {ci id : Nat} {G : MI → Prop} (hd : DR cc pc (.invokevirtual idx) 3 q) (f : MFV y.cls idx y' cc' mr' 0) (hc : CT r d' y' cc' mr' (0, 0) [.ref (evz r + id)] n I Q (rv Q G)) (ho : Ob n ci id) (k : ∀ (I' : MI), G I' → X r d y cc mr b q lv st n I' Q F) (hci : Nat.ble (ci + 1) 10 = true := by rfl) (hcl : clC ci = y'.cls := by rfl) (hdd : Nat.ble (d' + 1) d = true := by rfl) (hst : Fits8 st := by rfl) : X r d y cc mr b pc lv (.ref (evz r + id) :: st) n I Q F :=
  x_callV (As := []) (b2 := b) hd f ho (Nat.le_of_ble_eq_true hci) hcl hc hdd rfl hst ⟨Nat.zero_add _, Nat.le_of_eq (Nat.zero_add _)⟩ (fun v I' Q' h => by obtain ⟨rfl, rfl, h⟩ := h; exact k I' h)
theorem x_S0v {r : Ev} {d : Nat} {y : MethodName} {cc : ByteArray} {mr : Nat × Option FieldType} {b : Nat × Nat} {pc q : Nat} {lv : List (Option Value)} {st : List Value} {n : Nat} {I : MI} {Q : MQ2} {F : Post} {d' : Nat} {y' : MethodName} {cc' : ByteArray} {mr' : Nat × Option FieldType} {idx : Nat} {G : MI → Prop} (hd : DR cc pc (.invokestatic idx) 3 q) (f : MFS y.cls idx y' cc' mr' 0) (hc : CT r d' y' cc' mr' (0, 0) [] n I Q (rv Q G)) (k : ∀ (I' : MI), G I' → X r d y cc mr b q lv st n I' Q F) (hdd : Nat.ble (d' + 1) d = true := by rfl) (hst : Fits8 st := by rfl) : X r d y cc mr b pc lv (st) n I Q F :=
  x_callS (As := []) (b2 := b) hd f hc hdd rfl hst ⟨Nat.zero_add _, Nat.le_of_eq (Nat.zero_add _)⟩ (fun v I' Q' h => by obtain ⟨rfl, rfl, h⟩ := h; exact k I' h)
theorem x_V1v {r : Ev} {d : Nat} {y : MethodName} {cc : ByteArray} {mr : Nat × Option FieldType} {b : Nat × Nat} {pc q : Nat} {lv : List (Option Value)} {st : List Value} {n : Nat} {I : MI} {Q : MQ2} {F : Post} {d' : Nat} {y' : MethodName} {cc' : ByteArray} {mr' : Nat × Option FieldType} {idx : Nat} {v1 : Value} {ci id : Nat} {G : MI → Prop} (hd : DR cc pc (.invokevirtual idx) 3 q) (f : MFV y.cls idx y' cc' mr' 1) (hc : CT r d' y' cc' mr' (0, 0) [.ref (evz r + id), v1] n I Q (rv Q G)) (ho : Ob n ci id) (k : ∀ (I' : MI), G I' → X r d y cc mr b q lv st n I' Q F) (hci : Nat.ble (ci + 1) 10 = true := by rfl) (hcl : clC ci = y'.cls := by rfl) (hdd : Nat.ble (d' + 1) d = true := by rfl) (hst : Fits8 st := by rfl) : X r d y cc mr b pc lv (v1 :: .ref (evz r + id) :: st) n I Q F :=
  x_callV (As := [v1]) (b2 := b) hd f ho (Nat.le_of_ble_eq_true hci) hcl hc hdd rfl hst ⟨Nat.zero_add _, Nat.le_of_eq (Nat.zero_add _)⟩ (fun v I' Q' h => by obtain ⟨rfl, rfl, h⟩ := h; exact k I' h)
theorem x_S1v {r : Ev} {d : Nat} {y : MethodName} {cc : ByteArray} {mr : Nat × Option FieldType} {b : Nat × Nat} {pc q : Nat} {lv : List (Option Value)} {st : List Value} {n : Nat} {I : MI} {Q : MQ2} {F : Post} {d' : Nat} {y' : MethodName} {cc' : ByteArray} {mr' : Nat × Option FieldType} {idx : Nat} {v1 : Value} {G : MI → Prop} (hd : DR cc pc (.invokestatic idx) 3 q) (f : MFS y.cls idx y' cc' mr' 1) (hc : CT r d' y' cc' mr' (0, 0) [v1] n I Q (rv Q G)) (k : ∀ (I' : MI), G I' → X r d y cc mr b q lv st n I' Q F) (hdd : Nat.ble (d' + 1) d = true := by rfl) (hst : Fits8 st := by rfl) : X r d y cc mr b pc lv (v1 :: st) n I Q F :=
  x_callS (As := [v1]) (b2 := b) hd f hc hdd rfl hst ⟨Nat.zero_add _, Nat.le_of_eq (Nat.zero_add _)⟩ (fun v I' Q' h => by obtain ⟨rfl, rfl, h⟩ := h; exact k I' h)
theorem x_V2v {r : Ev} {d : Nat} {y : MethodName} {cc : ByteArray} {mr : Nat × Option FieldType} {b : Nat × Nat} {pc q : Nat} {lv : List (Option Value)} {st : List Value} {n : Nat} {I : MI} {Q : MQ2} {F : Post} {d' : Nat} {y' : MethodName} {cc' : ByteArray} {mr' : Nat × Option FieldType} {idx : Nat} {v1 v2 : Value} {ci id : Nat} {G : MI → Prop} (hd : DR cc pc (.invokevirtual idx) 3 q) (f : MFV y.cls idx y' cc' mr' 2) (hc : CT r d' y' cc' mr' (0, 0) [.ref (evz r + id), v1, v2] n I Q (rv Q G)) (ho : Ob n ci id) (k : ∀ (I' : MI), G I' → X r d y cc mr b q lv st n I' Q F) (hci : Nat.ble (ci + 1) 10 = true := by rfl) (hcl : clC ci = y'.cls := by rfl) (hdd : Nat.ble (d' + 1) d = true := by rfl) (hst : Fits8 st := by rfl) : X r d y cc mr b pc lv (v2 :: v1 :: .ref (evz r + id) :: st) n I Q F :=
  x_callV (As := [v1, v2]) (b2 := b) hd f ho (Nat.le_of_ble_eq_true hci) hcl hc hdd rfl hst ⟨Nat.zero_add _, Nat.le_of_eq (Nat.zero_add _)⟩ (fun v I' Q' h => by obtain ⟨rfl, rfl, h⟩ := h; exact k I' h)
theorem x_S2v {r : Ev} {d : Nat} {y : MethodName} {cc : ByteArray} {mr : Nat × Option FieldType} {b : Nat × Nat} {pc q : Nat} {lv : List (Option Value)} {st : List Value} {n : Nat} {I : MI} {Q : MQ2} {F : Post} {d' : Nat} {y' : MethodName} {cc' : ByteArray} {mr' : Nat × Option FieldType} {idx : Nat} {v1 v2 : Value} {G : MI → Prop} (hd : DR cc pc (.invokestatic idx) 3 q) (f : MFS y.cls idx y' cc' mr' 2) (hc : CT r d' y' cc' mr' (0, 0) [v1, v2] n I Q (rv Q G)) (k : ∀ (I' : MI), G I' → X r d y cc mr b q lv st n I' Q F) (hdd : Nat.ble (d' + 1) d = true := by rfl) (hst : Fits8 st := by rfl) : X r d y cc mr b pc lv (v2 :: v1 :: st) n I Q F :=
  x_callS (As := [v1, v2]) (b2 := b) hd f hc hdd rfl hst ⟨Nat.zero_add _, Nat.le_of_eq (Nat.zero_add _)⟩ (fun v I' Q' h => by obtain ⟨rfl, rfl, h⟩ := h; exact k I' h)
theorem x_V3v {r : Ev} {d : Nat} {y : MethodName} {cc : ByteArray} {mr : Nat × Option FieldType} {b : Nat × Nat} {pc q : Nat} {lv : List (Option Value)} {st : List Value} {n : Nat} {I : MI} {Q : MQ2} {F : Post} {d' : Nat} {y' : MethodName} {cc' : ByteArray} {mr' : Nat × Option FieldType} {idx : Nat} {v1 v2 v3 : Value} {ci id : Nat} {G : MI → Prop} (hd : DR cc pc (.invokevirtual idx) 3 q) (f : MFV y.cls idx y' cc' mr' 3) (hc : CT r d' y' cc' mr' (0, 0) [.ref (evz r + id), v1, v2, v3] n I Q (rv Q G)) (ho : Ob n ci id) (k : ∀ (I' : MI), G I' → X r d y cc mr b q lv st n I' Q F) (hci : Nat.ble (ci + 1) 10 = true := by rfl) (hcl : clC ci = y'.cls := by rfl) (hdd : Nat.ble (d' + 1) d = true := by rfl) (hst : Fits8 st := by rfl) : X r d y cc mr b pc lv (v3 :: v2 :: v1 :: .ref (evz r + id) :: st) n I Q F :=
  x_callV (As := [v1, v2, v3]) (b2 := b) hd f ho (Nat.le_of_ble_eq_true hci) hcl hc hdd rfl hst ⟨Nat.zero_add _, Nat.le_of_eq (Nat.zero_add _)⟩ (fun v I' Q' h => by obtain ⟨rfl, rfl, h⟩ := h; exact k I' h)
theorem x_S3v {r : Ev} {d : Nat} {y : MethodName} {cc : ByteArray} {mr : Nat × Option FieldType} {b : Nat × Nat} {pc q : Nat} {lv : List (Option Value)} {st : List Value} {n : Nat} {I : MI} {Q : MQ2} {F : Post} {d' : Nat} {y' : MethodName} {cc' : ByteArray} {mr' : Nat × Option FieldType} {idx : Nat} {v1 v2 v3 : Value} {G : MI → Prop} (hd : DR cc pc (.invokestatic idx) 3 q) (f : MFS y.cls idx y' cc' mr' 3) (hc : CT r d' y' cc' mr' (0, 0) [v1, v2, v3] n I Q (rv Q G)) (k : ∀ (I' : MI), G I' → X r d y cc mr b q lv st n I' Q F) (hdd : Nat.ble (d' + 1) d = true := by rfl) (hst : Fits8 st := by rfl) : X r d y cc mr b pc lv (v3 :: v2 :: v1 :: st) n I Q F :=
  x_callS (As := [v1, v2, v3]) (b2 := b) hd f hc hdd rfl hst ⟨Nat.zero_add _, Nat.le_of_eq (Nat.zero_add _)⟩ (fun v I' Q' h => by obtain ⟨rfl, rfl, h⟩ := h; exact k I' h)
theorem x_V4v {r : Ev} {d : Nat} {y : MethodName} {cc : ByteArray} {mr : Nat × Option FieldType} {b : Nat × Nat} {pc q : Nat} {lv : List (Option Value)} {st : List Value} {n : Nat} {I : MI} {Q : MQ2} {F : Post} {d' : Nat} {y' : MethodName} {cc' : ByteArray} {mr' : Nat × Option FieldType} {idx : Nat} {v1 v2 v3 v4 : Value} {ci id : Nat} {G : MI → Prop} (hd : DR cc pc (.invokevirtual idx) 3 q) (f : MFV y.cls idx y' cc' mr' 4) (hc : CT r d' y' cc' mr' (0, 0) [.ref (evz r + id), v1, v2, v3, v4] n I Q (rv Q G)) (ho : Ob n ci id) (k : ∀ (I' : MI), G I' → X r d y cc mr b q lv st n I' Q F) (hci : Nat.ble (ci + 1) 10 = true := by rfl) (hcl : clC ci = y'.cls := by rfl) (hdd : Nat.ble (d' + 1) d = true := by rfl) (hst : Fits8 st := by rfl) : X r d y cc mr b pc lv (v4 :: v3 :: v2 :: v1 :: .ref (evz r + id) :: st) n I Q F :=
  x_callV (As := [v1, v2, v3, v4]) (b2 := b) hd f ho (Nat.le_of_ble_eq_true hci) hcl hc hdd rfl hst ⟨Nat.zero_add _, Nat.le_of_eq (Nat.zero_add _)⟩ (fun v I' Q' h => by obtain ⟨rfl, rfl, h⟩ := h; exact k I' h)
theorem x_S4v {r : Ev} {d : Nat} {y : MethodName} {cc : ByteArray} {mr : Nat × Option FieldType} {b : Nat × Nat} {pc q : Nat} {lv : List (Option Value)} {st : List Value} {n : Nat} {I : MI} {Q : MQ2} {F : Post} {d' : Nat} {y' : MethodName} {cc' : ByteArray} {mr' : Nat × Option FieldType} {idx : Nat} {v1 v2 v3 v4 : Value} {G : MI → Prop} (hd : DR cc pc (.invokestatic idx) 3 q) (f : MFS y.cls idx y' cc' mr' 4) (hc : CT r d' y' cc' mr' (0, 0) [v1, v2, v3, v4] n I Q (rv Q G)) (k : ∀ (I' : MI), G I' → X r d y cc mr b q lv st n I' Q F) (hdd : Nat.ble (d' + 1) d = true := by rfl) (hst : Fits8 st := by rfl) : X r d y cc mr b pc lv (v4 :: v3 :: v2 :: v1 :: st) n I Q F :=
  x_callS (As := [v1, v2, v3, v4]) (b2 := b) hd f hc hdd rfl hst ⟨Nat.zero_add _, Nat.le_of_eq (Nat.zero_add _)⟩ (fun v I' Q' h => by obtain ⟨rfl, rfl, h⟩ := h; exact k I' h)
theorem x_V0o {r : Ev} {d : Nat} {y : MethodName} {cc : ByteArray} {mr : Nat × Option FieldType} {b : Nat × Nat} {pc q : Nat} {lv : List (Option Value)} {st : List Value} {n : Nat} {I : MI} {Q : MQ2} {F : Post} {d' : Nat} {y' : MethodName} {cc' : ByteArray} {mr' : Nat × Option FieldType} {idx : Nat} {ci id : Nat} {id2 : Nat} (hd : DR cc pc (.invokevirtual idx) 3 q) (f : MFV y.cls idx y' cc' mr' 0) (hc : CT r d' y' cc' mr' (0, 0) [.ref (evz r + id)] n I Q (ro r I Q id2)) (ho : Ob n ci id) (k : X r d y cc mr b q lv (.ref (evz r + id2) :: st) n I Q F) (hci : Nat.ble (ci + 1) 10 = true := by rfl) (hcl : clC ci = y'.cls := by rfl) (hdd : Nat.ble (d' + 1) d = true := by rfl) (hst : Fits8 st := by rfl) : X r d y cc mr b pc lv (.ref (evz r + id) :: st) n I Q F :=
  x_callV (As := []) (b2 := b) hd f ho (Nat.le_of_ble_eq_true hci) hcl hc hdd rfl hst ⟨Nat.zero_add _, Nat.le_of_eq (Nat.zero_add _)⟩ (fun v I' Q' h => by obtain ⟨rfl, rfl, rfl⟩ := h; exact k)
theorem x_V1o {r : Ev} {d : Nat} {y : MethodName} {cc : ByteArray} {mr : Nat × Option FieldType} {b : Nat × Nat} {pc q : Nat} {lv : List (Option Value)} {st : List Value} {n : Nat} {I : MI} {Q : MQ2} {F : Post} {d' : Nat} {y' : MethodName} {cc' : ByteArray} {mr' : Nat × Option FieldType} {idx : Nat} {v1 : Value} {ci id : Nat} {id2 : Nat} (hd : DR cc pc (.invokevirtual idx) 3 q) (f : MFV y.cls idx y' cc' mr' 1) (hc : CT r d' y' cc' mr' (0, 0) [.ref (evz r + id), v1] n I Q (ro r I Q id2)) (ho : Ob n ci id) (k : X r d y cc mr b q lv (.ref (evz r + id2) :: st) n I Q F) (hci : Nat.ble (ci + 1) 10 = true := by rfl) (hcl : clC ci = y'.cls := by rfl) (hdd : Nat.ble (d' + 1) d = true := by rfl) (hst : Fits8 st := by rfl) : X r d y cc mr b pc lv (v1 :: .ref (evz r + id) :: st) n I Q F :=
  x_callV (As := [v1]) (b2 := b) hd f ho (Nat.le_of_ble_eq_true hci) hcl hc hdd rfl hst ⟨Nat.zero_add _, Nat.le_of_eq (Nat.zero_add _)⟩ (fun v I' Q' h => by obtain ⟨rfl, rfl, rfl⟩ := h; exact k)
theorem x_V0I {r : Ev} {d : Nat} {y : MethodName} {cc : ByteArray} {mr : Nat × Option FieldType} {b : Nat × Nat} {pc q : Nat} {lv : List (Option Value)} {st : List Value} {n : Nat} {I : MI} {Q : MQ2} {F : Post} {d' : Nat} {y' : MethodName} {cc' : ByteArray} {mr' : Nat × Option FieldType} {idx : Nat} {ci id : Nat} {G : Int32 → MI → MQ2 → Prop} (hd : DR cc pc (.invokevirtual idx) 3 q) (f : MFV y.cls idx y' cc' mr' 0) (hc : CT r d' y' cc' mr' (0, 0) [.ref (evz r + id)] n I Q (RI G)) (ho : Ob n ci id) (k : ∀ (x : Int32) (I' : MI) (Q' : MQ2), G x I' Q' → X r d y cc mr b q lv (.int x :: st) n I' Q' F) (hci : Nat.ble (ci + 1) 10 = true := by rfl) (hcl : clC ci = y'.cls := by rfl) (hdd : Nat.ble (d' + 1) d = true := by rfl) (hst : Fits8 st := by rfl) : X r d y cc mr b pc lv (.ref (evz r + id) :: st) n I Q F :=
  x_callV (As := []) (b2 := b) hd f ho (Nat.le_of_ble_eq_true hci) hcl hc hdd rfl hst ⟨Nat.zero_add _, Nat.le_of_eq (Nat.zero_add _)⟩ (fun v I' Q' h => by obtain ⟨x, rfl, h⟩ := h; exact k x I' Q' h)
theorem x_S0I {r : Ev} {d : Nat} {y : MethodName} {cc : ByteArray} {mr : Nat × Option FieldType} {b : Nat × Nat} {pc q : Nat} {lv : List (Option Value)} {st : List Value} {n : Nat} {I : MI} {Q : MQ2} {F : Post} {d' : Nat} {y' : MethodName} {cc' : ByteArray} {mr' : Nat × Option FieldType} {idx : Nat} {G : Int32 → MI → MQ2 → Prop} (hd : DR cc pc (.invokestatic idx) 3 q) (f : MFS y.cls idx y' cc' mr' 0) (hc : CT r d' y' cc' mr' (0, 0) [] n I Q (RI G)) (k : ∀ (x : Int32) (I' : MI) (Q' : MQ2), G x I' Q' → X r d y cc mr b q lv (.int x :: st) n I' Q' F) (hdd : Nat.ble (d' + 1) d = true := by rfl) (hst : Fits8 st := by rfl) : X r d y cc mr b pc lv (st) n I Q F :=
  x_callS (As := []) (b2 := b) hd f hc hdd rfl hst ⟨Nat.zero_add _, Nat.le_of_eq (Nat.zero_add _)⟩ (fun v I' Q' h => by obtain ⟨x, rfl, h⟩ := h; exact k x I' Q' h)
theorem x_V1I {r : Ev} {d : Nat} {y : MethodName} {cc : ByteArray} {mr : Nat × Option FieldType} {b : Nat × Nat} {pc q : Nat} {lv : List (Option Value)} {st : List Value} {n : Nat} {I : MI} {Q : MQ2} {F : Post} {d' : Nat} {y' : MethodName} {cc' : ByteArray} {mr' : Nat × Option FieldType} {idx : Nat} {v1 : Value} {ci id : Nat} {G : Int32 → MI → MQ2 → Prop} (hd : DR cc pc (.invokevirtual idx) 3 q) (f : MFV y.cls idx y' cc' mr' 1) (hc : CT r d' y' cc' mr' (0, 0) [.ref (evz r + id), v1] n I Q (RI G)) (ho : Ob n ci id) (k : ∀ (x : Int32) (I' : MI) (Q' : MQ2), G x I' Q' → X r d y cc mr b q lv (.int x :: st) n I' Q' F) (hci : Nat.ble (ci + 1) 10 = true := by rfl) (hcl : clC ci = y'.cls := by rfl) (hdd : Nat.ble (d' + 1) d = true := by rfl) (hst : Fits8 st := by rfl) : X r d y cc mr b pc lv (v1 :: .ref (evz r + id) :: st) n I Q F :=
  x_callV (As := [v1]) (b2 := b) hd f ho (Nat.le_of_ble_eq_true hci) hcl hc hdd rfl hst ⟨Nat.zero_add _, Nat.le_of_eq (Nat.zero_add _)⟩ (fun v I' Q' h => by obtain ⟨x, rfl, h⟩ := h; exact k x I' Q' h)
theorem x_S1I {r : Ev} {d : Nat} {y : MethodName} {cc : ByteArray} {mr : Nat × Option FieldType} {b : Nat × Nat} {pc q : Nat} {lv : List (Option Value)} {st : List Value} {n : Nat} {I : MI} {Q : MQ2} {F : Post} {d' : Nat} {y' : MethodName} {cc' : ByteArray} {mr' : Nat × Option FieldType} {idx : Nat} {v1 : Value} {G : Int32 → MI → MQ2 → Prop} (hd : DR cc pc (.invokestatic idx) 3 q) (f : MFS y.cls idx y' cc' mr' 1) (hc : CT r d' y' cc' mr' (0, 0) [v1] n I Q (RI G)) (k : ∀ (x : Int32) (I' : MI) (Q' : MQ2), G x I' Q' → X r d y cc mr b q lv (.int x :: st) n I' Q' F) (hdd : Nat.ble (d' + 1) d = true := by rfl) (hst : Fits8 st := by rfl) : X r d y cc mr b pc lv (v1 :: st) n I Q F :=
  x_callS (As := [v1]) (b2 := b) hd f hc hdd rfl hst ⟨Nat.zero_add _, Nat.le_of_eq (Nat.zero_add _)⟩ (fun v I' Q' h => by obtain ⟨x, rfl, h⟩ := h; exact k x I' Q' h)
theorem x_V2I {r : Ev} {d : Nat} {y : MethodName} {cc : ByteArray} {mr : Nat × Option FieldType} {b : Nat × Nat} {pc q : Nat} {lv : List (Option Value)} {st : List Value} {n : Nat} {I : MI} {Q : MQ2} {F : Post} {d' : Nat} {y' : MethodName} {cc' : ByteArray} {mr' : Nat × Option FieldType} {idx : Nat} {v1 v2 : Value} {ci id : Nat} {G : Int32 → MI → MQ2 → Prop} (hd : DR cc pc (.invokevirtual idx) 3 q) (f : MFV y.cls idx y' cc' mr' 2) (hc : CT r d' y' cc' mr' (0, 0) [.ref (evz r + id), v1, v2] n I Q (RI G)) (ho : Ob n ci id) (k : ∀ (x : Int32) (I' : MI) (Q' : MQ2), G x I' Q' → X r d y cc mr b q lv (.int x :: st) n I' Q' F) (hci : Nat.ble (ci + 1) 10 = true := by rfl) (hcl : clC ci = y'.cls := by rfl) (hdd : Nat.ble (d' + 1) d = true := by rfl) (hst : Fits8 st := by rfl) : X r d y cc mr b pc lv (v2 :: v1 :: .ref (evz r + id) :: st) n I Q F :=
  x_callV (As := [v1, v2]) (b2 := b) hd f ho (Nat.le_of_ble_eq_true hci) hcl hc hdd rfl hst ⟨Nat.zero_add _, Nat.le_of_eq (Nat.zero_add _)⟩ (fun v I' Q' h => by obtain ⟨x, rfl, h⟩ := h; exact k x I' Q' h)
theorem x_S2I {r : Ev} {d : Nat} {y : MethodName} {cc : ByteArray} {mr : Nat × Option FieldType} {b : Nat × Nat} {pc q : Nat} {lv : List (Option Value)} {st : List Value} {n : Nat} {I : MI} {Q : MQ2} {F : Post} {d' : Nat} {y' : MethodName} {cc' : ByteArray} {mr' : Nat × Option FieldType} {idx : Nat} {v1 v2 : Value} {G : Int32 → MI → MQ2 → Prop} (hd : DR cc pc (.invokestatic idx) 3 q) (f : MFS y.cls idx y' cc' mr' 2) (hc : CT r d' y' cc' mr' (0, 0) [v1, v2] n I Q (RI G)) (k : ∀ (x : Int32) (I' : MI) (Q' : MQ2), G x I' Q' → X r d y cc mr b q lv (.int x :: st) n I' Q' F) (hdd : Nat.ble (d' + 1) d = true := by rfl) (hst : Fits8 st := by rfl) : X r d y cc mr b pc lv (v2 :: v1 :: st) n I Q F :=
  x_callS (As := [v1, v2]) (b2 := b) hd f hc hdd rfl hst ⟨Nat.zero_add _, Nat.le_of_eq (Nat.zero_add _)⟩ (fun v I' Q' h => by obtain ⟨x, rfl, h⟩ := h; exact k x I' Q' h)
theorem x_V3I {r : Ev} {d : Nat} {y : MethodName} {cc : ByteArray} {mr : Nat × Option FieldType} {b : Nat × Nat} {pc q : Nat} {lv : List (Option Value)} {st : List Value} {n : Nat} {I : MI} {Q : MQ2} {F : Post} {d' : Nat} {y' : MethodName} {cc' : ByteArray} {mr' : Nat × Option FieldType} {idx : Nat} {v1 v2 v3 : Value} {ci id : Nat} {G : Int32 → MI → MQ2 → Prop} (hd : DR cc pc (.invokevirtual idx) 3 q) (f : MFV y.cls idx y' cc' mr' 3) (hc : CT r d' y' cc' mr' (0, 0) [.ref (evz r + id), v1, v2, v3] n I Q (RI G)) (ho : Ob n ci id) (k : ∀ (x : Int32) (I' : MI) (Q' : MQ2), G x I' Q' → X r d y cc mr b q lv (.int x :: st) n I' Q' F) (hci : Nat.ble (ci + 1) 10 = true := by rfl) (hcl : clC ci = y'.cls := by rfl) (hdd : Nat.ble (d' + 1) d = true := by rfl) (hst : Fits8 st := by rfl) : X r d y cc mr b pc lv (v3 :: v2 :: v1 :: .ref (evz r + id) :: st) n I Q F :=
  x_callV (As := [v1, v2, v3]) (b2 := b) hd f ho (Nat.le_of_ble_eq_true hci) hcl hc hdd rfl hst ⟨Nat.zero_add _, Nat.le_of_eq (Nat.zero_add _)⟩ (fun v I' Q' h => by obtain ⟨x, rfl, h⟩ := h; exact k x I' Q' h)
theorem x_S3I {r : Ev} {d : Nat} {y : MethodName} {cc : ByteArray} {mr : Nat × Option FieldType} {b : Nat × Nat} {pc q : Nat} {lv : List (Option Value)} {st : List Value} {n : Nat} {I : MI} {Q : MQ2} {F : Post} {d' : Nat} {y' : MethodName} {cc' : ByteArray} {mr' : Nat × Option FieldType} {idx : Nat} {v1 v2 v3 : Value} {G : Int32 → MI → MQ2 → Prop} (hd : DR cc pc (.invokestatic idx) 3 q) (f : MFS y.cls idx y' cc' mr' 3) (hc : CT r d' y' cc' mr' (0, 0) [v1, v2, v3] n I Q (RI G)) (k : ∀ (x : Int32) (I' : MI) (Q' : MQ2), G x I' Q' → X r d y cc mr b q lv (.int x :: st) n I' Q' F) (hdd : Nat.ble (d' + 1) d = true := by rfl) (hst : Fits8 st := by rfl) : X r d y cc mr b pc lv (v3 :: v2 :: v1 :: st) n I Q F :=
  x_callS (As := [v1, v2, v3]) (b2 := b) hd f hc hdd rfl hst ⟨Nat.zero_add _, Nat.le_of_eq (Nat.zero_add _)⟩ (fun v I' Q' h => by obtain ⟨x, rfl, h⟩ := h; exact k x I' Q' h)
theorem x_V4I {r : Ev} {d : Nat} {y : MethodName} {cc : ByteArray} {mr : Nat × Option FieldType} {b : Nat × Nat} {pc q : Nat} {lv : List (Option Value)} {st : List Value} {n : Nat} {I : MI} {Q : MQ2} {F : Post} {d' : Nat} {y' : MethodName} {cc' : ByteArray} {mr' : Nat × Option FieldType} {idx : Nat} {v1 v2 v3 v4 : Value} {ci id : Nat} {G : Int32 → MI → MQ2 → Prop} (hd : DR cc pc (.invokevirtual idx) 3 q) (f : MFV y.cls idx y' cc' mr' 4) (hc : CT r d' y' cc' mr' (0, 0) [.ref (evz r + id), v1, v2, v3, v4] n I Q (RI G)) (ho : Ob n ci id) (k : ∀ (x : Int32) (I' : MI) (Q' : MQ2), G x I' Q' → X r d y cc mr b q lv (.int x :: st) n I' Q' F) (hci : Nat.ble (ci + 1) 10 = true := by rfl) (hcl : clC ci = y'.cls := by rfl) (hdd : Nat.ble (d' + 1) d = true := by rfl) (hst : Fits8 st := by rfl) : X r d y cc mr b pc lv (v4 :: v3 :: v2 :: v1 :: .ref (evz r + id) :: st) n I Q F :=
  x_callV (As := [v1, v2, v3, v4]) (b2 := b) hd f ho (Nat.le_of_ble_eq_true hci) hcl hc hdd rfl hst ⟨Nat.zero_add _, Nat.le_of_eq (Nat.zero_add _)⟩ (fun v I' Q' h => by obtain ⟨x, rfl, h⟩ := h; exact k x I' Q' h)
theorem x_S4I {r : Ev} {d : Nat} {y : MethodName} {cc : ByteArray} {mr : Nat × Option FieldType} {b : Nat × Nat} {pc q : Nat} {lv : List (Option Value)} {st : List Value} {n : Nat} {I : MI} {Q : MQ2} {F : Post} {d' : Nat} {y' : MethodName} {cc' : ByteArray} {mr' : Nat × Option FieldType} {idx : Nat} {v1 v2 v3 v4 : Value} {G : Int32 → MI → MQ2 → Prop} (hd : DR cc pc (.invokestatic idx) 3 q) (f : MFS y.cls idx y' cc' mr' 4) (hc : CT r d' y' cc' mr' (0, 0) [v1, v2, v3, v4] n I Q (RI G)) (k : ∀ (x : Int32) (I' : MI) (Q' : MQ2), G x I' Q' → X r d y cc mr b q lv (.int x :: st) n I' Q' F) (hdd : Nat.ble (d' + 1) d = true := by rfl) (hst : Fits8 st := by rfl) : X r d y cc mr b pc lv (v4 :: v3 :: v2 :: v1 :: st) n I Q F :=
  x_callS (As := [v1, v2, v3, v4]) (b2 := b) hd f hc hdd rfl hst ⟨Nat.zero_add _, Nat.le_of_eq (Nat.zero_add _)⟩ (fun v I' Q' h => by obtain ⟨x, rfl, h⟩ := h; exact k x I' Q' h)
theorem x_V0W {r : Ev} {d : Nat} {y : MethodName} {cc : ByteArray} {mr : Nat × Option FieldType} {b : Nat × Nat} {pc q : Nat} {lv : List (Option Value)} {st : List Value} {n : Nat} {I : MI} {Q : MQ2} {F : Post} {d' : Nat} {y' : MethodName} {cc' : ByteArray} {mr' : Nat × Option FieldType} {idx : Nat} {ci id : Nat} {G : MI → MQ2 → Prop} (hd : DR cc pc (.invokevirtual idx) 3 q) (f : MFV y.cls idx y' cc' mr' 0) (hc : CT r d' y' cc' mr' (0, 0) [.ref (evz r + id)] n I Q (RV G)) (ho : Ob n ci id) (k : ∀ (I' : MI) (Q' : MQ2), G I' Q' → X r d y cc mr b q lv st n I' Q' F) (hci : Nat.ble (ci + 1) 10 = true := by rfl) (hcl : clC ci = y'.cls := by rfl) (hdd : Nat.ble (d' + 1) d = true := by rfl) (hst : Fits8 st := by rfl) : X r d y cc mr b pc lv (.ref (evz r + id) :: st) n I Q F :=
  x_callV (As := []) (b2 := b) hd f ho (Nat.le_of_ble_eq_true hci) hcl hc hdd rfl hst ⟨Nat.zero_add _, Nat.le_of_eq (Nat.zero_add _)⟩ (fun v I' Q' h => by obtain ⟨rfl, h⟩ := h; exact k I' Q' h)
theorem x_S0W {r : Ev} {d : Nat} {y : MethodName} {cc : ByteArray} {mr : Nat × Option FieldType} {b : Nat × Nat} {pc q : Nat} {lv : List (Option Value)} {st : List Value} {n : Nat} {I : MI} {Q : MQ2} {F : Post} {d' : Nat} {y' : MethodName} {cc' : ByteArray} {mr' : Nat × Option FieldType} {idx : Nat} {G : MI → MQ2 → Prop} (hd : DR cc pc (.invokestatic idx) 3 q) (f : MFS y.cls idx y' cc' mr' 0) (hc : CT r d' y' cc' mr' (0, 0) [] n I Q (RV G)) (k : ∀ (I' : MI) (Q' : MQ2), G I' Q' → X r d y cc mr b q lv st n I' Q' F) (hdd : Nat.ble (d' + 1) d = true := by rfl) (hst : Fits8 st := by rfl) : X r d y cc mr b pc lv (st) n I Q F :=
  x_callS (As := []) (b2 := b) hd f hc hdd rfl hst ⟨Nat.zero_add _, Nat.le_of_eq (Nat.zero_add _)⟩ (fun v I' Q' h => by obtain ⟨rfl, h⟩ := h; exact k I' Q' h)
theorem x_V1W {r : Ev} {d : Nat} {y : MethodName} {cc : ByteArray} {mr : Nat × Option FieldType} {b : Nat × Nat} {pc q : Nat} {lv : List (Option Value)} {st : List Value} {n : Nat} {I : MI} {Q : MQ2} {F : Post} {d' : Nat} {y' : MethodName} {cc' : ByteArray} {mr' : Nat × Option FieldType} {idx : Nat} {v1 : Value} {ci id : Nat} {G : MI → MQ2 → Prop} (hd : DR cc pc (.invokevirtual idx) 3 q) (f : MFV y.cls idx y' cc' mr' 1) (hc : CT r d' y' cc' mr' (0, 0) [.ref (evz r + id), v1] n I Q (RV G)) (ho : Ob n ci id) (k : ∀ (I' : MI) (Q' : MQ2), G I' Q' → X r d y cc mr b q lv st n I' Q' F) (hci : Nat.ble (ci + 1) 10 = true := by rfl) (hcl : clC ci = y'.cls := by rfl) (hdd : Nat.ble (d' + 1) d = true := by rfl) (hst : Fits8 st := by rfl) : X r d y cc mr b pc lv (v1 :: .ref (evz r + id) :: st) n I Q F :=
  x_callV (As := [v1]) (b2 := b) hd f ho (Nat.le_of_ble_eq_true hci) hcl hc hdd rfl hst ⟨Nat.zero_add _, Nat.le_of_eq (Nat.zero_add _)⟩ (fun v I' Q' h => by obtain ⟨rfl, h⟩ := h; exact k I' Q' h)
theorem x_S1W {r : Ev} {d : Nat} {y : MethodName} {cc : ByteArray} {mr : Nat × Option FieldType} {b : Nat × Nat} {pc q : Nat} {lv : List (Option Value)} {st : List Value} {n : Nat} {I : MI} {Q : MQ2} {F : Post} {d' : Nat} {y' : MethodName} {cc' : ByteArray} {mr' : Nat × Option FieldType} {idx : Nat} {v1 : Value} {G : MI → MQ2 → Prop} (hd : DR cc pc (.invokestatic idx) 3 q) (f : MFS y.cls idx y' cc' mr' 1) (hc : CT r d' y' cc' mr' (0, 0) [v1] n I Q (RV G)) (k : ∀ (I' : MI) (Q' : MQ2), G I' Q' → X r d y cc mr b q lv st n I' Q' F) (hdd : Nat.ble (d' + 1) d = true := by rfl) (hst : Fits8 st := by rfl) : X r d y cc mr b pc lv (v1 :: st) n I Q F :=
  x_callS (As := [v1]) (b2 := b) hd f hc hdd rfl hst ⟨Nat.zero_add _, Nat.le_of_eq (Nat.zero_add _)⟩ (fun v I' Q' h => by obtain ⟨rfl, h⟩ := h; exact k I' Q' h)
theorem x_V2W {r : Ev} {d : Nat} {y : MethodName} {cc : ByteArray} {mr : Nat × Option FieldType} {b : Nat × Nat} {pc q : Nat} {lv : List (Option Value)} {st : List Value} {n : Nat} {I : MI} {Q : MQ2} {F : Post} {d' : Nat} {y' : MethodName} {cc' : ByteArray} {mr' : Nat × Option FieldType} {idx : Nat} {v1 v2 : Value} {ci id : Nat} {G : MI → MQ2 → Prop} (hd : DR cc pc (.invokevirtual idx) 3 q) (f : MFV y.cls idx y' cc' mr' 2) (hc : CT r d' y' cc' mr' (0, 0) [.ref (evz r + id), v1, v2] n I Q (RV G)) (ho : Ob n ci id) (k : ∀ (I' : MI) (Q' : MQ2), G I' Q' → X r d y cc mr b q lv st n I' Q' F) (hci : Nat.ble (ci + 1) 10 = true := by rfl) (hcl : clC ci = y'.cls := by rfl) (hdd : Nat.ble (d' + 1) d = true := by rfl) (hst : Fits8 st := by rfl) : X r d y cc mr b pc lv (v2 :: v1 :: .ref (evz r + id) :: st) n I Q F :=
  x_callV (As := [v1, v2]) (b2 := b) hd f ho (Nat.le_of_ble_eq_true hci) hcl hc hdd rfl hst ⟨Nat.zero_add _, Nat.le_of_eq (Nat.zero_add _)⟩ (fun v I' Q' h => by obtain ⟨rfl, h⟩ := h; exact k I' Q' h)
theorem x_S2W {r : Ev} {d : Nat} {y : MethodName} {cc : ByteArray} {mr : Nat × Option FieldType} {b : Nat × Nat} {pc q : Nat} {lv : List (Option Value)} {st : List Value} {n : Nat} {I : MI} {Q : MQ2} {F : Post} {d' : Nat} {y' : MethodName} {cc' : ByteArray} {mr' : Nat × Option FieldType} {idx : Nat} {v1 v2 : Value} {G : MI → MQ2 → Prop} (hd : DR cc pc (.invokestatic idx) 3 q) (f : MFS y.cls idx y' cc' mr' 2) (hc : CT r d' y' cc' mr' (0, 0) [v1, v2] n I Q (RV G)) (k : ∀ (I' : MI) (Q' : MQ2), G I' Q' → X r d y cc mr b q lv st n I' Q' F) (hdd : Nat.ble (d' + 1) d = true := by rfl) (hst : Fits8 st := by rfl) : X r d y cc mr b pc lv (v2 :: v1 :: st) n I Q F :=
  x_callS (As := [v1, v2]) (b2 := b) hd f hc hdd rfl hst ⟨Nat.zero_add _, Nat.le_of_eq (Nat.zero_add _)⟩ (fun v I' Q' h => by obtain ⟨rfl, h⟩ := h; exact k I' Q' h)
theorem x_V3W {r : Ev} {d : Nat} {y : MethodName} {cc : ByteArray} {mr : Nat × Option FieldType} {b : Nat × Nat} {pc q : Nat} {lv : List (Option Value)} {st : List Value} {n : Nat} {I : MI} {Q : MQ2} {F : Post} {d' : Nat} {y' : MethodName} {cc' : ByteArray} {mr' : Nat × Option FieldType} {idx : Nat} {v1 v2 v3 : Value} {ci id : Nat} {G : MI → MQ2 → Prop} (hd : DR cc pc (.invokevirtual idx) 3 q) (f : MFV y.cls idx y' cc' mr' 3) (hc : CT r d' y' cc' mr' (0, 0) [.ref (evz r + id), v1, v2, v3] n I Q (RV G)) (ho : Ob n ci id) (k : ∀ (I' : MI) (Q' : MQ2), G I' Q' → X r d y cc mr b q lv st n I' Q' F) (hci : Nat.ble (ci + 1) 10 = true := by rfl) (hcl : clC ci = y'.cls := by rfl) (hdd : Nat.ble (d' + 1) d = true := by rfl) (hst : Fits8 st := by rfl) : X r d y cc mr b pc lv (v3 :: v2 :: v1 :: .ref (evz r + id) :: st) n I Q F :=
  x_callV (As := [v1, v2, v3]) (b2 := b) hd f ho (Nat.le_of_ble_eq_true hci) hcl hc hdd rfl hst ⟨Nat.zero_add _, Nat.le_of_eq (Nat.zero_add _)⟩ (fun v I' Q' h => by obtain ⟨rfl, h⟩ := h; exact k I' Q' h)
theorem x_S3W {r : Ev} {d : Nat} {y : MethodName} {cc : ByteArray} {mr : Nat × Option FieldType} {b : Nat × Nat} {pc q : Nat} {lv : List (Option Value)} {st : List Value} {n : Nat} {I : MI} {Q : MQ2} {F : Post} {d' : Nat} {y' : MethodName} {cc' : ByteArray} {mr' : Nat × Option FieldType} {idx : Nat} {v1 v2 v3 : Value} {G : MI → MQ2 → Prop} (hd : DR cc pc (.invokestatic idx) 3 q) (f : MFS y.cls idx y' cc' mr' 3) (hc : CT r d' y' cc' mr' (0, 0) [v1, v2, v3] n I Q (RV G)) (k : ∀ (I' : MI) (Q' : MQ2), G I' Q' → X r d y cc mr b q lv st n I' Q' F) (hdd : Nat.ble (d' + 1) d = true := by rfl) (hst : Fits8 st := by rfl) : X r d y cc mr b pc lv (v3 :: v2 :: v1 :: st) n I Q F :=
  x_callS (As := [v1, v2, v3]) (b2 := b) hd f hc hdd rfl hst ⟨Nat.zero_add _, Nat.le_of_eq (Nat.zero_add _)⟩ (fun v I' Q' h => by obtain ⟨rfl, h⟩ := h; exact k I' Q' h)
theorem x_V4W {r : Ev} {d : Nat} {y : MethodName} {cc : ByteArray} {mr : Nat × Option FieldType} {b : Nat × Nat} {pc q : Nat} {lv : List (Option Value)} {st : List Value} {n : Nat} {I : MI} {Q : MQ2} {F : Post} {d' : Nat} {y' : MethodName} {cc' : ByteArray} {mr' : Nat × Option FieldType} {idx : Nat} {v1 v2 v3 v4 : Value} {ci id : Nat} {G : MI → MQ2 → Prop} (hd : DR cc pc (.invokevirtual idx) 3 q) (f : MFV y.cls idx y' cc' mr' 4) (hc : CT r d' y' cc' mr' (0, 0) [.ref (evz r + id), v1, v2, v3, v4] n I Q (RV G)) (ho : Ob n ci id) (k : ∀ (I' : MI) (Q' : MQ2), G I' Q' → X r d y cc mr b q lv st n I' Q' F) (hci : Nat.ble (ci + 1) 10 = true := by rfl) (hcl : clC ci = y'.cls := by rfl) (hdd : Nat.ble (d' + 1) d = true := by rfl) (hst : Fits8 st := by rfl) : X r d y cc mr b pc lv (v4 :: v3 :: v2 :: v1 :: .ref (evz r + id) :: st) n I Q F :=
  x_callV (As := [v1, v2, v3, v4]) (b2 := b) hd f ho (Nat.le_of_ble_eq_true hci) hcl hc hdd rfl hst ⟨Nat.zero_add _, Nat.le_of_eq (Nat.zero_add _)⟩ (fun v I' Q' h => by obtain ⟨rfl, h⟩ := h; exact k I' Q' h)
theorem x_S4W {r : Ev} {d : Nat} {y : MethodName} {cc : ByteArray} {mr : Nat × Option FieldType} {b : Nat × Nat} {pc q : Nat} {lv : List (Option Value)} {st : List Value} {n : Nat} {I : MI} {Q : MQ2} {F : Post} {d' : Nat} {y' : MethodName} {cc' : ByteArray} {mr' : Nat × Option FieldType} {idx : Nat} {v1 v2 v3 v4 : Value} {G : MI → MQ2 → Prop} (hd : DR cc pc (.invokestatic idx) 3 q) (f : MFS y.cls idx y' cc' mr' 4) (hc : CT r d' y' cc' mr' (0, 0) [v1, v2, v3, v4] n I Q (RV G)) (k : ∀ (I' : MI) (Q' : MQ2), G I' Q' → X r d y cc mr b q lv st n I' Q' F) (hdd : Nat.ble (d' + 1) d = true := by rfl) (hst : Fits8 st := by rfl) : X r d y cc mr b pc lv (v4 :: v3 :: v2 :: v1 :: st) n I Q F :=
  x_callS (As := [v1, v2, v3, v4]) (b2 := b) hd f hc hdd rfl hst ⟨Nat.zero_add _, Nat.le_of_eq (Nat.zero_add _)⟩ (fun v I' Q' h => by obtain ⟨rfl, h⟩ := h; exact k I' Q' h)
theorem x_I0 {r : Ev} {d : Nat} {y : MethodName} {cc : ByteArray} {mr : Nat × Option FieldType} {b : Nat × Nat} {pc q : Nat} {lv : List (Option Value)} {st : List Value} {n : Nat} {I : MI} {Q : MQ2} {F : Post} {d' : Nat} {y' : MethodName} {cc' : ByteArray} {mL9 a : Nat} {b' : Nat × Nat} {idx : Nat} {G : MI → MQ2 → Prop} (b2 : Nat × Nat) (hd : DR cc pc (.invokespecial idx) 3 q) (f : MFI y.cls idx y' cc' (mL9, none) 0) (hc : CT r d' y' cc' (mL9, none) b' [.ref a] n I Q (RV G)) (hb : b'.1 + b2.1 = b.1 ∧ Nat.ble (b'.2 + b2.2) b.2 = true) (k : ∀ (I' : MI) (Q' : MQ2), G I' Q' → X r d y cc mr b2 q lv st (n + b'.1) I' Q' F) (hdd : Nat.ble (d' + 1) d = true := by rfl) (hst : Fits8 st := by rfl) : X r d y cc mr b pc lv (.ref a :: st) n I Q F :=
  x_callI (As := []) (b2 := b2) hd f hc hdd rfl hst ⟨hb.1, Nat.le_of_ble_eq_true hb.2⟩ (fun v I' Q' h => by obtain ⟨rfl, h⟩ := h; exact k I' Q' h)
theorem x_I1 {r : Ev} {d : Nat} {y : MethodName} {cc : ByteArray} {mr : Nat × Option FieldType} {b : Nat × Nat} {pc q : Nat} {lv : List (Option Value)} {st : List Value} {n : Nat} {I : MI} {Q : MQ2} {F : Post} {d' : Nat} {y' : MethodName} {cc' : ByteArray} {mL9 a : Nat} {b' : Nat × Nat} {idx : Nat} {G : MI → MQ2 → Prop} {v1 : Value} (b2 : Nat × Nat) (hd : DR cc pc (.invokespecial idx) 3 q) (f : MFI y.cls idx y' cc' (mL9, none) 1) (hc : CT r d' y' cc' (mL9, none) b' [.ref a, v1] n I Q (RV G)) (hb : b'.1 + b2.1 = b.1 ∧ Nat.ble (b'.2 + b2.2) b.2 = true) (k : ∀ (I' : MI) (Q' : MQ2), G I' Q' → X r d y cc mr b2 q lv st (n + b'.1) I' Q' F) (hdd : Nat.ble (d' + 1) d = true := by rfl) (hst : Fits8 st := by rfl) : X r d y cc mr b pc lv (v1 :: .ref a :: st) n I Q F :=
  x_callI (As := [v1]) (b2 := b2) hd f hc hdd rfl hst ⟨hb.1, Nat.le_of_ble_eq_true hb.2⟩ (fun v I' Q' h => by obtain ⟨rfl, h⟩ := h; exact k I' Q' h)
/-! new objects, new arrays -/
def NW (own : String) (idx ci : Nat) : Prop := ci < 10 ∧ Cond.classLink own idx (clC ci) ∈ wT ∧ Cond.instantiable (clC ci) (nf ci) ∈ wT ∧ Cond.initialized (clC ci) ∈ wT
theorem x_fresh {r : Ev} {p : Program} {l : Launch} {e : Env} {R : Room} {s : State} {m : MethodId} {args : Array Value} {below : List Frame} {meth : Method} {c : Code} {T : State} {locs : List Loc} {cells slots : Nat} {n : Nat} {I : MI} {Q : MQ2} {H1 : Heap} {q0 : Nat} {en : va_E} (X0 : Stand p l e R s m args below meth c T locs (cells + 1) slots) (hT : T.heap = H1) (hz : s.heap.size + cells = evz r + n) (hP : va_P (evD r) vwCl (pool (evc r) (evz r) n I Q ++ [(q0, en)]) H1) (hD : va_D (fun q : Nat => evz r ≤ q) (pool (evc r) (evz r) n I Q ++ [(q0, en)])) : q0 = evz r + n := by
  have h1 : T.heap.size ≤ s.heap.size + (cells + 1) := X0.same.2.2.1
  rw [hT] at h1
  have hlast : (pool (evc r) (evz r) n I Q ++ [(q0, en)])[n]? = some (q0, en) := by
    rw [List.getElem?_append_right (by rw [pool_len]; exact Nat.le_refl n), pool_len, Nat.sub_self]
    rfl
  have h2 := (hP n _ hlast).lt
  have h3 := hD.2 n _ hlast
  have h2 : q0 < H1.size := h2
  have h3 : evz r ≤ q0 := h3
  by_cases h4 : q0 < evz r + n
  · have h5 : q0 - evz r < n := by omega
    have h6 : (pool (evc r) (evz r) n I Q ++ [(q0, en)])[q0 - evz r]? = some (evz r + (q0 - evz r), cel (evc r) (evz r) I Q (q0 - evz r)) := by
      rw [List.getElem?_append_left (by rw [pool_len]; exact h5), pool_get h5]
    have h7 := hD.1 _ _ _ _ h6 hlast (by show evz r + (q0 - evz r) = q0; omega)
    omega
  · omega
theorem dflt_ok : ∀ ci, ci < 10 → ∀ j, j < nf ci → defaultValue (tyOf ci j) = (some (if isR ci j then va_rf (((fun _ _ => none : MQ2) 0 j).map (fun x => x)) else .int (0 : Int32))).getD .null := by decide +kernel
theorem x_new {r : Ev} {d : Nat} {y : MethodName} {cc : ByteArray} {mr : Nat × Option FieldType} {b : Nat × Nat} {pc q : Nat} {lv : List (Option Value)} {st : List Value} {n : Nat} {I : MI} {Q : MQ2} {F : Post} {idx ci : Nat} (b2 : Nat × Nat) (hd : DR cc pc (.new idx) 3 q) (f : NW y.cls idx ci) (hk : kd n = ci) (hb : b2.1 + 1 = b.1 ∧ Nat.ble (b2.2 + nf ci) b.2 = true) (k : X r d y cc mr b2 q lv (.ref (evz r + n) :: st) (n + 1) (setRow I n (fun _ => 0)) (setRow Q n (fun _ => none)) F) : X r d y cc mr b pc lv st n I Q F := by
  intro p e s m args below meth c H locs cells slots mc ms R ls Qf C hW hS hl h1 h2 fin
  obtain ⟨hd, rfl⟩ := hd
  obtain ⟨f1, f2, f3, f4⟩ := f
  obtain ⟨g1, g2, g3, g4⟩ := cf_ok ci f1
  have hts := C.2.2.2.2.1
  have hb2 := Nat.le_of_ble_eq_true hb.2
  have hR1 := C.2.2.2.2.2.2.2.2.2.1
  have hR2 := C.2.2.2.2.2.2.2.2.2.2.1
  have hn9 : n + 1 + b2.1 = n + b.1 := by have := hb.1; omega
  refine va_new (ci := ci) (fs := flds (evz r) (fun _ _ => 0) (fun _ _ => none) n) C.1 C.2.1 hts g2 (tyOf ci) g3 C.2.2.2.1 (hts _ f2) (hts _ f3) (hts _ f4) hW.1 hW.2 pool_D hS (fun q0 hq0 => Nat.le_trans C.2.2.2.2.2.2.1 hq0) g1 ?_ (by omega) (by omega) hd (fun q0 H1 hP hD hS1 => ?_)
  · intro j hj
    have h9 : (flds (evz r) (fun _ _ => 0) (fun _ _ => none) n)[j]? = _ := flds_get (by rw [hk]; exact hj)
    show defaultValue (tyOf ci j) = ((flds (evz r) (fun _ _ => 0) (fun _ _ => none) n)).getD j .null
    rw [List.getD_eq_getElem?_getD, h9, hk]
    exact dflt_ok ci f1 j hj
  · intro T hT X0
    have hq0 := x_fresh X0 hT h1.1 hP hD
    subst hq0
    rw [pool_push (I' := setRow I n (fun _ => 0)) (Q' := setRow Q n (fun _ => none)) (by rw [cel_o hk f1]; congr 2; unfold flds; rw [setRow_same, setRow_same]) (fun b hb => cel_cong (setRow_ne (by omega)) (setRow_ne (by omega)))] at hP
    have hb1 := hb.1
    exact k _ _ _ _ _ _ _ _ _ _ _ _ _ _ _ _ _ C ⟨hW.1, hP⟩ hS1 hl ⟨by omega, by omega⟩ (by omega) (by rw [hn9]; exact fin) T hT X0
theorem x_newI {r : Ev} {d : Nat} {y : MethodName} {cc : ByteArray} {mr : Nat × Option FieldType} {b : Nat × Nat} {pc q : Nat} {lv : List (Option Value)} {st : List Value} {n : Nat} {I : MI} {Q : MQ2} {F : Post} {x : Int32} {N : Nat} (b2 : Nat × Nat) (hd : DR cc pc (.newarray .int) 2 q) (hw : Cond.arrayClass .int ∈ wT) (hk : kd n = 11 ∧ nn n = N) (hx : x = nI N) (hb : b2.1 + 1 = b.1 ∧ Nat.ble (b2.2 + N) b.2 = true) (k : X r d y cc mr b2 q lv (.ref (evz r + n) :: st) (n + 1) (setRow I n (fun _ => 0)) (setRow Q n (fun _ => none)) F) : X r d y cc mr b pc lv (.int x :: st) n I Q F := by
  intro p e s m args below meth c H locs cells slots mc ms R ls Qf C hW hS hl h1 h2 fin
  obtain ⟨hd, rfl⟩ := hd
  have hts := C.2.2.2.2.1
  have hb2 := Nat.le_of_ble_eq_true hb.2
  have hR1 := C.2.2.2.2.2.2.2.2.2.1
  have hR2 := C.2.2.2.2.2.2.2.2.2.2.1
  have hn9 : n + 1 + b2.1 = n + b.1 := by have := hb.1; omega
  have hN : N ≤ 208 := by
    rw [← hk.2]
    unfold nn
    rw [List.getD_eq_getElem?_getD]
    cases h : nnL[n]? with
    | none => exact Nat.zero_le _
    | some v => exact nn_all v (List.mem_of_getElem? h)
  subst hx
  refine va_newa (atype := .int) (ty := .int) (N' := N) (a0 := (N, .inl (fun _ => 0))) C.1 C.2.1 (hts _ hw) rfl hW.1 hW.2 pool_D hS (fun q0 hq0 => Nat.le_trans C.2.2.2.2.2.2.1 hq0) (fun cA => rfl) (nI_pos (by omega)) (nI_clamp (by omega)) (by simp [componentBytes]; omega) (by omega) (by omega) hd (fun q0 cA H1 hK1 hP hD hS1 => ?_)
  intro T hT X0
  have hq0 := x_fresh X0 hT h1.1 hP hD
  subst hq0
  have hc : cA = evc r 11 := by
    have e1 := (hK1.2 4 (cA, .int) rfl).2
    have e2 := (hW.1.2 1 (evc r 11, .int) rfl).2
    exact Option.some.inj (e1.symm.trans e2)
  subst hc
  rw [pool_push (I' := setRow I n (fun _ => 0)) (Q' := setRow Q n (fun _ => none)) (by rw [cel_i hk.1 (Or.inr rfl), hk.2, setRow_same]) (fun b hb => cel_cong (setRow_ne (by omega)) (setRow_ne (by omega)))] at hP
  have hb1 := hb.1
  exact k _ _ _ _ _ _ _ _ _ _ _ _ _ _ _ _ _ C ⟨hW.1, hP⟩ hS1 hl ⟨by omega, by omega⟩ (by omega) (by rw [hn9]; exact fin) T hT X0
theorem x_newC {r : Ev} {d : Nat} {y : MethodName} {cc : ByteArray} {mr : Nat × Option FieldType} {b : Nat × Nat} {pc q : Nat} {lv : List (Option Value)} {st : List Value} {n : Nat} {I : MI} {Q : MQ2} {F : Post} {x : Int32} {N : Nat} (b2 : Nat × Nat) (hd : DR cc pc (.newarray .char) 2 q) (hw : Cond.arrayClass .char ∈ wT) (hk : kd n = 10 ∧ nn n = N) (hx : x = nI N) (hb : b2.1 + 1 = b.1 ∧ Nat.ble (b2.2 + N) b.2 = true) (k : X r d y cc mr b2 q lv (.ref (evz r + n) :: st) (n + 1) (setRow I n (fun _ => 0)) (setRow Q n (fun _ => none)) F) : X r d y cc mr b pc lv (.int x :: st) n I Q F := by
  intro p e s m args below meth c H locs cells slots mc ms R ls Qf C hW hS hl h1 h2 fin
  obtain ⟨hd, rfl⟩ := hd
  have hts := C.2.2.2.2.1
  have hb2 := Nat.le_of_ble_eq_true hb.2
  have hR1 := C.2.2.2.2.2.2.2.2.2.1
  have hR2 := C.2.2.2.2.2.2.2.2.2.2.1
  have hn9 : n + 1 + b2.1 = n + b.1 := by have := hb.1; omega
  have hN : N ≤ 208 := by
    rw [← hk.2]
    unfold nn
    rw [List.getD_eq_getElem?_getD]
    cases h : nnL[n]? with
    | none => exact Nat.zero_le _
    | some v => exact nn_all v (List.mem_of_getElem? h)
  subst hx
  refine va_newa (atype := .char) (ty := .char) (N' := N) (a0 := (N, .inl (fun _ => 0))) C.1 C.2.1 (hts _ hw) rfl hW.1 hW.2 pool_D hS (fun q0 hq0 => Nat.le_trans C.2.2.2.2.2.2.1 hq0) (fun cA => rfl) (nI_pos (by omega)) (nI_clamp (by omega)) (by simp [componentBytes]; omega) (by omega) (by omega) hd (fun q0 cA H1 hK1 hP hD hS1 => ?_)
  intro T hT X0
  have hq0 := x_fresh X0 hT h1.1 hP hD
  subst hq0
  have hc : cA = evc r 10 := by
    have e1 := (hK1.2 4 (cA, .char) rfl).2
    have e2 := (hW.1.2 0 (evc r 10, .char) rfl).2
    exact Option.some.inj (e1.symm.trans e2)
  subst hc
  rw [pool_push (I' := setRow I n (fun _ => 0)) (Q' := setRow Q n (fun _ => none)) (by rw [cel_i hk.1 (Or.inl rfl), hk.2, setRow_same]) (fun b hb => cel_cong (setRow_ne (by omega)) (setRow_ne (by omega)))] at hP
  have hb1 := hb.1
  exact k _ _ _ _ _ _ _ _ _ _ _ _ _ _ _ _ _ C ⟨hW.1, hP⟩ hS1 hl ⟨by omega, by omega⟩ (by omega) (by rw [hn9]; exact fin) T hT X0
theorem x_newL {r : Ev} {d : Nat} {y : MethodName} {cc : ByteArray} {mr : Nat × Option FieldType} {b : Nat × Nat} {pc q : Nat} {lv : List (Option Value)} {st : List Value} {n : Nat} {I : MI} {Q : MQ2} {F : Post} {x : Int32} {N idx : Nat} (b2 : Nat × Nat) (hd : DR cc pc (.anewarray idx) 3 q) (hw : Cond.classLink y.cls idx "DewLooms$Loom" ∈ wT) (hk : kd n = 12 ∧ nn n = N) (hx : x = nI N) (hb : b2.1 + 1 = b.1 ∧ Nat.ble (b2.2 + N) b.2 = true) (k : X r d y cc mr b2 q lv (.ref (evz r + n) :: st) (n + 1) (setRow I n (fun _ => 0)) (setRow Q n (fun _ => none)) F) : X r d y cc mr b pc lv (.int x :: st) n I Q F := by
  intro p e s m args below meth c H locs cells slots mc ms R ls Qf C hW hS hl h1 h2 fin
  obtain ⟨hd, rfl⟩ := hd
  have hts := C.2.2.2.2.1
  have hb2 := Nat.le_of_ble_eq_true hb.2
  have hR1 := C.2.2.2.2.2.2.2.2.2.1
  have hR2 := C.2.2.2.2.2.2.2.2.2.2.1
  have hn9 : n + 1 + b2.1 = n + b.1 := by have := hb.1; omega
  have hN : N ≤ 208 := by
    rw [← hk.2]
    unfold nn
    rw [List.getD_eq_getElem?_getD]
    cases h : nnL[n]? with
    | none => exact Nat.zero_le _
    | some v => exact nn_all v (List.mem_of_getElem? h)
  subst hx
  refine va_newq (C := "DewLooms$Loom") (N' := N) C.1 C.2.1 C.2.2.2.1 (hts _ hw) C.2.2.2.2.2.2.2.2.2.2.2.2.1.1 hW.1 hW.2 pool_D hS (fun q0 hq0 => Nat.le_trans C.2.2.2.2.2.2.1 hq0) (nI_pos (by omega)) (nI_clamp (by omega)) (by omega) (by omega) (by omega) hd (fun q0 cA H1 hK1 hP hD hS1 => ?_)
  intro T hT X0
  have hq0 := x_fresh X0 hT h1.1 hP hD
  subst hq0
  have hc : cA = evc r 12 := by
    obtain ⟨_, _, -, -, -, e1⟩ := (hK1.2 4 (cA, .object "DewLooms$Loom") rfl).2
    obtain ⟨_, _, -, -, -, e2⟩ := (hW.1.2 2 (evc r 12, .object "DewLooms$Loom") rfl).2
    exact Option.some.inj (e1.symm.trans e2)
  subst hc
  rw [pool_push (I' := setRow I n (fun _ => 0)) (Q' := setRow Q n (fun _ => none)) (by rw [cel_q hk.1 (Or.inl rfl), hk.2, setRow_same]; rfl) (fun b hb => cel_cong (setRow_ne (by omega)) (setRow_ne (by omega)))] at hP
  have hb1 := hb.1
  exact k _ _ _ _ _ _ _ _ _ _ _ _ _ _ _ _ _ C ⟨hW.1, hP⟩ hS1 hl ⟨by omega, by omega⟩ (by omega) (by rw [hn9]; exact fin) T hT X0
theorem x_newS {r : Ev} {d : Nat} {y : MethodName} {cc : ByteArray} {mr : Nat × Option FieldType} {b : Nat × Nat} {pc q : Nat} {lv : List (Option Value)} {st : List Value} {n : Nat} {I : MI} {Q : MQ2} {F : Post} {x : Int32} {N idx : Nat} (b2 : Nat × Nat) (hd : DR cc pc (.anewarray idx) 3 q) (hw : Cond.classLink y.cls idx "DewLooms$Slope" ∈ wT) (hk : kd n = 13 ∧ nn n = N) (hx : x = nI N) (hb : b2.1 + 1 = b.1 ∧ Nat.ble (b2.2 + N) b.2 = true) (k : X r d y cc mr b2 q lv (.ref (evz r + n) :: st) (n + 1) (setRow I n (fun _ => 0)) (setRow Q n (fun _ => none)) F) : X r d y cc mr b pc lv (.int x :: st) n I Q F := by
  intro p e s m args below meth c H locs cells slots mc ms R ls Qf C hW hS hl h1 h2 fin
  obtain ⟨hd, rfl⟩ := hd
  have hts := C.2.2.2.2.1
  have hb2 := Nat.le_of_ble_eq_true hb.2
  have hR1 := C.2.2.2.2.2.2.2.2.2.1
  have hR2 := C.2.2.2.2.2.2.2.2.2.2.1
  have hn9 : n + 1 + b2.1 = n + b.1 := by have := hb.1; omega
  have hN : N ≤ 208 := by
    rw [← hk.2]
    unfold nn
    rw [List.getD_eq_getElem?_getD]
    cases h : nnL[n]? with
    | none => exact Nat.zero_le _
    | some v => exact nn_all v (List.mem_of_getElem? h)
  subst hx
  refine va_newq (C := "DewLooms$Slope") (N' := N) C.1 C.2.1 C.2.2.2.1 (hts _ hw) C.2.2.2.2.2.2.2.2.2.2.2.2.1.2 hW.1 hW.2 pool_D hS (fun q0 hq0 => Nat.le_trans C.2.2.2.2.2.2.1 hq0) (nI_pos (by omega)) (nI_clamp (by omega)) (by omega) (by omega) (by omega) hd (fun q0 cA H1 hK1 hP hD hS1 => ?_)
  intro T hT X0
  have hq0 := x_fresh X0 hT h1.1 hP hD
  subst hq0
  have hc : cA = evc r 13 := by
    obtain ⟨_, _, -, -, -, e1⟩ := (hK1.2 4 (cA, .object "DewLooms$Slope") rfl).2
    obtain ⟨_, _, -, -, -, e2⟩ := (hW.1.2 3 (evc r 13, .object "DewLooms$Slope") rfl).2
    exact Option.some.inj (e1.symm.trans e2)
  subst hc
  rw [pool_push (I' := setRow I n (fun _ => 0)) (Q' := setRow Q n (fun _ => none)) (by rw [cel_q hk.1 (Or.inr rfl), hk.2, setRow_same]; rfl) (fun b hb => cel_cong (setRow_ne (by omega)) (setRow_ne (by omega)))] at hP
  have hb1 := hb.1
  exact k _ _ _ _ _ _ _ _ _ _ _ _ _ _ _ _ _ C ⟨hW.1, hP⟩ hS1 hl ⟨by omega, by omega⟩ (by omega) (by rw [hn9]; exact fin) T hT X0
def OI (own : String) (idx : Nat) : Prop := Cond.methodLink own idx Lib.objectInit ∈ wT ∧ Cond.instanceMethod Lib.objectInit ∈ wT ∧ Cond.code Lib.objectInit ⟨#[0xb1]⟩ 1 none ∈ wT
theorem sum8 {st : List Value} (h : Fits8 st) : (st.map (fun v => v.category)).sum ≤ 8 := Nat.le_of_ble_eq_true h
theorem x_objinit {r : Ev} {d : Nat} {y : MethodName} {cc : ByteArray} {mr : Nat × Option FieldType} {b : Nat × Nat} {pc q : Nat} {lv : List (Option Value)} {st : List Value} {n : Nat} {I : MI} {Q : MQ2} {F : Post} {idx a : Nat} (hd : DR cc pc (.invokespecial idx) 3 q) (f : OI y.cls idx) (k : X r d y cc mr b q lv st n I Q F) (hdd : Nat.ble 1 d = true := by rfl) (hst : Fits8 st := by rfl) : X r d y cc mr b pc lv (.ref a :: st) n I Q F := by
  intro p e s m args below meth c H locs cells slots mc ms R ls Qf C hW hS hl h1 h2 fin
  obtain ⟨hd, rfl⟩ := hd
  have hts := C.2.2.2.2.1
  have hR1 := C.2.2.2.2.2.2.2.1
  have hR2 := C.2.2.2.2.2.2.2.2.1
  have hd1 := Nat.le_of_ble_eq_true hdd
  have h8 := sum8 hst
  exact W.objInit C.1 C.2.1 C.2.2.2.1 (hts _ f.1) (hts _ f.2.1) (hts _ f.2.2) rfl (hl.1.trans C.2.2.1.symm) rfl hd (by omega) (by show 2 * 0 + _ + 12 ≤ _; omega) (k _ _ _ _ _ _ _ _ _ _ _ _ _ _ _ _ _ C hW hS hl h1 h2 fin)
def M_max (own : String) (idx : Nat) : Prop := Cond.methodLink own idx Lib.Math.max.name ∈ wT ∧ Cond.static Lib.Math.max.name ∈ wT ∧ Cond.initialized "java/lang/Math" ∈ wT ∧ Cond.code Lib.Math.max.name Lib.Math.max.code 2 (some .int) ∈ wT
theorem x_max {r : Ev} {d : Nat} {y : MethodName} {cc : ByteArray} {mr : Nat × Option FieldType} {b : Nat × Nat} {pc q : Nat} {lv : List (Option Value)} {st : List Value} {n : Nat} {I : MI} {Q : MQ2} {F : Post} {idx : Nat} {x x2 : Int32} (hd : DR cc pc (.invokestatic idx) 3 q) (f : M_max y.cls idx) (k : X r d y cc mr b q lv (.int (if x < x2 then x2 else x) :: st) n I Q F) (hdd : Nat.ble 1 d = true := by rfl) (hst : Fits8 st := by rfl) : X r d y cc mr b pc lv (.int x2 :: .int x :: st) n I Q F := by
  intro p e s m args below meth c H locs cells slots mc ms R ls Qf C hW hS hl h1 h2 fin
  obtain ⟨hd, rfl⟩ := hd
  have hts := C.2.2.2.2.1
  have hR1 := C.2.2.2.2.2.2.2.1
  have hR2 := C.2.2.2.2.2.2.2.2.1
  have hR3 := C.2.2.2.2.2.2.2.2.2.1
  have hR4 := C.2.2.2.2.2.2.2.2.2.2.1
  have hd1 := Nat.le_of_ble_eq_true hdd
  have h8 := sum8 hst
  exact va_mmax C.1 C.2.1 (C.2.2.1.trans hl.1.symm) C.2.2.2.1 (hts _ f.1) (hts _ f.2.1) (hts _ f.2.2.1) (hts _ f.2.2.2) (by omega) (by omega) (by omega) (by omega) hd (k _ _ _ _ _ _ _ _ _ _ _ _ _ _ _ _ _ C hW hS hl h1 h2 fin)
def M_min (own : String) (idx : Nat) : Prop := Cond.methodLink own idx Lib.Math.min.name ∈ wT ∧ Cond.static Lib.Math.min.name ∈ wT ∧ Cond.initialized "java/lang/Math" ∈ wT ∧ Cond.code Lib.Math.min.name Lib.Math.min.code 2 (some .int) ∈ wT
theorem x_min {r : Ev} {d : Nat} {y : MethodName} {cc : ByteArray} {mr : Nat × Option FieldType} {b : Nat × Nat} {pc q : Nat} {lv : List (Option Value)} {st : List Value} {n : Nat} {I : MI} {Q : MQ2} {F : Post} {idx : Nat} {x x2 : Int32} (hd : DR cc pc (.invokestatic idx) 3 q) (f : M_min y.cls idx) (k : X r d y cc mr b q lv (.int (if x2 < x then x2 else x) :: st) n I Q F) (hdd : Nat.ble 1 d = true := by rfl) (hst : Fits8 st := by rfl) : X r d y cc mr b pc lv (.int x2 :: .int x :: st) n I Q F := by
  intro p e s m args below meth c H locs cells slots mc ms R ls Qf C hW hS hl h1 h2 fin
  obtain ⟨hd, rfl⟩ := hd
  have hts := C.2.2.2.2.1
  have hR1 := C.2.2.2.2.2.2.2.1
  have hR2 := C.2.2.2.2.2.2.2.2.1
  have hR3 := C.2.2.2.2.2.2.2.2.2.1
  have hR4 := C.2.2.2.2.2.2.2.2.2.2.1
  have hd1 := Nat.le_of_ble_eq_true hdd
  have h8 := sum8 hst
  exact va_mmin C.1 C.2.1 (C.2.2.1.trans hl.1.symm) C.2.2.2.1 (hts _ f.1) (hts _ f.2.1) (hts _ f.2.2.1) (hts _ f.2.2.2) (by omega) (by omega) (by omega) (by omega) hd (k _ _ _ _ _ _ _ _ _ _ _ _ _ _ _ _ _ C hW hS hl h1 h2 fin)
def AC (own : String) (idx : Nat) : Prop := Cond.methodLink own idx arraycopyName ∈ wT ∧ Cond.native arraycopyName ∈ wT ∧ Cond.static arraycopyName ∈ wT ∧ Cond.initialized "java/lang/System" ∈ wT
def cpN (I : MI) (a0 a1 N : Nat) : MI := setRow I a1 (fun k => if k < N then I a0 k else I a1 k)
theorem cpN_row (I : MI) (a0 a1 N : Nat) : cpN I a0 a1 N a1 = va_cpy (I a0) (I a1) 0 0 N := by
  unfold cpN
  rw [setRow_same]
  funext j
  simp [va_cpy]
theorem x_acopy {r : Ev} {d : Nat} {y : MethodName} {cc : ByteArray} {mr : Nat × Option FieldType} {b : Nat × Nat} {pc q : Nat} {lv : List (Option Value)} {st : List Value} {n : Nat} {I : MI} {Q : MQ2} {F : Post} {idx a0 a1 N N0 N1 : Nat} {x : Int32} (hd : DR cc pc (.invokestatic idx) 3 q) (f : AC y.cls idx) (ha0 : Ar n 11 a0 N0) (ha1 : Ar n 11 a1 N1) (hx : x = nI N) (hN0 : N ≤ N0) (hN1 : N ≤ N1) (k : X r d y cc mr b q lv st n (cpN I a0 a1 N) Q F) (hdd : Nat.ble 1 d = true := by rfl) (hst : Fits8 st := by rfl) : X r d y cc mr b pc lv (.int x :: .int 0 :: .ref (evz r + a1) :: .int 0 :: .ref (evz r + a0) :: st) n I Q F := by
  intro p e s m args below meth c H locs cells slots mc ms R ls Qf C hW hS hl h1 h2 fin
  obtain ⟨hd, rfl⟩ := hd
  have hts := C.2.2.2.2.1
  have hR1 := C.2.2.2.2.2.2.2.1
  have hR2 := C.2.2.2.2.2.2.2.2.1
  have hd1 := Nat.le_of_ble_eq_true hdd
  have h8 := sum8 hst
  have hN := ha0.lt
  subst hx
  have hc : (nI N).toNatClampNeg = N := nI_clamp (by omega)
  have h0 : (0 : Int32).toNatClampNeg = 0 := rfl
  have hnw : nativeFrameWords "java/lang/System" "arraycopy" 5 + 11 ≤ 32 := Nat.le_of_ble_eq_true rfl
  refine va_copyi C.1 C.2.1 (C.2.2.1.trans hl.1.symm) C.2.2.2.1 (hts _ f.1) (hts _ f.2.1) (hts _ f.2.2.1) (hts _ f.2.2.2) hW.1 hW.2 pool_D hS a0 a1 1 1 (ty := .int) (wd_ai ha0 (Or.inr rfl)) (wd_ai ha1 (Or.inr rfl)) rfl rfl rfl (by decide) (by decide) (nI_pos (by omega)) (by rw [hc, h0]; omega) (by rw [hc, h0]; omega) (fun i hi => rfl) (by omega) (by omega) hd (fun H1 locs1 hP hD hS1 => ?_)
  rw [hc, h0, pool_set (I' := cpN I a0 a1 N) (Q' := Q) ha1.2.2 (by rw [cel_i ha1.1 (Or.inr rfl), ha1.2.1]; rw [cpN_row]) (fun b hb => cel_cong (setRow_ne hb) rfl)] at hP
  exact k _ _ _ _ _ _ _ _ _ _ _ _ _ _ _ _ _ C ⟨hW.1, hP⟩ hS1 hl h1 h2 fin
theorem x_ldc2 {r : Ev} {d : Nat} {y : MethodName} {cc : ByteArray} {mr : Nat × Option FieldType} {b : Nat × Nat} {pc q : Nat} {lv : List (Option Value)} {st : List Value} {n : Nat} {I : MI} {Q : MQ2} {F : Post} {idx : Nat} {v : Int64} (hd : DR cc pc (.ldc2_w idx) 3 q) (f : Cond.constantLong y.cls idx v ∈ wT) (k : X r d y cc mr b q lv (.long v :: st) n I Q F) : X r d y cc mr b pc lv st n I Q F := by
  intro p e s m args below meth c H locs cells slots mc ms R ls Qf C hW hS hl h1 h2 fin
  obtain ⟨hd, rfl⟩ := hd
  exact lv_ldc2 C.1 C.2.1 C.2.2.2.1 (C.2.2.2.2.1 _ f) hd (k _ _ _ _ _ _ _ _ _ _ _ _ _ _ _ _ _ C hW hS hl h1 h2 fin)
theorem x_ldcw {r : Ev} {d : Nat} {y : MethodName} {cc : ByteArray} {mr : Nat × Option FieldType} {b : Nat × Nat} {pc q : Nat} {lv : List (Option Value)} {st : List Value} {n : Nat} {I : MI} {Q : MQ2} {F : Post} {idx : Nat} {v : Int32} (hd : DR cc pc (.ldc_w idx) 3 q) (f : Cond.constant y.cls idx v ∈ wT) (k : X r d y cc mr b q lv (.int v :: st) n I Q F) : X r d y cc mr b pc lv st n I Q F := by
  intro p e s m args below meth c H locs cells slots mc ms R ls Qf C hW hS hl h1 h2 fin
  obtain ⟨hd, rfl⟩ := hd
  exact lv_ldcw C.1 C.2.1 C.2.2.2.1 (C.2.2.2.2.1 _ f) hd (k _ _ _ _ _ _ _ _ _ _ _ _ _ _ _ _ _ C hW hS hl h1 h2 fin)
theorem x_ldc {r : Ev} {d : Nat} {y : MethodName} {cc : ByteArray} {mr : Nat × Option FieldType} {b : Nat × Nat} {pc q : Nat} {lv : List (Option Value)} {st : List Value} {n : Nat} {I : MI} {Q : MQ2} {F : Post} {idx : Nat} {v : Int32} (hd : DR cc pc (.ldc idx) 2 q) (f : Cond.constant y.cls idx v ∈ wT) (k : X r d y cc mr b q lv (.int v :: st) n I Q F) : X r d y cc mr b pc lv st n I Q F := by
  intro p e s m args below meth c H locs cells slots mc ms R ls Qf C hW hS hl h1 h2 fin
  obtain ⟨hd, rfl⟩ := hd
  exact lv_ldc C.1 C.2.1 C.2.2.2.1 (C.2.2.2.2.1 _ f) hd (k _ _ _ _ _ _ _ _ _ _ _ _ _ _ _ _ _ C hW hS hl h1 h2 fin)
theorem x_tsIn {r : Ev} {d : Nat} {y : MethodName} {cc : ByteArray} {mr : Nat × Option FieldType} {b : Nat × Nat} {pc q : Nat} {lv : List (Option Value)} {st : List Value} {n : Nat} {I : MI} {Q : MQ2} {F : Post} {dflt lo hi off : Int} {offs : Array Int} {len t : Nat} {x : Int32} (hd : DR cc pc (.tableswitch dflt lo hi offs) len q) (g1 : ¬ x.toInt < lo) (g2 : ¬ hi < x.toInt) (ho : offs[(x.toInt - lo).toNat]? = some off) (ht : (pc : Int) + off = (t : Int)) (k : X r d y cc mr b t lv st n I Q F) : X r d y cc mr b pc lv (.int x :: st) n I Q F := by
  intro p e s m args below meth c H locs cells slots mc ms R ls Qf C hW hS hl h1 h2 fin
  exact lv_tableIn C.1 C.2.1 hd.1 g1 g2 ho ht (k _ _ _ _ _ _ _ _ _ _ _ _ _ _ _ _ _ C hW hS hl h1 h2 fin)
theorem x_tsOut {r : Ev} {d : Nat} {y : MethodName} {cc : ByteArray} {mr : Nat × Option FieldType} {b : Nat × Nat} {pc q : Nat} {lv : List (Option Value)} {st : List Value} {n : Nat} {I : MI} {Q : MQ2} {F : Post} {dflt lo hi : Int} {offs : Array Int} {len t : Nat} {x : Int32} (hd : DR cc pc (.tableswitch dflt lo hi offs) len q) (g : x.toInt < lo ∨ hi < x.toInt) (ht : (pc : Int) + dflt = (t : Int)) (k : X r d y cc mr b t lv st n I Q F) : X r d y cc mr b pc lv (.int x :: st) n I Q F := by
  intro p e s m args below meth c H locs cells slots mc ms R ls Qf C hW hS hl h1 h2 fin
  exact lv_tableOut C.1 C.2.1 hd.1 g ht (k _ _ _ _ _ _ _ _ _ _ _ _ _ _ _ _ _ C hW hS hl h1 h2 fin)
theorem x_ls {r : Ev} {d : Nat} {y : MethodName} {cc : ByteArray} {mr : Nat × Option FieldType} {b : Nat × Nat} {pc q : Nat} {lv : List (Option Value)} {st : List Value} {n : Nat} {I : MI} {Q : MQ2} {F : Post} {dflt off : Int} {ps : Array (Int × Int)} {len t : Nat} {x : Int32} (hd : DR cc pc (.lookupswitch dflt ps) len q) (hp : (ps.toList.zip (ps.toList.drop 1)).all (fun (a, next) => a.1 < next.1) = true) (ho : Op.lookupswitch.offset ps.toList dflt x.toInt = off) (ht : (pc : Int) + off = (t : Int)) (k : X r d y cc mr b t lv st n I Q F) : X r d y cc mr b pc lv (.int x :: st) n I Q F := by
  intro p e s m args below meth c H locs cells slots mc ms R ls Qf C hW hS hl h1 h2 fin
  exact lv_lookup C.1 C.2.1 hd.1 hp ho ht (k _ _ _ _ _ _ _ _ _ _ _ _ _ _ _ _ _ C hW hS hl h1 h2 fin)
