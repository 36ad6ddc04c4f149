/-! ===== the constant string, the script: what lies below z ===== -/
theorem XC.z {r : Ev} {d : Nat} {y : MethodName} {cc : ByteArray} {mr : Nat × Option FieldType} {p : Program} {s : State} {m : MethodId} {args : Array Value} {meth : Method} {c : Code} {R : Room} {mc ms : Nat} (C : XC r d y cc mr p s m args meth c R mc ms) : ZS r s s.heap := C.2.2.2.2.2.2.2.2.2.2.2
theorem x_ldcK {r : Ev} {d : Nat} {y : MethodName} {cc : ByteArray} {mr : Nat × Option FieldType} {b : Nat × Nat} {pc q : Nat} {lv : List (Option Value)} {st : List Value} {n : Nat} {I : MI} {Q : MQ2} {F : Post} (hd : DR cc pc (.ldc 69) 2 q) (hy : y.cls = RX8) (k : X r d y cc mr b q lv (.ref (evK r 0) :: st) n I Q F) : X r d y cc mr b pc lv (st) n I Q F := by
  intro p e s m args below meth c H locs cells slots mc ms R ls Qf C hW hS hl h1 h2 fin
  obtain ⟨hd, rfl⟩ := hd
  exact va_ldcS C.1 C.2.1 (by rw [← hy]; exact C.2.2.2.1) C.z.2.2.1.2.1 hd (k _ _ _ _ _ _ _ _ _ _ _ _ _ _ _ _ _ C hW hS hl h1 h2 fin)
theorem x_getKV {r : Ev} {d : Nat} {y : MethodName} {cc : ByteArray} {mr : Nat × Option FieldType} {b : Nat × Nat} {pc q : Nat} {lv : List (Option Value)} {st : List Value} {n : Nat} {I : MI} {Q : MQ2} {F : Post} (hd : DR cc pc (.getfield 9) 3 q) (hy : y.cls = "java/lang/String") (k : X r d y cc mr b q lv (.ref (evV r 0) :: st) n I Q F) : X r d y cc mr b pc lv (.ref (evK r 0) :: st) n I Q F := by
  intro p e s m args below meth c H locs cells slots mc ms R ls Qf C hW hS hl h1 h2 fin
  obtain ⟨hd, rfl⟩ := hd
  exact vk_getf C.1 C.2.1 (C.z.2.2.1.1.1 0 (Nat.le_refl 1)).2.2.1 hS (by rw [← hy]; exact C.2.2.2.1) (C.2.2.2.2.1 _ (tw (w := Cond.fieldLink "java/lang/String" 9 "java/lang/String" "value" "[B") 1084 (by decide +kernel) (by decide +kernel))) (fun _ h => h) hd (k _ _ _ _ _ _ _ _ _ _ _ _ _ _ _ _ _ C hW hS hl h1 h2 fin)
theorem x_getKC {r : Ev} {d : Nat} {y : MethodName} {cc : ByteArray} {mr : Nat × Option FieldType} {b : Nat × Nat} {pc q : Nat} {lv : List (Option Value)} {st : List Value} {n : Nat} {I : MI} {Q : MQ2} {F : Post} (hd : DR cc pc (.getfield 15) 3 q) (hy : y.cls = "java/lang/String") (k : X r d y cc mr b q lv (.int (nI 0) :: st) n I Q F) : X r d y cc mr b pc lv (.ref (evK r 0) :: st) n I Q F := by
  intro p e s m args below meth c H locs cells slots mc ms R ls Qf C hW hS hl h1 h2 fin
  obtain ⟨hd, rfl⟩ := hd
  exact vk_getf C.1 C.2.1 (C.z.2.2.1.1.1 0 (Nat.le_refl 1)).2.1 hS (by rw [← hy]; exact C.2.2.2.1) (C.2.2.2.2.1 _ (tw (w := Cond.fieldLink "java/lang/String" 15 "java/lang/String" "coder" "B") 1085 (by decide +kernel) (by decide +kernel))) (fun _ h => h) hd (k _ _ _ _ _ _ _ _ _ _ _ _ _ _ _ _ _ C hW hS hl h1 h2 fin)
theorem x_gsCS {r : Ev} {d : Nat} {y : MethodName} {cc : ByteArray} {mr : Nat × Option FieldType} {b : Nat × Nat} {pc q : Nat} {lv : List (Option Value)} {st : List Value} {n : Nat} {I : MI} {Q : MQ2} {F : Post} (hd : DR cc pc (.getstatic 38) 3 q) (hy : y.cls = "java/lang/String") (k : X r d y cc mr b q lv (.int (nI 1) :: st) n I Q F) : X r d y cc mr b pc lv (st) n I Q F := by
  intro p e s m args below meth c H locs cells slots mc ms R ls Qf C hW hS hl h1 h2 fin
  obtain ⟨hd, rfl⟩ := hd
  exact va_gets C.1 C.2.1 C.z.2.2.1.2.2.1 hS (by rw [← hy]; exact C.2.2.2.1) (C.2.2.2.2.1 _ (tw (w := Cond.fieldLink "java/lang/String" 38 "java/lang/String" "COMPACT_STRINGS" "Z") 274 (by decide +kernel) (by decide +kernel))) (fun _ h => h) hd (k _ _ _ _ _ _ _ _ _ _ _ _ _ _ _ _ _ C hW hS hl h1 h2 fin)
theorem x_gsSF {r : Ev} {d : Nat} {y : MethodName} {cc : ByteArray} {mr : Nat × Option FieldType} {b : Nat × Nat} {pc q : Nat} {lv : List (Option Value)} {st : List Value} {n : Nat} {I : MI} {Q : MQ2} {F : Post} (hd : DR cc pc (.getstatic 1053) 3 q) (hy : y.cls = "java/lang/String") (k : X r d y cc mr b q lv (.null :: st) n I Q F) (k2 : ∀ t, X r d y cc mr b q lv (.ref t :: st) n I Q F) : X r d y cc mr b pc lv (st) n I Q F := by
  intro p e s m args below meth c H locs cells slots mc ms R ls Qf C hW hS hl h1 h2 fin
  obtain ⟨hd, rfl⟩ := hd
  rcases C.z.2.2.1.2.2.2 with z | ⟨t, z⟩
  · exact va_gets C.1 C.2.1 z hS (by rw [← hy]; exact C.2.2.2.1) (C.2.2.2.2.1 _ (tw (w := Cond.fieldLink "java/lang/String" 1053 "jdk/internal/util/Preconditions" "SIOOBE_FORMATTER" "Ljava/util/function/BiFunction;") 290 (by decide +kernel) (by decide +kernel))) (fun _ h => h) hd (k _ _ _ _ _ _ _ _ _ _ _ _ _ _ _ _ _ C hW hS hl h1 h2 fin)
  · exact va_gets C.1 C.2.1 z hS (by rw [← hy]; exact C.2.2.2.1) (C.2.2.2.2.1 _ (tw (w := Cond.fieldLink "java/lang/String" 1053 "jdk/internal/util/Preconditions" "SIOOBE_FORMATTER" "Ljava/util/function/BiFunction;") 290 (by decide +kernel) (by decide +kernel))) (fun _ h => h) hd (k2 t _ _ _ _ _ _ _ _ _ _ _ _ _ _ _ _ _ C hW hS hl h1 h2 fin)
theorem x_lenV {r : Ev} {d : Nat} {y : MethodName} {cc : ByteArray} {mr : Nat × Option FieldType} {b : Nat × Nat} {pc q : Nat} {lv : List (Option Value)} {st : List Value} {n : Nat} {I : MI} {Q : MQ2} {F : Post} (hd : DR cc pc .arraylength 1 q) (k : X r d y cc mr b q lv (.int (nI 64) :: st) n I Q F) : X r d y cc mr b pc lv (.ref (evV r 0) :: st) n I Q F := by
  intro p e s m args below meth c H locs cells slots mc ms R ls Qf C hW hS hl h1 h2 fin
  obtain ⟨hd, rfl⟩ := hd
  exact va_tlen C.1 C.2.1 (C.z.2.2.1.1.1 0 (Nat.le_refl 1)).2.2.2 hS (v := nI 64) rfl hd (k _ _ _ _ _ _ _ _ _ _ _ _ _ _ _ _ _ C hW hS hl h1 h2 fin)
theorem x_bldV {r : Ev} {d : Nat} {y : MethodName} {cc : ByteArray} {mr : Nat × Option FieldType} {b : Nat × Nat} {pc q : Nat} {lv : List (Option Value)} {st : List Value} {n : Nat} {I : MI} {Q : MQ2} {F : Post} {i : Nat} (hd : DR cc pc .baload 1 q) (hi : i < 64) (k : X r d y cc mr b q lv (.int (fTxt.getD i 0) :: st) n I Q F) : X r d y cc mr b pc lv (.int (nI i) :: .ref (evV r 0) :: st) n I Q F := by
  intro p e s m args below meth c H locs cells slots mc ms R ls Qf C hW hS hl h1 h2 fin
  obtain ⟨hd, rfl⟩ := hd
  have h64 : (64 : Nat) < 2 ^ 31 := Nat.le_of_ble_eq_true rfl
  exact va_tb C.1 C.2.1 (N := 64) (C.z.2.2.1.1.1 0 (Nat.le_refl 1)).2.2.2 hS (vp_in_nI hi h64) (v := .int (fTxt.getD i 0)) (by rw [nI_cl hi h64]; rfl) hd (k _ _ _ _ _ _ _ _ _ _ _ _ _ _ _ _ _ C hW hS hl h1 h2 fin)
theorem x_callK {r : Ev} {d : Nat} {y : MethodName} {cc : ByteArray} {mr : Nat × Option FieldType} {b : Nat × Nat} {pc q : Nat} {lv : List (Option Value)} {st : List Value} {n : Nat} {I : MI} {Q : MQ2} {F : Post} {d' : Nat} {y' : MethodName} {cc' : ByteArray} {mr' : Nat × Option FieldType} {b' b2 : Nat × Nat} {idx k0 : Nat} {F' : Post} {As : List Value} (hd : DR cc pc (.invokevirtual idx) 3 q) (f : MFV y.cls idx y' cc' mr' k0) (hcl : "java/lang/String" = y'.cls) (hc : CT r d' y' cc' mr' b' (.ref (evK r 0) :: As) n I Q F') (hdd : Nat.ble (d' + 1) d = true) (hlen : As.length = k0) (hst : Nat.ble (st.map (fun v => v.category)).sum 8 = true) (hb : b'.1 + b2.1 = b.1 ∧ b'.2 + b2.2 ≤ b.2) (k : ∀ (v : Option Value) (I' : MI) (Q' : MQ2), F' v I' Q' → X r d y cc mr b2 q lv (v.toList ++ st) (n + b'.1) I' Q' F) : X r d y cc mr b pc lv (As.reverse ++ .ref (evK r 0) :: st) n I Q F := by
  intro p e s m args below meth c H locs cells slots mc ms R ls Qf C hW hS hl h1 h2 fin
  obtain ⟨hd, rfl⟩ := hd
  intro T hT X0
  have hsz := x_size X0 hT h1.1 C.2.2.2.2.2.2.1 hW hS
  have hf : cells + b'.1 ≤ R.cells ∧ slots + b'.2 ≤ R.slots := by have := C.2.2.2.2.2.2.2.2.2.1; have := C.2.2.2.2.2.2.2.2.2.2.1; omega
  have fl := f.2.1
  have hcb := x_callB (b' := b') C f.1 fl (Nat.le_of_ble_eq_true hdd)
  refine x_after C hS hl h1 h2 hb (va_runV (As := As) (rest := st) ⟨C.1, C.2.1, C.2.2.1, C.2.2.2.1, C.2.2.2.2.1⟩ hc ⟨hcb, C.2.2.2.2.1 _ f.2.2.1, C.2.2.2.2.1 _ f.2.2.2⟩ ⟨x_pre, (by rw [← hcl]; exact vk_recv (i := 0) C.z.2.2.1.1 (Nat.le_refl 1) hS), fun U hU hWm => ⟨rfl, by rw [hU]; exact hsz, ⟨va_K.moved hWm.alike hW.1, by rw [hU]; exact hW.2⟩, by rw [hU]; exact C.2.2.2.2.2.2.2.2.2.2.2.goes hS hWm⟩⟩ rfl hlen hl.1 rfl (by show 2 * 0 + _ ≤ 8; have := Nat.le_of_ble_eq_true hst; omega) hd hf) k fin T hT X0
theorem x_K0i {r : Ev} {d : Nat} {y : MethodName} {cc : ByteArray} {mr : Nat × Option FieldType} {b : Nat × Nat} {pc q : Nat} {lv : List (Option Value)} {st : List Value} {n : Nat} {I : MI} {Q : MQ2} {F : Post} {d' : Nat} {y' : MethodName} {cc' : ByteArray} {mr' : Nat × Option FieldType} {idx : Nat} {G : Int32 → MI → Prop} (hd : DR cc pc (.invokevirtual idx) 3 q) (f : MFV y.cls idx y' cc' mr' 0) (hc : CT r d' y' cc' mr' (0, 0) [.ref (evK r 0)] n I Q (ri Q G)) (hcl : "java/lang/String" = y'.cls) (k : ∀ (x : Int32) (I' : MI), G x I' → X r d y cc mr b q lv (.int x :: st) n I' Q F) (hdd : Nat.ble (d' + 1) d = true := by rfl) (hst : Fits8 st := by rfl) : X r d y cc mr b pc lv (.ref (evK r 0) :: st) n I Q F :=
  x_callK (As := []) (b2 := b) hd f hcl hc hdd rfl hst ⟨Nat.zero_add _, Nat.le_of_eq (Nat.zero_add _)⟩ (fun v I' Q' h => by
    obtain ⟨x, rfl, rfl, hG⟩ := h
    exact k x I' hG)
theorem x_K1i {r : Ev} {d : Nat} {y : MethodName} {cc : ByteArray} {mr : Nat × Option FieldType} {b : Nat × Nat} {pc q : Nat} {lv : List (Option Value)} {st : List Value} {n : Nat} {I : MI} {Q : MQ2} {F : Post} {d' : Nat} {y' : MethodName} {cc' : ByteArray} {mr' : Nat × Option FieldType} {idx : Nat} {v1 : Value} {G : Int32 → MI → Prop} (hd : DR cc pc (.invokevirtual idx) 3 q) (f : MFV y.cls idx y' cc' mr' 1) (hc : CT r d' y' cc' mr' (0, 0) [.ref (evK r 0), v1] n I Q (ri Q G)) (hcl : "java/lang/String" = y'.cls) (k : ∀ (x : Int32) (I' : MI), G x I' → X r d y cc mr b q lv (.int x :: st) n I' Q F) (hdd : Nat.ble (d' + 1) d = true := by rfl) (hst : Fits8 st := by rfl) : X r d y cc mr b pc lv (v1 :: .ref (evK r 0) :: st) n I Q F :=
  x_callK (As := [v1]) (b2 := b) hd f hcl hc hdd rfl hst ⟨Nat.zero_add _, Nat.le_of_eq (Nat.zero_add _)⟩ (fun v I' Q' h => by
    obtain ⟨x, rfl, rfl, hG⟩ := h
    exact k x I' hG)
/-- the letters of the first text -/
def ftN : List Nat := [108, 48, 44, 48, 44, 51, 59, 108, 49, 44, 50, 44, 50, 59, 108, 50, 44, 51, 44, 51, 59, 108, 51, 44, 53, 44, 52, 59, 108, 48, 44, 56, 44, 50, 59, 104, 51, 44, 48, 59, 104, 53, 44, 48, 59, 104, 50, 44, 49, 59, 104, 48, 44, 49, 59, 115, 51, 59, 109, 54, 59, 121, 53, 59]
def fT (i : Nat) : Nat := ftN.getD i 0
theorem fT_lt (i : Nat) (h : i < 64) : fT i < 128 := (show ∀ i, i < 64 → fT i < 128 by decide +kernel) i h
theorem fT_and : ∀ i, i < 64 → ((fTxt.getD i 0 &&& nI 255).toUInt32 % 65536).toInt32 = nI (fT i) := by decide +kernel
theorem fT_nar : ∀ i, i < 64 → narrow .char (.int (nI (fT i))) = .int (nI (fT i)) := by
  intro i h
  have : (match narrow .char (.int (nI (fT i))) with | .int x => x | _ => 0) = nI (fT i) := (show ∀ i, i < 64 → (match narrow .char (.int (nI (fT i))) with | .int x => x | _ => 0) = nI (fT i) by decide +kernel) i h
  exact congrArg Value.int this
set_option maxHeartbeats 4000000 in
theorem c_J0_coder {r : Ev} {n : Nat} {I : MI} {Q : MQ2} : CT r 0 yJ0_coder_7d493 cJ0_coder_7d493 (1, (some .byte)) (0, 0) [.ref (evK r 0)] n I Q (ri Q (fun x J => J = I ∧ x = nI 0)) := by
  refine ct_of (lv := [some (.ref (evK r 0))]) (by decide +kernel) rfl rfl rfl ?_
  refine x_gsCS dJ0_coder_7d493_0 rfl ?_
  refine x_if_eqN dJ0_coder_7d493_3 (by omega) (fun c3 => ?_) (fun c3 => ?_)
  · exfalso; omega
  · refine x_aload_0 dJ0_coder_7d493_6 ?_
    refine x_getKC dJ0_coder_7d493_7 rfl ?_
    refine x_goto dJ0_coder_7d493_10 ?_
    exact x_iret (st := []) dJ0_coder_7d493_14 rfl rfl ⟨_, rfl, rfl, rfl, rfl⟩
set_option maxHeartbeats 4000000 in
theorem c_J0_isLatin1 {r : Ev} {n : Nat} {I : MI} {Q : MQ2} : CT r 0 yJ0_isLatin1_aae02 cJ0_isLatin1_aae02 (1, (some .boolean)) (0, 0) [.ref (evK r 0)] n I Q (ri Q (fun x J => J = I ∧ x = nI 1)) := by
  refine ct_of (lv := [some (.ref (evK r 0))]) (by decide +kernel) rfl rfl rfl ?_
  refine x_gsCS dJ0_isLatin1_aae02_0 rfl ?_
  refine x_if_eqN dJ0_isLatin1_aae02_3 (by omega) (fun c3 => ?_) (fun c3 => ?_)
  · exfalso; omega
  · refine x_aload_0 dJ0_isLatin1_aae02_6 ?_
    refine x_getKC dJ0_isLatin1_aae02_7 rfl ?_
    refine x_if_neN dJ0_isLatin1_aae02_10 (by omega) (fun c10 => ?_) (fun c10 => ?_)
    · exfalso; omega
    · refine x_const (c := 1) dJ0_isLatin1_aae02_13 rfl ?_
      refine x_goto dJ0_isLatin1_aae02_14 ?_
      exact x_iret (st := []) dJ0_isLatin1_aae02_18 rfl rfl ⟨_, rfl, rfl, rfl, rfl⟩
set_option maxHeartbeats 4000000 in
theorem c_J0_length {r : Ev} {n : Nat} {I : MI} {Q : MQ2} : CT r 1 yJ0_length_8abf5 cJ0_length_8abf5 (1, (some .int)) (0, 0) [.ref (evK r 0)] n I Q (ri Q (fun x J => J = I ∧ x = nI 64)) := by
  refine ct_of (lv := [some (.ref (evK r 0))]) (by decide +kernel) rfl rfl rfl ?_
  refine x_aload_0 dJ0_length_8abf5_0 ?_
  refine x_getKV dJ0_length_8abf5_1 rfl ?_
  refine x_lenV dJ0_length_8abf5_4 ?_
  refine x_aload_0 dJ0_length_8abf5_5 ?_
  refine x_K0i dJ0_length_8abf5_6 m_J0_335 c_J0_coder rfl (fun x6 I6 h6 => ?_)
  obtain ⟨rfl, rfl⟩ := h6
  refine x_ishr dJ0_length_8abf5_9 ?_
  exact x_iret (st := []) dJ0_length_8abf5_10 rfl rfl ⟨_, rfl, rfl, rfl, (show nI 64 >>> (nI 0 &&& 31) = nI 64 by decide +kernel)⟩
set_option maxHeartbeats 4000000 in
theorem c_J3_checkn {r : Ev} {n : Nat} {I : MI} {Q : MQ2} (i : Nat) (hi : i < 64) : CT r 0 yJ3_checkIndex_8e157 cJ3_checkIndex_8e157 (3, (some .int)) (0, 0) [.int (nI i), .int (nI 64), .null] n I Q (ri Q (fun x J => J = I)) := by
  refine ct_of (lv := [some (.int (nI i)), some (.int (nI 64)), some (.null)]) (by decide +kernel) rfl rfl rfl ?_
  refine x_iload_0 dJ3_checkIndex_8e157_0 ?_
  refine x_if_ltN dJ3_checkIndex_8e157_1 (by omega) (fun c1 => ?_) (fun c1 => ?_)
  · exfalso; omega
  · refine x_iload_0 dJ3_checkIndex_8e157_4 ?_
    refine x_iload_1 dJ3_checkIndex_8e157_5 ?_
    refine x_icmp_ltN dJ3_checkIndex_8e157_6 (by omega) (by omega) (fun c6 => ?_) (fun c6 => ?_)
    · refine x_iload_0 dJ3_checkIndex_8e157_16 ?_
      exact x_iret (st := []) dJ3_checkIndex_8e157_17 rfl rfl ⟨_, rfl, rfl, rfl⟩
    · exfalso; omega
set_option maxHeartbeats 4000000 in
theorem c_J3_checkr {r : Ev} {n : Nat} {I : MI} {Q : MQ2} (t : Nat) (i : Nat) (hi : i < 64) : CT r 0 yJ3_checkIndex_8e157 cJ3_checkIndex_8e157 (3, (some .int)) (0, 0) [.int (nI i), .int (nI 64), .ref t] n I Q (ri Q (fun x J => J = I)) := by
  refine ct_of (lv := [some (.int (nI i)), some (.int (nI 64)), some (.ref t)]) (by decide +kernel) rfl rfl rfl ?_
  refine x_iload_0 dJ3_checkIndex_8e157_0 ?_
  refine x_if_ltN dJ3_checkIndex_8e157_1 (by omega) (fun c1 => ?_) (fun c1 => ?_)
  · exfalso; omega
  · refine x_iload_0 dJ3_checkIndex_8e157_4 ?_
    refine x_iload_1 dJ3_checkIndex_8e157_5 ?_
    refine x_icmp_ltN dJ3_checkIndex_8e157_6 (by omega) (by omega) (fun c6 => ?_) (fun c6 => ?_)
    · refine x_iload_0 dJ3_checkIndex_8e157_16 ?_
      exact x_iret (st := []) dJ3_checkIndex_8e157_17 rfl rfl ⟨_, rfl, rfl, rfl⟩
    · exfalso; omega
set_option maxHeartbeats 4000000 in
theorem c_J0_checkIndex {r : Ev} {n : Nat} {I : MI} {Q : MQ2} (i : Nat) (hi : i < 64) : CT r 1 yJ0_checkIndex_df160 cJ0_checkIndex_df160 (2, none) (0, 0) [.int (nI i), .int (nI 64)] n I Q (rv Q (fun J => J = I)) := by
  refine ct_of (lv := [some (.int (nI i)), some (.int (nI 64))]) (by decide +kernel) rfl rfl rfl ?_
  refine x_iload_0 dJ0_checkIndex_df160_0 ?_
  refine x_iload_1 dJ0_checkIndex_df160_1 ?_
  refine x_gsSF dJ0_checkIndex_df160_2 rfl ?_ (fun t => ?_)
  · refine x_S3i dJ0_checkIndex_df160_5 m_J0_1059 (c_J3_checkn i hi) (fun x5 I5 h5 => ?_)
    obtain rfl := h5
    refine x_pop_int dJ0_checkIndex_df160_8 ?_
    exact x_vret (st := []) dJ0_checkIndex_df160_9 rfl ⟨rfl, rfl, rfl⟩
  · refine x_S3i dJ0_checkIndex_df160_5 m_J0_1059 (c_J3_checkr t i hi) (fun x5 I5 h5 => ?_)
    obtain rfl := h5
    refine x_pop_int dJ0_checkIndex_df160_8 ?_
    exact x_vret (st := []) dJ0_checkIndex_df160_9 rfl ⟨rfl, rfl, rfl⟩
set_option maxHeartbeats 4000000 in
theorem c_J1_charAt {r : Ev} {n : Nat} {I : MI} {Q : MQ2} (i : Nat) (hi : i < 64) : CT r 2 yJ1_charAt_3b067 cJ1_charAt_3b067 (2, (some .char)) (0, 0) [.ref (evV r 0), .int (nI i)] n I Q (ri Q (fun x J => J = I ∧ x = nI (fT i))) := by
  refine ct_of (lv := [some (.ref (evV r 0)), some (.int (nI i))]) (by decide +kernel) rfl rfl rfl ?_
  refine x_iload_1 dJ1_charAt_3b067_0 ?_
  refine x_aload_0 dJ1_charAt_3b067_1 ?_
  refine x_lenV dJ1_charAt_3b067_2 ?_
  refine x_S2v dJ1_charAt_3b067_3 m_J1_9 (c_J0_checkIndex i hi) (fun I3 h3 => ?_)
  obtain rfl := h3
  refine x_aload_0 dJ1_charAt_3b067_6 ?_
  refine x_iload_1 dJ1_charAt_3b067_7 ?_
  refine x_bldV dJ1_charAt_3b067_8 hi ?_
  refine x_sip (c := 255) dJ1_charAt_3b067_9 (by decide) ?_
  refine x_iand dJ1_charAt_3b067_12 ?_
  refine x_i2c dJ1_charAt_3b067_13 (fT_and i hi) ?_
  exact x_iret (st := []) dJ1_charAt_3b067_14 rfl (fT_nar i hi) ⟨_, rfl, rfl, rfl, rfl⟩
set_option maxHeartbeats 4000000 in
theorem c_J0_charAt {r : Ev} {n : Nat} {I : MI} {Q : MQ2} (i : Nat) (hi : i < 64) : CT r 3 yJ0_charAt_5068e cJ0_charAt_5068e (2, (some .char)) (0, 0) [.ref (evK r 0), .int (nI i)] n I Q (ri Q (fun x J => J = I ∧ x = nI (fT i))) := by
  refine ct_of (lv := [some (.ref (evK r 0)), some (.int (nI i))]) (by decide +kernel) rfl rfl rfl ?_
  refine x_aload_0 dJ0_charAt_5068e_0 ?_
  refine x_K0i dJ0_charAt_5068e_1 m_J0_492 c_J0_isLatin1 rfl (fun x1 I1 h1 => ?_)
  obtain ⟨rfl, rfl⟩ := h1
  refine x_if_eqN dJ0_charAt_5068e_4 (by omega) (fun c4 => ?_) (fun c4 => ?_)
  · exfalso; omega
  · refine x_aload_0 dJ0_charAt_5068e_7 ?_
    refine x_getKV dJ0_charAt_5068e_8 rfl ?_
    refine x_iload_1 dJ0_charAt_5068e_11 ?_
    refine x_S2i dJ0_charAt_5068e_12 m_J0_495 (c_J1_charAt i hi) (fun x12 I12 h12 => ?_)
    obtain ⟨rfl, rfl⟩ := h12
    exact x_iret (st := []) dJ0_charAt_5068e_15 rfl (fT_nar i hi) ⟨_, rfl, rfl, rfl, rfl⟩
theorem script_lt {r : Ev} {s : State} (h : ZS r s s.heap) : evb r < s.heap.size := by
  obtain ⟨scr, hc, -⟩ := h.2.2.2.1
  exact (Array.getElem?_eq_some_iff.mp hc).1
theorem x_lenB {r : Ev} {d : Nat} {y : MethodName} {cc : ByteArray} {mr : Nat × Option FieldType} {b : Nat × Nat} {pc q : Nat} {lv : List (Option Value)} {st : List Value} {n : Nat} {I : MI} {Q : MQ2} {F : Post} (hd : DR cc pc .arraylength 1 q) (k : X r d y cc mr b q lv (.int (nI (evn r)) :: st) n I Q F) : X r d y cc mr b pc lv (.ref (evb r) :: st) n I Q F := by
  intro p e s m args below meth c H locs cells slots mc ms R ls Qf C hW hS hl h1 h2 fin
  obtain ⟨hd, rfl⟩ := hd
  exact va_slen C.1 C.2.1 C.z.2.2.2.1 (script_lt C.z) (Nat.not_le.mpr C.z.2.2.2.2) hS hd (k _ _ _ _ _ _ _ _ _ _ _ _ _ _ _ _ _ C hW hS hl h1 h2 fin)
theorem x_ialdB {r : Ev} {d : Nat} {y : MethodName} {cc : ByteArray} {mr : Nat × Option FieldType} {b : Nat × Nat} {pc q : Nat} {lv : List (Option Value)} {st : List Value} {n : Nat} {I : MI} {Q : MQ2} {F : Post} {i : Nat} (hd : DR cc pc .iaload 1 q) (hi : i < evn r) (hn : evn r ≤ 320) (k : X r d y cc mr b q lv (.int (evx r i) :: st) n I Q F) : X r d y cc mr b pc lv (.int (nI i) :: .ref (evb r) :: st) n I Q F := by
  intro p e s m args below meth c H locs cells slots mc ms R ls Qf C hW hS hl h1 h2 fin
  obtain ⟨hd, rfl⟩ := hd
  have h31 : evn r < 2 ^ 31 := Nat.lt_of_le_of_lt hn (Nat.le_of_ble_eq_true rfl)
  refine va_sld C.1 C.2.1 C.z.2.2.2.1 (script_lt C.z) (Nat.not_le.mpr C.z.2.2.2.2) hS (vp_in_nI hi h31) hd ?_
  rw [nI_cl hi h31]
  exact k _ _ _ _ _ _ _ _ _ _ _ _ _ _ _ _ _ C hW hS hl h1 h2 fin
