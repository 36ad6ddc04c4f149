/-! numbers as naturals -/
theorem iinc1 (a : Nat) : nI a + Int32.ofInt 1 = nI (a + 1) := nI_1 a
theorem iinc5 (a : Nat) : nI a + Int32.ofInt 5 = nI (a + 5) := nI_add a 5
theorem iincm (a : Nat) : nI (a + 1) + Int32.ofInt (-1) = nI a := pk_m1 a
theorem i31 {a : Nat} (h : a < 1000000) : a < 2 ^ 31 := Nat.lt_trans h (Nat.le_of_ble_eq_true rfl)
theorem x_const {r : Ev} {d : Nat} {y : MethodName} {cc : ByteArray} {mr : Nat × Option FieldType} {b : Nat × Nat} {pc q : Nat} {lv : List (Option Value)} {st : List Value} {n : Nat} {I : MI} {Q : MQ2} {F : Post} {z : Int} {c : Nat} (hd : DR cc pc (.iconst z) 1 q) (hv : Int32.ofInt z = nI c) (k : X r d y cc mr b q lv (.int (nI c) :: st) n I Q F) : X r d y cc mr b pc lv st n I Q F := x_iconst hd hv k
theorem x_bip {r : Ev} {d : Nat} {y : MethodName} {cc : ByteArray} {mr : Nat × Option FieldType} {b : Nat × Nat} {pc q : Nat} {lv : List (Option Value)} {st : List Value} {n : Nat} {I : MI} {Q : MQ2} {F : Post} {z : Int} {c : Nat} (hd : DR cc pc (.bipush z) 2 q) (hv : (Int8.ofInt z).toInt32 = nI c) (k : X r d y cc mr b q lv (.int (nI c) :: st) n I Q F) : X r d y cc mr b pc lv st n I Q F := x_bipush hd hv k
theorem x_sip {r : Ev} {d : Nat} {y : MethodName} {cc : ByteArray} {mr : Nat × Option FieldType} {b : Nat × Nat} {pc q : Nat} {lv : List (Option Value)} {st : List Value} {n : Nat} {I : MI} {Q : MQ2} {F : Post} {z : Int} {c : Nat} (hd : DR cc pc (.sipush z) 3 q) (hv : (Int16.ofInt z).toInt32 = nI c) (k : X r d y cc mr b q lv (.int (nI c) :: st) n I Q F) : X r d y cc mr b pc lv st n I Q F := x_sipush hd hv k
theorem x_iaddN {r : Ev} {d : Nat} {y : MethodName} {cc : ByteArray} {mr : Nat × Option FieldType} {b : Nat × Nat} {pc q : Nat} {lv : List (Option Value)} {st : List Value} {n : Nat} {I : MI} {Q : MQ2} {F : Post} {x x2 : Nat} (hd : DR cc pc .iadd 1 q) (k : X r d y cc mr b q lv (.int (nI (x + x2)) :: st) n I Q F) : X r d y cc mr b pc lv (.int (nI x2) :: .int (nI x) :: st) n I Q F := x_iadd hd (by rw [nI_add]; exact k)
theorem x_imulN {r : Ev} {d : Nat} {y : MethodName} {cc : ByteArray} {mr : Nat × Option FieldType} {b : Nat × Nat} {pc q : Nat} {lv : List (Option Value)} {st : List Value} {n : Nat} {I : MI} {Q : MQ2} {F : Post} {x x2 : Nat} (hd : DR cc pc .imul 1 q) (k : X r d y cc mr b q lv (.int (nI (x * x2)) :: st) n I Q F) : X r d y cc mr b pc lv (.int (nI x2) :: .int (nI x) :: st) n I Q F := x_imul hd (by rw [pk_mul]; exact k)
theorem x_isubN {r : Ev} {d : Nat} {y : MethodName} {cc : ByteArray} {mr : Nat × Option FieldType} {b : Nat × Nat} {pc q : Nat} {lv : List (Option Value)} {st : List Value} {n : Nat} {I : MI} {Q : MQ2} {F : Post} {x x2 : Nat} (hd : DR cc pc .isub 1 q) (h : x2 ≤ x) (k : X r d y cc mr b q lv (.int (nI (x - x2)) :: st) n I Q F) : X r d y cc mr b pc lv (.int (nI x2) :: .int (nI x) :: st) n I Q F := x_isub hd (by rw [pk_sub h]; exact k)
theorem x_idivN {r : Ev} {d : Nat} {y : MethodName} {cc : ByteArray} {mr : Nat × Option FieldType} {b : Nat × Nat} {pc q : Nat} {lv : List (Option Value)} {st : List Value} {n : Nat} {I : MI} {Q : MQ2} {F : Post} {x x2 : Nat} (hd : DR cc pc .idiv 1 q) (h : x < 100000000) (h0 : 0 < x2) (h2 : x2 < 100000000) (k : X r d y cc mr b q lv (.int (nI (x / x2)) :: st) n I Q F) : X r d y cc mr b pc lv (.int (nI x2) :: .int (nI x) :: st) n I Q F := x_idiv hd (nI_ne0 h0 (by omega)) (by rw [pk_div (by omega) h0 (by omega)]; exact k)
theorem x_iremN {r : Ev} {d : Nat} {y : MethodName} {cc : ByteArray} {mr : Nat × Option FieldType} {b : Nat × Nat} {pc q : Nat} {lv : List (Option Value)} {st : List Value} {n : Nat} {I : MI} {Q : MQ2} {F : Post} {x x2 : Nat} (hd : DR cc pc .irem 1 q) (h : x < 100000000) (h0 : 0 < x2) (h2 : x2 < 100000000) (k : X r d y cc mr b q lv (.int (nI (x % x2)) :: st) n I Q F) : X r d y cc mr b pc lv (.int (nI x2) :: .int (nI x) :: st) n I Q F := x_irem hd (nI_ne0 h0 (by omega)) (by rw [pk_rem (by omega) h0 (by omega)]; exact k)
theorem x_icmp_eqN {r : Ev} {d : Nat} {y : MethodName} {cc : ByteArray} {mr : Nat × Option FieldType} {b : Nat × Nat} {pc q : Nat} {lv : List (Option Value)} {st : List Value} {n : Nat} {I : MI} {Q : MQ2} {F : Post} {x x2 : Nat} {off : Int} {t : Nat} (hd : DB cc pc (.if_icmp .eq off) 3 off q t) (h : x < 100000000) (h2 : x2 < 100000000) (kt : x = x2 → X r d y cc mr b t lv st n I Q F) (kf : ¬ x = x2 → X r d y cc mr b q lv st n I Q F) : X r d y cc mr b pc lv (.int (nI x2) :: .int (nI x) :: st) n I Q F := by
  have e1 := nI_eq (show x < 2 ^ 31 by omega) (show x2 < 2 ^ 31 by omega)
  have e2 := nI_ltI (show x < 2 ^ 31 by omega) (show x2 < 2 ^ 31 by omega)
  have e3 := nI_leI (show x < 2 ^ 31 by omega) (show x2 < 2 ^ 31 by omega)
  have e4 := nI_ltI (show x2 < 2 ^ 31 by omega) (show x < 2 ^ 31 by omega)
  have e5 := nI_leI (show x2 < 2 ^ 31 by omega) (show x < 2 ^ 31 by omega)
  exact x_icmp_eq hd (fun z => kt (by simp only [ne_eq, e1, e2, e3, e4, e5, gt_iff_lt, ge_iff_le] at z ⊢; omega)) (fun z => kf (by simp only [ne_eq, e1, e2, e3, e4, e5, gt_iff_lt, ge_iff_le] at z ⊢; omega))
theorem x_if_eqN {r : Ev} {d : Nat} {y : MethodName} {cc : ByteArray} {mr : Nat × Option FieldType} {b : Nat × Nat} {pc q : Nat} {lv : List (Option Value)} {st : List Value} {n : Nat} {I : MI} {Q : MQ2} {F : Post} {x : Nat} {off : Int} {t : Nat} (hd : DB cc pc (.ifCond .eq off) 3 off q t) (h : x < 100000000) (kt : x = 0 → X r d y cc mr b t lv st n I Q F) (kf : ¬ x = 0 → X r d y cc mr b q lv st n I Q F) : X r d y cc mr b pc lv (.int (nI x) :: st) n I Q F := by
  have e1 : nI x = 0 ↔ x = 0 := nI_eq (b := 0) (show x < 2 ^ 31 by omega) (by omega)
  have e2 : nI x < 0 ↔ x < 0 := nI_ltI (b := 0) (show x < 2 ^ 31 by omega) (by omega)
  have e3 : nI x ≤ 0 ↔ x ≤ 0 := nI_leI (b := 0) (show x < 2 ^ 31 by omega) (by omega)
  have e4 : 0 < nI x ↔ 0 < x := nI_ltI (a := 0) (by omega) (show x < 2 ^ 31 by omega)
  have e5 : 0 ≤ nI x ↔ 0 ≤ x := nI_leI (a := 0) (by omega) (show x < 2 ^ 31 by omega)
  exact x_if_eq hd (fun z => kt (by simp only [ne_eq, e1, e2, e3, e4, e5, gt_iff_lt, ge_iff_le] at z ⊢; omega)) (fun z => kf (by simp only [ne_eq, e1, e2, e3, e4, e5, gt_iff_lt, ge_iff_le] at z ⊢; omega))
theorem x_icmp_neN {r : Ev} {d : Nat} {y : MethodName} {cc : ByteArray} {mr : Nat × Option FieldType} {b : Nat × Nat} {pc q : Nat} {lv : List (Option Value)} {st : List Value} {n : Nat} {I : MI} {Q : MQ2} {F : Post} {x x2 : Nat} {off : Int} {t : Nat} (hd : DB cc pc (.if_icmp .ne off) 3 off q t) (h : x < 100000000) (h2 : x2 < 100000000) (kt : x ≠ x2 → X r d y cc mr b t lv st n I Q F) (kf : x = x2 → X r d y cc mr b q lv st n I Q F) : X r d y cc mr b pc lv (.int (nI x2) :: .int (nI x) :: st) n I Q F := by
  have e1 := nI_eq (show x < 2 ^ 31 by omega) (show x2 < 2 ^ 31 by omega)
  have e2 := nI_ltI (show x < 2 ^ 31 by omega) (show x2 < 2 ^ 31 by omega)
  have e3 := nI_leI (show x < 2 ^ 31 by omega) (show x2 < 2 ^ 31 by omega)
  have e4 := nI_ltI (show x2 < 2 ^ 31 by omega) (show x < 2 ^ 31 by omega)
  have e5 := nI_leI (show x2 < 2 ^ 31 by omega) (show x < 2 ^ 31 by omega)
  exact x_icmp_ne hd (fun z => kt (by simp only [ne_eq, e1, e2, e3, e4, e5, gt_iff_lt, ge_iff_le] at z ⊢; omega)) (fun z => kf (by simp only [ne_eq, e1, e2, e3, e4, e5, gt_iff_lt, ge_iff_le] at z ⊢; omega))
theorem x_if_neN {r : Ev} {d : Nat} {y : MethodName} {cc : ByteArray} {mr : Nat × Option FieldType} {b : Nat × Nat} {pc q : Nat} {lv : List (Option Value)} {st : List Value} {n : Nat} {I : MI} {Q : MQ2} {F : Post} {x : Nat} {off : Int} {t : Nat} (hd : DB cc pc (.ifCond .ne off) 3 off q t) (h : x < 100000000) (kt : x ≠ 0 → X r d y cc mr b t lv st n I Q F) (kf : x = 0 → X r d y cc mr b q lv st n I Q F) : X r d y cc mr b pc lv (.int (nI x) :: st) n I Q F := by
  have e1 : nI x = 0 ↔ x = 0 := nI_eq (b := 0) (show x < 2 ^ 31 by omega) (by omega)
  have e2 : nI x < 0 ↔ x < 0 := nI_ltI (b := 0) (show x < 2 ^ 31 by omega) (by omega)
  have e3 : nI x ≤ 0 ↔ x ≤ 0 := nI_leI (b := 0) (show x < 2 ^ 31 by omega) (by omega)
  have e4 : 0 < nI x ↔ 0 < x := nI_ltI (a := 0) (by omega) (show x < 2 ^ 31 by omega)
  have e5 : 0 ≤ nI x ↔ 0 ≤ x := nI_leI (a := 0) (by omega) (show x < 2 ^ 31 by omega)
  exact x_if_ne hd (fun z => kt (by simp only [ne_eq, e1, e2, e3, e4, e5, gt_iff_lt, ge_iff_le] at z ⊢; omega)) (fun z => kf (by simp only [ne_eq, e1, e2, e3, e4, e5, gt_iff_lt, ge_iff_le] at z ⊢; omega))
theorem x_icmp_ltN {r : Ev} {d : Nat} {y : MethodName} {cc : ByteArray} {mr : Nat × Option FieldType} {b : Nat × Nat} {pc q : Nat} {lv : List (Option Value)} {st : List Value} {n : Nat} {I : MI} {Q : MQ2} {F : Post} {x x2 : Nat} {off : Int} {t : Nat} (hd : DB cc pc (.if_icmp .lt off) 3 off q t) (h : x < 100000000) (h2 : x2 < 100000000) (kt : x < x2 → X r d y cc mr b t lv st n I Q F) (kf : ¬ x < x2 → X r d y cc mr b q lv st n I Q F) : X r d y cc mr b pc lv (.int (nI x2) :: .int (nI x) :: st) n I Q F := by
  have e1 := nI_eq (show x < 2 ^ 31 by omega) (show x2 < 2 ^ 31 by omega)
  have e2 := nI_ltI (show x < 2 ^ 31 by omega) (show x2 < 2 ^ 31 by omega)
  have e3 := nI_leI (show x < 2 ^ 31 by omega) (show x2 < 2 ^ 31 by omega)
  have e4 := nI_ltI (show x2 < 2 ^ 31 by omega) (show x < 2 ^ 31 by omega)
  have e5 := nI_leI (show x2 < 2 ^ 31 by omega) (show x < 2 ^ 31 by omega)
  exact x_icmp_lt hd (fun z => kt (by simp only [ne_eq, e1, e2, e3, e4, e5, gt_iff_lt, ge_iff_le] at z ⊢; omega)) (fun z => kf (by simp only [ne_eq, e1, e2, e3, e4, e5, gt_iff_lt, ge_iff_le] at z ⊢; omega))
theorem x_if_ltN {r : Ev} {d : Nat} {y : MethodName} {cc : ByteArray} {mr : Nat × Option FieldType} {b : Nat × Nat} {pc q : Nat} {lv : List (Option Value)} {st : List Value} {n : Nat} {I : MI} {Q : MQ2} {F : Post} {x : Nat} {off : Int} {t : Nat} (hd : DB cc pc (.ifCond .lt off) 3 off q t) (h : x < 100000000) (kt : x < 0 → X r d y cc mr b t lv st n I Q F) (kf : ¬ x < 0 → X r d y cc mr b q lv st n I Q F) : X r d y cc mr b pc lv (.int (nI x) :: st) n I Q F := by
  have e1 : nI x = 0 ↔ x = 0 := nI_eq (b := 0) (show x < 2 ^ 31 by omega) (by omega)
  have e2 : nI x < 0 ↔ x < 0 := nI_ltI (b := 0) (show x < 2 ^ 31 by omega) (by omega)
  have e3 : nI x ≤ 0 ↔ x ≤ 0 := nI_leI (b := 0) (show x < 2 ^ 31 by omega) (by omega)
  have e4 : 0 < nI x ↔ 0 < x := nI_ltI (a := 0) (by omega) (show x < 2 ^ 31 by omega)
  have e5 : 0 ≤ nI x ↔ 0 ≤ x := nI_leI (a := 0) (by omega) (show x < 2 ^ 31 by omega)
  exact x_if_lt hd (fun z => kt (by simp only [ne_eq, e1, e2, e3, e4, e5, gt_iff_lt, ge_iff_le] at z ⊢; omega)) (fun z => kf (by simp only [ne_eq, e1, e2, e3, e4, e5, gt_iff_lt, ge_iff_le] at z ⊢; omega))
theorem x_icmp_geN {r : Ev} {d : Nat} {y : MethodName} {cc : ByteArray} {mr : Nat × Option FieldType} {b : Nat × Nat} {pc q : Nat} {lv : List (Option Value)} {st : List Value} {n : Nat} {I : MI} {Q : MQ2} {F : Post} {x x2 : Nat} {off : Int} {t : Nat} (hd : DB cc pc (.if_icmp .ge off) 3 off q t) (h : x < 100000000) (h2 : x2 < 100000000) (kt : x2 ≤ x → X r d y cc mr b t lv st n I Q F) (kf : ¬ x2 ≤ x → X r d y cc mr b q lv st n I Q F) : X r d y cc mr b pc lv (.int (nI x2) :: .int (nI x) :: st) n I Q F := by
  have e1 := nI_eq (show x < 2 ^ 31 by omega) (show x2 < 2 ^ 31 by omega)
  have e2 := nI_ltI (show x < 2 ^ 31 by omega) (show x2 < 2 ^ 31 by omega)
  have e3 := nI_leI (show x < 2 ^ 31 by omega) (show x2 < 2 ^ 31 by omega)
  have e4 := nI_ltI (show x2 < 2 ^ 31 by omega) (show x < 2 ^ 31 by omega)
  have e5 := nI_leI (show x2 < 2 ^ 31 by omega) (show x < 2 ^ 31 by omega)
  exact x_icmp_ge hd (fun z => kt (by simp only [ne_eq, e1, e2, e3, e4, e5, gt_iff_lt, ge_iff_le] at z ⊢; omega)) (fun z => kf (by simp only [ne_eq, e1, e2, e3, e4, e5, gt_iff_lt, ge_iff_le] at z ⊢; omega))
theorem x_if_geN {r : Ev} {d : Nat} {y : MethodName} {cc : ByteArray} {mr : Nat × Option FieldType} {b : Nat × Nat} {pc q : Nat} {lv : List (Option Value)} {st : List Value} {n : Nat} {I : MI} {Q : MQ2} {F : Post} {x : Nat} {off : Int} {t : Nat} (hd : DB cc pc (.ifCond .ge off) 3 off q t) (h : x < 100000000) (kt : 0 ≤ x → X r d y cc mr b t lv st n I Q F) (kf : ¬ 0 ≤ x → X r d y cc mr b q lv st n I Q F) : X r d y cc mr b pc lv (.int (nI x) :: st) n I Q F := by
  have e1 : nI x = 0 ↔ x = 0 := nI_eq (b := 0) (show x < 2 ^ 31 by omega) (by omega)
  have e2 : nI x < 0 ↔ x < 0 := nI_ltI (b := 0) (show x < 2 ^ 31 by omega) (by omega)
  have e3 : nI x ≤ 0 ↔ x ≤ 0 := nI_leI (b := 0) (show x < 2 ^ 31 by omega) (by omega)
  have e4 : 0 < nI x ↔ 0 < x := nI_ltI (a := 0) (by omega) (show x < 2 ^ 31 by omega)
  have e5 : 0 ≤ nI x ↔ 0 ≤ x := nI_leI (a := 0) (by omega) (show x < 2 ^ 31 by omega)
  exact x_if_ge hd (fun z => kt (by simp only [ne_eq, e1, e2, e3, e4, e5, gt_iff_lt, ge_iff_le] at z ⊢; omega)) (fun z => kf (by simp only [ne_eq, e1, e2, e3, e4, e5, gt_iff_lt, ge_iff_le] at z ⊢; omega))
theorem x_icmp_gtN {r : Ev} {d : Nat} {y : MethodName} {cc : ByteArray} {mr : Nat × Option FieldType} {b : Nat × Nat} {pc q : Nat} {lv : List (Option Value)} {st : List Value} {n : Nat} {I : MI} {Q : MQ2} {F : Post} {x x2 : Nat} {off : Int} {t : Nat} (hd : DB cc pc (.if_icmp .gt off) 3 off q t) (h : x < 100000000) (h2 : x2 < 100000000) (kt : x2 < x → X r d y cc mr b t lv st n I Q F) (kf : ¬ x2 < x → X r d y cc mr b q lv st n I Q F) : X r d y cc mr b pc lv (.int (nI x2) :: .int (nI x) :: st) n I Q F := by
  have e1 := nI_eq (show x < 2 ^ 31 by omega) (show x2 < 2 ^ 31 by omega)
  have e2 := nI_ltI (show x < 2 ^ 31 by omega) (show x2 < 2 ^ 31 by omega)
  have e3 := nI_leI (show x < 2 ^ 31 by omega) (show x2 < 2 ^ 31 by omega)
  have e4 := nI_ltI (show x2 < 2 ^ 31 by omega) (show x < 2 ^ 31 by omega)
  have e5 := nI_leI (show x2 < 2 ^ 31 by omega) (show x < 2 ^ 31 by omega)
  exact x_icmp_gt hd (fun z => kt (by simp only [ne_eq, e1, e2, e3, e4, e5, gt_iff_lt, ge_iff_le] at z ⊢; omega)) (fun z => kf (by simp only [ne_eq, e1, e2, e3, e4, e5, gt_iff_lt, ge_iff_le] at z ⊢; omega))
theorem x_if_gtN {r : Ev} {d : Nat} {y : MethodName} {cc : ByteArray} {mr : Nat × Option FieldType} {b : Nat × Nat} {pc q : Nat} {lv : List (Option Value)} {st : List Value} {n : Nat} {I : MI} {Q : MQ2} {F : Post} {x : Nat} {off : Int} {t : Nat} (hd : DB cc pc (.ifCond .gt off) 3 off q t) (h : x < 100000000) (kt : 0 < x → X r d y cc mr b t lv st n I Q F) (kf : ¬ 0 < x → X r d y cc mr b q lv st n I Q F) : X r d y cc mr b pc lv (.int (nI x) :: st) n I Q F := by
  have e1 : nI x = 0 ↔ x = 0 := nI_eq (b := 0) (show x < 2 ^ 31 by omega) (by omega)
  have e2 : nI x < 0 ↔ x < 0 := nI_ltI (b := 0) (show x < 2 ^ 31 by omega) (by omega)
  have e3 : nI x ≤ 0 ↔ x ≤ 0 := nI_leI (b := 0) (show x < 2 ^ 31 by omega) (by omega)
  have e4 : 0 < nI x ↔ 0 < x := nI_ltI (a := 0) (by omega) (show x < 2 ^ 31 by omega)
  have e5 : 0 ≤ nI x ↔ 0 ≤ x := nI_leI (a := 0) (by omega) (show x < 2 ^ 31 by omega)
  exact x_if_gt hd (fun z => kt (by simp only [ne_eq, e1, e2, e3, e4, e5, gt_iff_lt, ge_iff_le] at z ⊢; omega)) (fun z => kf (by simp only [ne_eq, e1, e2, e3, e4, e5, gt_iff_lt, ge_iff_le] at z ⊢; omega))
theorem x_icmp_leN {r : Ev} {d : Nat} {y : MethodName} {cc : ByteArray} {mr : Nat × Option FieldType} {b : Nat × Nat} {pc q : Nat} {lv : List (Option Value)} {st : List Value} {n : Nat} {I : MI} {Q : MQ2} {F : Post} {x x2 : Nat} {off : Int} {t : Nat} (hd : DB cc pc (.if_icmp .le off) 3 off q t) (h : x < 100000000) (h2 : x2 < 100000000) (kt : x ≤ x2 → X r d y cc mr b t lv st n I Q F) (kf : ¬ x ≤ x2 → X r d y cc mr b q lv st n I Q F) : X r d y cc mr b pc lv (.int (nI x2) :: .int (nI x) :: st) n I Q F := by
  have e1 := nI_eq (show x < 2 ^ 31 by omega) (show x2 < 2 ^ 31 by omega)
  have e2 := nI_ltI (show x < 2 ^ 31 by omega) (show x2 < 2 ^ 31 by omega)
  have e3 := nI_leI (show x < 2 ^ 31 by omega) (show x2 < 2 ^ 31 by omega)
  have e4 := nI_ltI (show x2 < 2 ^ 31 by omega) (show x < 2 ^ 31 by omega)
  have e5 := nI_leI (show x2 < 2 ^ 31 by omega) (show x < 2 ^ 31 by omega)
  exact x_icmp_le hd (fun z => kt (by simp only [ne_eq, e1, e2, e3, e4, e5, gt_iff_lt, ge_iff_le] at z ⊢; omega)) (fun z => kf (by simp only [ne_eq, e1, e2, e3, e4, e5, gt_iff_lt, ge_iff_le] at z ⊢; omega))
theorem x_if_leN {r : Ev} {d : Nat} {y : MethodName} {cc : ByteArray} {mr : Nat × Option FieldType} {b : Nat × Nat} {pc q : Nat} {lv : List (Option Value)} {st : List Value} {n : Nat} {I : MI} {Q : MQ2} {F : Post} {x : Nat} {off : Int} {t : Nat} (hd : DB cc pc (.ifCond .le off) 3 off q t) (h : x < 100000000) (kt : x ≤ 0 → X r d y cc mr b t lv st n I Q F) (kf : ¬ x ≤ 0 → X r d y cc mr b q lv st n I Q F) : X r d y cc mr b pc lv (.int (nI x) :: st) n I Q F := by
  have e1 : nI x = 0 ↔ x = 0 := nI_eq (b := 0) (show x < 2 ^ 31 by omega) (by omega)
  have e2 : nI x < 0 ↔ x < 0 := nI_ltI (b := 0) (show x < 2 ^ 31 by omega) (by omega)
  have e3 : nI x ≤ 0 ↔ x ≤ 0 := nI_leI (b := 0) (show x < 2 ^ 31 by omega) (by omega)
  have e4 : 0 < nI x ↔ 0 < x := nI_ltI (a := 0) (by omega) (show x < 2 ^ 31 by omega)
  have e5 : 0 ≤ nI x ↔ 0 ≤ x := nI_leI (a := 0) (by omega) (show x < 2 ^ 31 by omega)
  exact x_if_le hd (fun z => kt (by simp only [ne_eq, e1, e2, e3, e4, e5, gt_iff_lt, ge_iff_le] at z ⊢; omega)) (fun z => kf (by simp only [ne_eq, e1, e2, e3, e4, e5, gt_iff_lt, ge_iff_le] at z ⊢; omega))
theorem x_getV {r : Ev} {d : Nat} {y : MethodName} {cc : ByteArray} {mr : Nat × Option FieldType} {b : Nat × Nat} {pc q : Nat} {lv : List (Option Value)} {st : List Value} {n : Nat} {I : MI} {Q : MQ2} {F : Post} {idx ci k id : Nat} {x : Int32} (hd : DR cc pc (.getfield idx) 3 q) (f : FI y.cls idx ci k) (ho : Ob n ci id) (hv : I id k = x) (kk : X r d y cc mr b q lv (.int x :: st) n I Q F) : X r d y cc mr b pc lv (.ref (evz r + id) :: st) n I Q F := x_geti hd f ho (by rw [hv]; exact kk)
theorem x_ialdV {r : Ev} {d : Nat} {y : MethodName} {cc : ByteArray} {mr : Nat × Option FieldType} {b : Nat × Nat} {pc q : Nat} {lv : List (Option Value)} {st : List Value} {n : Nat} {I : MI} {Q : MQ2} {F : Post} {id N i : Nat} {x v : Int32} (hd : DR cc pc .iaload 1 q) (ha : Ar n 11 id N) (hx : x = nI i) (hi : i < N) (hv : I id i = v) (kk : X r d y cc mr b q lv (.int v :: st) n I Q F) : X r d y cc mr b pc lv (.int x :: .ref (evz r + id) :: st) n I Q F := x_iald hd ha hx hi (by rw [hv]; exact kk)
theorem x_caldV {r : Ev} {d : Nat} {y : MethodName} {cc : ByteArray} {mr : Nat × Option FieldType} {b : Nat × Nat} {pc q : Nat} {lv : List (Option Value)} {st : List Value} {n : Nat} {I : MI} {Q : MQ2} {F : Post} {id N i : Nat} {x v : Int32} (hd : DR cc pc .caload 1 q) (ha : Ar n 10 id N) (hx : x = nI i) (hi : i < N) (hv : I id i = v) (kk : X r d y cc mr b q lv (.int v :: st) n I Q F) : X r d y cc mr b pc lv (.int x :: .ref (evz r + id) :: st) n I Q F := x_cald hd ha hx hi (by rw [hv]; exact kk)
/-- what else is the same -/
def Fr1 (I I' : MI) (a j : Nat) : Prop := ∀ b k, ¬ (b = a ∧ k = j) → I' b k = I b k
theorem x_putA {r : Ev} {d : Nat} {y : MethodName} {cc : ByteArray} {mr : Nat × Option FieldType} {b : Nat × Nat} {pc q : Nat} {lv : List (Option Value)} {st : List Value} {n : Nat} {I : MI} {Q : MQ2} {F : Post} {idx ci k id : Nat} {x : Int32} (hd : DR cc pc (.putfield idx) 3 q) (f : FI y.cls idx ci k) (ho : Ob n ci id) (kk : ∀ J : MI, Fr1 I J id k → J id k = x → X r d y cc mr b q lv st n J Q F) (hfn : NF ci k := by rfl) (hty : tyOf ci k = .int := by rfl) : X r d y cc mr b pc lv (.int x :: .ref (evz r + id) :: st) n I Q F := x_puti hd f hfn (by rw [hty]; rfl) (by rw [hty]; rfl) ho (kk _ (fun b k2 h => up2_ne h) (up2_same _ _ _ _)) (ty := .int)
theorem x_putB {r : Ev} {d : Nat} {y : MethodName} {cc : ByteArray} {mr : Nat × Option FieldType} {b : Nat × Nat} {pc q : Nat} {lv : List (Option Value)} {st : List Value} {n : Nat} {I : MI} {Q : MQ2} {F : Post} {idx ci k id : Nat} {x : Int32} (hd : DR cc pc (.putfield idx) 3 q) (f : FI y.cls idx ci k) (ho : Ob n ci id) (h01 : x = nI 0 ∨ x = nI 1) (kk : ∀ J : MI, Fr1 I J id k → J id k = x → X r d y cc mr b q lv st n J Q F) (hfn : NF ci k := by rfl) (hty : tyOf ci k = .boolean := by rfl) : X r d y cc mr b pc lv (.int x :: .ref (evz r + id) :: st) n I Q F := x_puti hd f hfn (by rw [hty]; rcases h01 with rfl | rfl <;> rfl) (by rw [hty]; rcases h01 with rfl | rfl <;> rfl) ho (kk _ (fun b k2 h => up2_ne h) (up2_same _ _ _ _)) (ty := .int)
theorem x_iastA {r : Ev} {d : Nat} {y : MethodName} {cc : ByteArray} {mr : Nat × Option FieldType} {b : Nat × Nat} {pc q : Nat} {lv : List (Option Value)} {st : List Value} {n : Nat} {I : MI} {Q : MQ2} {F : Post} {id N i : Nat} {x v : Int32} (hd : DR cc pc .iastore 1 q) (ha : Ar n 11 id N) (hx : x = nI i) (hi : i < N) (kk : ∀ J : MI, Fr1 I J id i → J id i = v → X r d y cc mr b q lv st n J Q F) : X r d y cc mr b pc lv (.int v :: .int x :: .ref (evz r + id) :: st) n I Q F := x_iast hd ha hx hi (kk _ (fun b k2 h => up2_ne h) (up2_same _ _ _ _))
theorem x_castA {r : Ev} {d : Nat} {y : MethodName} {cc : ByteArray} {mr : Nat × Option FieldType} {b : Nat × Nat} {pc q : Nat} {lv : List (Option Value)} {st : List Value} {n : Nat} {I : MI} {Q : MQ2} {F : Post} {id N i : Nat} {x v : Int32} (hd : DR cc pc .castore 1 q) (ha : Ar n 10 id N) (hx : x = nI i) (hi : i < N) (hv : vp_nar .char v = v) (kk : ∀ J : MI, Fr1 I J id i → J id i = v → X r d y cc mr b q lv st n J Q F) : X r d y cc mr b pc lv (.int v :: .int x :: .ref (evz r + id) :: st) n I Q F := x_cast hd ha hx hi hv (kk _ (fun b k2 h => up2_ne h) (up2_same _ _ _ _))
