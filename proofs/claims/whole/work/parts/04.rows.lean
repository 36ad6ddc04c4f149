/-! fields -/
def clC (ci : Nat) : String := (vwCl.getD ci ("", (fun _ => ("", "", "", false)), 0)).1
def clT (ci : Nat) : u_T := (vwCl.getD ci ("", (fun _ => ("", "", "", false)), 0)).2.1
def tyOf (ci : Nat) : Nat → FieldType := [tyX0, tyX1, tyX2, tyX3, tyX4, tyX5, tyX6, tyX7, tyX8, tyX9].getD ci (fun _ => .int)
def CFok (ci : Nat) : Prop := vwCl[ci]? = some (clC ci, clT ci, nf ci) ∧ (∀ w ∈ u_ws (clC ci) (clT ci) (nf ci), w ∈ wT) ∧ (∀ k, k < nf ci → parseFieldDescriptor (clT ci k).2.2.1 = some (tyOf ci k)) ∧ ∀ a, a < nf ci → ∀ b, b < nf ci → a ≠ b → (clT ci a).2.1 ≠ (clT ci b).2.1
theorem wsl_0 : ∀ w ∈ u_ws RX0 TX0 (nf 0), w ∈ wT := fun w h => List.mem_filter.mpr ⟨(show ∀ w ∈ u_ws RX0 TX0 (nf 0), w ∈ lw_tbl by decide +kernel) w h, (show ∀ w ∈ u_ws RX0 TX0 (nf 0), goodWord w = true by decide +kernel) w h⟩
theorem cfo_0 : CFok 0 := ⟨rfl, wsl_0, tyX0_ok, nmX0⟩
theorem wsl_1 : ∀ w ∈ u_ws RX1 TX1 (nf 1), w ∈ wT := fun w h => List.mem_filter.mpr ⟨(show ∀ w ∈ u_ws RX1 TX1 (nf 1), w ∈ lw_tbl by decide +kernel) w h, (show ∀ w ∈ u_ws RX1 TX1 (nf 1), goodWord w = true by decide +kernel) w h⟩
theorem cfo_1 : CFok 1 := ⟨rfl, wsl_1, tyX1_ok, nmX1⟩
theorem wsl_2 : ∀ w ∈ u_ws RX2 TX2 (nf 2), w ∈ wT := fun w h => List.mem_filter.mpr ⟨(show ∀ w ∈ u_ws RX2 TX2 (nf 2), w ∈ lw_tbl by decide +kernel) w h, (show ∀ w ∈ u_ws RX2 TX2 (nf 2), goodWord w = true by decide +kernel) w h⟩
theorem cfo_2 : CFok 2 := ⟨rfl, wsl_2, tyX2_ok, nmX2⟩
theorem wsl_3 : ∀ w ∈ u_ws RX3 TX3 (nf 3), w ∈ wT := fun w h => List.mem_filter.mpr ⟨(show ∀ w ∈ u_ws RX3 TX3 (nf 3), w ∈ lw_tbl by decide +kernel) w h, (show ∀ w ∈ u_ws RX3 TX3 (nf 3), goodWord w = true by decide +kernel) w h⟩
theorem cfo_3 : CFok 3 := ⟨rfl, wsl_3, tyX3_ok, nmX3⟩
theorem wsl_4 : ∀ w ∈ u_ws RX4 TX4 (nf 4), w ∈ wT := fun w h => List.mem_filter.mpr ⟨(show ∀ w ∈ u_ws RX4 TX4 (nf 4), w ∈ lw_tbl by decide +kernel) w h, (show ∀ w ∈ u_ws RX4 TX4 (nf 4), goodWord w = true by decide +kernel) w h⟩
theorem cfo_4 : CFok 4 := ⟨rfl, wsl_4, tyX4_ok, nmX4⟩
theorem wsl_5 : ∀ w ∈ u_ws RX5 TX5 (nf 5), w ∈ wT := fun w h => List.mem_filter.mpr ⟨(show ∀ w ∈ u_ws RX5 TX5 (nf 5), w ∈ lw_tbl by decide +kernel) w h, (show ∀ w ∈ u_ws RX5 TX5 (nf 5), goodWord w = true by decide +kernel) w h⟩
theorem cfo_5 : CFok 5 := ⟨rfl, wsl_5, tyX5_ok, nmX5⟩
theorem wsl_6 : ∀ w ∈ u_ws RX6 TX6 (nf 6), w ∈ wT := fun w h => List.mem_filter.mpr ⟨(show ∀ w ∈ u_ws RX6 TX6 (nf 6), w ∈ lw_tbl by decide +kernel) w h, (show ∀ w ∈ u_ws RX6 TX6 (nf 6), goodWord w = true by decide +kernel) w h⟩
theorem cfo_6 : CFok 6 := ⟨rfl, wsl_6, tyX6_ok, nmX6⟩
theorem wsl_7 : ∀ w ∈ u_ws RX7 TX7 (nf 7), w ∈ wT := fun w h => List.mem_filter.mpr ⟨(show ∀ w ∈ u_ws RX7 TX7 (nf 7), w ∈ lw_tbl by decide +kernel) w h, (show ∀ w ∈ u_ws RX7 TX7 (nf 7), goodWord w = true by decide +kernel) w h⟩
theorem cfo_7 : CFok 7 := ⟨rfl, wsl_7, tyX7_ok, nmX7⟩
theorem wsl_8 : ∀ w ∈ u_ws RX8 TX8 (nf 8), w ∈ wT := fun w h => List.mem_filter.mpr ⟨(show ∀ w ∈ u_ws RX8 TX8 (nf 8), w ∈ lw_tbl by decide +kernel) w h, (show ∀ w ∈ u_ws RX8 TX8 (nf 8), goodWord w = true by decide +kernel) w h⟩
theorem cfo_8 : CFok 8 := ⟨rfl, wsl_8, tyX8_ok, nmX8⟩
theorem wsl_9 : ∀ w ∈ u_ws RX9 TX9 (nf 9), w ∈ wT := fun w h => List.mem_filter.mpr ⟨(show ∀ w ∈ u_ws RX9 TX9 (nf 9), w ∈ lw_tbl by decide +kernel) w h, (show ∀ w ∈ u_ws RX9 TX9 (nf 9), goodWord w = true by decide +kernel) w h⟩
theorem cfo_9 : CFok 9 := ⟨rfl, wsl_9, tyX9_ok, nmX9⟩
theorem cf_ok : ∀ ci, ci < 10 → CFok ci := by
  intro ci h
  rcases (show ci = 0 ∨ ci = 1 ∨ ci = 2 ∨ ci = 3 ∨ ci = 4 ∨ ci = 5 ∨ ci = 6 ∨ ci = 7 ∨ ci = 8 ∨ ci = 9 by omega) with rfl | rfl | rfl | rfl | rfl | rfl | rfl | rfl | rfl | rfl
  · exact cfo_0
  · exact cfo_1
  · exact cfo_2
  · exact cfo_3
  · exact cfo_4
  · exact cfo_5
  · exact cfo_6
  · exact cfo_7
  · exact cfo_8
  · exact cfo_9
/-- an object of class ci, an array of kind k and length N, that are made -/
def Ob (n ci id : Nat) : Prop := kd id = ci ∧ id < n
def Ar (n k id N : Nat) : Prop := kd id = k ∧ nn id = N ∧ id < n
def FLk (own : String) (idx ci k : Nat) : Prop := Cond.fieldLink own idx (clT ci k).1 (clT ci k).2.1 (clT ci k).2.2.1 ∈ wT ∨ Cond.fieldLinkNest own idx (clT ci k).1 (clT ci k).2.1 (clT ci k).2.2.1 "DewLooms" ∈ wN
def FI (own : String) (idx ci k : Nat) : Prop := ci < 10 ∧ k < nf ci ∧ isR ci k = false ∧ FLk own idx ci k
def FR (own : String) (idx ci k : Nat) : Prop := ci < 10 ∧ k < nf ci ∧ isR ci k = true ∧ FLk own idx ci k
def NF (ci k : Nat) : Prop := (clT ci k).2.2.2 = false
theorem nn_all : ∀ x ∈ nnL, x ≤ 208 := by decide +kernel
theorem nn_lt (id : Nat) : nn id < 2 ^ 31 := by
  unfold nn
  rw [List.getD_eq_getElem?_getD]
  cases h : nnL[id]? with
  | none => exact Nat.le_of_ble_eq_true rfl
  | some x => exact Nat.lt_of_le_of_lt (nn_all x (List.mem_of_getElem? h)) (Nat.le_of_ble_eq_true rfl)
theorem Ar.lt {n k id N : Nat} (h : Ar n k id N) : N < 2 ^ 31 := by rw [← h.2.1]; exact nn_lt id
theorem wd_at {r : Ev} {n : Nat} {I : MI} {Q : MQ2} {ci id : Nat} (h : Ob n ci id) (hc : ci < 10) : (pool (evc r) (evz r) n I Q)[id]? = some (evz r + id, .inr (ci, flds (evz r) I Q id)) := by rw [pool_get h.2, cel_o h.1 hc]
theorem wd_ai {r : Ev} {n : Nat} {I : MI} {Q : MQ2} {k id N : Nat} (h : Ar n k id N) (hc : k = 10 ∨ k = 11) : (pool (evc r) (evz r) n I Q)[id]? = some (evz r + id, .inl (evc r k, N, .inl (I id))) := by rw [pool_get h.2.2, cel_i h.1 hc, h.2.1]
theorem wd_aq {r : Ev} {n : Nat} {I : MI} {Q : MQ2} {k id N : Nat} (h : Ar n k id N) (hc : k = 12 ∨ k = 13) : (pool (evc r) (evz r) n I Q)[id]? = some (evz r + id, .inl (evc r k, N, .inr (.inr (.inr (.inr (fun j => (Q id j).map (fun x => evz r + x))))))) := by rw [pool_get h.2.2, cel_q h.1 hc, h.2.1]
theorem x_geti {r : Ev} {d : Nat} {y : MethodName} {cc : ByteArray} {mr : Nat × Option FieldType} {b : Nat × Nat} {pc q : Nat} {lv : List (Option Value)} {st : List Value} {n : Nat} {I : MI} {Q : MQ2} {F : Post} {idx ci k id : Nat} (hd : DR cc pc (.getfield idx) 3 q) (f : FI y.cls idx ci k) (ho : Ob n ci id) (kk : X r d y cc mr b q lv (.int (I id k) :: st) n I Q F) : X r d y cc mr b pc lv (.ref (evz r + id) :: st) n I Q F := by
  intro p e s m args below meth c H locs cells slots mc ms R ls Qf C hW hS hl h1 h2 fin
  obtain ⟨hd, rfl⟩ := hd
  obtain ⟨f1, f2, f3, f4⟩ := f
  obtain ⟨g1, g2, g3, g4⟩ := cf_ok ci f1
  have hv : (flds (evz r) I Q id)[k]? = some (.int (I id k)) := by rw [flds_get (by rw [ho.1]; exact f2), ho.1, f3]; rfl
  rcases f4 with f4 | f4
  · exact va_get C.1 C.2.1 C.2.2.2.2.1 g2 C.2.2.2.1 hW.1 hW.2 id (wd_at ho f1) g1 k f2 (C.2.2.2.2.1 _ f4) (fun _ h => h) hv hd (kk _ _ _ _ _ _ _ _ _ _ _ _ _ _ _ _ _ C hW hS hl h1 h2 fin)
  · exact va_getN C.1 C.2.1 C.2.2.2.2.1 g2 C.2.2.2.1 hW.1 hW.2 id (wd_at ho f1) g1 k f2 (va_Nw.use rfl (C.2.2.2.2.2.2.2.2.2.2.2.1 _ f4)) (fun _ h => h) hv hd (kk _ _ _ _ _ _ _ _ _ _ _ _ _ _ _ _ _ C hW hS hl h1 h2 fin)
theorem x_getr {r : Ev} {d : Nat} {y : MethodName} {cc : ByteArray} {mr : Nat × Option FieldType} {b : Nat × Nat} {pc q : Nat} {lv : List (Option Value)} {st : List Value} {n : Nat} {I : MI} {Q : MQ2} {F : Post} {idx ci k id r2 : Nat} (hd : DR cc pc (.getfield idx) 3 q) (f : FR y.cls idx ci k) (ho : Ob n ci id) (hq : Q id k = some r2) (kk : X r d y cc mr b q lv (.ref (evz r + r2) :: st) n I Q F) : X r d y cc mr b pc lv (.ref (evz r + id) :: st) n I Q F := by
  intro p e s m args below meth c H locs cells slots mc ms R ls Qf C hW hS hl h1 h2 fin
  obtain ⟨hd, rfl⟩ := hd
  obtain ⟨f1, f2, f3, f4⟩ := f
  obtain ⟨g1, g2, g3, g4⟩ := cf_ok ci f1
  have hv : (flds (evz r) I Q id)[k]? = some (.ref (evz r + r2)) := by rw [flds_get (by rw [ho.1]; exact f2), ho.1, f3, hq]; rfl
  rcases f4 with f4 | f4
  · exact va_get C.1 C.2.1 C.2.2.2.2.1 g2 C.2.2.2.1 hW.1 hW.2 id (wd_at ho f1) g1 k f2 (C.2.2.2.2.1 _ f4) (fun _ h => h) hv hd (kk _ _ _ _ _ _ _ _ _ _ _ _ _ _ _ _ _ C hW hS hl h1 h2 fin)
  · exact va_getN C.1 C.2.1 C.2.2.2.2.1 g2 C.2.2.2.1 hW.1 hW.2 id (wd_at ho f1) g1 k f2 (va_Nw.use rfl (C.2.2.2.2.2.2.2.2.2.2.2.1 _ f4)) (fun _ h => h) hv hd (kk _ _ _ _ _ _ _ _ _ _ _ _ _ _ _ _ _ C hW hS hl h1 h2 fin)
theorem x_puti {r : Ev} {d : Nat} {y : MethodName} {cc : ByteArray} {mr : Nat × Option FieldType} {b : Nat × Nat} {pc q : Nat} {lv : List (Option Value)} {st : List Value} {n : Nat} {I : MI} {Q : MQ2} {F : Post} {idx ci k id : Nat} {x : Int32} {ty : FieldType} (hd : DR cc pc (.putfield idx) 3 q) (f : FI y.cls idx ci k) (hfn : NF ci k) (hnar : narrow (tyOf ci k) (.int x) = .int x) (hfit : fits (tyOf ci k) (.int x) = true) (ho : Ob n ci id) (kk : X r d y cc mr b q lv st n (up2 I id k x) Q F) : X r d y cc mr b pc lv (.int x :: .ref (evz r + id) :: st) n I Q F := by
  intro p e s m args below meth c H locs cells slots mc ms R ls Qf C hW hS hl h1 h2 fin
  obtain ⟨hd, rfl⟩ := hd
  obtain ⟨f1, f2, f3, f4⟩ := f
  obtain ⟨g1, g2, g3, g4⟩ := cf_ok ci f1
  have hpo : (pool (evc r) (evz r) n I Q).set id (evz r + id, .inr (ci, (flds (evz r) I Q id).set k (.int x))) = pool (evc r) (evz r) n (up2 I id k x) Q := by
    refine pool_set ho.2 ?_ (fun b hb => cel_cong (up2_row hb) rfl)
    rw [cel_o ho.1 f1, flds_set (I := I) (Q := Q) (by rw [ho.1]; exact f2) ?_ (fun j hj => up2_ne (fun e => hj e.2)) (fun j hj => rfl)]
    rw [ho.1, f3]
    first | (simp [up2]; done) | (simp [up2]; rfl)
  rcases f4 with f4 | f4
  · refine va_put C.1 C.2.1 C.2.2.2.2.1 g2 (tyOf ci) g3 g4 C.2.2.2.1 hW.1 hW.2 pool_D hS id (wd_at ho f1) g1 k f2 (C.2.2.2.2.1 _ f4) (fun _ h => h) hfn (g3 k f2) hnar hfit (by rw [flds_len, ho.1]; exact f2) hd (fun H1 locs1 hP hD hS1 => ?_)
    rw [hpo] at hP
    exact kk _ _ _ _ _ _ _ _ _ _ _ _ _ _ _ _ _ C ⟨hW.1, hP⟩ hS1 hl h1 h2 fin
  · refine va_putN C.1 C.2.1 C.2.2.2.2.1 g2 (tyOf ci) g3 g4 C.2.2.2.1 hW.1 hW.2 pool_D hS id (wd_at ho f1) g1 k f2 (va_Nw.use rfl (C.2.2.2.2.2.2.2.2.2.2.2.1 _ f4)) (fun _ h => h) hfn (g3 k f2) hnar hfit (by rw [flds_len, ho.1]; exact f2) hd (fun H1 locs1 hP hD hS1 => ?_)
    rw [hpo] at hP
    exact kk _ _ _ _ _ _ _ _ _ _ _ _ _ _ _ _ _ C ⟨hW.1, hP⟩ hS1 hl h1 h2 fin
theorem x_putr {r : Ev} {d : Nat} {y : MethodName} {cc : ByteArray} {mr : Nat × Option FieldType} {b : Nat × Nat} {pc q : Nat} {lv : List (Option Value)} {st : List Value} {n : Nat} {I : MI} {Q : MQ2} {F : Post} {idx ci k id r2 : Nat} (hd : DR cc pc (.putfield idx) 3 q) (f : FR y.cls idx ci k) (hfn : NF ci k) (hnar : narrow (tyOf ci k) (.ref (evz r + r2)) = .ref (evz r + r2)) (hfit : fits (tyOf ci k) (.ref (evz r + r2)) = true) (ho : Ob n ci id) (kk : X r d y cc mr b q lv st n I (up2 Q id k (some r2)) F) : X r d y cc mr b pc lv (.ref (evz r + r2) :: .ref (evz r + id) :: st) n I Q F := by
  intro p e s m args below meth c H locs cells slots mc ms R ls Qf C hW hS hl h1 h2 fin
  obtain ⟨hd, rfl⟩ := hd
  obtain ⟨f1, f2, f3, f4⟩ := f
  obtain ⟨g1, g2, g3, g4⟩ := cf_ok ci f1
  have hpo : (pool (evc r) (evz r) n I Q).set id (evz r + id, .inr (ci, (flds (evz r) I Q id).set k (.ref (evz r + r2)))) = pool (evc r) (evz r) n I (up2 Q id k (some r2)) := by
    refine pool_set ho.2 ?_ (fun b hb => cel_cong rfl (up2_row hb))
    rw [cel_o ho.1 f1, flds_set (I := I) (Q := Q) (by rw [ho.1]; exact f2) ?_ (fun j hj => rfl) (fun j hj => up2_ne (fun e => hj e.2))]
    rw [ho.1, f3]
    first | (simp [up2]; done) | (simp [up2]; rfl)
  rcases f4 with f4 | f4
  · refine va_put C.1 C.2.1 C.2.2.2.2.1 g2 (tyOf ci) g3 g4 C.2.2.2.1 hW.1 hW.2 pool_D hS id (wd_at ho f1) g1 k f2 (C.2.2.2.2.1 _ f4) (fun _ h => h) hfn (g3 k f2) hnar hfit (by rw [flds_len, ho.1]; exact f2) hd (fun H1 locs1 hP hD hS1 => ?_)
    rw [hpo] at hP
    exact kk _ _ _ _ _ _ _ _ _ _ _ _ _ _ _ _ _ C ⟨hW.1, hP⟩ hS1 hl h1 h2 fin
  · refine va_putN C.1 C.2.1 C.2.2.2.2.1 g2 (tyOf ci) g3 g4 C.2.2.2.1 hW.1 hW.2 pool_D hS id (wd_at ho f1) g1 k f2 (va_Nw.use rfl (C.2.2.2.2.2.2.2.2.2.2.2.1 _ f4)) (fun _ h => h) hfn (g3 k f2) hnar hfit (by rw [flds_len, ho.1]; exact f2) hd (fun H1 locs1 hP hD hS1 => ?_)
    rw [hpo] at hP
    exact kk _ _ _ _ _ _ _ _ _ _ _ _ _ _ _ _ _ C ⟨hW.1, hP⟩ hS1 hl h1 h2 fin
theorem x_putrF {r : Ev} {d : Nat} {y : MethodName} {cc : ByteArray} {mr : Nat × Option FieldType} {b : Nat × Nat} {pc q : Nat} {lv : List (Option Value)} {st : List Value} {n : Nat} {I : MI} {Q : MQ2} {F : Post} {idx ci k id r2 : Nat} (hd : DR cc pc (.putfield idx) 3 q) (f : FR y.cls idx ci k) (hnn : Cond.fieldLink y.cls idx (clT ci k).1 (clT ci k).2.1 (clT ci k).2.2.1 ∈ wT) (hfn : (clT ci k).2.2.2 = true) (hini : y.name = "<init>") (hdec : (clT ci k).1 = y.cls) (hnar : narrow (tyOf ci k) (.ref (evz r + r2)) = .ref (evz r + r2)) (hfit : fits (tyOf ci k) (.ref (evz r + r2)) = true) (ho : Ob n ci id) (kk : X r d y cc mr b q lv st n I (up2 Q id k (some r2)) F) : X r d y cc mr b pc lv (.ref (evz r + r2) :: .ref (evz r + id) :: st) n I Q F := by
  intro p e s m args below meth c H locs cells slots mc ms R ls Qf C hW hS hl h1 h2 fin
  obtain ⟨hd, rfl⟩ := hd
  obtain ⟨f1, f2, f3, f4⟩ := f
  obtain ⟨g1, g2, g3, g4⟩ := cf_ok ci f1
  have hpo : (pool (evc r) (evz r) n I Q).set id (evz r + id, .inr (ci, (flds (evz r) I Q id).set k (.ref (evz r + r2)))) = pool (evc r) (evz r) n I (up2 Q id k (some r2)) := by
    refine pool_set ho.2 ?_ (fun b hb => cel_cong rfl (up2_row hb))
    rw [cel_o ho.1 f1, flds_set (I := I) (Q := Q) (by rw [ho.1]; exact f2) ?_ (fun j hj => rfl) (fun j hj => up2_ne (fun e => hj e.2))]
    rw [ho.1, f3]
    first | (simp [up2]; done) | (simp [up2]; rfl)
  have f4 := hnn
  · refine va_putF C.1 C.2.1 C.2.2.2.2.1 g2 (tyOf ci) g3 g4 C.2.2.2.1 hW.1 hW.2 pool_D hS id (wd_at ho f1) g1 k f2 (C.2.2.2.2.1 _ f4) (fun _ h => h) hfn (C.2.2.2.2.2.1 hini) hdec (g3 k f2) hnar hfit (by rw [flds_len, ho.1]; exact f2) hd (fun H1 locs1 hP hD hS1 => ?_)
    rw [hpo] at hP
    exact kk _ _ _ _ _ _ _ _ _ _ _ _ _ _ _ _ _ C ⟨hW.1, hP⟩ hS1 hl h1 h2 fin
theorem up2_upd (I : MI) (id i : Nat) (v : Int32) : up2 I id i v id = upd (I id) i v := by
  funext j
  by_cases e : j = i <;> simp [up2, upd, e]
theorem up2_vup (Q : MQ2) (z id i r2 : Nat) : (fun j => (up2 Q id i (some r2) id j).map (fun x => z + x)) = va_up (fun j => (Q id j).map (fun x => z + x)) i (some (z + r2)) := by
  funext j
  by_cases e : j = i <;> simp [up2, va_up, e]
theorem nI_cl {N i : Nat} (hi : i < N) (hN : N < 2 ^ 31) : (nI i).toNatClampNeg = i := nI_clamp (Nat.lt_trans hi hN)
theorem x_iald {r : Ev} {d : Nat} {y : MethodName} {cc : ByteArray} {mr : Nat × Option FieldType} {b : Nat × Nat} {pc q : Nat} {lv : List (Option Value)} {st : List Value} {n : Nat} {I : MI} {Q : MQ2} {F : Post} {id N i : Nat} {x : Int32} (hd : DR cc pc .iaload 1 q) (ha : Ar n 11 id N) (hx : x = nI i) (hi : i < N) (kk : X r d y cc mr b q lv (.int (I id i) :: st) n I Q F) : X r d y cc mr b pc lv (.int x :: .ref (evz r + id) :: st) n I Q F := by
  intro p e s m args below meth c H locs cells slots mc ms R ls Qf C hW hS hl h1 h2 fin
  obtain ⟨hd, rfl⟩ := hd
  subst hx
  refine va_iald C.1 C.2.1 hW.1 hW.2 id 1 (wd_ai ha (Or.inr rfl)) rfl (vp_in_nI hi ha.lt) hd ?_
  rw [nI_cl hi ha.lt]
  exact kk _ _ _ _ _ _ _ _ _ _ _ _ _ _ _ _ _ C hW hS hl h1 h2 fin
theorem x_iast {r : Ev} {d : Nat} {y : MethodName} {cc : ByteArray} {mr : Nat × Option FieldType} {b : Nat × Nat} {pc q : Nat} {lv : List (Option Value)} {st : List Value} {n : Nat} {I : MI} {Q : MQ2} {F : Post} {id N i : Nat} {x v : Int32} (hd : DR cc pc .iastore 1 q) (ha : Ar n 11 id N) (hx : x = nI i) (hi : i < N)  (kk : X r d y cc mr b q lv st n (up2 I id i v) Q F) : X r d y cc mr b pc lv (.int v :: .int x :: .ref (evz r + id) :: st) n I Q F := by
  intro p e s m args below meth c H locs cells slots mc ms R ls Qf C hW hS hl h1 h2 fin
  obtain ⟨hd, rfl⟩ := hd
  subst hx
  refine va_iast C.1 C.2.1 hW.1 hW.2 pool_D hS id 1 (wd_ai ha (Or.inr rfl)) rfl (vp_in_nI hi ha.lt) hd (fun H1 locs1 hP hD hS1 => ?_)
  rw [nI_cl hi ha.lt] at hP
  rw [pool_set (I' := up2 I id i v) (Q' := Q) ha.2.2 (by rw [cel_i ha.1 (Or.inr rfl), ha.2.1]; rw [up2_upd]) (fun b hb => cel_cong (up2_row hb) rfl)] at hP
  exact kk _ _ _ _ _ _ _ _ _ _ _ _ _ _ _ _ _ C ⟨hW.1, hP⟩ hS1 hl h1 h2 fin
theorem x_cald {r : Ev} {d : Nat} {y : MethodName} {cc : ByteArray} {mr : Nat × Option FieldType} {b : Nat × Nat} {pc q : Nat} {lv : List (Option Value)} {st : List Value} {n : Nat} {I : MI} {Q : MQ2} {F : Post} {id N i : Nat} {x : Int32} (hd : DR cc pc .caload 1 q) (ha : Ar n 10 id N) (hx : x = nI i) (hi : i < N) (kk : X r d y cc mr b q lv (.int (I id i) :: st) n I Q F) : X r d y cc mr b pc lv (.int x :: .ref (evz r + id) :: st) n I Q F := by
  intro p e s m args below meth c H locs cells slots mc ms R ls Qf C hW hS hl h1 h2 fin
  obtain ⟨hd, rfl⟩ := hd
  subst hx
  refine va_cald C.1 C.2.1 hW.1 hW.2 id 0 (wd_ai ha (Or.inl rfl)) rfl (vp_in_nI hi ha.lt) hd ?_
  rw [nI_cl hi ha.lt]
  exact kk _ _ _ _ _ _ _ _ _ _ _ _ _ _ _ _ _ C hW hS hl h1 h2 fin
theorem x_cast {r : Ev} {d : Nat} {y : MethodName} {cc : ByteArray} {mr : Nat × Option FieldType} {b : Nat × Nat} {pc q : Nat} {lv : List (Option Value)} {st : List Value} {n : Nat} {I : MI} {Q : MQ2} {F : Post} {id N i : Nat} {x v : Int32} (hd : DR cc pc .castore 1 q) (ha : Ar n 10 id N) (hx : x = nI i) (hi : i < N) (hv : vp_nar .char v = v) (kk : X r d y cc mr b q lv st n (up2 I id i v) Q F) : X r d y cc mr b pc lv (.int v :: .int x :: .ref (evz r + id) :: st) n I Q F := by
  intro p e s m args below meth c H locs cells slots mc ms R ls Qf C hW hS hl h1 h2 fin
  obtain ⟨hd, rfl⟩ := hd
  subst hx
  refine va_cast C.1 C.2.1 hW.1 hW.2 pool_D hS id 0 (wd_ai ha (Or.inl rfl)) rfl (vp_in_nI hi ha.lt) hd (fun H1 locs1 hP hD hS1 => ?_)
  rw [nI_cl hi ha.lt] at hP
  rw [hv] at hP
  rw [pool_set (I' := up2 I id i v) (Q' := Q) ha.2.2 (by rw [cel_i ha.1 (Or.inl rfl), ha.2.1]; rw [up2_upd]) (fun b hb => cel_cong (up2_row hb) rfl)] at hP
  exact kk _ _ _ _ _ _ _ _ _ _ _ _ _ _ _ _ _ C ⟨hW.1, hP⟩ hS1 hl h1 h2 fin
theorem x_alen {r : Ev} {d : Nat} {y : MethodName} {cc : ByteArray} {mr : Nat × Option FieldType} {b : Nat × Nat} {pc q : Nat} {lv : List (Option Value)} {st : List Value} {n : Nat} {I : MI} {Q : MQ2} {F : Post} {id N k : Nat} (hd : DR cc pc .arraylength 1 q) (ha : Ar n k id N) (hk : k = 10 ∨ k = 11 ∨ k = 12 ∨ k = 13) (kk : X r d y cc mr b q lv (.int (nI N) :: st) n I Q F) : X r d y cc mr b pc lv (.ref (evz r + id) :: st) n I Q F := by
  intro p e s m args below meth c H locs cells slots mc ms R ls Qf C hW hS hl h1 h2 fin
  obtain ⟨hd, rfl⟩ := hd
  rcases hk with rfl | rfl | rfl | rfl
  · exact va_alen C.1 C.2.1 hW.1 hW.2 id 0 (wd_ai ha (Or.inl rfl)) rfl (v := nI N) rfl hd (kk _ _ _ _ _ _ _ _ _ _ _ _ _ _ _ _ _ C hW hS hl h1 h2 fin)
  · exact va_alen C.1 C.2.1 hW.1 hW.2 id 1 (wd_ai ha (Or.inr rfl)) rfl (v := nI N) rfl hd (kk _ _ _ _ _ _ _ _ _ _ _ _ _ _ _ _ _ C hW hS hl h1 h2 fin)
  · exact va_alen C.1 C.2.1 hW.1 hW.2 id 2 (wd_aq ha (Or.inl rfl)) rfl (v := nI N) rfl hd (kk _ _ _ _ _ _ _ _ _ _ _ _ _ _ _ _ _ C hW hS hl h1 h2 fin)
  · exact va_alen C.1 C.2.1 hW.1 hW.2 id 3 (wd_aq ha (Or.inr rfl)) rfl (v := nI N) rfl hd (kk _ _ _ _ _ _ _ _ _ _ _ _ _ _ _ _ _ C hW hS hl h1 h2 fin)
theorem x_aaldL {r : Ev} {d : Nat} {y : MethodName} {cc : ByteArray} {mr : Nat × Option FieldType} {b : Nat × Nat} {pc q : Nat} {lv : List (Option Value)} {st : List Value} {n : Nat} {I : MI} {Q : MQ2} {F : Post} {id N i r2 : Nat} {x : Int32} (hd : DR cc pc .aaload 1 q) (ha : Ar n 12 id N) (hx : x = nI i) (hi : i < N) (hq : Q id i = some r2) (kk : X r d y cc mr b q lv (.ref (evz r + r2) :: st) n I Q F) : X r d y cc mr b pc lv (.int x :: .ref (evz r + id) :: st) n I Q F := by
  intro p e s m args below meth c H locs cells slots mc ms R ls Qf C hW hS hl h1 h2 fin
  obtain ⟨hd, rfl⟩ := hd
  subst hx
  refine va_aldq C.1 C.2.1 hW.1 hW.2 id 2 (wd_aq ha (Or.inl rfl)) rfl (vp_in_nI hi ha.lt) hd ?_
  rw [nI_cl hi ha.lt, hq]
  exact kk _ _ _ _ _ _ _ _ _ _ _ _ _ _ _ _ _ C hW hS hl h1 h2 fin
theorem x_aastL {r : Ev} {d : Nat} {y : MethodName} {cc : ByteArray} {mr : Nat × Option FieldType} {b : Nat × Nat} {pc q : Nat} {lv : List (Option Value)} {st : List Value} {n : Nat} {I : MI} {Q : MQ2} {F : Post} {id N i r2 : Nat} {x : Int32} (hd : DR cc pc .aastore 1 q) (ha : Ar n 12 id N) (hx : x = nI i) (hi : i < N) (hr : Ob n 0 r2) (kk : X r d y cc mr b q lv st n I (up2 Q id i (some r2)) F) : X r d y cc mr b pc lv (.ref (evz r + r2) :: .int x :: .ref (evz r + id) :: st) n I Q F := by
  intro p e s m args below meth c H locs cells slots mc ms R ls Qf C hW hS hl h1 h2 fin
  obtain ⟨hd, rfl⟩ := hd
  subst hx
  refine va_astq C.1 C.2.1 hW.1 hW.2 pool_D hS id 2 r2 0 (wd_aq ha (Or.inl rfl)) rfl (wd_at hr (Nat.le_of_ble_eq_true rfl)) (cf_ok 0 (Nat.le_of_ble_eq_true rfl)).1 (vp_in_nI hi ha.lt) hd (fun H1 locs1 hP hD hS1 => ?_)
  rw [nI_cl hi ha.lt] at hP
  rw [pool_set (I' := I) (Q' := up2 Q id i (some r2)) ha.2.2 (by rw [cel_q ha.1 (Or.inl rfl), ha.2.1]; rw [up2_vup]) (fun b hb => cel_cong rfl (up2_row hb))] at hP
  exact kk _ _ _ _ _ _ _ _ _ _ _ _ _ _ _ _ _ C ⟨hW.1, hP⟩ hS1 hl h1 h2 fin
theorem x_aaldS {r : Ev} {d : Nat} {y : MethodName} {cc : ByteArray} {mr : Nat × Option FieldType} {b : Nat × Nat} {pc q : Nat} {lv : List (Option Value)} {st : List Value} {n : Nat} {I : MI} {Q : MQ2} {F : Post} {id N i r2 : Nat} {x : Int32} (hd : DR cc pc .aaload 1 q) (ha : Ar n 13 id N) (hx : x = nI i) (hi : i < N) (hq : Q id i = some r2) (kk : X r d y cc mr b q lv (.ref (evz r + r2) :: st) n I Q F) : X r d y cc mr b pc lv (.int x :: .ref (evz r + id) :: st) n I Q F := by
  intro p e s m args below meth c H locs cells slots mc ms R ls Qf C hW hS hl h1 h2 fin
  obtain ⟨hd, rfl⟩ := hd
  subst hx
  refine va_aldq C.1 C.2.1 hW.1 hW.2 id 3 (wd_aq ha (Or.inr rfl)) rfl (vp_in_nI hi ha.lt) hd ?_
  rw [nI_cl hi ha.lt, hq]
  exact kk _ _ _ _ _ _ _ _ _ _ _ _ _ _ _ _ _ C hW hS hl h1 h2 fin
theorem x_aastS {r : Ev} {d : Nat} {y : MethodName} {cc : ByteArray} {mr : Nat × Option FieldType} {b : Nat × Nat} {pc q : Nat} {lv : List (Option Value)} {st : List Value} {n : Nat} {I : MI} {Q : MQ2} {F : Post} {id N i r2 : Nat} {x : Int32} (hd : DR cc pc .aastore 1 q) (ha : Ar n 13 id N) (hx : x = nI i) (hi : i < N) (hr : Ob n 5 r2) (kk : X r d y cc mr b q lv st n I (up2 Q id i (some r2)) F) : X r d y cc mr b pc lv (.ref (evz r + r2) :: .int x :: .ref (evz r + id) :: st) n I Q F := by
  intro p e s m args below meth c H locs cells slots mc ms R ls Qf C hW hS hl h1 h2 fin
  obtain ⟨hd, rfl⟩ := hd
  subst hx
  refine va_astq C.1 C.2.1 hW.1 hW.2 pool_D hS id 3 r2 5 (wd_aq ha (Or.inr rfl)) rfl (wd_at hr (Nat.le_of_ble_eq_true rfl)) (cf_ok 5 (Nat.le_of_ble_eq_true rfl)).1 (vp_in_nI hi ha.lt) hd (fun H1 locs1 hP hD hS1 => ?_)
  rw [nI_cl hi ha.lt] at hP
  rw [pool_set (I' := I) (Q' := up2 Q id i (some r2)) ha.2.2 (by rw [cel_q ha.1 (Or.inr rfl), ha.2.1]; rw [up2_vup]) (fun b hb => cel_cong rfl (up2_row hb))] at hP
  exact kk _ _ _ _ _ _ _ _ _ _ _ _ _ _ _ _ _ C ⟨hW.1, hP⟩ hS1 hl h1 h2 fin
