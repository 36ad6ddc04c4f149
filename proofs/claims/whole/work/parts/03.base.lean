/-! THE LIGHT WALK. The whole system's cells lie from the address z on, one behind the other: cell id is at z + id. kd: what kind each is (0..9: the objects of vwCl; 10 char[], 11 int[], 12 DewLooms$Loom[], 13 DewLooms$Slope[]), nn: how long an array is. The memory is (n, I, Q): n cells are made, I id j is the j-th int (field or element) of cell id, Q id j the j-th reference (an id). -/
def kdL : List Nat := [8, 6, 10, 3, 11] ++ [5, 12, 11, 0, 0, 0, 0, 0, 0] ++ [5, 12, 11, 0, 0, 0, 0, 0, 0] ++ ([2, 13] ++ [5, 12, 11, 0, 0, 0, 0, 0, 0] ++ [5, 12, 11, 0, 0, 0, 0, 0, 0] ++ [5, 12, 11, 0, 0, 0, 0, 0, 0] ++ [5, 12, 11, 0, 0, 0, 0, 0, 0] ++ [5, 12, 11, 0, 0, 0, 0, 0, 0] ++ [5, 12, 11, 0, 0, 0, 0, 0, 0] ++ [5, 12, 11, 0, 0, 0, 0, 0, 0] ++ [5, 12, 11, 0, 0, 0, 0, 0, 0]) ++ ([2, 13] ++ [5, 12, 11, 0, 0, 0, 0, 0, 0] ++ [5, 12, 11, 0, 0, 0, 0, 0, 0]) ++ [4, 11, 11, 11] ++ [7, 11, 11] ++ ([1] ++ [5, 12, 11, 0, 0, 0, 0, 0, 0] ++ [11, 11]) ++ ([1] ++ [5, 12, 11, 0, 0, 0, 0, 0, 0] ++ [11, 11]) ++ [9, 11, 11, 11, 11, 11, 11, 11, 11, 11, 11]

def nnL : List Nat := [0, 0, 200, 0, 3] ++ [0, 6, 6, 0, 0, 0, 0, 0, 0] ++ [0, 6, 6, 0, 0, 0, 0, 0, 0] ++ ([0, 8] ++ [0, 6, 6, 0, 0, 0, 0, 0, 0] ++ [0, 6, 6, 0, 0, 0, 0, 0, 0] ++ [0, 6, 6, 0, 0, 0, 0, 0, 0] ++ [0, 6, 6, 0, 0, 0, 0, 0, 0] ++ [0, 6, 6, 0, 0, 0, 0, 0, 0] ++ [0, 6, 6, 0, 0, 0, 0, 0, 0] ++ [0, 6, 6, 0, 0, 0, 0, 0, 0] ++ [0, 6, 6, 0, 0, 0, 0, 0, 0]) ++ ([0, 2] ++ [0, 6, 6, 0, 0, 0, 0, 0, 0] ++ [0, 6, 6, 0, 0, 0, 0, 0, 0]) ++ [0, 6, 6, 6] ++ [0, 6, 6] ++ ([0] ++ [0, 6, 6, 0, 0, 0, 0, 0, 0] ++ [12, 12]) ++ ([0] ++ [0, 6, 6, 0, 0, 0, 0, 0, 0] ++ [12, 12]) ++ [0, 200, 41, 41, 6, 26, 208, 52, 6, 6, 26]
def kd (id : Nat) : Nat := kdL.getD id 99
def nn (id : Nat) : Nat := nnL.getD id 0
def nfL : List Nat := [7, 7, 2, 2, 4, 5, 2, 4, 10, 15]
def nf (k : Nat) : Nat := nfL.getD k 0
def isRL : List (List Bool) := [[false, false, false, false, false, false, false], [true, true, true, false, false, false, false], [true, false], [true, false], [true, true, true, false], [true, true, false, false, false], [true, false], [true, true, false, false], [true, true, true, true, true, true, true, true, true, true], [true, false, true, true, true, true, true, false, true, false, true, false, false, true, true]]
def isR (k j : Nat) : Bool := (isRL.getD k []).getD j false
abbrev MI : Type := Nat → Nat → Int32
abbrev MQ2 : Type := Nat → Nat → Option Nat
def flds (z : Nat) (I : MI) (Q : MQ2) (id : Nat) : List Value := (List.range (nf (kd id))).map (fun j => if isR (kd id) j then va_rf ((Q id j).map (fun r => z + r)) else .int (I id j))
def cel (cy : Nat → ClassId) (z : Nat) (I : MI) (Q : MQ2) (id : Nat) : va_E := if kd id < 10 then .inr (kd id, flds z I Q id) else if kd id < 12 then .inl (cy (kd id), nn id, .inl (I id)) else .inl (cy (kd id), nn id, .inr (.inr (.inr (.inr (fun j => (Q id j).map (fun r => z + r))))))
def pool (cy : Nat → ClassId) (z n : Nat) (I : MI) (Q : MQ2) : va_W := (List.range n).map (fun id => (z + id, cel cy z I Q id))
def tysOf (cy : Nat → ClassId) : List (ClassId × FieldType) := [(cy 10, .char), (cy 11, .int), (cy 12, .object "DewLooms$Loom"), (cy 13, .object "DewLooms$Slope")]
def up2 {α : Type} (I : Nat → Nat → α) (a j : Nat) (v : α) : Nat → Nat → α := fun b k => if b = a ∧ k = j then v else I b k
def setRow {α : Type} (I : Nat → Nat → α) (a : Nat) (f : Nat → α) : Nat → Nat → α := fun b k => if b = a then f k else I b k
theorem up2_same {α : Type} (I : Nat → Nat → α) (a j : Nat) (v : α) : up2 I a j v a j = v := by simp [up2]
theorem up2_ne {α : Type} {I : Nat → Nat → α} {a j b k : Nat} {v : α} (h : ¬ (b = a ∧ k = j)) : up2 I a j v b k = I b k := by simp only [up2, if_neg h]
theorem up2_row {α : Type} {I : Nat → Nat → α} {a j b : Nat} {v : α} (h : b ≠ a) : up2 I a j v b = I b := by funext k; exact up2_ne (fun e => h e.1)
theorem setRow_same {α : Type} (I : Nat → Nat → α) (a : Nat) (f : Nat → α) : setRow I a f a = f := by funext k; simp [setRow]
theorem setRow_ne {α : Type} {I : Nat → Nat → α} {a b : Nat} {f : Nat → α} (h : b ≠ a) : setRow I a f b = I b := by funext k; simp only [setRow, if_neg h]
theorem pool_get {cy : Nat → ClassId} {z n : Nat} {I : MI} {Q : MQ2} {id : Nat} (h : id < n) : (pool cy z n I Q)[id]? = some (z + id, cel cy z I Q id) := by
  unfold pool
  rw [List.getElem?_map, List.getElem?_range h]
  rfl
theorem pool_len {cy : Nat → ClassId} {z n : Nat} {I : MI} {Q : MQ2} : (pool cy z n I Q).length = n := by simp [pool]
theorem pool_at {cy : Nat → ClassId} {z n : Nat} {I : MI} {Q : MQ2} {k : Nat} {q : Nat × va_E} (h : (pool cy z n I Q)[k]? = some q) : k < n ∧ q = (z + k, cel cy z I Q k) := by
  have hk : k < n := by have := (List.getElem?_eq_some_iff.mp h).1; rwa [pool_len] at this
  rw [pool_get hk] at h
  exact ⟨hk, (Option.some.inj h).symm⟩
theorem pool_D {cy : Nat → ClassId} {z n : Nat} {I : MI} {Q : MQ2} : va_D (fun q : Nat => z ≤ q) (pool cy z n I Q) := by
  refine ⟨fun i j p q hp hq h => ?_, fun k q hk => ?_⟩
  · obtain ⟨-, rfl⟩ := pool_at hp
    obtain ⟨-, rfl⟩ := pool_at hq
    have h : z + i = z + j := h
    omega
  · obtain ⟨-, rfl⟩ := pool_at hk
    exact Nat.le_add_right z k
/-- one cell of the pool put: another memory -/
theorem pool_set {cy : Nat → ClassId} {z n : Nat} {I I' : MI} {Q Q' : MQ2} {id : Nat} {e : va_E} (h : id < n) (he : cel cy z I' Q' id = e) (ho : ∀ b, b ≠ id → cel cy z I' Q' b = cel cy z I Q b) : (pool cy z n I Q).set id (z + id, e) = pool cy z n I' Q' := by
  apply List.ext_getElem?
  intro k
  by_cases hk : k < n
  · rw [pool_get hk]
    by_cases e1 : k = id
    · subst e1
      rw [List.getElem?_set_self (by rw [pool_len]; exact hk), he]
    · rw [List.getElem?_set_ne (Ne.symm e1), pool_get hk, ho k e1]
  · rw [List.getElem?_eq_none (by rw [List.length_set, pool_len]; omega), List.getElem?_eq_none (by rw [pool_len]; omega)]
theorem pool_push {cy : Nat → ClassId} {z n : Nat} {I I' : MI} {Q Q' : MQ2} {e : va_E} (he : cel cy z I' Q' n = e) (ho : ∀ b, b < n → cel cy z I' Q' b = cel cy z I Q b) : pool cy z n I Q ++ [(z + n, e)] = pool cy z (n + 1) I' Q' := by
  unfold pool
  rw [List.range_succ, List.map_append]
  congr 1
  · apply List.map_congr_left
    intro b hb
    rw [ho b (List.mem_range.mp hb)]
  · simp [he]
theorem cel_cong {cy : Nat → ClassId} {z : Nat} {I I' : MI} {Q Q' : MQ2} {b : Nat} (h1 : I' b = I b) (h2 : Q' b = Q b) : cel cy z I' Q' b = cel cy z I Q b := by
  unfold cel flds
  rw [h1, h2]
theorem cel_o {cy : Nat → ClassId} {z : Nat} {I : MI} {Q : MQ2} {id k : Nat} (h : kd id = k) (hk : k < 10) : cel cy z I Q id = .inr (k, flds z I Q id) := by
  unfold cel
  rw [h, if_pos hk]
theorem cel_i {cy : Nat → ClassId} {z : Nat} {I : MI} {Q : MQ2} {id k : Nat} (h : kd id = k) (hk : k = 10 ∨ k = 11) : cel cy z I Q id = .inl (cy k, nn id, .inl (I id)) := by
  unfold cel
  rw [h, if_neg (by omega), if_pos (by omega)]
theorem cel_q {cy : Nat → ClassId} {z : Nat} {I : MI} {Q : MQ2} {id k : Nat} (h : kd id = k) (hk : k = 12 ∨ k = 13) : cel cy z I Q id = .inl (cy k, nn id, .inr (.inr (.inr (.inr (fun j => (Q id j).map (fun r => z + r)))))) := by
  unfold cel
  rw [h, if_neg (by omega), if_neg (by omega)]
theorem flds_get {z : Nat} {I : MI} {Q : MQ2} {id j : Nat} (h : j < nf (kd id)) : (flds z I Q id)[j]? = some (if isR (kd id) j then va_rf ((Q id j).map (fun r => z + r)) else .int (I id j)) := by
  unfold flds
  rw [List.getElem?_map, List.getElem?_range h]
  rfl
theorem flds_len {z : Nat} {I : MI} {Q : MQ2} {id : Nat} : (flds z I Q id).length = nf (kd id) := by simp [flds]
theorem flds_set {z : Nat} {I I' : MI} {Q Q' : MQ2} {id j : Nat} {v : Value} (h : j < nf (kd id)) (hv : (if isR (kd id) j then va_rf ((Q' id j).map (fun r => z + r)) else .int (I' id j)) = v) (hi : ∀ k, k ≠ j → I' id k = I id k) (hq : ∀ k, k ≠ j → Q' id k = Q id k) : flds z I' Q' id = (flds z I Q id).set j v := by
  apply List.ext_getElem?
  intro k
  by_cases hk : k < nf (kd id)
  · rw [flds_get hk]
    by_cases e1 : k = j
    · subst e1
      rw [List.getElem?_set_self (by rw [flds_len]; exact hk), hv]
    · rw [List.getElem?_set_ne (Ne.symm e1), flds_get hk, hi k e1, hq k e1]
  · rw [List.getElem?_eq_none (by rw [flds_len]; omega), List.getElem?_eq_none (by rw [List.length_set, flds_len]; omega)]
/-! the words -/
def wT : List Cond := lw_tbl.filter goodWord
theorem tw {w : Cond} (i : Nat) (h : lw_tbl[i]? = some w) (g : goodWord w = true) : w ∈ wT := List.mem_filter.mpr ⟨List.mem_of_getElem? h, g⟩
theorem wT_good {ws : List Cond} (h : ∀ w ∈ ws, w ∈ wT) : GoodIn wT ws := fun w hw => ⟨h w hw, good_of_word (List.mem_filter.mp (h w hw)).2⟩
/-! decode rows with the next place, and the branch's -/
def DR (cc : ByteArray) (pc : Nat) (i : Instr) (len q : Nat) : Prop := decode cc pc = .ok (i, len) ∧ pc + len = q
def DB (cc : ByteArray) (pc : Nat) (i : Instr) (len : Nat) (off : Int) (q t : Nat) : Prop := decode cc pc = .ok (i, len) ∧ pc + len = q ∧ (pc : Int) + off = (t : Int)
/-! locals by their places -/
def LVS (ls : Array Slot) (mL : Nat) (lv : List (Option Value)) : Prop := ls.size = mL ∧ lv_wf ls ∧ ∀ (i : Nat) (v : Value), lv[i]? = some (some v) → ls[i]? = some (.val v)
abbrev Ev : Type := Launch × va_G × (Nat → ClassId) × Nat × (Nat → Nat) × (Nat → Nat) × Nat × Nat × (Nat → Int32)
def evl (r : Ev) : Launch := r.1
def evD (r : Ev) : va_G := r.2.1
def evc (r : Ev) : Nat → ClassId := r.2.2.1
def evz (r : Ev) : Nat := r.2.2.2.1
/-- below z: the string constant and its bytes; the script: where it lies, how long it is, what it holds -/
def evK (r : Ev) : Nat → Nat := r.2.2.2.2.1
def evV (r : Ev) : Nat → Nat := r.2.2.2.2.2.1
def evb (r : Ev) : Nat := r.2.2.2.2.2.2.1
def evn (r : Ev) : Nat := r.2.2.2.2.2.2.2.1
def evx (r : Ev) : Nat → Int32 := r.2.2.2.2.2.2.2.2
/-- the world: the pool at the heap's end -/
def WD (r : Ev) (n : Nat) (I : MI) (Q : MQ2) (s : State) (H : Heap) : Prop := va_K (evD r) vwCl (tysOf (evc r)) s ∧ va_P (evD r) vwCl (pool (evc r) (evz r) n I Q) H
theorem WD.moved {r : Ev} {n : Nat} {I : MI} {Q : MQ2} {u U : State} {H : Heap} (hvm : u.vm.Alike U.vm) (h : WD r n I Q u H) : WD r n I Q U H := ⟨va_K.moved hvm h.1, h.2⟩

/-- the string constant and the statics of the JDK that String's methods read: facts of cells that lie below z -/
def fTxt : List Int32 := [108, 48, 44, 48, 44, 51, 59, 108, 49, 44, 50, 44, 50, 59, 108, 50, 44, 51, 44, 51, 59, 108, 51, 44, 53, 44, 52, 59, 108, 48, 44, 56, 44, 50, 59, 104, 51, 44, 48, 59, 104, 53, 44, 48, 59, 104, 50, 44, 49, 59, 104, 48, 44, 49, 59, 115, 51, 59, 109, 54, 59, 121, 53, 59]
def isNest (w : Cond) : Bool := match w with
  | .fieldLinkNest .. => true
  | .methodLinkNest .. => true
  | _ => false
def wN : List Cond := lw_tbl.filter isNest
theorem tn {w : Cond} (i : Nat) (h : lw_tbl[i]? = some w) (g : isNest w = true) : w ∈ wN := List.mem_filter.mpr ⟨List.mem_of_getElem? h, g⟩
theorem nest_tab {w : Cond} (h : isNest w = true) : w.onTables = true := by cases w <;> first | rfl | cases h
theorem nest_warm {w : Cond} (h : isNest w = true) {s U : State} (hW : s.WarmedH U.vm) (hZ : va_Nw w s) : va_Nw w U := by
  cases w <;> first | (cases h; done) | exact va_Nw.warmF hW hZ | exact va_Nw.warmM hW hZ
def ZS (r : Ev) (U : State) (H : Heap) : Prop := (∀ w ∈ wN, va_Nw w U) ∧ (va_AO "DewLooms$Loom" U ∧ va_AO "DewLooms$Slope" U) ∧ (vk_S 1 [64] [fTxt] (evK r) (evV r) (fun q : Nat => evz r ≤ q) U H ∧ vk_R RX8 69 "l0,0,3;l1,2,2;l2,3,3;l3,5,4;l0,8,2;h3,0;h5,0;h2,1;h0,1;s3;m6;y5;" (evK r 0) U ∧ va_Z "java/lang/String" "COMPACT_STRINGS" "Z" (.int 1) (fun q : Nat => evz r ≤ q) U H ∧ va_Zq "jdk/internal/util/Preconditions" "SIOOBE_FORMATTER" "Ljava/util/function/BiFunction;" (fun q : Nat => evz r ≤ q) U H) ∧ va_X (evb r) (evn r) (evx r) U H ∧ evb r < evz r

theorem ZS.goes {r : Ev} {s U : State} {H : Heap} {locs : List Loc} (h : ZS r s s.heap) (hS : va_S (fun q : Nat => evz r ≤ q) s.heap H locs) (hW : s.WarmedH U.vm) : ZS r U H := by
  obtain ⟨h0, h9, ⟨h1, h2, h3, h4⟩, h5, h6⟩ := h
  have hb : evb r < s.heap.size := by
    obtain ⟨scr, hc, -⟩ := h5
    exact (Array.getElem?_eq_some_iff.mp hc).1
  exact ⟨fun w hw => nest_warm (List.mem_filter.mp hw).2 hW (h0 w hw), ⟨h9.1.moved hW.alike, h9.2.moved hW.alike⟩, ⟨(h1.kept hS.2.1).moved hW.alike, h2.warm hW, (h3.kept hS.2.1).moved hW.alike, (h4.kept hS.2.1).moved hW.alike⟩, (h5.kept (hS.2.1 _ hb (Nat.not_le.mpr h6))).moved hW.alike, h6⟩
/-- what stands in a frame -/
def XC (r : Ev) (d : Nat) (y : MethodName) (cc : ByteArray) (mr : Nat × Option FieldType) (p : Program) (s : State) (m : MethodId) (args : Array Value) (meth : Method) (c : Code) (R : Room) (mc ms : Nat) : Prop :=
  p.tables.exec = Jvm.exec ∧ c.code = cc ∧ c.maxLocals = mr.1 ∧ s.vm.findClass y.cls = some m.cls ∧ (∀ w ∈ wT, w.before args s = true) ∧ (y.name = "<init>" → meth.name = "<init>") ∧ evz r ≤ s.heap.size ∧ d ≤ R.frames ∧ 40 * d ≤ R.locals ∧ mc ≤ R.cells ∧ ms ≤ R.slots ∧ ZS r s s.heap
/-- a method's end: the answer -/
def RETS (cc : ByteArray) (ret : Option FieldType) (pc : Nat) (st : List Value) (v : Option Value) : Prop :=
  (decode cc pc = .ok (.ireturn, 1) ∧ ∃ (x : Int32) (ty : FieldType), st = [.int x] ∧ v = some (.int x) ∧ ret = some ty ∧ narrow ty (.int x) = .int x) ∨ (decode cc pc = .ok (.return_, 1) ∧ st = [] ∧ v = none ∧ ret = none) ∨ (decode cc pc = .ok (.areturn, 1) ∧ ∃ (a : Nat) (rt : FieldType), st = [.ref a] ∧ v = some (.ref a) ∧ ret = some rt ∧ ∃ nm, rt = .object nm)
abbrev Post : Type := Option Value → MI → MQ2 → Prop
/-- THE LIGHT WALK: from the place pc with the locals lv, the stack st, the memory (n, I, Q), the method comes to its end with an answer and a memory of which F holds; b: how many cells it makes still (just so many), how many slots at most -/
def X (r : Ev) (d : Nat) (y : MethodName) (cc : ByteArray) (mr : Nat × Option FieldType) (b : Nat × Nat) (pc : Nat) (lv : List (Option Value)) (st : List Value) (n : Nat) (I : MI) (Q : MQ2) (F : Post) : Prop :=
  ∀ (p : Program) (e : Env) (s : State) (m : MethodId) (args : Array Value) (below : List Frame) (meth : Method) (c : Code) (H : Heap) (locs : List Loc) (cells slots mc ms : Nat) (R : Room) (ls : Array Slot) (Qf : State → Prop),
    XC r d y cc mr p s m args meth c R mc ms → WD r n I Q s H → va_S (fun q : Nat => evz r ≤ q) s.heap H locs → LVS ls mr.1 lv → s.heap.size + cells = evz r + n ∧ cells + b.1 = mc → slots + b.2 ≤ ms →
    (∀ (pc' : Nat) (ls' : Array Slot) (st' : List Value) (H' : Heap) (locs' : List Loc) (v : Option Value) (I' : MI) (Q' : MQ2), RETS cc mr.2 pc' st' v → F v I' Q' → WD r (n + b.1) I' Q' s H' → va_S (fun q : Nat => evz r ≤ q) s.heap H' locs' → W p (evl r) e R s m args below meth c H' locs' mc ms Qf (F0 m pc' ls' st')) →
    W p (evl r) e R s m args below meth c H locs cells slots Qf (F0 m pc ls st)
/-- a method's contract -/
def CT (r : Ev) (d : Nat) (y : MethodName) (cc : ByteArray) (mr : Nat × Option FieldType) (b : Nat × Nat) (As : List Value) (n : Nat) (I : MI) (Q : MQ2) (F : Post) : Prop :=
  Met (evl r) y (.code y cc mr.1 mr.2 :: wT) { frames := d, cells := b.1, slots := b.2, locals := 40 * d } (va_Pc As (fun U => U.heap.size = evz r + n ∧ WD r n I Q U U.heap ∧ ZS r U U.heap)) (fun _ st oc t => (∃ (v : Option Value) (I' : MI) (Q' : MQ2), oc = .returned v ∧ F v I' Q' ∧ WD r (n + b.1) I' Q' t t.heap) ∧ va_F (fun q : Nat => evz r ≤ q) st t) b.1 b.2 (fun q : Nat => evz r ≤ q)

theorem x_iconst {r : Ev} {d : Nat} {y : MethodName} {cc : ByteArray} {mr : Nat × Option FieldType} {b : Nat × Nat} {pc q : Nat} {lv : List (Option Value)} {st : List Value} {n : Nat} {I : MI} {Q : MQ2} {F : Post} {z : Int} {v : Int32} (hd : DR cc pc (.iconst z) 1 q) (hv : Int32.ofInt z = v) (k : X r d y cc mr b q lv (.int v :: st) n I Q F) : X r d y cc mr b pc lv st n I Q F := by
  intro p e s m args below meth c H locs cells slots mc ms R ls Qf C hW hS hl h1 h2 fin
  obtain ⟨hd, rfl⟩ := hd
  exact lv_iconst C.1 C.2.1 hd hv (k _ _ _ _ _ _ _ _ _ _ _ _ _ _ _ _ _ C hW hS hl h1 h2 fin)
theorem x_bipush {r : Ev} {d : Nat} {y : MethodName} {cc : ByteArray} {mr : Nat × Option FieldType} {b : Nat × Nat} {pc q : Nat} {lv : List (Option Value)} {st : List Value} {n : Nat} {I : MI} {Q : MQ2} {F : Post} {z : Int} {v : Int32} (hd : DR cc pc (.bipush z) 2 q) (hv : (Int8.ofInt z).toInt32 = v) (k : X r d y cc mr b q lv (.int v :: st) n I Q F) : X r d y cc mr b pc lv st n I Q F := by
  intro p e s m args below meth c H locs cells slots mc ms R ls Qf C hW hS hl h1 h2 fin
  obtain ⟨hd, rfl⟩ := hd
  exact lv_bipush C.1 C.2.1 hd hv (k _ _ _ _ _ _ _ _ _ _ _ _ _ _ _ _ _ C hW hS hl h1 h2 fin)
theorem x_sipush {r : Ev} {d : Nat} {y : MethodName} {cc : ByteArray} {mr : Nat × Option FieldType} {b : Nat × Nat} {pc q : Nat} {lv : List (Option Value)} {st : List Value} {n : Nat} {I : MI} {Q : MQ2} {F : Post} {z : Int} {v : Int32} (hd : DR cc pc (.sipush z) 3 q) (hv : (Int16.ofInt z).toInt32 = v) (k : X r d y cc mr b q lv (.int v :: st) n I Q F) : X r d y cc mr b pc lv st n I Q F := by
  intro p e s m args below meth c H locs cells slots mc ms R ls Qf C hW hS hl h1 h2 fin
  obtain ⟨hd, rfl⟩ := hd
  exact lv_sipush C.1 C.2.1 hd hv (k _ _ _ _ _ _ _ _ _ _ _ _ _ _ _ _ _ C hW hS hl h1 h2 fin)
theorem x_lconst {r : Ev} {d : Nat} {y : MethodName} {cc : ByteArray} {mr : Nat × Option FieldType} {b : Nat × Nat} {pc q : Nat} {lv : List (Option Value)} {st : List Value} {n : Nat} {I : MI} {Q : MQ2} {F : Post} {z : Fin 2} {v : Int64} (hd : DR cc pc (.lconst z) 1 q) (hv : Int64.ofNat (z : Nat) = v) (k : X r d y cc mr b q lv (.long v :: st) n I Q F) : X r d y cc mr b pc lv st n I Q F := by
  intro p e s m args below meth c H locs cells slots mc ms R ls Qf C hW hS hl h1 h2 fin
  obtain ⟨hd, rfl⟩ := hd
  exact lv_lconst C.1 C.2.1 hd hv (k _ _ _ _ _ _ _ _ _ _ _ _ _ _ _ _ _ C hW hS hl h1 h2 fin)
theorem x_iadd {r : Ev} {d : Nat} {y : MethodName} {cc : ByteArray} {mr : Nat × Option FieldType} {b : Nat × Nat} {pc q : Nat} {lv : List (Option Value)} {st : List Value} {n : Nat} {I : MI} {Q : MQ2} {F : Post} {x x2 : Int32} (hd : DR cc pc (.iadd) 1 q)  (k : X r d y cc mr b q lv (.int (x + x2) :: st) n I Q F) : X r d y cc mr b pc lv (.int x2 :: .int x :: st) n I Q F := by
  intro p e s m args below meth c H locs cells slots mc ms R ls Qf C hW hS hl h1 h2 fin
  obtain ⟨hd, rfl⟩ := hd
  exact lv_iadd C.1 C.2.1 hd  (k _ _ _ _ _ _ _ _ _ _ _ _ _ _ _ _ _ C hW hS hl h1 h2 fin)
theorem x_isub {r : Ev} {d : Nat} {y : MethodName} {cc : ByteArray} {mr : Nat × Option FieldType} {b : Nat × Nat} {pc q : Nat} {lv : List (Option Value)} {st : List Value} {n : Nat} {I : MI} {Q : MQ2} {F : Post} {x x2 : Int32} (hd : DR cc pc (.isub) 1 q)  (k : X r d y cc mr b q lv (.int (x - x2) :: st) n I Q F) : X r d y cc mr b pc lv (.int x2 :: .int x :: st) n I Q F := by
  intro p e s m args below meth c H locs cells slots mc ms R ls Qf C hW hS hl h1 h2 fin
  obtain ⟨hd, rfl⟩ := hd
  exact lv_isub C.1 C.2.1 hd  (k _ _ _ _ _ _ _ _ _ _ _ _ _ _ _ _ _ C hW hS hl h1 h2 fin)
theorem x_imul {r : Ev} {d : Nat} {y : MethodName} {cc : ByteArray} {mr : Nat × Option FieldType} {b : Nat × Nat} {pc q : Nat} {lv : List (Option Value)} {st : List Value} {n : Nat} {I : MI} {Q : MQ2} {F : Post} {x x2 : Int32} (hd : DR cc pc (.imul) 1 q)  (k : X r d y cc mr b q lv (.int (x * x2) :: st) n I Q F) : X r d y cc mr b pc lv (.int x2 :: .int x :: st) n I Q F := by
  intro p e s m args below meth c H locs cells slots mc ms R ls Qf C hW hS hl h1 h2 fin
  obtain ⟨hd, rfl⟩ := hd
  exact lv_imul C.1 C.2.1 hd  (k _ _ _ _ _ _ _ _ _ _ _ _ _ _ _ _ _ C hW hS hl h1 h2 fin)
theorem x_iand {r : Ev} {d : Nat} {y : MethodName} {cc : ByteArray} {mr : Nat × Option FieldType} {b : Nat × Nat} {pc q : Nat} {lv : List (Option Value)} {st : List Value} {n : Nat} {I : MI} {Q : MQ2} {F : Post} {x x2 : Int32} (hd : DR cc pc (.iand) 1 q)  (k : X r d y cc mr b q lv (.int (x &&& x2) :: st) n I Q F) : X r d y cc mr b pc lv (.int x2 :: .int x :: st) n I Q F := by
  intro p e s m args below meth c H locs cells slots mc ms R ls Qf C hW hS hl h1 h2 fin
  obtain ⟨hd, rfl⟩ := hd
  exact lv_iand C.1 C.2.1 hd  (k _ _ _ _ _ _ _ _ _ _ _ _ _ _ _ _ _ C hW hS hl h1 h2 fin)
theorem x_ior {r : Ev} {d : Nat} {y : MethodName} {cc : ByteArray} {mr : Nat × Option FieldType} {b : Nat × Nat} {pc q : Nat} {lv : List (Option Value)} {st : List Value} {n : Nat} {I : MI} {Q : MQ2} {F : Post} {x x2 : Int32} (hd : DR cc pc (.ior) 1 q)  (k : X r d y cc mr b q lv (.int (x ||| x2) :: st) n I Q F) : X r d y cc mr b pc lv (.int x2 :: .int x :: st) n I Q F := by
  intro p e s m args below meth c H locs cells slots mc ms R ls Qf C hW hS hl h1 h2 fin
  obtain ⟨hd, rfl⟩ := hd
  exact lv_ior C.1 C.2.1 hd  (k _ _ _ _ _ _ _ _ _ _ _ _ _ _ _ _ _ C hW hS hl h1 h2 fin)
theorem x_ixor {r : Ev} {d : Nat} {y : MethodName} {cc : ByteArray} {mr : Nat × Option FieldType} {b : Nat × Nat} {pc q : Nat} {lv : List (Option Value)} {st : List Value} {n : Nat} {I : MI} {Q : MQ2} {F : Post} {x x2 : Int32} (hd : DR cc pc (.ixor) 1 q)  (k : X r d y cc mr b q lv (.int (x ^^^ x2) :: st) n I Q F) : X r d y cc mr b pc lv (.int x2 :: .int x :: st) n I Q F := by
  intro p e s m args below meth c H locs cells slots mc ms R ls Qf C hW hS hl h1 h2 fin
  obtain ⟨hd, rfl⟩ := hd
  exact lv_ixor C.1 C.2.1 hd  (k _ _ _ _ _ _ _ _ _ _ _ _ _ _ _ _ _ C hW hS hl h1 h2 fin)
theorem x_idiv {r : Ev} {d : Nat} {y : MethodName} {cc : ByteArray} {mr : Nat × Option FieldType} {b : Nat × Nat} {pc q : Nat} {lv : List (Option Value)} {st : List Value} {n : Nat} {I : MI} {Q : MQ2} {F : Post} {x x2 : Int32} (hd : DR cc pc (.idiv) 1 q) (h0 : ¬ x2 = 0) (k : X r d y cc mr b q lv (.int (x / x2) :: st) n I Q F) : X r d y cc mr b pc lv (.int x2 :: .int x :: st) n I Q F := by
  intro p e s m args below meth c H locs cells slots mc ms R ls Qf C hW hS hl h1 h2 fin
  obtain ⟨hd, rfl⟩ := hd
  exact lv_idiv C.1 C.2.1 hd h0 (k _ _ _ _ _ _ _ _ _ _ _ _ _ _ _ _ _ C hW hS hl h1 h2 fin)
theorem x_irem {r : Ev} {d : Nat} {y : MethodName} {cc : ByteArray} {mr : Nat × Option FieldType} {b : Nat × Nat} {pc q : Nat} {lv : List (Option Value)} {st : List Value} {n : Nat} {I : MI} {Q : MQ2} {F : Post} {x x2 : Int32} (hd : DR cc pc (.irem) 1 q) (h0 : ¬ x2 = 0) (k : X r d y cc mr b q lv (.int (x - x / x2 * x2) :: st) n I Q F) : X r d y cc mr b pc lv (.int x2 :: .int x :: st) n I Q F := by
  intro p e s m args below meth c H locs cells slots mc ms R ls Qf C hW hS hl h1 h2 fin
  obtain ⟨hd, rfl⟩ := hd
  exact lv_irem C.1 C.2.1 hd h0 (k _ _ _ _ _ _ _ _ _ _ _ _ _ _ _ _ _ C hW hS hl h1 h2 fin)
theorem x_ishl {r : Ev} {d : Nat} {y : MethodName} {cc : ByteArray} {mr : Nat × Option FieldType} {b : Nat × Nat} {pc q : Nat} {lv : List (Option Value)} {st : List Value} {n : Nat} {I : MI} {Q : MQ2} {F : Post} {x x2 : Int32} (hd : DR cc pc (.ishl) 1 q)  (k : X r d y cc mr b q lv (.int (x <<< (x2 &&& 31)) :: st) n I Q F) : X r d y cc mr b pc lv (.int x2 :: .int x :: st) n I Q F := by
  intro p e s m args below meth c H locs cells slots mc ms R ls Qf C hW hS hl h1 h2 fin
  obtain ⟨hd, rfl⟩ := hd
  exact lv_ishl C.1 C.2.1 hd  (k _ _ _ _ _ _ _ _ _ _ _ _ _ _ _ _ _ C hW hS hl h1 h2 fin)
theorem x_ishr {r : Ev} {d : Nat} {y : MethodName} {cc : ByteArray} {mr : Nat × Option FieldType} {b : Nat × Nat} {pc q : Nat} {lv : List (Option Value)} {st : List Value} {n : Nat} {I : MI} {Q : MQ2} {F : Post} {x x2 : Int32} (hd : DR cc pc (.ishr) 1 q)  (k : X r d y cc mr b q lv (.int (x >>> (x2 &&& 31)) :: st) n I Q F) : X r d y cc mr b pc lv (.int x2 :: .int x :: st) n I Q F := by
  intro p e s m args below meth c H locs cells slots mc ms R ls Qf C hW hS hl h1 h2 fin
  obtain ⟨hd, rfl⟩ := hd
  exact lv_ishr C.1 C.2.1 hd  (k _ _ _ _ _ _ _ _ _ _ _ _ _ _ _ _ _ C hW hS hl h1 h2 fin)
theorem x_iushr {r : Ev} {d : Nat} {y : MethodName} {cc : ByteArray} {mr : Nat × Option FieldType} {b : Nat × Nat} {pc q : Nat} {lv : List (Option Value)} {st : List Value} {n : Nat} {I : MI} {Q : MQ2} {F : Post} {x x2 : Int32} (hd : DR cc pc (.iushr) 1 q)  (k : X r d y cc mr b q lv (.int (x.toUInt32 >>> (x2.toUInt32 &&& Int32.toUInt32 31)).toInt32 :: st) n I Q F) : X r d y cc mr b pc lv (.int x2 :: .int x :: st) n I Q F := by
  intro p e s m args below meth c H locs cells slots mc ms R ls Qf C hW hS hl h1 h2 fin
  obtain ⟨hd, rfl⟩ := hd
  exact lv_iushr C.1 C.2.1 hd rfl (k _ _ _ _ _ _ _ _ _ _ _ _ _ _ _ _ _ C hW hS hl h1 h2 fin)
theorem x_ladd {r : Ev} {d : Nat} {y : MethodName} {cc : ByteArray} {mr : Nat × Option FieldType} {b : Nat × Nat} {pc q : Nat} {lv : List (Option Value)} {st : List Value} {n : Nat} {I : MI} {Q : MQ2} {F : Post} {x x2 : Int64} (hd : DR cc pc (.ladd) 1 q)  (k : X r d y cc mr b q lv (.long (x + x2) :: st) n I Q F) : X r d y cc mr b pc lv (.long x2 :: .long x :: st) n I Q F := by
  intro p e s m args below meth c H locs cells slots mc ms R ls Qf C hW hS hl h1 h2 fin
  obtain ⟨hd, rfl⟩ := hd
  exact lv_ladd C.1 C.2.1 hd  (k _ _ _ _ _ _ _ _ _ _ _ _ _ _ _ _ _ C hW hS hl h1 h2 fin)
theorem x_lsub {r : Ev} {d : Nat} {y : MethodName} {cc : ByteArray} {mr : Nat × Option FieldType} {b : Nat × Nat} {pc q : Nat} {lv : List (Option Value)} {st : List Value} {n : Nat} {I : MI} {Q : MQ2} {F : Post} {x x2 : Int64} (hd : DR cc pc (.lsub) 1 q)  (k : X r d y cc mr b q lv (.long (x - x2) :: st) n I Q F) : X r d y cc mr b pc lv (.long x2 :: .long x :: st) n I Q F := by
  intro p e s m args below meth c H locs cells slots mc ms R ls Qf C hW hS hl h1 h2 fin
  obtain ⟨hd, rfl⟩ := hd
  exact lv_lsub C.1 C.2.1 hd  (k _ _ _ _ _ _ _ _ _ _ _ _ _ _ _ _ _ C hW hS hl h1 h2 fin)
theorem x_lmul {r : Ev} {d : Nat} {y : MethodName} {cc : ByteArray} {mr : Nat × Option FieldType} {b : Nat × Nat} {pc q : Nat} {lv : List (Option Value)} {st : List Value} {n : Nat} {I : MI} {Q : MQ2} {F : Post} {x x2 : Int64} (hd : DR cc pc (.lmul) 1 q)  (k : X r d y cc mr b q lv (.long (x * x2) :: st) n I Q F) : X r d y cc mr b pc lv (.long x2 :: .long x :: st) n I Q F := by
  intro p e s m args below meth c H locs cells slots mc ms R ls Qf C hW hS hl h1 h2 fin
  obtain ⟨hd, rfl⟩ := hd
  exact lv_lmul C.1 C.2.1 hd  (k _ _ _ _ _ _ _ _ _ _ _ _ _ _ _ _ _ C hW hS hl h1 h2 fin)
theorem x_ldiv {r : Ev} {d : Nat} {y : MethodName} {cc : ByteArray} {mr : Nat × Option FieldType} {b : Nat × Nat} {pc q : Nat} {lv : List (Option Value)} {st : List Value} {n : Nat} {I : MI} {Q : MQ2} {F : Post} {x x2 : Int64} (hd : DR cc pc (.ldiv) 1 q) (h0 : ¬ x2 = 0) (k : X r d y cc mr b q lv (.long (x / x2) :: st) n I Q F) : X r d y cc mr b pc lv (.long x2 :: .long x :: st) n I Q F := by
  intro p e s m args below meth c H locs cells slots mc ms R ls Qf C hW hS hl h1 h2 fin
  obtain ⟨hd, rfl⟩ := hd
  exact lv_ldiv C.1 C.2.1 hd h0 (k _ _ _ _ _ _ _ _ _ _ _ _ _ _ _ _ _ C hW hS hl h1 h2 fin)
theorem x_lrem {r : Ev} {d : Nat} {y : MethodName} {cc : ByteArray} {mr : Nat × Option FieldType} {b : Nat × Nat} {pc q : Nat} {lv : List (Option Value)} {st : List Value} {n : Nat} {I : MI} {Q : MQ2} {F : Post} {x x2 : Int64} (hd : DR cc pc (.lrem) 1 q) (h0 : ¬ x2 = 0) (k : X r d y cc mr b q lv (.long (x - x / x2 * x2) :: st) n I Q F) : X r d y cc mr b pc lv (.long x2 :: .long x :: st) n I Q F := by
  intro p e s m args below meth c H locs cells slots mc ms R ls Qf C hW hS hl h1 h2 fin
  obtain ⟨hd, rfl⟩ := hd
  exact lv_lrem C.1 C.2.1 hd h0 (k _ _ _ _ _ _ _ _ _ _ _ _ _ _ _ _ _ C hW hS hl h1 h2 fin)
theorem x_i2l {r : Ev} {d : Nat} {y : MethodName} {cc : ByteArray} {mr : Nat × Option FieldType} {b : Nat × Nat} {pc q : Nat} {lv : List (Option Value)} {st : List Value} {n : Nat} {I : MI} {Q : MQ2} {F : Post} {x : Int32} (hd : DR cc pc (.i2l) 1 q)  (k : X r d y cc mr b q lv (.long x.toInt64 :: st) n I Q F) : X r d y cc mr b pc lv (.int x :: st) n I Q F := by
  intro p e s m args below meth c H locs cells slots mc ms R ls Qf C hW hS hl h1 h2 fin
  obtain ⟨hd, rfl⟩ := hd
  exact lv_i2l C.1 C.2.1 hd rfl (k _ _ _ _ _ _ _ _ _ _ _ _ _ _ _ _ _ C hW hS hl h1 h2 fin)
theorem x_l2i {r : Ev} {d : Nat} {y : MethodName} {cc : ByteArray} {mr : Nat × Option FieldType} {b : Nat × Nat} {pc q : Nat} {lv : List (Option Value)} {st : List Value} {n : Nat} {I : MI} {Q : MQ2} {F : Post} {x : Int64} (hd : DR cc pc (.l2i) 1 q)  (k : X r d y cc mr b q lv (.int x.toInt32 :: st) n I Q F) : X r d y cc mr b pc lv (.long x :: st) n I Q F := by
  intro p e s m args below meth c H locs cells slots mc ms R ls Qf C hW hS hl h1 h2 fin
  obtain ⟨hd, rfl⟩ := hd
  exact lv_l2i C.1 C.2.1 hd rfl (k _ _ _ _ _ _ _ _ _ _ _ _ _ _ _ _ _ C hW hS hl h1 h2 fin)
theorem x_i2c {r : Ev} {d : Nat} {y : MethodName} {cc : ByteArray} {mr : Nat × Option FieldType} {b : Nat × Nat} {pc q : Nat} {lv : List (Option Value)} {st : List Value} {n : Nat} {I : MI} {Q : MQ2} {F : Post} {x v : Int32} (hd : DR cc pc (.i2c) 1 q) (hv : (x.toUInt32 % 65536).toInt32 = v) (k : X r d y cc mr b q lv (.int v :: st) n I Q F) : X r d y cc mr b pc lv (.int x :: st) n I Q F := by
  intro p e s m args below meth c H locs cells slots mc ms R ls Qf C hW hS hl h1 h2 fin
  obtain ⟨hd, rfl⟩ := hd
  exact lv_i2c C.1 C.2.1 hd hv (k _ _ _ _ _ _ _ _ _ _ _ _ _ _ _ _ _ C hW hS hl h1 h2 fin)
theorem x_dup_int {r : Ev} {d : Nat} {y : MethodName} {cc : ByteArray} {mr : Nat × Option FieldType} {b : Nat × Nat} {pc q : Nat} {lv : List (Option Value)} {st : List Value} {n : Nat} {I : MI} {Q : MQ2} {F : Post} {x : Int32} (hd : DR cc pc (.dup) 1 q)  (k : X r d y cc mr b q lv (.int x :: .int x :: st) n I Q F) : X r d y cc mr b pc lv (.int x :: st) n I Q F := by
  intro p e s m args below meth c H locs cells slots mc ms R ls Qf C hW hS hl h1 h2 fin
  obtain ⟨hd, rfl⟩ := hd
  exact lv_dup C.1 C.2.1 hd rfl (k _ _ _ _ _ _ _ _ _ _ _ _ _ _ _ _ _ C hW hS hl h1 h2 fin)
theorem x_pop_int {r : Ev} {d : Nat} {y : MethodName} {cc : ByteArray} {mr : Nat × Option FieldType} {b : Nat × Nat} {pc q : Nat} {lv : List (Option Value)} {st : List Value} {n : Nat} {I : MI} {Q : MQ2} {F : Post} {x : Int32} (hd : DR cc pc (.pop) 1 q)  (k : X r d y cc mr b q lv st n I Q F) : X r d y cc mr b pc lv (.int x :: st) n I Q F := by
  intro p e s m args below meth c H locs cells slots mc ms R ls Qf C hW hS hl h1 h2 fin
  obtain ⟨hd, rfl⟩ := hd
  exact lv_pop C.1 C.2.1 hd rfl (k _ _ _ _ _ _ _ _ _ _ _ _ _ _ _ _ _ C hW hS hl h1 h2 fin)
theorem x_dup_ref {r : Ev} {d : Nat} {y : MethodName} {cc : ByteArray} {mr : Nat × Option FieldType} {b : Nat × Nat} {pc q : Nat} {lv : List (Option Value)} {st : List Value} {n : Nat} {I : MI} {Q : MQ2} {F : Post} {x : Nat} (hd : DR cc pc (.dup) 1 q)  (k : X r d y cc mr b q lv (.ref x :: .ref x :: st) n I Q F) : X r d y cc mr b pc lv (.ref x :: st) n I Q F := by
  intro p e s m args below meth c H locs cells slots mc ms R ls Qf C hW hS hl h1 h2 fin
  obtain ⟨hd, rfl⟩ := hd
  exact lv_dup C.1 C.2.1 hd rfl (k _ _ _ _ _ _ _ _ _ _ _ _ _ _ _ _ _ C hW hS hl h1 h2 fin)
theorem x_pop_ref {r : Ev} {d : Nat} {y : MethodName} {cc : ByteArray} {mr : Nat × Option FieldType} {b : Nat × Nat} {pc q : Nat} {lv : List (Option Value)} {st : List Value} {n : Nat} {I : MI} {Q : MQ2} {F : Post} {x : Nat} (hd : DR cc pc (.pop) 1 q)  (k : X r d y cc mr b q lv st n I Q F) : X r d y cc mr b pc lv (.ref x :: st) n I Q F := by
  intro p e s m args below meth c H locs cells slots mc ms R ls Qf C hW hS hl h1 h2 fin
  obtain ⟨hd, rfl⟩ := hd
  exact lv_pop C.1 C.2.1 hd rfl (k _ _ _ _ _ _ _ _ _ _ _ _ _ _ _ _ _ C hW hS hl h1 h2 fin)
theorem x_dup2 {r : Ev} {d : Nat} {y : MethodName} {cc : ByteArray} {mr : Nat × Option FieldType} {b : Nat × Nat} {pc q : Nat} {lv : List (Option Value)} {st : List Value} {n : Nat} {I : MI} {Q : MQ2} {F : Post} {x2 : Int32} {x : Nat} (hd : DR cc pc (.dup2) 1 q)  (k : X r d y cc mr b q lv (.int x2 :: .ref x :: .int x2 :: .ref x :: st) n I Q F) : X r d y cc mr b pc lv (.int x2 :: .ref x :: st) n I Q F := by
  intro p e s m args below meth c H locs cells slots mc ms R ls Qf C hW hS hl h1 h2 fin
  obtain ⟨hd, rfl⟩ := hd
  exact lv_dup2_11 C.1 C.2.1 hd rfl rfl (k _ _ _ _ _ _ _ _ _ _ _ _ _ _ _ _ _ C hW hS hl h1 h2 fin)
theorem x_dup_x1 {r : Ev} {d : Nat} {y : MethodName} {cc : ByteArray} {mr : Nat × Option FieldType} {b : Nat × Nat} {pc q : Nat} {lv : List (Option Value)} {st : List Value} {n : Nat} {I : MI} {Q : MQ2} {F : Post} {x2 : Int32} {x : Nat} (hd : DR cc pc (.dup_x1) 1 q)  (k : X r d y cc mr b q lv (.int x2 :: .ref x :: .int x2 :: st) n I Q F) : X r d y cc mr b pc lv (.int x2 :: .ref x :: st) n I Q F := by
  intro p e s m args below meth c H locs cells slots mc ms R ls Qf C hW hS hl h1 h2 fin
  obtain ⟨hd, rfl⟩ := hd
  exact lv_dup_x1 C.1 C.2.1 hd rfl rfl (k _ _ _ _ _ _ _ _ _ _ _ _ _ _ _ _ _ C hW hS hl h1 h2 fin)
theorem x_goto {r : Ev} {d : Nat} {y : MethodName} {cc : ByteArray} {mr : Nat × Option FieldType} {b : Nat × Nat} {pc q : Nat} {lv : List (Option Value)} {st : List Value} {n : Nat} {I : MI} {Q : MQ2} {F : Post} {off : Int} {t : Nat} (hd : DB cc pc (.goto off) 3 off q t) (k : X r d y cc mr b t lv st n I Q F) : X r d y cc mr b pc lv st n I Q F := by
  intro p e s m args below meth c H locs cells slots mc ms R ls Qf C hW hS hl h1 h2 fin
  obtain ⟨hd, -, ht⟩ := hd
  exact lv_goto C.1 C.2.1 hd ht (k _ _ _ _ _ _ _ _ _ _ _ _ _ _ _ _ _ C hW hS hl h1 h2 fin)
theorem x_if_eq {r : Ev} {d : Nat} {y : MethodName} {cc : ByteArray} {mr : Nat × Option FieldType} {b : Nat × Nat} {pc q : Nat} {lv : List (Option Value)} {st : List Value} {n : Nat} {I : MI} {Q : MQ2} {F : Post} {x : Int32} {off : Int} {t : Nat} (hd : DB cc pc (.ifCond .eq off) 3 off q t) (kt : x = 0 → X r d y cc mr b t lv st n I Q F) (kf : ¬ x = 0 → X r d y cc mr b q lv st n I Q F) : X r d y cc mr b pc lv (.int x :: st) n I Q F := by
  intro p e s m args below meth c H locs cells slots mc ms R ls Qf C hW hS hl h1 h2 fin
  obtain ⟨hd, rfl, ht⟩ := hd
  exact lv_if_eq C.1 C.2.1 hd ht (fun h => kt h _ _ _ _ _ _ _ _ _ _ _ _ _ _ _ _ _ C hW hS hl h1 h2 fin) (fun h => kf h _ _ _ _ _ _ _ _ _ _ _ _ _ _ _ _ _ C hW hS hl h1 h2 fin)
theorem x_icmp_eq {r : Ev} {d : Nat} {y : MethodName} {cc : ByteArray} {mr : Nat × Option FieldType} {b : Nat × Nat} {pc q : Nat} {lv : List (Option Value)} {st : List Value} {n : Nat} {I : MI} {Q : MQ2} {F : Post} {x x2 : Int32} {off : Int} {t : Nat} (hd : DB cc pc (.if_icmp .eq off) 3 off q t) (kt : x = x2 → X r d y cc mr b t lv st n I Q F) (kf : ¬ x = x2 → X r d y cc mr b q lv st n I Q F) : X r d y cc mr b pc lv (.int x2 :: .int x :: st) n I Q F := by
  intro p e s m args below meth c H locs cells slots mc ms R ls Qf C hW hS hl h1 h2 fin
  obtain ⟨hd, rfl, ht⟩ := hd
  exact lv_icmp_eq C.1 C.2.1 hd ht (fun h => kt h _ _ _ _ _ _ _ _ _ _ _ _ _ _ _ _ _ C hW hS hl h1 h2 fin) (fun h => kf h _ _ _ _ _ _ _ _ _ _ _ _ _ _ _ _ _ C hW hS hl h1 h2 fin)
theorem x_if_ne {r : Ev} {d : Nat} {y : MethodName} {cc : ByteArray} {mr : Nat × Option FieldType} {b : Nat × Nat} {pc q : Nat} {lv : List (Option Value)} {st : List Value} {n : Nat} {I : MI} {Q : MQ2} {F : Post} {x : Int32} {off : Int} {t : Nat} (hd : DB cc pc (.ifCond .ne off) 3 off q t) (kt : ¬ x = 0 → X r d y cc mr b t lv st n I Q F) (kf : x = 0 → X r d y cc mr b q lv st n I Q F) : X r d y cc mr b pc lv (.int x :: st) n I Q F := by
  intro p e s m args below meth c H locs cells slots mc ms R ls Qf C hW hS hl h1 h2 fin
  obtain ⟨hd, rfl, ht⟩ := hd
  exact lv_if_ne C.1 C.2.1 hd ht (fun h => kt h _ _ _ _ _ _ _ _ _ _ _ _ _ _ _ _ _ C hW hS hl h1 h2 fin) (fun h => kf h _ _ _ _ _ _ _ _ _ _ _ _ _ _ _ _ _ C hW hS hl h1 h2 fin)
theorem x_icmp_ne {r : Ev} {d : Nat} {y : MethodName} {cc : ByteArray} {mr : Nat × Option FieldType} {b : Nat × Nat} {pc q : Nat} {lv : List (Option Value)} {st : List Value} {n : Nat} {I : MI} {Q : MQ2} {F : Post} {x x2 : Int32} {off : Int} {t : Nat} (hd : DB cc pc (.if_icmp .ne off) 3 off q t) (kt : ¬ x = x2 → X r d y cc mr b t lv st n I Q F) (kf : x = x2 → X r d y cc mr b q lv st n I Q F) : X r d y cc mr b pc lv (.int x2 :: .int x :: st) n I Q F := by
  intro p e s m args below meth c H locs cells slots mc ms R ls Qf C hW hS hl h1 h2 fin
  obtain ⟨hd, rfl, ht⟩ := hd
  exact lv_icmp_ne C.1 C.2.1 hd ht (fun h => kt h _ _ _ _ _ _ _ _ _ _ _ _ _ _ _ _ _ C hW hS hl h1 h2 fin) (fun h => kf h _ _ _ _ _ _ _ _ _ _ _ _ _ _ _ _ _ C hW hS hl h1 h2 fin)
theorem x_if_lt {r : Ev} {d : Nat} {y : MethodName} {cc : ByteArray} {mr : Nat × Option FieldType} {b : Nat × Nat} {pc q : Nat} {lv : List (Option Value)} {st : List Value} {n : Nat} {I : MI} {Q : MQ2} {F : Post} {x : Int32} {off : Int} {t : Nat} (hd : DB cc pc (.ifCond .lt off) 3 off q t) (kt : x < 0 → X r d y cc mr b t lv st n I Q F) (kf : ¬ x < 0 → X r d y cc mr b q lv st n I Q F) : X r d y cc mr b pc lv (.int x :: st) n I Q F := by
  intro p e s m args below meth c H locs cells slots mc ms R ls Qf C hW hS hl h1 h2 fin
  obtain ⟨hd, rfl, ht⟩ := hd
  exact lv_if_lt C.1 C.2.1 hd ht (fun h => kt h _ _ _ _ _ _ _ _ _ _ _ _ _ _ _ _ _ C hW hS hl h1 h2 fin) (fun h => kf h _ _ _ _ _ _ _ _ _ _ _ _ _ _ _ _ _ C hW hS hl h1 h2 fin)
theorem x_icmp_lt {r : Ev} {d : Nat} {y : MethodName} {cc : ByteArray} {mr : Nat × Option FieldType} {b : Nat × Nat} {pc q : Nat} {lv : List (Option Value)} {st : List Value} {n : Nat} {I : MI} {Q : MQ2} {F : Post} {x x2 : Int32} {off : Int} {t : Nat} (hd : DB cc pc (.if_icmp .lt off) 3 off q t) (kt : x < x2 → X r d y cc mr b t lv st n I Q F) (kf : ¬ x < x2 → X r d y cc mr b q lv st n I Q F) : X r d y cc mr b pc lv (.int x2 :: .int x :: st) n I Q F := by
  intro p e s m args below meth c H locs cells slots mc ms R ls Qf C hW hS hl h1 h2 fin
  obtain ⟨hd, rfl, ht⟩ := hd
  exact lv_icmp_lt C.1 C.2.1 hd ht (fun h => kt h _ _ _ _ _ _ _ _ _ _ _ _ _ _ _ _ _ C hW hS hl h1 h2 fin) (fun h => kf h _ _ _ _ _ _ _ _ _ _ _ _ _ _ _ _ _ C hW hS hl h1 h2 fin)
theorem x_if_ge {r : Ev} {d : Nat} {y : MethodName} {cc : ByteArray} {mr : Nat × Option FieldType} {b : Nat × Nat} {pc q : Nat} {lv : List (Option Value)} {st : List Value} {n : Nat} {I : MI} {Q : MQ2} {F : Post} {x : Int32} {off : Int} {t : Nat} (hd : DB cc pc (.ifCond .ge off) 3 off q t) (kt : 0 ≤ x → X r d y cc mr b t lv st n I Q F) (kf : ¬ 0 ≤ x → X r d y cc mr b q lv st n I Q F) : X r d y cc mr b pc lv (.int x :: st) n I Q F := by
  intro p e s m args below meth c H locs cells slots mc ms R ls Qf C hW hS hl h1 h2 fin
  obtain ⟨hd, rfl, ht⟩ := hd
  exact lv_if_ge C.1 C.2.1 hd ht (fun h => kt h _ _ _ _ _ _ _ _ _ _ _ _ _ _ _ _ _ C hW hS hl h1 h2 fin) (fun h => kf h _ _ _ _ _ _ _ _ _ _ _ _ _ _ _ _ _ C hW hS hl h1 h2 fin)
theorem x_icmp_ge {r : Ev} {d : Nat} {y : MethodName} {cc : ByteArray} {mr : Nat × Option FieldType} {b : Nat × Nat} {pc q : Nat} {lv : List (Option Value)} {st : List Value} {n : Nat} {I : MI} {Q : MQ2} {F : Post} {x x2 : Int32} {off : Int} {t : Nat} (hd : DB cc pc (.if_icmp .ge off) 3 off q t) (kt : x2 ≤ x → X r d y cc mr b t lv st n I Q F) (kf : ¬ x2 ≤ x → X r d y cc mr b q lv st n I Q F) : X r d y cc mr b pc lv (.int x2 :: .int x :: st) n I Q F := by
  intro p e s m args below meth c H locs cells slots mc ms R ls Qf C hW hS hl h1 h2 fin
  obtain ⟨hd, rfl, ht⟩ := hd
  exact lv_icmp_ge C.1 C.2.1 hd ht (fun h => kt h _ _ _ _ _ _ _ _ _ _ _ _ _ _ _ _ _ C hW hS hl h1 h2 fin) (fun h => kf h _ _ _ _ _ _ _ _ _ _ _ _ _ _ _ _ _ C hW hS hl h1 h2 fin)
theorem x_if_gt {r : Ev} {d : Nat} {y : MethodName} {cc : ByteArray} {mr : Nat × Option FieldType} {b : Nat × Nat} {pc q : Nat} {lv : List (Option Value)} {st : List Value} {n : Nat} {I : MI} {Q : MQ2} {F : Post} {x : Int32} {off : Int} {t : Nat} (hd : DB cc pc (.ifCond .gt off) 3 off q t) (kt : 0 < x → X r d y cc mr b t lv st n I Q F) (kf : ¬ 0 < x → X r d y cc mr b q lv st n I Q F) : X r d y cc mr b pc lv (.int x :: st) n I Q F := by
  intro p e s m args below meth c H locs cells slots mc ms R ls Qf C hW hS hl h1 h2 fin
  obtain ⟨hd, rfl, ht⟩ := hd
  exact lv_if_gt C.1 C.2.1 hd ht (fun h => kt h _ _ _ _ _ _ _ _ _ _ _ _ _ _ _ _ _ C hW hS hl h1 h2 fin) (fun h => kf h _ _ _ _ _ _ _ _ _ _ _ _ _ _ _ _ _ C hW hS hl h1 h2 fin)
theorem x_icmp_gt {r : Ev} {d : Nat} {y : MethodName} {cc : ByteArray} {mr : Nat × Option FieldType} {b : Nat × Nat} {pc q : Nat} {lv : List (Option Value)} {st : List Value} {n : Nat} {I : MI} {Q : MQ2} {F : Post} {x x2 : Int32} {off : Int} {t : Nat} (hd : DB cc pc (.if_icmp .gt off) 3 off q t) (kt : x2 < x → X r d y cc mr b t lv st n I Q F) (kf : ¬ x2 < x → X r d y cc mr b q lv st n I Q F) : X r d y cc mr b pc lv (.int x2 :: .int x :: st) n I Q F := by
  intro p e s m args below meth c H locs cells slots mc ms R ls Qf C hW hS hl h1 h2 fin
  obtain ⟨hd, rfl, ht⟩ := hd
  exact lv_icmp_gt C.1 C.2.1 hd ht (fun h => kt h _ _ _ _ _ _ _ _ _ _ _ _ _ _ _ _ _ C hW hS hl h1 h2 fin) (fun h => kf h _ _ _ _ _ _ _ _ _ _ _ _ _ _ _ _ _ C hW hS hl h1 h2 fin)
theorem x_if_le {r : Ev} {d : Nat} {y : MethodName} {cc : ByteArray} {mr : Nat × Option FieldType} {b : Nat × Nat} {pc q : Nat} {lv : List (Option Value)} {st : List Value} {n : Nat} {I : MI} {Q : MQ2} {F : Post} {x : Int32} {off : Int} {t : Nat} (hd : DB cc pc (.ifCond .le off) 3 off q t) (kt : x ≤ 0 → X r d y cc mr b t lv st n I Q F) (kf : ¬ x ≤ 0 → X r d y cc mr b q lv st n I Q F) : X r d y cc mr b pc lv (.int x :: st) n I Q F := by
  intro p e s m args below meth c H locs cells slots mc ms R ls Qf C hW hS hl h1 h2 fin
  obtain ⟨hd, rfl, ht⟩ := hd
  exact lv_if_le C.1 C.2.1 hd ht (fun h => kt h _ _ _ _ _ _ _ _ _ _ _ _ _ _ _ _ _ C hW hS hl h1 h2 fin) (fun h => kf h _ _ _ _ _ _ _ _ _ _ _ _ _ _ _ _ _ C hW hS hl h1 h2 fin)
theorem x_icmp_le {r : Ev} {d : Nat} {y : MethodName} {cc : ByteArray} {mr : Nat × Option FieldType} {b : Nat × Nat} {pc q : Nat} {lv : List (Option Value)} {st : List Value} {n : Nat} {I : MI} {Q : MQ2} {F : Post} {x x2 : Int32} {off : Int} {t : Nat} (hd : DB cc pc (.if_icmp .le off) 3 off q t) (kt : x ≤ x2 → X r d y cc mr b t lv st n I Q F) (kf : ¬ x ≤ x2 → X r d y cc mr b q lv st n I Q F) : X r d y cc mr b pc lv (.int x2 :: .int x :: st) n I Q F := by
  intro p e s m args below meth c H locs cells slots mc ms R ls Qf C hW hS hl h1 h2 fin
  obtain ⟨hd, rfl, ht⟩ := hd
  exact lv_icmp_le C.1 C.2.1 hd ht (fun h => kt h _ _ _ _ _ _ _ _ _ _ _ _ _ _ _ _ _ C hW hS hl h1 h2 fin) (fun h => kf h _ _ _ _ _ _ _ _ _ _ _ _ _ _ _ _ _ C hW hS hl h1 h2 fin)
theorem x_iload_0 {r : Ev} {d : Nat} {y : MethodName} {cc : ByteArray} {mr : Nat × Option FieldType} {b : Nat × Nat} {pc q : Nat} {st : List Value} {n : Nat} {I : MI} {Q : MQ2} {F : Post} {t : List (Option Value)} {x : Int32} (hd : DR cc pc (.iload_n 0) 1 q) (k : X r d y cc mr b q (some (.int x) :: t) (.int x :: st) n I Q F) : X r d y cc mr b pc (some (.int x) :: t) st n I Q F := by
  intro p e s m args below meth c H locs cells slots mc ms R ls Qf C hW hS hl h1 h2 fin
  obtain ⟨hd, rfl⟩ := hd
  exact lv_iload_n C.1 C.2.1 hd rfl (hl.2.2 0 _ rfl) (k _ _ _ _ _ _ _ _ _ _ _ _ _ _ _ _ _ C hW hS hl h1 h2 fin)
theorem x_aload_0 {r : Ev} {d : Nat} {y : MethodName} {cc : ByteArray} {mr : Nat × Option FieldType} {b : Nat × Nat} {pc q : Nat} {st : List Value} {n : Nat} {I : MI} {Q : MQ2} {F : Post} {t : List (Option Value)} {x : Nat} (hd : DR cc pc (.aload_n 0) 1 q) (k : X r d y cc mr b q (some (.ref x) :: t) (.ref x :: st) n I Q F) : X r d y cc mr b pc (some (.ref x) :: t) st n I Q F := by
  intro p e s m args below meth c H locs cells slots mc ms R ls Qf C hW hS hl h1 h2 fin
  obtain ⟨hd, rfl⟩ := hd
  exact lv_aload_n C.1 C.2.1 hd rfl (hl.2.2 0 _ rfl) (k _ _ _ _ _ _ _ _ _ _ _ _ _ _ _ _ _ C hW hS hl h1 h2 fin)
theorem x_lload_0 {r : Ev} {d : Nat} {y : MethodName} {cc : ByteArray} {mr : Nat × Option FieldType} {b : Nat × Nat} {pc q : Nat} {st : List Value} {n : Nat} {I : MI} {Q : MQ2} {F : Post} {t : List (Option Value)} {x : Int64} (hd : DR cc pc (.lload_n 0) 1 q) (k : X r d y cc mr b q (some (.long x) :: t) (.long x :: st) n I Q F) : X r d y cc mr b pc (some (.long x) :: t) st n I Q F := by
  intro p e s m args below meth c H locs cells slots mc ms R ls Qf C hW hS hl h1 h2 fin
  obtain ⟨hd, rfl⟩ := hd
  exact lv_lload_n C.1 C.2.1 hd rfl (hl.2.2 0 _ rfl) (k _ _ _ _ _ _ _ _ _ _ _ _ _ _ _ _ _ C hW hS hl h1 h2 fin)
theorem x_iload_1 {r : Ev} {d : Nat} {y : MethodName} {cc : ByteArray} {mr : Nat × Option FieldType} {b : Nat × Nat} {pc q : Nat} {st : List Value} {n : Nat} {I : MI} {Q : MQ2} {F : Post} {a0 : Option Value} {t : List (Option Value)} {x : Int32} (hd : DR cc pc (.iload_n 1) 1 q) (k : X r d y cc mr b q (a0 :: some (.int x) :: t) (.int x :: st) n I Q F) : X r d y cc mr b pc (a0 :: some (.int x) :: t) st n I Q F := by
  intro p e s m args below meth c H locs cells slots mc ms R ls Qf C hW hS hl h1 h2 fin
  obtain ⟨hd, rfl⟩ := hd
  exact lv_iload_n C.1 C.2.1 hd rfl (hl.2.2 1 _ rfl) (k _ _ _ _ _ _ _ _ _ _ _ _ _ _ _ _ _ C hW hS hl h1 h2 fin)
theorem x_aload_1 {r : Ev} {d : Nat} {y : MethodName} {cc : ByteArray} {mr : Nat × Option FieldType} {b : Nat × Nat} {pc q : Nat} {st : List Value} {n : Nat} {I : MI} {Q : MQ2} {F : Post} {a0 : Option Value} {t : List (Option Value)} {x : Nat} (hd : DR cc pc (.aload_n 1) 1 q) (k : X r d y cc mr b q (a0 :: some (.ref x) :: t) (.ref x :: st) n I Q F) : X r d y cc mr b pc (a0 :: some (.ref x) :: t) st n I Q F := by
  intro p e s m args below meth c H locs cells slots mc ms R ls Qf C hW hS hl h1 h2 fin
  obtain ⟨hd, rfl⟩ := hd
  exact lv_aload_n C.1 C.2.1 hd rfl (hl.2.2 1 _ rfl) (k _ _ _ _ _ _ _ _ _ _ _ _ _ _ _ _ _ C hW hS hl h1 h2 fin)
theorem x_lload_1 {r : Ev} {d : Nat} {y : MethodName} {cc : ByteArray} {mr : Nat × Option FieldType} {b : Nat × Nat} {pc q : Nat} {st : List Value} {n : Nat} {I : MI} {Q : MQ2} {F : Post} {a0 : Option Value} {t : List (Option Value)} {x : Int64} (hd : DR cc pc (.lload_n 1) 1 q) (k : X r d y cc mr b q (a0 :: some (.long x) :: t) (.long x :: st) n I Q F) : X r d y cc mr b pc (a0 :: some (.long x) :: t) st n I Q F := by
  intro p e s m args below meth c H locs cells slots mc ms R ls Qf C hW hS hl h1 h2 fin
  obtain ⟨hd, rfl⟩ := hd
  exact lv_lload_n C.1 C.2.1 hd rfl (hl.2.2 1 _ rfl) (k _ _ _ _ _ _ _ _ _ _ _ _ _ _ _ _ _ C hW hS hl h1 h2 fin)
theorem x_iload_2 {r : Ev} {d : Nat} {y : MethodName} {cc : ByteArray} {mr : Nat × Option FieldType} {b : Nat × Nat} {pc q : Nat} {st : List Value} {n : Nat} {I : MI} {Q : MQ2} {F : Post} {a0 a1 : Option Value} {t : List (Option Value)} {x : Int32} (hd : DR cc pc (.iload_n 2) 1 q) (k : X r d y cc mr b q (a0 :: a1 :: some (.int x) :: t) (.int x :: st) n I Q F) : X r d y cc mr b pc (a0 :: a1 :: some (.int x) :: t) st n I Q F := by
  intro p e s m args below meth c H locs cells slots mc ms R ls Qf C hW hS hl h1 h2 fin
  obtain ⟨hd, rfl⟩ := hd
  exact lv_iload_n C.1 C.2.1 hd rfl (hl.2.2 2 _ rfl) (k _ _ _ _ _ _ _ _ _ _ _ _ _ _ _ _ _ C hW hS hl h1 h2 fin)
theorem x_aload_2 {r : Ev} {d : Nat} {y : MethodName} {cc : ByteArray} {mr : Nat × Option FieldType} {b : Nat × Nat} {pc q : Nat} {st : List Value} {n : Nat} {I : MI} {Q : MQ2} {F : Post} {a0 a1 : Option Value} {t : List (Option Value)} {x : Nat} (hd : DR cc pc (.aload_n 2) 1 q) (k : X r d y cc mr b q (a0 :: a1 :: some (.ref x) :: t) (.ref x :: st) n I Q F) : X r d y cc mr b pc (a0 :: a1 :: some (.ref x) :: t) st n I Q F := by
  intro p e s m args below meth c H locs cells slots mc ms R ls Qf C hW hS hl h1 h2 fin
  obtain ⟨hd, rfl⟩ := hd
  exact lv_aload_n C.1 C.2.1 hd rfl (hl.2.2 2 _ rfl) (k _ _ _ _ _ _ _ _ _ _ _ _ _ _ _ _ _ C hW hS hl h1 h2 fin)
theorem x_lload_2 {r : Ev} {d : Nat} {y : MethodName} {cc : ByteArray} {mr : Nat × Option FieldType} {b : Nat × Nat} {pc q : Nat} {st : List Value} {n : Nat} {I : MI} {Q : MQ2} {F : Post} {a0 a1 : Option Value} {t : List (Option Value)} {x : Int64} (hd : DR cc pc (.lload_n 2) 1 q) (k : X r d y cc mr b q (a0 :: a1 :: some (.long x) :: t) (.long x :: st) n I Q F) : X r d y cc mr b pc (a0 :: a1 :: some (.long x) :: t) st n I Q F := by
  intro p e s m args below meth c H locs cells slots mc ms R ls Qf C hW hS hl h1 h2 fin
  obtain ⟨hd, rfl⟩ := hd
  exact lv_lload_n C.1 C.2.1 hd rfl (hl.2.2 2 _ rfl) (k _ _ _ _ _ _ _ _ _ _ _ _ _ _ _ _ _ C hW hS hl h1 h2 fin)
theorem x_iload_3 {r : Ev} {d : Nat} {y : MethodName} {cc : ByteArray} {mr : Nat × Option FieldType} {b : Nat × Nat} {pc q : Nat} {st : List Value} {n : Nat} {I : MI} {Q : MQ2} {F : Post} {a0 a1 a2 : Option Value} {t : List (Option Value)} {x : Int32} (hd : DR cc pc (.iload_n 3) 1 q) (k : X r d y cc mr b q (a0 :: a1 :: a2 :: some (.int x) :: t) (.int x :: st) n I Q F) : X r d y cc mr b pc (a0 :: a1 :: a2 :: some (.int x) :: t) st n I Q F := by
  intro p e s m args below meth c H locs cells slots mc ms R ls Qf C hW hS hl h1 h2 fin
  obtain ⟨hd, rfl⟩ := hd
  exact lv_iload_n C.1 C.2.1 hd rfl (hl.2.2 3 _ rfl) (k _ _ _ _ _ _ _ _ _ _ _ _ _ _ _ _ _ C hW hS hl h1 h2 fin)
theorem x_aload_3 {r : Ev} {d : Nat} {y : MethodName} {cc : ByteArray} {mr : Nat × Option FieldType} {b : Nat × Nat} {pc q : Nat} {st : List Value} {n : Nat} {I : MI} {Q : MQ2} {F : Post} {a0 a1 a2 : Option Value} {t : List (Option Value)} {x : Nat} (hd : DR cc pc (.aload_n 3) 1 q) (k : X r d y cc mr b q (a0 :: a1 :: a2 :: some (.ref x) :: t) (.ref x :: st) n I Q F) : X r d y cc mr b pc (a0 :: a1 :: a2 :: some (.ref x) :: t) st n I Q F := by
  intro p e s m args below meth c H locs cells slots mc ms R ls Qf C hW hS hl h1 h2 fin
  obtain ⟨hd, rfl⟩ := hd
  exact lv_aload_n C.1 C.2.1 hd rfl (hl.2.2 3 _ rfl) (k _ _ _ _ _ _ _ _ _ _ _ _ _ _ _ _ _ C hW hS hl h1 h2 fin)
theorem x_lload_3 {r : Ev} {d : Nat} {y : MethodName} {cc : ByteArray} {mr : Nat × Option FieldType} {b : Nat × Nat} {pc q : Nat} {st : List Value} {n : Nat} {I : MI} {Q : MQ2} {F : Post} {a0 a1 a2 : Option Value} {t : List (Option Value)} {x : Int64} (hd : DR cc pc (.lload_n 3) 1 q) (k : X r d y cc mr b q (a0 :: a1 :: a2 :: some (.long x) :: t) (.long x :: st) n I Q F) : X r d y cc mr b pc (a0 :: a1 :: a2 :: some (.long x) :: t) st n I Q F := by
  intro p e s m args below meth c H locs cells slots mc ms R ls Qf C hW hS hl h1 h2 fin
  obtain ⟨hd, rfl⟩ := hd
  exact lv_lload_n C.1 C.2.1 hd rfl (hl.2.2 3 _ rfl) (k _ _ _ _ _ _ _ _ _ _ _ _ _ _ _ _ _ C hW hS hl h1 h2 fin)
theorem x_iload_4 {r : Ev} {d : Nat} {y : MethodName} {cc : ByteArray} {mr : Nat × Option FieldType} {b : Nat × Nat} {pc q : Nat} {st : List Value} {n : Nat} {I : MI} {Q : MQ2} {F : Post} {a0 a1 a2 a3 : Option Value} {t : List (Option Value)} {x : Int32} (hd : DR cc pc (.iload 4) 2 q) (k : X r d y cc mr b q (a0 :: a1 :: a2 :: a3 :: some (.int x) :: t) (.int x :: st) n I Q F) : X r d y cc mr b pc (a0 :: a1 :: a2 :: a3 :: some (.int x) :: t) st n I Q F := by
  intro p e s m args below meth c H locs cells slots mc ms R ls Qf C hW hS hl h1 h2 fin
  obtain ⟨hd, rfl⟩ := hd
  exact lv_iload C.1 C.2.1 hd (hl.2.2 4 _ rfl) (k _ _ _ _ _ _ _ _ _ _ _ _ _ _ _ _ _ C hW hS hl h1 h2 fin)
theorem x_aload_4 {r : Ev} {d : Nat} {y : MethodName} {cc : ByteArray} {mr : Nat × Option FieldType} {b : Nat × Nat} {pc q : Nat} {st : List Value} {n : Nat} {I : MI} {Q : MQ2} {F : Post} {a0 a1 a2 a3 : Option Value} {t : List (Option Value)} {x : Nat} (hd : DR cc pc (.aload 4) 2 q) (k : X r d y cc mr b q (a0 :: a1 :: a2 :: a3 :: some (.ref x) :: t) (.ref x :: st) n I Q F) : X r d y cc mr b pc (a0 :: a1 :: a2 :: a3 :: some (.ref x) :: t) st n I Q F := by
  intro p e s m args below meth c H locs cells slots mc ms R ls Qf C hW hS hl h1 h2 fin
  obtain ⟨hd, rfl⟩ := hd
  exact lv_aload C.1 C.2.1 hd (hl.2.2 4 _ rfl) (k _ _ _ _ _ _ _ _ _ _ _ _ _ _ _ _ _ C hW hS hl h1 h2 fin)
theorem x_lload_4 {r : Ev} {d : Nat} {y : MethodName} {cc : ByteArray} {mr : Nat × Option FieldType} {b : Nat × Nat} {pc q : Nat} {st : List Value} {n : Nat} {I : MI} {Q : MQ2} {F : Post} {a0 a1 a2 a3 : Option Value} {t : List (Option Value)} {x : Int64} (hd : DR cc pc (.lload 4) 2 q) (k : X r d y cc mr b q (a0 :: a1 :: a2 :: a3 :: some (.long x) :: t) (.long x :: st) n I Q F) : X r d y cc mr b pc (a0 :: a1 :: a2 :: a3 :: some (.long x) :: t) st n I Q F := by
  intro p e s m args below meth c H locs cells slots mc ms R ls Qf C hW hS hl h1 h2 fin
  obtain ⟨hd, rfl⟩ := hd
  exact lv_lload C.1 C.2.1 hd (hl.2.2 4 _ rfl) (k _ _ _ _ _ _ _ _ _ _ _ _ _ _ _ _ _ C hW hS hl h1 h2 fin)
theorem x_iload_5 {r : Ev} {d : Nat} {y : MethodName} {cc : ByteArray} {mr : Nat × Option FieldType} {b : Nat × Nat} {pc q : Nat} {st : List Value} {n : Nat} {I : MI} {Q : MQ2} {F : Post} {a0 a1 a2 a3 a4 : Option Value} {t : List (Option Value)} {x : Int32} (hd : DR cc pc (.iload 5) 2 q) (k : X r d y cc mr b q (a0 :: a1 :: a2 :: a3 :: a4 :: some (.int x) :: t) (.int x :: st) n I Q F) : X r d y cc mr b pc (a0 :: a1 :: a2 :: a3 :: a4 :: some (.int x) :: t) st n I Q F := by
  intro p e s m args below meth c H locs cells slots mc ms R ls Qf C hW hS hl h1 h2 fin
  obtain ⟨hd, rfl⟩ := hd
  exact lv_iload C.1 C.2.1 hd (hl.2.2 5 _ rfl) (k _ _ _ _ _ _ _ _ _ _ _ _ _ _ _ _ _ C hW hS hl h1 h2 fin)
theorem x_aload_5 {r : Ev} {d : Nat} {y : MethodName} {cc : ByteArray} {mr : Nat × Option FieldType} {b : Nat × Nat} {pc q : Nat} {st : List Value} {n : Nat} {I : MI} {Q : MQ2} {F : Post} {a0 a1 a2 a3 a4 : Option Value} {t : List (Option Value)} {x : Nat} (hd : DR cc pc (.aload 5) 2 q) (k : X r d y cc mr b q (a0 :: a1 :: a2 :: a3 :: a4 :: some (.ref x) :: t) (.ref x :: st) n I Q F) : X r d y cc mr b pc (a0 :: a1 :: a2 :: a3 :: a4 :: some (.ref x) :: t) st n I Q F := by
  intro p e s m args below meth c H locs cells slots mc ms R ls Qf C hW hS hl h1 h2 fin
  obtain ⟨hd, rfl⟩ := hd
  exact lv_aload C.1 C.2.1 hd (hl.2.2 5 _ rfl) (k _ _ _ _ _ _ _ _ _ _ _ _ _ _ _ _ _ C hW hS hl h1 h2 fin)
theorem x_lload_5 {r : Ev} {d : Nat} {y : MethodName} {cc : ByteArray} {mr : Nat × Option FieldType} {b : Nat × Nat} {pc q : Nat} {st : List Value} {n : Nat} {I : MI} {Q : MQ2} {F : Post} {a0 a1 a2 a3 a4 : Option Value} {t : List (Option Value)} {x : Int64} (hd : DR cc pc (.lload 5) 2 q) (k : X r d y cc mr b q (a0 :: a1 :: a2 :: a3 :: a4 :: some (.long x) :: t) (.long x :: st) n I Q F) : X r d y cc mr b pc (a0 :: a1 :: a2 :: a3 :: a4 :: some (.long x) :: t) st n I Q F := by
  intro p e s m args below meth c H locs cells slots mc ms R ls Qf C hW hS hl h1 h2 fin
  obtain ⟨hd, rfl⟩ := hd
  exact lv_lload C.1 C.2.1 hd (hl.2.2 5 _ rfl) (k _ _ _ _ _ _ _ _ _ _ _ _ _ _ _ _ _ C hW hS hl h1 h2 fin)
theorem x_iload_6 {r : Ev} {d : Nat} {y : MethodName} {cc : ByteArray} {mr : Nat × Option FieldType} {b : Nat × Nat} {pc q : Nat} {st : List Value} {n : Nat} {I : MI} {Q : MQ2} {F : Post} {a0 a1 a2 a3 a4 a5 : Option Value} {t : List (Option Value)} {x : Int32} (hd : DR cc pc (.iload 6) 2 q) (k : X r d y cc mr b q (a0 :: a1 :: a2 :: a3 :: a4 :: a5 :: some (.int x) :: t) (.int x :: st) n I Q F) : X r d y cc mr b pc (a0 :: a1 :: a2 :: a3 :: a4 :: a5 :: some (.int x) :: t) st n I Q F := by
  intro p e s m args below meth c H locs cells slots mc ms R ls Qf C hW hS hl h1 h2 fin
  obtain ⟨hd, rfl⟩ := hd
  exact lv_iload C.1 C.2.1 hd (hl.2.2 6 _ rfl) (k _ _ _ _ _ _ _ _ _ _ _ _ _ _ _ _ _ C hW hS hl h1 h2 fin)
theorem x_aload_6 {r : Ev} {d : Nat} {y : MethodName} {cc : ByteArray} {mr : Nat × Option FieldType} {b : Nat × Nat} {pc q : Nat} {st : List Value} {n : Nat} {I : MI} {Q : MQ2} {F : Post} {a0 a1 a2 a3 a4 a5 : Option Value} {t : List (Option Value)} {x : Nat} (hd : DR cc pc (.aload 6) 2 q) (k : X r d y cc mr b q (a0 :: a1 :: a2 :: a3 :: a4 :: a5 :: some (.ref x) :: t) (.ref x :: st) n I Q F) : X r d y cc mr b pc (a0 :: a1 :: a2 :: a3 :: a4 :: a5 :: some (.ref x) :: t) st n I Q F := by
  intro p e s m args below meth c H locs cells slots mc ms R ls Qf C hW hS hl h1 h2 fin
  obtain ⟨hd, rfl⟩ := hd
  exact lv_aload C.1 C.2.1 hd (hl.2.2 6 _ rfl) (k _ _ _ _ _ _ _ _ _ _ _ _ _ _ _ _ _ C hW hS hl h1 h2 fin)
theorem x_lload_6 {r : Ev} {d : Nat} {y : MethodName} {cc : ByteArray} {mr : Nat × Option FieldType} {b : Nat × Nat} {pc q : Nat} {st : List Value} {n : Nat} {I : MI} {Q : MQ2} {F : Post} {a0 a1 a2 a3 a4 a5 : Option Value} {t : List (Option Value)} {x : Int64} (hd : DR cc pc (.lload 6) 2 q) (k : X r d y cc mr b q (a0 :: a1 :: a2 :: a3 :: a4 :: a5 :: some (.long x) :: t) (.long x :: st) n I Q F) : X r d y cc mr b pc (a0 :: a1 :: a2 :: a3 :: a4 :: a5 :: some (.long x) :: t) st n I Q F := by
  intro p e s m args below meth c H locs cells slots mc ms R ls Qf C hW hS hl h1 h2 fin
  obtain ⟨hd, rfl⟩ := hd
  exact lv_lload C.1 C.2.1 hd (hl.2.2 6 _ rfl) (k _ _ _ _ _ _ _ _ _ _ _ _ _ _ _ _ _ C hW hS hl h1 h2 fin)
theorem x_iload_7 {r : Ev} {d : Nat} {y : MethodName} {cc : ByteArray} {mr : Nat × Option FieldType} {b : Nat × Nat} {pc q : Nat} {st : List Value} {n : Nat} {I : MI} {Q : MQ2} {F : Post} {a0 a1 a2 a3 a4 a5 a6 : Option Value} {t : List (Option Value)} {x : Int32} (hd : DR cc pc (.iload 7) 2 q) (k : X r d y cc mr b q (a0 :: a1 :: a2 :: a3 :: a4 :: a5 :: a6 :: some (.int x) :: t) (.int x :: st) n I Q F) : X r d y cc mr b pc (a0 :: a1 :: a2 :: a3 :: a4 :: a5 :: a6 :: some (.int x) :: t) st n I Q F := by
  intro p e s m args below meth c H locs cells slots mc ms R ls Qf C hW hS hl h1 h2 fin
  obtain ⟨hd, rfl⟩ := hd
  exact lv_iload C.1 C.2.1 hd (hl.2.2 7 _ rfl) (k _ _ _ _ _ _ _ _ _ _ _ _ _ _ _ _ _ C hW hS hl h1 h2 fin)
theorem x_aload_7 {r : Ev} {d : Nat} {y : MethodName} {cc : ByteArray} {mr : Nat × Option FieldType} {b : Nat × Nat} {pc q : Nat} {st : List Value} {n : Nat} {I : MI} {Q : MQ2} {F : Post} {a0 a1 a2 a3 a4 a5 a6 : Option Value} {t : List (Option Value)} {x : Nat} (hd : DR cc pc (.aload 7) 2 q) (k : X r d y cc mr b q (a0 :: a1 :: a2 :: a3 :: a4 :: a5 :: a6 :: some (.ref x) :: t) (.ref x :: st) n I Q F) : X r d y cc mr b pc (a0 :: a1 :: a2 :: a3 :: a4 :: a5 :: a6 :: some (.ref x) :: t) st n I Q F := by
  intro p e s m args below meth c H locs cells slots mc ms R ls Qf C hW hS hl h1 h2 fin
  obtain ⟨hd, rfl⟩ := hd
  exact lv_aload C.1 C.2.1 hd (hl.2.2 7 _ rfl) (k _ _ _ _ _ _ _ _ _ _ _ _ _ _ _ _ _ C hW hS hl h1 h2 fin)
theorem x_lload_7 {r : Ev} {d : Nat} {y : MethodName} {cc : ByteArray} {mr : Nat × Option FieldType} {b : Nat × Nat} {pc q : Nat} {st : List Value} {n : Nat} {I : MI} {Q : MQ2} {F : Post} {a0 a1 a2 a3 a4 a5 a6 : Option Value} {t : List (Option Value)} {x : Int64} (hd : DR cc pc (.lload 7) 2 q) (k : X r d y cc mr b q (a0 :: a1 :: a2 :: a3 :: a4 :: a5 :: a6 :: some (.long x) :: t) (.long x :: st) n I Q F) : X r d y cc mr b pc (a0 :: a1 :: a2 :: a3 :: a4 :: a5 :: a6 :: some (.long x) :: t) st n I Q F := by
  intro p e s m args below meth c H locs cells slots mc ms R ls Qf C hW hS hl h1 h2 fin
  obtain ⟨hd, rfl⟩ := hd
  exact lv_lload C.1 C.2.1 hd (hl.2.2 7 _ rfl) (k _ _ _ _ _ _ _ _ _ _ _ _ _ _ _ _ _ C hW hS hl h1 h2 fin)
theorem x_iload_8 {r : Ev} {d : Nat} {y : MethodName} {cc : ByteArray} {mr : Nat × Option FieldType} {b : Nat × Nat} {pc q : Nat} {st : List Value} {n : Nat} {I : MI} {Q : MQ2} {F : Post} {a0 a1 a2 a3 a4 a5 a6 a7 : Option Value} {t : List (Option Value)} {x : Int32} (hd : DR cc pc (.iload 8) 2 q) (k : X r d y cc mr b q (a0 :: a1 :: a2 :: a3 :: a4 :: a5 :: a6 :: a7 :: some (.int x) :: t) (.int x :: st) n I Q F) : X r d y cc mr b pc (a0 :: a1 :: a2 :: a3 :: a4 :: a5 :: a6 :: a7 :: some (.int x) :: t) st n I Q F := by
  intro p e s m args below meth c H locs cells slots mc ms R ls Qf C hW hS hl h1 h2 fin
  obtain ⟨hd, rfl⟩ := hd
  exact lv_iload C.1 C.2.1 hd (hl.2.2 8 _ rfl) (k _ _ _ _ _ _ _ _ _ _ _ _ _ _ _ _ _ C hW hS hl h1 h2 fin)
theorem x_aload_8 {r : Ev} {d : Nat} {y : MethodName} {cc : ByteArray} {mr : Nat × Option FieldType} {b : Nat × Nat} {pc q : Nat} {st : List Value} {n : Nat} {I : MI} {Q : MQ2} {F : Post} {a0 a1 a2 a3 a4 a5 a6 a7 : Option Value} {t : List (Option Value)} {x : Nat} (hd : DR cc pc (.aload 8) 2 q) (k : X r d y cc mr b q (a0 :: a1 :: a2 :: a3 :: a4 :: a5 :: a6 :: a7 :: some (.ref x) :: t) (.ref x :: st) n I Q F) : X r d y cc mr b pc (a0 :: a1 :: a2 :: a3 :: a4 :: a5 :: a6 :: a7 :: some (.ref x) :: t) st n I Q F := by
  intro p e s m args below meth c H locs cells slots mc ms R ls Qf C hW hS hl h1 h2 fin
  obtain ⟨hd, rfl⟩ := hd
  exact lv_aload C.1 C.2.1 hd (hl.2.2 8 _ rfl) (k _ _ _ _ _ _ _ _ _ _ _ _ _ _ _ _ _ C hW hS hl h1 h2 fin)
theorem x_lload_8 {r : Ev} {d : Nat} {y : MethodName} {cc : ByteArray} {mr : Nat × Option FieldType} {b : Nat × Nat} {pc q : Nat} {st : List Value} {n : Nat} {I : MI} {Q : MQ2} {F : Post} {a0 a1 a2 a3 a4 a5 a6 a7 : Option Value} {t : List (Option Value)} {x : Int64} (hd : DR cc pc (.lload 8) 2 q) (k : X r d y cc mr b q (a0 :: a1 :: a2 :: a3 :: a4 :: a5 :: a6 :: a7 :: some (.long x) :: t) (.long x :: st) n I Q F) : X r d y cc mr b pc (a0 :: a1 :: a2 :: a3 :: a4 :: a5 :: a6 :: a7 :: some (.long x) :: t) st n I Q F := by
  intro p e s m args below meth c H locs cells slots mc ms R ls Qf C hW hS hl h1 h2 fin
  obtain ⟨hd, rfl⟩ := hd
  exact lv_lload C.1 C.2.1 hd (hl.2.2 8 _ rfl) (k _ _ _ _ _ _ _ _ _ _ _ _ _ _ _ _ _ C hW hS hl h1 h2 fin)
theorem x_iload_9 {r : Ev} {d : Nat} {y : MethodName} {cc : ByteArray} {mr : Nat × Option FieldType} {b : Nat × Nat} {pc q : Nat} {st : List Value} {n : Nat} {I : MI} {Q : MQ2} {F : Post} {a0 a1 a2 a3 a4 a5 a6 a7 a8 : Option Value} {t : List (Option Value)} {x : Int32} (hd : DR cc pc (.iload 9) 2 q) (k : X r d y cc mr b q (a0 :: a1 :: a2 :: a3 :: a4 :: a5 :: a6 :: a7 :: a8 :: some (.int x) :: t) (.int x :: st) n I Q F) : X r d y cc mr b pc (a0 :: a1 :: a2 :: a3 :: a4 :: a5 :: a6 :: a7 :: a8 :: some (.int x) :: t) st n I Q F := by
  intro p e s m args below meth c H locs cells slots mc ms R ls Qf C hW hS hl h1 h2 fin
  obtain ⟨hd, rfl⟩ := hd
  exact lv_iload C.1 C.2.1 hd (hl.2.2 9 _ rfl) (k _ _ _ _ _ _ _ _ _ _ _ _ _ _ _ _ _ C hW hS hl h1 h2 fin)
theorem x_aload_9 {r : Ev} {d : Nat} {y : MethodName} {cc : ByteArray} {mr : Nat × Option FieldType} {b : Nat × Nat} {pc q : Nat} {st : List Value} {n : Nat} {I : MI} {Q : MQ2} {F : Post} {a0 a1 a2 a3 a4 a5 a6 a7 a8 : Option Value} {t : List (Option Value)} {x : Nat} (hd : DR cc pc (.aload 9) 2 q) (k : X r d y cc mr b q (a0 :: a1 :: a2 :: a3 :: a4 :: a5 :: a6 :: a7 :: a8 :: some (.ref x) :: t) (.ref x :: st) n I Q F) : X r d y cc mr b pc (a0 :: a1 :: a2 :: a3 :: a4 :: a5 :: a6 :: a7 :: a8 :: some (.ref x) :: t) st n I Q F := by
  intro p e s m args below meth c H locs cells slots mc ms R ls Qf C hW hS hl h1 h2 fin
  obtain ⟨hd, rfl⟩ := hd
  exact lv_aload C.1 C.2.1 hd (hl.2.2 9 _ rfl) (k _ _ _ _ _ _ _ _ _ _ _ _ _ _ _ _ _ C hW hS hl h1 h2 fin)
theorem x_lload_9 {r : Ev} {d : Nat} {y : MethodName} {cc : ByteArray} {mr : Nat × Option FieldType} {b : Nat × Nat} {pc q : Nat} {st : List Value} {n : Nat} {I : MI} {Q : MQ2} {F : Post} {a0 a1 a2 a3 a4 a5 a6 a7 a8 : Option Value} {t : List (Option Value)} {x : Int64} (hd : DR cc pc (.lload 9) 2 q) (k : X r d y cc mr b q (a0 :: a1 :: a2 :: a3 :: a4 :: a5 :: a6 :: a7 :: a8 :: some (.long x) :: t) (.long x :: st) n I Q F) : X r d y cc mr b pc (a0 :: a1 :: a2 :: a3 :: a4 :: a5 :: a6 :: a7 :: a8 :: some (.long x) :: t) st n I Q F := by
  intro p e s m args below meth c H locs cells slots mc ms R ls Qf C hW hS hl h1 h2 fin
  obtain ⟨hd, rfl⟩ := hd
  exact lv_lload C.1 C.2.1 hd (hl.2.2 9 _ rfl) (k _ _ _ _ _ _ _ _ _ _ _ _ _ _ _ _ _ C hW hS hl h1 h2 fin)
theorem x_iload_10 {r : Ev} {d : Nat} {y : MethodName} {cc : ByteArray} {mr : Nat × Option FieldType} {b : Nat × Nat} {pc q : Nat} {st : List Value} {n : Nat} {I : MI} {Q : MQ2} {F : Post} {a0 a1 a2 a3 a4 a5 a6 a7 a8 a9 : Option Value} {t : List (Option Value)} {x : Int32} (hd : DR cc pc (.iload 10) 2 q) (k : X r d y cc mr b q (a0 :: a1 :: a2 :: a3 :: a4 :: a5 :: a6 :: a7 :: a8 :: a9 :: some (.int x) :: t) (.int x :: st) n I Q F) : X r d y cc mr b pc (a0 :: a1 :: a2 :: a3 :: a4 :: a5 :: a6 :: a7 :: a8 :: a9 :: some (.int x) :: t) st n I Q F := by
  intro p e s m args below meth c H locs cells slots mc ms R ls Qf C hW hS hl h1 h2 fin
  obtain ⟨hd, rfl⟩ := hd
  exact lv_iload C.1 C.2.1 hd (hl.2.2 10 _ rfl) (k _ _ _ _ _ _ _ _ _ _ _ _ _ _ _ _ _ C hW hS hl h1 h2 fin)
theorem x_aload_10 {r : Ev} {d : Nat} {y : MethodName} {cc : ByteArray} {mr : Nat × Option FieldType} {b : Nat × Nat} {pc q : Nat} {st : List Value} {n : Nat} {I : MI} {Q : MQ2} {F : Post} {a0 a1 a2 a3 a4 a5 a6 a7 a8 a9 : Option Value} {t : List (Option Value)} {x : Nat} (hd : DR cc pc (.aload 10) 2 q) (k : X r d y cc mr b q (a0 :: a1 :: a2 :: a3 :: a4 :: a5 :: a6 :: a7 :: a8 :: a9 :: some (.ref x) :: t) (.ref x :: st) n I Q F) : X r d y cc mr b pc (a0 :: a1 :: a2 :: a3 :: a4 :: a5 :: a6 :: a7 :: a8 :: a9 :: some (.ref x) :: t) st n I Q F := by
  intro p e s m args below meth c H locs cells slots mc ms R ls Qf C hW hS hl h1 h2 fin
  obtain ⟨hd, rfl⟩ := hd
  exact lv_aload C.1 C.2.1 hd (hl.2.2 10 _ rfl) (k _ _ _ _ _ _ _ _ _ _ _ _ _ _ _ _ _ C hW hS hl h1 h2 fin)
theorem x_lload_10 {r : Ev} {d : Nat} {y : MethodName} {cc : ByteArray} {mr : Nat × Option FieldType} {b : Nat × Nat} {pc q : Nat} {st : List Value} {n : Nat} {I : MI} {Q : MQ2} {F : Post} {a0 a1 a2 a3 a4 a5 a6 a7 a8 a9 : Option Value} {t : List (Option Value)} {x : Int64} (hd : DR cc pc (.lload 10) 2 q) (k : X r d y cc mr b q (a0 :: a1 :: a2 :: a3 :: a4 :: a5 :: a6 :: a7 :: a8 :: a9 :: some (.long x) :: t) (.long x :: st) n I Q F) : X r d y cc mr b pc (a0 :: a1 :: a2 :: a3 :: a4 :: a5 :: a6 :: a7 :: a8 :: a9 :: some (.long x) :: t) st n I Q F := by
  intro p e s m args below meth c H locs cells slots mc ms R ls Qf C hW hS hl h1 h2 fin
  obtain ⟨hd, rfl⟩ := hd
  exact lv_lload C.1 C.2.1 hd (hl.2.2 10 _ rfl) (k _ _ _ _ _ _ _ _ _ _ _ _ _ _ _ _ _ C hW hS hl h1 h2 fin)
theorem x_iload_11 {r : Ev} {d : Nat} {y : MethodName} {cc : ByteArray} {mr : Nat × Option FieldType} {b : Nat × Nat} {pc q : Nat} {st : List Value} {n : Nat} {I : MI} {Q : MQ2} {F : Post} {a0 a1 a2 a3 a4 a5 a6 a7 a8 a9 a10 : Option Value} {t : List (Option Value)} {x : Int32} (hd : DR cc pc (.iload 11) 2 q) (k : X r d y cc mr b q (a0 :: a1 :: a2 :: a3 :: a4 :: a5 :: a6 :: a7 :: a8 :: a9 :: a10 :: some (.int x) :: t) (.int x :: st) n I Q F) : X r d y cc mr b pc (a0 :: a1 :: a2 :: a3 :: a4 :: a5 :: a6 :: a7 :: a8 :: a9 :: a10 :: some (.int x) :: t) st n I Q F := by
  intro p e s m args below meth c H locs cells slots mc ms R ls Qf C hW hS hl h1 h2 fin
  obtain ⟨hd, rfl⟩ := hd
  exact lv_iload C.1 C.2.1 hd (hl.2.2 11 _ rfl) (k _ _ _ _ _ _ _ _ _ _ _ _ _ _ _ _ _ C hW hS hl h1 h2 fin)
theorem x_aload_11 {r : Ev} {d : Nat} {y : MethodName} {cc : ByteArray} {mr : Nat × Option FieldType} {b : Nat × Nat} {pc q : Nat} {st : List Value} {n : Nat} {I : MI} {Q : MQ2} {F : Post} {a0 a1 a2 a3 a4 a5 a6 a7 a8 a9 a10 : Option Value} {t : List (Option Value)} {x : Nat} (hd : DR cc pc (.aload 11) 2 q) (k : X r d y cc mr b q (a0 :: a1 :: a2 :: a3 :: a4 :: a5 :: a6 :: a7 :: a8 :: a9 :: a10 :: some (.ref x) :: t) (.ref x :: st) n I Q F) : X r d y cc mr b pc (a0 :: a1 :: a2 :: a3 :: a4 :: a5 :: a6 :: a7 :: a8 :: a9 :: a10 :: some (.ref x) :: t) st n I Q F := by
  intro p e s m args below meth c H locs cells slots mc ms R ls Qf C hW hS hl h1 h2 fin
  obtain ⟨hd, rfl⟩ := hd
  exact lv_aload C.1 C.2.1 hd (hl.2.2 11 _ rfl) (k _ _ _ _ _ _ _ _ _ _ _ _ _ _ _ _ _ C hW hS hl h1 h2 fin)
theorem x_lload_11 {r : Ev} {d : Nat} {y : MethodName} {cc : ByteArray} {mr : Nat × Option FieldType} {b : Nat × Nat} {pc q : Nat} {st : List Value} {n : Nat} {I : MI} {Q : MQ2} {F : Post} {a0 a1 a2 a3 a4 a5 a6 a7 a8 a9 a10 : Option Value} {t : List (Option Value)} {x : Int64} (hd : DR cc pc (.lload 11) 2 q) (k : X r d y cc mr b q (a0 :: a1 :: a2 :: a3 :: a4 :: a5 :: a6 :: a7 :: a8 :: a9 :: a10 :: some (.long x) :: t) (.long x :: st) n I Q F) : X r d y cc mr b pc (a0 :: a1 :: a2 :: a3 :: a4 :: a5 :: a6 :: a7 :: a8 :: a9 :: a10 :: some (.long x) :: t) st n I Q F := by
  intro p e s m args below meth c H locs cells slots mc ms R ls Qf C hW hS hl h1 h2 fin
  obtain ⟨hd, rfl⟩ := hd
  exact lv_lload C.1 C.2.1 hd (hl.2.2 11 _ rfl) (k _ _ _ _ _ _ _ _ _ _ _ _ _ _ _ _ _ C hW hS hl h1 h2 fin)
theorem x_iload_12 {r : Ev} {d : Nat} {y : MethodName} {cc : ByteArray} {mr : Nat × Option FieldType} {b : Nat × Nat} {pc q : Nat} {st : List Value} {n : Nat} {I : MI} {Q : MQ2} {F : Post} {a0 a1 a2 a3 a4 a5 a6 a7 a8 a9 a10 a11 : Option Value} {t : List (Option Value)} {x : Int32} (hd : DR cc pc (.iload 12) 2 q) (k : X r d y cc mr b q (a0 :: a1 :: a2 :: a3 :: a4 :: a5 :: a6 :: a7 :: a8 :: a9 :: a10 :: a11 :: some (.int x) :: t) (.int x :: st) n I Q F) : X r d y cc mr b pc (a0 :: a1 :: a2 :: a3 :: a4 :: a5 :: a6 :: a7 :: a8 :: a9 :: a10 :: a11 :: some (.int x) :: t) st n I Q F := by
  intro p e s m args below meth c H locs cells slots mc ms R ls Qf C hW hS hl h1 h2 fin
  obtain ⟨hd, rfl⟩ := hd
  exact lv_iload C.1 C.2.1 hd (hl.2.2 12 _ rfl) (k _ _ _ _ _ _ _ _ _ _ _ _ _ _ _ _ _ C hW hS hl h1 h2 fin)
theorem x_aload_12 {r : Ev} {d : Nat} {y : MethodName} {cc : ByteArray} {mr : Nat × Option FieldType} {b : Nat × Nat} {pc q : Nat} {st : List Value} {n : Nat} {I : MI} {Q : MQ2} {F : Post} {a0 a1 a2 a3 a4 a5 a6 a7 a8 a9 a10 a11 : Option Value} {t : List (Option Value)} {x : Nat} (hd : DR cc pc (.aload 12) 2 q) (k : X r d y cc mr b q (a0 :: a1 :: a2 :: a3 :: a4 :: a5 :: a6 :: a7 :: a8 :: a9 :: a10 :: a11 :: some (.ref x) :: t) (.ref x :: st) n I Q F) : X r d y cc mr b pc (a0 :: a1 :: a2 :: a3 :: a4 :: a5 :: a6 :: a7 :: a8 :: a9 :: a10 :: a11 :: some (.ref x) :: t) st n I Q F := by
  intro p e s m args below meth c H locs cells slots mc ms R ls Qf C hW hS hl h1 h2 fin
  obtain ⟨hd, rfl⟩ := hd
  exact lv_aload C.1 C.2.1 hd (hl.2.2 12 _ rfl) (k _ _ _ _ _ _ _ _ _ _ _ _ _ _ _ _ _ C hW hS hl h1 h2 fin)
theorem x_lload_12 {r : Ev} {d : Nat} {y : MethodName} {cc : ByteArray} {mr : Nat × Option FieldType} {b : Nat × Nat} {pc q : Nat} {st : List Value} {n : Nat} {I : MI} {Q : MQ2} {F : Post} {a0 a1 a2 a3 a4 a5 a6 a7 a8 a9 a10 a11 : Option Value} {t : List (Option Value)} {x : Int64} (hd : DR cc pc (.lload 12) 2 q) (k : X r d y cc mr b q (a0 :: a1 :: a2 :: a3 :: a4 :: a5 :: a6 :: a7 :: a8 :: a9 :: a10 :: a11 :: some (.long x) :: t) (.long x :: st) n I Q F) : X r d y cc mr b pc (a0 :: a1 :: a2 :: a3 :: a4 :: a5 :: a6 :: a7 :: a8 :: a9 :: a10 :: a11 :: some (.long x) :: t) st n I Q F := by
  intro p e s m args below meth c H locs cells slots mc ms R ls Qf C hW hS hl h1 h2 fin
  obtain ⟨hd, rfl⟩ := hd
  exact lv_lload C.1 C.2.1 hd (hl.2.2 12 _ rfl) (k _ _ _ _ _ _ _ _ _ _ _ _ _ _ _ _ _ C hW hS hl h1 h2 fin)
theorem lvs_list {ls : Array Slot} {mL : Nat} {lv : List (Option Value)} (h : LVS ls mL lv) : lv_has ls mL ((List.range lv.length).filterMap (fun i => (lv.getD i none).map (fun v => (i, v)))) := by
  refine ⟨h.1, h.2.1, fun q hq => ?_⟩
  obtain ⟨i, hi, he⟩ := List.mem_filterMap.mp hq
  cases hv : lv.getD i none with
  | none => rw [hv] at he; cases he
  | some v =>
    rw [hv] at he
    cases he
    refine h.2.2 i v ?_
    have hl := List.mem_range.mp hi
    rw [List.getD_eq_getElem?_getD, List.getElem?_eq_getElem hl] at hv
    rw [List.getElem?_eq_getElem hl]
    exact congrArg some hv
def okst (lv : List (Option Value)) (i : Nat) : Bool := match i with
  | 0 => true
  | k + 1 => match lv.getD k none with
    | some v => !(v.category == 2)
    | none => true
theorem lvs_mem {lv : List (Option Value)} {i : Nat} {v : Value} (h : lv[i]? = some (some v)) : (i, v) ∈ (List.range lv.length).filterMap (fun i => (lv.getD i none).map (fun v => (i, v))) := by
  refine List.mem_filterMap.mpr ⟨i, List.mem_range.mpr (List.getElem?_eq_some_iff.mp h).1, ?_⟩
  rw [List.getD_eq_getElem?_getD, h]
  rfl
theorem lvs_put {ls' : Array Slot} {mL i : Nat} {v : Value} {lv : List (Option Value)} (hs : lv_has ls' mL ((i, v) :: ((List.range lv.length).filterMap (fun i => (lv.getD i none).map (fun v => (i, v)))).filter (fun q => !(q.1 == i) && !(q.1 + 1 == i && q.2.category == 2)))) (ho : okst lv i = true) : LVS ls' mL (lv.set i (some v)) := by
  refine ⟨hs.1, hs.2.1, fun j u hj => ?_⟩
  by_cases e : j = i
  · subst e
    have hl : j < lv.length := by have := (List.getElem?_eq_some_iff.mp hj).1; rwa [List.length_set] at this
    rw [List.getElem?_set_self hl] at hj
    have e3 := Option.some.inj (Option.some.inj hj)
    rw [← e3]
    exact hs.2.2 (j, v) List.mem_cons_self
  · rw [List.getElem?_set_ne (Ne.symm e)] at hj
    refine hs.2.2 (j, u) (List.mem_cons_of_mem _ (List.mem_filter.mpr ⟨lvs_mem hj, ?_⟩))
    have h1 : (j == i) = false := by simpa using e
    by_cases e2 : j + 1 = i
    · subst e2
      have h3 : okst lv (j + 1) = !(u.category == 2) := by
        simp only [okst, List.getD_eq_getElem?_getD, hj, Option.getD_some]
      rw [h3] at ho
      simp only [h1, Bool.not_false, Bool.true_and, beq_self_eq_true]
      exact ho
    · have h2 : (j + 1 == i) = false := by simpa using e2
      simp [h1, h2]
theorem lvs_putL {ls' : Array Slot} {mL i : Nat} {v : Value} {lv : List (Option Value)} (hs : lv_has ls' mL ((i, v) :: ((List.range lv.length).filterMap (fun i => (lv.getD i none).map (fun v => (i, v)))).filter (fun q => !(q.1 == i) && (!(q.1 == i + 1) && !(q.1 + 1 == i && q.2.category == 2))))) (ho : okst lv i = true) : LVS ls' mL ((lv.set i (some v)).set (i + 1) none) := by
  refine ⟨hs.1, hs.2.1, fun j u hj => ?_⟩
  by_cases e9 : j = i + 1
  · subst e9
    have hl : i + 1 < ((lv.set i (some v)).set (i + 1) none).length := (List.getElem?_eq_some_iff.mp hj).1
    rw [List.length_set] at hl
    rw [List.getElem?_set_self hl] at hj
    cases hj
  rw [List.getElem?_set_ne (Ne.symm e9)] at hj
  by_cases e : j = i
  · subst e
    have hl : j < lv.length := by have := (List.getElem?_eq_some_iff.mp hj).1; rwa [List.length_set] at this
    rw [List.getElem?_set_self hl] at hj
    have e3 := Option.some.inj (Option.some.inj hj)
    rw [← e3]
    exact hs.2.2 (j, v) List.mem_cons_self
  · rw [List.getElem?_set_ne (Ne.symm e)] at hj
    refine hs.2.2 (j, u) (List.mem_cons_of_mem _ (List.mem_filter.mpr ⟨lvs_mem hj, ?_⟩))
    have h1 : (j == i) = false := by simpa using e
    have h9 : (j == i + 1) = false := by simpa using e9
    by_cases e2 : j + 1 = i
    · subst e2
      have h3 : okst lv (j + 1) = !(u.category == 2) := by
        simp only [okst, List.getD_eq_getElem?_getD, hj, Option.getD_some]
      rw [h3] at ho
      simp only [h1, h9, Bool.not_false, Bool.true_and, beq_self_eq_true]
      exact ho
    · have h2 : (j + 1 == i) = false := by simpa using e2
      simp [h1, h2, h9]
theorem x_istore_0 {r : Ev} {d : Nat} {y : MethodName} {cc : ByteArray} {mr : Nat × Option FieldType} {b : Nat × Nat} {pc q : Nat} {st : List Value} {n : Nat} {I : MI} {Q : MQ2} {F : Post} {a0 : Option Value} {t : List (Option Value)} {x : Int32} (hd : DR cc pc (.istore_n 0) 1 q) (hn : Nat.ble (0 + 1) mr.1 = true) (ho : okst (a0 :: t) 0 = true) (k : X r d y cc mr b q (some (.int x) :: t) st n I Q F) : X r d y cc mr b pc (a0 :: t) (.int x :: st) n I Q F := by
  intro p e s m args below meth c H locs cells slots mc ms R ls Qf C hW hS hl h1 h2 fin
  obtain ⟨hd, rfl⟩ := hd
  exact lv_istore_n C.1 C.2.1 hd rfl (lvs_list hl) (Nat.le_of_ble_eq_true hn) rfl (fun ls' hs => k _ _ _ _ _ _ _ _ _ _ _ _ _ _ _ _ _ C hW hS (lvs_put hs ho) h1 h2 fin)
theorem x_astore_0 {r : Ev} {d : Nat} {y : MethodName} {cc : ByteArray} {mr : Nat × Option FieldType} {b : Nat × Nat} {pc q : Nat} {st : List Value} {n : Nat} {I : MI} {Q : MQ2} {F : Post} {a0 : Option Value} {t : List (Option Value)} {x : Nat} (hd : DR cc pc (.astore_n 0) 1 q) (hn : Nat.ble (0 + 1) mr.1 = true) (ho : okst (a0 :: t) 0 = true) (k : X r d y cc mr b q (some (.ref x) :: t) st n I Q F) : X r d y cc mr b pc (a0 :: t) (.ref x :: st) n I Q F := by
  intro p e s m args below meth c H locs cells slots mc ms R ls Qf C hW hS hl h1 h2 fin
  obtain ⟨hd, rfl⟩ := hd
  exact lv_astore_n C.1 C.2.1 hd rfl (lvs_list hl) (Nat.le_of_ble_eq_true hn) rfl (fun ls' hs => k _ _ _ _ _ _ _ _ _ _ _ _ _ _ _ _ _ C hW hS (lvs_put hs ho) h1 h2 fin)
theorem x_iinc_0 {r : Ev} {d : Nat} {y : MethodName} {cc : ByteArray} {mr : Nat × Option FieldType} {b : Nat × Nat} {pc q : Nat} {st : List Value} {n : Nat} {I : MI} {Q : MQ2} {F : Post} {t : List (Option Value)} {x v : Int32} {z : Int} (hd : DR cc pc (.iinc 0 z) 3 q) (hv : x + Int32.ofInt z = v) (hn : Nat.ble (0 + 1) mr.1 = true) (ho : okst (some (.int x) :: t) 0 = true) (k : X r d y cc mr b q (some (.int v) :: t) st n I Q F) : X r d y cc mr b pc (some (.int x) :: t) st n I Q F := by
  intro p e s m args below meth c H locs cells slots mc ms R ls Qf C hW hS hl h1 h2 fin
  obtain ⟨hd, rfl⟩ := hd
  obtain ⟨j, hj⟩ := List.getElem?_of_mem (lvs_mem (lv := (some (.int x) :: t)) (i := 0) (v := .int x) rfl)
  exact lv_iinc C.1 C.2.1 hd (lvs_list hl) hj hv (Nat.le_of_ble_eq_true hn) rfl (fun ls' hs => k _ _ _ _ _ _ _ _ _ _ _ _ _ _ _ _ _ C hW hS (lvs_put hs ho) h1 h2 fin)
theorem x_istore_1 {r : Ev} {d : Nat} {y : MethodName} {cc : ByteArray} {mr : Nat × Option FieldType} {b : Nat × Nat} {pc q : Nat} {st : List Value} {n : Nat} {I : MI} {Q : MQ2} {F : Post} {a0 a1 : Option Value} {t : List (Option Value)} {x : Int32} (hd : DR cc pc (.istore_n 1) 1 q) (hn : Nat.ble (1 + 1) mr.1 = true) (ho : okst (a0 :: a1 :: t) 1 = true) (k : X r d y cc mr b q (a0 :: some (.int x) :: t) st n I Q F) : X r d y cc mr b pc (a0 :: a1 :: t) (.int x :: st) n I Q F := by
  intro p e s m args below meth c H locs cells slots mc ms R ls Qf C hW hS hl h1 h2 fin
  obtain ⟨hd, rfl⟩ := hd
  exact lv_istore_n C.1 C.2.1 hd rfl (lvs_list hl) (Nat.le_of_ble_eq_true hn) rfl (fun ls' hs => k _ _ _ _ _ _ _ _ _ _ _ _ _ _ _ _ _ C hW hS (lvs_put hs ho) h1 h2 fin)
theorem x_astore_1 {r : Ev} {d : Nat} {y : MethodName} {cc : ByteArray} {mr : Nat × Option FieldType} {b : Nat × Nat} {pc q : Nat} {st : List Value} {n : Nat} {I : MI} {Q : MQ2} {F : Post} {a0 a1 : Option Value} {t : List (Option Value)} {x : Nat} (hd : DR cc pc (.astore_n 1) 1 q) (hn : Nat.ble (1 + 1) mr.1 = true) (ho : okst (a0 :: a1 :: t) 1 = true) (k : X r d y cc mr b q (a0 :: some (.ref x) :: t) st n I Q F) : X r d y cc mr b pc (a0 :: a1 :: t) (.ref x :: st) n I Q F := by
  intro p e s m args below meth c H locs cells slots mc ms R ls Qf C hW hS hl h1 h2 fin
  obtain ⟨hd, rfl⟩ := hd
  exact lv_astore_n C.1 C.2.1 hd rfl (lvs_list hl) (Nat.le_of_ble_eq_true hn) rfl (fun ls' hs => k _ _ _ _ _ _ _ _ _ _ _ _ _ _ _ _ _ C hW hS (lvs_put hs ho) h1 h2 fin)
theorem x_iinc_1 {r : Ev} {d : Nat} {y : MethodName} {cc : ByteArray} {mr : Nat × Option FieldType} {b : Nat × Nat} {pc q : Nat} {st : List Value} {n : Nat} {I : MI} {Q : MQ2} {F : Post} {a0 : Option Value} {t : List (Option Value)} {x v : Int32} {z : Int} (hd : DR cc pc (.iinc 1 z) 3 q) (hv : x + Int32.ofInt z = v) (hn : Nat.ble (1 + 1) mr.1 = true) (ho : okst (a0 :: some (.int x) :: t) 1 = true) (k : X r d y cc mr b q (a0 :: some (.int v) :: t) st n I Q F) : X r d y cc mr b pc (a0 :: some (.int x) :: t) st n I Q F := by
  intro p e s m args below meth c H locs cells slots mc ms R ls Qf C hW hS hl h1 h2 fin
  obtain ⟨hd, rfl⟩ := hd
  obtain ⟨j, hj⟩ := List.getElem?_of_mem (lvs_mem (lv := (a0 :: some (.int x) :: t)) (i := 1) (v := .int x) rfl)
  exact lv_iinc C.1 C.2.1 hd (lvs_list hl) hj hv (Nat.le_of_ble_eq_true hn) rfl (fun ls' hs => k _ _ _ _ _ _ _ _ _ _ _ _ _ _ _ _ _ C hW hS (lvs_put hs ho) h1 h2 fin)
theorem x_istore_2 {r : Ev} {d : Nat} {y : MethodName} {cc : ByteArray} {mr : Nat × Option FieldType} {b : Nat × Nat} {pc q : Nat} {st : List Value} {n : Nat} {I : MI} {Q : MQ2} {F : Post} {a0 a1 a2 : Option Value} {t : List (Option Value)} {x : Int32} (hd : DR cc pc (.istore_n 2) 1 q) (hn : Nat.ble (2 + 1) mr.1 = true) (ho : okst (a0 :: a1 :: a2 :: t) 2 = true) (k : X r d y cc mr b q (a0 :: a1 :: some (.int x) :: t) st n I Q F) : X r d y cc mr b pc (a0 :: a1 :: a2 :: t) (.int x :: st) n I Q F := by
  intro p e s m args below meth c H locs cells slots mc ms R ls Qf C hW hS hl h1 h2 fin
  obtain ⟨hd, rfl⟩ := hd
  exact lv_istore_n C.1 C.2.1 hd rfl (lvs_list hl) (Nat.le_of_ble_eq_true hn) rfl (fun ls' hs => k _ _ _ _ _ _ _ _ _ _ _ _ _ _ _ _ _ C hW hS (lvs_put hs ho) h1 h2 fin)
theorem x_astore_2 {r : Ev} {d : Nat} {y : MethodName} {cc : ByteArray} {mr : Nat × Option FieldType} {b : Nat × Nat} {pc q : Nat} {st : List Value} {n : Nat} {I : MI} {Q : MQ2} {F : Post} {a0 a1 a2 : Option Value} {t : List (Option Value)} {x : Nat} (hd : DR cc pc (.astore_n 2) 1 q) (hn : Nat.ble (2 + 1) mr.1 = true) (ho : okst (a0 :: a1 :: a2 :: t) 2 = true) (k : X r d y cc mr b q (a0 :: a1 :: some (.ref x) :: t) st n I Q F) : X r d y cc mr b pc (a0 :: a1 :: a2 :: t) (.ref x :: st) n I Q F := by
  intro p e s m args below meth c H locs cells slots mc ms R ls Qf C hW hS hl h1 h2 fin
  obtain ⟨hd, rfl⟩ := hd
  exact lv_astore_n C.1 C.2.1 hd rfl (lvs_list hl) (Nat.le_of_ble_eq_true hn) rfl (fun ls' hs => k _ _ _ _ _ _ _ _ _ _ _ _ _ _ _ _ _ C hW hS (lvs_put hs ho) h1 h2 fin)
theorem x_iinc_2 {r : Ev} {d : Nat} {y : MethodName} {cc : ByteArray} {mr : Nat × Option FieldType} {b : Nat × Nat} {pc q : Nat} {st : List Value} {n : Nat} {I : MI} {Q : MQ2} {F : Post} {a0 a1 : Option Value} {t : List (Option Value)} {x v : Int32} {z : Int} (hd : DR cc pc (.iinc 2 z) 3 q) (hv : x + Int32.ofInt z = v) (hn : Nat.ble (2 + 1) mr.1 = true) (ho : okst (a0 :: a1 :: some (.int x) :: t) 2 = true) (k : X r d y cc mr b q (a0 :: a1 :: some (.int v) :: t) st n I Q F) : X r d y cc mr b pc (a0 :: a1 :: some (.int x) :: t) st n I Q F := by
  intro p e s m args below meth c H locs cells slots mc ms R ls Qf C hW hS hl h1 h2 fin
  obtain ⟨hd, rfl⟩ := hd
  obtain ⟨j, hj⟩ := List.getElem?_of_mem (lvs_mem (lv := (a0 :: a1 :: some (.int x) :: t)) (i := 2) (v := .int x) rfl)
  exact lv_iinc C.1 C.2.1 hd (lvs_list hl) hj hv (Nat.le_of_ble_eq_true hn) rfl (fun ls' hs => k _ _ _ _ _ _ _ _ _ _ _ _ _ _ _ _ _ C hW hS (lvs_put hs ho) h1 h2 fin)
theorem x_istore_3 {r : Ev} {d : Nat} {y : MethodName} {cc : ByteArray} {mr : Nat × Option FieldType} {b : Nat × Nat} {pc q : Nat} {st : List Value} {n : Nat} {I : MI} {Q : MQ2} {F : Post} {a0 a1 a2 a3 : Option Value} {t : List (Option Value)} {x : Int32} (hd : DR cc pc (.istore_n 3) 1 q) (hn : Nat.ble (3 + 1) mr.1 = true) (ho : okst (a0 :: a1 :: a2 :: a3 :: t) 3 = true) (k : X r d y cc mr b q (a0 :: a1 :: a2 :: some (.int x) :: t) st n I Q F) : X r d y cc mr b pc (a0 :: a1 :: a2 :: a3 :: t) (.int x :: st) n I Q F := by
  intro p e s m args below meth c H locs cells slots mc ms R ls Qf C hW hS hl h1 h2 fin
  obtain ⟨hd, rfl⟩ := hd
  exact lv_istore_n C.1 C.2.1 hd rfl (lvs_list hl) (Nat.le_of_ble_eq_true hn) rfl (fun ls' hs => k _ _ _ _ _ _ _ _ _ _ _ _ _ _ _ _ _ C hW hS (lvs_put hs ho) h1 h2 fin)
theorem x_astore_3 {r : Ev} {d : Nat} {y : MethodName} {cc : ByteArray} {mr : Nat × Option FieldType} {b : Nat × Nat} {pc q : Nat} {st : List Value} {n : Nat} {I : MI} {Q : MQ2} {F : Post} {a0 a1 a2 a3 : Option Value} {t : List (Option Value)} {x : Nat} (hd : DR cc pc (.astore_n 3) 1 q) (hn : Nat.ble (3 + 1) mr.1 = true) (ho : okst (a0 :: a1 :: a2 :: a3 :: t) 3 = true) (k : X r d y cc mr b q (a0 :: a1 :: a2 :: some (.ref x) :: t) st n I Q F) : X r d y cc mr b pc (a0 :: a1 :: a2 :: a3 :: t) (.ref x :: st) n I Q F := by
  intro p e s m args below meth c H locs cells slots mc ms R ls Qf C hW hS hl h1 h2 fin
  obtain ⟨hd, rfl⟩ := hd
  exact lv_astore_n C.1 C.2.1 hd rfl (lvs_list hl) (Nat.le_of_ble_eq_true hn) rfl (fun ls' hs => k _ _ _ _ _ _ _ _ _ _ _ _ _ _ _ _ _ C hW hS (lvs_put hs ho) h1 h2 fin)
theorem x_iinc_3 {r : Ev} {d : Nat} {y : MethodName} {cc : ByteArray} {mr : Nat × Option FieldType} {b : Nat × Nat} {pc q : Nat} {st : List Value} {n : Nat} {I : MI} {Q : MQ2} {F : Post} {a0 a1 a2 : Option Value} {t : List (Option Value)} {x v : Int32} {z : Int} (hd : DR cc pc (.iinc 3 z) 3 q) (hv : x + Int32.ofInt z = v) (hn : Nat.ble (3 + 1) mr.1 = true) (ho : okst (a0 :: a1 :: a2 :: some (.int x) :: t) 3 = true) (k : X r d y cc mr b q (a0 :: a1 :: a2 :: some (.int v) :: t) st n I Q F) : X r d y cc mr b pc (a0 :: a1 :: a2 :: some (.int x) :: t) st n I Q F := by
  intro p e s m args below meth c H locs cells slots mc ms R ls Qf C hW hS hl h1 h2 fin
  obtain ⟨hd, rfl⟩ := hd
  obtain ⟨j, hj⟩ := List.getElem?_of_mem (lvs_mem (lv := (a0 :: a1 :: a2 :: some (.int x) :: t)) (i := 3) (v := .int x) rfl)
  exact lv_iinc C.1 C.2.1 hd (lvs_list hl) hj hv (Nat.le_of_ble_eq_true hn) rfl (fun ls' hs => k _ _ _ _ _ _ _ _ _ _ _ _ _ _ _ _ _ C hW hS (lvs_put hs ho) h1 h2 fin)
theorem x_istore_4 {r : Ev} {d : Nat} {y : MethodName} {cc : ByteArray} {mr : Nat × Option FieldType} {b : Nat × Nat} {pc q : Nat} {st : List Value} {n : Nat} {I : MI} {Q : MQ2} {F : Post} {a0 a1 a2 a3 a4 : Option Value} {t : List (Option Value)} {x : Int32} (hd : DR cc pc (.istore 4) 2 q) (hn : Nat.ble (4 + 1) mr.1 = true) (ho : okst (a0 :: a1 :: a2 :: a3 :: a4 :: t) 4 = true) (k : X r d y cc mr b q (a0 :: a1 :: a2 :: a3 :: some (.int x) :: t) st n I Q F) : X r d y cc mr b pc (a0 :: a1 :: a2 :: a3 :: a4 :: t) (.int x :: st) n I Q F := by
  intro p e s m args below meth c H locs cells slots mc ms R ls Qf C hW hS hl h1 h2 fin
  obtain ⟨hd, rfl⟩ := hd
  exact lv_istore C.1 C.2.1 hd (lvs_list hl) (Nat.le_of_ble_eq_true hn) rfl (fun ls' hs => k _ _ _ _ _ _ _ _ _ _ _ _ _ _ _ _ _ C hW hS (lvs_put hs ho) h1 h2 fin)
theorem x_astore_4 {r : Ev} {d : Nat} {y : MethodName} {cc : ByteArray} {mr : Nat × Option FieldType} {b : Nat × Nat} {pc q : Nat} {st : List Value} {n : Nat} {I : MI} {Q : MQ2} {F : Post} {a0 a1 a2 a3 a4 : Option Value} {t : List (Option Value)} {x : Nat} (hd : DR cc pc (.astore 4) 2 q) (hn : Nat.ble (4 + 1) mr.1 = true) (ho : okst (a0 :: a1 :: a2 :: a3 :: a4 :: t) 4 = true) (k : X r d y cc mr b q (a0 :: a1 :: a2 :: a3 :: some (.ref x) :: t) st n I Q F) : X r d y cc mr b pc (a0 :: a1 :: a2 :: a3 :: a4 :: t) (.ref x :: st) n I Q F := by
  intro p e s m args below meth c H locs cells slots mc ms R ls Qf C hW hS hl h1 h2 fin
  obtain ⟨hd, rfl⟩ := hd
  exact lv_astore C.1 C.2.1 hd (lvs_list hl) (Nat.le_of_ble_eq_true hn) rfl (fun ls' hs => k _ _ _ _ _ _ _ _ _ _ _ _ _ _ _ _ _ C hW hS (lvs_put hs ho) h1 h2 fin)
theorem x_iinc_4 {r : Ev} {d : Nat} {y : MethodName} {cc : ByteArray} {mr : Nat × Option FieldType} {b : Nat × Nat} {pc q : Nat} {st : List Value} {n : Nat} {I : MI} {Q : MQ2} {F : Post} {a0 a1 a2 a3 : Option Value} {t : List (Option Value)} {x v : Int32} {z : Int} (hd : DR cc pc (.iinc 4 z) 3 q) (hv : x + Int32.ofInt z = v) (hn : Nat.ble (4 + 1) mr.1 = true) (ho : okst (a0 :: a1 :: a2 :: a3 :: some (.int x) :: t) 4 = true) (k : X r d y cc mr b q (a0 :: a1 :: a2 :: a3 :: some (.int v) :: t) st n I Q F) : X r d y cc mr b pc (a0 :: a1 :: a2 :: a3 :: some (.int x) :: t) st n I Q F := by
  intro p e s m args below meth c H locs cells slots mc ms R ls Qf C hW hS hl h1 h2 fin
  obtain ⟨hd, rfl⟩ := hd
  obtain ⟨j, hj⟩ := List.getElem?_of_mem (lvs_mem (lv := (a0 :: a1 :: a2 :: a3 :: some (.int x) :: t)) (i := 4) (v := .int x) rfl)
  exact lv_iinc C.1 C.2.1 hd (lvs_list hl) hj hv (Nat.le_of_ble_eq_true hn) rfl (fun ls' hs => k _ _ _ _ _ _ _ _ _ _ _ _ _ _ _ _ _ C hW hS (lvs_put hs ho) h1 h2 fin)
theorem x_istore_5 {r : Ev} {d : Nat} {y : MethodName} {cc : ByteArray} {mr : Nat × Option FieldType} {b : Nat × Nat} {pc q : Nat} {st : List Value} {n : Nat} {I : MI} {Q : MQ2} {F : Post} {a0 a1 a2 a3 a4 a5 : Option Value} {t : List (Option Value)} {x : Int32} (hd : DR cc pc (.istore 5) 2 q) (hn : Nat.ble (5 + 1) mr.1 = true) (ho : okst (a0 :: a1 :: a2 :: a3 :: a4 :: a5 :: t) 5 = true) (k : X r d y cc mr b q (a0 :: a1 :: a2 :: a3 :: a4 :: some (.int x) :: t) st n I Q F) : X r d y cc mr b pc (a0 :: a1 :: a2 :: a3 :: a4 :: a5 :: t) (.int x :: st) n I Q F := by
  intro p e s m args below meth c H locs cells slots mc ms R ls Qf C hW hS hl h1 h2 fin
  obtain ⟨hd, rfl⟩ := hd
  exact lv_istore C.1 C.2.1 hd (lvs_list hl) (Nat.le_of_ble_eq_true hn) rfl (fun ls' hs => k _ _ _ _ _ _ _ _ _ _ _ _ _ _ _ _ _ C hW hS (lvs_put hs ho) h1 h2 fin)
theorem x_astore_5 {r : Ev} {d : Nat} {y : MethodName} {cc : ByteArray} {mr : Nat × Option FieldType} {b : Nat × Nat} {pc q : Nat} {st : List Value} {n : Nat} {I : MI} {Q : MQ2} {F : Post} {a0 a1 a2 a3 a4 a5 : Option Value} {t : List (Option Value)} {x : Nat} (hd : DR cc pc (.astore 5) 2 q) (hn : Nat.ble (5 + 1) mr.1 = true) (ho : okst (a0 :: a1 :: a2 :: a3 :: a4 :: a5 :: t) 5 = true) (k : X r d y cc mr b q (a0 :: a1 :: a2 :: a3 :: a4 :: some (.ref x) :: t) st n I Q F) : X r d y cc mr b pc (a0 :: a1 :: a2 :: a3 :: a4 :: a5 :: t) (.ref x :: st) n I Q F := by
  intro p e s m args below meth c H locs cells slots mc ms R ls Qf C hW hS hl h1 h2 fin
  obtain ⟨hd, rfl⟩ := hd
  exact lv_astore C.1 C.2.1 hd (lvs_list hl) (Nat.le_of_ble_eq_true hn) rfl (fun ls' hs => k _ _ _ _ _ _ _ _ _ _ _ _ _ _ _ _ _ C hW hS (lvs_put hs ho) h1 h2 fin)
theorem x_iinc_5 {r : Ev} {d : Nat} {y : MethodName} {cc : ByteArray} {mr : Nat × Option FieldType} {b : Nat × Nat} {pc q : Nat} {st : List Value} {n : Nat} {I : MI} {Q : MQ2} {F : Post} {a0 a1 a2 a3 a4 : Option Value} {t : List (Option Value)} {x v : Int32} {z : Int} (hd : DR cc pc (.iinc 5 z) 3 q) (hv : x + Int32.ofInt z = v) (hn : Nat.ble (5 + 1) mr.1 = true) (ho : okst (a0 :: a1 :: a2 :: a3 :: a4 :: some (.int x) :: t) 5 = true) (k : X r d y cc mr b q (a0 :: a1 :: a2 :: a3 :: a4 :: some (.int v) :: t) st n I Q F) : X r d y cc mr b pc (a0 :: a1 :: a2 :: a3 :: a4 :: some (.int x) :: t) st n I Q F := by
  intro p e s m args below meth c H locs cells slots mc ms R ls Qf C hW hS hl h1 h2 fin
  obtain ⟨hd, rfl⟩ := hd
  obtain ⟨j, hj⟩ := List.getElem?_of_mem (lvs_mem (lv := (a0 :: a1 :: a2 :: a3 :: a4 :: some (.int x) :: t)) (i := 5) (v := .int x) rfl)
  exact lv_iinc C.1 C.2.1 hd (lvs_list hl) hj hv (Nat.le_of_ble_eq_true hn) rfl (fun ls' hs => k _ _ _ _ _ _ _ _ _ _ _ _ _ _ _ _ _ C hW hS (lvs_put hs ho) h1 h2 fin)
theorem x_istore_6 {r : Ev} {d : Nat} {y : MethodName} {cc : ByteArray} {mr : Nat × Option FieldType} {b : Nat × Nat} {pc q : Nat} {st : List Value} {n : Nat} {I : MI} {Q : MQ2} {F : Post} {a0 a1 a2 a3 a4 a5 a6 : Option Value} {t : List (Option Value)} {x : Int32} (hd : DR cc pc (.istore 6) 2 q) (hn : Nat.ble (6 + 1) mr.1 = true) (ho : okst (a0 :: a1 :: a2 :: a3 :: a4 :: a5 :: a6 :: t) 6 = true) (k : X r d y cc mr b q (a0 :: a1 :: a2 :: a3 :: a4 :: a5 :: some (.int x) :: t) st n I Q F) : X r d y cc mr b pc (a0 :: a1 :: a2 :: a3 :: a4 :: a5 :: a6 :: t) (.int x :: st) n I Q F := by
  intro p e s m args below meth c H locs cells slots mc ms R ls Qf C hW hS hl h1 h2 fin
  obtain ⟨hd, rfl⟩ := hd
  exact lv_istore C.1 C.2.1 hd (lvs_list hl) (Nat.le_of_ble_eq_true hn) rfl (fun ls' hs => k _ _ _ _ _ _ _ _ _ _ _ _ _ _ _ _ _ C hW hS (lvs_put hs ho) h1 h2 fin)
theorem x_astore_6 {r : Ev} {d : Nat} {y : MethodName} {cc : ByteArray} {mr : Nat × Option FieldType} {b : Nat × Nat} {pc q : Nat} {st : List Value} {n : Nat} {I : MI} {Q : MQ2} {F : Post} {a0 a1 a2 a3 a4 a5 a6 : Option Value} {t : List (Option Value)} {x : Nat} (hd : DR cc pc (.astore 6) 2 q) (hn : Nat.ble (6 + 1) mr.1 = true) (ho : okst (a0 :: a1 :: a2 :: a3 :: a4 :: a5 :: a6 :: t) 6 = true) (k : X r d y cc mr b q (a0 :: a1 :: a2 :: a3 :: a4 :: a5 :: some (.ref x) :: t) st n I Q F) : X r d y cc mr b pc (a0 :: a1 :: a2 :: a3 :: a4 :: a5 :: a6 :: t) (.ref x :: st) n I Q F := by
  intro p e s m args below meth c H locs cells slots mc ms R ls Qf C hW hS hl h1 h2 fin
  obtain ⟨hd, rfl⟩ := hd
  exact lv_astore C.1 C.2.1 hd (lvs_list hl) (Nat.le_of_ble_eq_true hn) rfl (fun ls' hs => k _ _ _ _ _ _ _ _ _ _ _ _ _ _ _ _ _ C hW hS (lvs_put hs ho) h1 h2 fin)
theorem x_iinc_6 {r : Ev} {d : Nat} {y : MethodName} {cc : ByteArray} {mr : Nat × Option FieldType} {b : Nat × Nat} {pc q : Nat} {st : List Value} {n : Nat} {I : MI} {Q : MQ2} {F : Post} {a0 a1 a2 a3 a4 a5 : Option Value} {t : List (Option Value)} {x v : Int32} {z : Int} (hd : DR cc pc (.iinc 6 z) 3 q) (hv : x + Int32.ofInt z = v) (hn : Nat.ble (6 + 1) mr.1 = true) (ho : okst (a0 :: a1 :: a2 :: a3 :: a4 :: a5 :: some (.int x) :: t) 6 = true) (k : X r d y cc mr b q (a0 :: a1 :: a2 :: a3 :: a4 :: a5 :: some (.int v) :: t) st n I Q F) : X r d y cc mr b pc (a0 :: a1 :: a2 :: a3 :: a4 :: a5 :: some (.int x) :: t) st n I Q F := by
  intro p e s m args below meth c H locs cells slots mc ms R ls Qf C hW hS hl h1 h2 fin
  obtain ⟨hd, rfl⟩ := hd
  obtain ⟨j, hj⟩ := List.getElem?_of_mem (lvs_mem (lv := (a0 :: a1 :: a2 :: a3 :: a4 :: a5 :: some (.int x) :: t)) (i := 6) (v := .int x) rfl)
  exact lv_iinc C.1 C.2.1 hd (lvs_list hl) hj hv (Nat.le_of_ble_eq_true hn) rfl (fun ls' hs => k _ _ _ _ _ _ _ _ _ _ _ _ _ _ _ _ _ C hW hS (lvs_put hs ho) h1 h2 fin)
theorem x_istore_7 {r : Ev} {d : Nat} {y : MethodName} {cc : ByteArray} {mr : Nat × Option FieldType} {b : Nat × Nat} {pc q : Nat} {st : List Value} {n : Nat} {I : MI} {Q : MQ2} {F : Post} {a0 a1 a2 a3 a4 a5 a6 a7 : Option Value} {t : List (Option Value)} {x : Int32} (hd : DR cc pc (.istore 7) 2 q) (hn : Nat.ble (7 + 1) mr.1 = true) (ho : okst (a0 :: a1 :: a2 :: a3 :: a4 :: a5 :: a6 :: a7 :: t) 7 = true) (k : X r d y cc mr b q (a0 :: a1 :: a2 :: a3 :: a4 :: a5 :: a6 :: some (.int x) :: t) st n I Q F) : X r d y cc mr b pc (a0 :: a1 :: a2 :: a3 :: a4 :: a5 :: a6 :: a7 :: t) (.int x :: st) n I Q F := by
  intro p e s m args below meth c H locs cells slots mc ms R ls Qf C hW hS hl h1 h2 fin
  obtain ⟨hd, rfl⟩ := hd
  exact lv_istore C.1 C.2.1 hd (lvs_list hl) (Nat.le_of_ble_eq_true hn) rfl (fun ls' hs => k _ _ _ _ _ _ _ _ _ _ _ _ _ _ _ _ _ C hW hS (lvs_put hs ho) h1 h2 fin)
theorem x_astore_7 {r : Ev} {d : Nat} {y : MethodName} {cc : ByteArray} {mr : Nat × Option FieldType} {b : Nat × Nat} {pc q : Nat} {st : List Value} {n : Nat} {I : MI} {Q : MQ2} {F : Post} {a0 a1 a2 a3 a4 a5 a6 a7 : Option Value} {t : List (Option Value)} {x : Nat} (hd : DR cc pc (.astore 7) 2 q) (hn : Nat.ble (7 + 1) mr.1 = true) (ho : okst (a0 :: a1 :: a2 :: a3 :: a4 :: a5 :: a6 :: a7 :: t) 7 = true) (k : X r d y cc mr b q (a0 :: a1 :: a2 :: a3 :: a4 :: a5 :: a6 :: some (.ref x) :: t) st n I Q F) : X r d y cc mr b pc (a0 :: a1 :: a2 :: a3 :: a4 :: a5 :: a6 :: a7 :: t) (.ref x :: st) n I Q F := by
  intro p e s m args below meth c H locs cells slots mc ms R ls Qf C hW hS hl h1 h2 fin
  obtain ⟨hd, rfl⟩ := hd
  exact lv_astore C.1 C.2.1 hd (lvs_list hl) (Nat.le_of_ble_eq_true hn) rfl (fun ls' hs => k _ _ _ _ _ _ _ _ _ _ _ _ _ _ _ _ _ C hW hS (lvs_put hs ho) h1 h2 fin)
theorem x_iinc_7 {r : Ev} {d : Nat} {y : MethodName} {cc : ByteArray} {mr : Nat × Option FieldType} {b : Nat × Nat} {pc q : Nat} {st : List Value} {n : Nat} {I : MI} {Q : MQ2} {F : Post} {a0 a1 a2 a3 a4 a5 a6 : Option Value} {t : List (Option Value)} {x v : Int32} {z : Int} (hd : DR cc pc (.iinc 7 z) 3 q) (hv : x + Int32.ofInt z = v) (hn : Nat.ble (7 + 1) mr.1 = true) (ho : okst (a0 :: a1 :: a2 :: a3 :: a4 :: a5 :: a6 :: some (.int x) :: t) 7 = true) (k : X r d y cc mr b q (a0 :: a1 :: a2 :: a3 :: a4 :: a5 :: a6 :: some (.int v) :: t) st n I Q F) : X r d y cc mr b pc (a0 :: a1 :: a2 :: a3 :: a4 :: a5 :: a6 :: some (.int x) :: t) st n I Q F := by
  intro p e s m args below meth c H locs cells slots mc ms R ls Qf C hW hS hl h1 h2 fin
  obtain ⟨hd, rfl⟩ := hd
  obtain ⟨j, hj⟩ := List.getElem?_of_mem (lvs_mem (lv := (a0 :: a1 :: a2 :: a3 :: a4 :: a5 :: a6 :: some (.int x) :: t)) (i := 7) (v := .int x) rfl)
  exact lv_iinc C.1 C.2.1 hd (lvs_list hl) hj hv (Nat.le_of_ble_eq_true hn) rfl (fun ls' hs => k _ _ _ _ _ _ _ _ _ _ _ _ _ _ _ _ _ C hW hS (lvs_put hs ho) h1 h2 fin)
theorem x_istore_8 {r : Ev} {d : Nat} {y : MethodName} {cc : ByteArray} {mr : Nat × Option FieldType} {b : Nat × Nat} {pc q : Nat} {st : List Value} {n : Nat} {I : MI} {Q : MQ2} {F : Post} {a0 a1 a2 a3 a4 a5 a6 a7 a8 : Option Value} {t : List (Option Value)} {x : Int32} (hd : DR cc pc (.istore 8) 2 q) (hn : Nat.ble (8 + 1) mr.1 = true) (ho : okst (a0 :: a1 :: a2 :: a3 :: a4 :: a5 :: a6 :: a7 :: a8 :: t) 8 = true) (k : X r d y cc mr b q (a0 :: a1 :: a2 :: a3 :: a4 :: a5 :: a6 :: a7 :: some (.int x) :: t) st n I Q F) : X r d y cc mr b pc (a0 :: a1 :: a2 :: a3 :: a4 :: a5 :: a6 :: a7 :: a8 :: t) (.int x :: st) n I Q F := by
  intro p e s m args below meth c H locs cells slots mc ms R ls Qf C hW hS hl h1 h2 fin
  obtain ⟨hd, rfl⟩ := hd
  exact lv_istore C.1 C.2.1 hd (lvs_list hl) (Nat.le_of_ble_eq_true hn) rfl (fun ls' hs => k _ _ _ _ _ _ _ _ _ _ _ _ _ _ _ _ _ C hW hS (lvs_put hs ho) h1 h2 fin)
theorem x_astore_8 {r : Ev} {d : Nat} {y : MethodName} {cc : ByteArray} {mr : Nat × Option FieldType} {b : Nat × Nat} {pc q : Nat} {st : List Value} {n : Nat} {I : MI} {Q : MQ2} {F : Post} {a0 a1 a2 a3 a4 a5 a6 a7 a8 : Option Value} {t : List (Option Value)} {x : Nat} (hd : DR cc pc (.astore 8) 2 q) (hn : Nat.ble (8 + 1) mr.1 = true) (ho : okst (a0 :: a1 :: a2 :: a3 :: a4 :: a5 :: a6 :: a7 :: a8 :: t) 8 = true) (k : X r d y cc mr b q (a0 :: a1 :: a2 :: a3 :: a4 :: a5 :: a6 :: a7 :: some (.ref x) :: t) st n I Q F) : X r d y cc mr b pc (a0 :: a1 :: a2 :: a3 :: a4 :: a5 :: a6 :: a7 :: a8 :: t) (.ref x :: st) n I Q F := by
  intro p e s m args below meth c H locs cells slots mc ms R ls Qf C hW hS hl h1 h2 fin
  obtain ⟨hd, rfl⟩ := hd
  exact lv_astore C.1 C.2.1 hd (lvs_list hl) (Nat.le_of_ble_eq_true hn) rfl (fun ls' hs => k _ _ _ _ _ _ _ _ _ _ _ _ _ _ _ _ _ C hW hS (lvs_put hs ho) h1 h2 fin)
theorem x_iinc_8 {r : Ev} {d : Nat} {y : MethodName} {cc : ByteArray} {mr : Nat × Option FieldType} {b : Nat × Nat} {pc q : Nat} {st : List Value} {n : Nat} {I : MI} {Q : MQ2} {F : Post} {a0 a1 a2 a3 a4 a5 a6 a7 : Option Value} {t : List (Option Value)} {x v : Int32} {z : Int} (hd : DR cc pc (.iinc 8 z) 3 q) (hv : x + Int32.ofInt z = v) (hn : Nat.ble (8 + 1) mr.1 = true) (ho : okst (a0 :: a1 :: a2 :: a3 :: a4 :: a5 :: a6 :: a7 :: some (.int x) :: t) 8 = true) (k : X r d y cc mr b q (a0 :: a1 :: a2 :: a3 :: a4 :: a5 :: a6 :: a7 :: some (.int v) :: t) st n I Q F) : X r d y cc mr b pc (a0 :: a1 :: a2 :: a3 :: a4 :: a5 :: a6 :: a7 :: some (.int x) :: t) st n I Q F := by
  intro p e s m args below meth c H locs cells slots mc ms R ls Qf C hW hS hl h1 h2 fin
  obtain ⟨hd, rfl⟩ := hd
  obtain ⟨j, hj⟩ := List.getElem?_of_mem (lvs_mem (lv := (a0 :: a1 :: a2 :: a3 :: a4 :: a5 :: a6 :: a7 :: some (.int x) :: t)) (i := 8) (v := .int x) rfl)
  exact lv_iinc C.1 C.2.1 hd (lvs_list hl) hj hv (Nat.le_of_ble_eq_true hn) rfl (fun ls' hs => k _ _ _ _ _ _ _ _ _ _ _ _ _ _ _ _ _ C hW hS (lvs_put hs ho) h1 h2 fin)
theorem x_istore_9 {r : Ev} {d : Nat} {y : MethodName} {cc : ByteArray} {mr : Nat × Option FieldType} {b : Nat × Nat} {pc q : Nat} {st : List Value} {n : Nat} {I : MI} {Q : MQ2} {F : Post} {a0 a1 a2 a3 a4 a5 a6 a7 a8 a9 : Option Value} {t : List (Option Value)} {x : Int32} (hd : DR cc pc (.istore 9) 2 q) (hn : Nat.ble (9 + 1) mr.1 = true) (ho : okst (a0 :: a1 :: a2 :: a3 :: a4 :: a5 :: a6 :: a7 :: a8 :: a9 :: t) 9 = true) (k : X r d y cc mr b q (a0 :: a1 :: a2 :: a3 :: a4 :: a5 :: a6 :: a7 :: a8 :: some (.int x) :: t) st n I Q F) : X r d y cc mr b pc (a0 :: a1 :: a2 :: a3 :: a4 :: a5 :: a6 :: a7 :: a8 :: a9 :: t) (.int x :: st) n I Q F := by
  intro p e s m args below meth c H locs cells slots mc ms R ls Qf C hW hS hl h1 h2 fin
  obtain ⟨hd, rfl⟩ := hd
  exact lv_istore C.1 C.2.1 hd (lvs_list hl) (Nat.le_of_ble_eq_true hn) rfl (fun ls' hs => k _ _ _ _ _ _ _ _ _ _ _ _ _ _ _ _ _ C hW hS (lvs_put hs ho) h1 h2 fin)
theorem x_astore_9 {r : Ev} {d : Nat} {y : MethodName} {cc : ByteArray} {mr : Nat × Option FieldType} {b : Nat × Nat} {pc q : Nat} {st : List Value} {n : Nat} {I : MI} {Q : MQ2} {F : Post} {a0 a1 a2 a3 a4 a5 a6 a7 a8 a9 : Option Value} {t : List (Option Value)} {x : Nat} (hd : DR cc pc (.astore 9) 2 q) (hn : Nat.ble (9 + 1) mr.1 = true) (ho : okst (a0 :: a1 :: a2 :: a3 :: a4 :: a5 :: a6 :: a7 :: a8 :: a9 :: t) 9 = true) (k : X r d y cc mr b q (a0 :: a1 :: a2 :: a3 :: a4 :: a5 :: a6 :: a7 :: a8 :: some (.ref x) :: t) st n I Q F) : X r d y cc mr b pc (a0 :: a1 :: a2 :: a3 :: a4 :: a5 :: a6 :: a7 :: a8 :: a9 :: t) (.ref x :: st) n I Q F := by
  intro p e s m args below meth c H locs cells slots mc ms R ls Qf C hW hS hl h1 h2 fin
  obtain ⟨hd, rfl⟩ := hd
  exact lv_astore C.1 C.2.1 hd (lvs_list hl) (Nat.le_of_ble_eq_true hn) rfl (fun ls' hs => k _ _ _ _ _ _ _ _ _ _ _ _ _ _ _ _ _ C hW hS (lvs_put hs ho) h1 h2 fin)
theorem x_iinc_9 {r : Ev} {d : Nat} {y : MethodName} {cc : ByteArray} {mr : Nat × Option FieldType} {b : Nat × Nat} {pc q : Nat} {st : List Value} {n : Nat} {I : MI} {Q : MQ2} {F : Post} {a0 a1 a2 a3 a4 a5 a6 a7 a8 : Option Value} {t : List (Option Value)} {x v : Int32} {z : Int} (hd : DR cc pc (.iinc 9 z) 3 q) (hv : x + Int32.ofInt z = v) (hn : Nat.ble (9 + 1) mr.1 = true) (ho : okst (a0 :: a1 :: a2 :: a3 :: a4 :: a5 :: a6 :: a7 :: a8 :: some (.int x) :: t) 9 = true) (k : X r d y cc mr b q (a0 :: a1 :: a2 :: a3 :: a4 :: a5 :: a6 :: a7 :: a8 :: some (.int v) :: t) st n I Q F) : X r d y cc mr b pc (a0 :: a1 :: a2 :: a3 :: a4 :: a5 :: a6 :: a7 :: a8 :: some (.int x) :: t) st n I Q F := by
  intro p e s m args below meth c H locs cells slots mc ms R ls Qf C hW hS hl h1 h2 fin
  obtain ⟨hd, rfl⟩ := hd
  obtain ⟨j, hj⟩ := List.getElem?_of_mem (lvs_mem (lv := (a0 :: a1 :: a2 :: a3 :: a4 :: a5 :: a6 :: a7 :: a8 :: some (.int x) :: t)) (i := 9) (v := .int x) rfl)
  exact lv_iinc C.1 C.2.1 hd (lvs_list hl) hj hv (Nat.le_of_ble_eq_true hn) rfl (fun ls' hs => k _ _ _ _ _ _ _ _ _ _ _ _ _ _ _ _ _ C hW hS (lvs_put hs ho) h1 h2 fin)
theorem x_istore_10 {r : Ev} {d : Nat} {y : MethodName} {cc : ByteArray} {mr : Nat × Option FieldType} {b : Nat × Nat} {pc q : Nat} {st : List Value} {n : Nat} {I : MI} {Q : MQ2} {F : Post} {a0 a1 a2 a3 a4 a5 a6 a7 a8 a9 a10 : Option Value} {t : List (Option Value)} {x : Int32} (hd : DR cc pc (.istore 10) 2 q) (hn : Nat.ble (10 + 1) mr.1 = true) (ho : okst (a0 :: a1 :: a2 :: a3 :: a4 :: a5 :: a6 :: a7 :: a8 :: a9 :: a10 :: t) 10 = true) (k : X r d y cc mr b q (a0 :: a1 :: a2 :: a3 :: a4 :: a5 :: a6 :: a7 :: a8 :: a9 :: some (.int x) :: t) st n I Q F) : X r d y cc mr b pc (a0 :: a1 :: a2 :: a3 :: a4 :: a5 :: a6 :: a7 :: a8 :: a9 :: a10 :: t) (.int x :: st) n I Q F := by
  intro p e s m args below meth c H locs cells slots mc ms R ls Qf C hW hS hl h1 h2 fin
  obtain ⟨hd, rfl⟩ := hd
  exact lv_istore C.1 C.2.1 hd (lvs_list hl) (Nat.le_of_ble_eq_true hn) rfl (fun ls' hs => k _ _ _ _ _ _ _ _ _ _ _ _ _ _ _ _ _ C hW hS (lvs_put hs ho) h1 h2 fin)
theorem x_astore_10 {r : Ev} {d : Nat} {y : MethodName} {cc : ByteArray} {mr : Nat × Option FieldType} {b : Nat × Nat} {pc q : Nat} {st : List Value} {n : Nat} {I : MI} {Q : MQ2} {F : Post} {a0 a1 a2 a3 a4 a5 a6 a7 a8 a9 a10 : Option Value} {t : List (Option Value)} {x : Nat} (hd : DR cc pc (.astore 10) 2 q) (hn : Nat.ble (10 + 1) mr.1 = true) (ho : okst (a0 :: a1 :: a2 :: a3 :: a4 :: a5 :: a6 :: a7 :: a8 :: a9 :: a10 :: t) 10 = true) (k : X r d y cc mr b q (a0 :: a1 :: a2 :: a3 :: a4 :: a5 :: a6 :: a7 :: a8 :: a9 :: some (.ref x) :: t) st n I Q F) : X r d y cc mr b pc (a0 :: a1 :: a2 :: a3 :: a4 :: a5 :: a6 :: a7 :: a8 :: a9 :: a10 :: t) (.ref x :: st) n I Q F := by
  intro p e s m args below meth c H locs cells slots mc ms R ls Qf C hW hS hl h1 h2 fin
  obtain ⟨hd, rfl⟩ := hd
  exact lv_astore C.1 C.2.1 hd (lvs_list hl) (Nat.le_of_ble_eq_true hn) rfl (fun ls' hs => k _ _ _ _ _ _ _ _ _ _ _ _ _ _ _ _ _ C hW hS (lvs_put hs ho) h1 h2 fin)
theorem x_iinc_10 {r : Ev} {d : Nat} {y : MethodName} {cc : ByteArray} {mr : Nat × Option FieldType} {b : Nat × Nat} {pc q : Nat} {st : List Value} {n : Nat} {I : MI} {Q : MQ2} {F : Post} {a0 a1 a2 a3 a4 a5 a6 a7 a8 a9 : Option Value} {t : List (Option Value)} {x v : Int32} {z : Int} (hd : DR cc pc (.iinc 10 z) 3 q) (hv : x + Int32.ofInt z = v) (hn : Nat.ble (10 + 1) mr.1 = true) (ho : okst (a0 :: a1 :: a2 :: a3 :: a4 :: a5 :: a6 :: a7 :: a8 :: a9 :: some (.int x) :: t) 10 = true) (k : X r d y cc mr b q (a0 :: a1 :: a2 :: a3 :: a4 :: a5 :: a6 :: a7 :: a8 :: a9 :: some (.int v) :: t) st n I Q F) : X r d y cc mr b pc (a0 :: a1 :: a2 :: a3 :: a4 :: a5 :: a6 :: a7 :: a8 :: a9 :: some (.int x) :: t) st n I Q F := by
  intro p e s m args below meth c H locs cells slots mc ms R ls Qf C hW hS hl h1 h2 fin
  obtain ⟨hd, rfl⟩ := hd
  obtain ⟨j, hj⟩ := List.getElem?_of_mem (lvs_mem (lv := (a0 :: a1 :: a2 :: a3 :: a4 :: a5 :: a6 :: a7 :: a8 :: a9 :: some (.int x) :: t)) (i := 10) (v := .int x) rfl)
  exact lv_iinc C.1 C.2.1 hd (lvs_list hl) hj hv (Nat.le_of_ble_eq_true hn) rfl (fun ls' hs => k _ _ _ _ _ _ _ _ _ _ _ _ _ _ _ _ _ C hW hS (lvs_put hs ho) h1 h2 fin)
theorem x_istore_11 {r : Ev} {d : Nat} {y : MethodName} {cc : ByteArray} {mr : Nat × Option FieldType} {b : Nat × Nat} {pc q : Nat} {st : List Value} {n : Nat} {I : MI} {Q : MQ2} {F : Post} {a0 a1 a2 a3 a4 a5 a6 a7 a8 a9 a10 a11 : Option Value} {t : List (Option Value)} {x : Int32} (hd : DR cc pc (.istore 11) 2 q) (hn : Nat.ble (11 + 1) mr.1 = true) (ho : okst (a0 :: a1 :: a2 :: a3 :: a4 :: a5 :: a6 :: a7 :: a8 :: a9 :: a10 :: a11 :: t) 11 = true) (k : X r d y cc mr b q (a0 :: a1 :: a2 :: a3 :: a4 :: a5 :: a6 :: a7 :: a8 :: a9 :: a10 :: some (.int x) :: t) st n I Q F) : X r d y cc mr b pc (a0 :: a1 :: a2 :: a3 :: a4 :: a5 :: a6 :: a7 :: a8 :: a9 :: a10 :: a11 :: t) (.int x :: st) n I Q F := by
  intro p e s m args below meth c H locs cells slots mc ms R ls Qf C hW hS hl h1 h2 fin
  obtain ⟨hd, rfl⟩ := hd
  exact lv_istore C.1 C.2.1 hd (lvs_list hl) (Nat.le_of_ble_eq_true hn) rfl (fun ls' hs => k _ _ _ _ _ _ _ _ _ _ _ _ _ _ _ _ _ C hW hS (lvs_put hs ho) h1 h2 fin)
theorem x_astore_11 {r : Ev} {d : Nat} {y : MethodName} {cc : ByteArray} {mr : Nat × Option FieldType} {b : Nat × Nat} {pc q : Nat} {st : List Value} {n : Nat} {I : MI} {Q : MQ2} {F : Post} {a0 a1 a2 a3 a4 a5 a6 a7 a8 a9 a10 a11 : Option Value} {t : List (Option Value)} {x : Nat} (hd : DR cc pc (.astore 11) 2 q) (hn : Nat.ble (11 + 1) mr.1 = true) (ho : okst (a0 :: a1 :: a2 :: a3 :: a4 :: a5 :: a6 :: a7 :: a8 :: a9 :: a10 :: a11 :: t) 11 = true) (k : X r d y cc mr b q (a0 :: a1 :: a2 :: a3 :: a4 :: a5 :: a6 :: a7 :: a8 :: a9 :: a10 :: some (.ref x) :: t) st n I Q F) : X r d y cc mr b pc (a0 :: a1 :: a2 :: a3 :: a4 :: a5 :: a6 :: a7 :: a8 :: a9 :: a10 :: a11 :: t) (.ref x :: st) n I Q F := by
  intro p e s m args below meth c H locs cells slots mc ms R ls Qf C hW hS hl h1 h2 fin
  obtain ⟨hd, rfl⟩ := hd
  exact lv_astore C.1 C.2.1 hd (lvs_list hl) (Nat.le_of_ble_eq_true hn) rfl (fun ls' hs => k _ _ _ _ _ _ _ _ _ _ _ _ _ _ _ _ _ C hW hS (lvs_put hs ho) h1 h2 fin)
theorem x_iinc_11 {r : Ev} {d : Nat} {y : MethodName} {cc : ByteArray} {mr : Nat × Option FieldType} {b : Nat × Nat} {pc q : Nat} {st : List Value} {n : Nat} {I : MI} {Q : MQ2} {F : Post} {a0 a1 a2 a3 a4 a5 a6 a7 a8 a9 a10 : Option Value} {t : List (Option Value)} {x v : Int32} {z : Int} (hd : DR cc pc (.iinc 11 z) 3 q) (hv : x + Int32.ofInt z = v) (hn : Nat.ble (11 + 1) mr.1 = true) (ho : okst (a0 :: a1 :: a2 :: a3 :: a4 :: a5 :: a6 :: a7 :: a8 :: a9 :: a10 :: some (.int x) :: t) 11 = true) (k : X r d y cc mr b q (a0 :: a1 :: a2 :: a3 :: a4 :: a5 :: a6 :: a7 :: a8 :: a9 :: a10 :: some (.int v) :: t) st n I Q F) : X r d y cc mr b pc (a0 :: a1 :: a2 :: a3 :: a4 :: a5 :: a6 :: a7 :: a8 :: a9 :: a10 :: some (.int x) :: t) st n I Q F := by
  intro p e s m args below meth c H locs cells slots mc ms R ls Qf C hW hS hl h1 h2 fin
  obtain ⟨hd, rfl⟩ := hd
  obtain ⟨j, hj⟩ := List.getElem?_of_mem (lvs_mem (lv := (a0 :: a1 :: a2 :: a3 :: a4 :: a5 :: a6 :: a7 :: a8 :: a9 :: a10 :: some (.int x) :: t)) (i := 11) (v := .int x) rfl)
  exact lv_iinc C.1 C.2.1 hd (lvs_list hl) hj hv (Nat.le_of_ble_eq_true hn) rfl (fun ls' hs => k _ _ _ _ _ _ _ _ _ _ _ _ _ _ _ _ _ C hW hS (lvs_put hs ho) h1 h2 fin)
theorem x_istore_12 {r : Ev} {d : Nat} {y : MethodName} {cc : ByteArray} {mr : Nat × Option FieldType} {b : Nat × Nat} {pc q : Nat} {st : List Value} {n : Nat} {I : MI} {Q : MQ2} {F : Post} {a0 a1 a2 a3 a4 a5 a6 a7 a8 a9 a10 a11 a12 : Option Value} {t : List (Option Value)} {x : Int32} (hd : DR cc pc (.istore 12) 2 q) (hn : Nat.ble (12 + 1) mr.1 = true) (ho : okst (a0 :: a1 :: a2 :: a3 :: a4 :: a5 :: a6 :: a7 :: a8 :: a9 :: a10 :: a11 :: a12 :: t) 12 = true) (k : X r d y cc mr b q (a0 :: a1 :: a2 :: a3 :: a4 :: a5 :: a6 :: a7 :: a8 :: a9 :: a10 :: a11 :: some (.int x) :: t) st n I Q F) : X r d y cc mr b pc (a0 :: a1 :: a2 :: a3 :: a4 :: a5 :: a6 :: a7 :: a8 :: a9 :: a10 :: a11 :: a12 :: t) (.int x :: st) n I Q F := by
  intro p e s m args below meth c H locs cells slots mc ms R ls Qf C hW hS hl h1 h2 fin
  obtain ⟨hd, rfl⟩ := hd
  exact lv_istore C.1 C.2.1 hd (lvs_list hl) (Nat.le_of_ble_eq_true hn) rfl (fun ls' hs => k _ _ _ _ _ _ _ _ _ _ _ _ _ _ _ _ _ C hW hS (lvs_put hs ho) h1 h2 fin)
theorem x_astore_12 {r : Ev} {d : Nat} {y : MethodName} {cc : ByteArray} {mr : Nat × Option FieldType} {b : Nat × Nat} {pc q : Nat} {st : List Value} {n : Nat} {I : MI} {Q : MQ2} {F : Post} {a0 a1 a2 a3 a4 a5 a6 a7 a8 a9 a10 a11 a12 : Option Value} {t : List (Option Value)} {x : Nat} (hd : DR cc pc (.astore 12) 2 q) (hn : Nat.ble (12 + 1) mr.1 = true) (ho : okst (a0 :: a1 :: a2 :: a3 :: a4 :: a5 :: a6 :: a7 :: a8 :: a9 :: a10 :: a11 :: a12 :: t) 12 = true) (k : X r d y cc mr b q (a0 :: a1 :: a2 :: a3 :: a4 :: a5 :: a6 :: a7 :: a8 :: a9 :: a10 :: a11 :: some (.ref x) :: t) st n I Q F) : X r d y cc mr b pc (a0 :: a1 :: a2 :: a3 :: a4 :: a5 :: a6 :: a7 :: a8 :: a9 :: a10 :: a11 :: a12 :: t) (.ref x :: st) n I Q F := by
  intro p e s m args below meth c H locs cells slots mc ms R ls Qf C hW hS hl h1 h2 fin
  obtain ⟨hd, rfl⟩ := hd
  exact lv_astore C.1 C.2.1 hd (lvs_list hl) (Nat.le_of_ble_eq_true hn) rfl (fun ls' hs => k _ _ _ _ _ _ _ _ _ _ _ _ _ _ _ _ _ C hW hS (lvs_put hs ho) h1 h2 fin)
theorem x_iinc_12 {r : Ev} {d : Nat} {y : MethodName} {cc : ByteArray} {mr : Nat × Option FieldType} {b : Nat × Nat} {pc q : Nat} {st : List Value} {n : Nat} {I : MI} {Q : MQ2} {F : Post} {a0 a1 a2 a3 a4 a5 a6 a7 a8 a9 a10 a11 : Option Value} {t : List (Option Value)} {x v : Int32} {z : Int} (hd : DR cc pc (.iinc 12 z) 3 q) (hv : x + Int32.ofInt z = v) (hn : Nat.ble (12 + 1) mr.1 = true) (ho : okst (a0 :: a1 :: a2 :: a3 :: a4 :: a5 :: a6 :: a7 :: a8 :: a9 :: a10 :: a11 :: some (.int x) :: t) 12 = true) (k : X r d y cc mr b q (a0 :: a1 :: a2 :: a3 :: a4 :: a5 :: a6 :: a7 :: a8 :: a9 :: a10 :: a11 :: some (.int v) :: t) st n I Q F) : X r d y cc mr b pc (a0 :: a1 :: a2 :: a3 :: a4 :: a5 :: a6 :: a7 :: a8 :: a9 :: a10 :: a11 :: some (.int x) :: t) st n I Q F := by
  intro p e s m args below meth c H locs cells slots mc ms R ls Qf C hW hS hl h1 h2 fin
  obtain ⟨hd, rfl⟩ := hd
  obtain ⟨j, hj⟩ := List.getElem?_of_mem (lvs_mem (lv := (a0 :: a1 :: a2 :: a3 :: a4 :: a5 :: a6 :: a7 :: a8 :: a9 :: a10 :: a11 :: some (.int x) :: t)) (i := 12) (v := .int x) rfl)
  exact lv_iinc C.1 C.2.1 hd (lvs_list hl) hj hv (Nat.le_of_ble_eq_true hn) rfl (fun ls' hs => k _ _ _ _ _ _ _ _ _ _ _ _ _ _ _ _ _ C hW hS (lvs_put hs ho) h1 h2 fin)
theorem x_lstore_0 {r : Ev} {d : Nat} {y : MethodName} {cc : ByteArray} {mr : Nat × Option FieldType} {b : Nat × Nat} {pc q : Nat} {st : List Value} {n : Nat} {I : MI} {Q : MQ2} {F : Post} {a0 a1 : Option Value} {t : List (Option Value)} {x : Int64} (hd : DR cc pc (.lstore_n 0) 1 q) (hn : Nat.ble (0 + 2) mr.1 = true) (ho : okst (a0 :: a1 :: t) 0 = true) (k : X r d y cc mr b q (some (.long x) :: none :: t) st n I Q F) : X r d y cc mr b pc (a0 :: a1 :: t) (.long x :: st) n I Q F := by
  intro p e s m args below meth c H locs cells slots mc ms R ls Qf C hW hS hl h1 h2 fin
  obtain ⟨hd, rfl⟩ := hd
  exact lv_lstore_n C.1 C.2.1 hd rfl (lvs_list hl) (Nat.le_of_ble_eq_true hn) rfl (fun ls' hs => k _ _ _ _ _ _ _ _ _ _ _ _ _ _ _ _ _ C hW hS (lvs_putL hs ho) h1 h2 fin)
theorem x_lstore_1 {r : Ev} {d : Nat} {y : MethodName} {cc : ByteArray} {mr : Nat × Option FieldType} {b : Nat × Nat} {pc q : Nat} {st : List Value} {n : Nat} {I : MI} {Q : MQ2} {F : Post} {a0 a1 a2 : Option Value} {t : List (Option Value)} {x : Int64} (hd : DR cc pc (.lstore_n 1) 1 q) (hn : Nat.ble (1 + 2) mr.1 = true) (ho : okst (a0 :: a1 :: a2 :: t) 1 = true) (k : X r d y cc mr b q (a0 :: some (.long x) :: none :: t) st n I Q F) : X r d y cc mr b pc (a0 :: a1 :: a2 :: t) (.long x :: st) n I Q F := by
  intro p e s m args below meth c H locs cells slots mc ms R ls Qf C hW hS hl h1 h2 fin
  obtain ⟨hd, rfl⟩ := hd
  exact lv_lstore_n C.1 C.2.1 hd rfl (lvs_list hl) (Nat.le_of_ble_eq_true hn) rfl (fun ls' hs => k _ _ _ _ _ _ _ _ _ _ _ _ _ _ _ _ _ C hW hS (lvs_putL hs ho) h1 h2 fin)
theorem x_lstore_2 {r : Ev} {d : Nat} {y : MethodName} {cc : ByteArray} {mr : Nat × Option FieldType} {b : Nat × Nat} {pc q : Nat} {st : List Value} {n : Nat} {I : MI} {Q : MQ2} {F : Post} {a0 a1 a2 a3 : Option Value} {t : List (Option Value)} {x : Int64} (hd : DR cc pc (.lstore_n 2) 1 q) (hn : Nat.ble (2 + 2) mr.1 = true) (ho : okst (a0 :: a1 :: a2 :: a3 :: t) 2 = true) (k : X r d y cc mr b q (a0 :: a1 :: some (.long x) :: none :: t) st n I Q F) : X r d y cc mr b pc (a0 :: a1 :: a2 :: a3 :: t) (.long x :: st) n I Q F := by
  intro p e s m args below meth c H locs cells slots mc ms R ls Qf C hW hS hl h1 h2 fin
  obtain ⟨hd, rfl⟩ := hd
  exact lv_lstore_n C.1 C.2.1 hd rfl (lvs_list hl) (Nat.le_of_ble_eq_true hn) rfl (fun ls' hs => k _ _ _ _ _ _ _ _ _ _ _ _ _ _ _ _ _ C hW hS (lvs_putL hs ho) h1 h2 fin)
theorem x_lstore_3 {r : Ev} {d : Nat} {y : MethodName} {cc : ByteArray} {mr : Nat × Option FieldType} {b : Nat × Nat} {pc q : Nat} {st : List Value} {n : Nat} {I : MI} {Q : MQ2} {F : Post} {a0 a1 a2 a3 a4 : Option Value} {t : List (Option Value)} {x : Int64} (hd : DR cc pc (.lstore_n 3) 1 q) (hn : Nat.ble (3 + 2) mr.1 = true) (ho : okst (a0 :: a1 :: a2 :: a3 :: a4 :: t) 3 = true) (k : X r d y cc mr b q (a0 :: a1 :: a2 :: some (.long x) :: none :: t) st n I Q F) : X r d y cc mr b pc (a0 :: a1 :: a2 :: a3 :: a4 :: t) (.long x :: st) n I Q F := by
  intro p e s m args below meth c H locs cells slots mc ms R ls Qf C hW hS hl h1 h2 fin
  obtain ⟨hd, rfl⟩ := hd
  exact lv_lstore_n C.1 C.2.1 hd rfl (lvs_list hl) (Nat.le_of_ble_eq_true hn) rfl (fun ls' hs => k _ _ _ _ _ _ _ _ _ _ _ _ _ _ _ _ _ C hW hS (lvs_putL hs ho) h1 h2 fin)
theorem x_lstore_4 {r : Ev} {d : Nat} {y : MethodName} {cc : ByteArray} {mr : Nat × Option FieldType} {b : Nat × Nat} {pc q : Nat} {st : List Value} {n : Nat} {I : MI} {Q : MQ2} {F : Post} {a0 a1 a2 a3 a4 a5 : Option Value} {t : List (Option Value)} {x : Int64} (hd : DR cc pc (.lstore 4) 2 q) (hn : Nat.ble (4 + 2) mr.1 = true) (ho : okst (a0 :: a1 :: a2 :: a3 :: a4 :: a5 :: t) 4 = true) (k : X r d y cc mr b q (a0 :: a1 :: a2 :: a3 :: some (.long x) :: none :: t) st n I Q F) : X r d y cc mr b pc (a0 :: a1 :: a2 :: a3 :: a4 :: a5 :: t) (.long x :: st) n I Q F := by
  intro p e s m args below meth c H locs cells slots mc ms R ls Qf C hW hS hl h1 h2 fin
  obtain ⟨hd, rfl⟩ := hd
  exact lv_lstore C.1 C.2.1 hd (lvs_list hl) (Nat.le_of_ble_eq_true hn) rfl (fun ls' hs => k _ _ _ _ _ _ _ _ _ _ _ _ _ _ _ _ _ C hW hS (lvs_putL hs ho) h1 h2 fin)
theorem x_lstore_5 {r : Ev} {d : Nat} {y : MethodName} {cc : ByteArray} {mr : Nat × Option FieldType} {b : Nat × Nat} {pc q : Nat} {st : List Value} {n : Nat} {I : MI} {Q : MQ2} {F : Post} {a0 a1 a2 a3 a4 a5 a6 : Option Value} {t : List (Option Value)} {x : Int64} (hd : DR cc pc (.lstore 5) 2 q) (hn : Nat.ble (5 + 2) mr.1 = true) (ho : okst (a0 :: a1 :: a2 :: a3 :: a4 :: a5 :: a6 :: t) 5 = true) (k : X r d y cc mr b q (a0 :: a1 :: a2 :: a3 :: a4 :: some (.long x) :: none :: t) st n I Q F) : X r d y cc mr b pc (a0 :: a1 :: a2 :: a3 :: a4 :: a5 :: a6 :: t) (.long x :: st) n I Q F := by
  intro p e s m args below meth c H locs cells slots mc ms R ls Qf C hW hS hl h1 h2 fin
  obtain ⟨hd, rfl⟩ := hd
  exact lv_lstore C.1 C.2.1 hd (lvs_list hl) (Nat.le_of_ble_eq_true hn) rfl (fun ls' hs => k _ _ _ _ _ _ _ _ _ _ _ _ _ _ _ _ _ C hW hS (lvs_putL hs ho) h1 h2 fin)
theorem x_lstore_6 {r : Ev} {d : Nat} {y : MethodName} {cc : ByteArray} {mr : Nat × Option FieldType} {b : Nat × Nat} {pc q : Nat} {st : List Value} {n : Nat} {I : MI} {Q : MQ2} {F : Post} {a0 a1 a2 a3 a4 a5 a6 a7 : Option Value} {t : List (Option Value)} {x : Int64} (hd : DR cc pc (.lstore 6) 2 q) (hn : Nat.ble (6 + 2) mr.1 = true) (ho : okst (a0 :: a1 :: a2 :: a3 :: a4 :: a5 :: a6 :: a7 :: t) 6 = true) (k : X r d y cc mr b q (a0 :: a1 :: a2 :: a3 :: a4 :: a5 :: some (.long x) :: none :: t) st n I Q F) : X r d y cc mr b pc (a0 :: a1 :: a2 :: a3 :: a4 :: a5 :: a6 :: a7 :: t) (.long x :: st) n I Q F := by
  intro p e s m args below meth c H locs cells slots mc ms R ls Qf C hW hS hl h1 h2 fin
  obtain ⟨hd, rfl⟩ := hd
  exact lv_lstore C.1 C.2.1 hd (lvs_list hl) (Nat.le_of_ble_eq_true hn) rfl (fun ls' hs => k _ _ _ _ _ _ _ _ _ _ _ _ _ _ _ _ _ C hW hS (lvs_putL hs ho) h1 h2 fin)
theorem x_lstore_7 {r : Ev} {d : Nat} {y : MethodName} {cc : ByteArray} {mr : Nat × Option FieldType} {b : Nat × Nat} {pc q : Nat} {st : List Value} {n : Nat} {I : MI} {Q : MQ2} {F : Post} {a0 a1 a2 a3 a4 a5 a6 a7 a8 : Option Value} {t : List (Option Value)} {x : Int64} (hd : DR cc pc (.lstore 7) 2 q) (hn : Nat.ble (7 + 2) mr.1 = true) (ho : okst (a0 :: a1 :: a2 :: a3 :: a4 :: a5 :: a6 :: a7 :: a8 :: t) 7 = true) (k : X r d y cc mr b q (a0 :: a1 :: a2 :: a3 :: a4 :: a5 :: a6 :: some (.long x) :: none :: t) st n I Q F) : X r d y cc mr b pc (a0 :: a1 :: a2 :: a3 :: a4 :: a5 :: a6 :: a7 :: a8 :: t) (.long x :: st) n I Q F := by
  intro p e s m args below meth c H locs cells slots mc ms R ls Qf C hW hS hl h1 h2 fin
  obtain ⟨hd, rfl⟩ := hd
  exact lv_lstore C.1 C.2.1 hd (lvs_list hl) (Nat.le_of_ble_eq_true hn) rfl (fun ls' hs => k _ _ _ _ _ _ _ _ _ _ _ _ _ _ _ _ _ C hW hS (lvs_putL hs ho) h1 h2 fin)
theorem x_lstore_8 {r : Ev} {d : Nat} {y : MethodName} {cc : ByteArray} {mr : Nat × Option FieldType} {b : Nat × Nat} {pc q : Nat} {st : List Value} {n : Nat} {I : MI} {Q : MQ2} {F : Post} {a0 a1 a2 a3 a4 a5 a6 a7 a8 a9 : Option Value} {t : List (Option Value)} {x : Int64} (hd : DR cc pc (.lstore 8) 2 q) (hn : Nat.ble (8 + 2) mr.1 = true) (ho : okst (a0 :: a1 :: a2 :: a3 :: a4 :: a5 :: a6 :: a7 :: a8 :: a9 :: t) 8 = true) (k : X r d y cc mr b q (a0 :: a1 :: a2 :: a3 :: a4 :: a5 :: a6 :: a7 :: some (.long x) :: none :: t) st n I Q F) : X r d y cc mr b pc (a0 :: a1 :: a2 :: a3 :: a4 :: a5 :: a6 :: a7 :: a8 :: a9 :: t) (.long x :: st) n I Q F := by
  intro p e s m args below meth c H locs cells slots mc ms R ls Qf C hW hS hl h1 h2 fin
  obtain ⟨hd, rfl⟩ := hd
  exact lv_lstore C.1 C.2.1 hd (lvs_list hl) (Nat.le_of_ble_eq_true hn) rfl (fun ls' hs => k _ _ _ _ _ _ _ _ _ _ _ _ _ _ _ _ _ C hW hS (lvs_putL hs ho) h1 h2 fin)
theorem x_lstore_9 {r : Ev} {d : Nat} {y : MethodName} {cc : ByteArray} {mr : Nat × Option FieldType} {b : Nat × Nat} {pc q : Nat} {st : List Value} {n : Nat} {I : MI} {Q : MQ2} {F : Post} {a0 a1 a2 a3 a4 a5 a6 a7 a8 a9 a10 : Option Value} {t : List (Option Value)} {x : Int64} (hd : DR cc pc (.lstore 9) 2 q) (hn : Nat.ble (9 + 2) mr.1 = true) (ho : okst (a0 :: a1 :: a2 :: a3 :: a4 :: a5 :: a6 :: a7 :: a8 :: a9 :: a10 :: t) 9 = true) (k : X r d y cc mr b q (a0 :: a1 :: a2 :: a3 :: a4 :: a5 :: a6 :: a7 :: a8 :: some (.long x) :: none :: t) st n I Q F) : X r d y cc mr b pc (a0 :: a1 :: a2 :: a3 :: a4 :: a5 :: a6 :: a7 :: a8 :: a9 :: a10 :: t) (.long x :: st) n I Q F := by
  intro p e s m args below meth c H locs cells slots mc ms R ls Qf C hW hS hl h1 h2 fin
  obtain ⟨hd, rfl⟩ := hd
  exact lv_lstore C.1 C.2.1 hd (lvs_list hl) (Nat.le_of_ble_eq_true hn) rfl (fun ls' hs => k _ _ _ _ _ _ _ _ _ _ _ _ _ _ _ _ _ C hW hS (lvs_putL hs ho) h1 h2 fin)
theorem x_lstore_10 {r : Ev} {d : Nat} {y : MethodName} {cc : ByteArray} {mr : Nat × Option FieldType} {b : Nat × Nat} {pc q : Nat} {st : List Value} {n : Nat} {I : MI} {Q : MQ2} {F : Post} {a0 a1 a2 a3 a4 a5 a6 a7 a8 a9 a10 a11 : Option Value} {t : List (Option Value)} {x : Int64} (hd : DR cc pc (.lstore 10) 2 q) (hn : Nat.ble (10 + 2) mr.1 = true) (ho : okst (a0 :: a1 :: a2 :: a3 :: a4 :: a5 :: a6 :: a7 :: a8 :: a9 :: a10 :: a11 :: t) 10 = true) (k : X r d y cc mr b q (a0 :: a1 :: a2 :: a3 :: a4 :: a5 :: a6 :: a7 :: a8 :: a9 :: some (.long x) :: none :: t) st n I Q F) : X r d y cc mr b pc (a0 :: a1 :: a2 :: a3 :: a4 :: a5 :: a6 :: a7 :: a8 :: a9 :: a10 :: a11 :: t) (.long x :: st) n I Q F := by
  intro p e s m args below meth c H locs cells slots mc ms R ls Qf C hW hS hl h1 h2 fin
  obtain ⟨hd, rfl⟩ := hd
  exact lv_lstore C.1 C.2.1 hd (lvs_list hl) (Nat.le_of_ble_eq_true hn) rfl (fun ls' hs => k _ _ _ _ _ _ _ _ _ _ _ _ _ _ _ _ _ C hW hS (lvs_putL hs ho) h1 h2 fin)
theorem x_lstore_11 {r : Ev} {d : Nat} {y : MethodName} {cc : ByteArray} {mr : Nat × Option FieldType} {b : Nat × Nat} {pc q : Nat} {st : List Value} {n : Nat} {I : MI} {Q : MQ2} {F : Post} {a0 a1 a2 a3 a4 a5 a6 a7 a8 a9 a10 a11 a12 : Option Value} {t : List (Option Value)} {x : Int64} (hd : DR cc pc (.lstore 11) 2 q) (hn : Nat.ble (11 + 2) mr.1 = true) (ho : okst (a0 :: a1 :: a2 :: a3 :: a4 :: a5 :: a6 :: a7 :: a8 :: a9 :: a10 :: a11 :: a12 :: t) 11 = true) (k : X r d y cc mr b q (a0 :: a1 :: a2 :: a3 :: a4 :: a5 :: a6 :: a7 :: a8 :: a9 :: a10 :: some (.long x) :: none :: t) st n I Q F) : X r d y cc mr b pc (a0 :: a1 :: a2 :: a3 :: a4 :: a5 :: a6 :: a7 :: a8 :: a9 :: a10 :: a11 :: a12 :: t) (.long x :: st) n I Q F := by
  intro p e s m args below meth c H locs cells slots mc ms R ls Qf C hW hS hl h1 h2 fin
  obtain ⟨hd, rfl⟩ := hd
  exact lv_lstore C.1 C.2.1 hd (lvs_list hl) (Nat.le_of_ble_eq_true hn) rfl (fun ls' hs => k _ _ _ _ _ _ _ _ _ _ _ _ _ _ _ _ _ C hW hS (lvs_putL hs ho) h1 h2 fin)
