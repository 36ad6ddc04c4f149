/-! the text's cells: the text at a, its letters at a + 1 -/
def TxB (n : Nat) (Q : MQ2) (a : Nat) : Prop := Ob n 6 a ∧ Ar n 10 (a + 1) 200 ∧ Q a 0 = some (a + 1)
def txp (I : MI) (a m : Nat) (T : Nat → Nat) : Prop := I a 1 = nI m ∧ ∀ k, k < m → I (a + 1) k = nI (T k)
def ltr (T : Nat → Nat) (m k : Nat) : Nat := if k < m then T k else 0
theorem charN {q : Nat} (h : q < 65536) : vp_nar .char (nI q) = nI q := by
  unfold vp_nar
  rw [(pk_charN h).1]
set_option maxHeartbeats 4000000 in
theorem c_X6_clear {r : Ev} {n : Nat} {I : MI} {Q : MQ2} (a : Nat) (hb : TxB n Q a) : CT r 0 yX6_clear cX6_clear (1, none) (0, 0) [.ref (evz r + a)] n I Q (rv Q (fun J => Fr1 I J a 1 ∧ J a 1 = nI 0)) := by
  refine ct_of (lv := [some (.ref (evz r + a))]) (by decide +kernel) rfl rfl rfl ?_
  refine x_aload_0 dX6_clear_0 ?_
  refine x_const (c := 0) dX6_clear_1 rfl ?_
  refine x_putA dX6_clear_2 f_X6_15 hb.1 (fun J2 fr2 e2 => ?_)
  exact x_vret (st := []) dX6_clear_5 rfl (⟨rfl, rfl, fr2, e2⟩)
set_option maxHeartbeats 4000000 in
theorem c_X6_isFull {r : Ev} {n : Nat} {I : MI} {Q : MQ2} (a m : Nat) (T : Nat → Nat) (hb : TxB n Q a) (ht : txp I a m T) (hm : m ≤ 200) : CT r 0 yX6_isFull cX6_isFull (1, (some .boolean)) (0, 0) [.ref (evz r + a)] n I Q (ri Q (fun v J => J = I ∧ ((v = nI 1 ∧ m = 200) ∨ (v = nI 0 ∧ m < 200)))) := by
  refine ct_of (lv := [some (.ref (evz r + a))]) (by decide +kernel) rfl rfl rfl ?_
  obtain ⟨k1, k2, k3⟩ := id hb
  obtain ⟨q1, q2⟩ := id ht
  refine x_aload_0 dX6_isFull_0 ?_
  refine x_getV dX6_isFull_1 f_X6_15 k1 q1 ?_
  refine x_aload_0 dX6_isFull_4 ?_
  refine x_getr dX6_isFull_5 f_X6_9 k1 k3 ?_
  refine x_alen dX6_isFull_8 k2 (by decide) ?_
  refine x_icmp_ltN dX6_isFull_9 (by omega) (by omega) (fun c9 => ?_) (fun c9 => ?_)
  · refine x_const (c := 0) dX6_isFull_16 rfl ?_
    exact x_iret (st := []) dX6_isFull_17 rfl rfl (⟨_, rfl, rfl, rfl, by first | exact Or.inl ⟨rfl, by omega⟩ | exact Or.inr ⟨rfl, by omega⟩⟩)
  · refine x_const (c := 1) dX6_isFull_12 rfl ?_
    refine x_goto dX6_isFull_13 ?_
    exact x_iret (st := []) dX6_isFull_17 rfl rfl (⟨_, rfl, rfl, rfl, by first | exact Or.inl ⟨rfl, by omega⟩ | exact Or.inr ⟨rfl, by omega⟩⟩)
theorem txp_add {I J K : MI} {a m c : Nat} {T : Nat → Nat} (q2 : ∀ k, k < m → I (a + 1) k = nI (T k)) (f1 : Fr1 I J (a + 1) m) (e1 : J (a + 1) m = nI c) (f2 : Fr1 J K a 1) : ∀ k, k < m + 1 → K (a + 1) k = nI (nup T m c k) := by
  intro k hk
  rw [f2 _ _ (by omega)]
  by_cases e : k = m
  · subst e; rw [nup_s]; exact e1
  · rw [f1 _ _ (by omega), nup_n e]; exact q2 k (by omega)
set_option maxHeartbeats 4000000 in
theorem c_X6_append {r : Ev} {n : Nat} {I : MI} {Q : MQ2} (a m : Nat) (T : Nat → Nat) (hb : TxB n Q a) (ht : txp I a m T) (hm : m ≤ 200) (hlt : m < 200) (c : Nat) (hc : c < 65536) : CT r 0 yX6_append cX6_append (2, none) (0, 0) [.ref (evz r + a), .int (nI c)] n I Q (rv Q (fun J => FrS I J (fun x _ => x = a ∨ x = a + 1) ∧ txp J a (m + 1) (nup T m c))) := by
  refine ct_of (lv := [some (.ref (evz r + a)), some (.int (nI c))]) (by decide +kernel) rfl rfl rfl ?_
  obtain ⟨k1, k2, k3⟩ := id hb
  obtain ⟨q1, q2⟩ := id ht
  refine x_aload_0 dX6_append_0 ?_
  refine x_getV dX6_append_1 f_X6_15 k1 q1 ?_
  refine x_if_ltN dX6_append_4 (by omega) (fun c4 => ?_) (fun c4 => ?_)
  · exfalso; omega
  · refine x_aload_0 dX6_append_7 ?_
    refine x_getV dX6_append_8 f_X6_15 k1 q1 ?_
    refine x_aload_0 dX6_append_11 ?_
    refine x_getr dX6_append_12 f_X6_9 k1 k3 ?_
    refine x_alen dX6_append_15 k2 (by decide) ?_
    refine x_icmp_geN dX6_append_16 (by omega) (by omega) (fun c16 => ?_) (fun c16 => ?_)
    · exfalso; omega
    · refine x_aload_0 dX6_append_19 ?_
      refine x_getr dX6_append_20 f_X6_9 k1 k3 ?_
      refine x_aload_0 dX6_append_23 ?_
      refine x_getV dX6_append_24 f_X6_15 k1 q1 ?_
      refine x_iload_1 dX6_append_27 ?_
      refine x_castA dX6_append_28 k2 rfl (by omega) (charN hc) (fun J28 fr28 e28 => ?_)
      have q1_p28 := (fr28 (a) (1) (by omega)).trans q1
      refine x_aload_0 dX6_append_29 ?_
      first | refine x_dup_ref dX6_append_30 ?_ | refine x_dup_int dX6_append_30 ?_
      refine x_getV dX6_append_31 f_X6_15 k1 q1_p28 ?_
      refine x_const (c := 1) dX6_append_34 rfl ?_
      refine x_iaddN dX6_append_35 ?_
      refine x_putA dX6_append_36 f_X6_15 k1 (fun J36 fr36 e36 => ?_)
      exact x_vret (st := []) dX6_append_39 rfl (⟨rfl, rfl, fun x j hx => (fr36 x j (by omega)).trans (fr28 x j (by omega)), e36, txp_add q2 fr28 e28 fr36⟩)
set_option maxHeartbeats 4000000 in
theorem c_X6_letterOn {r : Ev} {n : Nat} {I : MI} {Q : MQ2} (a m : Nat) (T : Nat → Nat) (hb : TxB n Q a) (ht : txp I a m T) (hm : m ≤ 200) (k : Nat) (hk : k < 100000) : CT r 0 yX6_letterOn cX6_letterOn (2, (some .int)) (0, 0) [.ref (evz r + a), .int (nI k)] n I Q (ri Q (fun v J => J = I ∧ v = nI (ltr T m k))) := by
  refine ct_of (lv := [some (.ref (evz r + a)), some (.int (nI k))]) (by decide +kernel) rfl rfl rfl ?_
  obtain ⟨k1, k2, k3⟩ := id hb
  obtain ⟨q1, q2⟩ := id ht
  refine x_iload_1 dX6_letterOn_0 ?_
  refine x_if_ltN dX6_letterOn_1 (by omega) (fun c1 => ?_) (fun c1 => ?_)
  · exfalso; omega
  · refine x_iload_1 dX6_letterOn_4 ?_
    refine x_aload_0 dX6_letterOn_5 ?_
    refine x_getV dX6_letterOn_6 f_X6_15 k1 q1 ?_
    refine x_icmp_geN dX6_letterOn_9 (by omega) (by omega) (fun c9 => ?_) (fun c9 => ?_)
    · refine x_const (c := 0) dX6_letterOn_21 rfl ?_
      exact x_iret (st := []) dX6_letterOn_22 rfl rfl (⟨_, rfl, rfl, rfl, by unfold ltr; rw [if_neg (by omega)]⟩)
    · refine x_iload_1 dX6_letterOn_12 ?_
      refine x_aload_0 dX6_letterOn_13 ?_
      refine x_getr dX6_letterOn_14 f_X6_9 k1 k3 ?_
      refine x_alen dX6_letterOn_17 k2 (by decide) ?_
      refine x_icmp_ltN dX6_letterOn_18 (by omega) (by omega) (fun c18 => ?_) (fun c18 => ?_)
      · refine x_aload_0 dX6_letterOn_23 ?_
        refine x_getr dX6_letterOn_24 f_X6_9 k1 k3 ?_
        refine x_iload_1 dX6_letterOn_27 ?_
        refine x_caldV dX6_letterOn_28 k2 rfl (by omega) (q2 k (by omega)) ?_
        exact x_iret (st := []) dX6_letterOn_29 rfl rfl (⟨_, rfl, rfl, rfl, by unfold ltr; rw [if_pos (by omega)]⟩)
      · exfalso; omega
/-! what is seen: the sights at a, looms, drops, hours at a + 1, a + 2, a + 3 -/
abbrev Sg : Type := Nat × (Nat → Nat) × (Nat → Nat) × (Nat → Nat)
def gn (g : Sg) : Nat := g.1
def gL (g : Sg) : Nat → Nat := g.2.1
def gD (g : Sg) : Nat → Nat := g.2.2.1
def gH (g : Sg) : Nat → Nat := g.2.2.2
def SgB (n : Nat) (Q : MQ2) (a : Nat) : Prop := Ob n 4 a ∧ Ar n 11 (a + 1) 6 ∧ Ar n 11 (a + 2) 6 ∧ Ar n 11 (a + 3) 6 ∧ Q a 0 = some (a + 1) ∧ Q a 1 = some (a + 2) ∧ Q a 2 = some (a + 3)
def sgp (I : MI) (a : Nat) (g : Sg) : Prop := I a 3 = nI (gn g) ∧ ∀ k, k < gn g → I (a + 1) k = nI (gL g k) ∧ I (a + 2) k = nI (gD g k) ∧ I (a + 3) k = nI (gH g k)
def okG (N : Nat) (g : Sg) : Prop := gn g ≤ 6 ∧ ∀ k, k < gn g → gL g k < N ∧ gD g k ≤ 27 ∧ gH g k ≤ 12
def addG (g : Sg) (l d h : Nat) : Sg := (gn g + 1, nup (gL g) (gn g) l, nup (gD g) (gn g) d, nup (gH g) (gn g) h)
/-- all that is seen for the hour h is so -/
def soB (g : Sg) (s : St) (h : Nat) : Nat → Bool
  | 0 => true
  | k + 1 => soB g s h k && (!decide (gH g k = h) || decide (sD s (gL g k) = gD g k))
theorem soB_false {g : Sg} {s : St} {h : Nat} : ∀ {n k : Nat}, k < n → gH g k = h → sD s (gL g k) ≠ gD g k → soB g s h n = false
  | 0, k, hk, _, _ => absurd hk (Nat.not_lt_zero k)
  | n + 1, k, hk, h1, h2 => by
    unfold soB
    rcases Nat.lt_or_ge k n with z | z
    · rw [soB_false z h1 h2]; rfl
    · have e : k = n := by omega
      subst e
      simp [h1, h2]
theorem sgp_fr {I J : MI} {a : Nat} {g : Sg} (h : sgp I a g) (fr : ∀ x j, a ≤ x → x < a + 4 → J x j = I x j) : sgp J a g := ⟨(fr _ _ (by omega) (by omega)).trans h.1, fun k hk => ⟨(fr _ _ (by omega) (by omega)).trans (h.2 k hk).1, (fr _ _ (by omega) (by omega)).trans (h.2 k hk).2.1, (fr _ _ (by omega) (by omega)).trans (h.2 k hk).2.2⟩⟩
set_option maxHeartbeats 4000000 in
theorem c_X4_clear {r : Ev} {n : Nat} {I : MI} {Q : MQ2} (a : Nat) (hb : SgB n Q a) : CT r 0 yX4_clear cX4_clear (1, none) (0, 0) [.ref (evz r + a)] n I Q (rv Q (fun J => Fr1 I J a 3 ∧ J a 3 = nI 0)) := by
  refine ct_of (lv := [some (.ref (evz r + a))]) (by decide +kernel) rfl rfl rfl ?_
  refine x_aload_0 dX4_clear_0 ?_
  refine x_const (c := 0) dX4_clear_1 rfl ?_
  refine x_putA dX4_clear_2 f_X4_21 hb.1 (fun J2 fr2 e2 => ?_)
  exact x_vret (st := []) dX4_clear_5 rfl (⟨rfl, rfl, fr2, e2⟩)
set_option maxHeartbeats 4000000 in
theorem c_X4_isFull {r : Ev} {n : Nat} {I : MI} {Q : MQ2} (a : Nat) (g : Sg) (hb : SgB n Q a) (hg : sgp I a g) (hn : gn g ≤ 6) : CT r 0 yX4_isFull cX4_isFull (1, (some .boolean)) (0, 0) [.ref (evz r + a)] n I Q (ri Q (fun v J => J = I ∧ ((v = nI 1 ∧ gn g = 6) ∨ (v = nI 0 ∧ gn g < 6)))) := by
  refine ct_of (lv := [some (.ref (evz r + a))]) (by decide +kernel) rfl rfl rfl ?_
  obtain ⟨k1, k2, k3, k4, k5, k6, k7⟩ := id hb
  obtain ⟨q1, q2⟩ := id hg
  refine x_aload_0 dX4_isFull_0 ?_
  refine x_getV dX4_isFull_1 f_X4_21 k1 q1 ?_
  refine x_bip (c := 6) dX4_isFull_4 (by decide) ?_
  refine x_icmp_ltN dX4_isFull_6 (by omega) (by omega) (fun c6 => ?_) (fun c6 => ?_)
  · refine x_const (c := 0) dX4_isFull_13 rfl ?_
    exact x_iret (st := []) dX4_isFull_14 rfl rfl (⟨_, rfl, rfl, rfl, by first | exact Or.inl ⟨rfl, by omega⟩ | exact Or.inr ⟨rfl, by omega⟩⟩)
  · refine x_const (c := 1) dX4_isFull_9 rfl ?_
    refine x_goto dX4_isFull_10 ?_
    exact x_iret (st := []) dX4_isFull_14 rfl rfl (⟨_, rfl, rfl, rfl, by first | exact Or.inl ⟨rfl, by omega⟩ | exact Or.inr ⟨rfl, by omega⟩⟩)
theorem sgp_add {I J1 J2 J3 J4 : MI} {a l d h : Nat} {g : Sg} (q2 : ∀ k, k < gn g → I (a + 1) k = nI (gL g k) ∧ I (a + 2) k = nI (gD g k) ∧ I (a + 3) k = nI (gH g k)) (f1 : Fr1 I J1 (a + 1) (gn g)) (e1 : J1 (a + 1) (gn g) = nI l) (f2 : Fr1 J1 J2 (a + 2) (gn g)) (e2 : J2 (a + 2) (gn g) = nI d) (f3 : Fr1 J2 J3 (a + 3) (gn g)) (e3 : J3 (a + 3) (gn g) = nI h) (f4 : Fr1 J3 J4 a 3) (e4 : J4 a 3 = nI (gn g + 1)) : sgp J4 a (addG g l d h) := by
  refine ⟨e4, fun k hk => ?_⟩
  have hk : k < gn g + 1 := hk
  show J4 (a + 1) k = nI (nup (gL g) (gn g) l k) ∧ J4 (a + 2) k = nI (nup (gD g) (gn g) d k) ∧ J4 (a + 3) k = nI (nup (gH g) (gn g) h k)
  rw [f4 _ _ (by omega), f4 _ _ (by omega), f4 _ _ (by omega), f3 (a + 1) _ (by omega), f3 (a + 2) _ (by omega), f2 (a + 1) _ (by omega)]
  by_cases e : k = gn g
  · subst e
    rw [nup_s, nup_s, nup_s]
    exact ⟨e1, e2, e3⟩
  · rw [nup_n e, nup_n e, nup_n e, f3 _ _ (by omega), f2 _ _ (by omega), f2 _ _ (by omega), f1 _ _ (by omega), f1 _ _ (by omega), f1 _ _ (by omega)]
    exact q2 k (by omega)
set_option maxHeartbeats 4000000 in
theorem c_X4_put {r : Ev} {n : Nat} {I : MI} {Q : MQ2} (a : Nat) (g : Sg) (hb : SgB n Q a) (hg : sgp I a g) (hn : gn g ≤ 6) (hlt : gn g < 6) (l d h : Nat) : CT r 0 yX4_put cX4_put (4, none) (0, 0) [.ref (evz r + a), .int (nI l), .int (nI d), .int (nI h)] n I Q (rv Q (fun J => FrS I J (fun x _ => a ≤ x ∧ x < a + 4) ∧ sgp J a (addG g l d h))) := by
  refine ct_of (lv := [some (.ref (evz r + a)), some (.int (nI l)), some (.int (nI d)), some (.int (nI h))]) (by decide +kernel) rfl rfl rfl ?_
  obtain ⟨k1, k2, k3, k4, k5, k6, k7⟩ := id hb
  obtain ⟨q1, q2⟩ := id hg
  refine x_aload_0 dX4_put_0 ?_
  refine x_getV dX4_put_1 f_X4_21 k1 (by assumption) ?_
  refine x_if_ltN dX4_put_4 (by omega) (fun c4 => ?_) (fun c4 => ?_)
  · exfalso; omega
  · refine x_aload_0 dX4_put_7 ?_
    refine x_getV dX4_put_8 f_X4_21 k1 (by assumption) ?_
    refine x_bip (c := 6) dX4_put_11 (by decide) ?_
    refine x_icmp_geN dX4_put_13 (by omega) (by omega) (fun c13 => ?_) (fun c13 => ?_)
    · exfalso; omega
    · refine x_aload_0 dX4_put_16 ?_
      refine x_getr dX4_put_17 f_X4_9 k1 k5 ?_
      refine x_aload_0 dX4_put_20 ?_
      refine x_getV dX4_put_21 f_X4_21 k1 (by assumption) ?_
      refine x_iload_1 dX4_put_24 ?_
      refine x_iastA dX4_put_25 k2 rfl (by omega) (fun J25 fr25 e25 => ?_)
      have q1_p25 := (fr25 (a) (3) (by omega)).trans q1
      refine x_aload_0 dX4_put_26 ?_
      refine x_getr dX4_put_27 f_X4_15 k1 k6 ?_
      refine x_aload_0 dX4_put_30 ?_
      refine x_getV dX4_put_31 f_X4_21 k1 (by assumption) ?_
      refine x_iload_2 dX4_put_34 ?_
      refine x_iastA dX4_put_35 k3 rfl (by omega) (fun J35 fr35 e35 => ?_)
      have q1_p35 := (fr35 (a) (3) (by omega)).trans q1_p25
      refine x_aload_0 dX4_put_36 ?_
      refine x_getr dX4_put_37 f_X4_18 k1 k7 ?_
      refine x_aload_0 dX4_put_40 ?_
      refine x_getV dX4_put_41 f_X4_21 k1 (by assumption) ?_
      refine x_iload_3 dX4_put_44 ?_
      refine x_iastA dX4_put_45 k4 rfl (by omega) (fun J45 fr45 e45 => ?_)
      have q1_p45 := (fr45 (a) (3) (by omega)).trans q1_p35
      refine x_aload_0 dX4_put_46 ?_
      first | refine x_dup_ref dX4_put_47 ?_ | refine x_dup_int dX4_put_47 ?_
      refine x_getV dX4_put_48 f_X4_21 k1 (by assumption) ?_
      refine x_const (c := 1) dX4_put_51 rfl ?_
      refine x_iaddN dX4_put_52 ?_
      refine x_putA dX4_put_53 f_X4_21 k1 (fun J53 fr53 e53 => ?_)
      exact x_vret (st := []) dX4_put_56 rfl (⟨rfl, rfl, fun x j hx => (fr53 x j (by omega)).trans ((fr45 x j (by omega)).trans ((fr35 x j (by omega)).trans (fr25 x j (by omega)))), sgp_add q2 fr25 e25 fr35 e35 fr45 e45 fr53 e53⟩)
set_option maxHeartbeats 4000000 in
theorem l_X4_isSo {r : Ev} {n : Nat} {Q : MQ2} {F : Post} (a : Nat) (g : Sg) (hb : SgB n Q a) {I : MI} (hg : sgp I a g) (hn : gn g ≤ 6) (b : Nat) (t : Tp) (s : St) (hsl : SlB n Q b) (hs : slp I b t s) (ht : tN t ≤ 6) (hD : ∀ l, l < tN t → sD s l < 1000) (hG : okG (tN t) g) (h : Nat) (hh : h < 1000) (hF1 : soB g s h (gn g) = true → F (some (.int (nI 1))) I Q) (hF0 : soB g s h (gn g) = false → F (some (.int (nI 0))) I Q) : ∀ (k : Nat) (i : Nat), i ≤ gn g → i + k = gn g + 1 → soB g s h i = true → X r 1 yX4_isSo cX4_isSo (4, (some .boolean)) (0, 0) 2 [some (.ref (evz r + a)), some (.ref (evz r + b)), some (.int (nI h)), some (.int (nI i))] [] n I Q F := by
  intro k
  induction k with
  | zero => intros; omega
  | succ k ih =>
    intro i hi0 hi hso
    obtain ⟨k1, k2, k3, k4, k5, k6, k7⟩ := id hb
    obtain ⟨q1, q2⟩ := id hg
    refine x_iload_3 dX4_isSo_2 ?_
    refine x_aload_0 dX4_isSo_3 ?_
    refine x_getV dX4_isSo_4 f_X4_21 k1 q1 ?_
    refine x_icmp_geN dX4_isSo_7 (by omega) (by omega) (fun c7 => ?_) (fun c7 => ?_)
    · obtain rfl : i = gn g := (by omega)
      refine x_const (c := 1) dX4_isSo_56 rfl ?_
      exact x_iret (st := []) dX4_isSo_57 rfl rfl (hF1 hso)
    · have hgi := hG.2 i (by omega)
      have hDi := hD _ hgi.1
      refine x_iload_3 dX4_isSo_10 ?_
      refine x_bip (c := 6) dX4_isSo_11 (by decide) ?_
      refine x_icmp_geN dX4_isSo_13 (by omega) (by omega) (fun c13 => ?_) (fun c13 => ?_)
      · exfalso; omega
      · refine x_aload_0 dX4_isSo_16 ?_
        refine x_getr dX4_isSo_17 f_X4_18 k1 k7 ?_
        refine x_iload_3 dX4_isSo_20 ?_
        refine x_ialdV dX4_isSo_21 k4 rfl (by omega) (q2 i (by omega)).2.2 ?_
        refine x_iload_2 dX4_isSo_22 ?_
        refine x_icmp_neN dX4_isSo_23 (by omega) (by omega) (fun c23 => ?_) (fun c23 => ?_)
        · refine x_iinc_3 dX4_isSo_50 (iinc1 _) rfl rfl ?_
          refine x_goto dX4_isSo_53 ?_
          exact ih (i + 1) (by omega) (by omega) (by show (soB g s h i && _) = true; rw [hso]; first | (rw [decide_eq_false (show ¬ gH g i = h by omega)]; rfl) | (rw [decide_eq_true (show sD s (gL g i) = gD g i by omega)]; cases decide (gH g i = h) <;> rfl))
        · refine x_aload_1 dX4_isSo_26 ?_
          refine x_aload_0 dX4_isSo_27 ?_
          refine x_getr dX4_isSo_28 f_X4_9 k1 k5 ?_
          refine x_iload_3 dX4_isSo_31 ?_
          refine x_ialdV dX4_isSo_32 k2 rfl (by omega) (q2 i (by omega)).1 ?_
          refine x_V1o dX4_isSo_33 m_X4_25 (c_X5_pick b (gL g i) hsl (by have := (hG.2 i (by omega)).1; omega)) hsl.1 ?_
          refine x_getV dX4_isSo_36 f_X4_31 (hsl.2.2.2.1 _ (by have := (hG.2 i (by omega)).1; omega)) (hs.2.2.2 _ (hG.2 i (by omega)).1).2.2.2.1 ?_
          refine x_aload_0 dX4_isSo_39 ?_
          refine x_getr dX4_isSo_40 f_X4_15 k1 k6 ?_
          refine x_iload_3 dX4_isSo_43 ?_
          refine x_ialdV dX4_isSo_44 k3 rfl (by omega) (q2 i (by omega)).2.1 ?_
          refine x_icmp_eqN dX4_isSo_45 (by omega) (by omega) (fun c45 => ?_) (fun c45 => ?_)
          · refine x_iinc_3 dX4_isSo_50 (iinc1 _) rfl rfl ?_
            refine x_goto dX4_isSo_53 ?_
            exact ih (i + 1) (by omega) (by omega) (by show (soB g s h i && _) = true; rw [hso]; first | (rw [decide_eq_false (show ¬ gH g i = h by omega)]; rfl) | (rw [decide_eq_true (show sD s (gL g i) = gD g i by omega)]; cases decide (gH g i = h) <;> rfl))
          · refine x_const (c := 0) dX4_isSo_48 rfl ?_
            exact x_iret (st := []) dX4_isSo_49 rfl rfl (hF0 (soB_false (show i < gn g by omega) (by omega) (by omega)))
set_option maxHeartbeats 4000000 in
theorem c_X4_isSo {r : Ev} {n : Nat} {I : MI} {Q : MQ2} (a : Nat) (g : Sg) (hb : SgB n Q a) (hg : sgp I a g) (hn : gn g ≤ 6) (b : Nat) (t : Tp) (s : St) (hsl : SlB n Q b) (hs : slp I b t s) (ht : tN t ≤ 6) (hD : ∀ l, l < tN t → sD s l < 1000) (hG : okG (tN t) g) (h : Nat) (hh : h < 1000) : CT r 1 yX4_isSo cX4_isSo (4, (some .boolean)) (0, 0) [.ref (evz r + a), .ref (evz r + b), .int (nI h)] n I Q (ri Q (fun v J => J = I ∧ ((v = nI 1 ∧ soB g s h (gn g) = true) ∨ (v = nI 0 ∧ soB g s h (gn g) = false)))) := by
  refine ct_of (lv := [some (.ref (evz r + a)), some (.ref (evz r + b)), some (.int (nI h)), none]) (by decide +kernel) rfl rfl rfl ?_
  refine x_const (c := 0) dX4_isSo_0 rfl ?_
  refine x_istore_3 dX4_isSo_1 rfl rfl ?_
  exact l_X4_isSo a g hb hg hn b t s hsl hs ht hD hG h hh (fun z => ⟨_, rfl, rfl, rfl, Or.inl ⟨rfl, z⟩⟩) (fun z => ⟨_, rfl, rfl, rfl, Or.inr ⟨rfl, z⟩⟩) (gn g + 1) 0 (by omega) (by omega) rfl
/-! a pile's cells: the pile at a, its row at a + 1, slopes at a + 2, a + 11, ..; pr tells which slope stands at which place of the row -/
def PlB (n : Nat) (Q : MQ2) (a L : Nat) (pr : Nat → Nat) : Prop := Ob n 2 a ∧ Ar n 13 (a + 1) L ∧ Q a 0 = some (a + 1) ∧ (∀ i, i < L → pr i < L ∧ Q (a + 1) i = some (a + 2 + 9 * pr i)) ∧ (∀ i, i < L → ∀ j, j < L → pr i = pr j → i = j) ∧ ∀ k, k < L → SlB n Q (a + 2 + 9 * k)
def plp (I : MI) (a : Nat) (pr : Nat → Nat) (t : Tp) (m : Nat) (v : Nat → St) : Prop := I a 1 = nI m ∧ ∀ i, i < m → SS I (a + 2 + 9 * pr i) t (v i)
theorem SlB.q {n : Nat} {Q Q' : MQ2} {b : Nat} (h : SlB n Q b) (h1 : ∀ j, Q' b j = Q b j) (h2 : ∀ j, Q' (b + 1) j = Q (b + 1) j) : SlB n Q' b := by
  obtain ⟨a1, a2, a3, a4, a5, a6, a7⟩ := h
  exact ⟨a1, a2, a3, a4, (h1 _).trans a5, (h1 _).trans a6, fun k hk => (h2 _).trans (a7 k hk)⟩
def FrQ (Q Q' : MQ2) (a : Nat) : Prop := ∀ x, x ≠ a → ∀ j, Q' x j = Q x j
def rotP (L : Nat) (pr : Nat → Nat) (i : Nat) : Nat := if i + 1 = L then pr 0 else pr (i + 1)
theorem PlB.rot {n : Nat} {Q Q' : MQ2} {a L : Nat} {pr : Nat → Nat} (h : PlB n Q a L pr) (f : FrQ Q Q' (a + 1)) (e : ∀ i, i < L → Q' (a + 1) i = if i + 1 = L then Q (a + 1) 0 else Q (a + 1) (i + 1)) : PlB n Q' a L (rotP L pr) := by
  obtain ⟨h1, h2, h3, h4, h5, h6⟩ := h
  refine ⟨h1, h2, (f a (by omega) 0).trans h3, fun i hi => ?_, fun i hi j hj hij => ?_, fun k hk => (h6 k hk).q (fun j => f _ (by omega) j) (fun j => f _ (by omega) j)⟩
  · rw [e i hi]
    unfold rotP
    by_cases c : i + 1 = L
    · rw [if_pos c, if_pos c]; exact h4 0 (by omega)
    · rw [if_neg c, if_neg c]; exact h4 (i + 1) (by omega)
  · unfold rotP at hij
    by_cases c : i + 1 = L <;> by_cases c2 : j + 1 = L
    · omega
    · rw [if_pos c, if_neg c2] at hij
      have := h5 0 (by omega) (j + 1) (by omega) hij
      omega
    · rw [if_neg c, if_pos c2] at hij
      have := h5 (i + 1) (by omega) 0 (by omega) hij
      omega
    · rw [if_neg c, if_neg c2] at hij
      have := h5 (i + 1) (by omega) (j + 1) (by omega) hij
      omega
set_option maxHeartbeats 4000000 in
theorem c_X2_clear {r : Ev} {n : Nat} {I : MI} {Q : MQ2} (a : Nat) (hb : Ob n 2 a) : CT r 0 yX2_clear cX2_clear (1, none) (0, 0) [.ref (evz r + a)] n I Q (rv Q (fun J => Fr1 I J a 1 ∧ J a 1 = nI 0)) := by
  refine ct_of (lv := [some (.ref (evz r + a))]) (by decide +kernel) rfl rfl rfl ?_
  refine x_aload_0 dX2_clear_0 ?_
  refine x_const (c := 0) dX2_clear_1 rfl ?_
  refine x_putA dX2_clear_2 f_X2_22 hb (fun J2 fr2 e2 => ?_)
  exact x_vret (st := []) dX2_clear_5 rfl (⟨rfl, rfl, fr2, e2⟩)
set_option maxHeartbeats 4000000 in
theorem c_X2_isFull {r : Ev} {n : Nat} {I : MI} {Q : MQ2} (a L : Nat) (pr : Nat → Nat) (m : Nat) (hb : PlB n Q a L pr) (hm1 : I a 1 = nI m) (hm : m ≤ L) (hL : L ≤ 8) : CT r 0 yX2_isFull cX2_isFull (1, (some .boolean)) (0, 0) [.ref (evz r + a)] n I Q (ri Q (fun v J => J = I ∧ ((v = nI 1 ∧ m = L) ∨ (v = nI 0 ∧ m < L)))) := by
  refine ct_of (lv := [some (.ref (evz r + a))]) (by decide +kernel) rfl rfl rfl ?_
  obtain ⟨k1, k2, k3, k4, k5, k6⟩ := id hb
  refine x_aload_0 dX2_isFull_0 ?_
  refine x_getV dX2_isFull_1 f_X2_22 k1 hm1 ?_
  refine x_aload_0 dX2_isFull_4 ?_
  refine x_getr dX2_isFull_5 f_X2_15 k1 k3 ?_
  refine x_alen dX2_isFull_8 k2 (by decide) ?_
  refine x_icmp_ltN dX2_isFull_9 (by omega) (by omega) (fun c9 => ?_) (fun c9 => ?_)
  · refine x_const (c := 0) dX2_isFull_16 rfl ?_
    exact x_iret (st := []) dX2_isFull_17 rfl rfl (⟨_, rfl, rfl, rfl, by first | exact Or.inl ⟨rfl, by omega⟩ | exact Or.inr ⟨rfl, by omega⟩⟩)
  · refine x_const (c := 1) dX2_isFull_12 rfl ?_
    refine x_goto dX2_isFull_13 ?_
    exact x_iret (st := []) dX2_isFull_17 rfl rfl (⟨_, rfl, rfl, rfl, by first | exact Or.inl ⟨rfl, by omega⟩ | exact Or.inr ⟨rfl, by omega⟩⟩)
set_option maxHeartbeats 4000000 in
theorem l_X2_loseOldest {r : Ev} {n : Nat} {F : Post} {Q0 : MQ2} {I : MI} (a L r0 : Nat) (pr : Nat → Nat) (hb : PlB n Q0 a L pr) (hL : L ≤ 8) (hL1 : 1 ≤ L) (h0 : Q0 (a + 1) 0 = some r0) (ho0 : Ob n 5 r0) (hF : ∀ J Q, Fr1 I J a 1 → J a 1 = nI (L - 1) → FrQ Q0 Q (a + 1) → (∀ i, i < L → Q (a + 1) i = if i + 1 = L then Q0 (a + 1) 0 else Q0 (a + 1) (i + 1)) → F none J Q) : ∀ (k : Nat) (i : Nat) (Q : MQ2), 1 ≤ i → i ≤ L → i + k = L + 1 → FrQ Q0 Q (a + 1) → (∀ j, j < L → Q (a + 1) j = if j + 1 < i then Q0 (a + 1) (j + 1) else Q0 (a + 1) j) → X r 0 yX2_loseOldest cX2_loseOldest (3, none) (0, 0) 9 [some (.ref (evz r + a)), some (.ref (evz r + r0)), some (.int (nI i))] [] n I Q F := by
  intro k
  induction k with
  | zero => intros; omega
  | succ k ih =>
    intro i Q hi1 hi0 hi hf hrow
    obtain ⟨k1, k2, k3, k4, k5, k6⟩ := id hb
    have hlast : i = L → ∀ j, j < L → up2 Q (a + 1) (L - 1) (some r0) (a + 1) j = if j + 1 = L then Q0 (a + 1) 0 else Q0 (a + 1) (j + 1) := by
      intro e j hj
      by_cases e2 : j + 1 = L
      · rw [if_pos e2, show j = L - 1 by omega, up2_same, h0]
      · rw [if_neg e2, up2_ne (by omega), hrow j hj, if_pos (by omega)]
    refine x_iload_2 dX2_loseOldest_9 ?_
    refine x_aload_0 dX2_loseOldest_10 ?_
    have hq0 : Q a 0 = some (a + 1) := (hf a (by omega) 0).trans k3
    refine x_getr dX2_loseOldest_11 f_X2_15 k1 hq0 ?_
    refine x_alen dX2_loseOldest_14 k2 (by decide) ?_
    refine x_icmp_geN dX2_loseOldest_15 (by omega) (by omega) (fun c15 => ?_) (fun c15 => ?_)
    · obtain rfl : i = L := (by omega)
      refine x_aload_0 dX2_loseOldest_38 ?_
      refine x_getr dX2_loseOldest_39 f_X2_15 k1 hq0 ?_
      refine x_aload_0 dX2_loseOldest_42 ?_
      refine x_getr dX2_loseOldest_43 f_X2_15 k1 hq0 ?_
      refine x_alen dX2_loseOldest_46 k2 (by decide) ?_
      refine x_const (c := 1) dX2_loseOldest_47 rfl ?_
      refine x_isubN dX2_loseOldest_48 (by omega) ?_
      refine x_aload_1 dX2_loseOldest_49 ?_
      refine x_aastS dX2_loseOldest_50 k2 rfl (by omega) ho0 ?_
      refine x_aload_0 dX2_loseOldest_51 ?_
      refine x_aload_0 dX2_loseOldest_52 ?_
      refine x_getr dX2_loseOldest_53 f_X2_15 k1 ((up2_ne (by omega)).trans hq0) ?_
      refine x_alen dX2_loseOldest_56 k2 (by decide) ?_
      refine x_const (c := 1) dX2_loseOldest_57 rfl ?_
      refine x_isubN dX2_loseOldest_58 (by omega) ?_
      refine x_putA dX2_loseOldest_59 f_X2_22 k1 (fun J59 fr59 e59 => ?_)
      exact x_vret (st := []) dX2_loseOldest_62 rfl (hF _ _ fr59 e59 (fun x hx j => (up2_ne (by omega)).trans (hf x hx j)) (hlast rfl))
    · refine x_aload_0 dX2_loseOldest_18 ?_
      refine x_getr dX2_loseOldest_19 f_X2_15 k1 hq0 ?_
      refine x_iload_2 dX2_loseOldest_22 ?_
      refine x_const (c := 1) dX2_loseOldest_23 rfl ?_
      refine x_isubN dX2_loseOldest_24 (by omega) ?_
      refine x_aload_0 dX2_loseOldest_25 ?_
      refine x_getr dX2_loseOldest_26 f_X2_15 k1 hq0 ?_
      refine x_iload_2 dX2_loseOldest_29 ?_
      refine x_aaldS dX2_loseOldest_30 k2 rfl (by omega) ((hrow i (by omega)).trans ((if_neg (by omega)).trans (k4 i (by omega)).2)) ?_
      refine x_aastS dX2_loseOldest_31 k2 rfl (by omega) (k6 _ (k4 i (by omega)).1).1 ?_
      refine x_iinc_2 dX2_loseOldest_32 (iinc1 _) rfl rfl ?_
      refine x_goto dX2_loseOldest_35 ?_
      refine ih (i + 1) _ (by omega) (by omega) (by omega) (fun x hx j => (up2_ne (by omega)).trans (hf x hx j)) (fun j hj => ?_)
      by_cases e : j = i - 1
      · subst e
        rw [up2_same, if_pos (by omega), show i - 1 + 1 = i by omega]
        exact (k4 i (by omega)).2.symm
      · rw [up2_ne (by omega), hrow j hj]
        by_cases e2 : j + 1 < i
        · rw [if_pos e2, if_pos (by omega)]
        · rw [if_neg e2, if_neg (by omega)]
set_option maxHeartbeats 4000000 in
theorem c_X2_loseOldest {r : Ev} {n : Nat} {I : MI} {Q : MQ2} (a L : Nat) (pr : Nat → Nat) (hb : PlB n Q a L pr) (hL : L ≤ 8) (hL1 : 1 ≤ L) : CT r 0 yX2_loseOldest cX2_loseOldest (3, none) (0, 0) [.ref (evz r + a)] n I Q (RV (fun J Q' => Fr1 I J a 1 ∧ J a 1 = nI (L - 1) ∧ FrQ Q Q' (a + 1) ∧ PlB n Q' a L (rotP L pr))) := by
  refine ct_of (lv := [some (.ref (evz r + a)), none, none]) (by decide +kernel) rfl rfl rfl ?_
  obtain ⟨k1, k2, k3, k4, k5, k6⟩ := id hb
  refine x_aload_0 dX2_loseOldest_0 ?_
  refine x_getr dX2_loseOldest_1 f_X2_15 k1 k3 ?_
  refine x_const (c := 0) dX2_loseOldest_4 rfl ?_
  refine x_aaldS dX2_loseOldest_5 k2 rfl (by omega) (k4 0 (by omega)).2 ?_
  refine x_astore_1 dX2_loseOldest_6 rfl rfl ?_
  refine x_const (c := 1) dX2_loseOldest_7 rfl ?_
  refine x_istore_2 dX2_loseOldest_8 rfl rfl ?_
  exact l_X2_loseOldest a L _ pr hb hL hL1 (k4 0 (by omega)).2 (k6 _ (k4 0 (by omega)).1).1 (fun J Q' q1 q2 q3 q4 => ⟨rfl, q1, q2, q3, hb.rot q3 q4⟩) L 1 _ (by omega) (by omega) (by omega) (fun _ _ _ => rfl) (fun j hj => (if_neg (by omega)).symm)
