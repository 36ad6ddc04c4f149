/-! ===== what a text tells ===== -/
def fig (c : Nat) : Prop := 48 ≤ c ∧ c ≤ 57
def nvl (T : Nat → Nat) (m p : Nat) : Nat := if 48 ≤ ltr T m (p + 1) ∧ ltr T m (p + 1) ≤ 57 then (ltr T m p - 48) * 10 + (ltr T m (p + 1) - 48) else ltr T m p - 48
def npl (T : Nat → Nat) (m p : Nat) : Nat := if 48 ≤ ltr T m (p + 1) ∧ ltr T m (p + 1) ≤ 57 then p + 2 else p + 1
def okn (T : Nat → Nat) (m p e : Nat) : Prop := fig (ltr T m p) ∧ ltr T m (npl T m p) = e
def pNum (T : Nat → Nat) (m p : Nat) : Nat → Nat
  | 0 => p
  | i + 1 => npl T m (pNum T m p i) + 1
def okNums (T : Nat → Nat) (m p k : Nat) : Prop := ∀ i, i < k → okn T m (pNum T m p i) (if i + 1 < k then 44 else 59)
theorem ltr_in {T : Nat → Nat} {m k : Nat} (h : ltr T m k ≠ 0) : k < m := by
  unfold ltr at h
  by_cases z : k < m
  · exact z
  · rw [if_neg z] at h; exact absurd rfl h
theorem npl_le (T : Nat → Nat) (m p : Nat) : p + 1 ≤ npl T m p ∧ npl T m p ≤ p + 2 := by unfold npl; split <;> omega
theorem okn_lt {T : Nat → Nat} {m p e : Nat} (h : okn T m p e) (he : e ≠ 0) : npl T m p < m := ltr_in (by rw [h.2]; exact he)
theorem nvl_le {T : Nat → Nat} {m p : Nat} (h : fig (ltr T m p)) : nvl T m p ≤ 99 := by
  unfold nvl
  unfold fig at h
  split <;> omega
abbrev Ts : Type := Tp × St × Nt
def cntN (c : Nat) : Nat := if c = 108 then 3 else if c = 104 then 2 else if c = 115 then 1 else if c = 109 then 1 else if c = 121 then 1 else 0
noncomputable def tellF (c v0 v1 v2 : Nat) (u : Ts) : Option Ts :=
  if c = 108 then @ite _ (canAdd u.1 u.2.1 v0 v1 v2) (Classical.propDecidable _) (some (addT u.1 v0 v2, addS u.1 u.2.1 v1, u.2.2)) none
  else if c = 104 then (if nH u.2.2 < 12 ∧ v0 ≤ 9 ∧ v1 ≤ 1 then some (u.1, u.2.1, addH u.2.2 v0 v1) else none)
  else if c = 115 then (if v0 ≤ 20 then some (u.1, u.2.1, setSun u.2.2 v0) else none)
  else if c = 109 then (if 1 ≤ v0 ∧ v0 ≤ 24 then some (u.1, u.2.1, setSel u.2.2 v0) else none)
  else (if 1 ≤ v0 ∧ v0 ≤ 27 then some (u.1, u.2.1, setYrd u.2.2 v0) else none)
noncomputable def itemF (T : Nat → Nat) (m p : Nat) (u : Ts) : Option (Nat × Ts) :=
  @ite _ (0 < cntN (ltr T m p) ∧ okNums T m (p + 1) (cntN (ltr T m p))) (Classical.propDecidable _)
    ((tellF (ltr T m p) (nvl T m (pNum T m (p + 1) 0)) (nvl T m (pNum T m (p + 1) 1)) (nvl T m (pNum T m (p + 1) 2)) u).map (fun x => (pNum T m (p + 1) (cntN (ltr T m p)), x))) none
noncomputable def readF (T : Nat → Nat) (m : Nat) : Nat → Nat → Ts → Option Nat × Ts
  | 0, _, u => (none, u)
  | k + 1, p, u => if p < m then (match itemF T m p u with
    | none => (some p, u)
    | some x => readF T m k x.1 x.2) else (none, u)
def okU (u : Ts) : Prop := okT u.1 ∧ okS u.1 u.2.1 ∧ okN u.2.2 ∧ sR u.2.1 = 0 ∧ ∀ l, l < tN u.1 → tT u.1 l ≤ 9
theorem okN_00 : okN g00 := ⟨by decide, fun h hh => absurd hh (Nat.not_lt_zero h), by decide, by decide, by decide, by decide, by decide⟩
theorem okU_00 : okU (t00, s00, g00) := ⟨⟨by decide, fun l hl => absurd hl (Nat.not_lt_zero l)⟩, ⟨fun l hl => absurd hl (Nat.not_lt_zero l), fun l hl => absurd hl (Nat.not_lt_zero l)⟩, okN_00, rfl, fun l hl => absurd hl (Nat.not_lt_zero l)⟩
theorem okU_add {u : Ts} {k p th : Nat} (h : okU u) (c : canAdd u.1 u.2.1 k p th) : okU (addT u.1 k th, addS u.1 u.2.1 p, u.2.2) := by
  obtain ⟨h1, h2, h3, h4, h5⟩ := h
  obtain ⟨c1, c2, c3, c4, c5, c6⟩ := c
  refine ⟨⟨show tN u.1 + 1 ≤ 6 by omega, fun l hl => ?_⟩, ⟨fun l hl => ?_, dst_add h2.2 c4⟩, h3, h4, fun l hl => ?_⟩
  · have hl : l < tN u.1 + 1 := hl
    show nup (tK u.1) (tN u.1) k l ≤ 3 ∧ nup (tT u.1) (tN u.1) th l ≤ 18
    by_cases e : l = tN u.1
    · subst e; rw [nup_s, nup_s]; omega
    · rw [nup_n e, nup_n e]; exact h1.2 l (by omega)
  · have hl : l < tN u.1 + 1 := hl
    show nup (sP u.2.1) (tN u.1) p l ≤ 9 ∧ nup (sD u.2.1) (tN u.1) 0 l ≤ 3 * nup (tT u.1) (tN u.1) th l ∧ nup (sH u.2.1) (tN u.1) 0 l ≤ 1
    by_cases e : l = tN u.1
    · subst e; rw [nup_s, nup_s, nup_s, nup_s]; omega
    · rw [nup_n e, nup_n e, nup_n e, nup_n e]; exact h2.1 l (by omega)
  · have hl : l < tN u.1 + 1 := hl
    show nup (tT u.1) (tN u.1) th l ≤ 9
    by_cases e : l = tN u.1
    · subst e; rw [nup_s]; omega
    · rw [nup_n e]; exact h5 l (by omega)
theorem okN_add {g : Nt} {x y : Nat} (h : okN g) (h1 : nH g < 12) (hx : x ≤ 9) (hy : y ≤ 1) : okN (addH g x y) := by
  obtain ⟨a1, a2, a3⟩ := h
  refine ⟨show nH g + 1 ≤ 12 by omega, fun k hk => ?_, a3⟩
  have hk : k < nH g + 1 := hk
  show nup (nC g) (nH g) x k ≤ 9 ∧ nup (nM g) (nH g) y k ≤ 1
  by_cases e : k = nH g
  · subst e; rw [nup_s, nup_s]; omega
  · rw [nup_n e, nup_n e]; exact a2 k (by omega)
theorem tellF_ok {c v0 v1 v2 : Nat} {u x : Ts} (h : okU u) (e : tellF c v0 v1 v2 u = some x) : okU x := by
  unfold tellF at e
  by_cases c1 : c = 108
  · rw [if_pos c1] at e
    by_cases ca : canAdd u.1 u.2.1 v0 v1 v2
    · rw [if_pos ca] at e; cases e; exact okU_add h ca
    · rw [if_neg ca] at e; cases e
  rw [if_neg c1] at e
  by_cases c2 : c = 104
  · rw [if_pos c2] at e
    by_cases ca : nH u.2.2 < 12 ∧ v0 ≤ 9 ∧ v1 ≤ 1
    · rw [if_pos ca] at e; cases e; exact ⟨h.1, h.2.1, okN_add h.2.2.1 ca.1 ca.2.1 ca.2.2, h.2.2.2⟩
    · rw [if_neg ca] at e; cases e
  rw [if_neg c2] at e
  obtain ⟨a1, a2, a3, a4, a5, a6, a7⟩ := h.2.2.1
  by_cases c3 : c = 115
  · rw [if_pos c3] at e
    by_cases ca : v0 ≤ 20
    · rw [if_pos ca] at e; cases e; exact ⟨h.1, h.2.1, ⟨a1, a2, ca, a4, a5, a6, a7⟩, h.2.2.2⟩
    · rw [if_neg ca] at e; cases e
  rw [if_neg c3] at e
  by_cases c4 : c = 109
  · rw [if_pos c4] at e
    by_cases ca : 1 ≤ v0 ∧ v0 ≤ 24
    · rw [if_pos ca] at e; cases e; exact ⟨h.1, h.2.1, ⟨a1, a2, a3, ca.1, ca.2, a6, a7⟩, h.2.2.2⟩
    · rw [if_neg ca] at e; cases e
  rw [if_neg c4] at e
  by_cases ca : 1 ≤ v0 ∧ v0 ≤ 27
  · rw [if_pos ca] at e; cases e; exact ⟨h.1, h.2.1, ⟨a1, a2, a3, a4, a5, ca.1, ca.2⟩, h.2.2.2⟩
  · rw [if_neg ca] at e; cases e
/-! the reader's cells: the reader at a, its numbers at a + 1 -/
def RdB (n : Nat) (Q : MQ2) (a : Nat) : Prop := Ob n 3 a ∧ Ar n 11 (a + 1) 3 ∧ Q a 0 = some (a + 1)
def FtR (a : Nat) (x _ : Nat) : Prop := x = a ∨ x = a + 1
theorem ltr_lt {T : Nat → Nat} {m : Nat} (hT : ∀ k, k < m → T k < 128) (k : Nat) : ltr T m k < 128 := by
  unfold ltr
  split
  · exact hT k (by assumption)
  · decide
theorem txp_fr {I J : MI} {a m : Nat} {T : Nat → Nat} (h : txp I a m T) (fr : ∀ x j, x = a ∨ x = a + 1 → J x j = I x j) : txp J a m T := ⟨(fr _ _ (Or.inl rfl)).trans h.1, fun k hk => (fr _ _ (Or.inr rfl)).trans (h.2 k hk)⟩
set_option maxHeartbeats 4000000 in
theorem c_X3_isFigure {r : Ev} {n : Nat} {I : MI} {Q : MQ2} (c : Nat) (hc : c < 1000) : CT r 0 yX3_isFigure cX3_isFigure (1, (some .boolean)) (0, 0) [.int (nI c)] n I Q (ri Q (fun v J => J = I ∧ ((v = nI 1 ∧ fig c) ∨ (v = nI 0 ∧ ¬ fig c)))) := by
  refine ct_of (lv := [some (.int (nI c))]) (by decide +kernel) rfl rfl rfl ?_
  refine x_iload_0 dX3_isFigure_0 ?_
  refine x_bip (c := 48) dX3_isFigure_1 (by decide) ?_
  refine x_icmp_ltN dX3_isFigure_3 (by omega) (by omega) (fun c3 => ?_) (fun c3 => ?_)
  · refine x_const (c := 0) dX3_isFigure_16 rfl ?_
    exact x_iret (st := []) dX3_isFigure_17 rfl rfl (⟨_, rfl, rfl, rfl, by unfold fig; first | exact Or.inl ⟨rfl, by omega⟩ | exact Or.inr ⟨rfl, by omega⟩⟩)
  · refine x_iload_0 dX3_isFigure_6 ?_
    refine x_bip (c := 57) dX3_isFigure_7 (by decide) ?_
    refine x_icmp_gtN dX3_isFigure_9 (by omega) (by omega) (fun c9 => ?_) (fun c9 => ?_)
    · refine x_const (c := 0) dX3_isFigure_16 rfl ?_
      exact x_iret (st := []) dX3_isFigure_17 rfl rfl (⟨_, rfl, rfl, rfl, by unfold fig; first | exact Or.inl ⟨rfl, by omega⟩ | exact Or.inr ⟨rfl, by omega⟩⟩)
    · refine x_const (c := 1) dX3_isFigure_12 rfl ?_
      refine x_goto dX3_isFigure_13 ?_
      exact x_iret (st := []) dX3_isFigure_17 rfl rfl (⟨_, rfl, rfl, rfl, by unfold fig; first | exact Or.inl ⟨rfl, by omega⟩ | exact Or.inr ⟨rfl, by omega⟩⟩)
set_option maxHeartbeats 4000000 in
theorem c_X3_readNumber {r : Ev} {n : Nat} {I : MI} {Q : MQ2} (a x m : Nat) (T : Nat → Nat) (hb : RdB n Q a) (hx : TxB n Q x) (ht : txp I x m T) (hm : m ≤ 200) (hT : ∀ k, k < m → T k < 128) (hdis : x + 2 ≤ a ∨ a + 2 ≤ x) (p : Nat) (hp : I a 1 = nI p) (hp3 : p < 1000) (hf : fig (ltr T m p)) : CT r 1 yX3_readNumber cX3_readNumber (3, (some .int)) (0, 0) [.ref (evz r + a), .ref (evz r + x)] n I Q (ri Q (fun v J => Fr1 I J a 1 ∧ J a 1 = nI (npl T m p) ∧ v = nI (nvl T m p))) := by
  refine ct_of (lv := [some (.ref (evz r + a)), some (.ref (evz r + x)), none]) (by decide +kernel) rfl rfl rfl ?_
  obtain ⟨k1, k2, k3⟩ := id hb
  refine x_aload_1 dX3_readNumber_0 ?_
  refine x_aload_0 dX3_readNumber_1 ?_
  refine x_getV dX3_readNumber_2 f_X3_20 k1 hp ?_
  refine x_V1i dX3_readNumber_5 m_X3_29 (c_X6_letterOn x m T hx ht hm p (by omega)) hx.1 (fun x5 I5 h5 => ?_)
  obtain ⟨rfl, rfl⟩ := h5
  refine x_bip (c := 48) dX3_readNumber_8 (by decide) ?_
  unfold fig at hf
  refine x_isubN dX3_readNumber_10 (by omega) ?_
  refine x_istore_2 dX3_readNumber_11 rfl rfl ?_
  refine x_aload_0 dX3_readNumber_12 ?_
  first | refine x_dup_ref dX3_readNumber_13 ?_ | refine x_dup_int dX3_readNumber_13 ?_
  refine x_getV dX3_readNumber_14 f_X3_20 k1 hp ?_
  refine x_const (c := 1) dX3_readNumber_17 rfl ?_
  refine x_iaddN dX3_readNumber_18 ?_
  refine x_putA dX3_readNumber_19 f_X3_20 k1 (fun J19 fr19 e19 => ?_)
  refine x_aload_1 dX3_readNumber_22 ?_
  refine x_aload_0 dX3_readNumber_23 ?_
  refine x_getV dX3_readNumber_24 f_X3_20 k1 e19 ?_
  refine x_V1i dX3_readNumber_27 m_X3_29 (c_X6_letterOn x m T hx (txp_fr ht (fun y j hy => fr19 y j (by omega))) hm (p + 1) (by omega)) hx.1 (fun x27 I27 h27 => ?_)
  obtain ⟨rfl, rfl⟩ := h27
  refine x_S1i dX3_readNumber_30 m_X3_44 (c_X3_isFigure (ltr T m (p + 1)) (by have := ltr_lt hT (p + 1); omega)) (fun x30 I30 h30 => ?_)
  obtain ⟨rfl, ⟨rfl, h30⟩ | ⟨rfl, h30⟩⟩ := h30
  · unfold fig at h30
    refine x_if_eqN dX3_readNumber_33 (by omega) (fun c33 => ?_) (fun c33 => ?_)
    · exfalso; omega
    · refine x_iload_2 dX3_readNumber_36 ?_
      refine x_bip (c := 10) dX3_readNumber_37 (by decide) ?_
      refine x_imulN dX3_readNumber_39 ?_
      refine x_aload_1 dX3_readNumber_40 ?_
      refine x_aload_0 dX3_readNumber_41 ?_
      refine x_getV dX3_readNumber_42 f_X3_20 k1 e19 ?_
      refine x_V1i dX3_readNumber_45 m_X3_29 (c_X6_letterOn x m T hx (txp_fr ht (fun y j hy => fr19 y j (by omega))) hm (p + 1) (by omega)) hx.1 (fun x45 I45 h45 => ?_)
      obtain ⟨rfl, rfl⟩ := h45
      refine x_bip (c := 48) dX3_readNumber_48 (by decide) ?_
      refine x_isubN dX3_readNumber_50 (by omega) ?_
      refine x_iaddN dX3_readNumber_51 ?_
      refine x_istore_2 dX3_readNumber_52 rfl rfl ?_
      refine x_aload_0 dX3_readNumber_53 ?_
      first | refine x_dup_ref dX3_readNumber_54 ?_ | refine x_dup_int dX3_readNumber_54 ?_
      refine x_getV dX3_readNumber_55 f_X3_20 k1 e19 ?_
      refine x_const (c := 1) dX3_readNumber_58 rfl ?_
      refine x_iaddN dX3_readNumber_59 ?_
      refine x_putA dX3_readNumber_60 f_X3_20 k1 (fun J60 fr60 e60 => ?_)
      refine x_iload_2 dX3_readNumber_63 ?_
      exact x_iret (st := []) dX3_readNumber_64 rfl rfl (⟨_, rfl, rfl, fun y j hy => (fr60 y j hy).trans (fr19 y j hy), e60.trans (by congr 1; unfold npl; rw [if_pos h30]), by congr 1; unfold nvl; rw [if_pos h30]⟩)
  · unfold fig at h30
    refine x_if_eqN dX3_readNumber_33 (by omega) (fun c33 => ?_) (fun c33 => ?_)
    · refine x_iload_2 dX3_readNumber_63 ?_
      exact x_iret (st := []) dX3_readNumber_64 rfl rfl (⟨_, rfl, rfl, fr19, e19.trans (by congr 1; unfold npl; rw [if_neg h30]), by congr 1; unfold nvl; rw [if_neg h30]⟩)
    · exfalso; omega
theorem pNum_le (T : Nat → Nat) (m p : Nat) : ∀ i, pNum T m p i ≤ p + 3 * i
  | 0 => Nat.le_refl _
  | i + 1 => by
    have h := pNum_le T m p i
    have h2 := npl_le T m (pNum T m p i)
    show npl T m (pNum T m p i) + 1 ≤ _
    omega
theorem okn_step {T : Nat → Nat} {m p i q0 : Nat} (h : ∀ j, j < i → okn T m (pNum T m p j) (if j + 1 < q0 then 44 else 59)) (hf : fig (ltr T m (pNum T m p i))) (he : ltr T m (npl T m (pNum T m p i)) = if i + 1 < q0 then 44 else 59) : ∀ j, j < i + 1 → okn T m (pNum T m p j) (if j + 1 < q0 then 44 else 59) := by
  intro j hj
  by_cases e : j = i
  · subst e; exact ⟨hf, he⟩
  · exact h j (by omega)
set_option maxHeartbeats 4000000 in
theorem l_X3_readNumbers {r : Ev} {n : Nat} {Q : MQ2} {F : Post} (a x m : Nat) (T : Nat → Nat) (hb : RdB n Q a) (hx : TxB n Q x) {I0 : MI} (ht0 : txp I0 x m T) (hm : m ≤ 200) (hT : ∀ k, k < m → T k < 128) (hdis : x + 2 ≤ a ∨ a + 2 ≤ x) (p q0 : Nat) (hp3 : p < 300) (hq3 : q0 ≤ 3) (hF1 : ∀ J, FrS I0 J (FtR a) → 0 < q0 → okNums T m p q0 → J a 1 = nI (pNum T m p q0) → (∀ i, i < q0 → J (a + 1) i = nI (nvl T m (pNum T m p i))) → F (some (.int (nI 1))) J Q) (hF0 : ∀ J, FrS I0 J (FtR a) → ¬ (0 < q0 ∧ okNums T m p q0) → F (some (.int (nI 0))) J Q) : ∀ (k : Nat) (i : Nat) (I : MI) (w4 : Option Value), i ≤ q0 → i + k = q0 + 1 → FrS I0 I (FtR a) → (∀ j, j < i → okn T m (pNum T m p j) (if j + 1 < q0 then 44 else 59)) → I a 1 = nI (pNum T m p i) → (∀ j, j < i → I (a + 1) j = nI (nvl T m (pNum T m p j))) → X r 2 yX3_readNumbers cX3_readNumbers (5, (some .boolean)) (0, 0) 2 [some (.ref (evz r + a)), some (.ref (evz r + x)), some (.int (nI q0)), some (.int (nI i)), w4] [] n I Q F := by
  intro k
  induction k with
  | zero => intros; omega
  | succ k ih =>
    intro i I w4 hi0 hi hfr hok hp hvs
    obtain ⟨k1, k2, k3⟩ := id hb
    refine x_iload_3 dX3_readNumbers_2 ?_
    refine x_iload_2 dX3_readNumbers_3 ?_
    refine x_icmp_geN dX3_readNumbers_4 (by omega) (by omega) (fun c4 => ?_) (fun c4 => ?_)
    · obtain rfl : i = q0 := (by omega)
      refine x_iload_2 dX3_readNumbers_90 ?_
      refine x_if_leN dX3_readNumbers_91 (by omega) (fun c91 => ?_) (fun c91 => ?_)
      · refine x_const (c := 0) dX3_readNumbers_98 rfl ?_
        exact x_iret (st := []) dX3_readNumbers_99 rfl rfl (by first | exact hF1 _ hfr (by omega) hok hp hvs | exact hF0 _ hfr (fun z => by omega))
      · refine x_const (c := 1) dX3_readNumbers_94 rfl ?_
        refine x_goto dX3_readNumbers_95 ?_
        exact x_iret (st := []) dX3_readNumbers_99 rfl rfl (by first | exact hF1 _ hfr (by omega) hok hp hvs | exact hF0 _ hfr (fun z => by omega))
    · refine x_iload_3 dX3_readNumbers_7 ?_
      refine x_aload_0 dX3_readNumbers_8 ?_
      refine x_getr dX3_readNumbers_9 f_X3_9 k1 k3 ?_
      refine x_alen dX3_readNumbers_12 k2 (by decide) ?_
      refine x_icmp_geN dX3_readNumbers_13 (by omega) (by omega) (fun c13 => ?_) (fun c13 => ?_)
      · exfalso; omega
      · have ht : txp I x m T := txp_fr ht0 (fun y j hy => hfr y j (by unfold FtR; omega))
        have hpi := pNum_le T m p i
        have hni := npl_le T m (pNum T m p i)
        have hli := ltr_lt hT (npl T m (pNum T m p i))
        refine x_aload_1 dX3_readNumbers_16 ?_
        refine x_aload_0 dX3_readNumbers_17 ?_
        refine x_getV dX3_readNumbers_18 f_X3_20 k1 hp ?_
        refine x_V1i dX3_readNumbers_21 m_X3_29 (c_X6_letterOn x m T hx ht hm (pNum T m p i) (by omega)) hx.1 (fun x21 I21 h21 => ?_)
        obtain ⟨rfl, rfl⟩ := h21
        refine x_S1i dX3_readNumbers_24 m_X3_44 (c_X3_isFigure (ltr T m (pNum T m p i)) (by have := ltr_lt hT (pNum T m p i); omega)) (fun x24 I24 h24 => ?_)
        obtain ⟨rfl, ⟨rfl, h24⟩ | ⟨rfl, h24⟩⟩ := h24
        · refine x_if_neN dX3_readNumbers_27 (by omega) (fun c27 => ?_) (fun c27 => ?_)
          · refine x_aload_0 dX3_readNumbers_32 ?_
            refine x_getr dX3_readNumbers_33 f_X3_9 k1 k3 ?_
            refine x_iload_3 dX3_readNumbers_36 ?_
            refine x_aload_0 dX3_readNumbers_37 ?_
            refine x_aload_1 dX3_readNumbers_38 ?_
            refine x_V1i dX3_readNumbers_39 m_X3_48 (c_X3_readNumber a x m T hb hx ht hm hT hdis (pNum T m p i) hp (by omega) h24) k1 (fun x39 I39 h39 => ?_)
            obtain ⟨qf, q1, rfl⟩ := h39
            refine x_iastA dX3_readNumbers_42 k2 rfl (by omega) (fun J42 fr42 e42 => ?_)
            have ep42 : J42 a 1 = nI (npl T m (pNum T m p i)) := (fr42 _ _ (by omega)).trans q1
            refine x_iload_3 dX3_readNumbers_43 ?_
            refine x_const (c := 1) dX3_readNumbers_44 rfl ?_
            refine x_iaddN dX3_readNumbers_45 ?_
            refine x_iload_2 dX3_readNumbers_46 ?_
            refine x_icmp_geN dX3_readNumbers_47 (by omega) (by omega) (fun c47 => ?_) (fun c47 => ?_)
            · refine x_bip (c := 59) dX3_readNumbers_55 (by decide) ?_
              refine x_istore_4 dX3_readNumbers_57 rfl rfl ?_
              refine x_aload_1 dX3_readNumbers_59 ?_
              refine x_aload_0 dX3_readNumbers_60 ?_
              refine x_getV dX3_readNumbers_61 f_X3_20 k1 ep42 ?_
              refine x_V1i dX3_readNumbers_64 m_X3_29 (c_X6_letterOn x m T hx (txp_fr ht (fun y j hy => (fr42 y j (by omega)).trans (qf y j (by omega)))) hm (npl T m (pNum T m p i)) (by omega)) hx.1 (fun x64 I64 h64 => ?_)
              obtain ⟨rfl, rfl⟩ := h64
              refine x_iload_4 dX3_readNumbers_67 ?_
              refine x_icmp_eqN dX3_readNumbers_69 (by omega) (by omega) (fun c69 => ?_) (fun c69 => ?_)
              · refine x_aload_0 dX3_readNumbers_74 ?_
                first | refine x_dup_ref dX3_readNumbers_75 ?_ | refine x_dup_int dX3_readNumbers_75 ?_
                refine x_getV dX3_readNumbers_76 f_X3_20 k1 ep42 ?_
                refine x_const (c := 1) dX3_readNumbers_79 rfl ?_
                refine x_iaddN dX3_readNumbers_80 ?_
                refine x_putA dX3_readNumbers_81 f_X3_20 k1 (fun J81 fr81 e81 => ?_)
                have e42_p81 := (fr81 (a + 1) (i) (by omega)).trans e42
                refine x_iinc_3 dX3_readNumbers_84 (iinc1 _) rfl rfl ?_
                refine x_goto dX3_readNumbers_87 ?_
                exact ih (i + 1) _ _ (by omega) (by omega) (fun y j hy => (fr81 y j (by unfold FtR at hy; omega)).trans ((fr42 y j (by unfold FtR at hy; omega)).trans ((qf y j (by unfold FtR at hy; omega)).trans (hfr y j hy)))) (okn_step hok h24 (by first | (rw [if_pos (by omega)]; omega) | (rw [if_neg (by omega)]; omega))) e81 (fun j hj => (fr81 _ _ (by omega)).trans (by
                  by_cases e : j = i
                  · subst e; exact e42
                  · rw [fr42 _ _ (by omega), qf _ _ (by omega)]; exact hvs j (by omega)))
              · refine x_const (c := 0) dX3_readNumbers_72 rfl ?_
                exact x_iret (st := []) dX3_readNumbers_73 rfl rfl (hF0 _ (fun y j hy => (fr42 y j (by unfold FtR at hy; omega)).trans ((qf y j (by unfold FtR at hy; omega)).trans (hfr y j hy))) (fun z => by have h9 := (z.2 i (by omega)).2; first | (rw [if_pos (by omega)] at h9; omega) | (rw [if_neg (by omega)] at h9; omega)))
            · refine x_bip (c := 44) dX3_readNumbers_50 (by decide) ?_
              refine x_goto dX3_readNumbers_52 ?_
              refine x_istore_4 dX3_readNumbers_57 rfl rfl ?_
              refine x_aload_1 dX3_readNumbers_59 ?_
              refine x_aload_0 dX3_readNumbers_60 ?_
              refine x_getV dX3_readNumbers_61 f_X3_20 k1 ep42 ?_
              refine x_V1i dX3_readNumbers_64 m_X3_29 (c_X6_letterOn x m T hx (txp_fr ht (fun y j hy => (fr42 y j (by omega)).trans (qf y j (by omega)))) hm (npl T m (pNum T m p i)) (by omega)) hx.1 (fun x64 I64 h64 => ?_)
              obtain ⟨rfl, rfl⟩ := h64
              refine x_iload_4 dX3_readNumbers_67 ?_
              refine x_icmp_eqN dX3_readNumbers_69 (by omega) (by omega) (fun c69 => ?_) (fun c69 => ?_)
              · refine x_aload_0 dX3_readNumbers_74 ?_
                first | refine x_dup_ref dX3_readNumbers_75 ?_ | refine x_dup_int dX3_readNumbers_75 ?_
                refine x_getV dX3_readNumbers_76 f_X3_20 k1 ep42 ?_
                refine x_const (c := 1) dX3_readNumbers_79 rfl ?_
                refine x_iaddN dX3_readNumbers_80 ?_
                refine x_putA dX3_readNumbers_81 f_X3_20 k1 (fun J81 fr81 e81 => ?_)
                have e42_p81 := (fr81 (a + 1) (i) (by omega)).trans e42
                refine x_iinc_3 dX3_readNumbers_84 (iinc1 _) rfl rfl ?_
                refine x_goto dX3_readNumbers_87 ?_
                exact ih (i + 1) _ _ (by omega) (by omega) (fun y j hy => (fr81 y j (by unfold FtR at hy; omega)).trans ((fr42 y j (by unfold FtR at hy; omega)).trans ((qf y j (by unfold FtR at hy; omega)).trans (hfr y j hy)))) (okn_step hok h24 (by first | (rw [if_pos (by omega)]; omega) | (rw [if_neg (by omega)]; omega))) e81 (fun j hj => (fr81 _ _ (by omega)).trans (by
                  by_cases e : j = i
                  · subst e; exact e42
                  · rw [fr42 _ _ (by omega), qf _ _ (by omega)]; exact hvs j (by omega)))
              · refine x_const (c := 0) dX3_readNumbers_72 rfl ?_
                exact x_iret (st := []) dX3_readNumbers_73 rfl rfl (hF0 _ (fun y j hy => (fr42 y j (by unfold FtR at hy; omega)).trans ((qf y j (by unfold FtR at hy; omega)).trans (hfr y j hy))) (fun z => by have h9 := (z.2 i (by omega)).2; first | (rw [if_pos (by omega)] at h9; omega) | (rw [if_neg (by omega)] at h9; omega)))
          · exfalso; omega
        · refine x_if_neN dX3_readNumbers_27 (by omega) (fun c27 => ?_) (fun c27 => ?_)
          · exfalso; omega
          · refine x_const (c := 0) dX3_readNumbers_30 rfl ?_
            exact x_iret (st := []) dX3_readNumbers_31 rfl rfl (hF0 _ hfr (fun z => h24 (z.2 i (by omega)).1))
set_option maxHeartbeats 4000000 in
theorem c_X3_readNumbers {r : Ev} {n : Nat} {I : MI} {Q : MQ2} (a x m : Nat) (T : Nat → Nat) (hb : RdB n Q a) (hx : TxB n Q x) (ht : txp I x m T) (hm : m ≤ 200) (hT : ∀ k, k < m → T k < 128) (hdis : x + 2 ≤ a ∨ a + 2 ≤ x) (p q0 : Nat) (hp : I a 1 = nI p) (hp3 : p < 300) (hq3 : q0 ≤ 3) : CT r 2 yX3_readNumbers cX3_readNumbers (5, (some .boolean)) (0, 0) [.ref (evz r + a), .ref (evz r + x), .int (nI q0)] n I Q (ri Q (fun v J => FrS I J (FtR a) ∧ ((v = nI 1 ∧ (0 < q0 ∧ okNums T m p q0) ∧ J a 1 = nI (pNum T m p q0) ∧ (∀ i, i < q0 → J (a + 1) i = nI (nvl T m (pNum T m p i)))) ∨ (v = nI 0 ∧ ¬ (0 < q0 ∧ okNums T m p q0))))) := by
  refine ct_of (lv := [some (.ref (evz r + a)), some (.ref (evz r + x)), some (.int (nI q0)), none, none]) (by decide +kernel) rfl rfl rfl ?_
  refine x_const (c := 0) dX3_readNumbers_0 rfl ?_
  refine x_istore_3 dX3_readNumbers_1 rfl rfl ?_
  exact l_X3_readNumbers a x m T hb hx ht hm hT hdis p q0 hp3 hq3 (fun J q1 q2 q3 q4 q5 => ⟨_, rfl, rfl, q1, Or.inl ⟨rfl, ⟨q2, q3⟩, q4, q5⟩⟩) (fun J q1 q2 => ⟨_, rfl, rfl, q1, Or.inr ⟨rfl, q2⟩⟩) (q0 + 1) 0 _ _ (by omega) (by omega) (fun _ _ _ => rfl) (fun j hj => absurd hj (Nat.not_lt_zero j)) hp (fun j hj => absurd hj (Nat.not_lt_zero j))
theorem lsd_nb0 : ∀ c : Nat, c < 128 → (c = 104 ∨ c = 108 ∨ c = 109 ∨ c = 115 ∨ c = 121) ∨ Op.lookupswitch.offset (#[(104, 53), (108, 51), (109, 57), (115, 55), (121, 59)] : Array (Int × Int)).toList 61 (nI c).toInt = (61 : Int) := by decide +kernel
theorem lsd_nb (c : Nat) (hc : c < 128) (h104 : c ≠ 104) (h108 : c ≠ 108) (h109 : c ≠ 109) (h115 : c ≠ 115) (h121 : c ≠ 121) : Op.lookupswitch.offset (#[(104, 53), (108, 51), (109, 57), (115, 55), (121, 59)] : Array (Int × Int)).toList 61 (nI c).toInt = (61 : Int) := (lsd_nb0 c hc).elim (fun z => by omega) id
theorem lsd_tn0 : ∀ c : Nat, c < 128 → (c = 104 ∨ c = 108 ∨ c = 109 ∨ c = 115) ∨ Op.lookupswitch.offset (#[(104, 69), (108, 43), (109, 97), (115, 86)] : Array (Int × Int)).toList 108 (nI c).toInt = (108 : Int) := by decide +kernel
theorem lsd_tn (c : Nat) (hc : c < 128) (h104 : c ≠ 104) (h108 : c ≠ 108) (h109 : c ≠ 109) (h115 : c ≠ 115) : Op.lookupswitch.offset (#[(104, 69), (108, 43), (109, 97), (115, 86)] : Array (Int × Int)).toList 108 (nI c).toInt = (108 : Int) := (lsd_tn0 c hc).elim (fun z => by omega) id
set_option maxHeartbeats 4000000 in
theorem c_X3_numbersBehind {r : Ev} {n : Nat} {I : MI} {Q : MQ2} (c : Nat) (hc : c < 128) : CT r 0 yX3_numbersBehind cX3_numbersBehind (1, (some .int)) (0, 0) [.int (nI c)] n I Q (ri Q (fun v J => J = I ∧ v = nI (cntN c))) := by
  refine ct_of (lv := [some (.int (nI c))]) (by decide +kernel) rfl rfl rfl ?_
  refine x_iload_0 dX3_numbersBehind_0 ?_
  by_cases q104 : c = 104
  · subst q104
    refine x_ls (off := 53) (t := 54) dX3_numbersBehind_1 (by decide) (by decide) (by decide) ?_
    refine x_const (c := 2) dX3_numbersBehind_54 rfl ?_
    exact x_iret (st := []) dX3_numbersBehind_55 rfl rfl (⟨_, rfl, rfl, rfl, rfl⟩)
  by_cases q108 : c = 108
  · subst q108
    refine x_ls (off := 51) (t := 52) dX3_numbersBehind_1 (by decide) (by decide) (by decide) ?_
    refine x_const (c := 3) dX3_numbersBehind_52 rfl ?_
    exact x_iret (st := []) dX3_numbersBehind_53 rfl rfl (⟨_, rfl, rfl, rfl, rfl⟩)
  by_cases q109 : c = 109
  · subst q109
    refine x_ls (off := 57) (t := 58) dX3_numbersBehind_1 (by decide) (by decide) (by decide) ?_
    refine x_const (c := 1) dX3_numbersBehind_58 rfl ?_
    exact x_iret (st := []) dX3_numbersBehind_59 rfl rfl (⟨_, rfl, rfl, rfl, rfl⟩)
  by_cases q115 : c = 115
  · subst q115
    refine x_ls (off := 55) (t := 56) dX3_numbersBehind_1 (by decide) (by decide) (by decide) ?_
    refine x_const (c := 1) dX3_numbersBehind_56 rfl ?_
    exact x_iret (st := []) dX3_numbersBehind_57 rfl rfl (⟨_, rfl, rfl, rfl, rfl⟩)
  by_cases q121 : c = 121
  · subst q121
    refine x_ls (off := 59) (t := 60) dX3_numbersBehind_1 (by decide) (by decide) (by decide) ?_
    refine x_const (c := 1) dX3_numbersBehind_60 rfl ?_
    exact x_iret (st := []) dX3_numbersBehind_61 rfl rfl (⟨_, rfl, rfl, rfl, rfl⟩)
  refine x_ls (off := 61) (t := 62) dX3_numbersBehind_1 (by decide) (lsd_nb c hc q104 q108 q109 q115 q121) (by decide) ?_
  refine x_const (c := 0) dX3_numbersBehind_62 rfl ?_
  exact x_iret (st := []) dX3_numbersBehind_63 rfl rfl (⟨_, rfl, rfl, rfl, by unfold cntN; rw [if_neg q108, if_neg q104, if_neg q115, if_neg q109, if_neg q121]⟩)
