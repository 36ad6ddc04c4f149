/-! the ways: the object at a, places at a + 1, the best at a + 2 -/
def WyB (n : Nat) (Q : MQ2) (a : Nat) : Prop := Ob n 7 a ∧ Ar n 11 (a + 1) 6 ∧ Ar n 11 (a + 2) 6 ∧ Q a 0 = some (a + 1) ∧ Q a 1 = some (a + 2)
def swpF (f : Nat → Nat) (i j : Nat) : Nat → Nat := nup (nup f i (f j)) j (f i)
def ascF (f : Nat → Nat) : Nat → Option Nat
  | 0 => none
  | k + 1 => if f k < f (k + 1) then some k else ascF f k
def laF (f : Nat → Nat) (l : Nat) : Nat → Nat
  | 0 => l
  | i + 1 => if l < i ∧ f l < f i then i else laF f l i
def rvF : Nat → Nat → Nat → (Nat → Nat) → Nat → Nat
  | 0, _, _, f => f
  | k + 1, i, j, f => if i < j then rvF k (i + 1) (j - 1) (swpF f i j) else f
def goF (N : Nat) (f : Nat → Nat) : Option (Nat → Nat) := match ascF f (N - 1) with
  | none => none
  | some l => some (rvF N (l + 1) (N - 1) (swpF f l (laF f l N)))
theorem laF_0 {f : Nat → Nat} {l : Nat} : ∀ i, i ≤ l + 1 → laF f l i = l
  | 0, _ => rfl
  | i + 1, h => by
    unfold laF
    rw [if_neg (by omega), laF_0 i (by omega)]
theorem laF_lt {f : Nat → Nat} {l N : Nat} (hl : l < N) : ∀ i, i ≤ N → laF f l i < N
  | 0, _ => hl
  | i + 1, h => by
    unfold laF
    split
    · omega
    · exact laF_lt hl i (by omega)
theorem ascF_lt {f : Nat → Nat} {l : Nat} : ∀ k, ascF f k = some l → l < k
  | 0, h => by cases h
  | k + 1, h => by
    unfold ascF at h
    by_cases z : f k < f (k + 1)
    · rw [if_pos z] at h; cases h; exact Nat.lt_succ_self _
    · rw [if_neg z] at h; exact Nat.lt_succ_of_lt (ascF_lt k h)
theorem swp_lt {f : Nat → Nat} {b i j N : Nat} (h : ∀ k, k < N → f k < b) (hi : i < N) (hj : j < N) : ∀ k, k < N → swpF f i j k < b := by
  intro k hk
  unfold swpF
  by_cases e : k = j
  · subst e; rw [nup_s]; exact h i hi
  · rw [nup_n e]
    by_cases e2 : k = i
    · subst e2; rw [nup_s]; exact h j hj
    · rw [nup_n e2]; exact h k hk
theorem iincP {a : Nat} (h : 0 < a) : nI a + Int32.ofInt (-1) = nI (a - 1) := by
  obtain ⟨b, rfl⟩ : ∃ b, a = b + 1 := ⟨a - 1, by omega⟩
  exact iincm b
def plw (I : MI) (a N : Nat) (f : Nat → Nat) : Prop := I a 2 = nI N ∧ ∀ k, k < N → I (a + 1) k = nI (f k)
theorem plw_fr {I J : MI} {a N : Nat} {f : Nat → Nat} (h : plw I a N f) (e1 : J a 2 = I a 2) (e2 : ∀ k, J (a + 1) k = I (a + 1) k) : plw J a N f := ⟨e1.trans h.1, fun k hk => (e2 k).trans (h.2 k hk)⟩
theorem plw_swp {I J K : MI} {a N i j : Nat} {f : Nat → Nat} (h : plw I a N f) (f1 : Fr1 I J (a + 1) i) (e1 : J (a + 1) i = nI (f j)) (f2 : Fr1 J K (a + 1) j) (e2 : K (a + 1) j = nI (f i)) : ∀ k, k < N → K (a + 1) k = nI (swpF f i j k) := by
  intro k hk
  unfold swpF
  by_cases z : k = j
  · subst z; rw [nup_s]; exact e2
  · rw [nup_n z, f2 _ _ (by omega)]
    by_cases z2 : k = i
    · subst z2; rw [nup_s]; exact e1
    · rw [nup_n z2, f1 _ _ (by omega)]; exact h.2 k hk
set_option maxHeartbeats 4000000 in
theorem c_X7_swap {r : Ev} {n : Nat} {I : MI} {Q : MQ2} (a : Nat) (hb : WyB n Q a) (N : Nat) (f : Nat → Nat) (hp : plw I a N f) (hN : N ≤ 6) (hf : ∀ k, k < N → f k < 1000) (i j : Nat) (hi : i < N) (hj : j < N) : CT r 1 yX7_swap cX7_swap (4, none) (0, 0) [.ref (evz r + a), .int (nI i), .int (nI j)] n I Q (rv Q (fun J => FrS I J (fun x _ => x = a + 1) ∧ plw J a N (swpF f i j))) := by
  refine ct_of (lv := [some (.ref (evz r + a)), some (.int (nI i)), some (.int (nI j)), none]) (by decide +kernel) rfl rfl rfl ?_
  obtain ⟨k1, k2, k3, q1, q2⟩ := id hb
  refine x_iload_1 dX7_swap_0 ?_
  refine x_const (c := 0) dX7_swap_1 rfl ?_
  refine x_const (c := 5) dX7_swap_2 rfl ?_
  refine x_S3i dX7_swap_3 m_X7_66 (c_isOutN i 0 5 (by omega) (by omega) (by omega)) (fun x3 I3 h3 => ?_)
  obtain ⟨rfl, ⟨rfl, h3⟩ | ⟨rfl, h3⟩⟩ := h3
  · refine x_if_neN dX7_swap_6 (by omega) (fun c6 => ?_) (fun c6 => ?_)
    · exact x_vret (st := []) dX7_swap_44 rfl (by exfalso; omega)
    · exfalso; omega
  · refine x_if_neN dX7_swap_6 (by omega) (fun c6 => ?_) (fun c6 => ?_)
    · exfalso; omega
    · refine x_iload_2 dX7_swap_9 ?_
      refine x_const (c := 0) dX7_swap_10 rfl ?_
      refine x_const (c := 5) dX7_swap_11 rfl ?_
      refine x_S3i dX7_swap_12 m_X7_66 (c_isOutN j 0 5 (by omega) (by omega) (by omega)) (fun x12 I12 h12 => ?_)
      obtain ⟨rfl, ⟨rfl, h12⟩ | ⟨rfl, h12⟩⟩ := h12
      · refine x_if_neN dX7_swap_15 (by omega) (fun c15 => ?_) (fun c15 => ?_)
        · exact x_vret (st := []) dX7_swap_44 rfl (by exfalso; omega)
        · exfalso; omega
      · refine x_if_neN dX7_swap_15 (by omega) (fun c15 => ?_) (fun c15 => ?_)
        · exfalso; omega
        · refine x_aload_0 dX7_swap_18 ?_
          refine x_getr dX7_swap_19 f_X7_9 (by assumption) q1 ?_
          refine x_iload_1 dX7_swap_22 ?_
          refine x_ialdV dX7_swap_23 (by assumption) rfl (by omega) (hp.2 i hi) ?_
          refine x_istore_3 dX7_swap_24 rfl rfl ?_
          refine x_aload_0 dX7_swap_25 ?_
          refine x_getr dX7_swap_26 f_X7_9 (by assumption) q1 ?_
          refine x_iload_1 dX7_swap_29 ?_
          refine x_aload_0 dX7_swap_30 ?_
          refine x_getr dX7_swap_31 f_X7_9 (by assumption) q1 ?_
          refine x_iload_2 dX7_swap_34 ?_
          refine x_ialdV dX7_swap_35 (by assumption) rfl (by omega) (hp.2 j hj) ?_
          refine x_iastA dX7_swap_36 (by assumption) rfl (by omega) (fun J36 fr36 e36 => ?_)
          refine x_aload_0 dX7_swap_37 ?_
          refine x_getr dX7_swap_38 f_X7_9 (by assumption) q1 ?_
          refine x_iload_2 dX7_swap_41 ?_
          refine x_iload_3 dX7_swap_42 ?_
          refine x_iastA dX7_swap_43 (by assumption) rfl (by omega) (fun J43 fr43 e43 => ?_)
          exact x_vret (st := []) dX7_swap_44 rfl (⟨rfl, rfl, fun x y hx => (fr43 x y (by omega)).trans (fr36 x y (by omega)), ⟨(fr43 _ _ (by omega)).trans ((fr36 _ _ (by omega)).trans hp.1), fun k hk => plw_swp hp fr36 e36 fr43 e43 k hk⟩⟩)
set_option maxHeartbeats 4000000 in
theorem l_X7_leastAbove {r : Ev} {n : Nat} {Q : MQ2} {F : Post} {I : MI} (a : Nat) (hb : WyB n Q a) (N : Nat) (f : Nat → Nat) (hp : plw I a N f) (hN : N ≤ 6) (hf : ∀ k, k < N → f k < 1000) (l : Nat) (hl : l < N) (hF : F (some (.int (nI (laF f l N)))) I Q) : ∀ (k : Nat) (i : Nat), l + 1 ≤ i → i ≤ N → i + k = N + 1 → X r 1 yX7_leastAbove cX7_leastAbove (4, (some .int)) (0, 0) 6 [some (.ref (evz r + a)), some (.int (nI l)), some (.int (nI (laF f l i))), some (.int (nI i))] [] n I Q F := by
  intro k
  induction k with
  | zero => intros; omega
  | succ k ih =>
    intro i hi1 hi0 hi
    obtain ⟨k1, k2, k3, q1, q2⟩ := id hb
    refine x_iload_3 dX7_leastAbove_6 ?_
    refine x_aload_0 dX7_leastAbove_7 ?_
    refine x_getV dX7_leastAbove_8 f_X7_18 (by assumption) hp.1 ?_
    refine x_icmp_geN dX7_leastAbove_11 (by omega) (by omega) (fun c11 => ?_) (fun c11 => ?_)
    · have e9 : i = N := by omega
      subst e9
      refine x_iload_2 dX7_leastAbove_50 ?_
      exact x_iret (st := []) dX7_leastAbove_51 rfl rfl (hF)
    · have hfi := hf i (by omega)
      have hfl := hf l hl
      refine x_iload_3 dX7_leastAbove_14 ?_
      refine x_aload_0 dX7_leastAbove_15 ?_
      refine x_getr dX7_leastAbove_16 f_X7_9 (by assumption) q1 ?_
      refine x_alen dX7_leastAbove_19 (by assumption) (by decide) ?_
      refine x_icmp_geN dX7_leastAbove_20 (by omega) (by omega) (fun c20 => ?_) (fun c20 => ?_)
      · exfalso; omega
      · refine x_iload_1 dX7_leastAbove_23 ?_
        refine x_if_ltN dX7_leastAbove_24 (by omega) (fun c24 => ?_) (fun c24 => ?_)
        · exfalso; omega
        · refine x_aload_0 dX7_leastAbove_27 ?_
          refine x_getr dX7_leastAbove_28 f_X7_9 (by assumption) q1 ?_
          refine x_iload_3 dX7_leastAbove_31 ?_
          refine x_ialdV dX7_leastAbove_32 (by assumption) rfl (by omega) (hp.2 i (by omega)) ?_
          refine x_aload_0 dX7_leastAbove_33 ?_
          refine x_getr dX7_leastAbove_34 f_X7_9 (by assumption) q1 ?_
          refine x_iload_1 dX7_leastAbove_37 ?_
          refine x_ialdV dX7_leastAbove_38 (by assumption) rfl (by omega) (hp.2 l hl) ?_
          refine x_icmp_leN dX7_leastAbove_39 (by omega) (by omega) (fun c39 => ?_) (fun c39 => ?_)
          · refine x_iinc_3 dX7_leastAbove_44 (iinc1 _) rfl rfl ?_
            refine x_goto dX7_leastAbove_47 ?_
            have e1 : laF f l (i + 1) = laF f l i := if_neg (by omega)
            have h9 := ih (i + 1) (by omega) (by omega) (by omega)
            rw [e1] at h9
            exact h9
          · refine x_iload_3 dX7_leastAbove_42 ?_
            refine x_istore_2 dX7_leastAbove_43 rfl rfl ?_
            refine x_iinc_3 dX7_leastAbove_44 (iinc1 _) rfl rfl ?_
            refine x_goto dX7_leastAbove_47 ?_
            have e1 : laF f l (i + 1) = i := if_pos ⟨by omega, by omega⟩
            have h9 := ih (i + 1) (by omega) (by omega) (by omega)
            rw [e1] at h9
            exact h9
set_option maxHeartbeats 4000000 in
theorem c_X7_leastAbove {r : Ev} {n : Nat} {I : MI} {Q : MQ2} (a : Nat) (hb : WyB n Q a) (N : Nat) (f : Nat → Nat) (hp : plw I a N f) (hN : N ≤ 6) (hf : ∀ k, k < N → f k < 1000) (l : Nat) (hl : l < N) : CT r 1 yX7_leastAbove cX7_leastAbove (4, (some .int)) (0, 0) [.ref (evz r + a), .int (nI l)] n I Q (ri Q (fun v J => J = I ∧ v = nI (laF f l N))) := by
  refine ct_of (lv := [some (.ref (evz r + a)), some (.int (nI l)), none, none]) (by decide +kernel) rfl rfl rfl ?_
  refine x_iload_1 dX7_leastAbove_0 ?_
  refine x_istore_2 dX7_leastAbove_1 rfl rfl ?_
  refine x_iload_1 dX7_leastAbove_2 ?_
  refine x_const (c := 1) dX7_leastAbove_3 rfl ?_
  refine x_iaddN dX7_leastAbove_4 ?_
  refine x_istore_3 dX7_leastAbove_5 rfl rfl ?_
  have h0 := laF_0 (f := f) (l := l) (l + 1) (Nat.le_refl _)
  have h9 := l_X7_leastAbove (r := r) (n := n) (Q := Q) a hb N f hp hN hf l hl (F := ri Q (fun v J => J = I ∧ v = nI (laF f l N))) ⟨_, rfl, rfl, rfl, rfl⟩ (N - l) (l + 1) (by omega) (by omega) (by omega)
  rw [h0] at h9
  exact h9
theorem rv_end {i j : Nat} {f : Nat → Nat} (h : ¬ i < j) : ∀ k, rvF k i j f = f
  | 0 => rfl
  | k + 1 => if_neg h
set_option maxHeartbeats 4000000 in
theorem l_X7_turn {r : Ev} {n : Nat} {Q : MQ2} {F : Post} {I0 : MI} (a : Nat) (hb : WyB n Q a) (N : Nat) (hN : N ≤ 6) (l0 : Nat) (tg : Nat → Nat) (hF : ∀ J, FrS I0 J (fun x _ => x = a + 1) → plw J a N tg → F none J Q) : ∀ (k : Nat) (i j : Nat) (f : Nat → Nat) (I : MI), j < N → i ≤ N → N + 1 ≤ i + k → FrS I0 I (fun x _ => x = a + 1) → plw I a N f → (∀ k, k < N → f k < 1000) → tg = rvF (k - 1) i j f → X r 2 yX7_turnBehind cX7_turnBehind (4, none) (0, 0) 11 [some (.ref (evz r + a)), some (.int (nI l0)), some (.int (nI j)), some (.int (nI i))] [] n I Q F := by
  intro k
  induction k with
  | zero => intros; omega
  | succ k ih =>
    intro i j f I hj hi0 hi hfr hp hf htg
    obtain ⟨k1, k2, k3, q1, q2⟩ := id hb
    refine x_iload_3 dX7_turnBehind_11 ?_
    refine x_iload_2 dX7_turnBehind_12 ?_
    refine x_icmp_geN dX7_turnBehind_13 (by omega) (by omega) (fun c13 => ?_) (fun c13 => ?_)
    · have e9 : tg = f := by rw [htg]; exact rv_end (by omega) _
      exact x_vret (st := []) dX7_turnBehind_31 rfl (hF _ hfr (by rw [e9]; exact hp))
    · obtain ⟨k2, hk2⟩ : ∃ k2, k = k2 + 1 := ⟨k - 1, by omega⟩
      refine x_aload_0 dX7_turnBehind_16 ?_
      refine x_iload_3 dX7_turnBehind_17 ?_
      refine x_iload_2 dX7_turnBehind_18 ?_
      refine x_V2v dX7_turnBehind_19 m_X7_58 (c_X7_swap a hb N f hp hN hf i j (by omega) hj) (by assumption) (fun I19 h19 => ?_)
      obtain ⟨sf19, sp19⟩ := h19
      refine x_iinc_2 dX7_turnBehind_22 (iincP (by omega)) rfl rfl ?_
      refine x_iinc_3 dX7_turnBehind_25 (iinc1 _) rfl rfl ?_
      refine x_goto dX7_turnBehind_28 ?_
      refine ih (i + 1) (j - 1) _ _ (by omega) (by omega) (by omega) (fun x y hx => (sf19 x y hx).trans (hfr x y hx)) sp19 (swp_lt hf (by omega) hj) ?_
      rw [htg, hk2]
      exact if_pos (by omega)
set_option maxHeartbeats 4000000 in
theorem c_X7_turnBehind {r : Ev} {n : Nat} {I : MI} {Q : MQ2} (a : Nat) (hb : WyB n Q a) (N : Nat) (f : Nat → Nat) (hp : plw I a N f) (hN : N ≤ 6) (hf : ∀ k, k < N → f k < 1000) (l : Nat) (hl : l + 1 < N) : CT r 2 yX7_turnBehind cX7_turnBehind (4, none) (0, 0) [.ref (evz r + a), .int (nI l)] n I Q (rv Q (fun J => FrS I J (fun x _ => x = a + 1) ∧ plw J a N (rvF N (l + 1) (N - 1) f))) := by
  refine ct_of (lv := [some (.ref (evz r + a)), some (.int (nI l)), none, none]) (by decide +kernel) rfl rfl rfl ?_
  obtain ⟨k1, k2, k3, q1, q2⟩ := id hb
  refine x_aload_0 dX7_turnBehind_0 ?_
  refine x_getV dX7_turnBehind_1 f_X7_18 (by assumption) hp.1 ?_
  refine x_const (c := 1) dX7_turnBehind_4 rfl ?_
  refine x_isubN dX7_turnBehind_5 (by omega) ?_
  refine x_istore_2 dX7_turnBehind_6 rfl rfl ?_
  refine x_iload_1 dX7_turnBehind_7 ?_
  refine x_const (c := 1) dX7_turnBehind_8 rfl ?_
  refine x_iaddN dX7_turnBehind_9 ?_
  refine x_istore_3 dX7_turnBehind_10 rfl rfl ?_
  exact l_X7_turn a hb N hN _ _ (fun J q1 q2 => ⟨rfl, rfl, q1, q2⟩) (N + 1) (l + 1) (N - 1) f _ (by omega) (by omega) (by omega) (fun _ _ _ => rfl) hp hf rfl
set_option maxHeartbeats 4000000 in
theorem l_X7_goEnd {r : Ev} {n : Nat} {Q : MQ2} {F : Post} {I : MI} (a : Nat) (hF : F (some (.int (nI 0))) I Q) : X r 3 yX7_goOn cX7_goOn (2, (some .boolean)) (0, 0) 15 [some (.ref (evz r + a)), some (.int (-1))] [] n I Q F := by
  refine x_iload_1 dX7_goOn_15 ?_
  refine x_if_lt dX7_goOn_16 (fun c16 => ?_) (fun c16 => ?_)
  · refine x_const (c := 0) dX7_goOn_59 rfl ?_
    exact x_iret (st := []) dX7_goOn_60 rfl rfl (hF)
  · exact absurd (by decide) c16
set_option maxHeartbeats 4000000 in
theorem l_X7_goOn {r : Ev} {n : Nat} {Q : MQ2} {F : Post} {I : MI} (a : Nat) (hb : WyB n Q a) (N : Nat) (f : Nat → Nat) (hp : plw I a N f) (hN : N ≤ 6) (hf : ∀ k, k < N → f k < 1000) (hF1 : ∀ J f2, FrS I J (fun x _ => x = a + 1) → goF N f = some f2 → plw J a N f2 → F (some (.int (nI 1))) J Q) (hF0 : goF N f = none → F (some (.int (nI 0))) I Q) : ∀ (k : Nat) (l : Nat), l + 1 = k → l + 2 ≤ N → ascF f (N - 1) = ascF f (l + 1) → X r 3 yX7_goOn cX7_goOn (2, (some .boolean)) (0, 0) 15 [some (.ref (evz r + a)), some (.int (nI l))] [] n I Q F := by
  intro k
  induction k with
  | zero => intros; omega
  | succ k ih =>
    intro l hlk hl has
    obtain ⟨k1, k2, k3, q1, q2⟩ := id hb
    refine x_iload_1 dX7_goOn_15 ?_
    refine x_if_ltN dX7_goOn_16 (by omega) (fun c16 => ?_) (fun c16 => ?_)
    · exfalso; omega
    · refine x_aload_0 dX7_goOn_19 ?_
      refine x_getr dX7_goOn_20 f_X7_9 (by assumption) q1 ?_
      refine x_iload_1 dX7_goOn_23 ?_
      have hfl := hf l (by omega)
      have hfl1 := hf (l + 1) (by omega)
      refine x_ialdV dX7_goOn_24 (by assumption) rfl (by omega) (hp.2 l (by omega)) ?_
      refine x_aload_0 dX7_goOn_25 ?_
      refine x_getr dX7_goOn_26 f_X7_9 (by assumption) q1 ?_
      refine x_iload_1 dX7_goOn_29 ?_
      refine x_const (c := 1) dX7_goOn_30 rfl ?_
      refine x_iaddN dX7_goOn_31 ?_
      refine x_ialdV dX7_goOn_32 (by assumption) rfl (by omega) (hp.2 (l + 1) (by omega)) ?_
      refine x_icmp_geN dX7_goOn_33 (by omega) (by omega) (fun c33 => ?_) (fun c33 => ?_)
      · have hs : ascF f (N - 1) = ascF f l := has.trans (if_neg (by omega))
        by_cases z : l = 0
        · refine x_iinc_1 dX7_goOn_53 (v := -1) (by rw [z]; rfl) rfl rfl ?_
          refine x_goto dX7_goOn_56 ?_
          refine l_X7_goEnd a (hF0 ?_)
          unfold goF
          rw [hs, z]
          rfl
        · refine x_iinc_1 dX7_goOn_53 (iincP (by omega)) rfl rfl ?_
          refine x_goto dX7_goOn_56 ?_
          exact ih (l - 1) (by omega) (by omega) (by rw [hs, show l - 1 + 1 = l by omega])
      · have hs : ascF f (N - 1) = some l := has.trans (if_pos (by omega))
        refine x_aload_0 dX7_goOn_36 ?_
        refine x_iload_1 dX7_goOn_37 ?_
        refine x_aload_0 dX7_goOn_38 ?_
        refine x_iload_1 dX7_goOn_39 ?_
        refine x_V1i dX7_goOn_40 m_X7_55 (c_X7_leastAbove a hb N f hp hN hf l (by omega)) (by assumption) (fun x40 I40 h40 => ?_)
        obtain ⟨rfl, rfl⟩ := h40
        refine x_V2v dX7_goOn_43 m_X7_58 (c_X7_swap a hb N f hp hN hf l (laF f l N) (by omega) (laF_lt (by omega) N (Nat.le_refl N))) (by assumption) (fun I43 h43 => ?_)
        obtain ⟨sf43, sp43⟩ := h43
        refine x_aload_0 dX7_goOn_46 ?_
        refine x_iload_1 dX7_goOn_47 ?_
        refine x_V1v dX7_goOn_48 m_X7_62 (c_X7_turnBehind a hb N _ sp43 hN (swp_lt hf (by omega) (laF_lt (by omega) N (Nat.le_refl N))) l (by omega)) (by assumption) (fun I48 h48 => ?_)
        obtain ⟨rf48, rp48⟩ := h48
        refine x_const (c := 1) dX7_goOn_51 rfl ?_
        exact x_iret (st := []) dX7_goOn_52 rfl rfl (hF1 _ _ (fun x y hx => (rf48 x y hx).trans (sf43 x y hx)) (by unfold goF; rw [hs]) rp48)
set_option maxHeartbeats 4000000 in
theorem c_X7_goOn {r : Ev} {n : Nat} {I : MI} {Q : MQ2} (a : Nat) (hb : WyB n Q a) (N : Nat) (f : Nat → Nat) (hp : plw I a N f) (hN : N ≤ 6) (hf : ∀ k, k < N → f k < 1000) (h1 : 1 ≤ N) : CT r 3 yX7_goOn cX7_goOn (2, (some .boolean)) (0, 0) [.ref (evz r + a)] n I Q (ri Q (fun v J => FrS I J (fun x _ => x = a + 1) ∧ ((v = nI 1 ∧ ∃ f2, goF N f = some f2 ∧ plw J a N f2) ∨ (v = nI 0 ∧ goF N f = none)))) := by
  refine ct_of (lv := [some (.ref (evz r + a)), none]) (by decide +kernel) rfl rfl rfl ?_
  obtain ⟨k1, k2, k3, q1, q2⟩ := id hb
  refine x_aload_0 dX7_goOn_0 ?_
  refine x_getV dX7_goOn_1 f_X7_18 (by assumption) hp.1 ?_
  refine x_aload_0 dX7_goOn_4 ?_
  refine x_getr dX7_goOn_5 f_X7_9 (by assumption) q1 ?_
  refine x_alen dX7_goOn_8 (by assumption) (by decide) ?_
  refine x_min dX7_goOn_9 m_X7_49 ?_
  rw [nmin (by omega) (by omega), Nat.min_eq_left hN]
  refine x_const (c := 2) dX7_goOn_12 rfl ?_
  by_cases z : N = 1
  · refine x_isub dX7_goOn_13 ?_
    rw [show nI N - nI 2 = -1 from by rw [z]; rfl]
    refine x_istore_1 dX7_goOn_14 rfl rfl ?_
    refine l_X7_goEnd a ⟨_, rfl, rfl, fun _ _ _ => rfl, Or.inr ⟨rfl, ?_⟩⟩
    unfold goF
    rw [z]
    rfl
  · refine x_isubN dX7_goOn_13 (by omega) ?_
    refine x_istore_1 dX7_goOn_14 rfl rfl ?_
    exact l_X7_goOn a hb N f hp hN hf (fun J f2 q1 q2 q3 => ⟨_, rfl, rfl, q1, Or.inl ⟨rfl, f2, q2, q3⟩⟩) (fun q1 => ⟨_, rfl, rfl, fun _ _ _ => rfl, Or.inr ⟨rfl, q1⟩⟩) (N - 1) (N - 2) (by omega) (by omega) (by rw [show N - 2 + 1 = N - 1 by omega])
set_option maxHeartbeats 4000000 in
theorem c_X7_weigh {r : Ev} {n : Nat} {I : MI} {Q : MQ2} (a : Nat) (hb : WyB n Q a) (bw y : Int32) (h3 : I a 3 = bw) : CT r 1 yX7_weigh cX7_weigh (2, none) (0, 0) [.ref (evz r + a), .int y] n I Q (rv Q (fun J => (bw < y ∧ FrS I J (fun x j => x = a + 2 ∨ (x = a ∧ j = 3)) ∧ J a 3 = y ∧ ∀ k, k < 6 → J (a + 2) k = I (a + 1) k) ∨ (¬ bw < y ∧ J = I))) := by
  refine ct_of (lv := [some (.ref (evz r + a)), some (.int y)]) (by decide +kernel) rfl rfl rfl ?_
  obtain ⟨k1, k2, k3, q1, q2⟩ := id hb
  refine x_iload_1 dX7_weigh_0 ?_
  refine x_aload_0 dX7_weigh_1 ?_
  refine x_getV dX7_weigh_2 f_X7_22 (by assumption) h3 ?_
  refine x_icmp_le dX7_weigh_5 (fun c5 => ?_) (fun c5 => ?_)
  · exact x_vret (st := []) dX7_weigh_28 rfl (⟨rfl, rfl, Or.inr ⟨Int32.not_lt.mpr c5, rfl⟩⟩)
  · refine x_aload_0 dX7_weigh_8 ?_
    refine x_iload_1 dX7_weigh_9 ?_
    refine x_putA dX7_weigh_10 f_X7_22 (by assumption) (fun J10 fr10 e10 => ?_)
    refine x_aload_0 dX7_weigh_13 ?_
    refine x_getr dX7_weigh_14 f_X7_9 (by assumption) q1 ?_
    refine x_const (c := 0) dX7_weigh_17 rfl ?_
    refine x_aload_0 dX7_weigh_18 ?_
    refine x_getr dX7_weigh_19 f_X7_15 (by assumption) q2 ?_
    refine x_const (c := 0) dX7_weigh_22 rfl ?_
    refine x_bip (c := 6) dX7_weigh_23 (by decide) ?_
    refine x_acopy dX7_weigh_25 m_X7_43 k2 k3 rfl (by omega) (by omega) ?_
    exact x_vret (st := []) dX7_weigh_28 rfl (⟨rfl, rfl, Or.inl ⟨Int32.not_le.mp c5, fun x j hx => (cpN_o (by omega)).trans (fr10 x j (by omega)), (cpN_o (by omega)).trans e10, fun k hk => (cpN_i hk).trans (fr10 _ _ (by omega))⟩⟩)
set_option maxHeartbeats 4000000 in
theorem c_X7_isFound {r : Ev} {n : Nat} {I : MI} {Q : MQ2} (a : Nat) (hb : WyB n Q a) (bw : Int32) (h3 : I a 3 = bw) : CT r 0 yX7_isFound cX7_isFound (1, (some .boolean)) (0, 0) [.ref (evz r + a)] n I Q (ri Q (fun v J => J = I ∧ ((v = nI 1 ∧ bw ≠ -4) ∨ (v = nI 0 ∧ bw = -4)))) := by
  refine ct_of (lv := [some (.ref (evz r + a))]) (by decide +kernel) rfl rfl rfl ?_
  obtain ⟨k1, k2, k3, q1, q2⟩ := id hb
  refine x_aload_0 dX7_isFound_0 ?_
  refine x_getV dX7_isFound_1 f_X7_22 (by assumption) h3 ?_
  refine x_bipush (v := -4) dX7_isFound_4 (by decide) ?_
  refine x_icmp_eq dX7_isFound_6 (fun c6 => ?_) (fun c6 => ?_)
  · refine x_const (c := 0) dX7_isFound_13 rfl ?_
    exact x_iret (st := []) dX7_isFound_14 rfl rfl (⟨_, rfl, rfl, rfl, by first | exact Or.inl ⟨rfl, c6⟩ | exact Or.inr ⟨rfl, c6⟩⟩)
  · refine x_const (c := 1) dX7_isFound_9 rfl ?_
    refine x_goto dX7_isFound_10 ?_
    exact x_iret (st := []) dX7_isFound_14 rfl rfl (⟨_, rfl, rfl, rfl, by first | exact Or.inl ⟨rfl, c6⟩ | exact Or.inr ⟨rfl, c6⟩⟩)
set_option maxHeartbeats 4000000 in
theorem c_X7_bestPlace {r : Ev} {n : Nat} {I : MI} {Q : MQ2} (a : Nat) (hb : WyB n Q a) (k : Nat) (hk : k < 6) : CT r 0 yX7_bestPlace cX7_bestPlace (2, (some .int)) (0, 0) [.ref (evz r + a), .int (nI k)] n I Q (ri Q (fun v J => J = I ∧ v = I (a + 2) k)) := by
  refine ct_of (lv := [some (.ref (evz r + a)), some (.int (nI k))]) (by decide +kernel) rfl rfl rfl ?_
  obtain ⟨k1, k2, k3, q1, q2⟩ := id hb
  refine x_iload_1 dX7_bestPlace_0 ?_
  refine x_if_ltN dX7_bestPlace_1 (by omega) (fun c1 => ?_) (fun c1 => ?_)
  · exfalso; omega
  · refine x_iload_1 dX7_bestPlace_4 ?_
    refine x_aload_0 dX7_bestPlace_5 ?_
    refine x_getr dX7_bestPlace_6 f_X7_15 (by assumption) q2 ?_
    refine x_alen dX7_bestPlace_9 (by assumption) (by decide) ?_
    refine x_icmp_ltN dX7_bestPlace_10 (by omega) (by omega) (fun c10 => ?_) (fun c10 => ?_)
    · refine x_aload_0 dX7_bestPlace_18 ?_
      refine x_getr dX7_bestPlace_19 f_X7_15 (by assumption) q2 ?_
      refine x_iload_1 dX7_bestPlace_22 ?_
      refine x_iald dX7_bestPlace_23 (by assumption) rfl (by omega) ?_
      exact x_iret (st := []) dX7_bestPlace_24 rfl rfl (⟨_, rfl, rfl, rfl, rfl⟩)
    · exfalso; omega
/-- the places, from above -/
def srtF (N : Nat) (p : Nat → Nat) (i : Nat) : Nat := p (ordO N p i)
set_option maxHeartbeats 4000000 in
theorem l_X7_begin {r : Ev} {n : Nat} {Q : MQ2} {F : Post} {I0 : MI} (a : Nat) (hb : WyB n Q a) (b : Nat) (t : Tp) (s : St) (hsl : SlB n Q b) (hk : okS t s) (hn : tN t ≤ 6) (hs0 : slp I0 b t s) (hdis : b + 9 ≤ a ∨ a + 3 ≤ b) (hF : ∀ J, FrS I0 J (fun x j => x = a + 1 ∨ (x = a ∧ j = 2)) → plw J a (tN t) (srtF (tN t) (sP s)) → F none J Q) : ∀ (k : Nat) (p : Nat) (I : MI), p ≤ 10 → p + k = 10 + 1 → FrS I0 I (fun x j => x = a + 1 ∨ (x = a ∧ j = 2)) → plw I a (cP (tN t) (sP s) p) (srtF (tN t) (sP s)) → X r 2 yX7_begin cX7_begin (3, none) (0, 0) 13 [some (.ref (evz r + a)), some (.ref (evz r + b)), some (.int (nI p))] [] n I Q F := by
  intro k
  induction k with
  | zero => intros; omega
  | succ k ih =>
    intro p I hi0 hi hfr hp
    obtain ⟨k1, k2, k3, q1, q2⟩ := id hb
    refine x_iload_2 dX7_begin_13 ?_
    refine x_bip (c := 10) dX7_begin_14 (by decide) ?_
    refine x_icmp_geN dX7_begin_16 (by omega) (by omega) (fun c16 => ?_) (fun c16 => ?_)
    · have e9 : p = 10 := by omega
      subst e9
      exact x_vret (st := []) dX7_begin_67 rfl (hF _ hfr (by have h9 := hp; rw [cP_end (fun l hl => (hk.1 l hl).1)] at h9; exact h9))
    · have hs : slp I b t s := slp_fr hs0 hn (fun x j _ _ _ => hfr x j (by omega))
      have hcl := cP_le (tN t) (sP s) p
      refine x_aload_1 dX7_begin_19 ?_
      refine x_iload_2 dX7_begin_20 ?_
      refine x_V1i dX7_begin_21 m_X7_25 (c_X5_loomOn b t s hsl hs hn p (by omega) (fun l hl => by have := (hk.1 l hl).1; omega)) hsl.1 (fun x21 I21 h21 => ?_)
      obtain ⟨rfl, ⟨l, hl, he, rfl⟩ | ⟨rfl, hno⟩⟩ := h21
      · have hcl2 : cP (tN t) (sP s) p < tN t := by rw [← he, cP_rank]; exact rankO_lt hl
        refine x_bipush (v := -4) dX7_begin_24 (by decide) ?_
        refine x_icmp_eq dX7_begin_26 (fun c26 => ?_) (fun c26 => ?_)
        · exact absurd c26 (nI_ne4 (by omega))
        · refine x_aload_0 dX7_begin_29 ?_
          refine x_getV dX7_begin_30 f_X7_18 (by assumption) hp.1 ?_
          refine x_aload_0 dX7_begin_33 ?_
          refine x_getr dX7_begin_34 f_X7_9 (by assumption) q1 ?_
          refine x_alen dX7_begin_37 (by assumption) (by decide) ?_
          refine x_icmp_geN dX7_begin_38 (by omega) (by omega) (fun c38 => ?_) (fun c38 => ?_)
          · exfalso; omega
          · refine x_aload_0 dX7_begin_41 ?_
            refine x_getr dX7_begin_42 f_X7_9 (by assumption) q1 ?_
            refine x_aload_0 dX7_begin_45 ?_
            refine x_getV dX7_begin_46 f_X7_18 (by assumption) hp.1 ?_
            refine x_iload_2 dX7_begin_49 ?_
            refine x_iastA dX7_begin_50 (by assumption) rfl (by omega) (fun J50 fr50 e50 => ?_)
            refine x_aload_0 dX7_begin_51 ?_
            first | refine x_dup_ref dX7_begin_52 ?_ | refine x_dup_int dX7_begin_52 ?_
            refine x_getV dX7_begin_53 f_X7_18 (by assumption) ((fr50 _ _ (by omega)).trans hp.1) ?_
            refine x_const (c := 1) dX7_begin_56 rfl ?_
            refine x_iaddN dX7_begin_57 ?_
            refine x_putA dX7_begin_58 f_X7_18 (by assumption) (fun J58 fr58 e58 => ?_)
            refine x_iinc_2 dX7_begin_61 (iinc1 _) rfl rfl ?_
            refine x_goto dX7_begin_64 ?_
            exact ih (p + 1) _ (by omega) (by omega) (fun x j hx => (fr58 x j (by omega)).trans ((fr50 x j (by omega)).trans (hfr x j hx))) (by
              rw [cP_yes hk.2 hl he]
              refine ⟨e58, fun k hk2 => ?_⟩
              rw [fr58 _ _ (by omega)]
              by_cases e : k = cP (tN t) (sP s) p
              · rw [e, e50]
                congr 1
                unfold srtF
                rw [← he, cP_rank, ordO_rank hk.2 hl]
              · rw [fr50 _ _ (by omega)]; exact hp.2 k (by omega))
      · refine x_bipush (v := -4) dX7_begin_24 (by decide) ?_
        refine x_icmp_eq dX7_begin_26 (fun c26 => ?_) (fun c26 => ?_)
        · refine x_iinc_2 dX7_begin_61 (iinc1 _) rfl rfl ?_
          refine x_goto dX7_begin_64 ?_
          exact ih (p + 1) _ (by omega) (by omega) hfr (by rw [cP_no hno]; exact hp)
        · exact absurd rfl c26
set_option maxHeartbeats 4000000 in
theorem c_X7_begin {r : Ev} {n : Nat} {I : MI} {Q : MQ2} (a : Nat) (hb : WyB n Q a) (b : Nat) (t : Tp) (s : St) (hsl : SlB n Q b) (hk : okS t s) (hn : tN t ≤ 6) (hs : slp I b t s) (hdis : b + 9 ≤ a ∨ a + 3 ≤ b) : CT r 2 yX7_begin cX7_begin (3, none) (0, 0) [.ref (evz r + a), .ref (evz r + b)] n I Q (rv Q (fun J => FrS I J (fun x j => x = a + 1 ∨ (x = a ∧ (j = 2 ∨ j = 3))) ∧ plw J a (tN t) (srtF (tN t) (sP s)) ∧ J a 3 = -4)) := by
  refine ct_of (lv := [some (.ref (evz r + a)), some (.ref (evz r + b)), none]) (by decide +kernel) rfl rfl rfl ?_
  obtain ⟨k1, k2, k3, q1, q2⟩ := id hb
  refine x_aload_0 dX7_begin_0 ?_
  refine x_const (c := 0) dX7_begin_1 rfl ?_
  refine x_putA dX7_begin_2 f_X7_18 (by assumption) (fun J2 fr2 e2 => ?_)
  refine x_aload_0 dX7_begin_5 ?_
  refine x_bipush (v := -4) dX7_begin_6 (by decide) ?_
  refine x_putA dX7_begin_8 f_X7_22 (by assumption) (fun J8 fr8 e8 => ?_)
  have e2_p8 := (fr8 (a) (2) (by omega)).trans e2
  refine x_const (c := 0) dX7_begin_11 rfl ?_
  refine x_istore_2 dX7_begin_12 rfl rfl ?_
  exact l_X7_begin a hb b t s hsl hk hn (slp_fr hs hn (fun x j _ _ _ => (fr8 x j (by omega)).trans (fr2 x j (by omega)))) hdis (fun J q1 q2 => ⟨rfl, rfl, fun x j hx => (q1 x j (by omega)).trans ((fr8 x j (by omega)).trans (fr2 x j (by omega))), q2, (q1 _ _ (by omega)).trans e8⟩) 11 0 _ (by omega) (by omega) (fun _ _ _ => rfl) ⟨by rw [cP_0]; exact (fr8 _ _ (by omega)).trans e2, fun k hk => absurd hk (by rw [cP_0]; exact Nat.not_lt_zero k)⟩
def plS (s : St) (f : Nat → Nat) : St := mkS f (sD s) (sX s) (sH s) (sO s) (sR s)
def plI (s : St) (f : Nat → Nat) (i : Nat) : St := mkS (fun l => if l < i then f l else sP s l) (sD s) (sX s) (sH s) (sO s) (sR s)
theorem slp_plI {I J : MI} {b : Nat} {t : Tp} {s : St} {f : Nat → Nat} {i : Nat} (h : slp I b t (plI s f i)) (fr : Fr1 I J (b + 3 + i) 1) (e : J (b + 3 + i) 1 = nI (f i)) : slp J b t (plI s f (i + 1)) := by
  obtain ⟨h1, h2, h3, h4⟩ := h
  refine ⟨(fr _ _ (by omega)).trans h1, (fr _ _ (by omega)).trans h2, (fr _ _ (by omega)).trans h3, fun l hl => ?_⟩
  obtain ⟨a0, a1, a2, a3, a4, a6⟩ := h4 l hl
  refine ⟨(fr _ _ (by omega)).trans a0, ?_, (fr _ _ (by omega)).trans a2, (fr _ _ (by omega)).trans a3, (fr _ _ (by omega)).trans a4, (fr _ _ (by omega)).trans a6⟩
  show J (b + 3 + l) 1 = nI (if l < i + 1 then f l else sP s l)
  by_cases z : l = i
  · subst z; rw [if_pos (Nat.lt_succ_self l)]; exact e
  · have a1 : I (b + 3 + l) 1 = nI (if l < i then f l else sP s l) := a1
    rw [fr _ _ (by omega), a1]
    congr 1
    by_cases y : l < i
    · rw [if_pos y, if_pos (by omega)]
    · rw [if_neg y, if_neg (by omega)]
set_option maxHeartbeats 4000000 in
theorem l_X7_applyTo {r : Ev} {n : Nat} {Q : MQ2} {F : Post} {I0 : MI} (a : Nat) (hb : WyB n Q a) (b : Nat) (t : Tp) (s : St) (hsl : SlB n Q b) (hn : tN t ≤ 6) (f : Nat → Nat) (hp0 : plw I0 a (tN t) f) (hdis : b + 9 ≤ a ∨ a + 3 ≤ b) (hf : ∀ k, k < tN t → f k < 1000) (hd : dst (tN t) f) (hF : ∀ J, FrS I0 J (FtS b) → SS J b t (plS s f) → F none J Q) : ∀ (k : Nat) (i : Nat) (I : MI), i ≤ tN t → i + k = tN t + 1 → FrS I0 I (FtL b) → slp I b t (plI s f i) → X r 2 yX7_applyTo cX7_applyTo (3, none) (0, 0) 2 [some (.ref (evz r + a)), some (.ref (evz r + b)), some (.int (nI i))] [] n I Q F := by
  intro k
  induction k with
  | zero => intros; omega
  | succ k ih =>
    intro i I hi0 hi hfr hs
    have hp : plw I a (tN t) f := plw_fr hp0 (hfr _ _ (by unfold FtL; omega)) (fun j => hfr _ _ (by unfold FtL; omega))
    obtain ⟨k1, k2, k3, q1, q2⟩ := id hb
    refine x_iload_2 dX7_applyTo_2 ?_
    refine x_aload_0 dX7_applyTo_3 ?_
    refine x_getV dX7_applyTo_4 f_X7_18 (by assumption) hp.1 ?_
    refine x_icmp_geN dX7_applyTo_7 (by omega) (by omega) (fun c7 => ?_) (fun c7 => ?_)
    · have e9 : i = tN t := by omega
      subst e9
      have hs9 : slp I b t (plS s f) := slp_cong hs ⟨fun j hj => ⟨if_pos hj, rfl, rfl, rfl⟩, rfl, rfl⟩
      refine x_aload_1 dX7_applyTo_39 ?_
      refine x_V0v dX7_applyTo_40 m_X7_40 (c_X5_rank b t (plS s f) hsl hs9 hn hf hd) hsl.1 (fun I40 h40 => ?_)
      obtain ⟨kf, kr⟩ := h40
      exact x_vret (st := []) dX7_applyTo_43 rfl (hF _ (fun x j hx => (kf x j (by unfold FtS at hx; omega)).trans (hfr x j (by unfold FtS at hx; unfold FtL; omega))) ⟨slp_fr hs9 hn (fun x j _ _ hx => kf x j hx), kr⟩)
    · refine x_iload_2 dX7_applyTo_10 ?_
      refine x_aload_0 dX7_applyTo_11 ?_
      refine x_getr dX7_applyTo_12 f_X7_9 (by assumption) q1 ?_
      refine x_alen dX7_applyTo_15 (by assumption) (by decide) ?_
      refine x_icmp_geN dX7_applyTo_16 (by omega) (by omega) (fun c16 => ?_) (fun c16 => ?_)
      · exfalso; omega
      · refine x_aload_1 dX7_applyTo_19 ?_
        refine x_iload_2 dX7_applyTo_20 ?_
        refine x_V1o dX7_applyTo_21 m_X7_31 (c_X5_pick b i hsl (by omega)) hsl.1 ?_
        refine x_aload_0 dX7_applyTo_24 ?_
        refine x_getr dX7_applyTo_25 f_X7_9 (by assumption) q1 ?_
        refine x_iload_2 dX7_applyTo_28 ?_
        refine x_ialdV dX7_applyTo_29 (by assumption) rfl (by omega) (hp.2 i (by omega)) ?_
        refine x_putA dX7_applyTo_30 f_X7_35 (hsl.2.2.2.1 i (by omega)) (fun J30 fr30 e30 => ?_)
        refine x_iinc_2 dX7_applyTo_33 (iinc1 _) rfl rfl ?_
        refine x_goto dX7_applyTo_36 ?_
        exact ih (i + 1) _ (by omega) (by omega) (fun x j hx => (fr30 x j (by unfold FtL at hx; omega)).trans (hfr x j hx)) (slp_plI hs fr30 e30)
set_option maxHeartbeats 4000000 in
theorem c_X7_applyTo {r : Ev} {n : Nat} {I : MI} {Q : MQ2} (a : Nat) (hb : WyB n Q a) (b : Nat) (t : Tp) (s : St) (hsl : SlB n Q b) (hn : tN t ≤ 6) (hs : slp I b t s) (f : Nat → Nat) (hp : plw I a (tN t) f) (hdis : b + 9 ≤ a ∨ a + 3 ≤ b) (hf : ∀ k, k < tN t → f k < 1000) (hd : dst (tN t) f) : CT r 2 yX7_applyTo cX7_applyTo (3, none) (0, 0) [.ref (evz r + a), .ref (evz r + b)] n I Q (rv Q (fun J => FrS I J (FtS b) ∧ SS J b t (plS s f))) := by
  refine ct_of (lv := [some (.ref (evz r + a)), some (.ref (evz r + b)), none]) (by decide +kernel) rfl rfl rfl ?_
  refine x_const (c := 0) dX7_applyTo_0 rfl ?_
  refine x_istore_2 dX7_applyTo_1 rfl rfl ?_
  exact l_X7_applyTo a hb b t s hsl hn f hp hdis hf hd (fun J q1 q2 => ⟨rfl, rfl, q1, q2⟩) (tN t + 1) 0 _ (by omega) (by omega) (fun _ _ _ => rfl) (slp_cong hs ⟨fun j hj => ⟨(if_neg (t := f j) (Nat.not_lt_zero j)).symm, rfl, rfl, rfl⟩, rfl, rfl⟩)
