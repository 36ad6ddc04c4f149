/-! ===== the constructors ===== -/
def FrB (a : Nat) (I : MI) (Q : MQ2) (J : MI) (Q' : MQ2) : Prop := ∀ x, x < a → J x = I x ∧ Q' x = Q x
theorem FrB.rf (a : Nat) (I : MI) (Q : MQ2) : FrB a I Q I Q := fun x _ => ⟨rfl, rfl⟩
theorem FrB.row {a c : Nat} {I J : MI} {Q Q' : MQ2} {f : Nat → Int32} {g : Nat → Option Nat} (h : FrB a I Q J Q') (hc : a ≤ c) : FrB a I Q (setRow J c f) (setRow Q' c g) := fun x hx => ⟨(setRow_ne (by omega)).trans (h x hx).1, (setRow_ne (by omega)).trans (h x hx).2⟩
theorem FrB.up {a c j : Nat} {v : Option Nat} {I J : MI} {Q Q' : MQ2} (h : FrB a I Q J Q') (hc : a ≤ c) : FrB a I Q J (up2 Q' c j v) := fun x hx => ⟨(h x hx).1, (up2_row (by omega)).trans (h x hx).2⟩
theorem FrB.tr {a c : Nat} {I J K : MI} {Q Q' Q2 : MQ2} (h : FrB a I Q J Q') (h2 : FrB c J Q' K Q2) (hc : a ≤ c) : FrB a I Q K Q2 := fun x hx => ⟨((h2 x (by omega)).1).trans (h x hx).1, ((h2 x (by omega)).2).trans (h x hx).2⟩
theorem x_n {r : Ev} {d : Nat} {y : MethodName} {cc : ByteArray} {mr : Nat × Option FieldType} {b : Nat × Nat} {pc : Nat} {lv : List (Option Value)} {st : List Value} {n : Nat} {I : MI} {Q : MQ2} {F : Post} {n' : Nat} (h : n = n') (k : X r d y cc mr b pc lv st n' I Q F) : X r d y cc mr b pc lv st n I Q F := by
  subst h
  exact k
def kSl (a : Nat) : Prop := kd a = 5 ∧ (kd (a + 1) = 12 ∧ nn (a + 1) = 6) ∧ (kd (a + 2) = 11 ∧ nn (a + 2) = 6) ∧ ∀ k, k < 6 → kd (a + 3 + k) = 0
def kPl (a L : Nat) : Prop := kd a = 2 ∧ (kd (a + 1) = 13 ∧ nn (a + 1) = L) ∧ ∀ k, k < L → kSl (a + 2 + 9 * k)
def kNt (a : Nat) : Prop := kd a = 1 ∧ kSl (a + 1) ∧ (kd (a + 10) = 11 ∧ nn (a + 10) = 12) ∧ (kd (a + 11) = 11 ∧ nn (a + 11) = 12)
theorem SlB.up {n n' b : Nat} {Q Q' : MQ2} (h : SlB n Q b) (hn : n ≤ n') (hq : ∀ x, b ≤ x → x < b + 9 → Q' x = Q x) : SlB n' Q' b := by
  obtain ⟨h1, h2, h3, h4, h5, h6, h7⟩ := h
  have e0 := hq b (by omega) (by omega)
  have e1 := hq (b + 1) (by omega) (by omega)
  exact ⟨⟨h1.1, Nat.lt_of_lt_of_le h1.2 hn⟩, ⟨h2.1, h2.2.1, Nat.lt_of_lt_of_le h2.2.2 hn⟩, ⟨h3.1, h3.2.1, Nat.lt_of_lt_of_le h3.2.2 hn⟩, fun k hk => ⟨(h4 k hk).1, Nat.lt_of_lt_of_le (h4 k hk).2 hn⟩, by rw [e0]; exact h5, by rw [e0]; exact h6, fun k hk => by rw [e1]; exact h7 k hk⟩
theorem NtB.up {n n' b : Nat} {Q Q' : MQ2} (h : NtB n Q b) (hn : n ≤ n') (hq : ∀ x, b ≤ x → x < b + 12 → Q' x = Q x) : NtB n' Q' b := by
  obtain ⟨h1, h2, h3, h4, h5, h6, h7⟩ := h
  have e0 := hq b (by omega) (by omega)
  exact ⟨⟨h1.1, Nat.lt_of_lt_of_le h1.2 hn⟩, h2.up hn (fun x g1 g2 => hq x (by omega) (by omega)), ⟨h3.1, h3.2.1, Nat.lt_of_lt_of_le h3.2.2 hn⟩, ⟨h4.1, h4.2.1, Nat.lt_of_lt_of_le h4.2.2 hn⟩, by rw [e0]; exact h5, by rw [e0]; exact h6, by rw [e0]; exact h7⟩
theorem TxB.up {n n' b : Nat} {Q Q' : MQ2} (h : TxB n Q b) (hn : n ≤ n') (hq : ∀ x, b ≤ x → x < b + 2 → Q' x = Q x) : TxB n' Q' b := by
  obtain ⟨h1, h2, h3⟩ := h
  exact ⟨⟨h1.1, Nat.lt_of_lt_of_le h1.2 hn⟩, ⟨h2.1, h2.2.1, Nat.lt_of_lt_of_le h2.2.2 hn⟩, by rw [hq b (by omega) (by omega)]; exact h3⟩
theorem RdB.up {n n' b : Nat} {Q Q' : MQ2} (h : RdB n Q b) (hn : n ≤ n') (hq : ∀ x, b ≤ x → x < b + 2 → Q' x = Q x) : RdB n' Q' b := by
  obtain ⟨h1, h2, h3⟩ := h
  exact ⟨⟨h1.1, Nat.lt_of_lt_of_le h1.2 hn⟩, ⟨h2.1, h2.2.1, Nat.lt_of_lt_of_le h2.2.2 hn⟩, by rw [hq b (by omega) (by omega)]; exact h3⟩
theorem SgB.up {n n' b : Nat} {Q Q' : MQ2} (h : SgB n Q b) (hn : n ≤ n') (hq : ∀ x, b ≤ x → x < b + 4 → Q' x = Q x) : SgB n' Q' b := by
  obtain ⟨h1, h2, h3, h4, h5, h6, h7⟩ := h
  have e0 := hq b (by omega) (by omega)
  exact ⟨⟨h1.1, Nat.lt_of_lt_of_le h1.2 hn⟩, ⟨h2.1, h2.2.1, Nat.lt_of_lt_of_le h2.2.2 hn⟩, ⟨h3.1, h3.2.1, Nat.lt_of_lt_of_le h3.2.2 hn⟩, ⟨h4.1, h4.2.1, Nat.lt_of_lt_of_le h4.2.2 hn⟩, by rw [e0]; exact h5, by rw [e0]; exact h6, by rw [e0]; exact h7⟩
theorem WyB.up {n n' b : Nat} {Q Q' : MQ2} (h : WyB n Q b) (hn : n ≤ n') (hq : ∀ x, b ≤ x → x < b + 3 → Q' x = Q x) : WyB n' Q' b := by
  obtain ⟨h1, h2, h3, h4, h5⟩ := h
  have e0 := hq b (by omega) (by omega)
  exact ⟨⟨h1.1, Nat.lt_of_lt_of_le h1.2 hn⟩, ⟨h2.1, h2.2.1, Nat.lt_of_lt_of_le h2.2.2 hn⟩, ⟨h3.1, h3.2.1, Nat.lt_of_lt_of_le h3.2.2 hn⟩, by rw [e0]; exact h4, by rw [e0]; exact h5⟩
theorem PlB.up {n n' b L : Nat} {Q Q' : MQ2} {pr : Nat → Nat} (h : PlB n Q b L pr) (hn : n ≤ n') (hq : ∀ x, b ≤ x → x < b + 2 + 9 * L → Q' x = Q x) : PlB n' Q' b L pr := by
  obtain ⟨h1, h2, h3, h4, h5, h6⟩ := h
  have e0 := hq b (by omega) (by omega)
  have e1 := hq (b + 1) (by omega) (by omega)
  exact ⟨⟨h1.1, Nat.lt_of_lt_of_le h1.2 hn⟩, ⟨h2.1, h2.2.1, Nat.lt_of_lt_of_le h2.2.2 hn⟩, by rw [e0]; exact h3, fun i hi => ⟨(h4 i hi).1, by rw [e1]; exact (h4 i hi).2⟩, h5, fun k hk => (h6 k hk).up hn (fun x g1 g2 => hq x (by omega) (by omega))⟩
set_option maxHeartbeats 4000000 in
theorem l_X5_init {r : Ev} {F : Post} (a : Nat) (hk : kSl a) {I0 : MI} {Q0 : MQ2} (hF : ∀ J Q', SlB (a + 9) Q' a → FrB a I0 Q0 J Q' → F none J Q') : ∀ (k i : Nat) (I : MI) (Q : MQ2), i + k = 6 → FrB a I0 Q0 I Q → Q a 0 = some (a + 1) → Q a 1 = some (a + 2) → (∀ j, j < i → Q (a + 1) j = some (a + 3 + j)) → X r 2 yX5_init cX5_init (2, none) (k, 7 * k) 23 [some (.ref (evz r + a)), some (.int (nI i))] [] (a + 3 + i) I Q F := by
  intro k
  induction k with
  | zero =>
    intro i I Q hi fr q0 q1 qs
    obtain rfl : i = 6 := by omega
    refine x_iload_1 dX5_init_23 ?_
    refine x_aload_0 dX5_init_24 ?_
    refine x_getr dX5_init_25 f_X5_11 ⟨hk.1, by omega⟩ q0 ?_
    refine x_alen dX5_init_28 (N := 6) (k := 12) ⟨hk.2.1.1, hk.2.1.2, by omega⟩ (by decide) ?_
    refine x_icmp_geN dX5_init_29 (by omega) (by omega) (fun c29 => ?_) (fun c29 => ?_)
    · exact x_vret (st := []) dX5_init_51 rfl (hF _ _ ⟨⟨hk.1, by omega⟩, ⟨hk.2.1.1, hk.2.1.2, by omega⟩, ⟨hk.2.2.1.1, hk.2.2.1.2, by omega⟩, fun k h => ⟨hk.2.2.2 k h, by omega⟩, q0, q1, qs⟩ fr)
    · exfalso; omega
  | succ k ih =>
    intro i I Q hi fr q0 q1 qs
    refine x_iload_1 dX5_init_23 ?_
    refine x_aload_0 dX5_init_24 ?_
    refine x_getr dX5_init_25 f_X5_11 ⟨hk.1, by omega⟩ q0 ?_
    refine x_alen dX5_init_28 (N := 6) (k := 12) ⟨hk.2.1.1, hk.2.1.2, by omega⟩ (by decide) ?_
    refine x_icmp_geN dX5_init_29 (by omega) (by omega) (fun c29 => ?_) (fun c29 => ?_)
    · exfalso; omega
    · refine x_aload_0 dX5_init_32 ?_
      refine x_getr dX5_init_33 f_X5_11 ⟨hk.1, by omega⟩ q0 ?_
      refine x_iload_1 dX5_init_36 ?_
      refine x_new (k, 7 * k) dX5_init_37 n_X5_9 (hk.2.2.2 i (by omega)) ⟨rfl, Nat.ble_eq_true_of_le (show 7 * k + 7 ≤ 7 * (k + 1) by omega)⟩ ?_
      refine x_dup_ref dX5_init_40 ?_
      refine x_I0 (k, 7 * k) dX5_init_41 m_X5_21 (c_X0_init (a + 3 + i)) ⟨Nat.zero_add _, Nat.ble_eq_true_of_le (show 0 + 7 * k ≤ 7 * k by omega)⟩ (fun I41 Q41 h41 => ?_)
      obtain ⟨rfl, rfl⟩ := h41
      refine x_n (n' := a + 3 + (i + 1)) rfl ?_
      refine x_aastL dX5_init_44 (N := 6) ⟨hk.2.1.1, hk.2.1.2, by omega⟩ rfl (by omega) ⟨hk.2.2.2 i (by omega), by omega⟩ ?_
      refine x_iinc_1 dX5_init_45 (iinc1 _) rfl rfl ?_
      refine x_goto dX5_init_48 ?_
      refine ih (i + 1) _ _ (by omega) ((fr.row (by omega)).up (by omega)) ((up2_ne (by omega)).trans ((congrFun (setRow_ne (by omega)) 0).trans q0)) ((up2_ne (by omega)).trans ((congrFun (setRow_ne (by omega)) 1).trans q1)) (fun j hj => ?_)
      by_cases e : j = i
      · subst e; exact up2_same _ _ _ _
      · exact (up2_ne (by omega)).trans ((congrFun (setRow_ne (by omega)) j).trans (qs j (by omega)))
set_option maxHeartbeats 4000000 in
theorem c_X5_init {r : Ev} {I : MI} {Q : MQ2} (a : Nat) (hk : kSl a) : CT r 2 yX5_init cX5_init (2, none) (8, 54) [.ref (evz r + a)] (a + 1) I Q (RV (fun J Q' => SlB (a + 9) Q' a ∧ FrB a I Q J Q')) := by
  refine ct_of (lv := [some (.ref (evz r + a)), none]) (by decide +kernel) rfl rfl rfl ?_
  refine x_aload_0 dX5_init_0 ?_
  refine x_objinit dX5_init_1 m_X5_3 ?_
  refine x_aload_0 dX5_init_4 ?_
  refine x_bip (c := 6) dX5_init_5 (by decide) ?_
  refine x_newL (7, 48) dX5_init_7 a_X5_9 hk.2.1 rfl ⟨rfl, rfl⟩ ?_
  refine x_putrF dX5_init_10 f_X5_11 f_X5_11_l rfl rfl rfl rfl rfl ⟨hk.1, by omega⟩ ?_
  refine x_aload_0 dX5_init_13 ?_
  refine x_bip (c := 6) dX5_init_14 (by decide) ?_
  refine x_newI (6, 42) dX5_init_16 a_int hk.2.2.1 rfl ⟨rfl, rfl⟩ ?_
  refine x_putrF dX5_init_18 f_X5_17 f_X5_17_l rfl rfl rfl rfl rfl ⟨hk.1, by omega⟩ ?_
  refine x_const (c := 0) dX5_init_21 rfl ?_
  refine x_istore_1 dX5_init_22 rfl rfl ?_
  refine x_n (n' := a + 3 + 0) rfl ?_
  refine l_X5_init a hk (fun J Q' h1 h2 => ⟨rfl, h1, h2⟩) 6 0 _ _ rfl (((((FrB.rf a I Q).row (by omega)).up (by omega)).row (by omega)).up (by omega)) ?_ (up2_same _ _ _ _) (fun j hj => absurd hj (Nat.not_lt_zero j))
  exact (up2_ne (by omega)).trans ((congrFun (setRow_ne (by omega)) 0).trans (up2_same _ _ _ _))
theorem max1 {L : Nat} (h1 : 1 ≤ L) (h2 : L ≤ 8) : (if nI 1 < nI L then nI L else nI 1) = nI L := by
  rw [nmax (by omega) (by omega), Nat.max_eq_right h1]
set_option maxHeartbeats 4000000 in
theorem l_X2_init {r : Ev} {F : Post} (a L : Nat) (hL : L ≤ 8) (hk : kPl a L) {I0 : MI} {Q0 : MQ2} {w1 : Int32} (hF : ∀ J Q', PlB (a + 2 + 9 * L) Q' a L (fun i => i) → FrB a I0 Q0 J Q' → F none J Q') : ∀ (k i : Nat) (I : MI) (Q : MQ2), i + k = L → FrB a I0 Q0 I Q → Q a 0 = some (a + 1) → (∀ j, j < i → Q (a + 1) j = some (a + 2 + 9 * j)) → (∀ j, j < i → SlB (a + 2 + 9 * i) Q (a + 2 + 9 * j)) → X r 3 yX2_init cX2_init (3, none) (9 * k, 59 * k) 18 [some (.ref (evz r + a)), some (.int w1), some (.int (nI i))] [] (a + 2 + 9 * i) I Q F := by
  intro k
  induction k with
  | zero =>
    intro i I Q hi fr q0 qs sl
    have e9 : L = i := by omega
    subst e9
    refine x_iload_2 dX2_init_18 ?_
    refine x_aload_0 dX2_init_19 ?_
    refine x_getr dX2_init_20 f_X2_15 ⟨hk.1, by omega⟩ q0 ?_
    refine x_alen dX2_init_23 (N := _) (k := 13) ⟨hk.2.1.1, hk.2.1.2, by omega⟩ (by decide) ?_
    refine x_icmp_geN dX2_init_24 (by omega) (by omega) (fun c29 => ?_) (fun c29 => ?_)
    · exact x_vret (st := []) dX2_init_46 rfl (hF _ _ ⟨⟨hk.1, by omega⟩, ⟨hk.2.1.1, hk.2.1.2, by omega⟩, q0, fun j hj => ⟨hj, qs j hj⟩, fun _ _ _ _ e => e, sl⟩ fr)
    · exfalso; omega
  | succ k ih =>
    intro i I Q hi fr q0 qs sl
    refine x_iload_2 dX2_init_18 ?_
    refine x_aload_0 dX2_init_19 ?_
    refine x_getr dX2_init_20 f_X2_15 ⟨hk.1, by omega⟩ q0 ?_
    refine x_alen dX2_init_23 (N := L) (k := 13) ⟨hk.2.1.1, hk.2.1.2, by omega⟩ (by decide) ?_
    refine x_icmp_geN dX2_init_24 (by omega) (by omega) (fun c29 => ?_) (fun c29 => ?_)
    · exfalso; omega
    · refine x_aload_0 dX2_init_27 ?_
      refine x_getr dX2_init_28 f_X2_15 ⟨hk.1, by omega⟩ q0 ?_
      refine x_iload_2 dX2_init_31 ?_
      refine x_new (9 * k + 8, 59 * k + 54) dX2_init_32 n_X2_13 (hk.2.2 i (by omega)).1 ⟨by show 9 * k + 8 + 1 = 9 * (k + 1); omega, Nat.ble_eq_true_of_le (show 59 * k + 54 + 5 ≤ 59 * (k + 1) by omega)⟩ ?_
      refine x_dup_ref dX2_init_35 ?_
      refine x_I0 (9 * k, 59 * k) dX2_init_36 m_X2_21 (c_X5_init (a + 2 + 9 * i) (hk.2.2 i (by omega))) ⟨by show 8 + 9 * k = 9 * k + 8; omega, Nat.ble_eq_true_of_le (show 54 + 59 * k ≤ 59 * k + 54 by omega)⟩ (fun I36 Q36 h36 => ?_)
      obtain ⟨s36, g36⟩ := h36
      refine x_n (n' := a + 2 + 9 * (i + 1)) (by show a + 2 + 9 * i + 1 + 8 = _; omega) ?_
      refine x_aastS dX2_init_39 (N := L) ⟨hk.2.1.1, hk.2.1.2, by omega⟩ rfl (by omega) ⟨(hk.2.2 i (by omega)).1, by omega⟩ ?_
      refine x_iinc_2 dX2_init_40 (iinc1 _) rfl rfl ?_
      refine x_goto dX2_init_43 ?_
      have gq : ∀ x, x < a + 2 + 9 * i → Q36 x = Q x := fun x hx => (g36 x hx).2.trans (setRow_ne (by omega))
      refine ih (i + 1) _ _ (by omega) ((((fr.row (by omega)).tr g36 (by omega))).up (by omega)) ((up2_ne (by omega)).trans ((congrFun (gq a (by omega)) 0).trans q0)) (fun j hj => ?_) (fun j hj => ?_)
      · by_cases e : j = i
        · subst e; exact up2_same _ _ _ _
        · exact (up2_ne (by omega)).trans ((congrFun (gq (a + 1) (by omega)) j).trans (qs j (by omega)))
      · by_cases e : j = i
        · subst e; exact s36.up (by omega) (fun x x1 x2 => up2_row (by omega))
        · exact (sl j (by omega)).up (by omega) (fun x x1 x2 => (up2_row (by omega)).trans (gq x (by omega)))
set_option maxHeartbeats 4000000 in
theorem c_X2_init {r : Ev} {I : MI} {Q : MQ2} (a L : Nat) (h1 : 1 ≤ L) (hL : L ≤ 8) (hk : kPl a L) : CT r 3 yX2_init cX2_init (3, none) (1 + 9 * L, L + 59 * L) [.ref (evz r + a), .int (nI L)] (a + 1) I Q (RV (fun J Q' => PlB (a + 2 + 9 * L) Q' a L (fun i => i) ∧ FrB a I Q J Q')) := by
  refine ct_of (lv := [some (.ref (evz r + a)), some (.int (nI L)), none]) (by decide +kernel) rfl rfl rfl ?_
  refine x_aload_0 dX2_init_0 ?_
  refine x_objinit dX2_init_1 m_X2_1 ?_
  refine x_aload_0 dX2_init_4 ?_
  refine x_const (c := 1) dX2_init_5 rfl ?_
  refine x_iload_1 dX2_init_6 ?_
  refine x_max dX2_init_7 m_X2_7 ?_
  refine x_newS (9 * L, 59 * L) dX2_init_10 a_X2_13 hk.2.1 (max1 h1 hL) ⟨by show 9 * L + 1 = 1 + 9 * L; omega, Nat.ble_eq_true_of_le (show 59 * L + L ≤ L + 59 * L by omega)⟩ ?_
  refine x_putrF dX2_init_13 f_X2_15 f_X2_15_l rfl rfl rfl rfl rfl ⟨hk.1, by omega⟩ ?_
  refine x_const (c := 0) dX2_init_16 rfl ?_
  refine x_istore_2 dX2_init_17 rfl rfl ?_
  refine x_n (n' := a + 2 + 9 * 0) rfl ?_
  exact l_X2_init a L hL hk (fun J Q' h1 h2 => ⟨rfl, h1, h2⟩) L 0 _ _ (by omega) (((FrB.rf a I Q).row (by omega)).up (by omega)) (up2_same _ _ _ _) (fun j hj => absurd hj (Nat.not_lt_zero j)) (fun j hj => absurd hj (Nat.not_lt_zero j))
set_option maxHeartbeats 4000000 in
theorem c_X1_init {r : Ev} {I : MI} {Q : MQ2} (a : Nat) (hk : kNt a) : CT r 3 yX1_init cX1_init (1, none) (11, 83) [.ref (evz r + a)] (a + 1) I Q (RV (fun J Q' => NtB (a + 12) Q' a ∧ FrB a I Q J Q')) := by
  refine ct_of (lv := [some (.ref (evz r + a))]) (by decide +kernel) rfl rfl rfl ?_
  refine x_aload_0 dX1_init_0 ?_
  refine x_objinit dX1_init_1 m_X1_3 ?_
  refine x_aload_0 dX1_init_4 ?_
  refine x_new (10, 78) dX1_init_5 n_X1_9 hk.2.1.1 ⟨rfl, rfl⟩ ?_
  refine x_dup_ref dX1_init_8 ?_
  refine x_I0 (2, 24) dX1_init_9 m_X1_11 (c_X5_init (a + 1) hk.2.1) ⟨rfl, rfl⟩ (fun I9 Q9 h9 => ?_)
  obtain ⟨s9, g9⟩ := h9
  refine x_n (n' := a + 10) rfl ?_
  refine x_putrF dX1_init_12 f_X1_12 f_X1_12_l rfl rfl rfl rfl rfl ⟨hk.1, by omega⟩ ?_
  refine x_aload_0 dX1_init_15 ?_
  refine x_bip (c := 12) dX1_init_16 (by decide) ?_
  refine x_newI (1, 12) dX1_init_18 a_int hk.2.2.1 rfl ⟨rfl, rfl⟩ ?_
  refine x_n (n' := a + 11) rfl ?_
  refine x_putrF dX1_init_20 f_X1_18 f_X1_18_l rfl rfl rfl rfl rfl ⟨hk.1, by omega⟩ ?_
  refine x_aload_0 dX1_init_23 ?_
  refine x_bip (c := 12) dX1_init_24 (by decide) ?_
  refine x_newI (0, 0) dX1_init_26 a_int hk.2.2.2 rfl ⟨rfl, rfl⟩ ?_
  refine x_n (n' := a + 12) rfl ?_
  refine x_putrF dX1_init_28 f_X1_22 f_X1_22_l rfl rfl rfl rfl rfl ⟨hk.1, by omega⟩ ?_
  refine x_vret (st := []) dX1_init_31 rfl ⟨rfl, ⟨⟨hk.1, by omega⟩, s9.up (by omega) (fun x x1 x2 => ?_), ⟨hk.2.2.1.1, hk.2.2.1.2, by omega⟩, ⟨hk.2.2.2.1, hk.2.2.2.2, by omega⟩, ?_, ?_, up2_same _ _ _ _⟩, ?_⟩
  · exact (up2_row (by omega)).trans ((setRow_ne (by omega)).trans ((up2_row (by omega)).trans ((setRow_ne (by omega)).trans (up2_row (by omega)))))
  · exact (up2_ne (by omega)).trans ((congrFun (setRow_ne (by omega)) 0).trans ((up2_ne (by omega)).trans ((congrFun (setRow_ne (by omega)) 0).trans (up2_same _ _ _ _))))
  · exact (up2_ne (by omega)).trans ((congrFun (setRow_ne (by omega)) 1).trans (up2_same _ _ _ _))
  · exact (((((((FrB.rf a I Q).row (c := a + 1) (by omega)).tr g9 (by omega)).up (by omega)).row (by omega)).up (by omega)).row (by omega)).up (by omega)
set_option maxHeartbeats 4000000 in
theorem c_X3_init {r : Ev} {I : MI} {Q : MQ2} (a : Nat) (hk : kd a = 3 ∧ (kd (a + 1) = 11 ∧ nn (a + 1) = 3)) : CT r 1 yX3_init cX3_init (1, none) (1, 3) [.ref (evz r + a)] (a + 1) I Q (RV (fun J Q' => RdB (a + 2) Q' a ∧ FrB a I Q J Q' ∧ J a = I a)) := by
  refine ct_of (lv := [some (.ref (evz r + a))]) (by decide +kernel) rfl rfl rfl ?_
  refine x_aload_0 dX3_init_0 ?_
  refine x_objinit dX3_init_1 m_X3_3 ?_
  refine x_aload_0 dX3_init_4 ?_
  refine x_const (c := 3) dX3_init_5 rfl ?_
  refine x_newI (0, 0) dX3_init_6 a_int hk.2 rfl ⟨rfl, rfl⟩ ?_
  refine x_n (n' := a + 2) rfl ?_
  refine x_putrF dX3_init_8 f_X3_9 f_X3_9_l rfl rfl rfl rfl rfl ⟨hk.1, by omega⟩ ?_
  exact x_vret (st := []) dX3_init_11 rfl ⟨rfl, ⟨⟨hk.1, by omega⟩, ⟨hk.2.1, hk.2.2, by omega⟩, (up2_same _ _ _ _)⟩, ((FrB.rf a I Q).row (by omega)).up (by omega), (setRow_ne (by omega))⟩
set_option maxHeartbeats 4000000 in
theorem c_X4_init {r : Ev} {I : MI} {Q : MQ2} (a : Nat) (hk : kd a = 4 ∧ (kd (a + 1) = 11 ∧ nn (a + 1) = 6) ∧ (kd (a + 2) = 11 ∧ nn (a + 2) = 6) ∧ (kd (a + 3) = 11 ∧ nn (a + 3) = 6)) : CT r 1 yX4_init cX4_init (1, none) (3, 18) [.ref (evz r + a)] (a + 1) I Q (RV (fun J Q' => SgB (a + 4) Q' a ∧ FrB a I Q J Q' ∧ J a = I a)) := by
  refine ct_of (lv := [some (.ref (evz r + a))]) (by decide +kernel) rfl rfl rfl ?_
  refine x_aload_0 dX4_init_0 ?_
  refine x_objinit dX4_init_1 m_X4_3 ?_
  refine x_aload_0 dX4_init_4 ?_
  refine x_bip (c := 6) dX4_init_5 (by decide) ?_
  refine x_newI (2, 12) dX4_init_7 a_int hk.2.1 rfl ⟨rfl, rfl⟩ ?_
  refine x_n (n' := a + 2) rfl ?_
  refine x_putrF dX4_init_9 f_X4_9 f_X4_9_l rfl rfl rfl rfl rfl ⟨hk.1, by omega⟩ ?_
  refine x_aload_0 dX4_init_12 ?_
  refine x_bip (c := 6) dX4_init_13 (by decide) ?_
  refine x_newI (1, 6) dX4_init_15 a_int hk.2.2.1 rfl ⟨rfl, rfl⟩ ?_
  refine x_n (n' := a + 3) rfl ?_
  refine x_putrF dX4_init_17 f_X4_15 f_X4_15_l rfl rfl rfl rfl rfl ⟨hk.1, by omega⟩ ?_
  refine x_aload_0 dX4_init_20 ?_
  refine x_bip (c := 6) dX4_init_21 (by decide) ?_
  refine x_newI (0, 0) dX4_init_23 a_int hk.2.2.2 rfl ⟨rfl, rfl⟩ ?_
  refine x_n (n' := a + 4) rfl ?_
  refine x_putrF dX4_init_25 f_X4_18 f_X4_18_l rfl rfl rfl rfl rfl ⟨hk.1, by omega⟩ ?_
  exact x_vret (st := []) dX4_init_28 rfl ⟨rfl, ⟨⟨hk.1, by omega⟩, ⟨hk.2.1.1, hk.2.1.2, by omega⟩, ⟨hk.2.2.1.1, hk.2.2.1.2, by omega⟩, ⟨hk.2.2.2.1, hk.2.2.2.2, by omega⟩, ((up2_ne (by omega)).trans ((congrFun (setRow_ne (by omega)) 0).trans ((up2_ne (by omega)).trans ((congrFun (setRow_ne (by omega)) 0).trans (up2_same _ _ _ _))))), ((up2_ne (by omega)).trans ((congrFun (setRow_ne (by omega)) 1).trans (up2_same _ _ _ _))), (up2_same _ _ _ _)⟩, ((((((FrB.rf a I Q).row (by omega)).up (by omega)).row (by omega)).up (by omega)).row (by omega)).up (by omega), (setRow_ne (by omega)).trans ((setRow_ne (by omega)).trans ((setRow_ne (by omega))))⟩
set_option maxHeartbeats 4000000 in
theorem c_X6_init {r : Ev} {I : MI} {Q : MQ2} (a : Nat) (hk : kd a = 6 ∧ (kd (a + 1) = 10 ∧ nn (a + 1) = 200)) : CT r 1 yX6_init cX6_init (1, none) (1, 200) [.ref (evz r + a)] (a + 1) I Q (RV (fun J Q' => TxB (a + 2) Q' a ∧ FrB a I Q J Q' ∧ J a = I a)) := by
  refine ct_of (lv := [some (.ref (evz r + a))]) (by decide +kernel) rfl rfl rfl ?_
  refine x_aload_0 dX6_init_0 ?_
  refine x_objinit dX6_init_1 m_X6_3 ?_
  refine x_aload_0 dX6_init_4 ?_
  refine x_sip (c := 200) dX6_init_5 (by decide) ?_
  refine x_newC (0, 0) dX6_init_8 a_char hk.2 rfl ⟨rfl, rfl⟩ ?_
  refine x_n (n' := a + 2) rfl ?_
  refine x_putrF dX6_init_10 f_X6_9 f_X6_9_l rfl rfl rfl rfl rfl ⟨hk.1, by omega⟩ ?_
  exact x_vret (st := []) dX6_init_13 rfl ⟨rfl, ⟨⟨hk.1, by omega⟩, ⟨hk.2.1, hk.2.2, by omega⟩, (up2_same _ _ _ _)⟩, ((FrB.rf a I Q).row (by omega)).up (by omega), (setRow_ne (by omega))⟩
set_option maxHeartbeats 4000000 in
theorem c_X7_init {r : Ev} {I : MI} {Q : MQ2} (a : Nat) (hk : kd a = 7 ∧ (kd (a + 1) = 11 ∧ nn (a + 1) = 6) ∧ (kd (a + 2) = 11 ∧ nn (a + 2) = 6)) : CT r 1 yX7_init cX7_init (1, none) (2, 12) [.ref (evz r + a)] (a + 1) I Q (RV (fun J Q' => WyB (a + 3) Q' a ∧ FrB a I Q J Q' ∧ J a = I a)) := by
  refine ct_of (lv := [some (.ref (evz r + a))]) (by decide +kernel) rfl rfl rfl ?_
  refine x_aload_0 dX7_init_0 ?_
  refine x_objinit dX7_init_1 m_X7_3 ?_
  refine x_aload_0 dX7_init_4 ?_
  refine x_bip (c := 6) dX7_init_5 (by decide) ?_
  refine x_newI (1, 6) dX7_init_7 a_int hk.2.1 rfl ⟨rfl, rfl⟩ ?_
  refine x_n (n' := a + 2) rfl ?_
  refine x_putrF dX7_init_9 f_X7_9 f_X7_9_l rfl rfl rfl rfl rfl ⟨hk.1, by omega⟩ ?_
  refine x_aload_0 dX7_init_12 ?_
  refine x_bip (c := 6) dX7_init_13 (by decide) ?_
  refine x_newI (0, 0) dX7_init_15 a_int hk.2.2 rfl ⟨rfl, rfl⟩ ?_
  refine x_n (n' := a + 3) rfl ?_
  refine x_putrF dX7_init_17 f_X7_15 f_X7_15_l rfl rfl rfl rfl rfl ⟨hk.1, by omega⟩ ?_
  exact x_vret (st := []) dX7_init_20 rfl ⟨rfl, ⟨⟨hk.1, by omega⟩, ⟨hk.2.1.1, hk.2.1.2, by omega⟩, ⟨hk.2.2.1, hk.2.2.2, by omega⟩, ((up2_ne (by omega)).trans ((congrFun (setRow_ne (by omega)) 0).trans (up2_same _ _ _ _))), (up2_same _ _ _ _)⟩, ((((FrB.rf a I Q).row (by omega)).up (by omega)).row (by omega)).up (by omega), (setRow_ne (by omega)).trans ((setRow_ne (by omega)))⟩
