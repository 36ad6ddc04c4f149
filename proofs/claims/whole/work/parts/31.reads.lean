set_option maxHeartbeats 4000000 in
theorem l_X9_begins {r : Ev} {n : Nat} {Q : MQ2} {F : Post} {I0 : MI} (a : Nat) (hb : MdB n Q a) (hF : ∀ J, FrS I0 J (fun x _ => x = a + 3) → tdp J (a + 3) t00 g00 → F none J Q) : ∀ (k : Nat) (i : Nat) (I : MI), i ≤ 41 → i + k = 41 + 1 → FrS I0 I (fun x _ => x = a + 3) → (∀ j, j < i → I (a + 3) j = nI 0) → X r 0 yX9_begins cX9_begins (2, none) (0, 0) 2 [some (.ref (evz r + a)), some (.int (nI i))] [] n I Q F := by
  intro k
  induction k with
  | zero => intros; omega
  | succ k ih =>
    intro i I hi0 hi hfr hz
    obtain ⟨b0, bT, bO, bD, bB, bS, bP, bM, bN, bR, bH, qT, qO, qD, qB, qS, qP, qM, qN, qR, qH⟩ := id hb
    refine x_iload_1 dX9_begins_2 ?_
    refine x_bip (c := 41) dX9_begins_3 (by decide) ?_
    refine x_icmp_geN dX9_begins_5 (by omega) (by omega) (fun c5 => ?_) (fun c5 => ?_)
    · obtain rfl : i = 41 := (by omega)
      refine x_aload_0 dX9_begins_21 ?_
      refine x_getr dX9_begins_22 f_X9_16 (by assumption) qD ?_
      refine x_const (c := 2) dX9_begins_25 rfl ?_
      refine x_bip (c := 6) dX9_begins_26 (by decide) ?_
      refine x_iastA dX9_begins_28 (by assumption) rfl (by omega) (fun J28 fr28 e28 => ?_)
      refine x_aload_0 dX9_begins_29 ?_
      refine x_getr dX9_begins_30 f_X9_16 (by assumption) qD ?_
      refine x_const (c := 3) dX9_begins_33 rfl ?_
      refine x_bip (c := 9) dX9_begins_34 (by decide) ?_
      refine x_iastA dX9_begins_36 (by assumption) rfl (by omega) (fun J36 fr36 e36 => ?_)
      refine x_aload_0 dX9_begins_37 ?_
      refine x_getr dX9_begins_38 f_X9_16 (by assumption) qD ?_
      refine x_const (c := 4) dX9_begins_41 rfl ?_
      refine x_bip (c := 6) dX9_begins_42 (by decide) ?_
      refine x_iastA dX9_begins_44 (by assumption) rfl (by omega) (fun J44 fr44 e44 => ?_)
      exact x_vret (st := []) dX9_begins_45 rfl (hF _ (fun x j hx => (fr44 x j (by omega)).trans ((fr36 x j (by omega)).trans ((fr28 x j (by omega)).trans (hfr x j hx)))) ⟨(fr44 _ _ (by omega)).trans ((fr36 _ _ (by omega)).trans ((fr28 _ _ (by omega)).trans (hz 0 (by omega)))), (fr44 _ _ (by omega)).trans ((fr36 _ _ (by omega)).trans ((fr28 _ _ (by omega)).trans (hz 1 (by omega)))), (fr44 _ _ (by omega)).trans ((fr36 _ _ (by omega)).trans e28), (fr44 _ _ (by omega)).trans e36, e44, fun l hl => absurd hl (Nat.not_lt_zero l), fun l hl => absurd hl (Nat.not_lt_zero l), fun l hl => absurd hl (Nat.not_lt_zero l), fun l hl => absurd hl (Nat.not_lt_zero l)⟩)
    · refine x_aload_0 dX9_begins_8 ?_
      refine x_getr dX9_begins_9 f_X9_16 (by assumption) qD ?_
      refine x_iload_1 dX9_begins_12 ?_
      refine x_const (c := 0) dX9_begins_13 rfl ?_
      refine x_iastA dX9_begins_14 (by assumption) rfl (by omega) (fun J14 fr14 e14 => ?_)
      refine x_iinc_1 dX9_begins_15 (iinc1 _) rfl rfl ?_
      refine x_goto dX9_begins_18 ?_
      exact ih (i + 1) _ (by omega) (by omega) (fun x j hx => (fr14 x j (by omega)).trans (hfr x j hx)) (fun j hj => by
        by_cases e : j = i
        · subst e; exact e14
        · exact (fr14 _ _ (by omega)).trans (hz j (by omega)))
set_option maxHeartbeats 4000000 in
theorem c_X9_begins {r : Ev} {n : Nat} {I : MI} {Q : MQ2} (a : Nat) (hb : MdB n Q a) : CT r 0 yX9_begins cX9_begins (2, none) (0, 0) [.ref (evz r + a)] n I Q (rv Q (fun J => FrS I J (fun x _ => x = a + 3) ∧ tdp J (a + 3) t00 g00)) := by
  refine ct_of (lv := [some (.ref (evz r + a)), none]) (by decide +kernel) rfl rfl rfl ?_
  refine x_const (c := 0) dX9_begins_0 rfl ?_
  refine x_istore_1 dX9_begins_1 rfl rfl ?_
  exact l_X9_begins a hb (fun J q1 q2 => ⟨rfl, rfl, q1, q2⟩) 42 0 _ (by omega) (by omega) (fun _ _ _ => rfl) (fun j hj => absurd hj (Nat.not_lt_zero j))
theorem tdp_add {I J1 J2 J4 : MI} {c t g} {k th : Nat} (h : tdp I c t g) (hn : tN t < 6) (f1 : Fr1 I J1 c (5 + tN t)) (e1 : J1 c (5 + tN t) = nI k) (f2 : Fr1 J1 J2 c (11 + tN t)) (e2 : J2 c (11 + tN t) = nI th) (f4 : ∀ j, j ≠ 0 → J4 c j = J2 c j) (e4 : J4 c 0 = nI (tN t + 1)) : tdp J4 c (addT t k th) g := by
  obtain ⟨h0, h1, h2, h3, h4, h5, h6, h7, h8⟩ := h
  refine ⟨e4, (f4 _ (by omega)).trans ((f2 _ _ (by omega)).trans ((f1 _ _ (by omega)).trans h1)), (f4 _ (by omega)).trans ((f2 _ _ (by omega)).trans ((f1 _ _ (by omega)).trans h2)), (f4 _ (by omega)).trans ((f2 _ _ (by omega)).trans ((f1 _ _ (by omega)).trans h3)), (f4 _ (by omega)).trans ((f2 _ _ (by omega)).trans ((f1 _ _ (by omega)).trans h4)), fun l hl => ?_, fun l hl => ?_, fun l hl => (f4 _ (by omega)).trans ((f2 _ _ (by omega)).trans ((f1 _ _ (by omega)).trans (h7 l hl))), fun l hl => (f4 _ (by omega)).trans ((f2 _ _ (by omega)).trans ((f1 _ _ (by omega)).trans (h8 l hl)))⟩
  · have hl : l < tN t + 1 := hl
    show J4 c (5 + l) = nI (nup (tK t) (tN t) k l)
    rw [f4 _ (by omega), f2 _ _ (by omega)]
    by_cases e : l = tN t
    · subst e; rw [nup_s]; exact e1
    · rw [nup_n e, f1 _ _ (by omega)]; exact h5 l (by omega)
  · have hl : l < tN t + 1 := hl
    show J4 c (11 + l) = nI (nup (tT t) (tN t) th l)
    rw [f4 _ (by omega)]
    by_cases e : l = tN t
    · subst e; rw [nup_s]; exact e2
    · rw [nup_n e, f2 _ _ (by omega), f1 _ _ (by omega)]; exact h6 l (by omega)
theorem tdp_hour {I J1 J2 J4 : MI} {c t g} {x y : Nat} (h : tdp I c t g) (hn : tN t ≤ 6) (hh : nH g < 12) (f1 : Fr1 I J1 c (17 + nH g)) (e1 : J1 c (17 + nH g) = nI x) (f2 : Fr1 J1 J2 c (29 + nH g)) (e2 : J2 c (29 + nH g) = nI y) (f4 : ∀ j, j ≠ 1 → J4 c j = J2 c j) (e4 : J4 c 1 = nI (nH g + 1)) : tdp J4 c t (addH g x y) := by
  obtain ⟨h0, h1, h2, h3, h4, h5, h6, h7, h8⟩ := h
  refine ⟨(f4 _ (by omega)).trans ((f2 _ _ (by omega)).trans ((f1 _ _ (by omega)).trans h0)), e4, (f4 _ (by omega)).trans ((f2 _ _ (by omega)).trans ((f1 _ _ (by omega)).trans h2)), (f4 _ (by omega)).trans ((f2 _ _ (by omega)).trans ((f1 _ _ (by omega)).trans h3)), (f4 _ (by omega)).trans ((f2 _ _ (by omega)).trans ((f1 _ _ (by omega)).trans h4)), fun l hl => (f4 _ (by omega)).trans ((f2 _ _ (by omega)).trans ((f1 _ _ (by omega)).trans (h5 l hl))), fun l hl => (f4 _ (by omega)).trans ((f2 _ _ (by omega)).trans ((f1 _ _ (by omega)).trans (h6 l hl))), fun l hl => ?_, fun l hl => ?_⟩
  · have hl : l < nH g + 1 := hl
    show J4 c (17 + l) = nI (nup (nC g) (nH g) x l)
    rw [f4 _ (by omega), f2 _ _ (by omega)]
    by_cases e : l = nH g
    · subst e; rw [nup_s]; exact e1
    · rw [nup_n e, f1 _ _ (by omega)]; exact h7 l (by omega)
  · have hl : l < nH g + 1 := hl
    show J4 c (29 + l) = nI (nup (nM g) (nH g) y l)
    rw [f4 _ (by omega)]
    by_cases e : l = nH g
    · subst e; rw [nup_s]; exact e2
    · rw [nup_n e, f2 _ _ (by omega), f1 _ _ (by omega)]; exact h8 l (by omega)
/-- what is read so far: the row draft and the places begun -/
def bgp (I : MI) (a : Nat) (N : Nat) (p : Nat → Nat) : Prop := ∀ l, l < N → I (a + 4) l = nI (p l)
def MP (I : MI) (a : Nat) (u : Ts) : Prop := tdp I (a + 3) u.1 u.2.2 ∧ bgp I a (tN u.1) (sP u.2.1)
def FtM (a : Nat) (x j : Nat) : Prop := x = a + 3 ∨ x = a + 4 ∨ (x = a ∧ j = 12)
theorem MP.fr {I J : MI} {a : Nat} {u : Ts} (h : MP I a u) (fr : Fr1 I J a 12) : MP J a u := ⟨tdp_fr h.1 (fun j => fr _ _ (by omega)), fun l hl => (fr _ _ (by omega)).trans (h.2 l hl)⟩
theorem bgp_add {I J1 J2 J3 J4 : MI} {a N j1 j2 j4 : Nat} {p : Nat → Nat} {v : Nat} (h : bgp I a N p) (f1 : Fr1 I J1 (a + 3) j1) (f2 : Fr1 J1 J2 (a + 3) j2) (f3 : Fr1 J2 J3 (a + 4) N) (e3 : J3 (a + 4) N = nI v) (f4 : Fr1 J3 J4 (a + 3) j4) : bgp J4 a (N + 1) (nup p N v) := by
  intro l hl
  rw [f4 _ _ (by omega)]
  by_cases e : l = N
  · subst e; rw [nup_s]; exact e3
  · rw [nup_n e, f3 _ _ (by omega), f2 _ _ (by omega), f1 _ _ (by omega)]; exact h l (by omega)
set_option maxHeartbeats 4000000 in
theorem c_X9_loomOf {r : Ev} {n : Nat} {I : MI} {Q : MQ2} (a : Nat) (hb : MdB n Q a) (u : Ts) (hu : MP I a u) (hn : tN u.1 < 6) (k p th : Nat) : CT r 0 yX9_loomOf cX9_loomOf (4, none) (0, 0) [.ref (evz r + a), .int (nI k), .int (nI p), .int (nI th)] n I Q (rv Q (fun J => FrS I J (fun x _ => x = a + 3 ∨ x = a + 4) ∧ MP J a (addT u.1 k th, addS u.1 u.2.1 p, u.2.2))) := by
  refine ct_of (lv := [some (.ref (evz r + a)), some (.int (nI k)), some (.int (nI p)), some (.int (nI th))]) (by decide +kernel) rfl rfl rfl ?_
  obtain ⟨b0, bT, bO, bD, bB, bS, bP, bM, bN, bR, bH, qT, qO, qD, qB, qS, qP, qM, qN, qR, qH⟩ := id hb
  have hd0 : I (a + 3) 0 = nI (tN u.1) := hu.1.1
  refine x_aload_0 dX9_loomOf_0 ?_
  refine x_getr dX9_loomOf_1 f_X9_16 (by assumption) qD ?_
  refine x_const (c := 5) dX9_loomOf_4 rfl ?_
  refine x_aload_0 dX9_loomOf_5 ?_
  refine x_getr dX9_loomOf_6 f_X9_16 (by assumption) qD ?_
  refine x_const (c := 0) dX9_loomOf_9 rfl ?_
  refine x_ialdV dX9_loomOf_10 (by assumption) rfl (by omega) hd0 ?_
  refine x_iaddN dX9_loomOf_11 ?_
  refine x_iload_1 dX9_loomOf_12 ?_
  refine x_iastA dX9_loomOf_13 (by assumption) rfl (by omega) (fun J13 fr13 e13 => ?_)
  have hd0_p13 := (fr13 (a + 3) (0) (by omega)).trans hd0
  refine x_aload_0 dX9_loomOf_14 ?_
  refine x_getr dX9_loomOf_15 f_X9_16 (by assumption) qD ?_
  refine x_bip (c := 11) dX9_loomOf_18 (by decide) ?_
  refine x_aload_0 dX9_loomOf_20 ?_
  refine x_getr dX9_loomOf_21 f_X9_16 (by assumption) qD ?_
  refine x_const (c := 0) dX9_loomOf_24 rfl ?_
  refine x_ialdV dX9_loomOf_25 (by assumption) rfl (by omega) hd0_p13 ?_
  refine x_iaddN dX9_loomOf_26 ?_
  refine x_iload_3 dX9_loomOf_27 ?_
  refine x_iastA dX9_loomOf_28 (by assumption) rfl (by omega) (fun J28 fr28 e28 => ?_)
  have hd0_p28 := (fr28 (a + 3) (0) (by omega)).trans hd0_p13
  refine x_aload_0 dX9_loomOf_29 ?_
  refine x_getr dX9_loomOf_30 f_X9_19 (by assumption) qB ?_
  refine x_aload_0 dX9_loomOf_33 ?_
  refine x_getr dX9_loomOf_34 f_X9_16 (by assumption) qD ?_
  refine x_const (c := 0) dX9_loomOf_37 rfl ?_
  refine x_ialdV dX9_loomOf_38 (by assumption) rfl (by omega) hd0_p28 ?_
  refine x_iload_2 dX9_loomOf_39 ?_
  refine x_iastA dX9_loomOf_40 (by assumption) rfl (by omega) (fun J40 fr40 e40 => ?_)
  have hd0_p40 := (fr40 (a + 3) (0) (by omega)).trans hd0_p28
  refine x_aload_0 dX9_loomOf_41 ?_
  refine x_getr dX9_loomOf_42 f_X9_16 (by assumption) qD ?_
  refine x_const (c := 0) dX9_loomOf_45 rfl ?_
  refine x_dup2 dX9_loomOf_46 ?_
  refine x_ialdV dX9_loomOf_47 (by assumption) rfl (by omega) hd0_p40 ?_
  refine x_const (c := 1) dX9_loomOf_48 rfl ?_
  refine x_iaddN dX9_loomOf_49 ?_
  refine x_iastA dX9_loomOf_50 (by assumption) rfl (by omega) (fun J50 fr50 e50 => ?_)
  exact x_vret (st := []) dX9_loomOf_51 rfl (⟨rfl, rfl, fun x j hx => (fr50 x j (by omega)).trans ((fr40 x j (by omega)).trans ((fr28 x j (by omega)).trans (fr13 x j (by omega)))), tdp_add hu.1 hn fr13 e13 fr28 e28 (fun j hj => (fr50 _ _ (by omega)).trans (fr40 _ _ (by omega))) e50, bgp_add hu.2 fr13 fr28 fr40 e40 fr50⟩)
set_option maxHeartbeats 4000000 in
theorem c_X9_hourOf {r : Ev} {n : Nat} {I : MI} {Q : MQ2} (a : Nat) (hb : MdB n Q a) (u : Ts) (hu : MP I a u) (hn : tN u.1 ≤ 6) (hh : nH u.2.2 < 12) (x y : Nat) : CT r 0 yX9_hourOf cX9_hourOf (3, none) (0, 0) [.ref (evz r + a), .int (nI x), .int (nI y)] n I Q (rv Q (fun J => FrS I J (fun x _ => x = a + 3) ∧ MP J a (u.1, u.2.1, addH u.2.2 x y))) := by
  refine ct_of (lv := [some (.ref (evz r + a)), some (.int (nI x)), some (.int (nI y))]) (by decide +kernel) rfl rfl rfl ?_
  obtain ⟨b0, bT, bO, bD, bB, bS, bP, bM, bN, bR, bH, qT, qO, qD, qB, qS, qP, qM, qN, qR, qH⟩ := id hb
  have hd1 : I (a + 3) 1 = nI (nH u.2.2) := hu.1.2.1
  refine x_aload_0 dX9_hourOf_0 ?_
  refine x_getr dX9_hourOf_1 f_X9_16 (by assumption) qD ?_
  refine x_bip (c := 17) dX9_hourOf_4 (by decide) ?_
  refine x_aload_0 dX9_hourOf_6 ?_
  refine x_getr dX9_hourOf_7 f_X9_16 (by assumption) qD ?_
  refine x_const (c := 1) dX9_hourOf_10 rfl ?_
  refine x_ialdV dX9_hourOf_11 (by assumption) rfl (by omega) hd1 ?_
  refine x_iaddN dX9_hourOf_12 ?_
  refine x_iload_1 dX9_hourOf_13 ?_
  refine x_iastA dX9_hourOf_14 (by assumption) rfl (by omega) (fun J14 fr14 e14 => ?_)
  have hd1_p14 := (fr14 (a + 3) (1) (by omega)).trans hd1
  refine x_aload_0 dX9_hourOf_15 ?_
  refine x_getr dX9_hourOf_16 f_X9_16 (by assumption) qD ?_
  refine x_bip (c := 29) dX9_hourOf_19 (by decide) ?_
  refine x_aload_0 dX9_hourOf_21 ?_
  refine x_getr dX9_hourOf_22 f_X9_16 (by assumption) qD ?_
  refine x_const (c := 1) dX9_hourOf_25 rfl ?_
  refine x_ialdV dX9_hourOf_26 (by assumption) rfl (by omega) hd1_p14 ?_
  refine x_iaddN dX9_hourOf_27 ?_
  refine x_iload_2 dX9_hourOf_28 ?_
  refine x_iastA dX9_hourOf_29 (by assumption) rfl (by omega) (fun J29 fr29 e29 => ?_)
  have hd1_p29 := (fr29 (a + 3) (1) (by omega)).trans hd1_p14
  refine x_aload_0 dX9_hourOf_30 ?_
  refine x_getr dX9_hourOf_31 f_X9_16 (by assumption) qD ?_
  refine x_const (c := 1) dX9_hourOf_34 rfl ?_
  refine x_dup2 dX9_hourOf_35 ?_
  refine x_ialdV dX9_hourOf_36 (by assumption) rfl (by omega) hd1_p29 ?_
  refine x_const (c := 1) dX9_hourOf_37 rfl ?_
  refine x_iaddN dX9_hourOf_38 ?_
  refine x_iastA dX9_hourOf_39 (by assumption) rfl (by omega) (fun J39 fr39 e39 => ?_)
  exact x_vret (st := []) dX9_hourOf_40 rfl (⟨rfl, rfl, fun x j hx => (fr39 x j (by omega)).trans ((fr29 x j (by omega)).trans (fr14 x j (by omega))), tdp_hour hu.1 hn hh fr14 e14 fr29 e29 (fun j hj => fr39 _ _ (by omega)) e39, fun l hl => (fr39 _ _ (by omega)).trans ((fr29 _ _ (by omega)).trans ((fr14 _ _ (by omega)).trans (hu.2 l hl)))⟩)
set_option maxHeartbeats 4000000 in
theorem c_X9_one {r : Ev} {n : Nat} {I : MI} {Q : MQ2} (a : Nat) (hb : MdB n Q a) (m : Nat) (T : Nat → Nat) (ht : txm I a m T) (hm : m ≤ 200) (hT : ∀ k, k < m → T k < 128) (pl lo hi p : Nat) (hI : I a 12 = nI p) (hp : p < 900) (hlo : lo < 1000) (hhi : hi < 1000) (hpl : pl < 41) : CT r 3 yX9_one cX9_one (4, (some .boolean)) (0, 0) [.ref (evz r + a), .int (nI pl), .int (nI lo), .int (nI hi)] n I Q (ri Q (fun v J => FrS I J (fun x j => (x = a + 3 ∧ j = pl) ∨ (x = a ∧ j = 12)) ∧ ((v = nI 1 ∧ okv T m p lo hi 59 ∧ J (a + 3) pl = nI (nvl T m p) ∧ J a 12 = nI (npl T m p + 1)) ∨ (v = nI 0 ∧ ¬ okv T m p lo hi 59)))) := by
  refine ct_of (lv := [some (.ref (evz r + a)), some (.int (nI pl)), some (.int (nI lo)), some (.int (nI hi))]) (by decide +kernel) rfl rfl rfl ?_
  obtain ⟨b0, bT, bO, bD, bB, bS, bP, bM, bN, bR, bH, qT, qO, qD, qB, qS, qP, qM, qN, qR, qH⟩ := id hb
  refine x_aload_0 dX9_one_0 ?_
  refine x_getr dX9_one_1 f_X9_16 (by assumption) qD ?_
  refine x_iload_1 dX9_one_4 ?_
  refine x_aload_0 dX9_one_5 ?_
  refine x_iload_2 dX9_one_6 ?_
  refine x_iload_3 dX9_one_7 ?_
  refine x_bip (c := 59) dX9_one_8 (by decide) ?_
  refine x_V3i dX9_one_10 m_X9_73 (c_X9_number a hb m T ht hm hT p lo hi 59 (by assumption) (by omega) (by omega) (by omega) (by omega) (by omega)) (by assumption) (fun x10 I10 h10 => ?_)
  obtain ⟨nf10, ⟨rfl, nv10, na10⟩ | ⟨rfl, nv10⟩⟩ := h10
  · have n99 := nvl_le nv10.1.1
    refine x_iastA dX9_one_13 (by assumption) rfl (by omega) (fun J13 fr13 e13 => ?_)
    refine x_aload_0 dX9_one_14 ?_
    refine x_getr dX9_one_15 f_X9_16 (by assumption) qD ?_
    refine x_iload_1 dX9_one_18 ?_
    refine x_ialdV dX9_one_19 (by assumption) rfl (by omega) e13 ?_
    refine x_if_lt dX9_one_20 (fun c20 => ?_) (fun c20 => ?_)
    · exact absurd c20 (nI_pos (by omega))
    · refine x_const (c := 1) dX9_one_23 rfl ?_
      refine x_goto dX9_one_24 ?_
      exact x_iret (st := []) dX9_one_28 rfl rfl (by first | exact ⟨_, rfl, rfl, fun x j hx => (fr13 x j (by omega)).trans (nf10 x j (by omega)), Or.inl ⟨rfl, nv10, e13, (fr13 _ _ (by omega)).trans na10⟩⟩ | exact ⟨_, rfl, rfl, fun x j hx => (fr13 x j (by omega)).trans (nf10 x j (by omega)), Or.inr ⟨rfl, nv10⟩⟩)
  · refine x_iastA dX9_one_13 (by assumption) rfl (by omega) (fun J13 fr13 e13 => ?_)
    refine x_aload_0 dX9_one_14 ?_
    refine x_getr dX9_one_15 f_X9_16 (by assumption) qD ?_
    refine x_iload_1 dX9_one_18 ?_
    refine x_ialdV dX9_one_19 (by assumption) rfl (by omega) e13 ?_
    refine x_if_lt dX9_one_20 (fun c20 => ?_) (fun c20 => ?_)
    · refine x_const (c := 0) dX9_one_27 rfl ?_
      exact x_iret (st := []) dX9_one_28 rfl rfl (by first | exact ⟨_, rfl, rfl, fun x j hx => (fr13 x j (by omega)).trans (nf10 x j (by omega)), Or.inl ⟨rfl, nv10, e13, (fr13 _ _ (by omega)).trans na10⟩⟩ | exact ⟨_, rfl, rfl, fun x j hx => (fr13 x j (by omega)).trans (nf10 x j (by omega)), Or.inr ⟨rfl, nv10⟩⟩)
    · exact absurd (m1_lt (lo := 0) (by omega)) c20
