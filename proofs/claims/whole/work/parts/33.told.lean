/-- the text's night as it begins: nothing hangs, nothing is shaded -/
def zU (u : Ts) : Prop := (∀ l, l < tN u.1 → sD u.2.1 l = 0 ∧ sX u.2.1 l = 0 ∧ sH u.2.1 l = 0) ∧ sO u.2.1 = 0 ∧ sR u.2.1 = 0
theorem zU_00 : zU (t00, s00, g00) := ⟨fun l hl => absurd hl (Nat.not_lt_zero l), rfl, rfl⟩
theorem zU_tell {c v0 v1 v2 : Nat} {u x : Ts} (h : zU u) (e : tellF c v0 v1 v2 u = some x) : zU x := by
  unfold tellF at e
  by_cases c1 : c = 108
  · rw [if_pos c1] at e
    by_cases ca : canAdd u.1 u.2.1 v0 v1 v2
    · rw [if_pos ca] at e
      cases e
      refine ⟨fun l hl => ?_, h.2⟩
      have hl : l < tN u.1 + 1 := hl
      show nup (sD u.2.1) (tN u.1) 0 l = 0 ∧ nup (sX u.2.1) (tN u.1) 0 l = 0 ∧ nup (sH u.2.1) (tN u.1) 0 l = 0
      by_cases e : l = tN u.1
      · subst e; rw [nup_s, nup_s, nup_s]; exact ⟨rfl, rfl, rfl⟩
      · rw [nup_n e, nup_n e, nup_n e]; exact h.1 l (by omega)
    · rw [if_neg ca] at e; cases e
  rw [if_neg c1] at e
  by_cases c2 : c = 104
  · rw [if_pos c2] at e
    by_cases ca : nH u.2.2 < 12 ∧ v0 ≤ 9 ∧ v1 ≤ 1
    · rw [if_pos ca] at e; cases e; exact h
    · rw [if_neg ca] at e; cases e
  rw [if_neg c2] at e
  by_cases c3 : c = 115
  · rw [if_pos c3] at e
    by_cases ca : v0 ≤ 20
    · rw [if_pos ca] at e; cases e; exact h
    · rw [if_neg ca] at e; cases e
  rw [if_neg c3] at e
  by_cases c4 : c = 109
  · rw [if_pos c4] at e
    by_cases ca : 1 ≤ v0 ∧ v0 ≤ 24
    · rw [if_pos ca] at e; cases e; exact h
    · rw [if_neg ca] at e; cases e
  rw [if_neg c4] at e
  by_cases ca : 1 ≤ v0 ∧ v0 ≤ 27
  · rw [if_pos ca] at e; cases e; exact h
  · rw [if_neg ca] at e; cases e
theorem zU_item {T : Nat → Nat} {m p q : Nat} {u u2 : Ts} (hok : zU u) (h : itemF T m p u = some (q, u2)) : zU u2 := by
  unfold itemF at h
  by_cases z : 0 < cntN (ltr T m p) ∧ okNums T m (p + 1) (cntN (ltr T m p))
  · rw [if_pos z] at h
    obtain ⟨x, hx, e⟩ := Option.map_eq_some_iff.mp h
    cases e
    exact zU_tell hok hx
  · rw [if_neg z] at h; cases h
theorem readF_inv {P : Ts → Prop} {T : Nat → Nat} {m : Nat} (hi : ∀ p q u u2, P u → itemF T m p u = some (q, u2) → P u2) : ∀ (k p : Nat) (u : Ts), P u → P (readF T m k p u).2
  | 0, _, _, h => h
  | k + 1, p, u, h => by
    unfold readF
    by_cases z : p < m
    · rw [if_pos z]
      cases e : itemF T m p u with
      | none => exact h
      | some x => exact readF_inv hi k x.1 x.2 (hi p x.1 u x.2 h e)
    · rw [if_neg z]; exact h
theorem okU_read (T : Nat → Nat) (m : Nat) : okU (readF T m 200 0 (t00, s00, g00)).2 := readF_inv (fun _ _ _ _ h e => itemF_ok h e) 200 0 _ okU_00
theorem zU_read (T : Nat → Nat) (m : Nat) : zU (readF T m 200 0 (t00, s00, g00)).2 := readF_inv (fun _ _ _ _ h e => zU_item h e) 200 0 _ zU_00
set_option maxHeartbeats 4000000 in
theorem l_X9_lays1 {r : Ev} {n : Nat} {Q : MQ2} {F : Post} {I0 : MI} (a : Nat) (hb : MdB n Q a) (hx : ∀ J, FrS I0 J (fun x _ => x = a + 2) → (∀ j, j < 41 → J (a + 2) j = I0 (a + 3) j) → X r 0 yX9_lays cX9_lays (2, none) (0, 0) 26 [some (.ref (evz r + a)), some (.int (nI 41))] [] n J Q F) : ∀ (k : Nat) (i : Nat) (I : MI), i ≤ 41 → i + k = 41 + 1 → FrS I0 I (fun x _ => x = a + 2) → (∀ j, j < i → I (a + 2) j = I0 (a + 3) j) → X r 0 yX9_lays cX9_lays (2, none) (0, 0) 2 [some (.ref (evz r + a)), some (.int (nI i))] [] n I Q F := by
  intro k
  induction k with
  | zero => intros; omega
  | succ k ih =>
    intro i I hi0 hi hfr hz
    obtain ⟨b0, bT, bO, bD, bB, bS, bP, bM, bN, bR, bH, qT, qO, qD, qB, qS, qP, qM, qN, qR, qH⟩ := id hb
    refine x_iload_1 dX9_lays_2 ?_
    refine x_bip (c := 41) dX9_lays_3 (by decide) ?_
    refine x_icmp_geN dX9_lays_5 (by omega) (by omega) (fun c5 => ?_) (fun c5 => ?_)
    · obtain rfl : i = 41 := (by omega)
      exact hx I hfr hz
    · refine x_aload_0 dX9_lays_8 ?_
      refine x_getr dX9_lays_9 f_X9_13 (by assumption) qO ?_
      refine x_iload_1 dX9_lays_12 ?_
      refine x_aload_0 dX9_lays_13 ?_
      refine x_getr dX9_lays_14 f_X9_16 (by assumption) qD ?_
      refine x_iload_1 dX9_lays_17 ?_
      refine x_iald dX9_lays_18 (by assumption) rfl (by omega) ?_
      refine x_iastA dX9_lays_19 (by assumption) rfl (by omega) (fun J19 fr19 e19 => ?_)
      refine x_iinc_1 dX9_lays_20 (iinc1 _) rfl rfl ?_
      refine x_goto dX9_lays_23 ?_
      exact ih (i + 1) _ (by omega) (by omega) (fun x j hx => (fr19 x j (by omega)).trans (hfr x j hx)) (fun j hj => by
        by_cases e : j = i
        · subst e; exact e19.trans (hfr _ _ (by omega))
        · exact (fr19 _ _ (by omega)).trans (hz j (by omega)))
set_option maxHeartbeats 4000000 in
theorem l_X9_lays2 {r : Ev} {n : Nat} {Q : MQ2} {F : Post} {I0 : MI} (a : Nat) (hb : MdB n Q a) (hF : ∀ J, FrS I0 J (fun x j => x = a + 5 ∨ (x = a ∧ (j = 7 ∨ j = 9 ∨ j = 11))) → (∀ j, j < 6 → J (a + 5) j = I0 (a + 4) j) → (∀ j, 6 ≤ j → j < 26 → J (a + 5) j = nI 0) → J a 7 = nI 0 → J a 9 = nI 0 → J a 11 = nI 0 → F none J Q) : ∀ (k : Nat) (i : Nat) (I : MI), i ≤ 26 → i + k = 26 + 1 → FrS I0 I (fun x _ => x = a + 5) → (∀ j, j < i → I (a + 5) j = if j < 6 then I0 (a + 4) j else nI 0) → X r 0 yX9_lays cX9_lays (2, none) (0, 0) 28 [some (.ref (evz r + a)), some (.int (nI i))] [] n I Q F := by
  intro k
  induction k with
  | zero => intros; omega
  | succ k ih =>
    intro i I hi0 hi hfr hz
    obtain ⟨b0, bT, bO, bD, bB, bS, bP, bM, bN, bR, bH, qT, qO, qD, qB, qS, qP, qM, qN, qR, qH⟩ := id hb
    refine x_iload_1 dX9_lays_28 ?_
    refine x_bip (c := 26) dX9_lays_29 (by decide) ?_
    refine x_icmp_geN dX9_lays_31 (by omega) (by omega) (fun c31 => ?_) (fun c31 => ?_)
    · obtain rfl : i = 26 := (by omega)
      refine x_aload_0 dX9_lays_62 ?_
      refine x_const (c := 0) dX9_lays_63 rfl ?_
      refine x_putA dX9_lays_64 f_X9_91 (by assumption) (fun J64 fr64 e64 => ?_)
      refine x_aload_0 dX9_lays_67 ?_
      refine x_const (c := 0) dX9_lays_68 rfl ?_
      refine x_putA dX9_lays_69 f_X9_94 (by assumption) (fun J69 fr69 e69 => ?_)
      have e64_p69 := (fr69 (a) (7) (by omega)).trans e64
      refine x_aload_0 dX9_lays_72 ?_
      refine x_const (c := 0) dX9_lays_73 rfl ?_
      refine x_putA dX9_lays_74 f_X9_97 (by assumption) (fun J74 fr74 e74 => ?_)
      have e64_p74 := (fr74 (a) (7) (by omega)).trans e64_p69
      have e69_p74 := (fr74 (a) (9) (by omega)).trans e69
      exact x_vret (st := []) dX9_lays_77 rfl (hF _ (fun x j hx => (fr74 x j (by omega)).trans ((fr69 x j (by omega)).trans ((fr64 x j (by omega)).trans (hfr x j (by omega))))) (fun j hj => ((fr74 _ _ (by omega)).trans ((fr69 _ _ (by omega)).trans (fr64 _ _ (by omega)))).trans ((hz j (by omega)).trans (if_pos hj))) (fun j hj hj2 => ((fr74 _ _ (by omega)).trans ((fr69 _ _ (by omega)).trans (fr64 _ _ (by omega)))).trans ((hz j (by omega)).trans (if_neg (by omega)))) ((fr74 _ _ (by omega)).trans ((fr69 _ _ (by omega)).trans e64)) ((fr74 _ _ (by omega)).trans e69) e74)
    · refine x_aload_0 dX9_lays_34 ?_
      refine x_getr dX9_lays_35 f_X9_22 (by assumption) qS ?_
      refine x_iload_1 dX9_lays_38 ?_
      refine x_iload_1 dX9_lays_39 ?_
      refine x_bip (c := 6) dX9_lays_40 (by decide) ?_
      refine x_icmp_geN dX9_lays_42 (by omega) (by omega) (fun c42 => ?_) (fun c42 => ?_)
      · refine x_const (c := 0) dX9_lays_54 rfl ?_
        refine x_iastA dX9_lays_55 (by assumption) rfl (by omega) (fun J55 fr55 e55 => ?_)
        refine x_iinc_1 dX9_lays_56 (iinc1 _) rfl rfl ?_
        refine x_goto dX9_lays_59 ?_
        exact ih (i + 1) _ (by omega) (by omega) (fun x j hx => (fr55 x j (by omega)).trans (hfr x j hx)) (fun j hj => by
          by_cases e : j = i
          · subst e; first | (rw [if_neg (by omega)]; exact e55) | (rw [if_pos (by omega)]; exact e55.trans (hfr _ _ (by omega)))
          · exact (fr55 _ _ (by omega)).trans (hz j (by omega)))
      · refine x_aload_0 dX9_lays_45 ?_
        refine x_getr dX9_lays_46 f_X9_19 (by assumption) qB ?_
        refine x_iload_1 dX9_lays_49 ?_
        refine x_iald dX9_lays_50 (by assumption) rfl (by omega) ?_
        refine x_goto dX9_lays_51 ?_
        refine x_iastA dX9_lays_55 (by assumption) rfl (by omega) (fun J55 fr55 e55 => ?_)
        refine x_iinc_1 dX9_lays_56 (iinc1 _) rfl rfl ?_
        refine x_goto dX9_lays_59 ?_
        exact ih (i + 1) _ (by omega) (by omega) (fun x j hx => (fr55 x j (by omega)).trans (hfr x j hx)) (fun j hj => by
          by_cases e : j = i
          · subst e; first | (rw [if_neg (by omega)]; exact e55) | (rw [if_pos (by omega)]; exact e55.trans (hfr _ _ (by omega)))
          · exact (fr55 _ _ (by omega)).trans (hz j (by omega)))
theorem tdp_to {I J : MI} {c c' : Nat} {t : Tp} {g : Nt} (h : tdp I c t g) (hn : tN t ≤ 6) (hh : nH g ≤ 12) (e : ∀ j, j < 41 → J c' j = I c j) : tdp J c' t g := by
  obtain ⟨h0, h1, h2, h3, h4, h5, h6, h7, h8⟩ := h
  exact ⟨(e _ (by omega)).trans h0, (e _ (by omega)).trans h1, (e _ (by omega)).trans h2, (e _ (by omega)).trans h3, (e _ (by omega)).trans h4, fun l hl => (e _ (by omega)).trans (h5 l hl), fun l hl => (e _ (by omega)).trans (h6 l hl), fun l hl => (e _ (by omega)).trans (h7 l hl), fun l hl => (e _ (by omega)).trans (h8 l hl)⟩
def FtY (a x j : Nat) : Prop := x = a + 2 ∨ x = a + 5 ∨ (x = a ∧ (j = 7 ∨ j = 9 ∨ j = 11))
set_option maxHeartbeats 4000000 in
theorem c_X9_lays {r : Ev} {n : Nat} {I : MI} {Q : MQ2} (a : Nat) (hb : MdB n Q a) (u : Ts) (hu : MP I a u) (hok : okU u) (hz : zU u) : CT r 0 yX9_lays cX9_lays (2, none) (0, 0) [.ref (evz r + a)] n I Q (rv Q (fun J => FrS I J (FtY a) ∧ tdp J (a + 2) u.1 u.2.2 ∧ stp J (a + 5) u.1 u.2.1 ∧ J a 7 = nI 0 ∧ J a 9 = nI 0 ∧ J a 11 = nI 0)) := by
  refine ct_of (lv := [some (.ref (evz r + a)), none]) (by decide +kernel) rfl rfl rfl ?_
  refine x_const (c := 0) dX9_lays_0 rfl ?_
  refine x_istore_1 dX9_lays_1 rfl rfl ?_
  refine l_X9_lays1 a hb (fun J0 f1 e1 => ?_) 42 0 _ (by omega) (by omega) (fun _ _ _ => rfl) (fun j hj => absurd hj (Nat.not_lt_zero j))
  refine x_const (c := 0) dX9_lays_26 rfl ?_
  refine x_istore_1 dX9_lays_27 rfl rfl ?_
  refine l_X9_lays2 a hb (fun J f2 e2 e3 e4 e5 e6 => ⟨rfl, rfl, fun x j hx => (f2 x j (fun z => hx (Or.inr z))).trans (f1 x j (fun z => hx (Or.inl z))), tdp_to hu.1 hok.1.1 hok.2.2.1.1 (fun j hj => (f2 _ _ (by omega)).trans (e1 j hj)), ⟨fun l hl => ?_, fun l hl => ?_, fun l hl => ?_, fun l hl => ?_, ?_, ?_⟩, e4, e5, e6⟩) 27 0 _ (by omega) (by omega) (fun _ _ _ => rfl) (fun j hj => absurd hj (Nat.not_lt_zero j))
  · exact (e2 l (by have := hok.1.1; omega)).trans ((f1 _ _ (by omega)).trans (hu.2 l hl))
  · rw [(hz.1 l hl).1]; exact e3 _ (by omega) (by have := hok.1.1; omega)
  · rw [(hz.1 l hl).2.1]; exact e3 _ (by omega) (by have := hok.1.1; omega)
  · rw [(hz.1 l hl).2.2]; exact e3 _ (by omega) (by have := hok.1.1; omega)
  · rw [hz.2.1]; exact e3 _ (by omega) (by omega)
  · rw [hz.2.2]; exact e3 _ (by omega) (by omega)
set_option maxHeartbeats 4000000 in
theorem c_X9_fault {r : Ev} {n : Nat} {I : MI} {Q : MQ2} (a : Nat) (hb : MdB n Q a) (m : Nat) (T : Nat → Nat) (ht : txm I a m T) (hm : m ≤ 200) (hT : ∀ k, k < m → T k < 128) : CT r 6 yX9_fault cX9_fault (1, (some .int)) (0, 0) [.ref (evz r + a)] n I Q (ri Q (fun v J => FrS I J (FtM a) ∧ ((v = -4 ∧ (readF T m 200 0 (t00, s00, g00)).1 = none) ∨ (∃ p, v = nI p ∧ p < 200 ∧ (readF T m 200 0 (t00, s00, g00)).1 = some p)))) := by
  refine ct_of (lv := [some (.ref (evz r + a))]) (by decide +kernel) rfl rfl rfl ?_
  obtain ⟨b0, bT, bO, bD, bB, bS, bP, bM, bN, bR, bH, qT, qO, qD, qB, qS, qP, qM, qN, qR, qH⟩ := id hb
  refine x_aload_0 dX9_fault_0 ?_
  refine x_V0i dX9_fault_1 m_X9_87 (c_X9_readsAll a hb m T ht hm hT) (by assumption) (fun x1 I1 h1 => ?_)
  exact x_iret (st := []) dX9_fault_4 rfl rfl (⟨_, rfl, rfl, h1.1, h1.2.elim (fun z => Or.inl ⟨z.1, z.2.1⟩) Or.inr⟩)
set_option maxHeartbeats 4000000 in
theorem c_X9_lay {r : Ev} {n : Nat} {I : MI} {Q : MQ2} (a : Nat) (hb : MdB n Q a) (m : Nat) (T : Nat → Nat) (ht : txm I a m T) (hm : m ≤ 200) (hT : ∀ k, k < m → T k < 128) : CT r 6 yX9_lay cX9_lay (1, (some .int)) (0, 0) [.ref (evz r + a)] n I Q (ri Q (fun v J => (((readF T m 200 0 (t00, s00, g00)).1 = none ∧ tN (readF T m 200 0 (t00, s00, g00)).2.1 ≠ 0) ∧ v = nI (tN (readF T m 200 0 (t00, s00, g00)).2.1) ∧ FrS I J (fun x j => FtY a x j ∨ FtM a x j) ∧ tdp J (a + 2) (readF T m 200 0 (t00, s00, g00)).2.1 (readF T m 200 0 (t00, s00, g00)).2.2.2 ∧ stp J (a + 5) (readF T m 200 0 (t00, s00, g00)).2.1 (readF T m 200 0 (t00, s00, g00)).2.2.1 ∧ J a 7 = nI 0 ∧ J a 9 = nI 0 ∧ J a 11 = nI 0) ∨ (¬ ((readF T m 200 0 (t00, s00, g00)).1 = none ∧ tN (readF T m 200 0 (t00, s00, g00)).2.1 ≠ 0) ∧ v = -2 ∧ FrS I J (FtM a)))) := by
  refine ct_of (lv := [some (.ref (evz r + a))]) (by decide +kernel) rfl rfl rfl ?_
  obtain ⟨b0, bT, bO, bD, bB, bS, bP, bM, bN, bR, bH, qT, qO, qD, qB, qS, qP, qM, qN, qR, qH⟩ := id hb
  refine x_aload_0 dX9_lay_0 ?_
  refine x_V0i dX9_lay_1 m_X9_87 (c_X9_readsAll a hb m T ht hm hT) (by assumption) (fun x1 I1 h1 => ?_)
  have hok := okU_read T m
  have h6 := hok.1.1
  obtain ⟨rf, ⟨rfl, rn, ru⟩ | ⟨p, rfl, hp, rn⟩⟩ := h1
  · refine x_bipush (v := -4) dX9_lay_4 (by decide) ?_
    refine x_icmp_ne dX9_lay_6 (fun c6 => ?_) (fun c6 => ?_)
    · exact absurd rfl c6
    · refine x_aload_0 dX9_lay_9 ?_
      refine x_getr dX9_lay_10 f_X9_16 (by assumption) qD ?_
      refine x_const (c := 0) dX9_lay_13 rfl ?_
      refine x_ialdV dX9_lay_14 (by assumption) rfl (by omega) ru.1.1 ?_
      refine x_if_neN dX9_lay_15 (by omega) (fun c15 => ?_) (fun c15 => ?_)
      · refine x_aload_0 dX9_lay_21 ?_
        refine x_V0v dX9_lay_22 m_X9_51 (c_X9_lays a hb _ ru hok (zU_read T m)) (by assumption) (fun I22 h22 => ?_)
        obtain ⟨lf, lt, ls, l7, l9, l11⟩ := h22
        refine x_aload_0 dX9_lay_25 ?_
        refine x_getr dX9_lay_26 f_X9_13 (by assumption) qO ?_
        refine x_const (c := 0) dX9_lay_29 rfl ?_
        refine x_ialdV dX9_lay_30 (by assumption) rfl (by omega) lt.1 ?_
        exact x_iret (st := []) dX9_lay_31 rfl rfl (⟨_, rfl, rfl, Or.inl ⟨⟨rn, by omega⟩, rfl, fun x j hx => (lf x j (fun z => hx (Or.inl z))).trans (rf x j (fun z => hx (Or.inr z))), lt, ls, l7, l9, l11⟩⟩)
      · refine x_bipush (v := -2) dX9_lay_18 (by decide) ?_
        exact x_iret (st := []) dX9_lay_20 rfl rfl (⟨_, rfl, rfl, Or.inr ⟨by first | exact fun z => z.2 c15 | (intro z; rw [rn] at z; exact absurd z.1 (by simp)), rfl, rf⟩⟩)
  · refine x_bipush (v := -4) dX9_lay_4 (by decide) ?_
    refine x_icmp_ne dX9_lay_6 (fun c6 => ?_) (fun c6 => ?_)
    · refine x_bipush (v := -2) dX9_lay_18 (by decide) ?_
      exact x_iret (st := []) dX9_lay_20 rfl rfl (⟨_, rfl, rfl, Or.inr ⟨by first | exact fun z => z.2 c15 | (intro z; rw [rn] at z; exact absurd z.1 (by simp)), rfl, rf⟩⟩)
    · exact absurd c6 (nI_ne4 (by omega))
set_option maxHeartbeats 4000000 in
theorem c_X9_nth {r : Ev} {n : Nat} {I : MI} {Q : MQ2} (a : Nat) (hb : MdB n Q a) (t : Tp) (g : Nt) (ho : tdp I (a + 2) t g) (h : Nat) (hh : h < 100000) (hn : nH g ≤ 12) (h1 : 0 < nH g) : CT r 0 yX9_nth cX9_nth (2, (some .int)) (0, 0) [.ref (evz r + a), .int (nI h)] n I Q (ri Q (fun v J => J = I ∧ v = nI (if h < nH g then h else nH g - 1))) := by
  refine ct_of (lv := [some (.ref (evz r + a)), some (.int (nI h))]) (by decide +kernel) rfl rfl rfl ?_
  obtain ⟨b0, bT, bO, bD, bB, bS, bP, bM, bN, bR, bH, qT, qO, qD, qB, qS, qP, qM, qN, qR, qH⟩ := id hb
  refine x_iload_1 dX9_nth_0 ?_
  refine x_aload_0 dX9_nth_1 ?_
  refine x_getr dX9_nth_2 f_X9_13 (by assumption) qO ?_
  refine x_const (c := 1) dX9_nth_5 rfl ?_
  refine x_ialdV dX9_nth_6 (by assumption) rfl (by omega) ho.2.1 ?_
  refine x_icmp_geN dX9_nth_7 (by omega) (by omega) (fun c7 => ?_) (fun c7 => ?_)
  · refine x_aload_0 dX9_nth_14 ?_
    refine x_getr dX9_nth_15 f_X9_13 (by assumption) qO ?_
    refine x_const (c := 1) dX9_nth_18 rfl ?_
    refine x_ialdV dX9_nth_19 (by assumption) rfl (by omega) ho.2.1 ?_
    refine x_const (c := 1) dX9_nth_20 rfl ?_
    refine x_isubN dX9_nth_21 (by omega) ?_
    exact x_iret (st := []) dX9_nth_22 rfl rfl (⟨_, rfl, rfl, rfl, by first | rw [if_pos (by omega)] | rw [if_neg (by omega)]⟩)
  · refine x_iload_1 dX9_nth_10 ?_
    refine x_goto dX9_nth_11 ?_
    exact x_iret (st := []) dX9_nth_22 rfl rfl (⟨_, rfl, rfl, rfl, by first | rw [if_pos (by omega)] | rw [if_neg (by omega)]⟩)
set_option maxHeartbeats 4000000 in
theorem c_X9_coldOf {r : Ev} {n : Nat} {I : MI} {Q : MQ2} (a : Nat) (hb : MdB n Q a) (t : Tp) (g : Nt) (ho : tdp I (a + 2) t g) (h : Nat) (hh : h < 100000) (hn : nH g ≤ 12) : CT r 1 yX9_coldOf cX9_coldOf (2, (some .int)) (0, 0) [.ref (evz r + a), .int (nI h)] n I Q (ri Q (fun v J => J = I ∧ v = nI (coldF g h))) := by
  refine ct_of (lv := [some (.ref (evz r + a)), some (.int (nI h))]) (by decide +kernel) rfl rfl rfl ?_
  obtain ⟨b0, bT, bO, bD, bB, bS, bP, bM, bN, bR, bH, qT, qO, qD, qB, qS, qP, qM, qN, qR, qH⟩ := id hb
  refine x_aload_0 dX9_coldOf_0 ?_
  refine x_getr dX9_coldOf_1 f_X9_13 (by assumption) qO ?_
  refine x_const (c := 1) dX9_coldOf_4 rfl ?_
  refine x_ialdV dX9_coldOf_5 (by assumption) rfl (by omega) ho.2.1 ?_
  refine x_if_neN dX9_coldOf_6 (by omega) (fun c6 => ?_) (fun c6 => ?_)
  · refine x_aload_0 dX9_coldOf_13 ?_
    refine x_getr dX9_coldOf_14 f_X9_13 (by assumption) qO ?_
    refine x_bip (c := 17) dX9_coldOf_17 (by decide) ?_
    refine x_aload_0 dX9_coldOf_19 ?_
    refine x_iload_1 dX9_coldOf_20 ?_
    refine x_V1i dX9_coldOf_21 m_X9_103 (c_X9_nth a hb t g ho h hh hn (by omega)) (by assumption) (fun x21 I21 h21 => ?_)
    obtain ⟨rfl, rfl⟩ := h21
    refine x_iaddN dX9_coldOf_24 ?_
    refine x_ialdV dX9_coldOf_25 (by assumption) rfl (by split <;> omega) (ho.2.2.2.2.2.2.2.1 _ (by split <;> omega)) ?_
    exact x_iret (st := []) dX9_coldOf_26 rfl rfl (⟨_, rfl, rfl, rfl, by unfold coldF ofH; first | rw [if_neg c6] | rw [if_pos c6]⟩)
  · refine x_const (c := 4) dX9_coldOf_9 rfl ?_
    refine x_goto dX9_coldOf_10 ?_
    exact x_iret (st := []) dX9_coldOf_26 rfl rfl (⟨_, rfl, rfl, rfl, by unfold coldF ofH; first | rw [if_neg c6] | rw [if_pos c6]⟩)
set_option maxHeartbeats 4000000 in
theorem c_X9_mistOf {r : Ev} {n : Nat} {I : MI} {Q : MQ2} (a : Nat) (hb : MdB n Q a) (t : Tp) (g : Nt) (ho : tdp I (a + 2) t g) (h : Nat) (hh : h < 100000) (hn : nH g ≤ 12) : CT r 1 yX9_mistOf cX9_mistOf (2, (some .int)) (0, 0) [.ref (evz r + a), .int (nI h)] n I Q (ri Q (fun v J => J = I ∧ v = nI (mistF g h))) := by
  refine ct_of (lv := [some (.ref (evz r + a)), some (.int (nI h))]) (by decide +kernel) rfl rfl rfl ?_
  obtain ⟨b0, bT, bO, bD, bB, bS, bP, bM, bN, bR, bH, qT, qO, qD, qB, qS, qP, qM, qN, qR, qH⟩ := id hb
  refine x_aload_0 dX9_mistOf_0 ?_
  refine x_getr dX9_mistOf_1 f_X9_13 (by assumption) qO ?_
  refine x_const (c := 1) dX9_mistOf_4 rfl ?_
  refine x_ialdV dX9_mistOf_5 (by assumption) rfl (by omega) ho.2.1 ?_
  refine x_if_neN dX9_mistOf_6 (by omega) (fun c6 => ?_) (fun c6 => ?_)
  · refine x_aload_0 dX9_mistOf_13 ?_
    refine x_getr dX9_mistOf_14 f_X9_13 (by assumption) qO ?_
    refine x_bip (c := 29) dX9_mistOf_17 (by decide) ?_
    refine x_aload_0 dX9_mistOf_19 ?_
    refine x_iload_1 dX9_mistOf_20 ?_
    refine x_V1i dX9_mistOf_21 m_X9_103 (c_X9_nth a hb t g ho h hh hn (by omega)) (by assumption) (fun x21 I21 h21 => ?_)
    obtain ⟨rfl, rfl⟩ := h21
    refine x_iaddN dX9_mistOf_24 ?_
    refine x_ialdV dX9_mistOf_25 (by assumption) rfl (by split <;> omega) (ho.2.2.2.2.2.2.2.2 _ (by split <;> omega)) ?_
    exact x_iret (st := []) dX9_mistOf_26 rfl rfl (⟨_, rfl, rfl, rfl, by unfold mistF ofH; first | rw [if_neg c6] | rw [if_pos c6]⟩)
  · refine x_const (c := 0) dX9_mistOf_9 rfl ?_
    refine x_goto dX9_mistOf_10 ?_
    exact x_iret (st := []) dX9_mistOf_26 rfl rfl (⟨_, rfl, rfl, rfl, by unfold mistF ofH; first | rw [if_neg c6] | rw [if_pos c6]⟩)
set_option maxHeartbeats 4000000 in
theorem l_X9_loomAt {r : Ev} {n : Nat} {Q : MQ2} {F : Post} {I : MI} (a : Nat) (hb : MdB n Q a) (t : Tp) (g : Nt) (ho : tdp I (a + 2) t g) (s : St) (hs : stp I (a + 5) t s) (hn : tN t ≤ 6) (p : Nat) (hp : p < 1000) (hpl : ∀ l, l < tN t → sP s l < 1000) (hd : dst (tN t) (sP s)) (hF1 : ∀ l, l < tN t → sP s l = p → F (some (.int (nI l))) I Q) (hF2 : (∀ l, l < tN t → sP s l ≠ p) → F (some (.int (-4))) I Q) : ∀ (k : Nat) (i : Nat) (v : Int32), i ≤ tN t → i + k = tN t + 1 → ((v = -4 ∧ ∀ j, j < i → sP s j ≠ p) ∨ ∃ j, j < i ∧ sP s j = p ∧ v = nI j) → X r 0 yX9_loomAt cX9_loomAt (4, (some .int)) (0, 0) 5 [some (.ref (evz r + a)), some (.int (nI p)), some (.int v), some (.int (nI i))] [] n I Q F := by
  intro k
  induction k with
  | zero => intros; omega
  | succ k ih =>
    intro i v hi0 hi hv
    obtain ⟨b0, bT, bO, bD, bB, bS, bP, bM, bN, bR, bH, qT, qO, qD, qB, qS, qP, qM, qN, qR, qH⟩ := id hb
    refine x_iload_3 dX9_loomAt_5 ?_
    refine x_aload_0 dX9_loomAt_6 ?_
    refine x_getr dX9_loomAt_7 f_X9_13 (by assumption) qO ?_
    refine x_const (c := 0) dX9_loomAt_10 rfl ?_
    refine x_ialdV dX9_loomAt_11 (by assumption) rfl (by omega) ho.1 ?_
    refine x_icmp_geN dX9_loomAt_12 (by omega) (by omega) (fun c12 => ?_) (fun c12 => ?_)
    · obtain rfl : i = tN t := (by omega)
      refine x_iload_2 dX9_loomAt_37 ?_
      exact x_iret (st := []) dX9_loomAt_38 rfl rfl (by
        rcases hv with ⟨rfl, h1⟩ | ⟨j, h1, h2, rfl⟩
        · exact hF2 h1
        · exact hF1 j h1 h2)
    · have hpi := hpl i (by omega)
      refine x_aload_0 dX9_loomAt_15 ?_
      refine x_getr dX9_loomAt_16 f_X9_22 (by assumption) qS ?_
      refine x_iload_3 dX9_loomAt_19 ?_
      refine x_ialdV dX9_loomAt_20 (by assumption) rfl (by omega) (hs.1 i (by omega)) ?_
      refine x_iload_1 dX9_loomAt_21 ?_
      refine x_icmp_neN dX9_loomAt_22 (by omega) (by omega) (fun c22 => ?_) (fun c22 => ?_)
      · refine x_iload_2 dX9_loomAt_29 ?_
        refine x_istore_2 dX9_loomAt_30 rfl rfl ?_
        refine x_iinc_3 dX9_loomAt_31 (iinc1 _) rfl rfl ?_
        refine x_goto dX9_loomAt_34 ?_
        first
          | exact ih (i + 1) _ (by omega) (by omega) (Or.inr ⟨i, Nat.lt_succ_self i, c22, rfl⟩)
          | exact ih (i + 1) _ (by omega) (by omega) (hv.elim (fun z => Or.inl ⟨z.1, fun j hj => (Nat.lt_or_ge j i).elim (z.2 j) (fun y => by obtain rfl : j = i := (by omega); exact c22)⟩) (fun z => by obtain ⟨j, h1, h2, h3⟩ := z; exact Or.inr ⟨j, Nat.lt_succ_of_lt h1, h2, h3⟩))
      · refine x_iload_3 dX9_loomAt_25 ?_
        refine x_goto dX9_loomAt_26 ?_
        refine x_istore_2 dX9_loomAt_30 rfl rfl ?_
        refine x_iinc_3 dX9_loomAt_31 (iinc1 _) rfl rfl ?_
        refine x_goto dX9_loomAt_34 ?_
        first
          | exact ih (i + 1) _ (by omega) (by omega) (Or.inr ⟨i, Nat.lt_succ_self i, c22, rfl⟩)
          | exact ih (i + 1) _ (by omega) (by omega) (hv.elim (fun z => Or.inl ⟨z.1, fun j hj => (Nat.lt_or_ge j i).elim (z.2 j) (fun y => by obtain rfl : j = i := (by omega); exact c22)⟩) (fun z => by obtain ⟨j, h1, h2, h3⟩ := z; exact Or.inr ⟨j, Nat.lt_succ_of_lt h1, h2, h3⟩))
set_option maxHeartbeats 4000000 in
theorem c_X9_loomAt {r : Ev} {n : Nat} {I : MI} {Q : MQ2} (a : Nat) (hb : MdB n Q a) (t : Tp) (g : Nt) (ho : tdp I (a + 2) t g) (s : St) (hs : stp I (a + 5) t s) (hn : tN t ≤ 6) (p : Nat) (hp : p < 1000) (hpl : ∀ l, l < tN t → sP s l < 1000) (hd : dst (tN t) (sP s)) : CT r 0 yX9_loomAt cX9_loomAt (4, (some .int)) (0, 0) [.ref (evz r + a), .int (nI p)] n I Q (ri Q (fun v J => J = I ∧ ((∃ l, l < tN t ∧ sP s l = p ∧ v = nI l) ∨ (v = -4 ∧ ∀ l, l < tN t → sP s l ≠ p)))) := by
  refine ct_of (lv := [some (.ref (evz r + a)), some (.int (nI p)), none, none]) (by decide +kernel) rfl rfl rfl ?_
  refine x_bipush (v := -4) dX9_loomAt_0 (by decide) ?_
  refine x_istore_2 dX9_loomAt_2 rfl rfl ?_
  refine x_const (c := 0) dX9_loomAt_3 rfl ?_
  refine x_istore_3 dX9_loomAt_4 rfl rfl ?_
  exact l_X9_loomAt a hb t g ho s hs hn p hp hpl hd (fun l hl he => ⟨_, rfl, rfl, rfl, Or.inl ⟨l, hl, he, rfl⟩⟩) (fun h => ⟨_, rfl, rfl, rfl, Or.inr ⟨rfl, h⟩⟩) (tN t + 1) 0 _ (by omega) (by omega) (Or.inl ⟨rfl, fun j hj => absurd hj (Nat.not_lt_zero j)⟩)
set_option maxHeartbeats 4000000 in
theorem c_X9_holds {r : Ev} {n : Nat} {I : MI} {Q : MQ2} (a : Nat) (hb : MdB n Q a) (t : Tp) (g : Nt) (ho : tdp I (a + 2) t g) (hn : tN t ≤ 6) (l : Nat) (hl : l < tN t) : CT r 0 yX9_holds cX9_holds (2, (some .int)) (0, 0) [.ref (evz r + a), .int (nI l)] n I Q (ri Q (fun v J => J = I ∧ v = nI (3 * tT t l))) := by
  refine ct_of (lv := [some (.ref (evz r + a)), some (.int (nI l))]) (by decide +kernel) rfl rfl rfl ?_
  obtain ⟨b0, bT, bO, bD, bB, bS, bP, bM, bN, bR, bH, qT, qO, qD, qB, qS, qP, qM, qN, qR, qH⟩ := id hb
  refine x_const (c := 3) dX9_holds_0 rfl ?_
  refine x_aload_0 dX9_holds_1 ?_
  refine x_getr dX9_holds_2 f_X9_13 (by assumption) qO ?_
  refine x_bip (c := 11) dX9_holds_5 (by decide) ?_
  refine x_iload_1 dX9_holds_7 ?_
  refine x_iaddN dX9_holds_8 ?_
  refine x_ialdV dX9_holds_9 (by assumption) rfl (by omega) (ho.2.2.2.2.2.2.1 l hl) ?_
  refine x_imulN dX9_holds_10 ?_
  exact x_iret (st := []) dX9_holds_11 rfl rfl (⟨_, rfl, rfl, rfl, rfl⟩)
set_option maxHeartbeats 4000000 in
theorem c_X9_settles {r : Ev} {n : Nat} {I : MI} {Q : MQ2} (a : Nat) (hb : MdB n Q a) (t : Tp) (g : Nt) (ho : tdp I (a + 2) t g) (hn : tN t ≤ 6) (l c m : Nat) (hl : l < tN t) (hk : tK t l ≤ 3) (hc : c ≤ 9) (hm : m ≤ 1) : CT r 0 yX9_settles cX9_settles (6, (some .int)) (0, 0) [.ref (evz r + a), .int (nI l), .int (nI c), .int (nI m)] n I Q (ri Q (fun v J => J = I ∧ v = nI (setl (tK t l) c m))) := by
  refine ct_of (lv := [some (.ref (evz r + a)), some (.int (nI l)), some (.int (nI c)), some (.int (nI m)), none, none]) (by decide +kernel) rfl rfl rfl ?_
  obtain ⟨b0, bT, bO, bD, bB, bS, bP, bM, bN, bR, bH, qT, qO, qD, qB, qS, qP, qM, qN, qR, qH⟩ := id hb
  refine x_aload_0 dX9_settles_0 ?_
  refine x_getr dX9_settles_1 f_X9_13 (by assumption) qO ?_
  refine x_const (c := 5) dX9_settles_4 rfl ?_
  refine x_iload_1 dX9_settles_5 ?_
  refine x_iaddN dX9_settles_6 ?_
  refine x_ialdV dX9_settles_7 (by assumption) rfl (by omega) (ho.2.2.2.2.2.1 l hl) ?_
  refine x_istore_4 dX9_settles_8 rfl rfl ?_
  refine x_iload_3 dX9_settles_10 ?_
  refine x_const (c := 1) dX9_settles_11 rfl ?_
  refine x_icmp_neN dX9_settles_12 (by omega) (by omega) (fun c12 => ?_) (fun c12 => ?_)
  · refine x_iload_2 dX9_settles_21 ?_
    refine x_istore_5 dX9_settles_22 rfl rfl ?_
    refine x_iload_4 dX9_settles_24 ?_
    refine x_const (c := 1) dX9_settles_26 rfl ?_
    refine x_icmp_neN dX9_settles_27 (by omega) (by omega) (fun c27 => ?_) (fun c27 => ?_)
    · refine x_iload_4 dX9_settles_37 ?_
      refine x_const (c := 3) dX9_settles_39 rfl ?_
      refine x_icmp_neN dX9_settles_40 (by omega) (by omega) (fun c40 => ?_) (fun c40 => ?_)
      · refine x_iload_5 dX9_settles_51 ?_
        exact x_iret (st := []) dX9_settles_53 rfl rfl (⟨_, rfl, rfl, rfl, by congr 1; unfold setl; repeat (first | omega | rw [if_pos (by omega)] | rw [if_neg (by omega)])⟩)
      · refine x_iload_2 dX9_settles_43 ?_
        refine x_const (c := 2) dX9_settles_44 rfl ?_
        refine x_iload_3 dX9_settles_45 ?_
        refine x_imulN dX9_settles_46 ?_
        refine x_iaddN dX9_settles_47 ?_
        refine x_goto dX9_settles_48 ?_
        exact x_iret (st := []) dX9_settles_53 rfl rfl (⟨_, rfl, rfl, rfl, by congr 1; unfold setl; repeat (first | omega | rw [if_pos (by omega)] | rw [if_neg (by omega)])⟩)
    · refine x_const (c := 2) dX9_settles_30 rfl ?_
      refine x_iload_5 dX9_settles_31 ?_
      refine x_imulN dX9_settles_33 ?_
      refine x_goto dX9_settles_34 ?_
      exact x_iret (st := []) dX9_settles_53 rfl rfl (⟨_, rfl, rfl, rfl, by congr 1; unfold setl; repeat (first | omega | rw [if_pos (by omega)] | rw [if_neg (by omega)])⟩)
  · refine x_iload_2 dX9_settles_15 ?_
    refine x_const (c := 2) dX9_settles_16 rfl ?_
    refine x_idivN dX9_settles_17 (by omega) (by omega) (by omega) ?_
    refine x_goto dX9_settles_18 ?_
    refine x_istore_5 dX9_settles_22 rfl rfl ?_
    refine x_iload_4 dX9_settles_24 ?_
    refine x_const (c := 1) dX9_settles_26 rfl ?_
    refine x_icmp_neN dX9_settles_27 (by omega) (by omega) (fun c27 => ?_) (fun c27 => ?_)
    · refine x_iload_4 dX9_settles_37 ?_
      refine x_const (c := 3) dX9_settles_39 rfl ?_
      refine x_icmp_neN dX9_settles_40 (by omega) (by omega) (fun c40 => ?_) (fun c40 => ?_)
      · refine x_iload_5 dX9_settles_51 ?_
        exact x_iret (st := []) dX9_settles_53 rfl rfl (⟨_, rfl, rfl, rfl, by congr 1; unfold setl; repeat (first | omega | rw [if_pos (by omega)] | rw [if_neg (by omega)])⟩)
      · refine x_iload_2 dX9_settles_43 ?_
        refine x_const (c := 2) dX9_settles_44 rfl ?_
        refine x_iload_3 dX9_settles_45 ?_
        refine x_imulN dX9_settles_46 ?_
        refine x_iaddN dX9_settles_47 ?_
        refine x_goto dX9_settles_48 ?_
        exact x_iret (st := []) dX9_settles_53 rfl rfl (⟨_, rfl, rfl, rfl, by congr 1; unfold setl; repeat (first | omega | rw [if_pos (by omega)] | rw [if_neg (by omega)])⟩)
    · refine x_const (c := 2) dX9_settles_30 rfl ?_
      refine x_iload_5 dX9_settles_31 ?_
      refine x_imulN dX9_settles_33 ?_
      refine x_goto dX9_settles_34 ?_
      exact x_iret (st := []) dX9_settles_53 rfl rfl (⟨_, rfl, rfl, rfl, by congr 1; unfold setl; repeat (first | omega | rw [if_pos (by omega)] | rw [if_neg (by omega)])⟩)
set_option maxHeartbeats 4000000 in
theorem l_X9_sumOf {r : Ev} {n : Nat} {Q : MQ2} {F : Post} {I : MI} (a : Nat) (hb : MdB n Q a) (N : Nat) (hN : I (a + 2) 0 = nI N) (hn : N ≤ 6) (pl : Nat) (hpl : pl ≤ 18) (f : Nat → Nat) (hf : ∀ l, l < N → I (a + 5) (pl + l) = nI (f l)) (hF : F (some (.int (nI (sumF f N)))) I Q) : ∀ (k : Nat) (i : Nat), i ≤ N → i + k = N + 1 → X r 0 yX9_sumOf cX9_sumOf (4, (some .int)) (0, 0) 4 [some (.ref (evz r + a)), some (.int (nI pl)), some (.int (nI (sumF f i))), some (.int (nI i))] [] n I Q F := by
  intro k
  induction k with
  | zero => intros; omega
  | succ k ih =>
    intro i hi0 hi
    obtain ⟨b0, bT, bO, bD, bB, bS, bP, bM, bN, bR, bH, qT, qO, qD, qB, qS, qP, qM, qN, qR, qH⟩ := id hb
    refine x_iload_3 dX9_sumOf_4 ?_
    refine x_aload_0 dX9_sumOf_5 ?_
    refine x_getr dX9_sumOf_6 f_X9_13 (by assumption) qO ?_
    refine x_const (c := 0) dX9_sumOf_9 rfl ?_
    refine x_ialdV dX9_sumOf_10 (by assumption) rfl (by omega) hN ?_
    refine x_icmp_geN dX9_sumOf_11 (by omega) (by omega) (fun c11 => ?_) (fun c11 => ?_)
    · obtain rfl : i = N := (by omega)
      refine x_iload_2 dX9_sumOf_31 ?_
      exact x_iret (st := []) dX9_sumOf_32 rfl rfl (hF)
    · refine x_iload_2 dX9_sumOf_14 ?_
      refine x_aload_0 dX9_sumOf_15 ?_
      refine x_getr dX9_sumOf_16 f_X9_22 (by assumption) qS ?_
      refine x_iload_1 dX9_sumOf_19 ?_
      refine x_iload_3 dX9_sumOf_20 ?_
      refine x_iaddN dX9_sumOf_21 ?_
      refine x_ialdV dX9_sumOf_22 (by assumption) rfl (by omega) (hf i (by omega)) ?_
      refine x_iaddN dX9_sumOf_23 ?_
      refine x_istore_2 dX9_sumOf_24 rfl rfl ?_
      refine x_iinc_3 dX9_sumOf_25 (iinc1 _) rfl rfl ?_
      refine x_goto dX9_sumOf_28 ?_
      exact ih (i + 1) (by omega) (by omega)
set_option maxHeartbeats 4000000 in
theorem c_X9_sumOf {r : Ev} {n : Nat} {I : MI} {Q : MQ2} (a : Nat) (hb : MdB n Q a) (N : Nat) (hN : I (a + 2) 0 = nI N) (hn : N ≤ 6) (pl : Nat) (hpl : pl ≤ 18) (f : Nat → Nat) (hf : ∀ l, l < N → I (a + 5) (pl + l) = nI (f l)) : CT r 0 yX9_sumOf cX9_sumOf (4, (some .int)) (0, 0) [.ref (evz r + a), .int (nI pl)] n I Q (ri Q (fun v J => J = I ∧ v = nI (sumF f N))) := by
  refine ct_of (lv := [some (.ref (evz r + a)), some (.int (nI pl)), none, none]) (by decide +kernel) rfl rfl rfl ?_
  refine x_const (c := 0) dX9_sumOf_0 rfl ?_
  refine x_istore_2 dX9_sumOf_1 rfl rfl ?_
  refine x_const (c := 0) dX9_sumOf_2 rfl ?_
  refine x_istore_3 dX9_sumOf_3 rfl rfl ?_
  exact l_X9_sumOf a hb N hN hn pl hpl f hf ⟨_, rfl, rfl, rfl, rfl⟩ (N + 1) 0 (by omega) (by omega)
set_option maxHeartbeats 4000000 in
theorem l_X9_yardsNow {r : Ev} {n : Nat} {Q : MQ2} {F : Post} {I : MI} (a : Nat) (hb : MdB n Q a) (t : Tp) (g : Nt) (ho : tdp I (a + 2) t g) (s : St) (hs : stp I (a + 5) t s) (hn : tN t ≤ 6) (hD : ∀ l, l < tN t → sD s l < 1000) (hy : nY g < 1000) (hF : F (some (.int (nI (bitF (fun l => decide (nY g ≤ sD s l)) (tN t))))) I Q) : ∀ (k : Nat) (i : Nat), i ≤ tN t → i + k = tN t + 1 → X r 0 yX9_yardsNow cX9_yardsNow (3, (some .int)) (0, 0) 4 [some (.ref (evz r + a)), some (.int (nI (bitF (fun l => decide (nY g ≤ sD s l)) i))), some (.int (nI i))] [] n I Q F := by
  intro k
  induction k with
  | zero => intros; omega
  | succ k ih =>
    intro i hi0 hi
    obtain ⟨b0, bT, bO, bD, bB, bS, bP, bM, bN, bR, bH, qT, qO, qD, qB, qS, qP, qM, qN, qR, qH⟩ := id hb
    refine x_iload_2 dX9_yardsNow_4 ?_
    refine x_aload_0 dX9_yardsNow_5 ?_
    refine x_getr dX9_yardsNow_6 f_X9_13 (by assumption) qO ?_
    refine x_const (c := 0) dX9_yardsNow_9 rfl ?_
    refine x_ialdV dX9_yardsNow_10 (by assumption) rfl (by omega) ho.1 ?_
    refine x_icmp_geN dX9_yardsNow_11 (by omega) (by omega) (fun c11 => ?_) (fun c11 => ?_)
    · obtain rfl : i = tN t := (by omega)
      refine x_iload_1 dX9_yardsNow_48 ?_
      exact x_iret (st := []) dX9_yardsNow_49 rfl rfl (hF)
    · have hDi := hD i (by omega)
      refine x_iload_1 dX9_yardsNow_14 ?_
      refine x_aload_0 dX9_yardsNow_15 ?_
      refine x_getr dX9_yardsNow_16 f_X9_22 (by assumption) qS ?_
      refine x_bip (c := 6) dX9_yardsNow_19 (by decide) ?_
      refine x_iload_2 dX9_yardsNow_21 ?_
      refine x_iaddN dX9_yardsNow_22 ?_
      refine x_ialdV dX9_yardsNow_23 (by assumption) rfl (by omega) (hs.2.1 i (by omega)) ?_
      refine x_aload_0 dX9_yardsNow_24 ?_
      refine x_getr dX9_yardsNow_25 f_X9_13 (by assumption) qO ?_
      refine x_const (c := 4) dX9_yardsNow_28 rfl ?_
      refine x_ialdV dX9_yardsNow_29 (by assumption) rfl (by omega) ho.2.2.2.2.1 ?_
      refine x_icmp_ltN dX9_yardsNow_30 (by omega) (by omega) (fun c30 => ?_) (fun c30 => ?_)
      · refine x_const (c := 0) dX9_yardsNow_39 rfl ?_
        refine x_ior dX9_yardsNow_40 ?_
        first | rw [or_bit i (by omega) _ (bitF_lt _ _), bitF_y (q := (fun l => decide (nY g ≤ sD s l))) (i := i) (by simp; omega)] | rw [or_0 _ (Nat.lt_of_lt_of_le (bitF_lt _ _) (Nat.pow_le_pow_right (by decide) (show i ≤ 11 by omega))), bitF_n (q := (fun l => decide (nY g ≤ sD s l))) (i := i) (by simp; omega)]
        refine x_istore_1 dX9_yardsNow_41 rfl rfl ?_
        refine x_iinc_2 dX9_yardsNow_42 (iinc1 _) rfl rfl ?_
        refine x_goto dX9_yardsNow_45 ?_
        exact ih (i + 1) (by omega) (by omega)
      · refine x_const (c := 1) dX9_yardsNow_33 rfl ?_
        refine x_iload_2 dX9_yardsNow_34 ?_
        refine x_ishl dX9_yardsNow_35 ?_
        refine x_goto dX9_yardsNow_36 ?_
        refine x_ior dX9_yardsNow_40 ?_
        first | rw [or_bit i (by omega) _ (bitF_lt _ _), bitF_y (q := (fun l => decide (nY g ≤ sD s l))) (i := i) (by simp; omega)] | rw [or_0 _ (Nat.lt_of_lt_of_le (bitF_lt _ _) (Nat.pow_le_pow_right (by decide) (show i ≤ 11 by omega))), bitF_n (q := (fun l => decide (nY g ≤ sD s l))) (i := i) (by simp; omega)]
        refine x_istore_1 dX9_yardsNow_41 rfl rfl ?_
        refine x_iinc_2 dX9_yardsNow_42 (iinc1 _) rfl rfl ?_
        refine x_goto dX9_yardsNow_45 ?_
        exact ih (i + 1) (by omega) (by omega)
set_option maxHeartbeats 4000000 in
theorem c_X9_yardsNow {r : Ev} {n : Nat} {I : MI} {Q : MQ2} (a : Nat) (hb : MdB n Q a) (t : Tp) (g : Nt) (ho : tdp I (a + 2) t g) (s : St) (hs : stp I (a + 5) t s) (hn : tN t ≤ 6) (hD : ∀ l, l < tN t → sD s l < 1000) (hy : nY g < 1000) : CT r 0 yX9_yardsNow cX9_yardsNow (3, (some .int)) (0, 0) [.ref (evz r + a)] n I Q (ri Q (fun v J => J = I ∧ v = nI (bitF (fun l => decide (nY g ≤ sD s l)) (tN t)))) := by
  refine ct_of (lv := [some (.ref (evz r + a)), none, none]) (by decide +kernel) rfl rfl rfl ?_
  refine x_const (c := 0) dX9_yardsNow_0 rfl ?_
  refine x_istore_1 dX9_yardsNow_1 rfl rfl ?_
  refine x_const (c := 0) dX9_yardsNow_2 rfl ?_
  refine x_istore_2 dX9_yardsNow_3 rfl rfl ?_
  exact l_X9_yardsNow a hb t g ho s hs hn hD hy ⟨_, rfl, rfl, rfl, rfl⟩ (tN t + 1) 0 (by omega) (by omega)
/-- how many bits of six -/
def ones6 (x : Nat) : Nat := sumF (fun k => x / 2 ^ k % 2) 6
set_option maxHeartbeats 4000000 in
theorem l_X9_ones {r : Ev} {n : Nat} {Q : MQ2} {F : Post} {I : MI} (x : Nat) (hx : x < 128) (hF : F (some (.int (nI (ones6 x)))) I Q) : ∀ (k : Nat) (i : Nat), i ≤ 6 → i + k = 6 + 1 → X r 0 yX9_ones cX9_ones (3, (some .int)) (0, 0) 4 [some (.int (nI x)), some (.int (nI (sumF (fun k => x / 2 ^ k % 2) i))), some (.int (nI i))] [] n I Q F := by
  intro k
  induction k with
  | zero => intros; omega
  | succ k ih =>
    intro i hi0 hi
    refine x_iload_2 dX9_ones_4 ?_
    refine x_bip (c := 6) dX9_ones_5 (by decide) ?_
    refine x_icmp_geN dX9_ones_7 (by omega) (by omega) (fun c7 => ?_) (fun c7 => ?_)
    · obtain rfl : i = 6 := (by omega)
      refine x_iload_1 dX9_ones_24 ?_
      exact x_iret (st := []) dX9_ones_25 rfl rfl (hF)
    · refine x_iload_1 dX9_ones_10 ?_
      refine x_iload_0 dX9_ones_11 ?_
      refine x_iload_2 dX9_ones_12 ?_
      refine x_ishr dX9_ones_13 ?_
      refine x_const (c := 1) dX9_ones_14 rfl ?_
      refine x_iand dX9_ones_15 ?_
      rw [bit_at i (by omega) x hx]
      refine x_iaddN dX9_ones_16 ?_
      refine x_istore_1 dX9_ones_17 rfl rfl ?_
      refine x_iinc_2 dX9_ones_18 (iinc1 _) rfl rfl ?_
      refine x_goto dX9_ones_21 ?_
      exact ih (i + 1) (by omega) (by omega)
set_option maxHeartbeats 4000000 in
theorem c_X9_ones {r : Ev} {n : Nat} {I : MI} {Q : MQ2} (x : Nat) (hx : x < 128) : CT r 0 yX9_ones cX9_ones (3, (some .int)) (0, 0) [.int (nI x)] n I Q (ri Q (fun v J => J = I ∧ v = nI (ones6 x))) := by
  refine ct_of (lv := [some (.int (nI x)), none, none]) (by decide +kernel) rfl rfl rfl ?_
  refine x_const (c := 0) dX9_ones_0 rfl ?_
  refine x_istore_1 dX9_ones_1 rfl rfl ?_
  refine x_const (c := 0) dX9_ones_2 rfl ?_
  refine x_istore_2 dX9_ones_3 rfl rfl ?_
  exact l_X9_ones x hx ⟨_, rfl, rfl, rfl, rfl⟩ 7 0 (by omega) (by omega)
