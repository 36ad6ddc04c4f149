/-- a row copied cell by cell -/
def CPY (I J : MI) (src dst N : Nat) : Prop := FrS I J (fun x _ => x = dst) ∧ ∀ j, j < N → J dst j = I src j
set_option maxHeartbeats 4000000 in
theorem l_X9_keepsAside {r : Ev} {n : Nat} {Q : MQ2} {F : Post} {I0 : MI} (a : Nat) (hb : MdB n Q a) (hF : ∀ J, CPY I0 J (a + 5) (a + 10) 26 → F none J Q) : ∀ (k : Nat) (i : Nat) (I : MI), i ≤ 26 → i + k = 26 + 1 → FrS I0 I (fun x _ => x = a + 10) → (∀ j, j < i → I (a + 10) j = I0 (a + 5) j) → X r 0 yX9_keepsAside cX9_keepsAside (2, none) (0, 0) 2 [some (.ref (evz r + a)), some (.int (nI i))] [] n I Q F := by
  intro k
  induction k with
  | zero => intros; omega
  | succ k ih =>
    intro i I hi0 hi hfr hz
    obtain ⟨b0, bT, bO, bD, bB, bS, bP, bM, bN, bR, bH, qT, qO, qD, qB, qS, qP, qM, qN, qR, qH⟩ := id hb
    refine x_iload_1 dX9_keepsAside_2 ?_
    refine x_bip (c := 26) dX9_keepsAside_3 (by decide) ?_
    refine x_icmp_geN dX9_keepsAside_5 (by omega) (by omega) (fun c5 => ?_) (fun c5 => ?_)
    · obtain rfl : i = 26 := (by omega)
      exact x_vret (st := []) dX9_keepsAside_26 rfl (hF _ ⟨hfr, hz⟩)
    · refine x_aload_0 dX9_keepsAside_8 ?_
      refine x_getr dX9_keepsAside_9 f_X9_37 (by assumption) qH ?_
      refine x_iload_1 dX9_keepsAside_12 ?_
      refine x_aload_0 dX9_keepsAside_13 ?_
      refine x_getr dX9_keepsAside_14 f_X9_22 (by assumption) qS ?_
      refine x_iload_1 dX9_keepsAside_17 ?_
      refine x_iald dX9_keepsAside_18 (by assumption) rfl (by omega) ?_
      refine x_iastA dX9_keepsAside_19 (by assumption) rfl (by omega) (fun J19 fr19 e19 => ?_)
      refine x_iinc_1 dX9_keepsAside_20 (iinc1 _) rfl rfl ?_
      refine x_goto dX9_keepsAside_23 ?_
      exact ih (i + 1) _ (by omega) (by omega) (fun x j hx => (fr19 x j (by omega)).trans (hfr x j hx)) (fun j hj => by
        by_cases e : j = i
        · subst e; exact e19.trans (hfr _ _ (by omega))
        · exact (fr19 _ _ (by omega)).trans (hz j (by omega)))
set_option maxHeartbeats 4000000 in
theorem c_X9_keepsAside {r : Ev} {n : Nat} {I : MI} {Q : MQ2} (a : Nat) (hb : MdB n Q a) : CT r 0 yX9_keepsAside cX9_keepsAside (2, none) (0, 0) [.ref (evz r + a)] n I Q (rv Q (fun J => CPY I J (a + 5) (a + 10) 26)) := by
  refine ct_of (lv := [some (.ref (evz r + a)), none]) (by decide +kernel) rfl rfl rfl ?_
  refine x_const (c := 0) dX9_keepsAside_0 rfl ?_
  refine x_istore_1 dX9_keepsAside_1 rfl rfl ?_
  exact l_X9_keepsAside a hb (fun J q => ⟨rfl, rfl, q⟩) 27 0 _ (by omega) (by omega) (fun _ _ _ => rfl) (fun j hj => absurd hj (Nat.not_lt_zero j))
set_option maxHeartbeats 4000000 in
theorem l_X9_bringsBack {r : Ev} {n : Nat} {Q : MQ2} {F : Post} {I0 : MI} (a : Nat) (hb : MdB n Q a) (hF : ∀ J, CPY I0 J (a + 10) (a + 5) 26 → F none J Q) : ∀ (k : Nat) (i : Nat) (I : MI), i ≤ 26 → i + k = 26 + 1 → FrS I0 I (fun x _ => x = a + 5) → (∀ j, j < i → I (a + 5) j = I0 (a + 10) j) → X r 0 yX9_bringsBack cX9_bringsBack (2, none) (0, 0) 2 [some (.ref (evz r + a)), some (.int (nI i))] [] n I Q F := by
  intro k
  induction k with
  | zero => intros; omega
  | succ k ih =>
    intro i I hi0 hi hfr hz
    obtain ⟨b0, bT, bO, bD, bB, bS, bP, bM, bN, bR, bH, qT, qO, qD, qB, qS, qP, qM, qN, qR, qH⟩ := id hb
    refine x_iload_1 dX9_bringsBack_2 ?_
    refine x_bip (c := 26) dX9_bringsBack_3 (by decide) ?_
    refine x_icmp_geN dX9_bringsBack_5 (by omega) (by omega) (fun c5 => ?_) (fun c5 => ?_)
    · obtain rfl : i = 26 := (by omega)
      exact x_vret (st := []) dX9_bringsBack_26 rfl (hF _ ⟨hfr, hz⟩)
    · refine x_aload_0 dX9_bringsBack_8 ?_
      refine x_getr dX9_bringsBack_9 f_X9_22 (by assumption) qS ?_
      refine x_iload_1 dX9_bringsBack_12 ?_
      refine x_aload_0 dX9_bringsBack_13 ?_
      refine x_getr dX9_bringsBack_14 f_X9_37 (by assumption) qH ?_
      refine x_iload_1 dX9_bringsBack_17 ?_
      refine x_iald dX9_bringsBack_18 (by assumption) rfl (by omega) ?_
      refine x_iastA dX9_bringsBack_19 (by assumption) rfl (by omega) (fun J19 fr19 e19 => ?_)
      refine x_iinc_1 dX9_bringsBack_20 (iinc1 _) rfl rfl ?_
      refine x_goto dX9_bringsBack_23 ?_
      exact ih (i + 1) _ (by omega) (by omega) (fun x j hx => (fr19 x j (by omega)).trans (hfr x j hx)) (fun j hj => by
        by_cases e : j = i
        · subst e; exact e19.trans (hfr _ _ (by omega))
        · exact (fr19 _ _ (by omega)).trans (hz j (by omega)))
set_option maxHeartbeats 4000000 in
theorem c_X9_bringsBack {r : Ev} {n : Nat} {I : MI} {Q : MQ2} (a : Nat) (hb : MdB n Q a) : CT r 0 yX9_bringsBack cX9_bringsBack (2, none) (0, 0) [.ref (evz r + a)] n I Q (rv Q (fun J => CPY I J (a + 10) (a + 5) 26)) := by
  refine ct_of (lv := [some (.ref (evz r + a)), none]) (by decide +kernel) rfl rfl rfl ?_
  refine x_const (c := 0) dX9_bringsBack_0 rfl ?_
  refine x_istore_1 dX9_bringsBack_1 rfl rfl ?_
  exact l_X9_bringsBack a hb (fun J q => ⟨rfl, rfl, q⟩) 27 0 _ (by omega) (by omega) (fun _ _ _ => rfl) (fun j hj => absurd hj (Nat.not_lt_zero j))
/-- what is known, kept: snapshots one behind the other in a row -/
def plm (I : MI) (c : Nat) (t : Tp) (m : Nat) (v : Nat → St) : Prop := ∀ i, i < m → stp (fun _ k => I c (26 * i + k)) 0 t (v i)
theorem plm_fr {I J : MI} {c : Nat} {t : Tp} {m : Nat} {v : Nat → St} (h : plm I c t m v) (hn : tN t ≤ 6) (e : ∀ j, J c j = I c j) : plm J c t m v := fun i hi => stp_to (J := fun _ k => J c (26 * i + k)) (h i hi) hn (fun j _ => e _)
theorem plm_at {I : MI} {c c' : Nat} {t : Tp} {m i : Nat} {v : Nat → St} {J : MI} (h : plm I c t m v) (hn : tN t ≤ 6) (hi : i < m) (e : ∀ j, j < 26 → J c' j = I c (26 * i + j)) : stp J c' t (v i) := stp_to (I := fun _ k => I c (26 * i + k)) (c := 0) (h i hi) hn e
theorem plm_put {I J : MI} {c c' : Nat} {t : Tp} {m : Nat} {v : Nat → St} {s : St} (h : plm I c t m v) (hs : stp I c' t s) (hn : tN t ≤ 6) (f : ∀ j, j < 26 * m → J c j = I c j) (e : ∀ j, j < 26 → J c (26 * m + j) = I c' j) : plm J c t (m + 1) (nup v m s) := by
  intro i hi
  by_cases z : i = m
  · subst z
    rw [nup_s]
    exact stp_to (I := I) (c := c') (J := fun _ k => J c (26 * i + k)) (c' := 0) hs hn e
  · rw [nup_n z]
    exact stp_to (J := fun _ k => J c (26 * i + k)) (h i (by omega)) hn (fun j hj => f _ (by omega))
theorem plm_shift {I J : MI} {c : Nat} {t : Tp} {m : Nat} {v : Nat → St} (h : plm I c t (m + 1) v) (hn : tN t ≤ 6) (e : ∀ j, j < 26 * m → J c j = I c (j + 26)) : plm J c t m (fun i => v (i + 1)) := by
  intro i hi
  refine stp_to (I := fun _ k => I c (26 * (i + 1) + k)) (c := 0) (J := fun _ k => J c (26 * i + k)) (c' := 0) (h (i + 1) (by omega)) hn (fun j hj => ?_)
  show J c (26 * i + j) = I c (26 * (i + 1) + j)
  rw [e _ (by omega)]
  congr 1
  omega
theorem plm_cong {I : MI} {c : Nat} {t : Tp} {m : Nat} {v v' : Nat → St} (h : plm I c t m v) (e : ∀ i, i < m → v i = v' i) : plm I c t m v' := fun i hi => by rw [← e i hi]; exact h i hi
set_option maxHeartbeats 4000000 in
theorem l_X9_keeps2 {r : Ev} {n : Nat} {Q : MQ2} {F : Post} {I0 : MI} (a : Nat) (hb : MdB n Q a) (K : Nat) (hK : K < 8) (hF : ∀ J, FrS I0 J (fun x j => x = a + 6 ∨ (x = a ∧ j = 7)) → (∀ j, j < 26 * K → J (a + 6) j = I0 (a + 6) j) → (∀ j, j < 26 → J (a + 6) (26 * K + j) = I0 (a + 5) j) → J a 7 = nI (K + 1) → F none J Q) : ∀ (k : Nat) (i : Nat) (I : MI), i ≤ 26 → i + k = 26 + 1 → FrS I0 I (fun x _ => x = a + 6) → I0 a 7 = nI K → (∀ j, j < 26 * K → I (a + 6) j = I0 (a + 6) j) → (∀ j, j < i → I (a + 6) (26 * K + j) = I0 (a + 5) j) → X r 0 yX9_keeps cX9_keeps (2, none) (0, 0) 51 [some (.ref (evz r + a)), some (.int (nI i))] [] n I Q F := by
  intro k
  induction k with
  | zero => intros; omega
  | succ k ih =>
    intro i I hi0 hi hfr h7 hy hz
    obtain ⟨b0, bT, bO, bD, bB, bS, bP, bM, bN, bR, bH, qT, qO, qD, qB, qS, qP, qM, qN, qR, qH⟩ := id hb
    refine x_iload_1 dX9_keeps_51 ?_
    refine x_bip (c := 26) dX9_keeps_52 (by decide) ?_
    refine x_icmp_geN dX9_keeps_54 (by omega) (by omega) (fun c54 => ?_) (fun c54 => ?_)
    · obtain rfl : i = 26 := (by omega)
      refine x_aload_0 dX9_keeps_83 ?_
      first | refine x_dup_ref dX9_keeps_84 ?_ | refine x_dup_int dX9_keeps_84 ?_
      refine x_getV dX9_keeps_85 f_X9_91 (by assumption) ((hfr _ _ (by omega)).trans h7) ?_
      refine x_const (c := 1) dX9_keeps_88 rfl ?_
      refine x_iaddN dX9_keeps_89 ?_
      refine x_putA dX9_keeps_90 f_X9_91 (by assumption) (fun J90 fr90 e90 => ?_)
      exact x_vret (st := []) dX9_keeps_93 rfl (hF _ (fun x j hx => (fr90 x j (by omega)).trans (hfr x j (by omega))) (fun j hj => (fr90 _ _ (by omega)).trans (hy j hj)) (fun j hj => (fr90 _ _ (by omega)).trans (hz j hj)) e90)
    · refine x_aload_0 dX9_keeps_57 ?_
      refine x_getr dX9_keeps_58 f_X9_25 (by assumption) qP ?_
      refine x_bip (c := 26) dX9_keeps_61 (by decide) ?_
      refine x_aload_0 dX9_keeps_63 ?_
      refine x_getV dX9_keeps_64 f_X9_91 (by assumption) ((hfr _ _ (by omega)).trans h7) ?_
      refine x_imulN dX9_keeps_67 ?_
      refine x_iload_1 dX9_keeps_68 ?_
      refine x_iaddN dX9_keeps_69 ?_
      refine x_aload_0 dX9_keeps_70 ?_
      refine x_getr dX9_keeps_71 f_X9_22 (by assumption) qS ?_
      refine x_iload_1 dX9_keeps_74 ?_
      refine x_iald dX9_keeps_75 (by assumption) rfl (by omega) ?_
      refine x_iastA dX9_keeps_76 (by assumption) rfl (by omega) (fun J76 fr76 e76 => ?_)
      refine x_iinc_1 dX9_keeps_77 (iinc1 _) rfl rfl ?_
      refine x_goto dX9_keeps_80 ?_
      exact ih (i + 1) _ (by omega) (by omega) (fun x j hx => (fr76 x j (by omega)).trans (hfr x j hx)) h7 (fun j hj => (fr76 _ _ (by omega)).trans (hy j hj)) (fun j hj => by
        by_cases e : j = i
        · subst e; exact e76.trans (hfr _ _ (by omega))
        · exact (fr76 _ _ (by omega)).trans (hz j (by omega)))
set_option maxHeartbeats 4000000 in
theorem l_X9_keeps1 {r : Ev} {n : Nat} {Q : MQ2} {F : Post} {I0 : MI} (a : Nat) (hb : MdB n Q a) (hx : ∀ J, FrS I0 J (fun x _ => x = a + 6) → (∀ j, j < 182 → J (a + 6) j = I0 (a + 6) (j + 26)) → X r 0 yX9_keeps cX9_keeps (2, none) (0, 0) 39 [some (.ref (evz r + a)), some (.int (nI 182))] [] n J Q F) : ∀ (k : Nat) (i : Nat) (I : MI), i ≤ 182 → i + k = 182 + 1 → FrS I0 I (fun x _ => x = a + 6) → (∀ j, j < i → I (a + 6) j = I0 (a + 6) (j + 26)) → (∀ j, i ≤ j → I (a + 6) j = I0 (a + 6) j) → X r 0 yX9_keeps cX9_keeps (2, none) (0, 0) 11 [some (.ref (evz r + a)), some (.int (nI i))] [] n I Q F := by
  intro k
  induction k with
  | zero => intros; omega
  | succ k ih =>
    intro i I hi0 hi hfr hz hy
    obtain ⟨b0, bT, bO, bD, bB, bS, bP, bM, bN, bR, bH, qT, qO, qD, qB, qS, qP, qM, qN, qR, qH⟩ := id hb
    refine x_iload_1 dX9_keeps_11 ?_
    refine x_sip (c := 182) dX9_keeps_12 (by decide) ?_
    refine x_icmp_geN dX9_keeps_15 (by omega) (by omega) (fun c15 => ?_) (fun c15 => ?_)
    · obtain rfl : i = 182 := (by omega)
      exact hx I hfr hz
    · refine x_aload_0 dX9_keeps_18 ?_
      refine x_getr dX9_keeps_19 f_X9_25 (by assumption) qP ?_
      refine x_iload_1 dX9_keeps_22 ?_
      refine x_aload_0 dX9_keeps_23 ?_
      refine x_getr dX9_keeps_24 f_X9_25 (by assumption) qP ?_
      refine x_iload_1 dX9_keeps_27 ?_
      refine x_bip (c := 26) dX9_keeps_28 (by decide) ?_
      refine x_iaddN dX9_keeps_30 ?_
      refine x_iald dX9_keeps_31 (by assumption) rfl (by omega) ?_
      refine x_iastA dX9_keeps_32 (by assumption) rfl (by omega) (fun J32 fr32 e32 => ?_)
      refine x_iinc_1 dX9_keeps_33 (iinc1 _) rfl rfl ?_
      refine x_goto dX9_keeps_36 ?_
      exact ih (i + 1) _ (by omega) (by omega) (fun x j hx => (fr32 x j (by omega)).trans (hfr x j hx)) (fun j hj => by
        by_cases e : j = i
        · subst e; exact e32.trans (hy _ (by omega))
        · exact (fr32 _ _ (by omega)).trans (hz j (by omega))) (fun j hj => (fr32 _ _ (by omega)).trans (hy j (by omega)))
set_option maxHeartbeats 4000000 in
theorem c_X9_keeps {r : Ev} {n : Nat} {I : MI} {Q : MQ2} (a : Nat) (hb : MdB n Q a) (t : Tp) (s : St) (K : Nat) (v : Nat → St) (hs : stp I (a + 5) t s) (hn : tN t ≤ 6) (h7 : I a 7 = nI K) (hK : K ≤ 8) (hp : plm I (a + 6) t K v) : CT r 0 yX9_keeps cX9_keeps (2, none) (0, 0) [.ref (evz r + a)] n I Q (rv Q (fun J => FrS I J (fun x j => x = a + 6 ∨ (x = a ∧ j = 7)) ∧ J a 7 = nI (pushN 8 K) ∧ plm J (a + 6) t (pushN 8 K) (pushF 8 K v s))) := by
  refine ct_of (lv := [some (.ref (evz r + a)), none]) (by decide +kernel) rfl rfl rfl ?_
  obtain ⟨b0, bT, bO, bD, bB, bS, bP, bM, bN, bR, bH, qT, qO, qD, qB, qS, qP, qM, qN, qR, qH⟩ := id hb
  refine x_aload_0 dX9_keeps_0 ?_
  refine x_getV dX9_keeps_1 f_X9_91 (by assumption) h7 ?_
  refine x_bip (c := 8) dX9_keeps_4 (by decide) ?_
  refine x_icmp_neN dX9_keeps_6 (by omega) (by omega) (fun c6 => ?_) (fun c6 => ?_)
  · refine x_const (c := 0) dX9_keeps_49 rfl ?_
    refine x_istore_1 dX9_keeps_50 rfl rfl ?_
    refine l_X9_keeps2 a hb K (by omega) (fun J q1 q2 q3 q4 => ⟨rfl, rfl, q1, ?_, ?_⟩) 27 0 _ (by omega) (by omega) (fun _ _ _ => rfl) h7 (fun _ _ => rfl) (fun j hj => absurd hj (Nat.not_lt_zero j))
    · unfold pushN; rw [if_neg (by omega)]; exact q4
    · unfold pushN pushF; rw [if_neg (by omega), if_neg (by omega)]; exact plm_put hp hs hn q2 q3
  · obtain rfl : K = 8 := (by omega)
    refine x_const (c := 0) dX9_keeps_9 rfl ?_
    refine x_istore_1 dX9_keeps_10 rfl rfl ?_
    refine l_X9_keeps1 a hb (fun J0 f1 e1 => ?_) 183 0 _ (by omega) (by omega) (fun _ _ _ => rfl) (fun j hj => absurd hj (Nat.not_lt_zero j)) (fun _ _ => rfl)
    refine x_aload_0 dX9_keeps_39 ?_
    first | refine x_dup_ref dX9_keeps_40 ?_ | refine x_dup_int dX9_keeps_40 ?_
    refine x_getV dX9_keeps_41 f_X9_91 (by assumption) ((f1 _ _ (by omega)).trans h7) ?_
    refine x_const (c := 1) dX9_keeps_44 rfl ?_
    refine x_isubN dX9_keeps_45 (by omega) ?_
    refine x_putA dX9_keeps_46 f_X9_91 (by assumption) (fun J46 fr46 e46 => ?_)
    refine x_const (c := 0) dX9_keeps_49 rfl ?_
    refine x_istore_1 dX9_keeps_50 rfl rfl ?_
    refine l_X9_keeps2 a hb 7 (by omega) (fun J q1 q2 q3 q4 => ⟨rfl, rfl, fun x j hx => (q1 x j hx).trans ((fr46 x j (by omega)).trans (f1 x j (by omega))), q4, ?_⟩) 27 0 _ (by omega) (by omega) (fun _ _ _ => rfl) e46 (fun _ _ => rfl) (fun j hj => absurd hj (Nat.not_lt_zero j))
    have hp1 : plm J46 (a + 6) t 7 (fun i => v (i + 1)) := plm_fr (plm_shift hp hn (fun j hj => e1 j (by omega))) hn (fun j => fr46 _ _ (by omega))
    have hs1 : stp J46 (a + 5) t s := stp_to hs hn (fun j _ => (fr46 _ _ (by omega)).trans (f1 _ _ (by omega)))
    refine plm_cong (plm_put hp1 hs1 hn q2 q3) (fun i hi => ?_)
    show nup (fun i => v (i + 1)) 7 s i = if i + 1 = 8 then s else v (i + 1)
    by_cases z : i = 7
    · subst z; rw [nup_s, if_pos rfl]
    · rw [nup_n z, if_neg (by omega)]
set_option maxHeartbeats 4000000 in
theorem l_X9_undo {r : Ev} {n : Nat} {Q : MQ2} {F : Post} {I0 : MI} (a : Nat) (hb : MdB n Q a) (K : Nat) (hK : K < 8) (hF : ∀ J, FrS I0 J (fun x _ => x = a + 5) → (∀ j, j < 26 → J (a + 5) j = I0 (a + 6) (26 * K + j)) → F (some (.int (nI K))) J Q) : ∀ (k : Nat) (i : Nat) (I : MI), i ≤ 26 → i + k = 26 + 1 → FrS I0 I (fun x _ => x = a + 5) → I0 a 7 = nI K → (∀ j, j < i → I (a + 5) j = I0 (a + 6) (26 * K + j)) → X r 0 yX9_undo cX9_undo (2, (some .int)) (0, 0) 22 [some (.ref (evz r + a)), some (.int (nI i))] [] n I Q F := by
  intro k
  induction k with
  | zero => intros; omega
  | succ k ih =>
    intro i I hi0 hi hfr h7 hz
    obtain ⟨b0, bT, bO, bD, bB, bS, bP, bM, bN, bR, bH, qT, qO, qD, qB, qS, qP, qM, qN, qR, qH⟩ := id hb
    refine x_iload_1 dX9_undo_22 ?_
    refine x_bip (c := 26) dX9_undo_23 (by decide) ?_
    refine x_icmp_geN dX9_undo_25 (by omega) (by omega) (fun c25 => ?_) (fun c25 => ?_)
    · obtain rfl : i = 26 := (by omega)
      refine x_aload_0 dX9_undo_54 ?_
      refine x_getV dX9_undo_55 f_X9_91 (by assumption) ((hfr _ _ (by omega)).trans h7) ?_
      exact x_iret (st := []) dX9_undo_58 rfl rfl (hF _ hfr hz)
    · refine x_aload_0 dX9_undo_28 ?_
      refine x_getr dX9_undo_29 f_X9_22 (by assumption) qS ?_
      refine x_iload_1 dX9_undo_32 ?_
      refine x_aload_0 dX9_undo_33 ?_
      refine x_getr dX9_undo_34 f_X9_25 (by assumption) qP ?_
      refine x_bip (c := 26) dX9_undo_37 (by decide) ?_
      refine x_aload_0 dX9_undo_39 ?_
      refine x_getV dX9_undo_40 f_X9_91 (by assumption) ((hfr _ _ (by omega)).trans h7) ?_
      refine x_imulN dX9_undo_43 ?_
      refine x_iload_1 dX9_undo_44 ?_
      refine x_iaddN dX9_undo_45 ?_
      refine x_iald dX9_undo_46 (by assumption) rfl (by omega) ?_
      refine x_iastA dX9_undo_47 (by assumption) rfl (by omega) (fun J47 fr47 e47 => ?_)
      refine x_iinc_1 dX9_undo_48 (iinc1 _) rfl rfl ?_
      refine x_goto dX9_undo_51 ?_
      exact ih (i + 1) _ (by omega) (by omega) (fun x j hx => (fr47 x j (by omega)).trans (hfr x j hx)) h7 (fun j hj => by
        by_cases e : j = i
        · subst e; exact e47.trans (hfr _ _ (by omega))
        · exact (fr47 _ _ (by omega)).trans (hz j (by omega)))
set_option maxHeartbeats 4000000 in
theorem c_X9_undo {r : Ev} {n : Nat} {I : MI} {Q : MQ2} (a : Nat) (hb : MdB n Q a) (t : Tp) (K : Nat) (v : Nat → St) (hn : tN t ≤ 6) (h7 : I a 7 = nI K) (hK : K ≤ 8) (hp : plm I (a + 6) t K v) : CT r 0 yX9_undo cX9_undo (2, (some .int)) (0, 0) [.ref (evz r + a)] n I Q (ri Q (fun x J => (K = 0 ∧ x = -2 ∧ J = I) ∨ (0 < K ∧ x = nI (K - 1) ∧ FrS I J (fun x j => x = a + 5 ∨ (x = a ∧ j = 7)) ∧ J a 7 = nI (K - 1) ∧ stp J (a + 5) t (v (K - 1))))) := by
  refine ct_of (lv := [some (.ref (evz r + a)), none]) (by decide +kernel) rfl rfl rfl ?_
  obtain ⟨b0, bT, bO, bD, bB, bS, bP, bM, bN, bR, bH, qT, qO, qD, qB, qS, qP, qM, qN, qR, qH⟩ := id hb
  refine x_aload_0 dX9_undo_0 ?_
  refine x_getV dX9_undo_1 f_X9_91 (by assumption) h7 ?_
  refine x_if_neN dX9_undo_4 (by omega) (fun c4 => ?_) (fun c4 => ?_)
  · refine x_aload_0 dX9_undo_10 ?_
    first | refine x_dup_ref dX9_undo_11 ?_ | refine x_dup_int dX9_undo_11 ?_
    refine x_getV dX9_undo_12 f_X9_91 (by assumption) h7 ?_
    refine x_const (c := 1) dX9_undo_15 rfl ?_
    refine x_isubN dX9_undo_16 (by omega) ?_
    refine x_putA dX9_undo_17 f_X9_91 (by assumption) (fun J17 fr17 e17 => ?_)
    refine x_const (c := 0) dX9_undo_20 rfl ?_
    refine x_istore_1 dX9_undo_21 rfl rfl ?_
    refine l_X9_undo a hb (K - 1) (by omega) (fun J q1 q2 => ⟨_, rfl, rfl, Or.inr ⟨by omega, rfl, fun x j hx => (q1 x j (by omega)).trans (fr17 x j (by omega)), (q1 _ _ (by omega)).trans e17, plm_at hp hn (by omega) (fun j hj => (q2 j hj).trans (fr17 _ _ (by omega)))⟩⟩) 27 0 _ (by omega) (by omega) (fun _ _ _ => rfl) e17 (fun j hj => absurd hj (Nat.not_lt_zero j))
  · refine x_bipush (v := -2) dX9_undo_7 (by decide) ?_
    exact x_iret (st := []) dX9_undo_9 rfl rfl (⟨_, rfl, rfl, Or.inl ⟨by omega, rfl, rfl⟩⟩)
set_option maxHeartbeats 4000000 in
theorem l_X9_hours {r : Ev} {n : Nat} {Q : MQ2} {F : Post} {I0 : MI} (a : Nat) (hb : MdB n Q a) (t : Tp) (g : Nt) (ho0 : tdp I0 (a + 2) t g) (ht : okT t) (hG : okN g) (s : St) (hk0 : okS t s) (m : Nat) (hR : sR s + m ≤ 9000) (hF : ∀ J, FrS I0 J (fun x _ => FtP9 a x) → stp J (a + 5) t (hrsS t g m s) → (0 < m → ∀ l, l < tN t → J (a + 9) l = drH t (nS g) (coldF g (sR (hrsS t g (m - 1) s))) (mistF g (sR (hrsS t g (m - 1) s))) (hrsS t g (m - 1) s) l) → F none J Q) : ∀ (k : Nat) (i : Nat) (I : MI), i ≤ m → i + k = m + 1 → FrS I0 I (fun x _ => FtP9 a x) → stp I (a + 5) t (hrsS t g i s) → (0 < i → ∀ l, l < tN t → I (a + 9) l = drH t (nS g) (coldF g (sR (hrsS t g (i - 1) s))) (mistF g (sR (hrsS t g (i - 1) s))) (hrsS t g (i - 1) s) l) → X r 3 yX9_hours cX9_hours (3, none) (0, 0) 2 [some (.ref (evz r + a)), some (.int (nI m)), some (.int (nI i))] [] n I Q F := by
  intro k
  induction k with
  | zero => intros; omega
  | succ k ih =>
    intro i I hi0 hi hfr hs hdr
    obtain ⟨b0, bT, bO, bD, bB, bS, bP, bM, bN, bR, bH, qT, qO, qD, qB, qS, qP, qM, qN, qR, qH⟩ := id hb
    refine x_iload_2 dX9_hours_2 ?_
    refine x_iload_1 dX9_hours_3 ?_
    refine x_icmp_geN dX9_hours_4 (by omega) (by omega) (fun c4 => ?_) (fun c4 => ?_)
    · obtain rfl : i = m := (by omega)
      exact x_vret (st := []) dX9_hours_39 rfl (hF _ hfr hs hdr)
    · have ho : tdp I (a + 2) t g := tdp_fr ho0 (fun j => hfr _ _ (by unfold FtP9; omega))
      refine x_aload_0 dX9_hours_7 ?_
      refine x_aload_0 dX9_hours_8 ?_
      refine x_aload_0 dX9_hours_9 ?_
      refine x_getr dX9_hours_10 f_X9_22 (by assumption) qS ?_
      refine x_bip (c := 25) dX9_hours_13 (by decide) ?_
      refine x_ialdV dX9_hours_15 (by assumption) rfl (by omega) hs.2.2.2.2.2 ?_
      refine x_V1i dX9_hours_16 m_X9_106 (c_X9_coldOf a hb t g ho _ (by rw [sR_hrs]; omega) hG.1) (by assumption) (fun x16 I16 h16 => ?_)
      obtain ⟨rfl, rfl⟩ := h16
      refine x_aload_0 dX9_hours_19 ?_
      refine x_aload_0 dX9_hours_20 ?_
      refine x_getr dX9_hours_21 f_X9_22 (by assumption) qS ?_
      refine x_bip (c := 25) dX9_hours_24 (by decide) ?_
      refine x_ialdV dX9_hours_26 (by assumption) rfl (by omega) hs.2.2.2.2.2 ?_
      refine x_V1i dX9_hours_27 m_X9_109 (c_X9_mistOf a hb t g ho _ (by rw [sR_hrs]; omega) hG.1) (by assumption) (fun x27 I27 h27 => ?_)
      obtain ⟨rfl, rfl⟩ := h27
      refine x_V2v dX9_hours_30 m_X9_121 (c_X9_passes a hb t g ho ht _ _ (cold_le hG _) (mist_le hG _) _ (okS_hrs hk0) hs (by rw [sR_hrs]; omega) (by have := hG.2.2.1; omega)) (by assumption) (fun I30 h30 => ?_)
      obtain ⟨pf30, ps30, pr30⟩ := h30
      refine x_iinc_2 dX9_hours_33 (iinc1 _) rfl rfl ?_
      refine x_goto dX9_hours_36 ?_
      exact ih (i + 1) _ (by omega) (by omega) (fun x j hx => (pf30 x j hx).trans (hfr x j hx)) (by rw [hrs_succ]; exact ps30) (fun _ => pr30)
set_option maxHeartbeats 4000000 in
theorem c_X9_hours {r : Ev} {n : Nat} {I : MI} {Q : MQ2} (a : Nat) (hb : MdB n Q a) (t : Tp) (g : Nt) (ho : tdp I (a + 2) t g) (ht : okT t) (hG : okN g) (s : St) (hk : okS t s) (hs : stp I (a + 5) t s) (m : Nat) (hR : sR s + m ≤ 9000) : CT r 3 yX9_hours cX9_hours (3, none) (0, 0) [.ref (evz r + a), .int (nI m)] n I Q (rv Q (fun J => FrS I J (fun x _ => FtP9 a x) ∧ stp J (a + 5) t (hrsS t g m s) ∧ (0 < m → ∀ l, l < tN t → J (a + 9) l = drH t (nS g) (coldF g (sR (hrsS t g (m - 1) s))) (mistF g (sR (hrsS t g (m - 1) s))) (hrsS t g (m - 1) s) l))) := by
  refine ct_of (lv := [some (.ref (evz r + a)), some (.int (nI m)), none]) (by decide +kernel) rfl rfl rfl ?_
  refine x_const (c := 0) dX9_hours_0 rfl ?_
  refine x_istore_2 dX9_hours_1 rfl rfl ?_
  exact l_X9_hours a hb t g ho ht hG s hk m hR (fun J q1 q2 q3 => ⟨rfl, rfl, q1, q2, q3⟩) (m + 1) 0 _ (by omega) (by omega) (fun _ _ _ => rfl) hs (fun z => absurd z (Nat.lt_irrefl 0))
def selS (t : Tp) (g : Nt) (s : St) : St := hrsS t g (nB g - sR s) s
set_option maxHeartbeats 4000000 in
theorem c_X9_sells {r : Ev} {n : Nat} {I : MI} {Q : MQ2} (a : Nat) (hb : MdB n Q a) (t : Tp) (g : Nt) (ho : tdp I (a + 2) t g) (ht : okT t) (hG : okN g) (s : St) (hk : okS t s) (hs : stp I (a + 5) t s) (hR : sR s ≤ 1000) : CT r 4 yX9_sells cX9_sells (1, none) (0, 0) [.ref (evz r + a)] n I Q (rv Q (fun J => FrS I J (fun x _ => FtP9 a x) ∧ stp J (a + 5) t (selS t g s))) := by
  refine ct_of (lv := [some (.ref (evz r + a))]) (by decide +kernel) rfl rfl rfl ?_
  obtain ⟨b0, bT, bO, bD, bB, bS, bP, bM, bN, bR, bH, qT, qO, qD, qB, qS, qP, qM, qN, qR, qH⟩ := id hb
  have hB := hG.2.2.2.2.1
  refine x_aload_0 dX9_sells_0 ?_
  refine x_aload_0 dX9_sells_1 ?_
  refine x_getr dX9_sells_2 f_X9_13 (by assumption) qO ?_
  refine x_const (c := 3) dX9_sells_5 rfl ?_
  refine x_ialdV dX9_sells_6 (by assumption) rfl (by omega) ho.2.2.2.1 ?_
  refine x_aload_0 dX9_sells_7 ?_
  refine x_getr dX9_sells_8 f_X9_22 (by assumption) qS ?_
  refine x_bip (c := 25) dX9_sells_11 (by decide) ?_
  refine x_ialdV dX9_sells_13 (by assumption) rfl (by omega) hs.2.2.2.2.2 ?_
  refine x_icmp_leN dX9_sells_14 (by omega) (by omega) (fun c14 => ?_) (fun c14 => ?_)
  · have e14 : nB g - sR s = 0 := by omega
    refine x_const (c := 0) dX9_sells_34 rfl ?_
    refine x_V1v dX9_sells_35 m_X9_127 (c_X9_hours a hb t g ho ht hG s hk hs _ (by omega)) (by assumption) (fun I35 h35 => ?_)
    obtain ⟨pf35, ps35, pr35⟩ := h35
    exact x_vret (st := []) dX9_sells_38 rfl (by first | exact ⟨rfl, rfl, pf35, ps35⟩ | exact ⟨rfl, rfl, pf35, by unfold selS; rw [e14]; exact ps35⟩)
  · have e14 : True := trivial
    refine x_aload_0 dX9_sells_17 ?_
    refine x_getr dX9_sells_18 f_X9_13 (by assumption) qO ?_
    refine x_const (c := 3) dX9_sells_21 rfl ?_
    refine x_ialdV dX9_sells_22 (by assumption) rfl (by omega) ho.2.2.2.1 ?_
    refine x_aload_0 dX9_sells_23 ?_
    refine x_getr dX9_sells_24 f_X9_22 (by assumption) qS ?_
    refine x_bip (c := 25) dX9_sells_27 (by decide) ?_
    refine x_ialdV dX9_sells_29 (by assumption) rfl (by omega) hs.2.2.2.2.2 ?_
    refine x_isubN dX9_sells_30 (by omega) ?_
    refine x_goto dX9_sells_31 ?_
    refine x_V1v dX9_sells_35 m_X9_127 (c_X9_hours a hb t g ho ht hG s hk hs _ (by omega)) (by assumption) (fun I35 h35 => ?_)
    obtain ⟨pf35, ps35, pr35⟩ := h35
    exact x_vret (st := []) dX9_sells_38 rfl (by first | exact ⟨rfl, rfl, pf35, ps35⟩ | exact ⟨rfl, rfl, pf35, by unfold selS; rw [e14]; exact ps35⟩)
/-- tears, a cow's breath, shade on one loom -/
def tearS (t : Tp) (s : St) (l : Nat) : St := setL s l (sP s l) (min (sD s l + tT t l) (3 * tT t l)) (sX s l) (sH s l)
def cowS (s : St) (l : Nat) : St := setL s l (sP s l) (sD s l / 2) (sX s l) (sH s l)
def shaS (s : St) (l : Nat) : St := setL s l (sP s l) (sD s l) (sX s l) (1 - sH s l)
def putS (s : St) (l p : Nat) : St := setL s l p (sD s l) (sX s l) (sH s l)
theorem stp_D {I J : MI} {c : Nat} {t : Tp} {s : St} {l d : Nat} (h : stp I c t s) (hn : tN t ≤ 6) (hl : l < tN t) (fr : Fr1 I J c (6 + l)) (e1 : J c (6 + l) = nI d) : stp J c t (setL s l (sP s l) d (sX s l) (sH s l)) :=
  stp_loom h hn hl (fun j h1 _ => fr _ _ (by omega)) e1 ((fr _ _ (by omega)).trans (h.2.2.1 l hl))
theorem stp_H {I J : MI} {c : Nat} {t : Tp} {s : St} {l x : Nat} (h : stp I c t s) (hn : tN t ≤ 6) (hl : l < tN t) (fr : Fr1 I J c (18 + l)) (e1 : J c (18 + l) = nI x) : stp J c t (setL s l (sP s l) (sD s l) (sX s l) x) := by
  obtain ⟨h0, h1, h2, h3, h4, h5⟩ := h
  refine ⟨fun k hk => ?_, fun k hk => ?_, fun k hk => ?_, fun k hk => ?_, (fr _ _ (by omega)).trans h4, (fr _ _ (by omega)).trans h5⟩
  · rw [setL_P, nup_self, fr _ _ (by omega)]; exact h0 k hk
  · rw [setL_D, nup_self, fr _ _ (by omega)]; exact h1 k hk
  · rw [setL_X, nup_self, fr _ _ (by omega)]; exact h2 k hk
  · rw [setL_H]
    by_cases e : k = l
    · subst e; rw [nup_s]; exact e1
    · rw [nup_n e, fr _ _ (by omega)]; exact h3 k hk
theorem stp_P {I J : MI} {c : Nat} {t : Tp} {s : St} {l x : Nat} (h : stp I c t s) (hn : tN t ≤ 6) (hl : l < tN t) (fr : Fr1 I J c l) (e1 : J c l = nI x) : stp J c t (putS s l x) := by
  obtain ⟨h0, h1, h2, h3, h4, h5⟩ := h
  refine ⟨fun k hk => ?_, fun k hk => ?_, fun k hk => ?_, fun k hk => ?_, (fr _ _ (by omega)).trans h4, (fr _ _ (by omega)).trans h5⟩
  · show J c k = nI (nup (sP s) l x k)
    by_cases e : k = l
    · subst e; rw [nup_s]; exact e1
    · rw [nup_n e, fr _ _ (by omega)]; exact h0 k hk
  · show J c (6 + k) = nI (nup (sD s) l (sD s l) k)
    rw [nup_self, fr _ _ (by omega)]; exact h1 k hk
  · show J c (12 + k) = nI (nup (sX s) l (sX s l) k)
    rw [nup_self, fr _ _ (by omega)]; exact h2 k hk
  · show J c (18 + k) = nI (nup (sH s) l (sH s l) k)
    rw [nup_self, fr _ _ (by omega)]; exact h3 k hk
set_option maxHeartbeats 4000000 in
theorem c_X9_weeps {r : Ev} {n : Nat} {I : MI} {Q : MQ2} (a : Nat) (hb : MdB n Q a) (t : Tp) (g : Nt) (ho : tdp I (a + 2) t g) (ht : okT t) (hG : okN g) (s : St) (hk : okS t s) (hs : stp I (a + 5) t s) (l : Nat) (hl : l < tN t) : CT r 1 yX9_weeps cX9_weeps (3, none) (0, 0) [.ref (evz r + a), .int (nI l)] n I Q (rv Q (fun J => FrS I J (fun x _ => x = a + 5) ∧ stp J (a + 5) t (tearS t s l))) := by
  refine ct_of (lv := [some (.ref (evz r + a)), some (.int (nI l)), none]) (by decide +kernel) rfl rfl rfl ?_
  obtain ⟨b0, bT, bO, bD, bB, bS, bP, bM, bN, bR, bH, qT, qO, qD, qB, qS, qP, qM, qN, qR, qH⟩ := id hb
  have hn6 := ht.1
  refine x_aload_0 dX9_weeps_0 ?_
  refine x_getr dX9_weeps_1 f_X9_22 (by assumption) qS ?_
  refine x_bip (c := 6) dX9_weeps_4 (by decide) ?_
  refine x_iload_1 dX9_weeps_6 ?_
  refine x_iaddN dX9_weeps_7 ?_
  refine x_ialdV dX9_weeps_8 (by assumption) rfl (by omega) (hs.2.1 l hl) ?_
  refine x_aload_0 dX9_weeps_9 ?_
  refine x_getr dX9_weeps_10 f_X9_13 (by assumption) qO ?_
  refine x_bip (c := 11) dX9_weeps_13 (by decide) ?_
  refine x_iload_1 dX9_weeps_15 ?_
  refine x_iaddN dX9_weeps_16 ?_
  refine x_ialdV dX9_weeps_17 (by assumption) rfl (by omega) (ho.2.2.2.2.2.2.1 l hl) ?_
  refine x_iaddN dX9_weeps_18 ?_
  refine x_istore_2 dX9_weeps_19 rfl rfl ?_
  have hDl := (hk.1 l hl).2.1
  have htl := (ht.2 l hl).2
  refine x_aload_0 dX9_weeps_20 ?_
  refine x_getr dX9_weeps_21 f_X9_22 (by assumption) qS ?_
  refine x_bip (c := 6) dX9_weeps_24 (by decide) ?_
  refine x_iload_1 dX9_weeps_26 ?_
  refine x_iaddN dX9_weeps_27 ?_
  refine x_iload_2 dX9_weeps_28 ?_
  refine x_aload_0 dX9_weeps_29 ?_
  refine x_iload_1 dX9_weeps_30 ?_
  refine x_V1i dX9_weeps_31 m_X9_118 (c_X9_holds a hb t g ho ht.1 l hl) (by assumption) (fun x31 I31 h31 => ?_)
  obtain ⟨rfl, rfl⟩ := h31
  refine x_icmp_leN dX9_weeps_34 (by omega) (by omega) (fun c34 => ?_) (fun c34 => ?_)
  · refine x_iload_2 dX9_weeps_45 ?_
    refine x_iastA dX9_weeps_46 (by assumption) rfl (by omega) (fun J46 fr46 e46 => ?_)
    exact x_vret (st := []) dX9_weeps_47 rfl (⟨rfl, rfl, fun x j hx => fr46 x j (by omega), stp_D hs ht.1 hl fr46 (e46.trans (by congr 1; omega))⟩)
  · refine x_aload_0 dX9_weeps_37 ?_
    refine x_iload_1 dX9_weeps_38 ?_
    refine x_V1i dX9_weeps_39 m_X9_118 (c_X9_holds a hb t g ho ht.1 l hl) (by assumption) (fun x39 I39 h39 => ?_)
    obtain ⟨rfl, rfl⟩ := h39
    refine x_goto dX9_weeps_42 ?_
    refine x_iastA dX9_weeps_46 (by assumption) rfl (by omega) (fun J46 fr46 e46 => ?_)
    exact x_vret (st := []) dX9_weeps_47 rfl (⟨rfl, rfl, fun x j hx => fr46 x j (by omega), stp_D hs ht.1 hl fr46 (e46.trans (by congr 1; omega))⟩)
