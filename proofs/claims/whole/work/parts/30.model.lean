/-! ===== DewLoomsModel: the object at a, its rows from a + 1 on ===== -/
def MdB (n : Nat) (Q : MQ2) (a : Nat) : Prop := Ob n 9 a ∧ Ar n 11 (a + 1) 200 ∧ Ar n 11 (a + 2) 41 ∧ Ar n 11 (a + 3) 41 ∧ Ar n 11 (a + 4) 6 ∧ Ar n 11 (a + 5) 26 ∧ Ar n 11 (a + 6) 208 ∧ Ar n 11 (a + 7) 52 ∧ Ar n 11 (a + 8) 6 ∧ Ar n 11 (a + 9) 6 ∧ Ar n 11 (a + 10) 26 ∧ Q a 0 = some (a + 1) ∧ Q a 2 = some (a + 2) ∧ Q a 3 = some (a + 3) ∧ Q a 4 = some (a + 4) ∧ Q a 5 = some (a + 5) ∧ Q a 6 = some (a + 6) ∧ Q a 8 = some (a + 7) ∧ Q a 10 = some (a + 8) ∧ Q a 13 = some (a + 9) ∧ Q a 14 = some (a + 10)
def tdp (I : MI) (c : Nat) (t : Tp) (g : Nt) : Prop := I c 0 = nI (tN t) ∧ I c 1 = nI (nH g) ∧ I c 2 = nI (nS g) ∧ I c 3 = nI (nB g) ∧ I c 4 = nI (nY g) ∧ (∀ l, l < tN t → I c (5 + l) = nI (tK t l)) ∧ (∀ l, l < tN t → I c (11 + l) = nI (tT t l)) ∧ (∀ h, h < nH g → I c (17 + h) = nI (nC g h)) ∧ ∀ h, h < nH g → I c (29 + h) = nI (nM g h)
def stp (I : MI) (c : Nat) (t : Tp) (s : St) : Prop := (∀ l, l < tN t → I c l = nI (sP s l)) ∧ (∀ l, l < tN t → I c (6 + l) = nI (sD s l)) ∧ (∀ l, l < tN t → I c (12 + l) = nI (sX s l)) ∧ (∀ l, l < tN t → I c (18 + l) = nI (sH s l)) ∧ I c 24 = nI (sO s) ∧ I c 25 = nI (sR s)
theorem tdp_fr {I J : MI} {c : Nat} {t : Tp} {g : Nt} (h : tdp I c t g) (e : ∀ j, J c j = I c j) : tdp J c t g := by
  obtain ⟨h0, h1, h2, h3, h4, h5, h6, h7, h8⟩ := h
  exact ⟨(e _).trans h0, (e _).trans h1, (e _).trans h2, (e _).trans h3, (e _).trans h4, fun l hl => (e _).trans (h5 l hl), fun l hl => (e _).trans (h6 l hl), fun l hl => (e _).trans (h7 l hl), fun l hl => (e _).trans (h8 l hl)⟩
theorem stp_to {I J : MI} {c c' : Nat} {t : Tp} {s : St} (h : stp I c t s) (hn : tN t ≤ 6) (e : ∀ j, j < 26 → J c' j = I c j) : stp J c' t s := by
  obtain ⟨h0, h1, h2, h3, h4, h5⟩ := h
  exact ⟨fun l hl => (e _ (by omega)).trans (h0 l hl), fun l hl => (e _ (by omega)).trans (h1 l hl), fun l hl => (e _ (by omega)).trans (h2 l hl), fun l hl => (e _ (by omega)).trans (h3 l hl), (e _ (by omega)).trans h4, (e _ (by omega)).trans h5⟩
theorem stp_cong {I : MI} {c : Nat} {t : Tp} {s u : St} (h : stp I c t s) (e : eqS (tN t) s u) : stp I c t u := by
  obtain ⟨h0, h1, h2, h3, h4, h5⟩ := h
  exact ⟨fun l hl => by rw [← (e.1 l hl).1]; exact h0 l hl, fun l hl => by rw [← (e.1 l hl).2.1]; exact h1 l hl, fun l hl => by rw [← (e.1 l hl).2.2.1]; exact h2 l hl, fun l hl => by rw [← (e.1 l hl).2.2.2]; exact h3 l hl, by rw [← e.2.1]; exact h4, by rw [← e.2.2]; exact h5⟩
def inB (x : Int32) (lo hi : Nat) : Prop := ∃ j : Nat, lo ≤ j ∧ j ≤ hi ∧ x = nI j
theorem inB_lo {x : Int32} {lo hi : Nat} (hhi : hi < 100000000) (h : x < nI lo) : ¬ inB x lo hi := by
  rintro ⟨j, h1, h2, rfl⟩
  exact absurd h (nI_nlt h1 (by omega))
theorem inB_hi {x : Int32} {lo hi : Nat} (hhi : hi < 100000000) (h : nI hi < x) : ¬ inB x lo hi := by
  rintro ⟨j, h1, h2, rfl⟩
  exact absurd h (nI_nlt h2 (by omega))
theorem bo01 {v : Int32} {A B : Prop} (h : (v = nI 1 ∧ A) ∨ (v = nI 0 ∧ B)) : narrow .boolean (.int v) = .int v := by
  rcases h with ⟨rfl, -⟩ | ⟨rfl, -⟩ <;> rfl
theorem inB_N {j lo hi : Nat} (hj : j < 100000000) (hhi : hi < 100000000) : inB (nI j) lo hi ↔ lo ≤ j ∧ j ≤ hi := by
  constructor
  · rintro ⟨k, h1, h2, e⟩
    have := (nI_eq (a := j) (b := k) (by omega) (by omega)).mp e
    omega
  · exact fun h => ⟨j, h.1, h.2, rfl⟩
theorem nI_nm1 {j : Nat} (h : j < 100000000) : ¬ nI j = -1 := by
  intro e
  have e2 := congrArg Int32.toInt e
  rw [nI_toInt (by omega)] at e2
  have e4 : (-1 : Int32).toInt = -1 := rfl
  omega
set_option maxHeartbeats 4000000 in
theorem c_X9_in {r : Ev} {n : Nat} {I : MI} {Q : MQ2} (x : Int32) (lo hi : Nat) (hlo : lo < 1000) (hhi : hi < 100000000) : CT r 0 yX9_in cX9_in (3, (some .boolean)) (0, 0) [.int x, .int (nI lo), .int (nI hi)] n I Q (ri Q (fun v J => J = I ∧ ((v = nI 1 ∧ inB x lo hi) ∨ (v = nI 0 ∧ ¬ inB x lo hi)))) := by
  refine ct_of (lv := [some (.int x), some (.int (nI lo)), some (.int (nI hi))]) (by decide +kernel) rfl rfl rfl ?_
  refine x_iload_0 dX9_in_0 ?_
  refine x_iload_1 dX9_in_1 ?_
  refine x_icmp_lt dX9_in_2 (fun c2 => ?_) (fun c2 => ?_)
  · refine x_const (c := 0) dX9_in_14 rfl ?_
    exact x_iret (st := []) dX9_in_15 rfl rfl (⟨_, rfl, rfl, rfl, by first | exact Or.inl ⟨rfl, inR hlo hhi c2 c7⟩ | exact Or.inr ⟨rfl, inB_lo hhi c2⟩ | exact Or.inr ⟨rfl, inB_hi hhi c7⟩⟩)
  · refine x_iload_0 dX9_in_5 ?_
    refine x_iload_2 dX9_in_6 ?_
    refine x_icmp_gt dX9_in_7 (fun c7 => ?_) (fun c7 => ?_)
    · refine x_const (c := 0) dX9_in_14 rfl ?_
      exact x_iret (st := []) dX9_in_15 rfl rfl (⟨_, rfl, rfl, rfl, by first | exact Or.inl ⟨rfl, inR hlo hhi c2 c7⟩ | exact Or.inr ⟨rfl, inB_lo hhi c2⟩ | exact Or.inr ⟨rfl, inB_hi hhi c7⟩⟩)
    · refine x_const (c := 1) dX9_in_10 rfl ?_
      refine x_goto dX9_in_11 ?_
      exact x_iret (st := []) dX9_in_15 rfl rfl (⟨_, rfl, rfl, rfl, by first | exact Or.inl ⟨rfl, inR hlo hhi c2 c7⟩ | exact Or.inr ⟨rfl, inB_lo hhi c2⟩ | exact Or.inr ⟨rfl, inB_hi hhi c7⟩⟩)
set_option maxHeartbeats 4000000 in
theorem c_X9_isLoom {r : Ev} {n : Nat} {I : MI} {Q : MQ2} (a : Nat) (hb : MdB n Q a) (N : Nat) (x : Int32) (hN : I (a + 2) 0 = nI N) (h1 : 1 ≤ N) (h6 : N ≤ 6) : CT r 1 yX9_isLoom cX9_isLoom (2, (some .boolean)) (0, 0) [.ref (evz r + a), .int x] n I Q (ri Q (fun v J => J = I ∧ ((v = nI 1 ∧ inB x 0 (N - 1)) ∨ (v = nI 0 ∧ ¬ inB x 0 (N - 1))))) := by
  refine ct_of (lv := [some (.ref (evz r + a)), some (.int x)]) (by decide +kernel) rfl rfl rfl ?_
  obtain ⟨b0, bT, bO, bD, bB, bS, bP, bM, bN, bR, bH, qT, qO, qD, qB, qS, qP, qM, qN, qR, qH⟩ := id hb
  refine x_iload_1 dX9_isLoom_0 ?_
  refine x_const (c := 0) dX9_isLoom_1 rfl ?_
  refine x_aload_0 dX9_isLoom_2 ?_
  refine x_getr dX9_isLoom_3 f_X9_13 (by assumption) qO ?_
  refine x_const (c := 0) dX9_isLoom_6 rfl ?_
  refine x_ialdV dX9_isLoom_7 (by assumption) rfl (by omega) hN ?_
  refine x_const (c := 1) dX9_isLoom_8 rfl ?_
  refine x_isubN dX9_isLoom_9 (by omega) ?_
  refine x_S3i dX9_isLoom_10 m_X9_54 (c_X9_in x 0 (N - 1) (by omega) (by omega)) (fun x10 I10 h10 => ?_)
  obtain ⟨rfl, h10⟩ := h10
  exact x_iret (st := []) dX9_isLoom_13 rfl (bo01 h10) (⟨_, rfl, rfl, rfl, h10⟩)
def lm (T : Nat → Nat) (m k : Nat) : Int32 := if k < m then nI (T k) else -1
theorem m1_lt {lo : Nat} (h : lo < 100000000) : (-1 : Int32) < nI lo := Int32.lt_iff_toInt_lt.mpr (by rw [nI_toInt (by omega)]; have e4 : (-1 : Int32).toInt = -1 := rfl; omega)
theorem lm_fig {T : Nat → Nat} {m k : Nat} (hT : ∀ k, k < m → T k < 128) : inB (lm T m k) 48 57 ↔ fig (ltr T m k) := by
  unfold lm ltr
  by_cases h : k < m
  · rw [if_pos h, if_pos h]
    exact inB_N (by have := hT k h; omega) (by omega)
  · rw [if_neg h, if_neg h]
    exact ⟨fun z => absurd z (inB_lo (by omega) (m1_lt (by omega))), fun z => absurd z.1 (by decide)⟩
theorem lm_ltr {T : Nat → Nat} {m k : Nat} (h : fig (ltr T m k)) : lm T m k = nI (ltr T m k) := by
  have hk : k < m := ltr_in (fun e => by rw [e] at h; exact absurd h.1 (by decide))
  unfold lm ltr
  rw [if_pos hk, if_pos hk]
theorem lm_eq {T : Nat → Nat} {m k e : Nat} (hT : ∀ k, k < m → T k < 128) (he : 1 ≤ e) (he2 : e < 1000) : lm T m k = nI e ↔ ltr T m k = e := by
  unfold lm ltr
  by_cases h : k < m
  · rw [if_pos h, if_pos h]
    exact nI_eq (by have := hT k h; omega) (by omega)
  · rw [if_neg h, if_neg h]
    exact ⟨fun z => absurd z.symm (nI_nm1 (by omega)), fun z => by omega⟩
def txm (I : MI) (a m : Nat) (T : Nat → Nat) : Prop := I a 1 = nI m ∧ ∀ k, k < m → I (a + 1) k = nI (T k)
set_option maxHeartbeats 4000000 in
theorem c_X9_letterAt {r : Ev} {n : Nat} {I : MI} {Q : MQ2} (a : Nat) (hb : MdB n Q a) (m : Nat) (T : Nat → Nat) (ht : txm I a m T) (hm : m ≤ 200) (hT : ∀ k, k < m → T k < 128) (k : Nat) (hk : k < 100000) : CT r 0 yX9_letterAt cX9_letterAt (2, (some .int)) (0, 0) [.ref (evz r + a), .int (nI k)] n I Q (ri Q (fun v J => J = I ∧ v = lm T m k)) := by
  refine ct_of (lv := [some (.ref (evz r + a)), some (.int (nI k))]) (by decide +kernel) rfl rfl rfl ?_
  obtain ⟨b0, bT, bO, bD, bB, bS, bP, bM, bN, bR, bH, qT, qO, qD, qB, qS, qP, qM, qN, qR, qH⟩ := id hb
  refine x_iload_1 dX9_letterAt_0 ?_
  refine x_aload_0 dX9_letterAt_1 ?_
  refine x_getV dX9_letterAt_2 f_X9_58 (by assumption) ht.1 ?_
  refine x_icmp_geN dX9_letterAt_5 (by omega) (by omega) (fun c5 => ?_) (fun c5 => ?_)
  · refine x_iconst (v := -1) dX9_letterAt_17 rfl ?_
    exact x_iret (st := []) dX9_letterAt_18 rfl rfl (⟨_, rfl, rfl, rfl, by unfold lm; first | exact (if_pos (by omega)).symm | exact (if_neg (by omega)).symm⟩)
  · refine x_aload_0 dX9_letterAt_8 ?_
    refine x_getr dX9_letterAt_9 f_X9_7 (by assumption) qT ?_
    refine x_iload_1 dX9_letterAt_12 ?_
    refine x_ialdV dX9_letterAt_13 (by assumption) rfl (by omega) (ht.2 k (by omega)) ?_
    refine x_goto dX9_letterAt_14 ?_
    exact x_iret (st := []) dX9_letterAt_18 rfl rfl (⟨_, rfl, rfl, rfl, by unfold lm; first | exact (if_pos (by omega)).symm | exact (if_neg (by omega)).symm⟩)
set_option maxHeartbeats 4000000 in
theorem c_X9_isFigure {r : Ev} {n : Nat} {I : MI} {Q : MQ2} (x : Int32) : CT r 1 yX9_isFigure cX9_isFigure (1, (some .boolean)) (0, 0) [.int x] n I Q (ri Q (fun v J => J = I ∧ ((v = nI 1 ∧ inB x 48 57) ∨ (v = nI 0 ∧ ¬ inB x 48 57)))) := by
  refine ct_of (lv := [some (.int x)]) (by decide +kernel) rfl rfl rfl ?_
  refine x_iload_0 dX9_isFigure_0 ?_
  refine x_bip (c := 48) dX9_isFigure_1 (by decide) ?_
  refine x_bip (c := 57) dX9_isFigure_3 (by decide) ?_
  refine x_S3i dX9_isFigure_5 m_X9_54 (c_X9_in x 48 57 (by omega) (by omega)) (fun x5 I5 h5 => ?_)
  obtain ⟨rfl, h5⟩ := h5
  exact x_iret (st := []) dX9_isFigure_8 rfl (bo01 h5) (⟨_, rfl, rfl, rfl, h5⟩)
theorem txm_at {I J : MI} {a m : Nat} {T : Nat → Nat} (h : txm I a m T) (fr : Fr1 I J a 12) : txm J a m T := ⟨(fr _ _ (by omega)).trans h.1, fun k hk => (fr _ _ (by omega)).trans (h.2 k hk)⟩
/-- a number read so, of lo to hi, with the sign e behind it -/
def okv (T : Nat → Nat) (m p lo hi e : Nat) : Prop := okn T m p e ∧ lo ≤ nvl T m p ∧ nvl T m p ≤ hi
set_option maxHeartbeats 4000000 in
theorem l_X9_number82 {r : Ev} {n : Nat} {Q : MQ2} {F : Post} {I : MI} (a : Nat) (hb : MdB n Q a) (m : Nat) (T : Nat → Nat) (ht : txm I a m T) (hm : m ≤ 200) (hT : ∀ k, k < m → T k < 128) (p q v lo hi e : Nat) (hI : I a 12 = nI q) (hq : q < 1000) (hv : v < 1000) (hlo : lo < 1000) (hhi : hi < 1000) (he : 1 ≤ e) (he2 : e < 1000) (hF1 : ltr T m q = e → lo ≤ v → v ≤ hi → ∀ J, Fr1 I J a 12 → J a 12 = nI (q + 1) → F (some (.int (nI v))) J Q) (hF0 : ¬ (ltr T m q = e ∧ lo ≤ v ∧ v ≤ hi) → ∀ J, Fr1 I J a 12 → F (some (.int (-1))) J Q) : X r 2 yX9_number cX9_number (6, (some .int)) (0, 0) 82 [some (.ref (evz r + a)), some (.int (nI lo)), some (.int (nI hi)), some (.int (nI e)), some (.int (nI v)), none] [] n I Q F := by
  obtain ⟨b0, bT, bO, bD, bB, bS, bP, bM, bN, bR, bH, qT, qO, qD, qB, qS, qP, qM, qN, qR, qH⟩ := id hb
  refine x_aload_0 dX9_number_82 ?_
  refine x_aload_0 dX9_number_83 ?_
  refine x_getV dX9_number_84 f_X9_62 (by assumption) hI ?_
  refine x_V1i dX9_number_87 m_X9_65 (c_X9_letterAt a hb m T (by assumption) hm hT q (by omega)) (by assumption) (fun x87 I87 h87 => ?_)
  obtain ⟨rfl, rfl⟩ := h87
  refine x_iload_3 dX9_number_90 ?_
  refine x_icmp_ne dX9_number_91 (fun c91 => ?_) (fun c91 => ?_)
  · have c91 : ¬ ltr T m q = e := fun z => c91 ((lm_eq hT he he2).mpr z)
    refine x_const (c := 0) dX9_number_108 rfl ?_
    refine x_istore_5 dX9_number_109 rfl rfl ?_
    refine x_aload_0 dX9_number_111 ?_
    first | refine x_dup_ref dX9_number_112 ?_ | refine x_dup_int dX9_number_112 ?_
    refine x_getV dX9_number_113 f_X9_62 (by assumption) hI ?_
    refine x_const (c := 1) dX9_number_116 rfl ?_
    refine x_iaddN dX9_number_117 ?_
    refine x_putA dX9_number_118 f_X9_62 (by assumption) (fun J118 fr118 e118 => ?_)
    refine x_iload_5 dX9_number_121 ?_
    refine x_if_eqN dX9_number_123 (by omega) (fun c123 => ?_) (fun c123 => ?_)
    · refine x_iconst (v := -1) dX9_number_131 rfl ?_
      exact x_iret (st := []) dX9_number_132 rfl rfl (by first | exact hF1 (by assumption) (by omega) (by omega) _ fr118 e118 | exact hF0 (by first | exact fun z => c91 z.1 | exact fun z => h98 z.2) _ fr118)
    · exfalso; omega
  · have c91 : ltr T m q = e := (lm_eq hT he he2).mp c91
    refine x_iload_4 dX9_number_94 ?_
    refine x_iload_1 dX9_number_96 ?_
    refine x_iload_2 dX9_number_97 ?_
    refine x_S3i dX9_number_98 m_X9_54 (c_X9_in (nI v) lo hi (by omega) (by omega)) (fun x98 I98 h98 => ?_)
    obtain ⟨rfl, ⟨rfl, h98⟩ | ⟨rfl, h98⟩⟩ := h98
    · have h98 := (inB_N (by omega) (by omega)).mp h98
      refine x_if_eqN dX9_number_101 (by omega) (fun c101 => ?_) (fun c101 => ?_)
      · exfalso; omega
      · refine x_const (c := 1) dX9_number_104 rfl ?_
        refine x_goto dX9_number_105 ?_
        refine x_istore_5 dX9_number_109 rfl rfl ?_
        refine x_aload_0 dX9_number_111 ?_
        first | refine x_dup_ref dX9_number_112 ?_ | refine x_dup_int dX9_number_112 ?_
        refine x_getV dX9_number_113 f_X9_62 (by assumption) hI ?_
        refine x_const (c := 1) dX9_number_116 rfl ?_
        refine x_iaddN dX9_number_117 ?_
        refine x_putA dX9_number_118 f_X9_62 (by assumption) (fun J118 fr118 e118 => ?_)
        refine x_iload_5 dX9_number_121 ?_
        refine x_if_eqN dX9_number_123 (by omega) (fun c123 => ?_) (fun c123 => ?_)
        · exfalso; omega
        · refine x_iload_4 dX9_number_126 ?_
          refine x_goto dX9_number_128 ?_
          exact x_iret (st := []) dX9_number_132 rfl rfl (by first | exact hF1 (by assumption) (by omega) (by omega) _ fr118 e118 | exact hF0 (by first | exact fun z => c91 z.1 | exact fun z => h98 z.2) _ fr118)
    · have h98 : ¬ (lo ≤ v ∧ v ≤ hi) := fun z => h98 ((inB_N (by omega) (by omega)).mpr z)
      refine x_if_eqN dX9_number_101 (by omega) (fun c101 => ?_) (fun c101 => ?_)
      · refine x_const (c := 0) dX9_number_108 rfl ?_
        refine x_istore_5 dX9_number_109 rfl rfl ?_
        refine x_aload_0 dX9_number_111 ?_
        first | refine x_dup_ref dX9_number_112 ?_ | refine x_dup_int dX9_number_112 ?_
        refine x_getV dX9_number_113 f_X9_62 (by assumption) hI ?_
        refine x_const (c := 1) dX9_number_116 rfl ?_
        refine x_iaddN dX9_number_117 ?_
        refine x_putA dX9_number_118 f_X9_62 (by assumption) (fun J118 fr118 e118 => ?_)
        refine x_iload_5 dX9_number_121 ?_
        refine x_if_eqN dX9_number_123 (by omega) (fun c123 => ?_) (fun c123 => ?_)
        · refine x_iconst (v := -1) dX9_number_131 rfl ?_
          exact x_iret (st := []) dX9_number_132 rfl rfl (by first | exact hF1 (by assumption) (by omega) (by omega) _ fr118 e118 | exact hF0 (by first | exact fun z => c91 z.1 | exact fun z => h98 z.2) _ fr118)
        · exfalso; omega
      · exfalso; omega
theorem nvl_2 {T : Nat → Nat} {m p : Nat} (h : fig (ltr T m (p + 1))) : nvl T m p = 10 * (ltr T m p - 48) + ltr T m (p + 1) - 48 := by
  unfold fig at h
  unfold nvl
  rw [if_pos h]
  omega
theorem nvl_1 {T : Nat → Nat} {m p : Nat} (h : ¬ fig (ltr T m (p + 1))) : nvl T m p = ltr T m p - 48 := if_neg h
theorem npl_2 {T : Nat → Nat} {m p : Nat} (h : fig (ltr T m (p + 1))) : npl T m p = p + 2 := if_pos h
theorem npl_1 {T : Nat → Nat} {m p : Nat} (h : ¬ fig (ltr T m (p + 1))) : npl T m p = p + 1 := if_neg h
set_option maxHeartbeats 4000000 in
theorem c_X9_number {r : Ev} {n : Nat} {I : MI} {Q : MQ2} (a : Nat) (hb : MdB n Q a) (m : Nat) (T : Nat → Nat) (ht : txm I a m T) (hm : m ≤ 200) (hT : ∀ k, k < m → T k < 128) (p lo hi e : Nat) (hI : I a 12 = nI p) (hp : p < 900) (hlo : lo < 1000) (hhi : hi < 1000) (he : 1 ≤ e) (he2 : e < 1000) : CT r 2 yX9_number cX9_number (6, (some .int)) (0, 0) [.ref (evz r + a), .int (nI lo), .int (nI hi), .int (nI e)] n I Q (ri Q (fun v J => Fr1 I J a 12 ∧ ((v = nI (nvl T m p) ∧ okv T m p lo hi e ∧ J a 12 = nI (npl T m p + 1)) ∨ (v = -1 ∧ ¬ okv T m p lo hi e)))) := by
  refine ct_of (lv := [some (.ref (evz r + a)), some (.int (nI lo)), some (.int (nI hi)), some (.int (nI e)), none, none]) (by decide +kernel) rfl rfl rfl ?_
  obtain ⟨b0, bT, bO, bD, bB, bS, bP, bM, bN, bR, bH, qT, qO, qD, qB, qS, qP, qM, qN, qR, qH⟩ := id hb
  refine x_aload_0 dX9_number_0 ?_
  refine x_aload_0 dX9_number_1 ?_
  refine x_getV dX9_number_2 f_X9_62 (by assumption) hI ?_
  refine x_V1i dX9_number_5 m_X9_65 (c_X9_letterAt a hb m T (by assumption) hm hT p (by omega)) (by assumption) (fun x5 I5 h5 => ?_)
  obtain ⟨rfl, rfl⟩ := h5
  refine x_S1i dX9_number_8 m_X9_69 (c_X9_isFigure (lm T m p)) (fun x8 I8 h8 => ?_)
  obtain ⟨rfl, ⟨rfl, h8⟩ | ⟨rfl, h8⟩⟩ := h8
  · have f8 := (lm_fig hT).mp h8
    have v8 := f8.1
    have w8 := f8.2
    refine x_if_neN dX9_number_11 (by omega) (fun c11 => ?_) (fun c11 => ?_)
    · refine x_aload_0 dX9_number_16 ?_
      refine x_aload_0 dX9_number_17 ?_
      refine x_getV dX9_number_18 f_X9_62 (by assumption) hI ?_
      refine x_V1i dX9_number_21 m_X9_65 (c_X9_letterAt a hb m T (by assumption) hm hT p (by omega)) (by assumption) (fun x21 I21 h21 => ?_)
      obtain ⟨rfl, rfl⟩ := h21
      rw [lm_ltr f8]
      refine x_bip (c := 48) dX9_number_24 (by decide) ?_
      refine x_isubN dX9_number_26 (by omega) ?_
      refine x_istore_4 dX9_number_27 rfl rfl ?_
      refine x_aload_0 dX9_number_29 ?_
      first | refine x_dup_ref dX9_number_30 ?_ | refine x_dup_int dX9_number_30 ?_
      refine x_getV dX9_number_31 f_X9_62 (by assumption) hI ?_
      refine x_const (c := 1) dX9_number_34 rfl ?_
      refine x_iaddN dX9_number_35 ?_
      refine x_putA dX9_number_36 f_X9_62 (by assumption) (fun J36 fr36 e36 => ?_)
      have ht := txm_at ht fr36
      refine x_aload_0 dX9_number_39 ?_
      refine x_aload_0 dX9_number_40 ?_
      refine x_getV dX9_number_41 f_X9_62 (by assumption) e36 ?_
      refine x_V1i dX9_number_44 m_X9_65 (c_X9_letterAt a hb m T (by assumption) hm hT (p + 1) (by omega)) (by assumption) (fun x44 I44 h44 => ?_)
      obtain ⟨rfl, rfl⟩ := h44
      refine x_S1i dX9_number_47 m_X9_69 (c_X9_isFigure (lm T m (p + 1))) (fun x47 I47 h47 => ?_)
      obtain ⟨rfl, ⟨rfl, h47⟩ | ⟨rfl, h47⟩⟩ := h47
      · have f47 := (lm_fig hT).mp h47
        have v47 := f47.1
        have w47 := f47.2
        refine x_if_eqN dX9_number_50 (by omega) (fun c50 => ?_) (fun c50 => ?_)
        · exfalso; omega
        · refine x_bip (c := 10) dX9_number_53 (by decide) ?_
          refine x_iload_4 dX9_number_55 ?_
          refine x_imulN dX9_number_57 ?_
          refine x_aload_0 dX9_number_58 ?_
          refine x_aload_0 dX9_number_59 ?_
          refine x_getV dX9_number_60 f_X9_62 (by assumption) e36 ?_
          refine x_V1i dX9_number_63 m_X9_65 (c_X9_letterAt a hb m T (by assumption) hm hT (p + 1) (by omega)) (by assumption) (fun x63 I63 h63 => ?_)
          obtain ⟨rfl, rfl⟩ := h63
          rw [lm_ltr f47]
          refine x_iaddN dX9_number_66 ?_
          refine x_bip (c := 48) dX9_number_67 (by decide) ?_
          refine x_isubN dX9_number_69 (by omega) ?_
          refine x_istore_4 dX9_number_70 rfl rfl ?_
          refine x_aload_0 dX9_number_72 ?_
          first | refine x_dup_ref dX9_number_73 ?_ | refine x_dup_int dX9_number_73 ?_
          refine x_getV dX9_number_74 f_X9_62 (by assumption) e36 ?_
          refine x_const (c := 1) dX9_number_77 rfl ?_
          refine x_iaddN dX9_number_78 ?_
          refine x_putA dX9_number_79 f_X9_62 (by assumption) (fun J79 fr79 e79 => ?_)
          exact l_X9_number82 a hb m T (txm_at ht fr79) hm hT p (p + 2) _ lo hi e e79 (by omega) (by omega) hlo hhi he he2 (fun q1 q2 q3 J q4 q5 => ⟨_, rfl, rfl, fun b k hbk => (q4 b k hbk).trans ((fr79 b k hbk).trans (fr36 b k hbk)), Or.inl ⟨by rw [nvl_2 f47], ⟨⟨f8, by rw [npl_2 f47]; exact q1⟩, by rw [nvl_2 f47]; omega, by rw [nvl_2 f47]; omega⟩, by rw [npl_2 f47]; exact q5⟩⟩) (fun q1 J q4 => ⟨_, rfl, rfl, fun b k hbk => (q4 b k hbk).trans ((fr79 b k hbk).trans (fr36 b k hbk)), Or.inr ⟨rfl, fun z => q1 (by obtain ⟨⟨z1, z2⟩, z3, z4⟩ := z; rw [nvl_2 f47] at z3 z4; rw [npl_2 f47] at z2; exact ⟨z2, by omega, by omega⟩)⟩⟩)
      · have f47 : ¬ fig (ltr T m (p + 1)) := fun z => h47 ((lm_fig hT).mpr z)
        refine x_if_eqN dX9_number_50 (by omega) (fun c50 => ?_) (fun c50 => ?_)
        · exact l_X9_number82 a hb m T ht hm hT p (p + 1) _ lo hi e e36 (by omega) (by omega) hlo hhi he he2 (fun q1 q2 q3 J q4 q5 => ⟨_, rfl, rfl, fun b k hbk => (q4 b k hbk).trans (fr36 b k hbk), Or.inl ⟨by rw [nvl_1 f47], ⟨⟨f8, by rw [npl_1 f47]; exact q1⟩, by rw [nvl_1 f47]; omega, by rw [nvl_1 f47]; omega⟩, by rw [npl_1 f47]; exact q5⟩⟩) (fun q1 J q4 => ⟨_, rfl, rfl, fun b k hbk => (q4 b k hbk).trans (fr36 b k hbk), Or.inr ⟨rfl, fun z => q1 (by obtain ⟨⟨z1, z2⟩, z3, z4⟩ := z; rw [nvl_1 f47] at z3 z4; rw [npl_1 f47] at z2; exact ⟨z2, by omega, by omega⟩)⟩⟩)
        · exfalso; omega
    · exfalso; omega
  · have f8 : ¬ fig (ltr T m p) := fun z => h8 ((lm_fig hT).mpr z)
    refine x_if_neN dX9_number_11 (by omega) (fun c11 => ?_) (fun c11 => ?_)
    · exfalso; omega
    · refine x_iconst (v := -1) dX9_number_14 rfl ?_
      exact x_iret (st := []) dX9_number_15 rfl rfl (⟨_, rfl, rfl, fun _ _ _ => rfl, Or.inr ⟨rfl, fun z => f8 z.1.1⟩⟩)
