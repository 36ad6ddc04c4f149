set_option maxHeartbeats 4000000 in
theorem c_isOutN {r : Ev} {n : Nat} {I : MI} {Q : MQ2} (x lo hi : Nat) (hx : x < 100000000) (hlo : lo < 100000000) (hhi : hi < 100000000) : CT r 0 yX8_isOutside cX8_isOutside (3, (some .boolean)) (0, 0) [.int (nI x), .int (nI lo), .int (nI hi)] n I Q (ri Q (fun v J => J = I ∧ ((v = nI 1 ∧ (x < lo ∨ hi < x)) ∨ (v = nI 0 ∧ lo ≤ x ∧ x ≤ hi)))) := by
  refine ct_of (lv := [some (.int (nI x)), some (.int (nI lo)), some (.int (nI hi))]) (by decide +kernel) rfl rfl rfl ?_
  refine x_iload_0 dX8_isOutside_0 ?_
  refine x_iload_1 dX8_isOutside_1 ?_
  refine x_icmp_ltN dX8_isOutside_2 (by omega) (by omega) (fun c2 => ?_) (fun c2 => ?_)
  · refine x_const (c := 1) dX8_isOutside_10 rfl ?_
    refine x_goto dX8_isOutside_11 ?_
    exact x_iret (st := []) dX8_isOutside_15 rfl rfl (⟨_, rfl, rfl, rfl, by first | exact Or.inl ⟨rfl, by omega⟩ | exact Or.inr ⟨rfl, by omega⟩⟩)
  · refine x_iload_0 dX8_isOutside_5 ?_
    refine x_iload_2 dX8_isOutside_6 ?_
    refine x_icmp_leN dX8_isOutside_7 (by omega) (by omega) (fun c7 => ?_) (fun c7 => ?_)
    · refine x_const (c := 0) dX8_isOutside_14 rfl ?_
      exact x_iret (st := []) dX8_isOutside_15 rfl rfl (⟨_, rfl, rfl, rfl, by first | exact Or.inl ⟨rfl, by omega⟩ | exact Or.inr ⟨rfl, by omega⟩⟩)
    · refine x_const (c := 1) dX8_isOutside_10 rfl ?_
      refine x_goto dX8_isOutside_11 ?_
      exact x_iret (st := []) dX8_isOutside_15 rfl rfl (⟨_, rfl, rfl, rfl, by first | exact Or.inl ⟨rfl, by omega⟩ | exact Or.inr ⟨rfl, by omega⟩⟩)
set_option maxHeartbeats 4000000 in
theorem c_isNoPlN {r : Ev} {n : Nat} {I : MI} {Q : MQ2} (x : Nat) (hx : x < 100000000) : CT r 1 yX8_isNoPlace cX8_isNoPlace (1, (some .boolean)) (0, 0) [.int (nI x)] n I Q (ri Q (fun v J => J = I ∧ ((v = nI 1 ∧ 9 < x) ∨ (v = nI 0 ∧ x ≤ 9)))) := by
  refine ct_of (lv := [some (.int (nI x))]) (by decide +kernel) rfl rfl rfl ?_
  refine x_iload_0 dX8_isNoPlace_0 ?_
  refine x_const (c := 0) dX8_isNoPlace_1 rfl ?_
  refine x_bip (c := 9) dX8_isNoPlace_2 (by decide) ?_
  refine x_S3i dX8_isNoPlace_4 m_X8_91 (c_isOutN x 0 9 hx (by omega) (by omega)) (fun x4 I4 h4 => ?_)
  obtain ⟨rfl, ⟨rfl, h4⟩ | ⟨rfl, h4⟩⟩ := h4
  · exact x_iret (st := []) dX8_isNoPlace_7 rfl rfl (⟨_, rfl, rfl, rfl, by first | exact Or.inl ⟨rfl, by omega⟩ | exact Or.inr ⟨rfl, by omega⟩⟩)
  · exact x_iret (st := []) dX8_isNoPlace_7 rfl rfl (⟨_, rfl, rfl, rfl, by first | exact Or.inl ⟨rfl, by omega⟩ | exact Or.inr ⟨rfl, by omega⟩⟩)
set_option maxHeartbeats 4000000 in
theorem c_X5_clear {r : Ev} {n : Nat} {I : MI} {Q : MQ2} (b : Nat) (ho : Ob n 5 b) : CT r 0 yX5_clear cX5_clear (1, none) (0, 0) [.ref (evz r + b)] n I Q (rv Q (fun J => FrS I J (fun x j => x = b ∧ 2 ≤ j ∧ j ≤ 4) ∧ J b 2 = nI 0 ∧ J b 3 = nI 0 ∧ J b 4 = nI 0)) := by
  refine ct_of (lv := [some (.ref (evz r + b))]) (by decide +kernel) rfl rfl rfl ?_
  refine x_aload_0 dX5_clear_0 ?_
  refine x_const (c := 0) dX5_clear_1 rfl ?_
  refine x_putA dX5_clear_2 f_X5_22 (by assumption) (fun J2 fr2 e2 => ?_)
  refine x_aload_0 dX5_clear_5 ?_
  refine x_const (c := 0) dX5_clear_6 rfl ?_
  refine x_putA dX5_clear_7 f_X5_26 (by assumption) (fun J7 fr7 e7 => ?_)
  have e2_p7 := (fr7 (b) (2) (by omega)).trans e2
  refine x_aload_0 dX5_clear_10 ?_
  refine x_const (c := 0) dX5_clear_11 rfl ?_
  refine x_putA dX5_clear_12 f_X5_29 (by assumption) (fun J12 fr12 e12 => ?_)
  have e2_p12 := (fr12 (b) (2) (by omega)).trans e2_p7
  have e7_p12 := (fr12 (b) (3) (by omega)).trans e7
  exact x_vret (st := []) dX5_clear_15 rfl (⟨rfl, rfl, fun x j hx => (fr12 x j (by omega)).trans ((fr7 x j (by omega)).trans (fr2 x j (by omega))), by assumption, by assumption, by assumption⟩)
set_option maxHeartbeats 4000000 in
theorem l_X5_nextAbove {r : Ev} {n : Nat} {Q : MQ2} {F : Post} (b : Nat) (t : Tp) (s : St) (hb : SlB n Q b) {I : MI} (hs : slp I b t s) (hn : tN t ≤ 6) (hrk : rkp I b t s) (hd : dst (tN t) (sP s)) (l : Nat) (hl : l < tN t) (hF1 : rankO (tN t) (sP s) l = 0 → F (some (.int (-4))) I Q) (hF2 : 0 < rankO (tN t) (sP s) l → F (some (.int (nI (ordO (tN t) (sP s) (rankO (tN t) (sP s) l - 1))))) I Q) : ∀ (k : Nat) (i : Nat) (av : Int32), i ≤ tN t → i + k = tN t + 1 → (∀ j, j < i → ordO (tN t) (sP s) j ≠ l) → ((i = 0 ∧ av = -4) ∨ (0 < i ∧ av = nI (ordO (tN t) (sP s) (i - 1)))) → X r 0 yX5_nextAbove cX5_nextAbove (4, (some .int)) (0, 0) 5 [some (.ref (evz r + b)), some (.int (nI l)), some (.int av), some (.int (nI i))] [] n I Q F := by
  intro k
  induction k with
  | zero => intros; omega
  | succ k ih =>
    intro i av hi0 hi hne hav
    obtain ⟨h1, h2, h3, h4, h5, h6, h7⟩ := id hb
    obtain ⟨g1, g2, g3, g4⟩ := id hs
    refine x_iload_3 dX5_nextAbove_5 ?_
    refine x_aload_0 dX5_nextAbove_6 ?_
    refine x_getV dX5_nextAbove_7 f_X5_22 h1 g1 ?_
    refine x_icmp_geN dX5_nextAbove_10 (by omega) (by omega) (fun c10 => ?_) (fun c10 => ?_)
    · have h9 := hne _ (show rankO (tN t) (sP s) l < i by have := rankO_lt (p := sP s) hl; omega)
      exact absurd (ordO_rank hd hl) h9
      
    · have ho := ordO_ok hd (show i < tN t by omega)
      refine x_iload_3 dX5_nextAbove_13 ?_
      refine x_aload_0 dX5_nextAbove_14 ?_
      refine x_getr dX5_nextAbove_15 f_X5_17 h1 h6 ?_
      refine x_alen dX5_nextAbove_18 h3 (by decide) ?_
      refine x_icmp_geN dX5_nextAbove_19 (by omega) (by omega) (fun c19 => ?_) (fun c19 => ?_)
      · exfalso; omega
      · refine x_aload_0 dX5_nextAbove_22 ?_
        refine x_getr dX5_nextAbove_23 f_X5_17 h1 h6 ?_
        refine x_iload_3 dX5_nextAbove_26 ?_
        refine x_ialdV dX5_nextAbove_27 h3 rfl (by omega) (hrk i (by omega)) ?_
        refine x_iload_1 dX5_nextAbove_28 ?_
        refine x_icmp_neN dX5_nextAbove_29 (by omega) (by omega) (fun c29 => ?_) (fun c29 => ?_)
        · refine x_aload_0 dX5_nextAbove_34 ?_
          refine x_getr dX5_nextAbove_35 f_X5_17 h1 h6 ?_
          refine x_iload_3 dX5_nextAbove_38 ?_
          refine x_ialdV dX5_nextAbove_39 h3 rfl (by omega) (hrk i (by omega)) ?_
          refine x_istore_2 dX5_nextAbove_40 rfl rfl ?_
          refine x_iinc_3 dX5_nextAbove_41 (iinc1 _) rfl rfl ?_
          refine x_goto dX5_nextAbove_44 ?_
          exact ih (i + 1) _ (by omega) (by omega) (fun j hj => (Nat.lt_or_ge j i).elim (hne j) (fun z => by obtain rfl : j = i := (by omega); omega)) (Or.inr ⟨Nat.succ_pos i, rfl⟩)
        · have he : rankO (tN t) (sP s) l = i := by rw [← show ordO (tN t) (sP s) i = l by omega]; exact ho.2
          have hres : F (some (.int av)) I Q := by
            rcases hav with ⟨e0, rfl⟩ | ⟨e0, rfl⟩
            · exact hF1 (by omega)
            · have h8 := hF2 (by omega)
              rw [he] at h8
              exact h8
          refine x_iload_2 dX5_nextAbove_32 ?_
          exact x_iret (st := []) dX5_nextAbove_33 rfl rfl (hres)
set_option maxHeartbeats 4000000 in
theorem c_X5_nextAbove {r : Ev} {n : Nat} {I : MI} {Q : MQ2} (b : Nat) (t : Tp) (s : St) (hb : SlB n Q b) (hs : slp I b t s) (hn : tN t ≤ 6) (hrk : rkp I b t s) (hd : dst (tN t) (sP s)) (l : Nat) (hl : l < tN t) : CT r 0 yX5_nextAbove cX5_nextAbove (4, (some .int)) (0, 0) [.ref (evz r + b), .int (nI l)] n I Q (ri Q (fun v J => J = I ∧ ((rankO (tN t) (sP s) l = 0 ∧ v = -4) ∨ (0 < rankO (tN t) (sP s) l ∧ v = nI (ordO (tN t) (sP s) (rankO (tN t) (sP s) l - 1)))))) := by
  refine ct_of (lv := [some (.ref (evz r + b)), some (.int (nI l)), none, none]) (by decide +kernel) rfl rfl rfl ?_
  refine x_bipush (v := -4) dX5_nextAbove_0 (by decide) ?_
  
  refine x_istore_2 dX5_nextAbove_2 rfl rfl ?_
  refine x_const (c := 0) dX5_nextAbove_3 rfl ?_
  refine x_istore_3 dX5_nextAbove_4 rfl rfl ?_
  exact l_X5_nextAbove b t s hb hs hn hrk hd l hl (fun h => ⟨_, rfl, rfl, rfl, Or.inl ⟨h, rfl⟩⟩) (fun h => ⟨_, rfl, rfl, rfl, Or.inr ⟨h, rfl⟩⟩) (tN t + 1) 0 _ (by omega) (by omega) (fun j hj => absurd hj (Nat.not_lt_zero j)) (Or.inl ⟨rfl, rfl⟩)
theorem cpN_o {I : MI} {a0 a1 N x j : Nat} (h : x ≠ a1) : cpN I a0 a1 N x j = I x j := congrFun (setRow_ne h) j
theorem cpN_i {I : MI} {a0 a1 N j : Nat} (h : j < N) : cpN I a0 a1 N a1 j = I a0 j := by unfold cpN; rw [setRow_same, if_pos h]
set_option maxHeartbeats 4000000 in
theorem l_X5_copy {r : Ev} {n : Nat} {Q : MQ2} {F : Post} {I0 : MI} (b b2 : Nat) (t : Tp) (s : St) (hb : SlB n Q b) (hb2 : SlB n Q b2) (hdis : b + 9 ≤ b2 ∨ b2 + 9 ≤ b) (hs : slp I0 b2 t s) (hrk : rkp I0 b2 t s) (hn : tN t ≤ 6) (hsh : ∀ l, l < tN t → sH s l ≤ 1) (hF : ∀ J, FrS I0 J (FtS b) → slp J b t s → rkp J b t s → F none J Q) : ∀ (k : Nat) (l : Nat) (I : MI), l ≤ tN t → l + k = tN t + 1 → FrS I0 I (FtS b) → (I b 2 = nI (tN t) ∧ I b 3 = nI (sR s) ∧ I b 4 = nI (sO s)) → (∀ l0, l0 < l → lmp I (b + 3 + l0) (tK t l0) (sP s l0) (tT t l0) (sD s l0) (sX s l0) (sH s l0)) → X r 2 yX5_copy cX5_copy (3, none) (0, 0) 26 [some (.ref (evz r + b)), some (.ref (evz r + b2)), some (.int (nI l))] [] n I Q F := by
  intro k
  induction k with
  | zero => intros; omega
  | succ k ih =>
    intro l I hl0 hl hfr hv hcp
    obtain ⟨h1, h2, h3, h4, h5, h6, h7⟩ := id hb
    obtain ⟨p1, p2, p3, p4, p5, p6, p7⟩ := id hb2
    refine x_iload_2 dX5_copy_26 ?_
    refine x_aload_0 dX5_copy_27 ?_
    refine x_getV dX5_copy_28 f_X5_22 h1 hv.1 ?_
    refine x_icmp_geN dX5_copy_31 (by omega) (by omega) (fun c31 => ?_) (fun c31 => ?_)
    · obtain rfl : l = tN t := (by omega)
      refine x_aload_1 dX5_copy_53 ?_
      refine x_getr dX5_copy_54 f_X5_17 p1 p6 ?_
      refine x_const (c := 0) dX5_copy_57 rfl ?_
      refine x_aload_0 dX5_copy_58 ?_
      refine x_getr dX5_copy_59 f_X5_17 h1 h6 ?_
      refine x_const (c := 0) dX5_copy_62 rfl ?_
      refine x_bip (c := 6) dX5_copy_63 (by decide) ?_
      refine x_acopy dX5_copy_65 m_X5_40 p3 h3 rfl (by omega) (by omega) ?_
      exact x_vret (st := []) dX5_copy_68 rfl (hF _ (fun x j hx => (cpN_o (by unfold FtS at hx; omega)).trans (hfr x j hx)) ⟨(cpN_o (by omega)).trans hv.1, (cpN_o (by omega)).trans hv.2.1, (cpN_o (by omega)).trans hv.2.2, fun l0 hl0 => (by obtain ⟨a0, a1, a2, a3, a4, a6⟩ := hcp l0 hl0; exact ⟨(cpN_o (by omega)).trans a0, (cpN_o (by omega)).trans a1, (cpN_o (by omega)).trans a2, (cpN_o (by omega)).trans a3, (cpN_o (by omega)).trans a4, (cpN_o (by omega)).trans a6⟩)⟩ (fun i hi => (cpN_i (by omega)).trans ((hfr _ _ (by unfold FtS; omega)).trans (hrk i hi))))
    · have hs2 : slp I b2 t s := slp_fr hs hn (fun x j z1 z2 z3 => hfr x j (by unfold FtS; omega))
      have lm := hs2.2.2.2 l (by omega)
      refine x_aload_0 dX5_copy_34 ?_
      refine x_iload_2 dX5_copy_35 ?_
      refine x_V1o dX5_copy_36 m_X5_32 (c_X5_pick b l hb (by omega)) (by assumption) ?_
      refine x_aload_1 dX5_copy_39 ?_
      refine x_iload_2 dX5_copy_40 ?_
      refine x_V1o dX5_copy_41 m_X5_32 (c_X5_pick b2 l hb2 (by omega)) (by assumption) ?_
      refine x_V1v dX5_copy_44 m_X5_36 (c_X0_copy (b + 3 + l) (b2 + 3 + l) (by omega) (h4 l (by omega)) (p4 l (by omega)) _ _ _ _ _ _ _ lm.1 lm.2.1 lm.2.2.1 lm.2.2.2.1 lm.2.2.2.2.1 rfl lm.2.2.2.2.2 (by have := hsh l (by omega); have e : sH s l = 0 ∨ sH s l = 1 := (by omega); rcases e with e | e <;> rw [e] <;> simp)) (h4 l (by omega)) (fun I44 h44 => ?_)
      obtain ⟨qf, q0, q1, q2, q3, q4, q5, q6⟩ := h44
      refine x_iinc_2 dX5_copy_47 (iinc1 _) rfl rfl ?_
      refine x_goto dX5_copy_50 ?_
      exact ih (l + 1) _ (by omega) (by omega) (fun x j hx => (qf x j (by unfold FtS at hx; omega)).trans (hfr x j hx)) ⟨(qf _ _ (by omega)).trans hv.1, (qf _ _ (by omega)).trans hv.2.1, (qf _ _ (by omega)).trans hv.2.2⟩ (fun j hj => by
        by_cases e : j = l
        · subst e; exact ⟨q0, q1, q2, q3, q4, q6⟩
        · obtain ⟨a0, a1, a2, a3, a4, a6⟩ := hcp j (by omega)
          exact ⟨(qf _ _ (by omega)).trans a0, (qf _ _ (by omega)).trans a1, (qf _ _ (by omega)).trans a2, (qf _ _ (by omega)).trans a3, (qf _ _ (by omega)).trans a4, (qf _ _ (by omega)).trans a6⟩)
set_option maxHeartbeats 4000000 in
theorem c_X5_copy {r : Ev} {n : Nat} {I : MI} {Q : MQ2} (b b2 : Nat) (t : Tp) (s : St) (hb : SlB n Q b) (hb2 : SlB n Q b2) (hdis : b + 9 ≤ b2 ∨ b2 + 9 ≤ b) (hs : slp I b2 t s) (hrk : rkp I b2 t s) (hn : tN t ≤ 6) (hsh : ∀ l, l < tN t → sH s l ≤ 1) : CT r 2 yX5_copy cX5_copy (3, none) (0, 0) [.ref (evz r + b), .ref (evz r + b2)] n I Q (rv Q (fun J => FrS I J (FtS b) ∧ slp J b t s ∧ rkp J b t s)) := by
  refine ct_of (lv := [some (.ref (evz r + b)), some (.ref (evz r + b2)), none]) (by decide +kernel) rfl rfl rfl ?_
  obtain ⟨h1, h2, h3, h4, h5, h6, h7⟩ := id hb
  obtain ⟨p1, p2, p3, p4, p5, p6, p7⟩ := id hb2
  obtain ⟨f2, f3, f4, -⟩ := id hs
  refine x_aload_0 dX5_copy_0 ?_
  refine x_aload_1 dX5_copy_1 ?_
  refine x_getV dX5_copy_2 f_X5_22 p1 (by assumption) ?_
  refine x_putA dX5_copy_5 f_X5_22 h1 (fun J5 fr5 e5 => ?_)
  have f2_p5 := (fr5 (b2) (2) (by omega)).trans f2
  have f3_p5 := (fr5 (b2) (3) (by omega)).trans f3
  have f4_p5 := (fr5 (b2) (4) (by omega)).trans f4
  refine x_aload_0 dX5_copy_8 ?_
  refine x_aload_1 dX5_copy_9 ?_
  refine x_getV dX5_copy_10 f_X5_26 p1 (by assumption) ?_
  refine x_putA dX5_copy_13 f_X5_26 h1 (fun J13 fr13 e13 => ?_)
  have f2_p13 := (fr13 (b2) (2) (by omega)).trans f2_p5
  have f3_p13 := (fr13 (b2) (3) (by omega)).trans f3_p5
  have f4_p13 := (fr13 (b2) (4) (by omega)).trans f4_p5
  have e5_p13 := (fr13 (b) (2) (by omega)).trans e5
  refine x_aload_0 dX5_copy_16 ?_
  refine x_aload_1 dX5_copy_17 ?_
  refine x_getV dX5_copy_18 f_X5_29 p1 (by assumption) ?_
  refine x_putA dX5_copy_21 f_X5_29 h1 (fun J21 fr21 e21 => ?_)
  have f2_p21 := (fr21 (b2) (2) (by omega)).trans f2_p13
  have f3_p21 := (fr21 (b2) (3) (by omega)).trans f3_p13
  have f4_p21 := (fr21 (b2) (4) (by omega)).trans f4_p13
  have e5_p21 := (fr21 (b) (2) (by omega)).trans e5_p13
  have e13_p21 := (fr21 (b) (3) (by omega)).trans e13
  refine x_const (c := 0) dX5_copy_24 rfl ?_
  refine x_istore_2 dX5_copy_25 rfl rfl ?_
  exact l_X5_copy b b2 t s hb hb2 hdis hs hrk hn hsh (fun J q1 q2 q3 => ⟨rfl, rfl, q1, q2, q3⟩) (tN t + 1) 0 _ (by omega) (by omega) (fun x j hx => (fr21 x j (by unfold FtS at hx; omega)).trans ((fr13 x j (by unfold FtS at hx; omega)).trans (fr5 x j (by unfold FtS at hx; omega)))) ⟨e5_p21, e13_p21, e21⟩ (fun j hj => absurd hj (Nat.not_lt_zero j))
def addT (t : Tp) (k th : Nat) : Tp := (tN t + 1, nup (tK t) (tN t) k, nup (tT t) (tN t) th)
def addS (t : Tp) (s : St) (p : Nat) : St := mkS (nup (sP s) (tN t) p) (nup (sD s) (tN t) 0) (nup (sX s) (tN t) 0) (nup (sH s) (tN t) 0) (sO s) (sR s)
def canAdd (t : Tp) (s : St) (k p th : Nat) : Prop := tN t < 6 ∧ k ≤ 3 ∧ p ≤ 9 ∧ (∀ l, l < tN t → sP s l ≠ p) ∧ 1 ≤ th ∧ th ≤ 9
theorem slp_add {I J : MI} {b : Nat} {t : Tp} {s : St} {k p th : Nat} (h : slp I b t s) (hn : tN t < 6) (f3 : J b 3 = I b 3) (f4 : J b 4 = I b 4) (f2 : J b 2 = nI (tN t + 1)) (fr : ∀ l j, l < tN t → J (b + 3 + l) j = I (b + 3 + l) j) (hm : lmp J (b + 3 + tN t) k p th 0 0 0) : slp J b (addT t k th) (addS t s p) := by
  obtain ⟨h1, h2, h3, h4⟩ := h
  refine ⟨f2, f3.trans h2, f4.trans h3, fun l hl => ?_⟩
  have hl : l < tN t + 1 := hl
  show lmp J (b + 3 + l) (nup (tK t) (tN t) k l) (nup (sP s) (tN t) p l) (nup (tT t) (tN t) th l) (nup (sD s) (tN t) 0 l) (nup (sX s) (tN t) 0 l) (nup (sH s) (tN t) 0 l)
  by_cases e : l = tN t
  · subst e
    rw [nup_s, nup_s, nup_s, nup_s, nup_s, nup_s]
    exact hm
  · rw [nup_n e, nup_n e, nup_n e, nup_n e, nup_n e, nup_n e]
    have hl2 : l < tN t := by omega
    obtain ⟨a0, a1, a2, a3, a4, a6⟩ := h4 l hl2
    exact ⟨(fr _ _ hl2).trans a0, (fr _ _ hl2).trans a1, (fr _ _ hl2).trans a2, (fr _ _ hl2).trans a3, (fr _ _ hl2).trans a4, (fr _ _ hl2).trans a6⟩
theorem addS_pl {t : Tp} {s : St} {p : Nat} (hpl : ∀ l, l < tN t → sP s l ≤ 9) (hp : p ≤ 9) : ∀ l, l < tN t + 1 → sP (addS t s p) l < 1000 := by
  intro l hl
  show nup (sP s) (tN t) p l < 1000
  by_cases e : l = tN t
  · rw [e, nup_s]; omega
  · rw [nup_n e]
    have := hpl l (by omega)
    omega
theorem nI_ne4 {l : Nat} (h : l < 100000) : ¬ nI l = -4 := by
  intro e
  have e2 := congrArg Int32.toInt e
  rw [nI_toInt (by omega)] at e2
  have e4 : (-4 : Int32).toInt = -4 := rfl
  omega
theorem dst_add {t : Tp} {s : St} {p : Nat} (hd : dst (tN t) (sP s)) (hp : ∀ l, l < tN t → sP s l ≠ p) : dst (tN t + 1) (nup (sP s) (tN t) p) := by
  intro l hl k hk e
  by_cases e1 : l = tN t <;> by_cases e2 : k = tN t
  · omega
  · rw [e1, nup_s, nup_n e2] at e
    exact absurd e.symm (hp k (by omega))
  · rw [e2, nup_s, nup_n e1] at e
    exact absurd e (hp l (by omega))
  · rw [nup_n e1, nup_n e2] at e
    exact hd l (by omega) k (by omega) e
set_option maxHeartbeats 4000000 in
theorem c_X5_addLoom {r : Ev} {n : Nat} {I : MI} {Q : MQ2} (b : Nat) (t : Tp) (s : St) (hb : SlB n Q b) (hs : slp I b t s) (hn : tN t ≤ 6) (hpl : ∀ l, l < tN t → sP s l ≤ 9) (hd : dst (tN t) (sP s)) (k p th : Nat) (hk : k < 1000) (hp : p < 1000) (hth : th < 1000) : CT r 2 yX5_addLoom cX5_addLoom (4, (some .boolean)) (0, 0) [.ref (evz r + b), .int (nI k), .int (nI p), .int (nI th)] n I Q (ri Q (fun v J => (v = nI 1 ∧ canAdd t s k p th ∧ FrS I J (FtS b) ∧ slp J b (addT t k th) (addS t s p) ∧ rkp J b (addT t k th) (addS t s p)) ∨ (v = nI 0 ∧ ¬ canAdd t s k p th ∧ J = I))) := by
  refine ct_of (lv := [some (.ref (evz r + b)), some (.int (nI k)), some (.int (nI p)), some (.int (nI th))]) (by decide +kernel) rfl rfl rfl ?_
  obtain ⟨h1, h2, h3, h4, h5, h6, h7⟩ := id hb
  obtain ⟨g1, g2, g3, g4⟩ := id hs
  refine x_aload_0 dX5_addLoom_0 ?_
  refine x_getV dX5_addLoom_1 f_X5_22 h1 g1 ?_
  refine x_bip (c := 6) dX5_addLoom_4 (by decide) ?_
  refine x_icmp_geN dX5_addLoom_6 (by omega) (by omega) (fun c6 => ?_) (fun c6 => ?_)
  · refine x_const (c := 0) dX5_addLoom_45 rfl ?_
    exact x_iret (st := []) dX5_addLoom_46 rfl rfl (⟨_, rfl, rfl, Or.inr ⟨rfl, fun z => by obtain ⟨z1, z2, z3, z4, z5, z6⟩ := z; first | omega | exact z4 l9 hl9 he9, rfl⟩⟩)
  · refine x_iload_1 dX5_addLoom_9 ?_
    refine x_const (c := 0) dX5_addLoom_10 rfl ?_
    refine x_const (c := 3) dX5_addLoom_11 rfl ?_
    refine x_S3i dX5_addLoom_12 m_X5_46 (c_isOutN k 0 3 (by omega) (by omega) (by omega)) (fun x12 I12 h12 => ?_)
    obtain ⟨rfl, ⟨rfl, h12⟩ | ⟨rfl, h12⟩⟩ := h12
    · refine x_if_neN dX5_addLoom_15 (by omega) (fun c15 => ?_) (fun c15 => ?_)
      · refine x_const (c := 0) dX5_addLoom_45 rfl ?_
        exact x_iret (st := []) dX5_addLoom_46 rfl rfl (⟨_, rfl, rfl, Or.inr ⟨rfl, fun z => by obtain ⟨z1, z2, z3, z4, z5, z6⟩ := z; first | omega | exact z4 l9 hl9 he9, rfl⟩⟩)
      · exfalso; omega
    · refine x_if_neN dX5_addLoom_15 (by omega) (fun c15 => ?_) (fun c15 => ?_)
      · exfalso; omega
      · refine x_iload_2 dX5_addLoom_18 ?_
        refine x_S1i dX5_addLoom_19 m_X5_50 (c_isNoPlN p (by omega)) (fun x19 I19 h19 => ?_)
        obtain ⟨rfl, ⟨rfl, h19⟩ | ⟨rfl, h19⟩⟩ := h19
        · refine x_if_neN dX5_addLoom_22 (by omega) (fun c22 => ?_) (fun c22 => ?_)
          · refine x_const (c := 0) dX5_addLoom_45 rfl ?_
            exact x_iret (st := []) dX5_addLoom_46 rfl rfl (⟨_, rfl, rfl, Or.inr ⟨rfl, fun z => by obtain ⟨z1, z2, z3, z4, z5, z6⟩ := z; first | omega | exact z4 l9 hl9 he9, rfl⟩⟩)
          · exfalso; omega
        · refine x_if_neN dX5_addLoom_22 (by omega) (fun c22 => ?_) (fun c22 => ?_)
          · exfalso; omega
          · refine x_aload_0 dX5_addLoom_25 ?_
            refine x_iload_2 dX5_addLoom_26 ?_
            refine x_V1i dX5_addLoom_27 m_X5_54 (c_X5_loomOn b t s hb hs hn p (by omega) (fun l hl => by have := hpl l hl; omega)) h1 (fun x27 I27 h27 => ?_)
            obtain ⟨rfl, ⟨l9, hl9, he9, rfl⟩ | ⟨rfl, h27⟩⟩ := h27
            · refine x_bipush (v := -4) dX5_addLoom_30 (by decide) ?_
              refine x_icmp_ne dX5_addLoom_32 (fun c32 => ?_) (fun c32 => ?_)
              · refine x_const (c := 0) dX5_addLoom_45 rfl ?_
                exact x_iret (st := []) dX5_addLoom_46 rfl rfl (⟨_, rfl, rfl, Or.inr ⟨rfl, fun z => by obtain ⟨z1, z2, z3, z4, z5, z6⟩ := z; first | omega | exact z4 l9 hl9 he9, rfl⟩⟩)
              · exact absurd c32 (nI_ne4 (by omega))
            · refine x_bipush (v := -4) dX5_addLoom_30 (by decide) ?_
              refine x_icmp_ne dX5_addLoom_32 (fun c32 => ?_) (fun c32 => ?_)
              · exact absurd rfl c32
              · refine x_iload_3 dX5_addLoom_35 ?_
                refine x_const (c := 1) dX5_addLoom_36 rfl ?_
                refine x_bip (c := 9) dX5_addLoom_37 (by decide) ?_
                refine x_S3i dX5_addLoom_39 m_X5_46 (c_isOutN th 1 9 (by omega) (by omega) (by omega)) (fun x39 I39 h39 => ?_)
                obtain ⟨rfl, ⟨rfl, h39⟩ | ⟨rfl, h39⟩⟩ := h39
                · refine x_if_eqN dX5_addLoom_42 (by omega) (fun c42 => ?_) (fun c42 => ?_)
                  · exfalso; omega
                  · refine x_const (c := 0) dX5_addLoom_45 rfl ?_
                    exact x_iret (st := []) dX5_addLoom_46 rfl rfl (⟨_, rfl, rfl, Or.inr ⟨rfl, fun z => by obtain ⟨z1, z2, z3, z4, z5, z6⟩ := z; first | omega | exact z4 l9 hl9 he9, rfl⟩⟩)
                · refine x_if_eqN dX5_addLoom_42 (by omega) (fun c42 => ?_) (fun c42 => ?_)
                  · refine x_aload_0 dX5_addLoom_47 ?_
                    first | refine x_dup_ref dX5_addLoom_48 ?_ | refine x_dup_int dX5_addLoom_48 ?_
                    refine x_getV dX5_addLoom_49 f_X5_22 h1 g1 ?_
                    refine x_const (c := 1) dX5_addLoom_52 rfl ?_
                    refine x_iaddN dX5_addLoom_53 ?_
                    refine x_putA dX5_addLoom_54 f_X5_22 h1 (fun J54 fr54 e54 => ?_)
                    refine x_aload_0 dX5_addLoom_57 ?_
                    refine x_aload_0 dX5_addLoom_58 ?_
                    refine x_getV dX5_addLoom_59 f_X5_22 h1 e54 ?_
                    refine x_const (c := 1) dX5_addLoom_62 rfl ?_
                    refine x_isubN dX5_addLoom_63 (by omega) ?_
                    rw [Nat.add_sub_cancel]
                    refine x_V1o dX5_addLoom_64 m_X5_32 (c_X5_pick b (tN t) hb (by omega)) h1 ?_
                    refine x_iload_1 dX5_addLoom_67 ?_
                    refine x_iload_2 dX5_addLoom_68 ?_
                    refine x_iload_3 dX5_addLoom_69 ?_
                    refine x_V3v dX5_addLoom_70 m_X5_58 (c_X0_clear (b + 3 + tN t) (nI k) (nI p) (nI th) (h4 _ (by omega))) (h4 _ (by omega)) (fun I70 h70 => ?_)
                    obtain ⟨qf, q0, q1, q2, q3, q4, q5, q6⟩ := h70
                    have hs2 := slp_add (k := k) (p := p) (th := th) hs (by omega) ((qf b 3 (by omega)).trans (fr54 b 3 (by omega))) ((qf b 4 (by omega)).trans (fr54 b 4 (by omega))) ((qf b 2 (by omega)).trans e54) (fun l j hl => (qf _ j (by omega)).trans (fr54 _ j (by omega))) ⟨q0, q1, q2, q3, q4, q6⟩
                    refine x_aload_0 dX5_addLoom_73 ?_
                    refine x_V0v dX5_addLoom_74 m_X5_62 (c_X5_rank b (addT t k th) (addS t s p) hb hs2 (show tN t + 1 ≤ 6 by omega) (addS_pl hpl (by omega)) (dst_add hd h27)) h1 (fun I74 h74 => ?_)
                    obtain ⟨rf, rk⟩ := h74
                    refine x_const (c := 1) dX5_addLoom_77 rfl ?_
                    exact x_iret (st := []) dX5_addLoom_78 rfl rfl (⟨_, rfl, rfl, Or.inl ⟨rfl, ⟨by omega, by omega, by omega, h27, by omega, by omega⟩, fun x j hx => (rf x j (by unfold FtS at hx; omega)).trans ((qf x j (by unfold FtS at hx; omega)).trans (fr54 x j (by unfold FtS at hx; omega))), slp_fr hs2 (show tN t + 1 ≤ 6 by omega) (fun x j _ _ hx => rf x j hx), rk⟩⟩)
                  · exfalso; omega
