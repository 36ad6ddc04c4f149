/-! the looms: DewLooms$Loom -/
theorem nI_one : ((1 : Int32)) = nI 1 := rfl
def FrS (I I' : MI) (S : Nat → Nat → Prop) : Prop := ∀ b j, ¬ S b j → I' b j = I b j
theorem nmin {a b : Nat} (ha : a < 100000000) (hb : b < 100000000) : (if nI b < nI a then nI b else nI a) = nI (min a b) := by
  have e := nI_ltI (a := b) (b := a) (by omega) (by omega)
  by_cases h : b < a
  · rw [if_pos (e.mpr h), Nat.min_eq_right (by omega)]
  · rw [if_neg (fun z => h (e.mp z)), Nat.min_eq_left (by omega)]
theorem nmax {a b : Nat} (ha : a < 100000000) (hb : b < 100000000) : (if nI a < nI b then nI b else nI a) = nI (max a b) := by
  have e := nI_ltI (a := a) (b := b) (by omega) (by omega)
  by_cases h : a < b
  · rw [if_pos (e.mpr h), Nat.max_eq_right (by omega)]
  · rw [if_neg (fun z => h (e.mp z)), Nat.max_eq_left (by omega)]
/-- how many drops settle on a loom of kind k by cold c, mist m -/
def setl (k c m : Nat) : Nat := if k = 3 then (if m = 1 then c + 2 else c) else if k = 1 then 2 * (if m = 1 then c / 2 else c) else (if m = 1 then c / 2 else c)
theorem setl_le {k c m : Nat} (hc : c ≤ 9) : setl k c m ≤ 18 := by
  unfold setl
  split <;> split <;> (try split) <;> omega
set_option maxHeartbeats 4000000 in
theorem c_X0_holds {r : Ev} {n : Nat} {I : MI} {Q : MQ2} (a t : Nat) (ho : Ob n 0 a) (h2 : I a 2 = nI t) : CT r 0 yX0_holds cX0_holds (1, (some .int)) (0, 0) [.ref (evz r + a)] n I Q (ri Q (fun x J => J = I ∧ x = nI (3 * t))) := by
  refine ct_of (lv := [some (.ref (evz r + a))]) (by decide +kernel) rfl rfl rfl ?_
  refine x_const (c := 3) dX0_holds_0 rfl ?_
  refine x_aload_0 dX0_holds_1 ?_
  refine x_getV dX0_holds_2 f_X0_18 (by assumption) (by assumption) ?_
  refine x_imulN dX0_holds_5 ?_
  exact x_iret (st := []) dX0_holds_6 rfl rfl (⟨_, rfl, rfl, rfl, rfl⟩)
set_option maxHeartbeats 4000000 in
theorem c_X0_settling {r : Ev} {n : Nat} {I : MI} {Q : MQ2} (a k c m : Nat) (ho : Ob n 0 a) (h0 : I a 0 = nI k) (hk : k ≤ 3) (hc : c ≤ 9) (hm : m ≤ 1) : CT r 0 yX0_settling cX0_settling (4, (some .int)) (0, 0) [.ref (evz r + a), .int (nI c), .int (nI m)] n I Q (ri Q (fun x J => J = I ∧ x = nI (setl k c m))) := by
  refine ct_of (lv := [some (.ref (evz r + a)), some (.int (nI c)), some (.int (nI m)), none]) (by decide +kernel) rfl rfl rfl ?_
  refine x_aload_0 dX0_settling_0 ?_
  refine x_getV dX0_settling_1 f_X0_9 (by assumption) (by assumption) ?_
  refine x_const (c := 3) dX0_settling_4 rfl ?_
  refine x_icmp_neN dX0_settling_5 (by omega) (by omega) (fun c5 => ?_) (fun c5 => ?_)
  · refine x_iload_2 dX0_settling_21 ?_
    refine x_const (c := 1) dX0_settling_22 rfl ?_
    refine x_icmp_neN dX0_settling_23 (by omega) (by omega) (fun c23 => ?_) (fun c23 => ?_)
    · refine x_iload_1 dX0_settling_32 ?_
      refine x_istore_3 dX0_settling_33 rfl rfl ?_
      refine x_aload_0 dX0_settling_34 ?_
      refine x_getV dX0_settling_35 f_X0_9 (by assumption) (by assumption) ?_
      refine x_const (c := 1) dX0_settling_38 rfl ?_
      refine x_icmp_neN dX0_settling_39 (by omega) (by omega) (fun c39 => ?_) (fun c39 => ?_)
      · refine x_iload_3 dX0_settling_48 ?_
        exact x_iret (st := []) dX0_settling_49 rfl rfl (⟨_, rfl, rfl, rfl, by congr 1; unfold setl; repeat (first | rw [if_pos (by omega)] | rw [if_neg (by omega)])⟩)
      · refine x_const (c := 2) dX0_settling_42 rfl ?_
        refine x_iload_3 dX0_settling_43 ?_
        refine x_imulN dX0_settling_44 ?_
        refine x_goto dX0_settling_45 ?_
        exact x_iret (st := []) dX0_settling_49 rfl rfl (⟨_, rfl, rfl, rfl, by congr 1; unfold setl; repeat (first | rw [if_pos (by omega)] | rw [if_neg (by omega)])⟩)
    · refine x_iload_1 dX0_settling_26 ?_
      refine x_const (c := 2) dX0_settling_27 rfl ?_
      refine x_idivN dX0_settling_28 (by omega) (by omega) (by omega) ?_
      refine x_goto dX0_settling_29 ?_
      refine x_istore_3 dX0_settling_33 rfl rfl ?_
      refine x_aload_0 dX0_settling_34 ?_
      refine x_getV dX0_settling_35 f_X0_9 (by assumption) (by assumption) ?_
      refine x_const (c := 1) dX0_settling_38 rfl ?_
      refine x_icmp_neN dX0_settling_39 (by omega) (by omega) (fun c39 => ?_) (fun c39 => ?_)
      · refine x_iload_3 dX0_settling_48 ?_
        exact x_iret (st := []) dX0_settling_49 rfl rfl (⟨_, rfl, rfl, rfl, by congr 1; unfold setl; repeat (first | rw [if_pos (by omega)] | rw [if_neg (by omega)])⟩)
      · refine x_const (c := 2) dX0_settling_42 rfl ?_
        refine x_iload_3 dX0_settling_43 ?_
        refine x_imulN dX0_settling_44 ?_
        refine x_goto dX0_settling_45 ?_
        exact x_iret (st := []) dX0_settling_49 rfl rfl (⟨_, rfl, rfl, rfl, by congr 1; unfold setl; repeat (first | rw [if_pos (by omega)] | rw [if_neg (by omega)])⟩)
  · refine x_iload_2 dX0_settling_8 ?_
    refine x_const (c := 1) dX0_settling_9 rfl ?_
    refine x_icmp_neN dX0_settling_10 (by omega) (by omega) (fun c10 => ?_) (fun c10 => ?_)
    · refine x_iload_1 dX0_settling_19 ?_
      exact x_iret (st := []) dX0_settling_20 rfl rfl (⟨_, rfl, rfl, rfl, by congr 1; unfold setl; repeat (first | rw [if_pos (by omega)] | rw [if_neg (by omega)])⟩)
    · refine x_iload_1 dX0_settling_13 ?_
      refine x_const (c := 2) dX0_settling_14 rfl ?_
      refine x_iaddN dX0_settling_15 ?_
      refine x_goto dX0_settling_16 ?_
      exact x_iret (st := []) dX0_settling_20 rfl rfl (⟨_, rfl, rfl, rfl, by congr 1; unfold setl; repeat (first | rw [if_pos (by omega)] | rw [if_neg (by omega)])⟩)
set_option maxHeartbeats 4000000 in
theorem c_X0_turnShade {r : Ev} {n : Nat} {I : MI} {Q : MQ2} (a s : Nat) (ho : Ob n 0 a) (h6 : I a 6 = nI s) (hs : s ≤ 1) : CT r 0 yX0_turnShade cX0_turnShade (1, none) (0, 0) [.ref (evz r + a)] n I Q (rv Q (fun J => Fr1 I J a 6 ∧ J a 6 = nI (1 - s))) := by
  refine ct_of (lv := [some (.ref (evz r + a))]) (by decide +kernel) rfl rfl rfl ?_
  refine x_aload_0 dX0_turnShade_0 ?_
  refine x_aload_0 dX0_turnShade_1 ?_
  refine x_getV dX0_turnShade_2 f_X0_30 (by assumption) (by assumption) ?_
  refine x_if_neN dX0_turnShade_5 (by omega) (fun c5 => ?_) (fun c5 => ?_)
  · refine x_const (c := 0) dX0_turnShade_12 rfl ?_
    refine x_putB dX0_turnShade_13 f_X0_30 (by assumption) (by first | exact Or.inl rfl | exact Or.inr rfl | assumption) (fun J13 fr13 e13 => ?_)
    exact x_vret (st := []) dX0_turnShade_16 rfl (⟨rfl, rfl, fr13, by rw [e13]; congr 1; omega⟩)
  · refine x_const (c := 1) dX0_turnShade_8 rfl ?_
    refine x_goto dX0_turnShade_9 ?_
    refine x_putB dX0_turnShade_13 f_X0_30 (by assumption) (by first | exact Or.inl rfl | exact Or.inr rfl | assumption) (fun J13 fr13 e13 => ?_)
    exact x_vret (st := []) dX0_turnShade_16 rfl (⟨rfl, rfl, fr13, by rw [e13]; congr 1; omega⟩)
set_option maxHeartbeats 4000000 in
theorem c_X0_feelCow {r : Ev} {n : Nat} {I : MI} {Q : MQ2} (a dr : Nat) (ho : Ob n 0 a) (h3 : I a 3 = nI dr) (hd : dr ≤ 1000) : CT r 0 yX0_feelCow cX0_feelCow (1, none) (0, 0) [.ref (evz r + a)] n I Q (rv Q (fun J => Fr1 I J a 3 ∧ J a 3 = nI (dr / 2))) := by
  refine ct_of (lv := [some (.ref (evz r + a))]) (by decide +kernel) rfl rfl rfl ?_
  refine x_aload_0 dX0_feelCow_0 ?_
  first | refine x_dup_ref dX0_feelCow_1 ?_ | refine x_dup_int dX0_feelCow_1 ?_
  refine x_getV dX0_feelCow_2 f_X0_21 (by assumption) (by assumption) ?_
  refine x_const (c := 2) dX0_feelCow_5 rfl ?_
  refine x_idivN dX0_feelCow_6 (by omega) (by omega) (by omega) ?_
  refine x_putA dX0_feelCow_7 f_X0_21 (by assumption) (fun J7 fr7 e7 => ?_)
  exact x_vret (st := []) dX0_feelCow_10 rfl (⟨rfl, rfl, fr7, e7⟩)
set_option maxHeartbeats 4000000 in
theorem c_X0_takeTears {r : Ev} {n : Nat} {I : MI} {Q : MQ2} (a t dr : Nat) (ho : Ob n 0 a) (h2 : I a 2 = nI t) (h3 : I a 3 = nI dr) (ht : t ≤ 1000) (hd : dr ≤ 1000) : CT r 1 yX0_takeTears cX0_takeTears (1, none) (0, 0) [.ref (evz r + a)] n I Q (rv Q (fun J => Fr1 I J a 3 ∧ J a 3 = nI (min (dr + t) (3 * t)))) := by
  refine ct_of (lv := [some (.ref (evz r + a))]) (by decide +kernel) rfl rfl rfl ?_
  refine x_aload_0 dX0_takeTears_0 ?_
  refine x_aload_0 dX0_takeTears_1 ?_
  refine x_getV dX0_takeTears_2 f_X0_21 (by assumption) (by assumption) ?_
  refine x_aload_0 dX0_takeTears_5 ?_
  refine x_getV dX0_takeTears_6 f_X0_18 (by assumption) (by assumption) ?_
  refine x_iaddN dX0_takeTears_9 ?_
  refine x_aload_0 dX0_takeTears_10 ?_
  refine x_V0i dX0_takeTears_11 m_X0_34 (c_X0_holds a t (by assumption) (by assumption)) (by assumption) (fun x11 I11 h11 => ?_)
  obtain ⟨rfl, rfl⟩ := h11
  refine x_min dX0_takeTears_14 m_X0_38 ?_
  rw [nmin (by omega) (by omega)]
  refine x_putA dX0_takeTears_17 f_X0_21 (by assumption) (fun J17 fr17 e17 => ?_)
  exact x_vret (st := []) dX0_takeTears_20 rfl (⟨rfl, rfl, fr17, e17⟩)
set_option maxHeartbeats 4000000 in
theorem c_X0_gather {r : Ev} {n : Nat} {I : MI} {Q : MQ2} (a k t dr sp f c m : Nat) (ho : Ob n 0 a) (h0 : I a 0 = nI k) (h2 : I a 2 = nI t) (h3 : I a 3 = nI dr) (h4 : I a 4 = nI sp) (hk : k ≤ 3) (ht : t ≤ 1000) (hd : dr ≤ 1000) (hf : f ≤ 10000) (hc : c ≤ 9) (hm : m ≤ 1) : CT r 1 yX0_gather cX0_gather (5, none) (0, 0) [.ref (evz r + a), .int (nI f), .int (nI c), .int (nI m)] n I Q (rv Q (fun J => FrS I J (fun b j => b = a ∧ (j = 3 ∨ j = 4 ∨ j = 5)) ∧ J a 3 = nI (min (dr + setl k c m + (if k = 2 then 0 else f)) (3 * t)) ∧ J a 4 = nI (if k = 2 then sp + f else sp) ∧ J a 5 = nI (dr + setl k c m + (if k = 2 then 0 else f) - min (dr + setl k c m + (if k = 2 then 0 else f)) (3 * t)))) := by
  refine ct_of (lv := [some (.ref (evz r + a)), some (.int (nI f)), some (.int (nI c)), some (.int (nI m)), none]) (by decide +kernel) rfl rfl rfl ?_
  have hsl := setl_le (k := k) (m := m) hc
  refine x_aload_0 dX0_gather_0 ?_
  refine x_getV dX0_gather_1 f_X0_21 (by assumption) (by assumption) ?_
  refine x_aload_0 dX0_gather_4 ?_
  refine x_iload_2 dX0_gather_5 ?_
  refine x_iload_3 dX0_gather_6 ?_
  refine x_V2i dX0_gather_7 m_X0_44 (c_X0_settling a k c m (by assumption) (by assumption) hk hc hm) (by assumption) (fun x7 I7 h7 => ?_)
  obtain ⟨rfl, rfl⟩ := h7
  refine x_iaddN dX0_gather_10 ?_
  refine x_istore_4 dX0_gather_11 rfl rfl ?_
  refine x_aload_0 dX0_gather_13 ?_
  refine x_getV dX0_gather_14 f_X0_9 (by assumption) (by assumption) ?_
  refine x_const (c := 2) dX0_gather_17 rfl ?_
  refine x_icmp_neN dX0_gather_18 (by omega) (by omega) (fun c18 => ?_) (fun c18 => ?_)
  · simp only [if_neg c18]
    refine x_iload_4 dX0_gather_34 ?_
    refine x_iload_1 dX0_gather_36 ?_
    refine x_iaddN dX0_gather_37 ?_
    refine x_istore_4 dX0_gather_38 rfl rfl ?_
    refine x_aload_0 dX0_gather_40 ?_
    refine x_iload_4 dX0_gather_41 ?_
    refine x_aload_0 dX0_gather_43 ?_
    refine x_V0i dX0_gather_44 m_X0_34 (c_X0_holds a t (by assumption) (by assumption)) (by assumption) (fun x44 I44 h44 => ?_)
    obtain ⟨rfl, rfl⟩ := h44
    refine x_min dX0_gather_47 m_X0_38 ?_
    rw [nmin (by omega) (by omega)]
    refine x_putA dX0_gather_50 f_X0_21 (by assumption) (fun J50 fr50 e50 => ?_)
    have h0_p50 := (fr50 (a) (0) (by omega)).trans h0
    have h2_p50 := (fr50 (a) (2) (by omega)).trans h2
    have h4_p50 := (fr50 (a) (4) (by omega)).trans h4
    refine x_aload_0 dX0_gather_53 ?_
    refine x_iload_4 dX0_gather_54 ?_
    refine x_aload_0 dX0_gather_56 ?_
    refine x_getV dX0_gather_57 f_X0_21 (by assumption) (by assumption) ?_
    refine x_isubN dX0_gather_60 (by omega) ?_
    refine x_putA dX0_gather_61 f_X0_27 (by assumption) (fun J61 fr61 e61 => ?_)
    have h0_p61 := (fr61 (a) (0) (by omega)).trans h0_p50
    have h2_p61 := (fr61 (a) (2) (by omega)).trans h2_p50
    have h4_p61 := (fr61 (a) (4) (by omega)).trans h4_p50
    have e50_p61 := (fr61 (a) (3) (by omega)).trans e50
    exact x_vret (st := []) dX0_gather_64 rfl (⟨rfl, rfl, fun b j hb => (fr61 b j (by omega)).trans (fr50 b j (by omega)), e50_p61, h4_p61, e61⟩)
  · have c18 : k = 2 := by omega
    simp only [if_pos c18]
    refine x_aload_0 dX0_gather_21 ?_
    first | refine x_dup_ref dX0_gather_22 ?_ | refine x_dup_int dX0_gather_22 ?_
    refine x_getV dX0_gather_23 f_X0_24 (by assumption) (by assumption) ?_
    refine x_iload_1 dX0_gather_26 ?_
    refine x_iaddN dX0_gather_27 ?_
    refine x_putA dX0_gather_28 f_X0_24 (by assumption) (fun J28 fr28 e28 => ?_)
    have h0_p28 := (fr28 (a) (0) (by omega)).trans h0
    have h2_p28 := (fr28 (a) (2) (by omega)).trans h2
    have h3_p28 := (fr28 (a) (3) (by omega)).trans h3
    refine x_goto dX0_gather_31 ?_
    refine x_aload_0 dX0_gather_40 ?_
    refine x_iload_4 dX0_gather_41 ?_
    refine x_aload_0 dX0_gather_43 ?_
    refine x_V0i dX0_gather_44 m_X0_34 (c_X0_holds a t (by assumption) (by assumption)) (by assumption) (fun x44 I44 h44 => ?_)
    obtain ⟨rfl, rfl⟩ := h44
    refine x_min dX0_gather_47 m_X0_38 ?_
    rw [nmin (by omega) (by omega)]
    refine x_putA dX0_gather_50 f_X0_21 (by assumption) (fun J50 fr50 e50 => ?_)
    have h0_p50 := (fr50 (a) (0) (by omega)).trans h0_p28
    have h2_p50 := (fr50 (a) (2) (by omega)).trans h2_p28
    have e28_p50 := (fr50 (a) (4) (by omega)).trans e28
    refine x_aload_0 dX0_gather_53 ?_
    refine x_iload_4 dX0_gather_54 ?_
    refine x_aload_0 dX0_gather_56 ?_
    refine x_getV dX0_gather_57 f_X0_21 (by assumption) (by assumption) ?_
    refine x_isubN dX0_gather_60 (by omega) ?_
    refine x_putA dX0_gather_61 f_X0_27 (by assumption) (fun J61 fr61 e61 => ?_)
    have h0_p61 := (fr61 (a) (0) (by omega)).trans h0_p50
    have h2_p61 := (fr61 (a) (2) (by omega)).trans h2_p50
    have e28_p61 := (fr61 (a) (4) (by omega)).trans e28_p50
    have e50_p61 := (fr61 (a) (3) (by omega)).trans e50
    exact x_vret (st := []) dX0_gather_64 rfl (⟨rfl, rfl, fun b j hb => (fr61 b j (by omega)).trans ((fr50 b j (by omega)).trans (fr28 b j (by omega))), e50_p61, e28_p61, e61⟩)
theorem nmaxsub {a b : Nat} (ha : a < 100000000) (hb : b < 100000000) : (if nI 0 < nI a - nI b then nI a - nI b else nI 0) = nI (a - b) := by
  by_cases h : b ≤ a
  · rw [pk_sub h]
    have e := nI_ltI (a := 0) (b := a - b) (by omega) (by omega)
    by_cases h2 : 0 < a - b
    · rw [if_pos (e.mpr h2)]
    · rw [if_neg (fun z => h2 (e.mp z)), show a - b = 0 by omega]
  · have h1 : nI a - nI b < 0 := pk_sneg (by omega) (by omega)
    rw [if_neg, show a - b = 0 by omega]
    intro z
    have z : (0 : Int32) < nI a - nI b := z
    have z1 := Int32.lt_iff_toInt_lt.mp z
    have z2 := Int32.lt_iff_toInt_lt.mp h1
    omega
set_option maxHeartbeats 4000000 in
theorem c_X0_dry {r : Ev} {n : Nat} {I : MI} {Q : MQ2} (a k dr s : Nat) (ho : Ob n 0 a) (h0 : I a 0 = nI k) (h3 : I a 3 = nI dr) (h6 : I a 6 = nI s) (hk : k ≤ 3) (hd : dr ≤ 1000) (hs : s ≤ 1) : CT r 1 yX0_dry cX0_dry (1, none) (0, 0) [.ref (evz r + a)] n I Q (rv Q (fun J => FrS I J (fun b j => b = a ∧ (j = 3 ∨ j = 5)) ∧ J a 3 = nI (if s = 0 then dr - (if k = 3 then 1 else 2) else dr) ∧ J a 5 = nI 0)) := by
  refine ct_of (lv := [some (.ref (evz r + a))]) (by decide +kernel) rfl rfl rfl ?_
  refine x_aload_0 dX0_dry_0 ?_
  refine x_const (c := 0) dX0_dry_1 rfl ?_
  refine x_putA dX0_dry_2 f_X0_27 (by assumption) (fun J2 fr2 e2 => ?_)
  have h0_p2 := (fr2 (a) (0) (by omega)).trans h0
  have h3_p2 := (fr2 (a) (3) (by omega)).trans h3
  have h6_p2 := (fr2 (a) (6) (by omega)).trans h6
  refine x_aload_0 dX0_dry_5 ?_
  refine x_getV dX0_dry_6 f_X0_30 (by assumption) (by assumption) ?_
  refine x_if_neN dX0_dry_9 (by omega) (fun c9 => ?_) (fun c9 => ?_)
  · simp only [if_neg c9]
    exact x_vret (st := []) dX0_dry_38 rfl (⟨rfl, rfl, fun b j hb => fr2 b j (by omega), h3_p2, e2⟩)
  · have c9 : s = 0 := by omega
    simp only [if_pos c9]
    refine x_aload_0 dX0_dry_12 ?_
    refine x_const (c := 0) dX0_dry_13 rfl ?_
    refine x_aload_0 dX0_dry_14 ?_
    refine x_getV dX0_dry_15 f_X0_21 (by assumption) (by assumption) ?_
    refine x_aload_0 dX0_dry_18 ?_
    refine x_getV dX0_dry_19 f_X0_9 (by assumption) (by assumption) ?_
    refine x_const (c := 3) dX0_dry_22 rfl ?_
    refine x_icmp_neN dX0_dry_23 (by omega) (by omega) (fun c23 => ?_) (fun c23 => ?_)
    · simp only [if_neg c23]
      refine x_const (c := 2) dX0_dry_30 rfl ?_
      refine x_isub dX0_dry_31 ?_
      refine x_max dX0_dry_32 m_X0_47 ?_
      rw [nmaxsub (by omega) (by omega)]
      refine x_putA dX0_dry_35 f_X0_21 (by assumption) (fun J35 fr35 e35 => ?_)
      have h0_p35 := (fr35 (a) (0) (by omega)).trans h0_p2
      have h6_p35 := (fr35 (a) (6) (by omega)).trans h6_p2
      have e2_p35 := (fr35 (a) (5) (by omega)).trans e2
      exact x_vret (st := []) dX0_dry_38 rfl (⟨rfl, rfl, fun b j hb => (fr35 b j (by omega)).trans (fr2 b j (by omega)), e35, e2_p35⟩)
    · have c23 : k = 3 := by omega
      simp only [if_pos c23]
      refine x_const (c := 1) dX0_dry_26 rfl ?_
      refine x_goto dX0_dry_27 ?_
      refine x_isub dX0_dry_31 ?_
      refine x_max dX0_dry_32 m_X0_47 ?_
      rw [nmaxsub (by omega) (by omega)]
      refine x_putA dX0_dry_35 f_X0_21 (by assumption) (fun J35 fr35 e35 => ?_)
      have h0_p35 := (fr35 (a) (0) (by omega)).trans h0_p2
      have h6_p35 := (fr35 (a) (6) (by omega)).trans h6_p2
      have e2_p35 := (fr35 (a) (5) (by omega)).trans e2
      exact x_vret (st := []) dX0_dry_38 rfl (⟨rfl, rfl, fun b j hb => (fr35 b j (by omega)).trans (fr2 b j (by omega)), e35, e2_p35⟩)
set_option maxHeartbeats 4000000 in
theorem c_X0_clear {r : Ev} {n : Nat} {I : MI} {Q : MQ2} (a : Nat) (x1 x2 x3 : Int32) (ho : Ob n 0 a) : CT r 0 yX0_clear cX0_clear (4, none) (0, 0) [.ref (evz r + a), .int x1, .int x2, .int x3] n I Q (rv Q (fun J => FrS I J (fun b j => b = a ∧ j < 7) ∧ J a 0 = x1 ∧ J a 1 = x2 ∧ J a 2 = x3 ∧ J a 3 = nI 0 ∧ J a 4 = nI 0 ∧ J a 5 = nI 0 ∧ J a 6 = nI 0)) := by
  refine ct_of (lv := [some (.ref (evz r + a)), some (.int x1), some (.int x2), some (.int x3)]) (by decide +kernel) rfl rfl rfl ?_
  refine x_aload_0 dX0_clear_0 ?_
  refine x_iload_1 dX0_clear_1 ?_
  refine x_putA dX0_clear_2 f_X0_9 (by assumption) (fun J2 fr2 e2 => ?_)
  refine x_aload_0 dX0_clear_5 ?_
  refine x_iload_2 dX0_clear_6 ?_
  refine x_putA dX0_clear_7 f_X0_15 (by assumption) (fun J7 fr7 e7 => ?_)
  have e2_p7 := (fr7 (a) (0) (by omega)).trans e2
  refine x_aload_0 dX0_clear_10 ?_
  refine x_iload_3 dX0_clear_11 ?_
  refine x_putA dX0_clear_12 f_X0_18 (by assumption) (fun J12 fr12 e12 => ?_)
  have e2_p12 := (fr12 (a) (0) (by omega)).trans e2_p7
  have e7_p12 := (fr12 (a) (1) (by omega)).trans e7
  refine x_aload_0 dX0_clear_15 ?_
  refine x_const (c := 0) dX0_clear_16 rfl ?_
  refine x_putA dX0_clear_17 f_X0_21 (by assumption) (fun J17 fr17 e17 => ?_)
  have e2_p17 := (fr17 (a) (0) (by omega)).trans e2_p12
  have e7_p17 := (fr17 (a) (1) (by omega)).trans e7_p12
  have e12_p17 := (fr17 (a) (2) (by omega)).trans e12
  refine x_aload_0 dX0_clear_20 ?_
  refine x_const (c := 0) dX0_clear_21 rfl ?_
  refine x_putA dX0_clear_22 f_X0_24 (by assumption) (fun J22 fr22 e22 => ?_)
  have e2_p22 := (fr22 (a) (0) (by omega)).trans e2_p17
  have e7_p22 := (fr22 (a) (1) (by omega)).trans e7_p17
  have e12_p22 := (fr22 (a) (2) (by omega)).trans e12_p17
  have e17_p22 := (fr22 (a) (3) (by omega)).trans e17
  refine x_aload_0 dX0_clear_25 ?_
  refine x_const (c := 0) dX0_clear_26 rfl ?_
  refine x_putA dX0_clear_27 f_X0_27 (by assumption) (fun J27 fr27 e27 => ?_)
  have e2_p27 := (fr27 (a) (0) (by omega)).trans e2_p22
  have e7_p27 := (fr27 (a) (1) (by omega)).trans e7_p22
  have e12_p27 := (fr27 (a) (2) (by omega)).trans e12_p22
  have e17_p27 := (fr27 (a) (3) (by omega)).trans e17_p22
  have e22_p27 := (fr27 (a) (4) (by omega)).trans e22
  refine x_aload_0 dX0_clear_30 ?_
  refine x_const (c := 0) dX0_clear_31 rfl ?_
  refine x_putB dX0_clear_32 f_X0_30 (by assumption) (by first | exact Or.inl rfl | exact Or.inr rfl | assumption) (fun J32 fr32 e32 => ?_)
  have e2_p32 := (fr32 (a) (0) (by omega)).trans e2_p27
  have e7_p32 := (fr32 (a) (1) (by omega)).trans e7_p27
  have e12_p32 := (fr32 (a) (2) (by omega)).trans e12_p27
  have e17_p32 := (fr32 (a) (3) (by omega)).trans e17_p27
  have e22_p32 := (fr32 (a) (4) (by omega)).trans e22_p27
  have e27_p32 := (fr32 (a) (5) (by omega)).trans e27
  exact x_vret (st := []) dX0_clear_35 rfl (⟨rfl, rfl, fun b j hb => (fr32 b j (by omega)).trans ((fr27 b j (by omega)).trans ((fr22 b j (by omega)).trans ((fr17 b j (by omega)).trans ((fr12 b j (by omega)).trans ((fr7 b j (by omega)).trans (fr2 b j (by omega))))))), by assumption, by assumption, by assumption, by assumption, by assumption, by assumption, by assumption⟩)
set_option maxHeartbeats 4000000 in
theorem c_X0_copy {r : Ev} {n : Nat} {I : MI} {Q : MQ2} (a b0 : Nat) (hne : a ≠ b0) (ho : Ob n 0 a) (ho2 : Ob n 0 b0) (v0 v1 v2 v3 v4 v5 v6 : Int32) (g0 : I b0 0 = v0) (g1 : I b0 1 = v1) (g2 : I b0 2 = v2) (g3 : I b0 3 = v3) (g4 : I b0 4 = v4) (g5 : I b0 5 = v5) (g6 : I b0 6 = v6) (h01 : v6 = nI 0 ∨ v6 = nI 1) : CT r 0 yX0_copy cX0_copy (2, none) (0, 0) [.ref (evz r + a), .ref (evz r + b0)] n I Q (rv Q (fun J => FrS I J (fun b j => b = a ∧ j < 7) ∧ J a 0 = v0 ∧ J a 1 = v1 ∧ J a 2 = v2 ∧ J a 3 = v3 ∧ J a 4 = v4 ∧ J a 5 = v5 ∧ J a 6 = v6)) := by
  refine ct_of (lv := [some (.ref (evz r + a)), some (.ref (evz r + b0))]) (by decide +kernel) rfl rfl rfl ?_
  refine x_aload_0 dX0_copy_0 ?_
  refine x_aload_1 dX0_copy_1 ?_
  refine x_getV dX0_copy_2 f_X0_9 (by assumption) (by assumption) ?_
  refine x_putA dX0_copy_5 f_X0_9 (by assumption) (fun J5 fr5 e5 => ?_)
  have g0_p5 := (fr5 (b0) (0) (by omega)).trans g0
  have g1_p5 := (fr5 (b0) (1) (by omega)).trans g1
  have g2_p5 := (fr5 (b0) (2) (by omega)).trans g2
  have g3_p5 := (fr5 (b0) (3) (by omega)).trans g3
  have g4_p5 := (fr5 (b0) (4) (by omega)).trans g4
  have g5_p5 := (fr5 (b0) (5) (by omega)).trans g5
  have g6_p5 := (fr5 (b0) (6) (by omega)).trans g6
  refine x_aload_0 dX0_copy_8 ?_
  refine x_aload_1 dX0_copy_9 ?_
  refine x_getV dX0_copy_10 f_X0_15 (by assumption) (by assumption) ?_
  refine x_putA dX0_copy_13 f_X0_15 (by assumption) (fun J13 fr13 e13 => ?_)
  have g0_p13 := (fr13 (b0) (0) (by omega)).trans g0_p5
  have g1_p13 := (fr13 (b0) (1) (by omega)).trans g1_p5
  have g2_p13 := (fr13 (b0) (2) (by omega)).trans g2_p5
  have g3_p13 := (fr13 (b0) (3) (by omega)).trans g3_p5
  have g4_p13 := (fr13 (b0) (4) (by omega)).trans g4_p5
  have g5_p13 := (fr13 (b0) (5) (by omega)).trans g5_p5
  have g6_p13 := (fr13 (b0) (6) (by omega)).trans g6_p5
  have e5_p13 := (fr13 (a) (0) (by omega)).trans e5
  refine x_aload_0 dX0_copy_16 ?_
  refine x_aload_1 dX0_copy_17 ?_
  refine x_getV dX0_copy_18 f_X0_18 (by assumption) (by assumption) ?_
  refine x_putA dX0_copy_21 f_X0_18 (by assumption) (fun J21 fr21 e21 => ?_)
  have g0_p21 := (fr21 (b0) (0) (by omega)).trans g0_p13
  have g1_p21 := (fr21 (b0) (1) (by omega)).trans g1_p13
  have g2_p21 := (fr21 (b0) (2) (by omega)).trans g2_p13
  have g3_p21 := (fr21 (b0) (3) (by omega)).trans g3_p13
  have g4_p21 := (fr21 (b0) (4) (by omega)).trans g4_p13
  have g5_p21 := (fr21 (b0) (5) (by omega)).trans g5_p13
  have g6_p21 := (fr21 (b0) (6) (by omega)).trans g6_p13
  have e5_p21 := (fr21 (a) (0) (by omega)).trans e5_p13
  have e13_p21 := (fr21 (a) (1) (by omega)).trans e13
  refine x_aload_0 dX0_copy_24 ?_
  refine x_aload_1 dX0_copy_25 ?_
  refine x_getV dX0_copy_26 f_X0_21 (by assumption) (by assumption) ?_
  refine x_putA dX0_copy_29 f_X0_21 (by assumption) (fun J29 fr29 e29 => ?_)
  have g0_p29 := (fr29 (b0) (0) (by omega)).trans g0_p21
  have g1_p29 := (fr29 (b0) (1) (by omega)).trans g1_p21
  have g2_p29 := (fr29 (b0) (2) (by omega)).trans g2_p21
  have g3_p29 := (fr29 (b0) (3) (by omega)).trans g3_p21
  have g4_p29 := (fr29 (b0) (4) (by omega)).trans g4_p21
  have g5_p29 := (fr29 (b0) (5) (by omega)).trans g5_p21
  have g6_p29 := (fr29 (b0) (6) (by omega)).trans g6_p21
  have e5_p29 := (fr29 (a) (0) (by omega)).trans e5_p21
  have e13_p29 := (fr29 (a) (1) (by omega)).trans e13_p21
  have e21_p29 := (fr29 (a) (2) (by omega)).trans e21
  refine x_aload_0 dX0_copy_32 ?_
  refine x_aload_1 dX0_copy_33 ?_
  refine x_getV dX0_copy_34 f_X0_24 (by assumption) (by assumption) ?_
  refine x_putA dX0_copy_37 f_X0_24 (by assumption) (fun J37 fr37 e37 => ?_)
  have g0_p37 := (fr37 (b0) (0) (by omega)).trans g0_p29
  have g1_p37 := (fr37 (b0) (1) (by omega)).trans g1_p29
  have g2_p37 := (fr37 (b0) (2) (by omega)).trans g2_p29
  have g3_p37 := (fr37 (b0) (3) (by omega)).trans g3_p29
  have g4_p37 := (fr37 (b0) (4) (by omega)).trans g4_p29
  have g5_p37 := (fr37 (b0) (5) (by omega)).trans g5_p29
  have g6_p37 := (fr37 (b0) (6) (by omega)).trans g6_p29
  have e5_p37 := (fr37 (a) (0) (by omega)).trans e5_p29
  have e13_p37 := (fr37 (a) (1) (by omega)).trans e13_p29
  have e21_p37 := (fr37 (a) (2) (by omega)).trans e21_p29
  have e29_p37 := (fr37 (a) (3) (by omega)).trans e29
  refine x_aload_0 dX0_copy_40 ?_
  refine x_aload_1 dX0_copy_41 ?_
  refine x_getV dX0_copy_42 f_X0_27 (by assumption) (by assumption) ?_
  refine x_putA dX0_copy_45 f_X0_27 (by assumption) (fun J45 fr45 e45 => ?_)
  have g0_p45 := (fr45 (b0) (0) (by omega)).trans g0_p37
  have g1_p45 := (fr45 (b0) (1) (by omega)).trans g1_p37
  have g2_p45 := (fr45 (b0) (2) (by omega)).trans g2_p37
  have g3_p45 := (fr45 (b0) (3) (by omega)).trans g3_p37
  have g4_p45 := (fr45 (b0) (4) (by omega)).trans g4_p37
  have g5_p45 := (fr45 (b0) (5) (by omega)).trans g5_p37
  have g6_p45 := (fr45 (b0) (6) (by omega)).trans g6_p37
  have e5_p45 := (fr45 (a) (0) (by omega)).trans e5_p37
  have e13_p45 := (fr45 (a) (1) (by omega)).trans e13_p37
  have e21_p45 := (fr45 (a) (2) (by omega)).trans e21_p37
  have e29_p45 := (fr45 (a) (3) (by omega)).trans e29_p37
  have e37_p45 := (fr45 (a) (4) (by omega)).trans e37
  refine x_aload_0 dX0_copy_48 ?_
  refine x_aload_1 dX0_copy_49 ?_
  refine x_getV dX0_copy_50 f_X0_30 (by assumption) (by assumption) ?_
  refine x_putB dX0_copy_53 f_X0_30 (by assumption) (h01) (fun J53 fr53 e53 => ?_)
  have g0_p53 := (fr53 (b0) (0) (by omega)).trans g0_p45
  have g1_p53 := (fr53 (b0) (1) (by omega)).trans g1_p45
  have g2_p53 := (fr53 (b0) (2) (by omega)).trans g2_p45
  have g3_p53 := (fr53 (b0) (3) (by omega)).trans g3_p45
  have g4_p53 := (fr53 (b0) (4) (by omega)).trans g4_p45
  have g5_p53 := (fr53 (b0) (5) (by omega)).trans g5_p45
  have g6_p53 := (fr53 (b0) (6) (by omega)).trans g6_p45
  have e5_p53 := (fr53 (a) (0) (by omega)).trans e5_p45
  have e13_p53 := (fr53 (a) (1) (by omega)).trans e13_p45
  have e21_p53 := (fr53 (a) (2) (by omega)).trans e21_p45
  have e29_p53 := (fr53 (a) (3) (by omega)).trans e29_p45
  have e37_p53 := (fr53 (a) (4) (by omega)).trans e37_p45
  have e45_p53 := (fr53 (a) (5) (by omega)).trans e45
  exact x_vret (st := []) dX0_copy_56 rfl (⟨rfl, rfl, fun b j hb => (fr53 b j (by omega)).trans ((fr45 b j (by omega)).trans ((fr37 b j (by omega)).trans ((fr29 b j (by omega)).trans ((fr21 b j (by omega)).trans ((fr13 b j (by omega)).trans (fr5 b j (by omega))))))), by assumption, by assumption, by assumption, by assumption, by assumption, by assumption, by assumption⟩)
set_option maxHeartbeats 4000000 in
theorem c_X0_tell {r : Ev} {n : Nat} {I : MI} {Q : MQ2} (a what s : Nat) (ho : Ob n 0 a) (hw : what ≤ 5) (h6 : I a 6 = nI s) (hs : s ≤ 1) : CT r 0 yX0_tell cX0_tell (2, (some .int)) (0, 0) [.ref (evz r + a), .int (nI what)] n I Q (ri Q (fun x J => J = I ∧ x = I a (if what = 5 then 6 else what))) := by
  refine ct_of (lv := [some (.ref (evz r + a)), some (.int (nI what))]) (by decide +kernel) rfl rfl rfl ?_
  refine x_iload_1 dX0_tell_0 ?_
  by_cases q0 : what = 0
  · subst q0
    refine x_tsIn (off := 35) (t := 36) dX0_tell_1 (by decide) (by decide) (by decide) (by decide) ?_
    refine x_aload_0 dX0_tell_36 ?_
    refine x_geti dX0_tell_37 f_X0_9 (by assumption) ?_
    exact x_iret (st := []) dX0_tell_40 rfl rfl (⟨_, rfl, rfl, rfl, rfl⟩)
  by_cases q1 : what = 1
  · subst q1
    refine x_tsIn (off := 40) (t := 41) dX0_tell_1 (by decide) (by decide) (by decide) (by decide) ?_
    refine x_aload_0 dX0_tell_41 ?_
    refine x_geti dX0_tell_42 f_X0_15 (by assumption) ?_
    exact x_iret (st := []) dX0_tell_45 rfl rfl (⟨_, rfl, rfl, rfl, rfl⟩)
  by_cases q2 : what = 2
  · subst q2
    refine x_tsIn (off := 45) (t := 46) dX0_tell_1 (by decide) (by decide) (by decide) (by decide) ?_
    refine x_aload_0 dX0_tell_46 ?_
    refine x_geti dX0_tell_47 f_X0_18 (by assumption) ?_
    exact x_iret (st := []) dX0_tell_50 rfl rfl (⟨_, rfl, rfl, rfl, rfl⟩)
  by_cases q3 : what = 3
  · subst q3
    refine x_tsIn (off := 50) (t := 51) dX0_tell_1 (by decide) (by decide) (by decide) (by decide) ?_
    refine x_aload_0 dX0_tell_51 ?_
    refine x_geti dX0_tell_52 f_X0_21 (by assumption) ?_
    exact x_iret (st := []) dX0_tell_55 rfl rfl (⟨_, rfl, rfl, rfl, rfl⟩)
  by_cases q4 : what = 4
  · subst q4
    refine x_tsIn (off := 55) (t := 56) dX0_tell_1 (by decide) (by decide) (by decide) (by decide) ?_
    refine x_aload_0 dX0_tell_56 ?_
    refine x_geti dX0_tell_57 f_X0_24 (by assumption) ?_
    exact x_iret (st := []) dX0_tell_60 rfl rfl (⟨_, rfl, rfl, rfl, rfl⟩)
  have q5 : what = 5 := by omega
  subst q5
  refine x_tsOut (t := 61) dX0_tell_1 (by decide) (by decide) ?_
  refine x_aload_0 dX0_tell_61 ?_
  refine x_getV dX0_tell_62 f_X0_30 (by assumption) (by assumption) ?_
  refine x_if_eqN dX0_tell_65 (by omega) (fun c65 => ?_) (fun c65 => ?_)
  · refine x_const (c := 0) dX0_tell_72 rfl ?_
    exact x_iret (st := []) dX0_tell_73 rfl rfl (⟨_, rfl, rfl, rfl, by rw [if_pos rfl, h6]; congr 1; omega⟩)
  · refine x_const (c := 1) dX0_tell_68 rfl ?_
    refine x_goto dX0_tell_69 ?_
    exact x_iret (st := []) dX0_tell_73 rfl rfl (⟨_, rfl, rfl, rfl, by rw [if_pos rfl, h6]; congr 1; omega⟩)
set_option maxHeartbeats 4000000 in
theorem c_X0_init {r : Ev} {n : Nat} {I : MI} {Q : MQ2} (a : Nat) : CT r 1 yX0_init cX0_init (1, none) (0, 0) [.ref (evz r + a)] n I Q (RV (fun I' Q' => I' = I ∧ Q' = Q)) := by
  refine ct_of (lv := [some (.ref (evz r + a))]) (by decide +kernel) rfl rfl rfl ?_
  refine x_aload_0 dX0_init_0 ?_
  refine x_objinit dX0_init_1 m_X0_3 ?_
  exact x_vret (st := []) dX0_init_4 rfl (⟨rfl, rfl, rfl⟩)
