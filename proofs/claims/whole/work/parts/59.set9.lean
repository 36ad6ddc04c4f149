theorem inM_of {x : Int32} {hi : Nat} (hhi : hi < 100000000) (h1 : ¬ x < -1) (h2 : ¬ nI hi < x) : x = -1 ∨ inB x 0 hi := by
  have a1 : (-1 : Int32).toInt = -1 := rfl
  have b1 : ¬ x.toInt < -1 := fun z => h1 (Int32.lt_iff_toInt_lt.mpr (by rw [a1]; exact z))
  by_cases z : x.toInt = -1
  · exact Or.inl (Int32.toInt_inj.mp (z.trans a1.symm))
  · refine Or.inr (inR (by omega) hhi (fun y => ?_) h2)
    have := Int32.lt_iff_toInt_lt.mp y
    have e0 : (nI 0).toInt = 0 := rfl
    omega
theorem inM_lo {x : Int32} {hi : Nat} (hhi : hi < 100000000) (h : x < -1) : ¬ (x = -1 ∨ inB x 0 hi) := by
  rintro (rfl | z)
  · exact absurd h (by decide)
  · refine inB_lo hhi ?_ z
    have a1 : (-1 : Int32).toInt = -1 := rfl
    have e0 : (nI 0).toInt = 0 := rfl
    have := Int32.lt_iff_toInt_lt.mp h
    exact Int32.lt_iff_toInt_lt.mpr (by omega)
theorem inM_hi {x : Int32} {hi : Nat} (hhi : hi < 100000000) (h : nI hi < x) : ¬ (x = -1 ∨ inB x 0 hi) := by
  rintro (rfl | z)
  · have := Int32.lt_iff_toInt_lt.mp h
    rw [nI_toInt (by omega)] at this
    have a1 : (-1 : Int32).toInt = -1 := rfl
    omega
  · exact inB_hi hhi h z
set_option maxHeartbeats 4000000 in
theorem c_X9_inM {r : Ev} {n : Nat} {I : MI} {Q : MQ2} (x : Int32) (hi : Nat) (hhi : hi < 100000000) : CT r 0 yX9_in cX9_in (3, (some .boolean)) (0, 0) [.int x, .int (-1), .int (nI hi)] n I Q (ri Q (fun v J => J = I ∧ ((v = nI 1 ∧ (x = -1 ∨ inB x 0 hi)) ∨ (v = nI 0 ∧ ¬ (x = -1 ∨ inB x 0 hi))))) := by
  refine ct_of (lv := [some (.int x), some (.int (-1)), some (.int (nI hi))]) (by decide +kernel) rfl rfl rfl ?_
  refine x_iload_0 dX9_in_0 ?_
  refine x_iload_1 dX9_in_1 ?_
  refine x_icmp_lt dX9_in_2 (fun c2 => ?_) (fun c2 => ?_)
  · refine x_const (c := 0) dX9_in_14 rfl ?_
    exact x_iret (st := []) dX9_in_15 rfl rfl (⟨_, rfl, rfl, rfl, by first | exact Or.inl ⟨rfl, inM_of hhi c2 c7⟩ | exact Or.inr ⟨rfl, inM_lo hhi c2⟩ | exact Or.inr ⟨rfl, inM_hi hhi c7⟩⟩)
  · refine x_iload_0 dX9_in_5 ?_
    refine x_iload_2 dX9_in_6 ?_
    refine x_icmp_gt dX9_in_7 (fun c7 => ?_) (fun c7 => ?_)
    · refine x_const (c := 0) dX9_in_14 rfl ?_
      exact x_iret (st := []) dX9_in_15 rfl rfl (⟨_, rfl, rfl, rfl, by first | exact Or.inl ⟨rfl, inM_of hhi c2 c7⟩ | exact Or.inr ⟨rfl, inM_lo hhi c2⟩ | exact Or.inr ⟨rfl, inM_hi hhi c7⟩⟩)
    · refine x_const (c := 1) dX9_in_10 rfl ?_
      refine x_goto dX9_in_11 ?_
      exact x_iret (st := []) dX9_in_15 rfl rfl (⟨_, rfl, rfl, rfl, by first | exact Or.inl ⟨rfl, inM_of hhi c2 c7⟩ | exact Or.inr ⟨rfl, inM_lo hhi c2⟩ | exact Or.inr ⟨rfl, inM_hi hhi c7⟩⟩)
theorem nm1_lt {k : Nat} (h : k < 100000000) : ¬ nI k < 0 := nI_pos (by omega)
def orb (M d : Nat) : Nat := if M / 2 ^ d % 2 = 1 then M else M + 2 ^ d
theorem or_orb : ∀ d, d < 6 → ∀ M, M < 64 → nI M ||| (nI 1 <<< (nI d &&& 31)) = nI (orb M d) := by decide +kernel
theorem orb_bit : ∀ d, d < 6 → ∀ M, M < 64 → orb M d < 64 ∧ ∀ v, v < 6 → (orb M d / 2 ^ v % 2 = 1 ↔ (M / 2 ^ v % 2 = 1 ∨ v = d)) := by decide +kernel
theorem full_bit : ∀ N, N < 7 → ∀ M, M < 64 → (∀ v, v < 6 → N ≤ v → M / 2 ^ v % 2 = 0) → (M = 2 ^ N - 1 ↔ ∀ v, v < N → M / 2 ^ v % 2 = 1) := by decide +kernel
/-- what the reference has found so far of the loom that is asked for -/
def fdV (N : Nat) (p : Nat → Nat) (x : Int32) (b : Option (Nat × List Nat)) : Int32 := if x = -1 then -4 else plcV N p b x.toInt.toNat
def plcX (N : Nat) (p : Nat → Nat) (x : Int32) (L : List Nat) : Int32 := if x = -1 then -4 else nI (srtF N p (L.getD x.toInt.toNat 0))
set_option maxHeartbeats 4000000 in
theorem l_st1 {r : Ev} {n : Nat} {Q : MQ2} {F : Post} {I : MI} (a : Nat) (hb : MdB n Q a) (t : Tp) (hN : I (a + 2) 0 = nI (tN t)) (hn : tN t ≤ 6) (x : Int32) (w4 w5 w6 w7 w8 w9 : Option Value) (hx : X r 6 yX9_setting cX9_setting (10, (some .int)) (0, 0) 51 [some (.ref (evz r + a)), some (.int x), some (.int (nI ((tN t ^ tN t)))), some (.int (nI (tN t))), w4, w5, w6, w7, w8, w9] [] n I Q F) : ∀ (k : Nat) (i : Nat), i ≤ tN t → i + k = tN t + 1 → X r 6 yX9_setting cX9_setting (10, (some .int)) (0, 0) 26 [some (.ref (evz r + a)), some (.int x), some (.int (nI (tN t ^ i))), some (.int (nI (i))), w4, w5, w6, w7, w8, w9] [] n I Q F := by
  intro k
  induction k with
  | zero => intros; omega
  | succ k ih =>
    intro i hi0 hi
    obtain ⟨b0, bT, bO, bD, bB, bS, bP, bM, bN, bR, bH, qT, qO, qD, qB, qS, qP, qM, qN, qR, qH⟩ := id hb
    refine x_iload_3 dX9_setting_26 ?_
    refine x_aload_0 dX9_setting_27 ?_
    refine x_getr dX9_setting_28 f_X9_13 (by assumption) qO ?_
    refine x_const (c := 0) dX9_setting_31 rfl ?_
    refine x_ialdV dX9_setting_32 (by assumption) rfl (by omega) hN ?_
    refine x_icmp_geN dX9_setting_33 (by omega) (by omega) (fun c33 => ?_) (fun c33 => ?_)
    · have e9 : i = tN t := by omega
      rw [e9]
      exact hx
    · refine x_iload_2 dX9_setting_36 ?_
      refine x_aload_0 dX9_setting_37 ?_
      refine x_getr dX9_setting_38 f_X9_13 (by assumption) qO ?_
      refine x_const (c := 0) dX9_setting_41 rfl ?_
      refine x_ialdV dX9_setting_42 (by assumption) rfl (by omega) hN ?_
      refine x_imulN dX9_setting_43 ?_
      rw [show tN t ^ i * tN t = tN t ^ (i + 1) from rfl]
      refine x_istore_2 dX9_setting_44 rfl rfl ?_
      refine x_iinc_3 dX9_setting_45 (iinc1 _) rfl rfl ?_
      refine x_goto dX9_setting_48 ?_
      exact ih (i + 1) (by omega) (by omega)
set_option maxHeartbeats 4000000 in
theorem l_st2 {r : Ev} {n : Nat} {Q : MQ2} {F : Post} {I0 : MI} (a : Nat) (hb : MdB n Q a) (t : Tp) (h1 : 1 ≤ tN t) (hn : tN t ≤ 6) (hN0 : I0 (a + 2) 0 = nI (tN t)) (x : Int32) (w2 w3 w4 w9 : Option Value) (code : Nat) (hx : ∀ (J : MI) (M left : Nat) (lv : Int32), FrS I0 J (fun y j => y = a + 5 ∧ j < 6) → (∀ i, i < tN t → J (a + 5) i = nI ((dgs (tN t) code).getD i 0)) → (M = 2 ^ tN t - 1 ↔ isPm (tN t) (dgs (tN t) code) = true) → M < 64 → X r 6 yX9_setting cX9_setting (10, (some .int)) (0, 0) 136 [some (.ref (evz r + a)), some (.int x), w2, w3, w4, some (.int (nI (code))), some (.int (nI (left))), some (.int (nI (M))), some (.int lv), w9] [] n J Q F) : ∀ (k j left M : Nat) (lv : Int32) (acc : List Nat) (I : MI), j ≤ tN t → j + k = tN t + 1 → ((j < tN t ∧ lv = nI (tN t - 1 - j)) ∨ (j = tN t ∧ lv = -1)) → FrS I0 I (fun y j => y = a + 5 ∧ j < 6) → dgR (tN t) (tN t - j) left acc = (dgs (tN t) code) → acc.length = j → (∀ i, i < j → I (a + 5) (tN t - j + i) = nI (acc.getD i 0)) → (∀ z ∈ acc, z < tN t) → M < 64 → (∀ v, v < 6 → (M / 2 ^ v % 2 = 1 ↔ memN v acc = true)) → left < 50000 → X r 6 yX9_setting cX9_setting (10, (some .int)) (0, 0) 84 [some (.ref (evz r + a)), some (.int x), w2, w3, w4, some (.int (nI (code))), some (.int (nI (left))), some (.int (nI (M))), some (.int lv), w9] [] n I Q F := by
  intro k
  induction k with
  | zero => intros; omega
  | succ k ih =>
    intro j left M lv acc I hj0 hj hlv hfr hdg hal hac hlt hM hmb hleft
    obtain ⟨b0, bT, bO, bD, bB, bS, bP, bM, bN, bR, bH, qT, qO, qD, qB, qS, qP, qM, qN, qR, qH⟩ := id hb
    rcases hlv with ⟨hj1, rfl⟩ | ⟨hj1, rfl⟩
    · refine x_iload_8 dX9_setting_84 ?_
      refine x_if_lt dX9_setting_86 (fun c86 => absurd c86 (nI_pos (by omega))) (fun c86 => ?_)
      have hN : I (a + 2) 0 = nI (tN t) := (hfr _ _ (by omega)).trans hN0
      have hdl : left % tN t < tN t := Nat.mod_lt _ (by omega)
      have hdq : left / tN t ≤ left := Nat.div_le_self _ _
      refine x_aload_0 dX9_setting_89 ?_
      refine x_getr dX9_setting_90 f_X9_22 (by assumption) qS ?_
      refine x_iload_8 dX9_setting_93 ?_
      refine x_iload_6 dX9_setting_95 ?_
      refine x_aload_0 dX9_setting_97 ?_
      refine x_getr dX9_setting_98 f_X9_13 (by assumption) qO ?_
      refine x_const (c := 0) dX9_setting_101 rfl ?_
      refine x_ialdV dX9_setting_102 (by assumption) rfl (by omega) hN ?_
      refine x_iremN dX9_setting_103 (by omega) (by omega) (by omega) ?_
      refine x_iastA dX9_setting_104 (by assumption) rfl (by omega) (fun J104 fr104 e104 => ?_)
      refine x_iload_7 dX9_setting_105 ?_
      refine x_const (c := 1) dX9_setting_107 rfl ?_
      refine x_aload_0 dX9_setting_108 ?_
      refine x_getr dX9_setting_109 f_X9_22 (by assumption) qS ?_
      refine x_iload_8 dX9_setting_112 ?_
      refine x_ialdV dX9_setting_114 (by assumption) rfl (by omega) e104 ?_
      refine x_ishl dX9_setting_115 ?_
      refine x_ior dX9_setting_116 ?_
      rw [or_orb _ (by omega) M hM]
      refine x_istore_7 dX9_setting_117 rfl rfl ?_
      refine x_iload_6 dX9_setting_119 ?_
      refine x_aload_0 dX9_setting_121 ?_
      refine x_getr dX9_setting_122 f_X9_13 (by assumption) qO ?_
      refine x_const (c := 0) dX9_setting_125 rfl ?_
      refine x_ialdV dX9_setting_126 (by assumption) rfl (by omega) ((fr104 _ _ (by omega)).trans hN) ?_
      refine x_idivN dX9_setting_127 (by omega) (by omega) (by omega) ?_
      refine x_istore_6 dX9_setting_128 rfl rfl ?_
      have hac2 : ∀ i, i < j + 1 → J104 (a + 5) (tN t - (j + 1) + i) = nI ((left % tN t :: acc).getD i 0) := fun i hi => by
        cases i with
        | zero => rw [show tN t - (j + 1) + 0 = tN t - 1 - j by omega]; exact e104
        | succ i =>
          rw [fr104 _ _ (by omega), show tN t - (j + 1) + (i + 1) = tN t - j + i by omega]
          exact hac i (by omega)
      have hfr2 : FrS I0 J104 (fun y j => y = a + 5 ∧ j < 6) := fun y q hy => (fr104 _ _ (by omega)).trans (hfr y q hy)
      have hdg2 : dgR (tN t) (tN t - (j + 1)) (left / tN t) (left % tN t :: acc) = dgs (tN t) code := by
        rw [← hdg, show tN t - j = tN t - (j + 1) + 1 by omega]
        rfl
      have hlt2 : ∀ z ∈ (left % tN t :: acc), z < tN t := fun z hz => by
        rcases List.mem_cons.mp hz with e | e
        · rw [e]; exact hdl
        · exact hlt z e
      have hob := orb_bit (left % tN t) (by omega) M hM
      have hmb2 : ∀ v, v < 6 → (orb M (left % tN t) / 2 ^ v % 2 = 1 ↔ memN v (left % tN t :: acc) = true) := fun v hv => by
        rw [hob.2 v hv, hmb v hv]
        show _ ↔ (Nat.beq v (left % tN t) || memN v acc) = true
        rw [Bool.or_eq_true]
        constructor
        · rintro (z | z)
          · exact Or.inr z
          · exact Or.inl (by rw [z]; exact Nat.beq_refl _)
        · rintro (z | z)
          · exact Or.inr (Nat.eq_of_beq_eq_true z)
          · exact Or.inl z
      by_cases z : j + 1 = tN t
      · refine x_iinc_8 dX9_setting_130 (v := -1) (by rw [show tN t - 1 - j = 0 by omega]; rfl) rfl rfl ?_
        refine x_goto dX9_setting_133 ?_
        exact ih (j + 1) _ _ _ _ _ (by omega) (by omega) (Or.inr ⟨z, rfl⟩) hfr2 hdg2 (by show acc.length + 1 = j + 1; omega) hac2 hlt2 hob.1 hmb2 (by omega)
      · refine x_iinc_8 dX9_setting_130 (iincP (by omega)) rfl rfl ?_
        refine x_goto dX9_setting_133 ?_
        exact ih (j + 1) _ _ _ _ _ (by omega) (by omega) (Or.inl ⟨by omega, by rw [show tN t - 1 - j - 1 = tN t - 1 - (j + 1) by omega]⟩) hfr2 hdg2 (by show acc.length + 1 = j + 1; omega) hac2 hlt2 hob.1 hmb2 (by omega)
    · refine x_iload_8 dX9_setting_84 ?_
      refine x_if_lt dX9_setting_86 (fun c86 => ?_) (fun c86 => absurd m1n0 c86)
      have e0 : acc = dgs (tN t) code := by
        rw [hj1, Nat.sub_self] at hdg
        exact hdg
      refine hx I M left (-1) hfr (fun i hi => ?_) ?_ hM
      · have h9 := hac i (by omega)
        rw [hj1, Nat.sub_self, Nat.zero_add, e0] at h9
        exact h9
      · have hb0 : ∀ v, v < 6 → tN t ≤ v → M / 2 ^ v % 2 = 0 := fun v hv hv2 => by
          have h2 := bit01 M v
          by_cases z : M / 2 ^ v % 2 = 1
          · exfalso
            obtain ⟨i, hi, he⟩ := memN_iff.mp ((hmb v hv).mp z)
            have h3 : acc.getD i 0 ∈ acc := by
              rw [List.getD_eq_getElem?_getD, List.getElem?_eq_getElem hi]
              exact List.getElem_mem _
            have := hlt _ h3
            omega
          · omega
        rw [full_bit (tN t) (by omega) M hM hb0, ← e0]
        unfold isPm
        rw [allN_iff]
        exact ⟨fun h v hv => (hmb v (by omega)).mp (h v hv), fun h v hv => (hmb v (by omega)).mpr (h v hv)⟩
set_option maxHeartbeats 4000000 in
theorem l_st3 {r : Ev} {n : Nat} {Q : MQ2} {F : Post} {I0 : MI} (a : Nat) (hb : MdB n Q a) (t : Tp) (hn : tN t ≤ 6) (hN0 : I0 (a + 2) 0 = nI (tN t)) (s : St) (hk : okS t s) (hh0 : ∀ l, l < tN t → I0 (a + 10) l = nI (sP s l)) (x : Int32) (w2 w3 w4 w5 w6 w9 : Option Value) (M7 : Nat) (D : List Nat) (hD : ∀ i, i < tN t → D.getD i 0 < tN t) (hx : ∀ (J : MI), FrS I0 J (fun y j => y = a + 5 ∧ j < 6) → (∀ i, i < tN t → J (a + 5) i = nI (srtF (tN t) (sP s) (D.getD i 0))) → X r 6 yX9_setting cX9_setting (10, (some .int)) (0, 0) 189 [some (.ref (evz r + a)), some (.int x), w2, w3, w4, w5, w6, some (.int (nI (M7))), some (.int (nI (tN t))), w9] [] n J Q F) : ∀ (k : Nat) (i : Nat) (I : MI), i ≤ tN t → i + k = tN t + 1 → FrS I0 I (fun y j => y = a + 5 ∧ j < 6) → (∀ j, j < i → I (a + 5) j = nI (srtF (tN t) (sP s) (D.getD j 0))) → (∀ j, i ≤ j → j < tN t → I (a + 5) j = nI (D.getD j 0)) → X r 6 yX9_setting cX9_setting (10, (some .int)) (0, 0) 154 [some (.ref (evz r + a)), some (.int x), w2, w3, w4, w5, w6, some (.int (nI (M7))), some (.int (nI (i))), w9] [] n I Q F := by
  intro k
  induction k with
  | zero => intros; omega
  | succ k ih =>
    intro i I hi0 hi hfr ha2 hb2
    obtain ⟨b0, bT, bO, bD, bB, bS, bP, bM, bN, bR, bH, qT, qO, qD, qB, qS, qP, qM, qN, qR, qH⟩ := id hb
    refine x_iload_8 dX9_setting_154 ?_
    have hN : I (a + 2) 0 = nI (tN t) := (hfr _ _ (by omega)).trans hN0
    refine x_aload_0 dX9_setting_156 ?_
    refine x_getr dX9_setting_157 f_X9_13 (by assumption) qO ?_
    refine x_const (c := 0) dX9_setting_160 rfl ?_
    refine x_ialdV dX9_setting_161 (by assumption) rfl (by omega) hN ?_
    refine x_icmp_geN dX9_setting_162 (by omega) (by omega) (fun c162 => ?_) (fun c162 => ?_)
    · have e9 : i = tN t := by omega
      subst e9
      exact hx _ hfr ha2
    · refine x_aload_0 dX9_setting_165 ?_
      refine x_getr dX9_setting_166 f_X9_22 (by assumption) qS ?_
      refine x_iload_8 dX9_setting_169 ?_
      refine x_aload_0 dX9_setting_171 ?_
      refine x_aload_0 dX9_setting_172 ?_
      refine x_getr dX9_setting_173 f_X9_22 (by assumption) qS ?_
      refine x_iload_8 dX9_setting_176 ?_
      refine x_ialdV dX9_setting_178 (by assumption) rfl (by omega) (hb2 i (Nat.le_refl i) (by omega)) ?_
      refine x_V1i dX9_setting_179 m_X9_149 (c_X9_placeOf a hb t hN s (fun l hl => (hfr _ _ (by omega)).trans (hh0 l hl)) hk hn (D.getD i 0) (hD i (by omega))) (by assumption) (fun x179 I179 h179 => ?_)
      obtain ⟨rfl, rfl⟩ := h179
      refine x_iastA dX9_setting_182 (by assumption) rfl (by omega) (fun J182 fr182 e182 => ?_)
      refine x_iinc_8 dX9_setting_183 (iinc1 _) rfl rfl ?_
      refine x_goto dX9_setting_186 ?_
      exact ih (i + 1) _ (by omega) (by omega) (fun y q hy => (fr182 _ _ (by omega)).trans (hfr y q hy)) (fun j hj => by
        by_cases e : j = i
        · rw [e]; exact e182
        · exact (fr182 _ _ (by omega)).trans (ha2 j (by omega))) (fun j hj1 hj2 => (fr182 _ _ (by omega)).trans (hb2 j (by omega) hj2))
theorem wg_y {t : Tp} {g : Nt} {s : St} {b : Option (Nat × List Nat)} {L : List Nat} (h1 : nI (sumF (sX (wayU t g s L)) (tN t)) = nI (sumF (sX s) (tN t))) (h2 : mstV b < nI (ones6 (ydB t g (wayU t g s L)))) : wgS t g s b L = some (ones6 (ydB t g (wayU t g s L)), L) := if_pos ⟨h1, h2⟩
theorem wg_n {t : Tp} {g : Nt} {s : St} {b : Option (Nat × List Nat)} {L : List Nat} (h : ¬ (nI (sumF (sX (wayU t g s L)) (tN t)) = nI (sumF (sX s) (tN t)) ∧ mstV b < nI (ones6 (ydB t g (wayU t g s L))))) : wgS t g s b L = b := if_neg h
theorem fd_some (N : Nat) (p : Nat → Nat) (x : Int32) (y : Nat) (L : List Nat) : fdV N p x (some (y, L)) = plcX N p x L := rfl
set_option maxHeartbeats 4000000 in
theorem l_st4 {r : Ev} {n : Nat} {Q : MQ2} {F : Post} {I : MI} (a : Nat) (hb : MdB n Q a) (t : Tp) (g : Nt) (ho : tdp I (a + 2) t g) (ht : okT t) (hG : okN g) (h9 : ∀ l, l < tN t → tT t l ≤ 9) (s : St) (hk : okS t s) (hR : sR s ≤ 99) (b : Option (Nat × List Nat)) (D : List Nat) (hD : goodL (tN t) D) (hs : stp I (a + 5) t (wayS t s D)) (x : Int32) (c2 M7 : Nat) (w6 w8 w9 : Option Value) (code : Nat) (hx : ∀ (J : MI) (w8 w9 : Option Value), FrS I J (fun y _ => FtP9 a y) → X r 6 yX9_setting cX9_setting (10, (some .int)) (0, 0) 252 [some (.ref (evz r + a)), some (.int x), some (.int (nI (c2))), some (.int (mstV (wgS t g s b D))), some (.int (fdV (tN t) (sP s) x (wgS t g s b D))), some (.int (nI (code))), w6, some (.int (nI (M7))), w8, w9] [] n J Q F) : X r 6 yX9_setting cX9_setting (10, (some .int)) (0, 0) 204 [some (.ref (evz r + a)), some (.int x), some (.int (nI (c2))), some (.int (mstV b)), some (.int (fdV (tN t) (sP s) x b)), some (.int (nI (code))), w6, some (.int (nI (M7))), w8, w9] [.int (plcX (tN t) (sP s) x D)] n I Q F := by
  obtain ⟨b0, bT, bO, bD, bB, bS, bP, bM, bN, bR, bH, qT, qO, qD, qB, qS, qP, qM, qN, qR, qH⟩ := id hb
  have hn6 := ht.1
  have hkw := okS_way hk hD.1 hD.2
  refine x_istore_8 dX9_setting_204 rfl rfl ?_
  refine x_aload_0 dX9_setting_206 ?_
  refine x_bip (c := 12) dX9_setting_207 (by decide) ?_
  refine x_V1i dX9_setting_209 m_X9_131 (c_X9_sumOf a hb (tN t) ho.1 hn6 12 (by omega) _ hs.2.2.1) (by assumption) (fun x209 I209 h209 => ?_)
  obtain ⟨rfl, rfl⟩ := h209
  refine x_istore_9 dX9_setting_212 rfl rfl ?_
  refine x_aload_0 dX9_setting_214 ?_
  refine x_V0v dX9_setting_215 m_X9_143 (c_X9_sells a hb t g ho ht hG (wayS t s D) hkw hs (by show sR s ≤ 1000; omega)) (by assumption) (fun I215 h215 => ?_)
  obtain ⟨pf215, ps215⟩ := h215
  have ho2 := tdp_fr ho (fun j => pf215 _ _ (by unfold FtP9; omega))
  have hDD : ∀ l, l < tN t → sD (selS t g (wayS t s D)) l < 1000 := fun l hl => by have h1 := ((okS_sel (g := g) hkw).1 l hl).2.1; have := h9 l hl; omega
  refine x_aload_0 dX9_setting_218 ?_
  refine x_bip (c := 12) dX9_setting_219 (by decide) ?_
  refine x_V1i dX9_setting_221 m_X9_131 (c_X9_sumOf a hb (tN t) ((pf215 _ _ (by unfold FtP9; omega)).trans ho.1) hn6 12 (by omega) _ ps215.2.2.1) (by assumption) (fun x221 I221 h221 => ?_)
  obtain ⟨rfl, rfl⟩ := h221
  refine x_iload_9 dX9_setting_224 ?_
  refine x_icmp_ne dX9_setting_226 (fun c226 => ?_) (fun c226 => ?_)
  · have e1 : wgS t g s b D = b := wg_n (fun z => c226 z.1)
    rw [e1] at hx
    exact hx _ _ _ pf215
  · refine x_aload_0 dX9_setting_229 ?_
    refine x_V0i dX9_setting_230 m_X9_146 (c_X9_yardsNow a hb t g ho2 _ ps215 hn6 hDD (by have := hG.2.2.2.2.2.2; omega)) (by assumption) (fun x230 I230 h230 => ?_)
    obtain ⟨rfl, rfl⟩ := h230
    refine x_S1i dX9_setting_233 m_X9_152 (c_X9_ones _ (ydB_lt (t := t) (g := g) (s := wayU t g s D) hn6)) (fun x233 I233 h233 => ?_)
    obtain ⟨rfl, rfl⟩ := h233
    refine x_iload_3 dX9_setting_236 ?_
    refine x_icmp_le dX9_setting_237 (fun c237 => ?_) (fun c237 => ?_)
    · have e1 : wgS t g s b D = b := wg_n (fun z => absurd z.2 (Int32.not_lt.mpr c237))
      rw [e1] at hx
      exact hx _ _ _ pf215
    · refine x_aload_0 dX9_setting_240 ?_
      refine x_V0i dX9_setting_241 m_X9_146 (c_X9_yardsNow a hb t g ho2 _ ps215 hn6 hDD (by have := hG.2.2.2.2.2.2; omega)) (by assumption) (fun x241 I241 h241 => ?_)
      obtain ⟨rfl, rfl⟩ := h241
      refine x_S1i dX9_setting_244 m_X9_152 (c_X9_ones _ (ydB_lt (t := t) (g := g) (s := wayU t g s D) hn6)) (fun x244 I244 h244 => ?_)
      obtain ⟨rfl, rfl⟩ := h244
      refine x_istore_3 dX9_setting_247 rfl rfl ?_
      refine x_iload_8 dX9_setting_248 ?_
      refine x_istore_4 dX9_setting_250 rfl rfl ?_
      have e1 : wgS t g s b D = some (ones6 (ydB t g (wayU t g s D)), D) := wg_y c226 (Int32.not_le.mp c237)
      rw [e1] at hx
      exact hx _ _ _ pf215
theorem stp_way {I J : MI} {c : Nat} {t : Tp} {s : St} {D : List Nat} (h : stp I c t s) (hn : tN t ≤ 6) (f : ∀ j, 6 ≤ j → J c j = I c j) (hp : ∀ l, l < tN t → J c l = nI (srtF (tN t) (sP s) (D.getD l 0))) : stp J c t (wayS t s D) := by
  obtain ⟨h0, h1, h2, h3, h4, h5⟩ := h
  exact ⟨hp, fun l hl => (f _ (by omega)).trans (h1 l hl), fun l hl => (f _ (by omega)).trans (h2 l hl), fun l hl => (f _ (by omega)).trans (h3 l hl), (f _ (by omega)).trans h4, (f _ (by omega)).trans h5⟩
theorem l_st189 {r : Ev} {n : Nat} {Q : MQ2} {F : Post} {I : MI} (a : Nat) (hb : MdB n Q a) (t : Tp) (hn : tN t ≤ 6) (s : St) (D : List Nat) (hp : ∀ l, l < tN t → I (a + 5) l = nI (srtF (tN t) (sP s) (D.getD l 0))) (x : Int32) (w2 w3 w4 w5 w6 w7 w8 w9 : Option Value) (hxx : x = -1 ∨ ∃ k0, k0 < tN t ∧ x = nI k0) (hx : X r 6 yX9_setting cX9_setting (10, (some .int)) (0, 0) 204 [some (.ref (evz r + a)), some (.int x), w2, w3, w4, w5, w6, w7, w8, w9] [.int (plcX (tN t) (sP s) x D)] n I Q F) : X r 6 yX9_setting cX9_setting (10, (some .int)) (0, 0) 189 [some (.ref (evz r + a)), some (.int x), w2, w3, w4, w5, w6, w7, w8, w9] [] n I Q F := by
  obtain ⟨b0, bT, bO, bD, bB, bS, bP, bM, bN, bR, bH, qT, qO, qD, qB, qS, qP, qM, qN, qR, qH⟩ := id hb
  rcases hxx with rfl | ⟨k0, hk0, rfl⟩
  · refine x_iload_1 dX9_setting_189 ?_
    refine x_if_ge dX9_setting_190 (fun c => absurd c n0m1) (fun _ => ?_)
    refine x_bipush (v := -4) dX9_setting_193 (by decide) ?_
    refine x_goto dX9_setting_195 ?_
    have e : plcX (tN t) (sP s) (-1) D = -4 := if_pos rfl
    rw [e] at hx
    exact hx
  · refine x_iload_1 dX9_setting_189 ?_
    refine x_if_ge dX9_setting_190 (fun _ => ?_) (fun c => absurd (nI_pos' (by omega)) c)
    refine x_aload_0 dX9_setting_198 ?_
    refine x_getr dX9_setting_199 f_X9_22 (by assumption) qS ?_
    refine x_iload_1 dX9_setting_202 ?_
    refine x_ialdV dX9_setting_203 (by assumption) rfl (by omega) (hp k0 hk0) ?_
    have e : plcX (tN t) (sP s) (nI k0) D = nI (srtF (tN t) (sP s) (D.getD k0 0)) := by
      unfold plcX
      rw [if_neg (nI_nm1 (by omega)), nI_toInt (by omega)]
      rfl
    rw [e] at hx
    exact hx
set_option maxHeartbeats 4000000 in
theorem l_st252 {r : Ev} {n : Nat} {Q : MQ2} {F : Post} {I : MI} (a : Nat) (hb : MdB n Q a) (x : Int32) (w2 w3 w6 w7 w8 w9 : Option Value) (f4 : Int32) (code : Nat) (hx : ∀ (J : MI), FrS I J (fun y _ => y = a + 5) → (∀ j, j < 26 → J (a + 5) j = I (a + 10) j) → X r 6 yX9_setting cX9_setting (10, (some .int)) (0, 0) 61 [some (.ref (evz r + a)), some (.int x), w2, w3, some (.int f4), some (.int (nI (code + 1))), w6, w7, w8, w9] [] n J Q F) : X r 6 yX9_setting cX9_setting (10, (some .int)) (0, 0) 252 [some (.ref (evz r + a)), some (.int x), w2, w3, some (.int f4), some (.int (nI (code))), w6, w7, w8, w9] [] n I Q F := by
  obtain ⟨b0, bT, bO, bD, bB, bS, bP, bM, bN, bR, bH, qT, qO, qD, qB, qS, qP, qM, qN, qR, qH⟩ := id hb
  refine x_aload_0 dX9_setting_252 ?_
  refine x_V0v dX9_setting_253 m_X9_140 (c_X9_bringsBack a hb) (by assumption) (fun I253 h253 => ?_)
  obtain ⟨cf253, cc253⟩ := h253
  refine x_iinc_5 dX9_setting_256 (iinc1 _) rfl rfl ?_
  refine x_goto dX9_setting_259 ?_
  exact hx _ cf253 cc253
theorem pwNN : ∀ N, N < 7 → N ^ N ≤ 46656 := by decide
theorem mF_yes {β : Type} {w : β → List Nat → β} {b0 : β} {N c : Nat} (h : isPm N (dgs N c) = true) : mF w b0 N (c + 1) = w (mF w b0 N c) (dgs N c) := if_pos h
theorem mF_no {β : Type} {w : β → List Nat → β} {b0 : β} {N c : Nat} (h : ¬ isPm N (dgs N c) = true) : mF w b0 N (c + 1) = mF w b0 N c := if_neg h
set_option maxHeartbeats 4000000 in
theorem l_st5 {r : Ev} {n : Nat} {Q : MQ2} {F : Post} {I0 : MI} (a : Nat) (hb : MdB n Q a) (t : Tp) (g : Nt) (ho0 : tdp I0 (a + 2) t g) (ht : okT t) (hG : okN g) (s : St) (hk : okS t s) (hR : sR s ≤ 99) (hheld : ∀ j, j < 26 → I0 (a + 10) j = I0 (a + 5) j) (hs0 : stp I0 (a + 5) t s) (h1 : 1 ≤ tN t) (h9 : ∀ l, l < tN t → tT t l ≤ 9) (x : Int32) (hxx : x = -1 ∨ ∃ k0, k0 < tN t ∧ x = nI k0) (hx : ∀ (J : MI) (w6 w7 w8 w9 : Option Value), FrS I0 J (fun y _ => FtP9 a y) → stp J (a + 5) t s → X r 6 yX9_setting cX9_setting (10, (some .int)) (0, 0) 262 [some (.ref (evz r + a)), some (.int x), some (.int (nI ((tN t ^ tN t)))), some (.int (mstV (mF (wgS t g s) none (tN t) (tN t ^ tN t)))), some (.int (fdV (tN t) (sP s) x (mF (wgS t g s) none (tN t) (tN t ^ tN t)))), some (.int (nI ((tN t ^ tN t)))), w6, w7, w8, w9] [] n J Q F) : ∀ (k : Nat) (code : Nat) (m3 f4 : Int32) (I : MI) (w6 w7 w8 w9 : Option Value), code ≤ (tN t ^ tN t) → code + k = (tN t ^ tN t) + 1 → FrS I0 I (fun y _ => FtP9 a y) → stp I (a + 5) t s → m3 = mstV (mF (wgS t g s) none (tN t) code) → f4 = fdV (tN t) (sP s) x (mF (wgS t g s) none (tN t) code) → X r 6 yX9_setting cX9_setting (10, (some .int)) (0, 0) 61 [some (.ref (evz r + a)), some (.int x), some (.int (nI ((tN t ^ tN t)))), some (.int m3), some (.int f4), some (.int (nI (code))), w6, w7, w8, w9] [] n I Q F := by
  intro k
  induction k with
  | zero => intros; omega
  | succ k ih =>
    intro code m3 f4 I w6 w7 w8 w9 hi0 hi hfr hs hm3 hf4
    subst hm3
    subst hf4
    obtain ⟨b0, bT, bO, bD, bB, bS, bP, bM, bN, bR, bH, qT, qO, qD, qB, qS, qP, qM, qN, qR, qH⟩ := id hb
    
    refine x_iload_5 dX9_setting_61 ?_
    have hn6 := ht.1
    have hpw := pwNN (tN t) (by omega)
    have hpw2 := pw6 (tN t) (by omega)
    have hpw3 := Nat.two_pow_pos (tN t)
    have ho : tdp I (a + 2) t g := tdp_fr ho0 (fun j => hfr _ _ (by unfold FtP9; omega))
    have hok := dgs_ok (N := tN t) (c := code) h1
    refine x_iload_2 dX9_setting_63 ?_
    refine x_icmp_geN dX9_setting_64 (by omega) (by omega) (fun c64 => ?_) (fun c64 => ?_)
    · have e9 : code = tN t ^ tN t := by omega
      subst e9
      exact hx _ _ _ _ _ hfr hs
    · refine x_iload_5 dX9_setting_67 ?_
      refine x_istore_6 dX9_setting_69 rfl rfl ?_
      refine x_const (c := 0) dX9_setting_71 rfl ?_
      refine x_istore_7 dX9_setting_72 rfl rfl ?_
      refine x_aload_0 dX9_setting_74 ?_
      refine x_getr dX9_setting_75 f_X9_13 (by assumption) qO ?_
      refine x_const (c := 0) dX9_setting_78 rfl ?_
      refine x_ialdV dX9_setting_79 (by assumption) rfl (by omega) ho.1 ?_
      refine x_const (c := 1) dX9_setting_80 rfl ?_
      refine x_isubN dX9_setting_81 (by omega) ?_
      refine x_istore_8 dX9_setting_82 rfl rfl ?_
      refine l_st2 a hb t h1 hn6 ho.1 x _ _ _ _ code (fun J1 M left lv fd1 hD1 hMi hM64 => ?_) (tN t + 1) 0 code 0 _ [] _ (by omega) (by omega) (Or.inl ⟨by omega, rfl⟩) (fun _ _ _ => rfl) rfl rfl (fun i hi => absurd hi (Nat.not_lt_zero i)) (fun z hz => by cases hz) (by decide) (fun v hv => ⟨fun z => (by rw [Nat.zero_div] at z; cases z), fun z => (by cases z)⟩) (by omega)
      refine x_iload_7 dX9_setting_136 ?_
      refine x_const (c := 1) dX9_setting_138 rfl ?_
      refine x_aload_0 dX9_setting_139 ?_
      refine x_getr dX9_setting_140 f_X9_13 (by assumption) qO ?_
      refine x_const (c := 0) dX9_setting_143 rfl ?_
      refine x_ialdV dX9_setting_144 (by assumption) rfl (by omega) ((fd1 _ _ (by omega)).trans ho.1) ?_
      refine x_ishl dX9_setting_145 ?_
      rw [shl_1 (tN t) (by omega)]
      refine x_const (c := 1) dX9_setting_146 rfl ?_
      refine x_isubN dX9_setting_147 (by omega) ?_
      refine x_icmp_neN dX9_setting_148 (by omega) (by omega) (fun c148 => ?_) (fun c148 => ?_)
      · have hnp : ¬ isPm (tN t) (dgs (tN t) code) = true := fun z => c148 (hMi.mpr z)
        have e8 : mF (wgS t g s) none (tN t) (code + 1) = mF (wgS t g s) none (tN t) code := mF_no hnp
        rw [← e8]
        refine l_st252 a hb x _ _ _ _ _ _ _ code (fun J4 f4 c4 => ?_)
        refine ih (code + 1) _ _ _ _ _ _ _ (by omega) (by omega) (fun y q hy => (f4 y q (fun z => hy (Or.inl z))).trans ((fd1 y q (fun z => hy (Or.inl z.1))).trans (hfr y q hy))) (stp_to hs0 hn6 (fun j hj => (c4 j hj).trans ((fd1 _ _ (by omega)).trans ((hfr _ _ (by unfold FtP9; omega)).trans (hheld j hj))))) rfl rfl
      · have hyp : isPm (tN t) (dgs (tN t) code) = true := hMi.mp (by omega)
        refine x_const (c := 0) dX9_setting_151 rfl ?_
        refine x_istore_8 dX9_setting_152 rfl rfl ?_
        refine l_st3 a hb t hn6 ((fd1 _ _ (by omega)).trans ho.1) s hk (fun l hl => (fd1 _ _ (by omega)).trans ((hfr _ _ (by unfold FtP9; omega)).trans ((hheld l (by omega)).trans (hs0.1 l hl)))) x _ _ _ _ _ _ _ (dgs (tN t) code) hok.2 (fun J2 fd2 hD2 => ?_) (tN t + 1) 0 _ (by omega) (by omega) (fun _ _ _ => rfl) (fun j hj => absurd hj (Nat.not_lt_zero j)) (fun j _ hj => hD1 j hj)
        have f12 : ∀ y q, ¬ (y = a + 5 ∧ q < 6) → J2 y q = I y q := fun y q hy => (fd2 y q hy).trans (fd1 y q hy)
        have hgd : goodL (tN t) (dgs (tN t) code) := ⟨hok.2, pm_inj hok.1 hyp⟩
        refine l_st189 a hb t hn6 s (dgs (tN t) code) hD2 x _ _ _ _ _ _ _ _ hxx ?_
        refine l_st4 a hb t g (tdp_fr ho (fun j => f12 _ _ (by omega))) ht hG h9 s hk hR _ (dgs (tN t) code) hgd (stp_way hs hn6 (fun j hj => f12 _ _ (by omega)) hD2) x _ _ _ _ _ code (fun J3 w8 w9 f3 => ?_)
        rw [← mF_yes (w := wgS t g s) (b0 := none) hyp]
        refine l_st252 a hb x _ _ _ _ _ _ _ code (fun J4 f4 c4 => ?_)
        refine ih (code + 1) _ _ _ _ _ _ _ (by omega) (by omega) (fun y q hy => (f4 y q (fun z => hy (Or.inl z))).trans ((f3 y q hy).trans ((f12 y q (fun z => hy (Or.inl z.1))).trans (hfr y q hy)))) (stp_to hs0 hn6 (fun j hj => (c4 j hj).trans ((f3 _ _ (by unfold FtP9; omega)).trans ((f12 _ _ (by omega)).trans ((hfr _ _ (by unfold FtP9; omega)).trans (hheld j hj)))))) rfl rfl
theorem l_st262 {r : Ev} {n : Nat} {Q : MQ2} {F : Post} {I : MI} (a N : Nat) (p : Nat → Nat) (b : Option (Nat × List Nat)) (hN : N ≤ 6) (x : Int32) (w2 w5 w6 w7 w8 w9 : Option Value) (hxx : x = -1 ∨ ∃ k0, k0 < N ∧ x = nI k0) (hF : F (some (.int (if x = -1 then mstV b else plcV N p b x.toInt.toNat))) I Q) : X r 6 yX9_setting cX9_setting (10, (some .int)) (0, 0) 262 [some (.ref (evz r + a)), some (.int x), w2, some (.int (mstV b)), some (.int (fdV N p x b)), w5, w6, w7, w8, w9] [] n I Q F := by
  rcases hxx with rfl | ⟨k0, hk0, rfl⟩
  · refine x_iload_1 dX9_setting_262 ?_
    refine x_if_ge dX9_setting_263 (fun c => absurd c n0m1) (fun _ => ?_)
    refine x_iload_3 dX9_setting_266 ?_
    refine x_goto dX9_setting_267 ?_
    rw [if_pos rfl] at hF
    exact x_iret (st := []) dX9_setting_272 rfl rfl hF
  · refine x_iload_1 dX9_setting_262 ?_
    refine x_if_ge dX9_setting_263 (fun _ => ?_) (fun c => absurd (nI_pos' (by omega)) c)
    refine x_iload_4 dX9_setting_270 ?_
    have e : fdV N p (nI k0) b = (if nI k0 = -1 then mstV b else plcV N p b (nI k0).toInt.toNat) := by
      unfold fdV
      rw [if_neg (nI_nm1 (by omega)), if_neg (nI_nm1 (by omega))]
    rw [e]
    exact x_iret (st := []) dX9_setting_272 rfl rfl hF
theorem set_y {S : Sy} {x : Int32} (h1 : 1 ≤ tN (yt S)) (h6 : tN (yt S) ≤ 6) (hxx : x = -1 ∨ inB x 0 (tN (yt S) - 1)) : A_setting S x = (if x = -1 then mstV (setB (yt S) (yg S) (ys S)) else plcV (tN (yt S)) (sP (ys S)) (setB (yt S) (yg S) (ys S)) x.toInt.toNat, S) := by
  unfold A_setting
  by_cases z : x = -1
  · rw [if_pos z, if_pos z]
  · rw [if_neg z, if_neg z]
    rcases hxx with y | ⟨j, h0, hj, rfl⟩
    · exact absurd y z
    · rw [onI_y h0 hj (by omega), nI_toInt (by omega)]
      rfl
theorem set_n {S : Sy} {x : Int32} (h : ¬ (x = -1 ∨ inB x 0 (tN (yt S) - 1))) : A_setting S x = (-1, S) := by
  unfold A_setting
  rw [if_neg (fun z => h (Or.inl z)), onI_n (fun z => h (Or.inr z))]
theorem inM_k {x : Int32} {N : Nat} (h1 : 1 ≤ N) (h : x = -1 ∨ inB x 0 (N - 1)) : x = -1 ∨ ∃ k0, k0 < N ∧ x = nI k0 := by
  rcases h with h | ⟨j, h0, hj, rfl⟩
  · exact Or.inl h
  · exact Or.inr ⟨j, by omega, rfl⟩
set_option maxHeartbeats 4000000 in
theorem c_X9_setting {r : Ev} {n : Nat} {I : MI} {Q : MQ2} (a : Nat) (hb : MdB n Q a) (S : Sy) (hm : MdI I a S) (hok : okY S) (x : Int32) : CT r 6 yX9_setting cX9_setting (10, (some .int)) (0, 0) [.ref (evz r + a), .int x] n I Q (ri Q (fun v J => FrS I J (FtMd a) ∧ MdI J a (A_setting S x).2 ∧ v = (A_setting S x).1)) := by
  refine ct_of (lv := [some (.ref (evz r + a)), some (.int x), none, none, none, none, none, none, none, none]) (by decide +kernel) rfl rfl rfl ?_
  obtain ⟨b0, bT, bO, bD, bB, bS, bP, bM, bN, bR, bH, qT, qO, qD, qB, qS, qP, qM, qN, qR, qH⟩ := id hb
  obtain ⟨ht, ho, hs, ⟨h7, hp⟩, ⟨h9, hq⟩, h11, hw⟩ := id hm
  obtain ⟨y1, y2, y3, y4, y5, y6, y7, y8, y9, y10, y11, y12⟩ := id hok
  have hn6 := y3.1
  refine x_iload_1 dX9_setting_0 ?_
  refine x_iconst (v := -1) dX9_setting_1 rfl ?_
  refine x_aload_0 dX9_setting_2 ?_
  refine x_getr dX9_setting_3 f_X9_13 (by assumption) qO ?_
  refine x_const (c := 0) dX9_setting_6 rfl ?_
  refine x_ialdV dX9_setting_7 (by assumption) rfl (by omega) ho.1 ?_
  refine x_const (c := 1) dX9_setting_8 rfl ?_
  refine x_isubN dX9_setting_9 (by omega) ?_
  refine x_S3i dX9_setting_10 m_X9_54 (c_X9_inM x (tN (yt S) - 1) (by omega)) (fun x10 I10 h10 => ?_)
  obtain ⟨rfl, ⟨rfl, h10⟩ | ⟨rfl, h10⟩⟩ := h10
  · refine x_if_neN dX9_setting_13 (by omega) (fun c13 => ?_) (fun c13 => ?_)
    · refine x_aload_0 dX9_setting_18 ?_
      refine x_V0v dX9_setting_19 m_X9_137 (c_X9_keepsAside a hb) (by assumption) (fun I19 h19 => ?_)
      obtain ⟨cf19, cc19⟩ := h19
      have ho3 := tdp_fr ho (fun j => cf19 _ _ (by omega))
      have hs3 := stp_to hs hn6 (fun j _ => cf19 _ _ (by omega))
      refine x_const (c := 1) dX9_setting_22 rfl ?_
      refine x_istore_2 dX9_setting_23 rfl rfl ?_
      refine x_const (c := 0) dX9_setting_24 rfl ?_
      refine x_istore_3 dX9_setting_25 rfl rfl ?_
      refine l_st1 a hb (yt S) ho3.1 hn6 x _ _ _ _ _ _ ?_ (tN (yt S) + 1) 0 (by omega) (by omega)
      refine x_bipush (v := -4) dX9_setting_51 (by decide) ?_
      refine x_istore_3 dX9_setting_53 rfl rfl ?_
      refine x_bipush (v := -4) dX9_setting_54 (by decide) ?_
      refine x_istore_4 dX9_setting_56 rfl rfl ?_
      refine x_const (c := 0) dX9_setting_58 rfl ?_
      refine x_istore_5 dX9_setting_59 rfl rfl ?_
      refine l_st5 a hb (yt S) (yg S) ho3 y3 y4 (ys S) y5.1 y5.2 (fun j hj => (cc19 j hj).trans (cf19 _ _ (by omega)).symm) hs3 y6 y7 x (inM_k y6 h10) (fun J5 w6 w7 w8 w9 q1 q3 => ?_) (tN (yt S) ^ tN (yt S) + 1) 0 _ _ _ _ _ _ _ (Nat.zero_le _) (Nat.zero_add _) (fun _ _ _ => rfl) hs3 rfl (by unfold fdV; split <;> rfl)
      refine l_st262 a (tN (yt S)) (sP (ys S)) _ hn6 x _ _ _ _ _ _ (inM_k y6 h10) ⟨_, rfl, rfl, ?_⟩
      rw [set_y y6 hn6 h10]
      exact ⟨fun b j hb2 => (q1 b j (by unfold FtMd at hb2; unfold FtP9; omega)).trans (cf19 b j (by unfold FtMd at hb2; omega)), MdI_q (s := ys S) hm hn6 (fun x j hx => (q1 x j (by unfold FtP9; omega)).trans (cf19 x j (by omega))) q3, rfl⟩
    · exfalso; omega
  · refine x_if_neN dX9_setting_13 (by omega) (fun c13 => ?_) (fun c13 => ?_)
    · exfalso; omega
    · refine x_iconst (v := -1) dX9_setting_16 rfl ?_
      exact x_iret (st := []) dX9_setting_17 rfl rfl (⟨_, rfl, rfl, by rw [set_n h10]; exact ⟨fun _ _ _ => rfl, hm, rfl⟩⟩)
