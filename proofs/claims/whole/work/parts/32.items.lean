theorem okNums1 {T : Nat → Nat} {m p : Nat} : okNums T m p 1 ↔ okn T m p 59 := ⟨fun h => h 0 (by decide), fun h i hi => by obtain rfl : i = 0 := (by omega); exact h⟩
theorem okNums2 {T : Nat → Nat} {m p : Nat} : okNums T m p 2 ↔ okn T m p 44 ∧ okn T m (pNum T m p 1) 59 := ⟨fun h => ⟨h 0 (by decide), h 1 (by decide)⟩, fun h i hi => by
  rcases (show i = 0 ∨ i = 1 by omega) with rfl | rfl
  · exact h.1
  · exact h.2⟩
theorem okNums3 {T : Nat → Nat} {m p : Nat} : okNums T m p 3 ↔ okn T m p 44 ∧ okn T m (pNum T m p 1) 44 ∧ okn T m (pNum T m p 2) 59 := ⟨fun h => ⟨h 0 (by decide), h 1 (by decide), h 2 (by decide)⟩, fun h i hi => by
  rcases (show i = 0 ∨ i = 1 ∨ i = 2 by omega) with rfl | rfl | rfl
  · exact h.1
  · exact h.2.1
  · exact h.2.2⟩
def rlC (T : Nat → Nat) (m p : Nat) (u : Ts) : Prop := okv T m p 0 3 44 ∧ okv T m (pNum T m p 1) 0 9 44 ∧ okv T m (pNum T m p 2) 1 9 59 ∧ tN u.1 < 6 ∧ ∀ l, l < tN u.1 → sP u.2.1 l ≠ nvl T m (pNum T m p 1)
theorem n0m1 : ¬ (0 : Int32) ≤ -1 := by decide
theorem m1n0 : (-1 : Int32) < 0 := by decide
set_option maxHeartbeats 4000000 in
theorem l_X9_rlN {r : Ev} {n : Nat} {Q : MQ2} {F : Post} {I : MI} (a : Nat) (hb : MdB n Q a) (N : Nat) (hN : I (a + 3) 0 = nI N) (hN6 : N ≤ 6) (x1 x2 x3 : Int32) (hF : F (some (.int (nI 0))) I Q) : ∀ (k : Nat) (l : Nat), l ≤ N → l + k = N + 1 → X r 3 yX9_readsLoom cX9_readsLoom (6, (some .boolean)) (0, 0) 70 [some (.ref (evz r + a)), some (.int x1), some (.int x2), some (.int x3), some (.int (nI 0)), some (.int (nI l))] [] n I Q F := by
  intro k
  induction k with
  | zero => intros; omega
  | succ k ih =>
    intro l hl0 hl
    obtain ⟨b0, bT, bO, bD, bB, bS, bP, bM, bN, bR, bH, qT, qO, qD, qB, qS, qP, qM, qN, qR, qH⟩ := id hb
    refine x_iload_5 dX9_readsLoom_70 ?_
    refine x_aload_0 dX9_readsLoom_72 ?_
    refine x_getr dX9_readsLoom_73 f_X9_16 (by assumption) qD ?_
    refine x_const (c := 0) dX9_readsLoom_76 rfl ?_
    refine x_ialdV dX9_readsLoom_77 (by assumption) rfl (by omega) hN ?_
    refine x_icmp_geN dX9_readsLoom_78 (by omega) (by omega) (fun c78 => ?_) (fun c78 => ?_)
    · obtain rfl : l = N := (by omega)
      refine x_iload_4 dX9_readsLoom_110 ?_
      refine x_if_eqN dX9_readsLoom_112 (by omega) (fun c112 => ?_) (fun c112 => ?_)
      · refine x_iload_4 dX9_readsLoom_122 ?_
        exact x_iret (st := []) dX9_readsLoom_124 rfl rfl (hF)
      · exact absurd rfl c112
    · refine x_iload_4 dX9_readsLoom_81 ?_
      refine x_if_eqN dX9_readsLoom_83 (by omega) (fun c83 => ?_) (fun c83 => ?_)
      · refine x_const (c := 0) dX9_readsLoom_101 rfl ?_
        refine x_istore_4 dX9_readsLoom_102 rfl rfl ?_
        refine x_iinc_5 dX9_readsLoom_104 (iinc1 _) rfl rfl ?_
        refine x_goto dX9_readsLoom_107 ?_
        exact ih (l + 1) (by omega) (by omega)
      · exact absurd rfl c83
set_option maxHeartbeats 4000000 in
theorem l_X9_rlY {r : Ev} {n : Nat} {Q : MQ2} {F : Post} {I : MI} (a : Nat) (hb : MdB n Q a) (u : Ts) (hu : MP I a u) (hn : tN u.1 < 6) (k0 p0 th : Nat) (hp0 : p0 < 1000) (hsp : ∀ l, l < tN u.1 → sP u.2.1 l < 1000) (hF1 : ∀ J, (∀ l, l < tN u.1 → sP u.2.1 l ≠ p0) → FrS I J (fun x _ => x = a + 3 ∨ x = a + 4) → MP J a (addT u.1 k0 th, addS u.1 u.2.1 p0, u.2.2) → F (some (.int (nI 1))) J Q) (hF0 : (¬ ∀ l, l < tN u.1 → sP u.2.1 l ≠ p0) → F (some (.int (nI 0))) I Q) : ∀ (k : Nat) (l : Nat), l ≤ tN u.1 → l + k = tN u.1 + 1 → (∀ j, j < l → sP u.2.1 j ≠ p0) → X r 3 yX9_readsLoom cX9_readsLoom (6, (some .boolean)) (0, 0) 70 [some (.ref (evz r + a)), some (.int (nI (k0))), some (.int (nI (p0))), some (.int (nI (th))), some (.int (nI 1)), some (.int (nI l))] [] n I Q F := by
  intro k
  induction k with
  | zero => intros; omega
  | succ k ih =>
    intro l hl0 hl ho
    obtain ⟨b0, bT, bO, bD, bB, bS, bP, bM, bN, bR, bH, qT, qO, qD, qB, qS, qP, qM, qN, qR, qH⟩ := id hb
    refine x_iload_5 dX9_readsLoom_70 ?_
    refine x_aload_0 dX9_readsLoom_72 ?_
    refine x_getr dX9_readsLoom_73 f_X9_16 (by assumption) qD ?_
    refine x_const (c := 0) dX9_readsLoom_76 rfl ?_
    refine x_ialdV dX9_readsLoom_77 (by assumption) rfl (by omega) hu.1.1 ?_
    refine x_icmp_geN dX9_readsLoom_78 (by omega) (by omega) (fun c78 => ?_) (fun c78 => ?_)
    · obtain rfl : l = tN u.1 := (by omega)
      refine x_iload_4 dX9_readsLoom_110 ?_
      refine x_if_eqN dX9_readsLoom_112 (by omega) (fun c112 => ?_) (fun c112 => ?_)
      · exact absurd c112 (by decide)
      · refine x_aload_0 dX9_readsLoom_115 ?_
        refine x_iload_1 dX9_readsLoom_116 ?_
        refine x_iload_2 dX9_readsLoom_117 ?_
        refine x_iload_3 dX9_readsLoom_118 ?_
        refine x_V3v dX9_readsLoom_119 m_X9_43 (c_X9_loomOf a hb u hu hn k0 p0 th) (by assumption) (fun I119 h119 => ?_)
        obtain ⟨lf119, lu119⟩ := h119
        refine x_iload_4 dX9_readsLoom_122 ?_
        exact x_iret (st := []) dX9_readsLoom_124 rfl rfl (hF1 _ ho lf119 lu119)
    · have hsl := hsp l (by omega)
      refine x_iload_4 dX9_readsLoom_81 ?_
      refine x_if_eqN dX9_readsLoom_83 (by omega) (fun c83 => ?_) (fun c83 => ?_)
      · exact absurd c83 (by decide)
      · refine x_aload_0 dX9_readsLoom_86 ?_
        refine x_getr dX9_readsLoom_87 f_X9_19 (by assumption) qB ?_
        refine x_iload_5 dX9_readsLoom_90 ?_
        refine x_ialdV dX9_readsLoom_92 (by assumption) rfl (by omega) (hu.2 l (by omega)) ?_
        refine x_iload_2 dX9_readsLoom_93 ?_
        refine x_icmp_eqN dX9_readsLoom_94 (by omega) (by omega) (fun c94 => ?_) (fun c94 => ?_)
        · refine x_iconst (v := 0) dX9_readsLoom_101 rfl ?_
          refine x_istore_4 dX9_readsLoom_102 rfl rfl ?_
          refine x_iinc_5 dX9_readsLoom_104 (iinc1 _) rfl rfl ?_
          refine x_goto dX9_readsLoom_107 ?_
          exact l_X9_rlN a hb (tN u.1) hu.1.1 (by omega) _ _ _ (hF0 (fun z => z l (by omega) c94)) (tN u.1 - l) (l + 1) (by omega) (by omega)
          
        · refine x_const (c := 1) dX9_readsLoom_97 rfl ?_
          refine x_goto dX9_readsLoom_98 ?_
          refine x_istore_4 dX9_readsLoom_102 rfl rfl ?_
          refine x_iinc_5 dX9_readsLoom_104 (iinc1 _) rfl rfl ?_
          refine x_goto dX9_readsLoom_107 ?_
          exact ih (l + 1) (by omega) (by omega) (fun j hj => (Nat.lt_or_ge j l).elim (ho j) (fun z => by obtain rfl : j = l := (by omega); exact c94))
theorem fr12 {I J K : MI} {a k : Nat} (h1 : Fr1 I J a k) (h2 : Fr1 J K a k) : Fr1 I K a k := fun x j hx => (h2 x j hx).trans (h1 x j hx)
set_option maxHeartbeats 4000000 in
theorem c_X9_readsLoom {r : Ev} {n : Nat} {I : MI} {Q : MQ2} (a : Nat) (hb : MdB n Q a) (m : Nat) (T : Nat → Nat) (ht : txm I a m T) (hm : m ≤ 200) (hT : ∀ k, k < m → T k < 128) (u : Ts) (hu : MP I a u) (hn : tN u.1 ≤ 6) (hsp : ∀ l, l < tN u.1 → sP u.2.1 l < 1000) (p : Nat) (hI : I a 12 = nI p) (hp : p ≤ 201) : CT r 3 yX9_readsLoom cX9_readsLoom (6, (some .boolean)) (0, 0) [.ref (evz r + a)] n I Q (ri Q (fun v J => FrS I J (FtM a) ∧ ((v = nI 1 ∧ rlC T m p u ∧ J a 12 = nI (pNum T m p 3) ∧ MP J a (addT u.1 (nvl T m p) (nvl T m (pNum T m p 2)), addS u.1 u.2.1 (nvl T m (pNum T m p 1)), u.2.2)) ∨ (v = nI 0 ∧ ¬ rlC T m p u)))) := by
  refine ct_of (lv := [some (.ref (evz r + a)), none, none, none, none, none]) (by decide +kernel) rfl rfl rfl ?_
  obtain ⟨b0, bT, bO, bD, bB, bS, bP, bM, bN, bR, bH, qT, qO, qD, qB, qS, qP, qM, qN, qR, qH⟩ := id hb
  refine x_aload_0 dX9_readsLoom_0 ?_
  refine x_const (c := 0) dX9_readsLoom_1 rfl ?_
  refine x_const (c := 3) dX9_readsLoom_2 rfl ?_
  refine x_bip (c := 44) dX9_readsLoom_3 (by decide) ?_
  refine x_V3i dX9_readsLoom_5 m_X9_73 (c_X9_number a hb m T ht hm hT p 0 3 44 (by assumption) (by omega) (by omega) (by omega) (by omega) (by omega)) (by assumption) (fun x5 I5 h5 => ?_)
  obtain ⟨nf5, ⟨rfl, nv5, na5⟩ | ⟨rfl, nv5⟩⟩ := h5
  · have n99 := nvl_le nv5.1.1
    have np1 : pNum T m p 1 ≤ m := okn_lt nv5.1 (by decide)
    refine x_istore_1 dX9_readsLoom_8 rfl rfl ?_
    refine x_iload_1 dX9_readsLoom_9 ?_
    refine x_if_ge dX9_readsLoom_10 (fun c10 => ?_) (fun c10 => ?_)
    · refine x_aload_0 dX9_readsLoom_17 ?_
      refine x_const (c := 0) dX9_readsLoom_18 rfl ?_
      refine x_bip (c := 9) dX9_readsLoom_19 (by decide) ?_
      refine x_bip (c := 44) dX9_readsLoom_21 (by decide) ?_
      refine x_V3i dX9_readsLoom_23 m_X9_73 (c_X9_number a hb m T (txm_at ht nf5) hm hT (pNum T m p 1) 0 9 44 na5 (by omega) (by omega) (by omega) (by omega) (by omega)) (by assumption) (fun x23 I23 h23 => ?_)
      obtain ⟨nf23, ⟨rfl, nv23, na23⟩ | ⟨rfl, nv23⟩⟩ := h23
      · have n98 := nvl_le nv23.1.1
        have np2 : pNum T m p 2 ≤ m := okn_lt nv23.1 (by decide)
        refine x_istore_2 dX9_readsLoom_26 rfl rfl ?_
        refine x_iload_2 dX9_readsLoom_27 ?_
        refine x_if_ge dX9_readsLoom_28 (fun c28 => ?_) (fun c28 => ?_)
        · refine x_aload_0 dX9_readsLoom_35 ?_
          refine x_const (c := 1) dX9_readsLoom_36 rfl ?_
          refine x_bip (c := 9) dX9_readsLoom_37 (by decide) ?_
          refine x_bip (c := 59) dX9_readsLoom_39 (by decide) ?_
          refine x_V3i dX9_readsLoom_41 m_X9_73 (c_X9_number a hb m T (txm_at ht (fr12 nf5 nf23)) hm hT (pNum T m p 2) 1 9 59 na23 (by omega) (by omega) (by omega) (by omega) (by omega)) (by assumption) (fun x41 I41 h41 => ?_)
          obtain ⟨nf41, ⟨rfl, nv41, na41⟩ | ⟨rfl, nv41⟩⟩ := h41
          · have n97 := nvl_le nv41.1.1
            have hu3 := MP.fr hu (fr12 (fr12 nf5 nf23) nf41)
            refine x_istore_3 dX9_readsLoom_44 rfl rfl ?_
            refine x_iload_3 dX9_readsLoom_45 ?_
            refine x_if_lt dX9_readsLoom_46 (fun c46 => ?_) (fun c46 => ?_)
            · exact absurd c46 (nI_pos (by omega))
            · refine x_aload_0 dX9_readsLoom_49 ?_
              refine x_getr dX9_readsLoom_50 f_X9_16 (by assumption) qD ?_
              refine x_const (c := 0) dX9_readsLoom_53 rfl ?_
              refine x_ialdV dX9_readsLoom_54 (by assumption) rfl (by omega) hu3.1.1 ?_
              refine x_bip (c := 6) dX9_readsLoom_55 (by decide) ?_
              refine x_icmp_geN dX9_readsLoom_57 (by omega) (by omega) (fun c57 => ?_) (fun c57 => ?_)
              · have ncl : ¬ rlC T m p u := fun z => absurd z.2.2.2.1 (by omega)
                refine x_const (c := 0) dX9_readsLoom_64 rfl ?_
                refine x_istore_4 dX9_readsLoom_65 rfl rfl ?_
                refine x_const (c := 0) dX9_readsLoom_67 rfl ?_
                refine x_istore_5 dX9_readsLoom_68 rfl rfl ?_
                first
                  | exact l_X9_rlN a hb (tN u.1) hu3.1.1 hn _ _ _ (by exact ⟨_, rfl, rfl, fun x j hx => (fr12 (fr12 nf5 nf23) nf41) x j (fun z => hx (Or.inr (Or.inr z))), Or.inr ⟨rfl, by first | exact ncl | exact fun z => absurd z.2.2.1 nv41⟩⟩) (tN u.1 + 1) 0 (by omega) (by omega)
                  | exact l_X9_rlY a hb u hu3 (by omega) _ _ _ (by omega) hsp (fun J q1 q2 q3 => ⟨_, rfl, rfl, fun x j hx => (q2 x j (fun z => hx (z.elim Or.inl (fun z => Or.inr (Or.inl z))))).trans ((fr12 (fr12 nf5 nf23) nf41) x j (fun z => hx (Or.inr (Or.inr z)))), Or.inl ⟨rfl, ⟨nv5, nv23, nv41, by omega, q1⟩, (q2 _ _ (by omega)).trans na41, q3⟩⟩) (fun q1 => ⟨_, rfl, rfl, fun x j hx => (fr12 (fr12 nf5 nf23) nf41) x j (fun z => hx (Or.inr (Or.inr z))), Or.inr ⟨rfl, fun z => q1 z.2.2.2.2⟩⟩) (tN u.1 + 1) 0 (by omega) (by omega) (fun j hj => absurd hj (Nat.not_lt_zero j))
              · refine x_const (c := 1) dX9_readsLoom_60 rfl ?_
                refine x_goto dX9_readsLoom_61 ?_
                refine x_istore_4 dX9_readsLoom_65 rfl rfl ?_
                refine x_const (c := 0) dX9_readsLoom_67 rfl ?_
                refine x_istore_5 dX9_readsLoom_68 rfl rfl ?_
                first
                  | exact l_X9_rlN a hb (tN u.1) hu3.1.1 hn _ _ _ (by exact ⟨_, rfl, rfl, fun x j hx => (fr12 (fr12 nf5 nf23) nf41) x j (fun z => hx (Or.inr (Or.inr z))), Or.inr ⟨rfl, by first | exact ncl | exact fun z => absurd z.2.2.1 nv41⟩⟩) (tN u.1 + 1) 0 (by omega) (by omega)
                  | exact l_X9_rlY a hb u hu3 (by omega) _ _ _ (by omega) hsp (fun J q1 q2 q3 => ⟨_, rfl, rfl, fun x j hx => (q2 x j (fun z => hx (z.elim Or.inl (fun z => Or.inr (Or.inl z))))).trans ((fr12 (fr12 nf5 nf23) nf41) x j (fun z => hx (Or.inr (Or.inr z)))), Or.inl ⟨rfl, ⟨nv5, nv23, nv41, by omega, q1⟩, (q2 _ _ (by omega)).trans na41, q3⟩⟩) (fun q1 => ⟨_, rfl, rfl, fun x j hx => (fr12 (fr12 nf5 nf23) nf41) x j (fun z => hx (Or.inr (Or.inr z))), Or.inr ⟨rfl, fun z => q1 z.2.2.2.2⟩⟩) (tN u.1 + 1) 0 (by omega) (by omega) (fun j hj => absurd hj (Nat.not_lt_zero j))
          · have hu3 := MP.fr hu (fr12 (fr12 nf5 nf23) nf41)
            refine x_istore_3 dX9_readsLoom_44 rfl rfl ?_
            refine x_iload_3 dX9_readsLoom_45 ?_
            refine x_if_lt dX9_readsLoom_46 (fun c46 => ?_) (fun c46 => ?_)
            · refine x_const (c := 0) dX9_readsLoom_64 rfl ?_
              refine x_istore_4 dX9_readsLoom_65 rfl rfl ?_
              refine x_const (c := 0) dX9_readsLoom_67 rfl ?_
              refine x_istore_5 dX9_readsLoom_68 rfl rfl ?_
              first
                | exact l_X9_rlN a hb (tN u.1) hu3.1.1 hn _ _ _ (by exact ⟨_, rfl, rfl, fun x j hx => (fr12 (fr12 nf5 nf23) nf41) x j (fun z => hx (Or.inr (Or.inr z))), Or.inr ⟨rfl, by first | exact ncl | exact fun z => absurd z.2.2.1 nv41⟩⟩) (tN u.1 + 1) 0 (by omega) (by omega)
                | exact l_X9_rlY a hb u hu3 (by omega) _ _ _ (by omega) hsp (fun J q1 q2 q3 => ⟨_, rfl, rfl, fun x j hx => (q2 x j (fun z => hx (z.elim Or.inl (fun z => Or.inr (Or.inl z))))).trans ((fr12 (fr12 nf5 nf23) nf41) x j (fun z => hx (Or.inr (Or.inr z)))), Or.inl ⟨rfl, ⟨nv5, nv23, nv41, by omega, q1⟩, (q2 _ _ (by omega)).trans na41, q3⟩⟩) (fun q1 => ⟨_, rfl, rfl, fun x j hx => (fr12 (fr12 nf5 nf23) nf41) x j (fun z => hx (Or.inr (Or.inr z))), Or.inr ⟨rfl, fun z => q1 z.2.2.2.2⟩⟩) (tN u.1 + 1) 0 (by omega) (by omega) (fun j hj => absurd hj (Nat.not_lt_zero j))
            · exact absurd m1n0 c46
        · exact absurd (nI_pos' (by omega)) c28
      · refine x_istore_2 dX9_readsLoom_26 rfl rfl ?_
        refine x_iload_2 dX9_readsLoom_27 ?_
        refine x_if_ge dX9_readsLoom_28 (fun c28 => ?_) (fun c28 => ?_)
        · exact absurd c28 n0m1
        · refine x_iconst (v := -1) dX9_readsLoom_31 rfl ?_
          refine x_goto dX9_readsLoom_32 ?_
          refine x_istore_3 dX9_readsLoom_44 rfl rfl ?_
          refine x_iload_3 dX9_readsLoom_45 ?_
          refine x_if_lt dX9_readsLoom_46 (fun _ => ?_) (fun c => absurd m1n0 c)
          refine x_const (c := 0) dX9_readsLoom_64 rfl ?_
          refine x_istore_4 dX9_readsLoom_65 rfl rfl ?_
          refine x_const (c := 0) dX9_readsLoom_67 rfl ?_
          refine x_istore_5 dX9_readsLoom_68 rfl rfl ?_
          exact l_X9_rlN a hb (tN u.1) ((MP.fr hu (fr12 nf5 nf23)).1.1) hn _ _ _ (by exact ⟨_, rfl, rfl, fun x j hx => (fr12 nf5 nf23) x j (fun z => hx (Or.inr (Or.inr z))), Or.inr ⟨rfl, fun z => absurd z.2.1 nv23⟩⟩) (tN u.1 + 1) 0 (by omega) (by omega)
    · exact absurd (nI_pos' (by omega)) c10
  · refine x_istore_1 dX9_readsLoom_8 rfl rfl ?_
    refine x_iload_1 dX9_readsLoom_9 ?_
    refine x_if_ge dX9_readsLoom_10 (fun c10 => ?_) (fun c10 => ?_)
    · exact absurd c10 n0m1
    · refine x_iconst (v := -1) dX9_readsLoom_13 rfl ?_
      refine x_goto dX9_readsLoom_14 ?_
      refine x_istore_2 dX9_readsLoom_26 rfl rfl ?_
      refine x_iload_2 dX9_readsLoom_27 ?_
      refine x_if_ge dX9_readsLoom_28 (fun c => absurd c n0m1) (fun _ => ?_)
      refine x_iconst (v := -1) dX9_readsLoom_31 rfl ?_
      refine x_goto dX9_readsLoom_32 ?_
      refine x_istore_3 dX9_readsLoom_44 rfl rfl ?_
      refine x_iload_3 dX9_readsLoom_45 ?_
      refine x_if_lt dX9_readsLoom_46 (fun _ => ?_) (fun c => absurd m1n0 c)
      refine x_const (c := 0) dX9_readsLoom_64 rfl ?_
      refine x_istore_4 dX9_readsLoom_65 rfl rfl ?_
      refine x_const (c := 0) dX9_readsLoom_67 rfl ?_
      refine x_istore_5 dX9_readsLoom_68 rfl rfl ?_
      exact l_X9_rlN a hb (tN u.1) ((MP.fr hu nf5).1.1) hn _ _ _ (by exact ⟨_, rfl, rfl, fun x j hx => nf5 x j (fun z => hx (Or.inr (Or.inr z))), Or.inr ⟨rfl, fun z => absurd z.1 nv5⟩⟩) (tN u.1 + 1) 0 (by omega) (by omega)
theorem tdp_sun {I J : MI} {c t g} {x : Nat} (h : tdp I c t g) (hn : tN t ≤ 6) (f : ∀ j, j ≠ 2 → J c j = I c j) (e : J c 2 = nI x) : tdp J c t (setSun g x) := by
  obtain ⟨h0, h1, h2, h3, h4, h5, h6, h7, h8⟩ := h
  exact ⟨(f _ (by omega)).trans h0, (f _ (by omega)).trans h1, e, (f _ (by omega)).trans h3, (f _ (by omega)).trans h4, fun l hl => (f _ (by omega)).trans (h5 l hl), fun l hl => (f _ (by omega)).trans (h6 l hl), fun l hl => (f _ (by omega)).trans (h7 l hl), fun l hl => (f _ (by omega)).trans (h8 l hl)⟩
theorem tdp_sel {I J : MI} {c t g} {x : Nat} (h : tdp I c t g) (hn : tN t ≤ 6) (f : ∀ j, j ≠ 3 → J c j = I c j) (e : J c 3 = nI x) : tdp J c t (setSel g x) := by
  obtain ⟨h0, h1, h2, h3, h4, h5, h6, h7, h8⟩ := h
  exact ⟨(f _ (by omega)).trans h0, (f _ (by omega)).trans h1, (f _ (by omega)).trans h2, e, (f _ (by omega)).trans h4, fun l hl => (f _ (by omega)).trans (h5 l hl), fun l hl => (f _ (by omega)).trans (h6 l hl), fun l hl => (f _ (by omega)).trans (h7 l hl), fun l hl => (f _ (by omega)).trans (h8 l hl)⟩
theorem tdp_yrd {I J : MI} {c t g} {x : Nat} (h : tdp I c t g) (hn : tN t ≤ 6) (f : ∀ j, j ≠ 4 → J c j = I c j) (e : J c 4 = nI x) : tdp J c t (setYrd g x) := by
  obtain ⟨h0, h1, h2, h3, h4, h5, h6, h7, h8⟩ := h
  exact ⟨(f _ (by omega)).trans h0, (f _ (by omega)).trans h1, (f _ (by omega)).trans h2, (f _ (by omega)).trans h3, e, fun l hl => (f _ (by omega)).trans (h5 l hl), fun l hl => (f _ (by omega)).trans (h6 l hl), fun l hl => (f _ (by omega)).trans (h7 l hl), fun l hl => (f _ (by omega)).trans (h8 l hl)⟩
theorem lsd_ri0 : ∀ c : Nat, c < 128 → (c = 104 ∨ c = 108 ∨ c = 109 ∨ c = 115 ∨ c = 121) ∨ Op.lookupswitch.offset (#[(104, 56), (108, 51), (109, 117), (115, 108), (121, 126)] : Array (Int × Int)).toList 135 (nI c).toInt = (135 : Int) := by decide +kernel
theorem lsd_ri (c : Nat) (hc : c < 128) (h104 : c ≠ 104) (h108 : c ≠ 108) (h109 : c ≠ 109) (h115 : c ≠ 115) (h121 : c ≠ 121) : Op.lookupswitch.offset (#[(104, 56), (108, 51), (109, 117), (115, 108), (121, 126)] : Array (Int × Int)).toList 135 (nI c).toInt = (135 : Int) := (lsd_ri0 c hc).elim (fun z => by omega) id
theorem on_s {I J : MI} {Q : MQ2} {a m p : Nat} {T : Nat → Nat} {u : Ts} {v : Int32} (hu : MP I a u) (hn : tN u.1 ≤ 6) (h : FrS I J (fun x j => (x = a + 3 ∧ j = 2) ∨ (x = a ∧ j = 12)) ∧ ((v = nI 1 ∧ okv T m (p + 1) 0 20 59 ∧ J (a + 3) 2 = nI (nvl T m (p + 1)) ∧ J a 12 = nI (npl T m (p + 1) + 1)) ∨ (v = nI 0 ∧ ¬ okv T m (p + 1) 0 20 59))) (hc : ltr T m p = 115) : ri Q (fun v J => (FrS I J (FtM a) ∧ ((v = nI 1 ∧ ∃ q u2, itemF T m p u = some (q, u2) ∧ J a 12 = nI q ∧ MP J a u2) ∨ (v = nI 0 ∧ itemF T m p u = none)))) (some (.int v)) J Q := by
  obtain ⟨f, h⟩ := h
  refine ⟨_, rfl, rfl, fun x j hx => f x j (fun z => hx (by unfold FtM; omega)), ?_⟩
  rcases h with ⟨rfl, h1, h2, h3⟩ | ⟨rfl, h1⟩
  · refine Or.inl ⟨rfl, pNum T m (p + 1) 1, (u.1, u.2.1, setSun u.2.2 (nvl T m (p + 1))), ?_, h3, tdp_sun hu.1 hn (fun j hj => f _ _ (by omega)) h2, fun l hl => (f _ _ (by omega)).trans (hu.2 l hl)⟩
    have e := itemF_t (T := T) (m := m) (p := p) (u := u) (by rw [hc]; exact ⟨by decide, okNums1.mpr h1.1⟩) (o := some (u.1, u.2.1, setSun u.2.2 (nvl T m (p + 1)))) (by rw [hc]; exact (tellF_s _ _ _ _).trans (if_pos (by have h8 := h1.2; show _; first | exact h8.2 | exact h8)))
    rw [e, hc]
    rfl
  · refine Or.inr ⟨rfl, ?_⟩
    by_cases z : okNums T m (p + 1) 1
    · have e := itemF_t (T := T) (m := m) (p := p) (u := u) (by rw [hc]; exact ⟨by decide, z⟩) (o := none) (by rw [hc]; exact (tellF_s _ _ _ _).trans (if_neg (fun y => h1 ⟨okNums1.mp z, by first | exact ⟨Nat.zero_le _, y⟩ | exact y⟩)))
      rw [e]
      rfl
    · exact itemF_no (by rw [hc]; exact fun y => z y.2)
theorem on_m {I J : MI} {Q : MQ2} {a m p : Nat} {T : Nat → Nat} {u : Ts} {v : Int32} (hu : MP I a u) (hn : tN u.1 ≤ 6) (h : FrS I J (fun x j => (x = a + 3 ∧ j = 3) ∨ (x = a ∧ j = 12)) ∧ ((v = nI 1 ∧ okv T m (p + 1) 1 24 59 ∧ J (a + 3) 3 = nI (nvl T m (p + 1)) ∧ J a 12 = nI (npl T m (p + 1) + 1)) ∨ (v = nI 0 ∧ ¬ okv T m (p + 1) 1 24 59))) (hc : ltr T m p = 109) : ri Q (fun v J => (FrS I J (FtM a) ∧ ((v = nI 1 ∧ ∃ q u2, itemF T m p u = some (q, u2) ∧ J a 12 = nI q ∧ MP J a u2) ∨ (v = nI 0 ∧ itemF T m p u = none)))) (some (.int v)) J Q := by
  obtain ⟨f, h⟩ := h
  refine ⟨_, rfl, rfl, fun x j hx => f x j (fun z => hx (by unfold FtM; omega)), ?_⟩
  rcases h with ⟨rfl, h1, h2, h3⟩ | ⟨rfl, h1⟩
  · refine Or.inl ⟨rfl, pNum T m (p + 1) 1, (u.1, u.2.1, setSel u.2.2 (nvl T m (p + 1))), ?_, h3, tdp_sel hu.1 hn (fun j hj => f _ _ (by omega)) h2, fun l hl => (f _ _ (by omega)).trans (hu.2 l hl)⟩
    have e := itemF_t (T := T) (m := m) (p := p) (u := u) (by rw [hc]; exact ⟨by decide, okNums1.mpr h1.1⟩) (o := some (u.1, u.2.1, setSel u.2.2 (nvl T m (p + 1)))) (by rw [hc]; exact (tellF_m _ _ _ _).trans (if_pos (by have h8 := h1.2; show _; first | exact h8.2 | exact h8)))
    rw [e, hc]
    rfl
  · refine Or.inr ⟨rfl, ?_⟩
    by_cases z : okNums T m (p + 1) 1
    · have e := itemF_t (T := T) (m := m) (p := p) (u := u) (by rw [hc]; exact ⟨by decide, z⟩) (o := none) (by rw [hc]; exact (tellF_m _ _ _ _).trans (if_neg (fun y => h1 ⟨okNums1.mp z, by first | exact ⟨Nat.zero_le _, y⟩ | exact y⟩)))
      rw [e]
      rfl
    · exact itemF_no (by rw [hc]; exact fun y => z y.2)
theorem on_y {I J : MI} {Q : MQ2} {a m p : Nat} {T : Nat → Nat} {u : Ts} {v : Int32} (hu : MP I a u) (hn : tN u.1 ≤ 6) (h : FrS I J (fun x j => (x = a + 3 ∧ j = 4) ∨ (x = a ∧ j = 12)) ∧ ((v = nI 1 ∧ okv T m (p + 1) 1 27 59 ∧ J (a + 3) 4 = nI (nvl T m (p + 1)) ∧ J a 12 = nI (npl T m (p + 1) + 1)) ∨ (v = nI 0 ∧ ¬ okv T m (p + 1) 1 27 59))) (hc : ltr T m p = 121) : ri Q (fun v J => (FrS I J (FtM a) ∧ ((v = nI 1 ∧ ∃ q u2, itemF T m p u = some (q, u2) ∧ J a 12 = nI q ∧ MP J a u2) ∨ (v = nI 0 ∧ itemF T m p u = none)))) (some (.int v)) J Q := by
  obtain ⟨f, h⟩ := h
  refine ⟨_, rfl, rfl, fun x j hx => f x j (fun z => hx (by unfold FtM; omega)), ?_⟩
  rcases h with ⟨rfl, h1, h2, h3⟩ | ⟨rfl, h1⟩
  · refine Or.inl ⟨rfl, pNum T m (p + 1) 1, (u.1, u.2.1, setYrd u.2.2 (nvl T m (p + 1))), ?_, h3, tdp_yrd hu.1 hn (fun j hj => f _ _ (by omega)) h2, fun l hl => (f _ _ (by omega)).trans (hu.2 l hl)⟩
    have e := itemF_t (T := T) (m := m) (p := p) (u := u) (by rw [hc]; exact ⟨by decide, okNums1.mpr h1.1⟩) (o := some (u.1, u.2.1, setYrd u.2.2 (nvl T m (p + 1)))) (by rw [hc]; exact (tellF_y _ _ _ _ (by decide) (by decide) (by decide) (by decide)).trans (if_pos (by have h8 := h1.2; show _; first | exact h8.2 | exact h8)))
    rw [e, hc]
    rfl
  · refine Or.inr ⟨rfl, ?_⟩
    by_cases z : okNums T m (p + 1) 1
    · have e := itemF_t (T := T) (m := m) (p := p) (u := u) (by rw [hc]; exact ⟨by decide, z⟩) (o := none) (by rw [hc]; exact (tellF_y _ _ _ _ (by decide) (by decide) (by decide) (by decide)).trans (if_neg (fun y => h1 ⟨okNums1.mp z, by first | exact ⟨Nat.zero_le _, y⟩ | exact y⟩)))
      rw [e]
      rfl
    · exact itemF_no (by rw [hc]; exact fun y => z y.2)
theorem on_l {I J : MI} {Q : MQ2} {a m p : Nat} {T : Nat → Nat} {u : Ts} {v : Int32} (h : FrS I J (FtM a) ∧ ((v = nI 1 ∧ rlC T m (p + 1) u ∧ J a 12 = nI (pNum T m (p + 1) 3) ∧ MP J a (addT u.1 (nvl T m (p + 1)) (nvl T m (pNum T m (p + 1) 2)), addS u.1 u.2.1 (nvl T m (pNum T m (p + 1) 1)), u.2.2)) ∨ (v = nI 0 ∧ ¬ rlC T m (p + 1) u))) (hc : ltr T m p = 108) : ri Q (fun v J => (FrS I J (FtM a) ∧ ((v = nI 1 ∧ ∃ q u2, itemF T m p u = some (q, u2) ∧ J a 12 = nI q ∧ MP J a u2) ∨ (v = nI 0 ∧ itemF T m p u = none)))) (some (.int v)) J Q := by
  obtain ⟨f, h⟩ := h
  refine ⟨_, rfl, rfl, f, ?_⟩
  rcases h with ⟨rfl, h1, h2, h3⟩ | ⟨rfl, h1⟩
  · refine Or.inl ⟨rfl, _, _, ?_, h2, h3⟩
    obtain ⟨⟨a1, a2, a3⟩, ⟨b1, b2, b3⟩, ⟨c1, c2, c3⟩, d1, d2⟩ := h1
    have e := itemF_t (T := T) (m := m) (p := p) (u := u) (by rw [hc]; exact ⟨by decide, okNums3.mpr ⟨a1, b1, c1⟩⟩) (o := some (addT u.1 (nvl T m (p + 1)) (nvl T m (pNum T m (p + 1) 2)), addS u.1 u.2.1 (nvl T m (pNum T m (p + 1) 1)), u.2.2)) (by rw [hc]; exact tellF_l ⟨d1, a3, b3, d2, c2, c3⟩)
    rw [e, hc]
    rfl
  · refine Or.inr ⟨rfl, ?_⟩
    by_cases z : okNums T m (p + 1) 3
    · obtain ⟨z1, z2, z3⟩ := okNums3.mp z
      have e := itemF_t (T := T) (m := m) (p := p) (u := u) (by rw [hc]; exact ⟨by decide, z⟩) (o := none) (by rw [hc]; exact tellF_l0 (fun y => h1 ⟨⟨z1, Nat.zero_le _, y.2.1⟩, ⟨z2, Nat.zero_le _, y.2.2.1⟩, ⟨z3, y.2.2.2.2.1, y.2.2.2.2.2⟩, y.1, y.2.2.2.1⟩))
      rw [e]
      rfl
    · exact itemF_no (by rw [hc]; exact fun y => z y.2)
theorem item_h {T : Nat → Nat} {m p : Nat} {u : Ts} (hc : ltr T m p = 104) (h1 : okv T m (p + 1) 0 9 44) (h2 : okv T m (pNum T m (p + 1) 1) 0 1 59) (h3 : nH u.2.2 < 12) : itemF T m p u = some (pNum T m (p + 1) 2, (u.1, u.2.1, addH u.2.2 (nvl T m (p + 1)) (nvl T m (pNum T m (p + 1) 1)))) := by
  have e := itemF_t (T := T) (m := m) (p := p) (u := u) (by rw [hc]; exact ⟨by decide, okNums2.mpr ⟨h1.1, h2.1⟩⟩) (o := some (u.1, u.2.1, addH u.2.2 (nvl T m (p + 1)) (nvl T m (pNum T m (p + 1) 1)))) (by rw [hc]; exact (tellF_h _ _ _ _).trans (if_pos ⟨h3, h1.2.2, h2.2.2⟩))
  rw [e, hc]
  rfl
theorem item_h0 {T : Nat → Nat} {m p : Nat} {u : Ts} (hc : ltr T m p = 104) (h : ¬ (okv T m (p + 1) 0 9 44 ∧ okv T m (pNum T m (p + 1) 1) 0 1 59 ∧ nH u.2.2 < 12)) : itemF T m p u = none := by
  by_cases z : okNums T m (p + 1) 2
  · obtain ⟨z1, z2⟩ := okNums2.mp z
    have e := itemF_t (T := T) (m := m) (p := p) (u := u) (by rw [hc]; exact ⟨by decide, z⟩) (o := none) (by rw [hc]; exact (tellF_h _ _ _ _).trans (if_neg (fun y => h ⟨⟨z1, Nat.zero_le _, y.2.1⟩, ⟨z2, Nat.zero_le _, y.2.2⟩, y.1⟩)))
    rw [e]
    rfl
  · exact itemF_no (by rw [hc]; exact fun y => z y.2)
theorem item_0 {T : Nat → Nat} {m p : Nat} {u : Ts} (q1 : ltr T m p ≠ 104) (q2 : ltr T m p ≠ 108) (q3 : ltr T m p ≠ 109) (q4 : ltr T m p ≠ 115) (q5 : ltr T m p ≠ 121) : itemF T m p u = none := by
  refine itemF_no (fun y => ?_)
  have e : cntN (ltr T m p) = 0 := by unfold cntN; rw [if_neg q2, if_neg q1, if_neg q4, if_neg q3, if_neg q5]
  rw [e] at y
  exact absurd y.1 (by decide)
set_option maxHeartbeats 4000000 in
theorem c_X9_readsItem {r : Ev} {n : Nat} {I : MI} {Q : MQ2} (a : Nat) (hb : MdB n Q a) (m : Nat) (T : Nat → Nat) (ht : txm I a m T) (hm : m ≤ 200) (hT : ∀ k, k < m → T k < 128) (u : Ts) (hu : MP I a u) (hn : tN u.1 ≤ 6) (hh : nH u.2.2 ≤ 12) (hsp : ∀ l, l < tN u.1 → sP u.2.1 l < 1000) (p : Nat) (hI : I a 12 = nI (p + 1)) (hp : p < 200) : CT r 4 yX9_readsItem cX9_readsItem (4, (some .boolean)) (0, 0) [.ref (evz r + a), .int (nI (ltr T m p))] n I Q (ri Q (fun v J => (FrS I J (FtM a) ∧ ((v = nI 1 ∧ ∃ q u2, itemF T m p u = some (q, u2) ∧ J a 12 = nI q ∧ MP J a u2) ∨ (v = nI 0 ∧ itemF T m p u = none))))) := by
  refine ct_of (lv := [some (.ref (evz r + a)), some (.int (nI (ltr T m p))), none, none]) (by decide +kernel) rfl rfl rfl ?_
  obtain ⟨b0, bT, bO, bD, bB, bS, bP, bM, bN, bR, bH, qT, qO, qD, qB, qS, qP, qM, qN, qR, qH⟩ := id hb
  refine x_iload_1 dX9_readsItem_0 ?_
  by_cases q104 : ltr T m p = 104
  · rw [q104]
    have qc : cntN 104 = 2 := rfl
    refine x_ls (off := 56) (t := 57) dX9_readsItem_1 (by decide) (by decide) (by decide) ?_
    refine x_aload_0 dX9_readsItem_57 ?_
    refine x_const (c := 0) dX9_readsItem_58 rfl ?_
    refine x_bip (c := 9) dX9_readsItem_59 (by decide) ?_
    refine x_bip (c := 44) dX9_readsItem_61 (by decide) ?_
    refine x_V3i dX9_readsItem_63 m_X9_73 (c_X9_number a hb m T ht hm hT (p + 1) 0 9 44 (by assumption) (by omega) (by omega) (by omega) (by omega) (by omega)) (by assumption) (fun x63 I63 h63 => ?_)
    obtain ⟨nf63, ⟨rfl, nv63, na63⟩ | ⟨rfl, nv63⟩⟩ := h63
    · have n99 := nvl_le nv63.1.1
      have np1 : pNum T m (p + 1) 1 ≤ m := okn_lt nv63.1 (by decide)
      refine x_istore_2 dX9_readsItem_66 rfl rfl ?_
      refine x_iload_2 dX9_readsItem_67 ?_
      refine x_if_ge dX9_readsItem_68 (fun c68 => ?_) (fun c68 => ?_)
      · refine x_aload_0 dX9_readsItem_75 ?_
        refine x_const (c := 0) dX9_readsItem_76 rfl ?_
        refine x_const (c := 1) dX9_readsItem_77 rfl ?_
        refine x_bip (c := 59) dX9_readsItem_78 (by decide) ?_
        refine x_V3i dX9_readsItem_80 m_X9_73 (c_X9_number a hb m T (txm_at ht nf63) hm hT (pNum T m (p + 1) 1) 0 1 59 na63 (by omega) (by omega) (by omega) (by omega) (by omega)) (by assumption) (fun x80 I80 h80 => ?_)
        obtain ⟨nf80, ⟨rfl, nv80, na80⟩ | ⟨rfl, nv80⟩⟩ := h80
        · have n98 := nvl_le nv80.1.1
          have hu3 := MP.fr hu (fr12 nf63 nf80)
          refine x_istore_3 dX9_readsItem_83 rfl rfl ?_
          refine x_iload_3 dX9_readsItem_84 ?_
          refine x_if_lt dX9_readsItem_85 (fun c85 => ?_) (fun c85 => ?_)
          · exact absurd c85 (nI_pos (by omega))
          · refine x_aload_0 dX9_readsItem_88 ?_
            refine x_getr dX9_readsItem_89 f_X9_16 (by assumption) qD ?_
            refine x_const (c := 1) dX9_readsItem_92 rfl ?_
            refine x_ialdV dX9_readsItem_93 (by assumption) rfl (by omega) hu3.1.2.1 ?_
            refine x_bip (c := 12) dX9_readsItem_94 (by decide) ?_
            refine x_icmp_neN dX9_readsItem_96 (by omega) (by omega) (fun c96 => ?_) (fun c96 => ?_)
            · refine x_aload_0 dX9_readsItem_101 ?_
              refine x_iload_2 dX9_readsItem_102 ?_
              refine x_iload_3 dX9_readsItem_103 ?_
              refine x_V2v dX9_readsItem_104 m_X9_47 (c_X9_hourOf a hb u hu3 hn (by omega) _ _) (by assumption) (fun I104 h104 => ?_)
              obtain ⟨lf104, lu104⟩ := h104
              refine x_const (c := 1) dX9_readsItem_107 rfl ?_
              exact x_iret (st := []) dX9_readsItem_108 rfl (by first | rfl | exact bo01 h53.2 | exact bo01 h114.2 | exact bo01 h123.2 | exact bo01 h132.2) (⟨_, rfl, rfl, fun x j hx => (lf104 x j (fun z => hx (Or.inl z))).trans ((fr12 nf63 nf80) x j (fun z => hx (Or.inr (Or.inr z)))), Or.inl ⟨rfl, _, _, item_h q104 nv63 nv80 (by omega), (lf104 _ _ (by omega)).trans na80, lu104⟩⟩)
            · refine x_const (c := 0) dX9_readsItem_99 rfl ?_
              exact x_iret (st := []) dX9_readsItem_100 rfl (by first | rfl | exact bo01 h53.2 | exact bo01 h114.2 | exact bo01 h123.2 | exact bo01 h132.2) (⟨_, rfl, rfl, fun x j hx => (fr12 nf63 nf80) x j (fun z => hx (Or.inr (Or.inr z))), Or.inr ⟨rfl, item_h0 q104 (by first | exact fun z => nv80 z.2.1 | exact fun z => absurd z.2.2 (by omega))⟩⟩)
        · refine x_istore_3 dX9_readsItem_83 rfl rfl ?_
          refine x_iload_3 dX9_readsItem_84 ?_
          refine x_if_lt dX9_readsItem_85 (fun c85 => ?_) (fun c85 => ?_)
          · refine x_const (c := 0) dX9_readsItem_99 rfl ?_
            exact x_iret (st := []) dX9_readsItem_100 rfl (by first | rfl | exact bo01 h53.2 | exact bo01 h114.2 | exact bo01 h123.2 | exact bo01 h132.2) (⟨_, rfl, rfl, fun x j hx => (fr12 nf63 nf80) x j (fun z => hx (Or.inr (Or.inr z))), Or.inr ⟨rfl, item_h0 q104 (by first | exact fun z => nv80 z.2.1 | exact fun z => absurd z.2.2 (by omega))⟩⟩)
          · exact absurd m1n0 c85
      · exact absurd (nI_pos' (by omega)) c68
    · refine x_istore_2 dX9_readsItem_66 rfl rfl ?_
      refine x_iload_2 dX9_readsItem_67 ?_
      refine x_if_ge dX9_readsItem_68 (fun c68 => ?_) (fun c68 => ?_)
      · exact absurd c68 n0m1
      · refine x_iconst (v := -1) dX9_readsItem_71 rfl ?_
        refine x_goto dX9_readsItem_72 ?_
        refine x_istore_3 dX9_readsItem_83 rfl rfl ?_
        refine x_iload_3 dX9_readsItem_84 ?_
        refine x_if_lt dX9_readsItem_85 (fun _ => ?_) (fun c => absurd m1n0 c)
        refine x_const (c := 0) dX9_readsItem_99 rfl ?_
        exact x_iret (st := []) dX9_readsItem_100 rfl rfl (⟨_, rfl, rfl, fun x j hx => nf63 x j (fun z => hx (Or.inr (Or.inr z))), Or.inr ⟨rfl, item_h0 q104 (fun z => nv63 z.1)⟩⟩)
  by_cases q108 : ltr T m p = 108
  · rw [q108]
    have qc : cntN 108 = 3 := rfl
    refine x_ls (off := 51) (t := 52) dX9_readsItem_1 (by decide) (by decide) (by decide) ?_
    refine x_aload_0 dX9_readsItem_52 ?_
    refine x_V0i dX9_readsItem_53 m_X9_77 (c_X9_readsLoom a hb m T ht hm hT u hu hn hsp (p + 1) hI (by omega)) (by assumption) (fun x53 I53 h53 => ?_)
    exact x_iret (st := []) dX9_readsItem_56 rfl (by first | rfl | exact bo01 h53.2 | exact bo01 h114.2 | exact bo01 h123.2 | exact bo01 h132.2) (on_l h53 q108)
  by_cases q109 : ltr T m p = 109
  · rw [q109]
    have qc : cntN 109 = 1 := rfl
    refine x_ls (off := 117) (t := 118) dX9_readsItem_1 (by decide) (by decide) (by decide) ?_
    refine x_aload_0 dX9_readsItem_118 ?_
    refine x_const (c := 3) dX9_readsItem_119 rfl ?_
    refine x_const (c := 1) dX9_readsItem_120 rfl ?_
    refine x_bip (c := 24) dX9_readsItem_121 (by decide) ?_
    refine x_V3i dX9_readsItem_123 m_X9_81 (c_X9_one a hb m T ht hm hT 3 1 24 (p + 1) hI (by omega) (by omega) (by omega) (by omega)) (by assumption) (fun x123 I123 h123 => ?_)
    exact x_iret (st := []) dX9_readsItem_126 rfl (by first | rfl | exact bo01 h53.2 | exact bo01 h114.2 | exact bo01 h123.2 | exact bo01 h132.2) (on_m hu hn h123 q109)
  by_cases q115 : ltr T m p = 115
  · rw [q115]
    have qc : cntN 115 = 1 := rfl
    refine x_ls (off := 108) (t := 109) dX9_readsItem_1 (by decide) (by decide) (by decide) ?_
    refine x_aload_0 dX9_readsItem_109 ?_
    refine x_const (c := 2) dX9_readsItem_110 rfl ?_
    refine x_const (c := 0) dX9_readsItem_111 rfl ?_
    refine x_bip (c := 20) dX9_readsItem_112 (by decide) ?_
    refine x_V3i dX9_readsItem_114 m_X9_81 (c_X9_one a hb m T ht hm hT 2 0 20 (p + 1) hI (by omega) (by omega) (by omega) (by omega)) (by assumption) (fun x114 I114 h114 => ?_)
    exact x_iret (st := []) dX9_readsItem_117 rfl (by first | rfl | exact bo01 h53.2 | exact bo01 h114.2 | exact bo01 h123.2 | exact bo01 h132.2) (on_s hu hn h114 q115)
  by_cases q121 : ltr T m p = 121
  · rw [q121]
    have qc : cntN 121 = 1 := rfl
    refine x_ls (off := 126) (t := 127) dX9_readsItem_1 (by decide) (by decide) (by decide) ?_
    refine x_aload_0 dX9_readsItem_127 ?_
    refine x_const (c := 4) dX9_readsItem_128 rfl ?_
    refine x_const (c := 1) dX9_readsItem_129 rfl ?_
    refine x_bip (c := 27) dX9_readsItem_130 (by decide) ?_
    refine x_V3i dX9_readsItem_132 m_X9_81 (c_X9_one a hb m T ht hm hT 4 1 27 (p + 1) hI (by omega) (by omega) (by omega) (by omega)) (by assumption) (fun x132 I132 h132 => ?_)
    exact x_iret (st := []) dX9_readsItem_135 rfl (by first | rfl | exact bo01 h53.2 | exact bo01 h114.2 | exact bo01 h123.2 | exact bo01 h132.2) (on_y hu hn h132 q121)
  refine x_ls (off := 135) (t := 136) dX9_readsItem_1 (by decide) (lsd_ri (ltr T m p) (ltr_lt hT p) q104 q108 q109 q115 q121) (by decide) ?_
  refine x_const (c := 0) dX9_readsItem_136 rfl ?_
  exact x_iret (st := []) dX9_readsItem_137 rfl (by first | rfl | exact bo01 h53.2 | exact bo01 h114.2 | exact bo01 h123.2 | exact bo01 h132.2) (⟨_, rfl, rfl, fun _ _ _ => rfl, Or.inr ⟨rfl, item_0 q104 q108 q109 q115 q121⟩⟩)
theorem itemF_gt {T : Nat → Nat} {m p q : Nat} {u u2 : Ts} (h : itemF T m p u = some (q, u2)) : p < q := by
  unfold itemF at h
  by_cases z : 0 < cntN (ltr T m p) ∧ okNums T m (p + 1) (cntN (ltr T m p))
  · rw [if_pos z] at h
    obtain ⟨x, hx, e⟩ := Option.map_eq_some_iff.mp h
    cases e
    have h1 : ∀ k, p + 1 ≤ pNum T m (p + 1) k := by
      intro k
      induction k with
      | zero => exact Nat.le_refl _
      | succ k ih =>
        have := (npl_le T m (pNum T m (p + 1) k)).1
        show p + 1 ≤ npl T m (pNum T m (p + 1) k) + 1
        omega
    exact h1 _
  · rw [if_neg z] at h; cases h
theorem itemF_le {T : Nat → Nat} {m p q : Nat} {u u2 : Ts} (h : itemF T m p u = some (q, u2)) : q ≤ m := by
  unfold itemF at h
  by_cases z : 0 < cntN (ltr T m p) ∧ okNums T m (p + 1) (cntN (ltr T m p))
  · rw [if_pos z] at h
    obtain ⟨x, hx, e⟩ := Option.map_eq_some_iff.mp h
    cases e
    exact pNum_in z.1 z.2
  · rw [if_neg z] at h; cases h
theorem itemF_ok {T : Nat → Nat} {m p q : Nat} {u u2 : Ts} (hok : okU u) (h : itemF T m p u = some (q, u2)) : okU u2 := by
  unfold itemF at h
  by_cases z : 0 < cntN (ltr T m p) ∧ okNums T m (p + 1) (cntN (ltr T m p))
  · rw [if_pos z] at h
    obtain ⟨x, hx, e⟩ := Option.map_eq_some_iff.mp h
    cases e
    exact tellF_ok hok hx
  · rw [if_neg z] at h; cases h
set_option maxHeartbeats 4000000 in
theorem l_X9_readsAll {r : Ev} {n : Nat} {Q : MQ2} {F : Post} (a : Nat) (hb : MdB n Q a) {I0 : MI} (m : Nat) (T : Nat → Nat) (ht0 : txm I0 a m T) (hm : m ≤ 200) (hT : ∀ k, k < m → T k < 128) (hF1 : ∀ J, FrS I0 J (FtM a) → (readF T m 200 0 (t00, s00, g00)).1 = none → MP J a (readF T m 200 0 (t00, s00, g00)).2 → F (some (.int (-4))) J Q) (hF2 : ∀ J p, FrS I0 J (FtM a) → p < 200 → (readF T m 200 0 (t00, s00, g00)).1 = some p → F (some (.int (nI p))) J Q) : ∀ (k : Nat) (p : Nat) (u : Ts) (I : MI) (w1 : Option Value), m + 1 ≤ k + p → p ≤ m → FrS I0 I (FtM a) → I a 12 = nI p → MP I a u → okU u → (readF T m 200 0 (t00, s00, g00)) = readF T m (k - 1) p u → X r 5 yX9_readsAll cX9_readsAll (2, (some .int)) (0, 0) 9 [some (.ref (evz r + a)), w1] [] n I Q F := by
  intro k
  induction k with
  | zero => intros; omega
  | succ k ih =>
    intro p u I w1 hkp hp2 hfr hp hu hok hrd
    obtain ⟨b0, bT, bO, bD, bB, bS, bP, bM, bN, bR, bH, qT, qO, qD, qB, qS, qP, qM, qN, qR, qH⟩ := id hb
    refine x_aload_0 dX9_readsAll_9 ?_
    have ht : txm I a m T := ⟨(hfr _ _ (by unfold FtM; omega)).trans ht0.1, fun k hk => (hfr _ _ (by unfold FtM; omega)).trans (ht0.2 k hk)⟩
    refine x_getV dX9_readsAll_10 f_X9_62 (by assumption) hp ?_
    refine x_aload_0 dX9_readsAll_13 ?_
    refine x_getV dX9_readsAll_14 f_X9_58 (by assumption) ht.1 ?_
    refine x_icmp_geN dX9_readsAll_17 (by omega) (by omega) (fun c17 => ?_) (fun c17 => ?_)
    · have e1 : (readF T m 200 0 (t00, s00, g00)).2 = u := by rw [hrd, readF_end (by omega)]
      have e2 : (readF T m 200 0 (t00, s00, g00)).1 = none := by rw [hrd, readF_end (by omega)]
      refine x_bipush (v := -4) dX9_readsAll_53 (by decide) ?_
      exact x_iret (st := []) dX9_readsAll_55 rfl rfl (hF1 I hfr e2 (by rw [e1]; exact hu))
    · obtain ⟨k2, rfl⟩ : ∃ k2, k = k2 + 1 := ⟨k - 1, by omega⟩
      have hk2 : k2 + 1 + 1 - 1 = k2 + 1 := rfl
      rw [hk2] at hrd
      refine x_aload_0 dX9_readsAll_20 ?_
      refine x_getV dX9_readsAll_21 f_X9_62 (by assumption) hp ?_
      refine x_istore_1 dX9_readsAll_24 rfl rfl ?_
      refine x_aload_0 dX9_readsAll_25 ?_
      first | refine x_dup_ref dX9_readsAll_26 ?_ | refine x_dup_int dX9_readsAll_26 ?_
      refine x_getV dX9_readsAll_27 f_X9_62 (by assumption) hp ?_
      refine x_const (c := 1) dX9_readsAll_30 rfl ?_
      refine x_iaddN dX9_readsAll_31 ?_
      refine x_putA dX9_readsAll_32 f_X9_62 (by assumption) (fun J32 fr32 e32 => ?_)
      refine x_aload_0 dX9_readsAll_35 ?_
      refine x_aload_0 dX9_readsAll_36 ?_
      refine x_getr dX9_readsAll_37 f_X9_7 (by assumption) qT ?_
      refine x_iload_1 dX9_readsAll_40 ?_
      refine x_ialdV dX9_readsAll_41 (by assumption) rfl (by omega) ((fr32 _ _ (by omega)).trans (ht.2 p (by omega))) ?_
      rw [show T p = ltr T m p from (if_pos (by omega)).symm]
      refine x_V1i dX9_readsAll_42 m_X9_84 (c_X9_readsItem a hb m T (txm_at ht fr32) hm hT u (MP.fr hu fr32) hok.1.1 hok.2.2.1.1 (fun l hl => by have := (hok.2.1.1 l hl).1; omega) p e32 (by omega)) (by assumption) (fun x42 I42 h42 => ?_)
      obtain ⟨mf42, ⟨rfl, q2, u2, it42, ma42, mu42⟩ | ⟨rfl, it42⟩⟩ := h42
      · refine x_if_neN dX9_readsAll_45 (by omega) (fun c45 => ?_) (fun c45 => ?_)
        · refine x_goto dX9_readsAll_50 ?_
          refine ih q2 u2 _ _ ?_ ?_ (fun z j hz => (mf42 z j hz).trans ((fr32 z j (fun q => hz (Or.inr (Or.inr q)))).trans (hfr z j hz))) ma42 mu42 ?_ ?_
          · have := itemF_gt it42; omega
          · have := itemF_le it42; omega
          · exact itemF_ok hok it42
          · rw [hrd, readF_item (by omega) it42]; rfl
        · exfalso; omega
      · refine x_if_neN dX9_readsAll_45 (by omega) (fun c45 => ?_) (fun c45 => ?_)
        · exfalso; omega
        · refine x_iload_1 dX9_readsAll_48 ?_
          exact x_iret (st := []) dX9_readsAll_49 rfl rfl (hF2 _ p (fun z j hz => (mf42 z j hz).trans ((fr32 z j (fun q => hz (Or.inr (Or.inr q)))).trans (hfr z j hz))) (by omega) (by rw [hrd, readF_item (by omega) it42]))
set_option maxHeartbeats 4000000 in
theorem c_X9_readsAll {r : Ev} {n : Nat} {I : MI} {Q : MQ2} (a : Nat) (hb : MdB n Q a) (m : Nat) (T : Nat → Nat) (ht : txm I a m T) (hm : m ≤ 200) (hT : ∀ k, k < m → T k < 128) : CT r 5 yX9_readsAll cX9_readsAll (2, (some .int)) (0, 0) [.ref (evz r + a)] n I Q (ri Q (fun v J => FrS I J (FtM a) ∧ ((v = -4 ∧ (readF T m 200 0 (t00, s00, g00)).1 = none ∧ MP J a (readF T m 200 0 (t00, s00, g00)).2) ∨ (∃ p, v = nI p ∧ p < 200 ∧ (readF T m 200 0 (t00, s00, g00)).1 = some p)))) := by
  refine ct_of (lv := [some (.ref (evz r + a)), none]) (by decide +kernel) rfl rfl rfl ?_
  obtain ⟨b0, bT, bO, bD, bB, bS, bP, bM, bN, bR, bH, qT, qO, qD, qB, qS, qP, qM, qN, qR, qH⟩ := id hb
  refine x_aload_0 dX9_readsAll_0 ?_
  refine x_V0v dX9_readsAll_1 m_X9_40 (c_X9_begins a hb) (by assumption) (fun I1 h1 => ?_)
  obtain ⟨qf, qd⟩ := h1
  refine x_aload_0 dX9_readsAll_4 ?_
  refine x_const (c := 0) dX9_readsAll_5 rfl ?_
  refine x_putA dX9_readsAll_6 f_X9_62 (by assumption) (fun J6 fr6 e6 => ?_)
  exact l_X9_readsAll a hb m T (I0 := I) ht hm hT
      (fun J f1 f2 f3 => ⟨_, rfl, rfl, f1, Or.inl ⟨rfl, f2, f3⟩⟩)
      (fun J p f1 f2 f3 => ⟨_, rfl, rfl, f1, Or.inr ⟨p, rfl, f2, f3⟩⟩)
      201 0 _ _ _ (by omega) (by omega) (fun x j hx => (fr6 x j (fun z => hx (Or.inr (Or.inr z)))).trans (qf x j (fun z => hx (Or.inl z)))) e6 (MP.fr (u := (t00, s00, g00)) ⟨qd, fun l hl => absurd hl (Nat.not_lt_zero l)⟩ fr6) okU_00 rfl
