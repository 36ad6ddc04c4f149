theorem tdp_thr {I J : MI} {c : Nat} {t : Tp} {g : Nt} {l x : Nat} (h : tdp I c t g) (hn : tN t ≤ 6) (f : ∀ j, j ≠ 11 + l → J c j = I c j) (hl : l < 6) (e : J c (11 + l) = nI (tT t l + x)) : tdp J c (thrT t l x) g := by
  obtain ⟨h0, h1, h2, h3, h4, h5, h6, h7, h8⟩ := h
  refine ⟨(f _ (by omega)).trans h0, (f _ (by omega)).trans h1, (f _ (by omega)).trans h2, (f _ (by omega)).trans h3, (f _ (by omega)).trans h4, fun k hk => (f _ (by have hk : k < tN t := hk; omega)).trans (h5 k hk), fun k hk => ?_, fun k hk => (f _ (by omega)).trans (h7 k hk), fun k hk => (f _ (by omega)).trans (h8 k hk)⟩
  show J c (11 + k) = nI (nup (tT t) l (tT t l + x) k)
  by_cases z : k = l
  · subst z; rw [nup_s]; exact e
  · rw [nup_n z, f _ (by omega)]; exact h6 k hk
def FtW (a l x j : Nat) : Prop := x = a + 5 ∨ x = a + 9 ∨ (x = a + 2 ∧ j = 11 + l)
set_option maxHeartbeats 4000000 in
theorem l_wants_end {r : Ev} {n : Nat} {Q : MQ2} {F : Post} {I0 I : MI} (a : Nat) (hb : MdB n Q a) (t : Tp) (g : Nt) (ho0 : tdp I0 (a + 2) t g) (s : St) (l : Nat) (hl : l < tN t) (hn : tN t ≤ 6) (v3 : Int32) (i : Nat) (hfr : FrS I0 I (FtW a l)) (hs : stp I (a + 5) t s) (hF : ∀ J, FrS I0 J (fun x _ => FtP9 a x) → (∀ j, J (a + 2) j = I0 (a + 2) j) → stp J (a + 5) t s → F (some (.int v3)) J Q) : X r 5 yX9_wants cX9_wants (5, (some .int)) (0, 0) 96 [some (.ref (evz r + a)), some (.int (nI (l))), some (.int (nI (tT t l))), some (.int v3), some (.int (nI (i)))] [] n I Q F := by
  obtain ⟨b0, bT, bO, bD, bB, bS, bP, bM, bN, bR, bH, qT, qO, qD, qB, qS, qP, qM, qN, qR, qH⟩ := id hb
  refine x_aload_0 dX9_wants_96 ?_
  refine x_getr dX9_wants_97 f_X9_13 (by assumption) qO ?_
  refine x_bip (c := 11) dX9_wants_100 (by decide) ?_
  refine x_iload_1 dX9_wants_102 ?_
  refine x_iaddN dX9_wants_103 ?_
  refine x_iload_2 dX9_wants_104 ?_
  refine x_iastA dX9_wants_105 (by assumption) rfl (by omega) (fun J105 fr105 e105 => ?_)
  refine x_iload_3 dX9_wants_106 ?_
  exact x_iret (st := []) dX9_wants_107 rfl rfl (hF _ (fun x j hx => by
    by_cases z : x = a + 2 ∧ j = 11 + l
    · rw [z.1, z.2]; exact e105.trans (ho0.2.2.2.2.2.2.1 l hl).symm
    · exact (fr105 _ _ z).trans (hfr x j (by unfold FtW; unfold FtP9 at hx; omega))) (fun j => by
    by_cases z : j = 11 + l
    · subst z; exact e105.trans (ho0.2.2.2.2.2.2.1 l hl).symm
    · exact (fr105 _ _ (by omega)).trans (hfr _ _ (by unfold FtW; omega))) (stp_to hs hn (fun j _ => fr105 _ _ (by omega))))
set_option maxHeartbeats 4000000 in
theorem l_wants_done {r : Ev} {n : Nat} {Q : MQ2} {F : Post} {I0 I : MI} (a : Nat) (hb : MdB n Q a) (t : Tp) (g : Nt) (ho0 : tdp I0 (a + 2) t g) (s : St) (l : Nat) (hl : l < tN t) (hn : tN t ≤ 6) (v i : Nat) (hv : v < 1000) (hi : i ≤ 10) (hfr : FrS I0 I (FtW a l)) (hs : stp I (a + 5) t s) (hF : ∀ J, FrS I0 J (fun x _ => FtP9 a x) → (∀ j, J (a + 2) j = I0 (a + 2) j) → stp J (a + 5) t s → F (some (.int (nI v))) J Q) : X r 5 yX9_wants cX9_wants (5, (some .int)) (0, 0) 30 [some (.ref (evz r + a)), some (.int (nI (l))), some (.int (nI (tT t l))), some (.int (nI v)), some (.int (nI (i)))] [] n I Q F := by
  refine x_iload_4 dX9_wants_30 ?_
  refine x_bip (c := 10) dX9_wants_32 (by decide) ?_
  refine x_icmp_geN dX9_wants_34 (by omega) (by omega) (fun c34 => ?_) (fun c34 => ?_)
  · exact l_wants_end a hb t g ho0 s l hl hn _ _ hfr hs hF
  · refine x_iload_3 dX9_wants_37 ?_
    refine x_bipush (v := -4) dX9_wants_38 (by decide) ?_
    refine x_icmp_ne dX9_wants_40 (fun c40 => ?_) (fun c40 => ?_)
    · exact l_wants_end a hb t g ho0 s l hl hn _ _ hfr hs hF
    · exact absurd c40 (nI_ne4 (by omega))
set_option maxHeartbeats 4000000 in
theorem l_wants {r : Ev} {n : Nat} {Q : MQ2} {F : Post} {I0 : MI} (a : Nat) (hb : MdB n Q a) (t : Tp) (g : Nt) (ho0 : tdp I0 (a + 2) t g) (ht : okT t) (hG : okN g) (s : St) (hk : okS t s) (hR : sR s ≤ 99) (hheld : ∀ j, j < 26 → I0 (a + 10) j = I0 (a + 5) j) (hs0 : stp I0 (a + 5) t s) (h9 : ∀ l, l < tN t → tT t l ≤ 9) (l : Nat) (hl : l < tN t) (hF : ∀ J, FrS I0 J (fun x _ => FtP9 a x) → (∀ j, J (a + 2) j = I0 (a + 2) j) → stp J (a + 5) t s → F (some (.int (wantF (wantQ t g s l) 10 0))) J Q) : ∀ (k : Nat) (i : Nat) (I : MI), i ≤ 10 → i + k = 10 + 1 → FrS I0 I (FtW a l) → stp I (a + 5) t s → wantF (wantQ t g s l) 10 0 = wantF (wantQ t g s l) (10 - i) i → X r 5 yX9_wants cX9_wants (5, (some .int)) (0, 0) 30 [some (.ref (evz r + a)), some (.int (nI (l))), some (.int (nI (tT t l))), some (.int (-4)), some (.int (nI (i)))] [] n I Q F := by
  intro k
  induction k with
  | zero => intros; omega
  | succ k ih =>
    intro i I hi0 hi hfr hs hw
    obtain ⟨b0, bT, bO, bD, bB, bS, bP, bM, bN, bR, bH, qT, qO, qD, qB, qS, qP, qM, qN, qR, qH⟩ := id hb
    refine x_iload_4 dX9_wants_30 ?_
    refine x_bip (c := 10) dX9_wants_32 (by decide) ?_
    refine x_icmp_geN dX9_wants_34 (by omega) (by omega) (fun c34 => ?_) (fun c34 => ?_)
    · obtain rfl : i = 10 := (by omega)
      exact l_wants_end a hb t g ho0 s l hl ht.1 (-4) 10 hfr hs (by rw [hw] at hF; exact hF)
    · have hn6 := ht.1
      have h10 : 10 - i = (10 - (i + 1)) + 1 := by omega
      rw [h10] at hw
      refine x_iload_3 dX9_wants_37 ?_
      refine x_bipush (v := -4) dX9_wants_38 (by decide) ?_
      refine x_icmp_ne dX9_wants_40 (fun c40 => ?_) (fun c40 => ?_)
      · exact absurd rfl c40
      · refine x_aload_0 dX9_wants_43 ?_
        refine x_getr dX9_wants_44 f_X9_13 (by assumption) qO ?_
        refine x_bip (c := 11) dX9_wants_47 (by decide) ?_
        refine x_iload_1 dX9_wants_49 ?_
        refine x_iaddN dX9_wants_50 ?_
        refine x_iload_2 dX9_wants_51 ?_
        refine x_iload_4 dX9_wants_52 ?_
        refine x_iaddN dX9_wants_54 ?_
        refine x_iastA dX9_wants_55 (by assumption) rfl (by omega) (fun J55 fr55 e55 => ?_)
        have ho3 : tdp J55 (a + 2) (thrT t l i) g := tdp_thr ho0 hn6 (fun j hj => (fr55 _ _ (by omega)).trans (hfr _ _ (by unfold FtW; omega))) (by omega) e55
        have hs3 : stp J55 (a + 5) (thrT t l i) s := stp_to (t := thrT t l i) hs hn6 (fun j _ => fr55 _ _ (by omega))
        have hkt : okS (thrT t l i) s := okS_thr hk
        have hse : okS (thrT t l i) (selS (thrT t l i) g s) := okS_sel hkt
        have hDl := (hse.1 l hl).2.1
        have hTl := ((okT_thr (l := l) (more := i) ht h9 (by omega)).2 l hl).2
        have hy27 := hG.2.2.2.2.2.2
        refine x_aload_0 dX9_wants_56 ?_
        refine x_V0v dX9_wants_57 m_X9_143 (c_X9_sells a hb (thrT t l i) g ho3 (okT_thr ht h9 (by omega)) hG s hkt hs3 (by omega)) (by assumption) (fun I57 h57 => ?_)
        obtain ⟨pf57, ps57⟩ := h57
        refine x_aload_0 dX9_wants_60 ?_
        refine x_getr dX9_wants_61 f_X9_22 (by assumption) qS ?_
        refine x_bip (c := 6) dX9_wants_64 (by decide) ?_
        refine x_iload_1 dX9_wants_66 ?_
        refine x_iaddN dX9_wants_67 ?_
        refine x_ialdV dX9_wants_68 (by assumption) rfl (by omega) (ps57.2.1 l hl) ?_
        refine x_aload_0 dX9_wants_69 ?_
        refine x_getr dX9_wants_70 f_X9_13 (by assumption) qO ?_
        refine x_const (c := 4) dX9_wants_73 rfl ?_
        refine x_ialdV dX9_wants_74 (by assumption) rfl (by omega) ((pf57 _ _ (by unfold FtP9; omega)).trans ho3.2.2.2.2.1) ?_
        refine x_icmp_ltN dX9_wants_75 (by omega) (by omega) (fun c75 => ?_) (fun c75 => ?_)
        · refine x_bipush (v := -4) dX9_wants_83 (by decide) ?_
          refine x_istore_3 dX9_wants_85 rfl rfl ?_
          refine x_aload_0 dX9_wants_86 ?_
          refine x_V0v dX9_wants_87 m_X9_140 (c_X9_bringsBack a hb) (by assumption) (fun I87 h87 => ?_)
          obtain ⟨cf87, cc87⟩ := h87
          refine x_iinc_4 dX9_wants_90 (iinc1 _) rfl rfl ?_
          refine x_goto dX9_wants_93 ?_
          have hfr2 : FrS I0 _ (FtW a l) := fun x j hx => (cf87 x j (by unfold FtW at hx; omega)).trans ((pf57 x j (by unfold FtW at hx; unfold FtP9; omega)).trans ((fr55 x j (by unfold FtW at hx; omega)).trans (hfr x j hx)))
          have hs2 : stp _ (a + 5) t s := stp_to hs0 hn6 (fun j hj => (cc87 j hj).trans ((pf57 _ _ (by unfold FtP9; omega)).trans ((fr55 _ _ (by omega)).trans ((hfr _ _ (by unfold FtW; omega)).trans (hheld j hj)))))
          first
            | (refine l_wants_done a hb t g ho0 s l hl hn6 i (i + 1) (by omega) (by omega) hfr2 hs2 ?_
               have e : wantF (wantQ t g s l) 10 0 = nI i := hw.trans (if_pos (show decide (nY g ≤ sD (selS (thrT t l i) g s) l) = true from decide_eq_true (by omega)))
               rw [e] at hF
               exact hF)
            | (refine ih (i + 1) _ (by omega) (by omega) hfr2 hs2 (hw.trans (if_neg ?_))
               show ¬ decide (nY g ≤ sD (selS (thrT t l i) g s) l) = true
               rw [decide_eq_true_eq]
               omega)
        · refine x_iload_4 dX9_wants_78 ?_
          refine x_goto dX9_wants_80 ?_
          refine x_istore_3 dX9_wants_85 rfl rfl ?_
          refine x_aload_0 dX9_wants_86 ?_
          refine x_V0v dX9_wants_87 m_X9_140 (c_X9_bringsBack a hb) (by assumption) (fun I87 h87 => ?_)
          obtain ⟨cf87, cc87⟩ := h87
          refine x_iinc_4 dX9_wants_90 (iinc1 _) rfl rfl ?_
          refine x_goto dX9_wants_93 ?_
          have hfr2 : FrS I0 _ (FtW a l) := fun x j hx => (cf87 x j (by unfold FtW at hx; omega)).trans ((pf57 x j (by unfold FtW at hx; unfold FtP9; omega)).trans ((fr55 x j (by unfold FtW at hx; omega)).trans (hfr x j hx)))
          have hs2 : stp _ (a + 5) t s := stp_to hs0 hn6 (fun j hj => (cc87 j hj).trans ((pf57 _ _ (by unfold FtP9; omega)).trans ((fr55 _ _ (by omega)).trans ((hfr _ _ (by unfold FtW; omega)).trans (hheld j hj)))))
          first
            | (refine l_wants_done a hb t g ho0 s l hl hn6 i (i + 1) (by omega) (by omega) hfr2 hs2 ?_
               have e : wantF (wantQ t g s l) 10 0 = nI i := hw.trans (if_pos (show decide (nY g ≤ sD (selS (thrT t l i) g s) l) = true from decide_eq_true (by omega)))
               rw [e] at hF
               exact hF)
            | (refine ih (i + 1) _ (by omega) (by omega) hfr2 hs2 (hw.trans (if_neg ?_))
               show ¬ decide (nY g ≤ sD (selS (thrT t l i) g s) l) = true
               rw [decide_eq_true_eq]
               omega)
set_option maxHeartbeats 4000000 in
theorem c_X9_wants {r : Ev} {n : Nat} {I : MI} {Q : MQ2} (a : Nat) (hb : MdB n Q a) (S : Sy) (hm : MdI I a S) (hok : okY S) (x : Int32) : CT r 5 yX9_wants cX9_wants (5, (some .int)) (0, 0) [.ref (evz r + a), .int x] n I Q (ri Q (fun v J => FrS I J (FtMd a) ∧ MdI J a (A_wants S x).2 ∧ v = (A_wants S x).1)) := by
  refine ct_of (lv := [some (.ref (evz r + a)), some (.int x), none, none, none]) (by decide +kernel) rfl rfl rfl ?_
  obtain ⟨b0, bT, bO, bD, bB, bS, bP, bM, bN, bR, bH, qT, qO, qD, qB, qS, qP, qM, qN, qR, qH⟩ := id hb
  obtain ⟨ht, ho, hs, ⟨h7, hp⟩, ⟨h9, hq⟩, h11, hw⟩ := id hm
  obtain ⟨y1, y2, y3, y4, y5, y6, y7, y8, y9, y10, y11, y12⟩ := id hok
  have hn6 := y3.1
  refine x_aload_0 dX9_wants_0 ?_
  refine x_iload_1 dX9_wants_1 ?_
  refine x_V1i dX9_wants_2 m_X9_100 (c_X9_isLoom a hb (tN (yt S)) x ho.1 y6 hn6) (by assumption) (fun x2 I2 h2 => ?_)
  obtain ⟨rfl, ⟨rfl, h2⟩ | ⟨rfl, h2⟩⟩ := h2
  · obtain ⟨l, l0, l1, rfl⟩ := h2
    have hl : l < tN (yt S) := by omega
    refine x_if_neN dX9_wants_5 (by omega) (fun c5 => ?_) (fun c5 => ?_)
    · refine x_aload_0 dX9_wants_10 ?_
      refine x_V0v dX9_wants_11 m_X9_137 (c_X9_keepsAside a hb) (by assumption) (fun I11 h11 => ?_)
      obtain ⟨cf11, cc11⟩ := h11
      have ho3 := tdp_fr ho (fun j => cf11 _ _ (by omega))
      have hs3 := stp_to hs hn6 (fun j _ => cf11 _ _ (by omega))
      refine x_aload_0 dX9_wants_14 ?_
      refine x_getr dX9_wants_15 f_X9_13 (by assumption) qO ?_
      refine x_bip (c := 11) dX9_wants_18 (by decide) ?_
      refine x_iload_1 dX9_wants_20 ?_
      refine x_iaddN dX9_wants_21 ?_
      refine x_ialdV dX9_wants_22 (by assumption) rfl (by omega) (ho3.2.2.2.2.2.2.1 l hl) ?_
      refine x_istore_2 dX9_wants_23 rfl rfl ?_
      refine x_bipush (v := -4) dX9_wants_24 (by decide) ?_
      refine x_istore_3 dX9_wants_26 rfl rfl ?_
      refine x_const (c := 0) dX9_wants_27 rfl ?_
      refine x_istore_4 dX9_wants_28 rfl rfl ?_
      refine l_wants a hb (yt S) (yg S) ho3 y3 y4 (ys S) y5.1 y5.2 (fun j hj => (cc11 j hj).trans (cf11 _ _ (by omega)).symm) hs3 y7 l hl (fun J q1 q2 q3 => ⟨_, rfl, rfl, ?_⟩) 11 0 _ (by omega) (by omega) (fun _ _ _ => rfl) hs3 rfl
      unfold A_wants
      rw [onI_y (by omega) (by omega) (by omega)]
      exact ⟨fun b j hb2 => (q1 b j (by unfold FtMd at hb2; unfold FtP9; omega)).trans (cf11 b j (by unfold FtMd at hb2; omega)), MdI_q (s := ys S) hm hn6 (fun x j hx => (q1 x j (by unfold FtP9; omega)).trans (cf11 x j (by omega))) q3, rfl⟩
    · exfalso; omega
  · refine x_if_neN dX9_wants_5 (by omega) (fun c5 => ?_) (fun c5 => ?_)
    · exfalso; omega
    · refine x_iconst (v := -1) dX9_wants_8 rfl ?_
      exact x_iret (st := []) dX9_wants_9 rfl rfl (⟨_, rfl, rfl, by unfold A_wants; rw [onI_n h2]; exact ⟨fun _ _ _ => rfl, hm, rfl⟩⟩)
theorem or_11 : ∀ x, x < 2 → ∀ y, y < 2 → nI x ||| nI y = nI (if y = 1 then 1 else x) := by decide +kernel
theorem can_0 {s : St} {set i : Nat} (h : canS i s set) (h1 : set / 2 ^ i % 2 = 1 → sH s i = 0) : canS (i + 1) s set := by
  intro l hl hb
  by_cases e : l = i
  · subst e; exact h1 hb
  · exact h l (by omega) hb
theorem can_n {s : St} {set i : Nat} (h : ¬ canS i s set) : ¬ canS (i + 1) s set := fun z => h (fun l hl hb => z l (by omega) hb)
theorem can_b {s : St} {set i : Nat} (h1 : set / 2 ^ i % 2 = 1) (h2 : sH s i ≠ 0) : ¬ canS (i + 1) s set := fun z => h2 (z i (Nat.lt_succ_self i) h1)
theorem stp_shd {I J : MI} {c : Nat} {t : Tp} {s : St} {set i : Nat} (h : stp I c t (shdS i s set)) (hn : tN t ≤ 6) (hi : i < tN t) (fr : Fr1 I J c (18 + i)) (e : J c (18 + i) = nI (if set / 2 ^ i % 2 = 1 then 1 else sH s i)) : stp J c t (shdS (i + 1) s set) := by
  obtain ⟨h0, h1, h2, h3, h4, h5⟩ := h
  refine ⟨fun k hk => (fr _ _ (by omega)).trans (h0 k hk), fun k hk => (fr _ _ (by omega)).trans (h1 k hk), fun k hk => (fr _ _ (by omega)).trans (h2 k hk), fun k hk => ?_, (fr _ _ (by omega)).trans h4, (fr _ _ (by omega)).trans h5⟩
  show J c (18 + k) = nI (if k < i + 1 ∧ set / 2 ^ k % 2 = 1 then 1 else sH s k)
  by_cases z : k = i
  · subst z
    rw [e]
    congr 1
    by_cases y : set / 2 ^ k % 2 = 1
    · rw [if_pos y, if_pos ⟨Nat.lt_succ_self k, y⟩]
    · rw [if_neg y, if_neg (fun q => y q.2)]
  · have h9 : J c (18 + k) = nI (if k < i ∧ set / 2 ^ k % 2 = 1 then 1 else sH s k) := (fr _ _ (by omega)).trans (h3 k hk)
    rw [h9]
    congr 1
    by_cases y : k < i ∧ set / 2 ^ k % 2 = 1
    · rw [if_pos y, if_pos ⟨by omega, y.2⟩]
    · rw [if_neg y, if_neg (fun q => y ⟨by omega, q.2⟩)]
theorem bit01 (x k : Nat) : x / 2 ^ k % 2 < 2 := Nat.mod_lt _ (by decide)
theorem shl_1 : ∀ k, k < 7 → nI 1 <<< (nI k &&& 31) = nI (2 ^ k) := by decide +kernel
theorem pw6 : ∀ k, k < 7 → 2 ^ k ≤ 64 := by decide
set_option maxHeartbeats 4000000 in
theorem l_shd_in {r : Ev} {n : Nat} {Q : MQ2} {F : Post} {I0 : MI} (a : Nat) (hb : MdB n Q a) (t : Tp) (g : Nt) (ho0 : tdp I0 (a + 2) t g) (ht : okT t) (hG : okN g) (s : St) (hk : okS t s) (hR : sR s ≤ 99) (w1 mst bst : Int32) (set : Nat) (hset : set < 128) (hx : ∀ (I : MI) (c : Nat) (w6 : Option Value), FrS I0 I (fun x _ => x = a + 5) → stp I (a + 5) t (shdS (tN t) s set) → ((c = 1 ∧ canS (tN t) s set) ∨ (c = 0 ∧ ¬ canS (tN t) s set)) → X r 5 yX9_shading cX9_shading (7, (some .int)) (0, 0) 113 [some (.ref (evz r + a)), some (.int w1), some (.int mst), some (.int bst), some (.int (nI (set))), some (.int (nI (c))), w6] [] n I Q F) : ∀ (k : Nat) (i c : Nat) (I : MI), i ≤ tN t → i + k = tN t + 1 → FrS I0 I (fun x _ => x = a + 5) → stp I (a + 5) t (shdS i s set) → ((c = 1 ∧ canS i s set) ∨ (c = 0 ∧ ¬ canS i s set)) → X r 5 yX9_shading cX9_shading (7, (some .int)) (0, 0) 41 [some (.ref (evz r + a)), some (.int w1), some (.int mst), some (.int bst), some (.int (nI (set))), some (.int (nI (c))), some (.int (nI (i)))] [] n I Q F := by
  intro k
  induction k with
  | zero => intros; omega
  | succ k ih =>
    intro i c I hi0 hi hfr hs hc
    have hn6 := ht.1
    have ho : tdp I (a + 2) t g := tdp_fr ho0 (fun j => hfr _ _ (by omega))
    obtain ⟨b0, bT, bO, bD, bB, bS, bP, bM, bN, bR, bH, qT, qO, qD, qB, qS, qP, qM, qN, qR, qH⟩ := id hb
    refine x_iload_6 dX9_shading_41 ?_
    refine x_aload_0 dX9_shading_43 ?_
    refine x_getr dX9_shading_44 f_X9_13 (by assumption) qO ?_
    refine x_const (c := 0) dX9_shading_47 rfl ?_
    refine x_ialdV dX9_shading_48 (by assumption) rfl (by omega) ho.1 ?_
    refine x_icmp_geN dX9_shading_49 (by omega) (by omega) (fun c49 => ?_) (fun c49 => ?_)
    · obtain rfl : i = tN t := (by omega)
      exact hx _ _ _ hfr hs hc
    · have ho : tdp I (a + 2) t g := tdp_fr ho0 (fun j => hfr _ _ (by omega))
      have hn6 := ht.1
      have hHi := (hk.1 i (by omega)).2.2
      have hsi : I (a + 5) (18 + i) = nI (sH s i) := (hs.2.2.2.1 i (by omega)).trans (congrArg nI (if_neg (fun z => absurd z.1 (Nat.lt_irrefl i))))
      have hc2 : c ≤ 1 := by omega
      
      refine x_iload_5 dX9_shading_52 ?_
      refine x_if_eqN dX9_shading_54 (by omega) (fun c54 => ?_) (fun c54 => ?_)
      · refine x_const (c := 0) dX9_shading_84 rfl ?_
        refine x_istore_5 dX9_shading_85 rfl rfl ?_
        refine x_aload_0 dX9_shading_87 ?_
        refine x_getr dX9_shading_88 f_X9_22 (by assumption) qS ?_
        refine x_bip (c := 18) dX9_shading_91 (by decide) ?_
        refine x_iload_6 dX9_shading_93 ?_
        refine x_iaddN dX9_shading_95 ?_
        refine x_dup2 dX9_shading_96 ?_
        refine x_ialdV dX9_shading_97 (by assumption) rfl (by omega) hsi ?_
        refine x_iload_4 dX9_shading_98 ?_
        refine x_iload_6 dX9_shading_100 ?_
        refine x_ishr dX9_shading_102 ?_
        refine x_const (c := 1) dX9_shading_103 rfl ?_
        refine x_iand dX9_shading_104 ?_
        rw [bit_at i (by omega) set hset]
        have hb3 := bit01 set i
        refine x_ior dX9_shading_105 ?_
        rw [or_11 _ (by omega) _ hb3]
        refine x_iastA dX9_shading_106 (by assumption) rfl (by omega) (fun J106 fr106 e106 => ?_)
        refine x_iinc_6 dX9_shading_107 (iinc1 _) rfl rfl ?_
        refine x_goto dX9_shading_110 ?_
        refine ih (i + 1) _ _ (by omega) (by omega) (fun x j hx => (fr106 x j (by omega)).trans (hfr x j hx)) (stp_shd hs hn6 (by omega) fr106 e106) ?_
        first
          | exact Or.inr ⟨rfl, can_n (hc.elim (fun z => absurd z.1 (by omega)) (fun z => z.2))⟩
          | exact Or.inl ⟨rfl, can_0 (hc.elim (fun z => z.2) (fun z => absurd z.1 (by omega))) (fun z => by omega)⟩
          | exact Or.inr ⟨rfl, can_b (by omega) (by omega)⟩
      · refine x_iload_4 dX9_shading_57 ?_
        refine x_iload_6 dX9_shading_59 ?_
        refine x_ishr dX9_shading_61 ?_
        refine x_const (c := 1) dX9_shading_62 rfl ?_
        refine x_iand dX9_shading_63 ?_
        rw [bit_at i (by omega) set hset]
        have hb2 := bit01 set i
        refine x_if_eqN dX9_shading_64 (by omega) (fun c64 => ?_) (fun c64 => ?_)
        · refine x_const (c := 1) dX9_shading_80 rfl ?_
          refine x_goto dX9_shading_81 ?_
          refine x_istore_5 dX9_shading_85 rfl rfl ?_
          refine x_aload_0 dX9_shading_87 ?_
          refine x_getr dX9_shading_88 f_X9_22 (by assumption) qS ?_
          refine x_bip (c := 18) dX9_shading_91 (by decide) ?_
          refine x_iload_6 dX9_shading_93 ?_
          refine x_iaddN dX9_shading_95 ?_
          refine x_dup2 dX9_shading_96 ?_
          refine x_ialdV dX9_shading_97 (by assumption) rfl (by omega) hsi ?_
          refine x_iload_4 dX9_shading_98 ?_
          refine x_iload_6 dX9_shading_100 ?_
          refine x_ishr dX9_shading_102 ?_
          refine x_const (c := 1) dX9_shading_103 rfl ?_
          refine x_iand dX9_shading_104 ?_
          rw [bit_at i (by omega) set hset]
          have hb3 := bit01 set i
          refine x_ior dX9_shading_105 ?_
          rw [or_11 _ (by omega) _ hb3]
          refine x_iastA dX9_shading_106 (by assumption) rfl (by omega) (fun J106 fr106 e106 => ?_)
          refine x_iinc_6 dX9_shading_107 (iinc1 _) rfl rfl ?_
          refine x_goto dX9_shading_110 ?_
          refine ih (i + 1) _ _ (by omega) (by omega) (fun x j hx => (fr106 x j (by omega)).trans (hfr x j hx)) (stp_shd hs hn6 (by omega) fr106 e106) ?_
          first
            | exact Or.inr ⟨rfl, can_n (hc.elim (fun z => absurd z.1 (by omega)) (fun z => z.2))⟩
            | exact Or.inl ⟨rfl, can_0 (hc.elim (fun z => z.2) (fun z => absurd z.1 (by omega))) (fun z => by omega)⟩
            | exact Or.inr ⟨rfl, can_b (by omega) (by omega)⟩
        · refine x_aload_0 dX9_shading_67 ?_
          refine x_getr dX9_shading_68 f_X9_22 (by assumption) qS ?_
          refine x_bip (c := 18) dX9_shading_71 (by decide) ?_
          refine x_iload_6 dX9_shading_73 ?_
          refine x_iaddN dX9_shading_75 ?_
          refine x_ialdV dX9_shading_76 (by assumption) rfl (by omega) hsi ?_
          refine x_if_neN dX9_shading_77 (by omega) (fun c77 => ?_) (fun c77 => ?_)
          · refine x_const (c := 0) dX9_shading_84 rfl ?_
            refine x_istore_5 dX9_shading_85 rfl rfl ?_
            refine x_aload_0 dX9_shading_87 ?_
            refine x_getr dX9_shading_88 f_X9_22 (by assumption) qS ?_
            refine x_bip (c := 18) dX9_shading_91 (by decide) ?_
            refine x_iload_6 dX9_shading_93 ?_
            refine x_iaddN dX9_shading_95 ?_
            refine x_dup2 dX9_shading_96 ?_
            refine x_ialdV dX9_shading_97 (by assumption) rfl (by omega) hsi ?_
            refine x_iload_4 dX9_shading_98 ?_
            refine x_iload_6 dX9_shading_100 ?_
            refine x_ishr dX9_shading_102 ?_
            refine x_const (c := 1) dX9_shading_103 rfl ?_
            refine x_iand dX9_shading_104 ?_
            rw [bit_at i (by omega) set hset]
            have hb3 := bit01 set i
            refine x_ior dX9_shading_105 ?_
            rw [or_11 _ (by omega) _ hb3]
            refine x_iastA dX9_shading_106 (by assumption) rfl (by omega) (fun J106 fr106 e106 => ?_)
            refine x_iinc_6 dX9_shading_107 (iinc1 _) rfl rfl ?_
            refine x_goto dX9_shading_110 ?_
            refine ih (i + 1) _ _ (by omega) (by omega) (fun x j hx => (fr106 x j (by omega)).trans (hfr x j hx)) (stp_shd hs hn6 (by omega) fr106 e106) ?_
            first
              | exact Or.inr ⟨rfl, can_n (hc.elim (fun z => absurd z.1 (by omega)) (fun z => z.2))⟩
              | exact Or.inl ⟨rfl, can_0 (hc.elim (fun z => z.2) (fun z => absurd z.1 (by omega))) (fun z => by omega)⟩
              | exact Or.inr ⟨rfl, can_b (by omega) (by omega)⟩
          · refine x_const (c := 1) dX9_shading_80 rfl ?_
            refine x_goto dX9_shading_81 ?_
            refine x_istore_5 dX9_shading_85 rfl rfl ?_
            refine x_aload_0 dX9_shading_87 ?_
            refine x_getr dX9_shading_88 f_X9_22 (by assumption) qS ?_
            refine x_bip (c := 18) dX9_shading_91 (by decide) ?_
            refine x_iload_6 dX9_shading_93 ?_
            refine x_iaddN dX9_shading_95 ?_
            refine x_dup2 dX9_shading_96 ?_
            refine x_ialdV dX9_shading_97 (by assumption) rfl (by omega) hsi ?_
            refine x_iload_4 dX9_shading_98 ?_
            refine x_iload_6 dX9_shading_100 ?_
            refine x_ishr dX9_shading_102 ?_
            refine x_const (c := 1) dX9_shading_103 rfl ?_
            refine x_iand dX9_shading_104 ?_
            rw [bit_at i (by omega) set hset]
            have hb3 := bit01 set i
            refine x_ior dX9_shading_105 ?_
            rw [or_11 _ (by omega) _ hb3]
            refine x_iastA dX9_shading_106 (by assumption) rfl (by omega) (fun J106 fr106 e106 => ?_)
            refine x_iinc_6 dX9_shading_107 (iinc1 _) rfl rfl ?_
            refine x_goto dX9_shading_110 ?_
            refine ih (i + 1) _ _ (by omega) (by omega) (fun x j hx => (fr106 x j (by omega)).trans (hfr x j hx)) (stp_shd hs hn6 (by omega) fr106 e106) ?_
            first
              | exact Or.inr ⟨rfl, can_n (hc.elim (fun z => absurd z.1 (by omega)) (fun z => z.2))⟩
              | exact Or.inl ⟨rfl, can_0 (hc.elim (fun z => z.2) (fun z => absurd z.1 (by omega))) (fun z => by omega)⟩
              | exact Or.inr ⟨rfl, can_b (by omega) (by omega)⟩
theorem sumF_le {f : Nat → Nat} {b : Nat} : ∀ {n : Nat}, (∀ k, k < n → f k ≤ b) → sumF f n ≤ b * n
  | 0, _ => Nat.zero_le _
  | n + 1, h => by
    have h1 := sumF_le (f := f) (b := b) (n := n) (fun k hk => h k (by omega))
    have h2 := h n (Nat.lt_succ_self n)
    show sumF f n + f n ≤ _
    rw [Nat.mul_succ]
    omega
theorem ones6_le (x : Nat) : ones6 x ≤ 6 := sumF_le (b := 1) (fun k _ => by have := bit01 x k; omega)
set_option maxHeartbeats 4000000 in
theorem l_shd_A {r : Ev} {n : Nat} {Q : MQ2} {F : Post} {I : MI} (a : Nat) (hb : MdB n Q a) (w1 : Int32) (set c y : Nat) (hy : y < 1000) (hx : X r 5 yX9_shading cX9_shading (7, (some .int)) (0, 0) 174 [some (.ref (evz r + a)), some (.int w1), some (.int (nI y)), some (.int (nI set)), some (.int (nI (set))), some (.int (nI (c))), some (.int (nI y))] [] n I Q F) : X r 5 yX9_shading cX9_shading (7, (some .int)) (0, 0) 139 [some (.ref (evz r + a)), some (.int w1), some (.int (-1)), some (.int (nI 0)), some (.int (nI (set))), some (.int (nI (c))), some (.int (nI y))] [] n I Q F := by
  refine x_iload_6 dX9_shading_139 ?_
  refine x_iload_2 dX9_shading_141 ?_
  refine x_icmp_gt dX9_shading_142 (fun c142 => ?_) (fun c142 => ?_)
  · refine x_iload_6 dX9_shading_168 ?_
    refine x_istore_2 dX9_shading_170 rfl rfl ?_
    refine x_iload_4 dX9_shading_171 ?_
    refine x_istore_3 dX9_shading_173 rfl rfl ?_
    exact hx
  · exact absurd (m1_lt (lo := y) (by omega)) c142
set_option maxHeartbeats 4000000 in
theorem l_shd_B {r : Ev} {n : Nat} {Q : MQ2} {F : Post} {I : MI} (a : Nat) (hb : MdB n Q a) (w1 : Int32) (set y m b : Nat) (hset : set < 128) (hb7 : b < 128) (hy : y < 1000) (hm : m < 1000) (hx1 : (m < y ∨ (y = m ∧ ones6 set < ones6 b)) → X r 5 yX9_shading cX9_shading (7, (some .int)) (0, 0) 174 [some (.ref (evz r + a)), some (.int w1), some (.int (nI y)), some (.int (nI set)), some (.int (nI (set))), some (.int (nI (1))), some (.int (nI y))] [] n I Q F) (hx2 : ¬ (m < y ∨ (y = m ∧ ones6 set < ones6 b)) → X r 5 yX9_shading cX9_shading (7, (some .int)) (0, 0) 174 [some (.ref (evz r + a)), some (.int w1), some (.int (nI m)), some (.int (nI b)), some (.int (nI (set))), some (.int (nI (1))), some (.int (nI y))] [] n I Q F) : X r 5 yX9_shading cX9_shading (7, (some .int)) (0, 0) 139 [some (.ref (evz r + a)), some (.int w1), some (.int (nI m)), some (.int (nI b)), some (.int (nI (set))), some (.int (nI (1))), some (.int (nI y))] [] n I Q F := by
  refine x_iload_6 dX9_shading_139 ?_
  refine x_iload_2 dX9_shading_141 ?_
  refine x_icmp_gtN dX9_shading_142 (by omega) (by omega) (fun c142 => ?_) (fun c142 => ?_)
  · refine x_iload_6 dX9_shading_168 ?_
    refine x_istore_2 dX9_shading_170 rfl rfl ?_
    refine x_iload_4 dX9_shading_171 ?_
    refine x_istore_3 dX9_shading_173 rfl rfl ?_
    first | exact hx1 (by omega) | exact hx2 (by omega)
  · refine x_iload_6 dX9_shading_145 ?_
    refine x_iload_2 dX9_shading_147 ?_
    refine x_icmp_neN dX9_shading_148 (by omega) (by omega) (fun c148 => ?_) (fun c148 => ?_)
    · first | exact hx1 (by omega) | exact hx2 (by omega)
    · refine x_iload_5 dX9_shading_151 ?_
      refine x_if_eqN dX9_shading_153 (by omega) (fun c153 => ?_) (fun c153 => ?_)
      · exfalso; omega
      · refine x_iload_4 dX9_shading_156 ?_
        refine x_S1i dX9_shading_158 m_X9_152 (c_X9_ones set hset) (fun x158 I158 h158 => ?_)
        obtain ⟨rfl, rfl⟩ := h158
        refine x_iload_3 dX9_shading_161 ?_
        refine x_S1i dX9_shading_162 m_X9_152 (c_X9_ones b hb7) (fun x162 I162 h162 => ?_)
        obtain ⟨rfl, rfl⟩ := h162
        have o1 := ones6_le set
        have o2 := ones6_le b
        refine x_icmp_geN dX9_shading_165 (by omega) (by omega) (fun c165 => ?_) (fun c165 => ?_)
        · first | exact hx1 (by omega) | exact hx2 (by omega)
        · refine x_iload_6 dX9_shading_168 ?_
          refine x_istore_2 dX9_shading_170 rfl rfl ?_
          refine x_iload_4 dX9_shading_171 ?_
          refine x_istore_3 dX9_shading_173 rfl rfl ?_
          first | exact hx1 (by omega) | exact hx2 (by omega)
set_option maxHeartbeats 4000000 in
theorem l_shd_C {r : Ev} {n : Nat} {Q : MQ2} {F : Post} {I : MI} (a : Nat) (hb : MdB n Q a) (w1 : Int32) (set m b : Nat) (hm : m < 1000) (hx2 : X r 5 yX9_shading cX9_shading (7, (some .int)) (0, 0) 174 [some (.ref (evz r + a)), some (.int w1), some (.int (nI m)), some (.int (nI b)), some (.int (nI (set))), some (.int (nI (0))), some (.int (-1))] [] n I Q F) : X r 5 yX9_shading cX9_shading (7, (some .int)) (0, 0) 139 [some (.ref (evz r + a)), some (.int w1), some (.int (nI m)), some (.int (nI b)), some (.int (nI (set))), some (.int (nI (0))), some (.int (-1))] [] n I Q F := by
  refine x_iload_6 dX9_shading_139 ?_
  refine x_iload_2 dX9_shading_141 ?_
  refine x_icmp_gt dX9_shading_142 (fun c142 => ?_) (fun c142 => ?_)
  · exact absurd c142 (Int32.not_lt.mpr (Int32.le_of_lt (m1_lt (lo := m) (by omega))))
  · refine x_iload_6 dX9_shading_145 ?_
    refine x_iload_2 dX9_shading_147 ?_
    refine x_icmp_ne dX9_shading_148 (fun c148 => ?_) (fun c148 => ?_)
    · exact hx2
    · exact absurd c148.symm (nI_nm1 (by omega))
theorem shF_le (t : Tp) (g : Nt) (s : St) : ∀ k, (shF t g s k).1 ≤ 6
  | 0 => ones6_le _
  | k + 1 => by
    show (shStep t g s (shF t g s k) (k + 1)).1 ≤ 6
    unfold shStep
    by_cases h : canS (tN t) s (k + 1) ∧ ((shF t g s k).1 < yShd t g s (k + 1) ∨ (yShd t g s (k + 1) = (shF t g s k).1 ∧ ones6 (k + 1) < ones6 (shF t g s k).2))
    · rw [if_pos h]; exact ones6_le _
    · rw [if_neg h]; exact shF_le t g s k
theorem shF_le2 (t : Tp) (g : Nt) (s : St) : ∀ k, (shF t g s k).2 ≤ k
  | 0 => Nat.le_refl _
  | k + 1 => by
    show (shStep t g s (shF t g s k) (k + 1)).2 ≤ k + 1
    unfold shStep
    by_cases h : canS (tN t) s (k + 1) ∧ ((shF t g s k).1 < yShd t g s (k + 1) ∨ (yShd t g s (k + 1) = (shF t g s k).1 ∧ ones6 (k + 1) < ones6 (shF t g s k).2))
    · rw [if_pos h]; exact Nat.le_refl _
    · rw [if_neg h]; exact Nat.le_succ_of_le (shF_le2 t g s k)
theorem shF_yes {t : Tp} {g : Nt} {s : St} {set : Nat} (z : 0 < set) (h : canS (tN t) s set ∧ ((shF t g s (set - 1)).1 < yShd t g s set ∨ (yShd t g s set = (shF t g s (set - 1)).1 ∧ ones6 set < ones6 (shF t g s (set - 1)).2))) : shF t g s (set + 1 - 1) = (yShd t g s set, set) := by
  obtain ⟨k, rfl⟩ : ∃ k, set = k + 1 := ⟨set - 1, by omega⟩
  exact if_pos h
theorem shF_no {t : Tp} {g : Nt} {s : St} {set : Nat} (z : 0 < set) (h : ¬ (canS (tN t) s set ∧ ((shF t g s (set - 1)).1 < yShd t g s set ∨ (yShd t g s set = (shF t g s (set - 1)).1 ∧ ones6 set < ones6 (shF t g s (set - 1)).2)))) : shF t g s (set + 1 - 1) = shF t g s (set - 1) := by
  obtain ⟨k, rfl⟩ : ∃ k, set = k + 1 := ⟨set - 1, by omega⟩
  exact if_neg h
set_option maxHeartbeats 4000000 in
theorem l_shd {r : Ev} {n : Nat} {Q : MQ2} {F : Post} {I0 : MI} (a : Nat) (hb : MdB n Q a) (t : Tp) (g : Nt) (ho0 : tdp I0 (a + 2) t g) (ht : okT t) (hG : okN g) (s : St) (hk : okS t s) (hR : sR s ≤ 99) (hheld : ∀ j, j < 26 → I0 (a + 10) j = I0 (a + 5) j) (hs0 : stp I0 (a + 5) t s) (h9 : ∀ l, l < tN t → tT t l ≤ 9) (w1 : Int32) (hF : ∀ (J : MI) (w5 w6 : Option Value), FrS I0 J (fun x _ => FtP9 a x) → stp J (a + 5) t s → X r 5 yX9_shading cX9_shading (7, (some .int)) (0, 0) 180 [some (.ref (evz r + a)), some (.int w1), some (.int (nI (shF t g s (2 ^ tN t - 1)).1)), some (.int (nI (shF t g s (2 ^ tN t - 1)).2)), some (.int (nI (2 ^ tN t))), w5, w6] [] n J Q F) : ∀ (k : Nat) (set : Nat) (mst bst : Int32) (I : MI) (w5 w6 : Option Value), set ≤ 2 ^ tN t → set + k = 2 ^ tN t + 1 → FrS I0 I (fun x _ => FtP9 a x) → stp I (a + 5) t s → ((set = 0 ∧ mst = -1 ∧ bst = nI 0) ∨ (0 < set ∧ mst = nI (shF t g s (set - 1)).1 ∧ bst = nI (shF t g s (set - 1)).2)) → X r 5 yX9_shading cX9_shading (7, (some .int)) (0, 0) 22 [some (.ref (evz r + a)), some (.int w1), some (.int mst), some (.int bst), some (.int (nI (set))), w5, w6] [] n I Q F := by
  intro k
  induction k with
  | zero => intros; omega
  | succ k ih =>
    intro set mst bst I w5 w6 hi0 hi hfr hs hb2
    obtain ⟨b0, bT, bO, bD, bB, bS, bP, bM, bN, bR, bH, qT, qO, qD, qB, qS, qP, qM, qN, qR, qH⟩ := id hb
    refine x_iload_4 dX9_shading_22 ?_
    have ho : tdp I (a + 2) t g := tdp_fr ho0 (fun j => hfr _ _ (by unfold FtP9; omega))
    have hn6 := ht.1
    have hpw := pw6 (tN t) (by omega)
    refine x_const (c := 1) dX9_shading_24 rfl ?_
    refine x_aload_0 dX9_shading_25 ?_
    refine x_getr dX9_shading_26 f_X9_13 (by assumption) qO ?_
    refine x_const (c := 0) dX9_shading_29 rfl ?_
    refine x_ialdV dX9_shading_30 (by assumption) rfl (by omega) ho.1 ?_
    refine x_ishl dX9_shading_31 ?_
    rw [shl_1 (tN t) (by omega)]
    refine x_icmp_geN dX9_shading_32 (by omega) (by omega) (fun c32 => ?_) (fun c32 => ?_)
    · have e9 : set = 2 ^ tN t := by omega
      subst e9
      have h0 := Nat.two_pow_pos (tN t)
      rcases hb2 with ⟨z, -, -⟩ | ⟨-, rfl, rfl⟩
      · omega
      · exact hF _ _ _ hfr hs
    · refine x_const (c := 1) dX9_shading_35 rfl ?_
      refine x_istore_5 dX9_shading_36 rfl rfl ?_
      refine x_const (c := 0) dX9_shading_38 rfl ?_
      refine x_istore_6 dX9_shading_39 rfl rfl ?_
      refine l_shd_in a hb t g ho ht hG s hk hR _ _ _ set (by omega) (fun I1 c w6 f1 s1 hc => ?_) (tN t + 1) 0 1 _ (by omega) (by omega) (fun _ _ _ => rfl) hs (Or.inl ⟨rfl, fun l hl => absurd hl (Nat.not_lt_zero l)⟩)
      have hcc : c ≤ 1 := by omega
      refine x_aload_0 dX9_shading_113 ?_
      refine x_V0v dX9_shading_114 m_X9_143 (c_X9_sells a hb t g (tdp_fr ho (fun j => f1 _ _ (by omega))) ht hG _ (okS_shd hk) s1 (by show sR s ≤ 1000; omega)) (by assumption) (fun I114 h114 => ?_)
      obtain ⟨pf114, ps114⟩ := h114
      refine x_iload_5 dX9_shading_117 ?_
      refine x_if_eqN dX9_shading_119 (by omega) (fun c119 => ?_) (fun c119 => ?_)
      · have hnc : ¬ canS (tN t) s set := hc.elim (fun z => absurd z.1 (by omega)) (fun z => z.2)
        refine x_iconst (v := -1) dX9_shading_132 rfl ?_
        refine x_istore_6 dX9_shading_133 rfl rfl ?_
        refine x_aload_0 dX9_shading_135 ?_
        refine x_V0v dX9_shading_136 m_X9_140 (c_X9_bringsBack a hb) (by assumption) (fun I136 h136 => ?_)
        obtain ⟨cf136, cc136⟩ := h136
        have hfr2 : FrS I0 _ (fun x _ => FtP9 a x) := fun x j hx => (cf136 x j (by unfold FtP9 at hx; omega)).trans ((pf114 x j hx).trans ((f1 x j (by unfold FtP9 at hx; omega)).trans (hfr x j hx)))
        have hs2 : stp _ (a + 5) t s := stp_to hs0 hn6 (fun j hj => (cc136 j hj).trans ((pf114 _ _ (by unfold FtP9; omega)).trans ((f1 _ _ (by omega)).trans ((hfr _ _ (by unfold FtP9; omega)).trans (hheld j hj)))))
        obtain rfl : c = 0 := by omega
        rcases hb2 with ⟨rfl, rfl, rfl⟩ | ⟨z, rfl, rfl⟩
        · exact absurd (fun l _ hb => absurd hb (by rw [Nat.zero_div]; decide)) hnc
        · have hm6 := shF_le t g s (set - 1)
          refine l_shd_C a hb _ set _ _ (by omega) ?_
          refine x_iinc_4 dX9_shading_174 (iinc1 _) rfl rfl ?_
          refine x_goto dX9_shading_177 ?_
          refine ih (set + 1) _ _ _ _ _ (by omega) (by omega) hfr2 hs2 (Or.inr ⟨by omega, ?_, ?_⟩)
          · rw [shF_no z (fun y => hnc y.1)]
          · rw [shF_no z (fun y => hnc y.1)]
      · have hcn : canS (tN t) s set := hc.elim (fun z => z.2) (fun z => absurd z.1 (by omega))
        have hc1 : c = 1 := by omega
        refine x_aload_0 dX9_shading_122 ?_
        refine x_V0i dX9_shading_123 m_X9_146 (c_X9_yardsNow a hb t g (tdp_fr ho (fun j => (pf114 _ _ (by unfold FtP9; omega)).trans (f1 _ _ (by omega)))) _ ps114 hn6 (fun l hl => by have h1 := ((okS_sel (g := g) (okS_shd (set := set) hk)).1 l hl).2.1; have := h9 l hl; omega) (by have := hG.2.2.2.2.2.2; omega)) (by assumption) (fun x123 I123 h123 => ?_)
        obtain ⟨rfl, rfl⟩ := h123
        refine x_S1i dX9_shading_126 m_X9_152 (c_X9_ones _ (ydB_lt (t := t) (g := g) (s := selS t g (shdS (tN t) s set)) hn6)) (fun x126 I126 h126 => ?_)
        obtain ⟨rfl, rfl⟩ := h126
        refine x_goto dX9_shading_129 ?_
        refine x_istore_6 dX9_shading_133 rfl rfl ?_
        refine x_aload_0 dX9_shading_135 ?_
        refine x_V0v dX9_shading_136 m_X9_140 (c_X9_bringsBack a hb) (by assumption) (fun I136 h136 => ?_)
        obtain ⟨cf136, cc136⟩ := h136
        have hfr2 : FrS I0 _ (fun x _ => FtP9 a x) := fun x j hx => (cf136 x j (by unfold FtP9 at hx; omega)).trans ((pf114 x j hx).trans ((f1 x j (by unfold FtP9 at hx; omega)).trans (hfr x j hx)))
        have hs2 : stp _ (a + 5) t s := stp_to hs0 hn6 (fun j hj => (cc136 j hj).trans ((pf114 _ _ (by unfold FtP9; omega)).trans ((f1 _ _ (by omega)).trans ((hfr _ _ (by unfold FtP9; omega)).trans (hheld j hj)))))
        subst hc1
        rcases hb2 with ⟨rfl, rfl, rfl⟩ | ⟨z, rfl, rfl⟩
        · refine l_shd_A a hb _ 0 1 _ (Nat.lt_of_le_of_lt (ones6_le _) (by decide)) ?_
          refine x_iinc_4 dX9_shading_174 (iinc1 _) rfl rfl ?_
          refine x_goto dX9_shading_177 ?_
          exact ih (0 + 1) _ _ _ _ _ (by omega) (by omega) hfr2 hs2 (Or.inr ⟨by omega, rfl, rfl⟩)
        · have hm6 := shF_le t g s (set - 1)
          have hm7 := shF_le2 t g s (set - 1)
          refine l_shd_B a hb _ set _ _ _ (by omega) (by omega) (Nat.lt_of_le_of_lt (ones6_le _) (by decide)) (by omega) (fun hy => ?_) (fun hy => ?_)
          · refine x_iinc_4 dX9_shading_174 (iinc1 _) rfl rfl ?_
            refine x_goto dX9_shading_177 ?_
            refine ih (set + 1) _ _ _ _ _ (by omega) (by omega) hfr2 hs2 (Or.inr ⟨by omega, ?_, ?_⟩)
            · rw [shF_yes z ⟨hcn, hy⟩]; rfl
            · rw [shF_yes z ⟨hcn, hy⟩]
          · refine x_iinc_4 dX9_shading_174 (iinc1 _) rfl rfl ?_
            refine x_goto dX9_shading_177 ?_
            refine ih (set + 1) _ _ _ _ _ (by omega) (by omega) hfr2 hs2 (Or.inr ⟨by omega, ?_, ?_⟩)
            · rw [shF_no z (fun q => hy q.2)]
            · rw [shF_no z (fun q => hy q.2)]
set_option maxHeartbeats 4000000 in
theorem c_X9_shading {r : Ev} {n : Nat} {I : MI} {Q : MQ2} (a : Nat) (hb : MdB n Q a) (S : Sy) (hm : MdI I a S) (hok : okY S) (x : Int32) : CT r 5 yX9_shading cX9_shading (7, (some .int)) (0, 0) [.ref (evz r + a), .int x] n I Q (ri Q (fun v J => FrS I J (FtMd a) ∧ MdI J a (A_shading S x).2 ∧ v = (A_shading S x).1)) := by
  refine ct_of (lv := [some (.ref (evz r + a)), some (.int x), none, none, none, none, none]) (by decide +kernel) rfl rfl rfl ?_
  obtain ⟨b0, bT, bO, bD, bB, bS, bP, bM, bN, bR, bH, qT, qO, qD, qB, qS, qP, qM, qN, qR, qH⟩ := id hb
  obtain ⟨ht, ho, hs, ⟨h7, hp⟩, ⟨h9, hq⟩, h11, hw⟩ := id hm
  obtain ⟨y1, y2, y3, y4, y5, y6, y7, y8, y9, y10, y11, y12⟩ := id hok
  have hn6 := y3.1
  refine x_iload_1 dX9_shading_0 ?_
  refine x_const (c := 0) dX9_shading_1 rfl ?_
  refine x_const (c := 1) dX9_shading_2 rfl ?_
  refine x_S3i dX9_shading_3 m_X9_54 (c_X9_in x 0 1 (by omega) (by omega)) (fun x3 I3 h3 => ?_)
  obtain ⟨rfl, ⟨rfl, h3⟩ | ⟨rfl, h3⟩⟩ := h3
  · obtain ⟨w, w0, w1, rfl⟩ := h3
    refine x_if_neN dX9_shading_6 (by omega) (fun c6 => ?_) (fun c6 => ?_)
    · refine x_aload_0 dX9_shading_11 ?_
      refine x_V0v dX9_shading_12 m_X9_137 (c_X9_keepsAside a hb) (by assumption) (fun I12 h12 => ?_)
      obtain ⟨cf12, cc12⟩ := h12
      have ho3 := tdp_fr ho (fun j => cf12 _ _ (by omega))
      have hs3 := stp_to hs hn6 (fun j _ => cf12 _ _ (by omega))
      refine x_iconst (v := -1) dX9_shading_15 rfl ?_
      refine x_istore_2 dX9_shading_16 rfl rfl ?_
      refine x_const (c := 0) dX9_shading_17 rfl ?_
      refine x_istore_3 dX9_shading_18 rfl rfl ?_
      refine x_const (c := 0) dX9_shading_19 rfl ?_
      refine x_istore_4 dX9_shading_20 rfl rfl ?_
      refine l_shd a hb (yt S) (yg S) ho3 y3 y4 (ys S) y5.1 y5.2 (fun j hj => (cc12 j hj).trans (cf12 _ _ (by omega)).symm) hs3 y7 _ (fun J2 w5 w6 q1 q3 => ?_) (2 ^ tN (yt S) + 1) 0 _ _ _ _ _ (Nat.zero_le _) (Nat.zero_add _) (fun _ _ _ => rfl) hs3 (Or.inl ⟨rfl, rfl, rfl⟩)
      refine x_iload_1 dX9_shading_180 ?_
      refine x_if_neN dX9_shading_181 (by omega) (fun c181 => ?_) (fun c181 => ?_)
      · refine x_iload_3 dX9_shading_188 ?_
        exact x_iret (st := []) dX9_shading_189 rfl rfl (⟨_, rfl, rfl, by unfold A_shading; rw [onI_y (by omega) (by omega) (by omega)]; exact ⟨fun b j hb2 => (q1 b j (by unfold FtMd at hb2; unfold FtP9; omega)).trans (cf12 b j (by unfold FtMd at hb2; omega)), MdI_q (s := ys S) hm hn6 (fun x j hx => (q1 x j (by unfold FtP9; omega)).trans (cf12 x j (by omega))) q3, by first | rw [if_pos (by omega)] | rw [if_neg (by omega)]⟩⟩)
      · refine x_iload_2 dX9_shading_184 ?_
        refine x_goto dX9_shading_185 ?_
        exact x_iret (st := []) dX9_shading_189 rfl rfl (⟨_, rfl, rfl, by unfold A_shading; rw [onI_y (by omega) (by omega) (by omega)]; exact ⟨fun b j hb2 => (q1 b j (by unfold FtMd at hb2; unfold FtP9; omega)).trans (cf12 b j (by unfold FtMd at hb2; omega)), MdI_q (s := ys S) hm hn6 (fun x j hx => (q1 x j (by unfold FtP9; omega)).trans (cf12 x j (by omega))) q3, by first | rw [if_pos (by omega)] | rw [if_neg (by omega)]⟩⟩)
    · exfalso; omega
  · refine x_if_neN dX9_shading_6 (by omega) (fun c6 => ?_) (fun c6 => ?_)
    · exfalso; omega
    · refine x_iconst (v := -1) dX9_shading_9 rfl ?_
      exact x_iret (st := []) dX9_shading_10 rfl rfl (⟨_, rfl, rfl, by unfold A_shading; rw [onI_n h3]; exact ⟨fun _ _ _ => rfl, hm, rfl⟩⟩)
