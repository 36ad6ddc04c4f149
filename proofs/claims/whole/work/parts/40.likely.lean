theorem pr_le {x set : Nat} (hx : x ≤ 10) : ∀ i, prF x set i ≤ 10 ^ i
  | 0 => Nat.le_refl _
  | i + 1 => by
    have h := pr_le (set := set) hx i
    show prF x set i * (if set / 2 ^ i % 2 = 1 then x else 10 - x) ≤ 10 ^ (i + 1)
    rw [Nat.pow_succ]
    exact Nat.mul_le_mul h (by split <;> omega)
theorem p10 : ∀ k, k < 7 → 10 ^ k ≤ 1000000 ∧ 1 ≤ 10 ^ k := by decide
theorem abv_le {t : Tp} {g : Nt} {s : St} {l m x : Nat} (hx : x ≤ 10) (hm : m ≤ 6) (k : Nat) (hk : k ≤ 64) : abvF t g s l m x k ≤ 64000000 := by
  have h1 : abvF t g s l m x k ≤ 10 ^ m * k := sumF_le (fun set _ => by
    show (if nY g ≤ sD (mhS t g s set m) l then prF x set m else 0) ≤ 10 ^ m
    split
    · exact pr_le hx m
    · exact Nat.zero_le _)
  have h2 : 10 ^ m * k ≤ 1000000 * 64 := Nat.mul_le_mul (p10 m (by omega)).1 hk
  omega
theorem gcd_le {x y : Nat} (hy : 0 < y) : Nat.gcd x y ≤ y ∧ 0 < Nat.gcd x y := ⟨Nat.le_of_dvd hy (Nat.gcd_dvd_right x y), Nat.gcd_pos_of_pos_right x hy⟩
set_option maxHeartbeats 4000000 in
theorem l_lk1 {r : Ev} {n : Nat} {Q : MQ2} {F : Post} {I : MI} (a : Nat) (hb : MdB n Q a) (l m x pt : Nat) (hm6 : m ≤ 6) (hx10 : x ≤ 10) (w8 w9 w10 : Option Value) (hx : X r 4 yX9_likely cX9_likely (11, (some .int)) (0, 0) 72 [some (.ref (evz r + a)), some (.int (nI (l))), some (.int (nI (m))), some (.int (nI (x))), some (.int (nI (pt))), some (.int (nI (0))), some (.int (nI (10 ^ m))), some (.int (nI (m))), w8, w9, w10] [] n I Q F) : ∀ (k : Nat) (i : Nat), i ≤ m → i + k = m + 1 → X r 4 yX9_likely cX9_likely (11, (some .int)) (0, 0) 53 [some (.ref (evz r + a)), some (.int (nI (l))), some (.int (nI (m))), some (.int (nI (x))), some (.int (nI (pt))), some (.int (nI (0))), some (.int (nI (10 ^ i))), some (.int (nI (i))), w8, w9, w10] [] n I Q F := by
  intro k
  induction k with
  | zero => intros; omega
  | succ k ih =>
    intro i hi0 hi
    obtain ⟨b0, bT, bO, bD, bB, bS, bP, bM, bN, bR, bH, qT, qO, qD, qB, qS, qP, qM, qN, qR, qH⟩ := id hb
    refine x_iload_7 dX9_likely_53 ?_
    refine x_iload_2 dX9_likely_55 ?_
    refine x_icmp_geN dX9_likely_56 (by omega) (by omega) (fun c56 => ?_) (fun c56 => ?_)
    · obtain rfl : i = m := (by omega)
      exact hx
    · refine x_iload_6 dX9_likely_59 ?_
      refine x_bip (c := 10) dX9_likely_61 (by decide) ?_
      refine x_imulN dX9_likely_63 ?_
      rw [← Nat.pow_succ]
      refine x_istore_6 dX9_likely_64 rfl rfl ?_
      refine x_iinc_7 dX9_likely_66 (iinc1 _) rfl rfl ?_
      refine x_goto dX9_likely_69 ?_
      exact ih (i + 1) (by omega) (by omega)
set_option maxHeartbeats 4000000 in
theorem l_lk3 {r : Ev} {n : Nat} {Q : MQ2} {F : Post} {I0 : MI} (a : Nat) (hb : MdB n Q a) (t : Tp) (g : Nt) (ho0 : tdp I0 (a + 2) t g) (ht : okT t) (hG : okN g) (s : St) (hk : okS t s) (hR : sR s ≤ 99) (l m x pt : Nat) (hm6 : m ≤ 6) (hx10 : x ≤ 10) (ab bl set : Nat) (hset : set < 128) (hx : ∀ (J : MI) (w10 : Option Value), FrS I0 J (fun x _ => FtP9 a x) → stp J (a + 5) t (mhS t g s set m) → X r 4 yX9_likely cX9_likely (11, (some .int)) (0, 0) 146 [some (.ref (evz r + a)), some (.int (nI (l))), some (.int (nI (m))), some (.int (nI (x))), some (.int (nI (pt))), some (.int (nI (ab))), some (.int (nI (bl))), some (.int (nI (set))), some (.int (nI (prF x set m))), some (.int (nI (m))), w10] [] n J Q F) : ∀ (k : Nat) (i : Nat) (I : MI) (w10 : Option Value), i ≤ m → i + k = m + 1 → FrS I0 I (fun x _ => FtP9 a x) → stp I (a + 5) t (mhS t g s set i) → X r 4 yX9_likely cX9_likely (11, (some .int)) (0, 0) 89 [some (.ref (evz r + a)), some (.int (nI (l))), some (.int (nI (m))), some (.int (nI (x))), some (.int (nI (pt))), some (.int (nI (ab))), some (.int (nI (bl))), some (.int (nI (set))), some (.int (nI (prF x set i))), some (.int (nI (i))), w10] [] n I Q F := by
  intro k
  induction k with
  | zero => intros; omega
  | succ k ih =>
    intro i I w10 hi0 hi hfr hs
    obtain ⟨b0, bT, bO, bD, bB, bS, bP, bM, bN, bR, bH, qT, qO, qD, qB, qS, qP, qM, qN, qR, qH⟩ := id hb
    refine x_iload_9 dX9_likely_89 ?_
    refine x_iload_2 dX9_likely_91 ?_
    refine x_icmp_geN dX9_likely_92 (by omega) (by omega) (fun c92 => ?_) (fun c92 => ?_)
    · obtain rfl : i = m := (by omega)
      exact hx _ _ hfr hs
    · have ho : tdp I (a + 2) t g := tdp_fr ho0 (fun j => hfr _ _ (by unfold FtP9; omega))
      have hsr := sR_mh t g s set i
      refine x_iload_7 dX9_likely_95 ?_
      refine x_iload_9 dX9_likely_97 ?_
      refine x_ishr dX9_likely_99 ?_
      refine x_const (c := 1) dX9_likely_100 rfl ?_
      refine x_iand dX9_likely_101 ?_
      rw [bit_at i (by omega) set hset]
      have hb2 := bit01 set i
      refine x_istore_10 dX9_likely_102 rfl rfl ?_
      refine x_iload_8 dX9_likely_104 ?_
      refine x_iload_10 dX9_likely_106 ?_
      refine x_const (c := 1) dX9_likely_108 rfl ?_
      refine x_icmp_neN dX9_likely_109 (by omega) (by omega) (fun c109 => ?_) (fun c109 => ?_)
      · refine x_bip (c := 10) dX9_likely_116 (by decide) ?_
        refine x_iload_3 dX9_likely_118 ?_
        refine x_isubN dX9_likely_119 (by omega) ?_
        refine x_imulN dX9_likely_120 ?_
        refine x_istore_8 dX9_likely_121 rfl rfl ?_
        refine x_aload_0 dX9_likely_123 ?_
        refine x_aload_0 dX9_likely_124 ?_
        refine x_aload_0 dX9_likely_125 ?_
        refine x_getr dX9_likely_126 f_X9_22 (by assumption) qS ?_
        refine x_bip (c := 25) dX9_likely_129 (by decide) ?_
        refine x_ialdV dX9_likely_131 (by assumption) rfl (by omega) hs.2.2.2.2.2 ?_
        refine x_V1i dX9_likely_132 m_X9_106 (c_X9_coldOf a hb t g ho _ (by omega) hG.1) (by assumption) (fun x132 I132 h132 => ?_)
        obtain ⟨rfl, rfl⟩ := h132
        refine x_iload_10 dX9_likely_135 ?_
        refine x_V2v dX9_likely_137 m_X9_121 (c_X9_passes a hb t g ho ht _ _ (cold_le hG _) (by omega) _ (okS_mh hk i) hs (by omega) (by have := hG.2.2.1; omega)) (by assumption) (fun I137 h137 => ?_)
        obtain ⟨pf137, ps137, pr137⟩ := h137
        refine x_iinc_9 dX9_likely_140 (iinc1 _) rfl rfl ?_
        refine x_goto dX9_likely_143 ?_
        have e1 : prF x set (i + 1) = prF x set i * (10 - x) := congrArg (fun y => prF x set i * y) (if_neg (by omega))
        rw [← e1]
        exact ih (i + 1) _ _ (by omega) (by omega) (fun x j hx => (pf137 x j hx).trans (hfr x j hx)) ps137
      · refine x_iload_3 dX9_likely_112 ?_
        refine x_goto dX9_likely_113 ?_
        refine x_imulN dX9_likely_120 ?_
        refine x_istore_8 dX9_likely_121 rfl rfl ?_
        refine x_aload_0 dX9_likely_123 ?_
        refine x_aload_0 dX9_likely_124 ?_
        refine x_aload_0 dX9_likely_125 ?_
        refine x_getr dX9_likely_126 f_X9_22 (by assumption) qS ?_
        refine x_bip (c := 25) dX9_likely_129 (by decide) ?_
        refine x_ialdV dX9_likely_131 (by assumption) rfl (by omega) hs.2.2.2.2.2 ?_
        refine x_V1i dX9_likely_132 m_X9_106 (c_X9_coldOf a hb t g ho _ (by omega) hG.1) (by assumption) (fun x132 I132 h132 => ?_)
        obtain ⟨rfl, rfl⟩ := h132
        refine x_iload_10 dX9_likely_135 ?_
        refine x_V2v dX9_likely_137 m_X9_121 (c_X9_passes a hb t g ho ht _ _ (cold_le hG _) (by omega) _ (okS_mh hk i) hs (by omega) (by have := hG.2.2.1; omega)) (by assumption) (fun I137 h137 => ?_)
        obtain ⟨pf137, ps137, pr137⟩ := h137
        refine x_iinc_9 dX9_likely_140 (iinc1 _) rfl rfl ?_
        refine x_goto dX9_likely_143 ?_
        have e1 : prF x set (i + 1) = prF x set i * x := congrArg (fun y => prF x set i * y) (if_pos (by omega))
        rw [← e1]
        exact ih (i + 1) _ _ (by omega) (by omega) (fun x j hx => (pf137 x j hx).trans (hfr x j hx)) ps137
set_option maxHeartbeats 4000000 in
theorem l_lk2 {r : Ev} {n : Nat} {Q : MQ2} {F : Post} {I0 : MI} (a : Nat) (hb : MdB n Q a) (t : Tp) (g : Nt) (ho0 : tdp I0 (a + 2) t g) (ht : okT t) (hG : okN g) (s : St) (hk : okS t s) (hR : sR s ≤ 99) (hheld : ∀ j, j < 26 → I0 (a + 10) j = I0 (a + 5) j) (hs0 : stp I0 (a + 5) t s) (h9 : ∀ l, l < tN t → tT t l ≤ 9) (l m x pt : Nat) (hm6 : m ≤ 6) (hx10 : x ≤ 10) (hl : l < tN t) (hx : ∀ (J : MI) (w8 w9 w10 : Option Value), FrS I0 J (fun x _ => FtP9 a x) → stp J (a + 5) t s → X r 4 yX9_likely cX9_likely (11, (some .int)) (0, 0) 185 [some (.ref (evz r + a)), some (.int (nI (l))), some (.int (nI (m))), some (.int (nI (x))), some (.int (nI (pt))), some (.int (nI (abvF t g s l m x (2 ^ m)))), some (.int (nI (10 ^ m))), some (.int (nI ((2 ^ m)))), w8, w9, w10] [] n J Q F) : ∀ (k : Nat) (set : Nat) (I : MI) (w8 w9 w10 : Option Value), set ≤ 2 ^ m → set + k = 2 ^ m + 1 → FrS I0 I (fun x _ => FtP9 a x) → stp I (a + 5) t s → X r 4 yX9_likely cX9_likely (11, (some .int)) (0, 0) 75 [some (.ref (evz r + a)), some (.int (nI (l))), some (.int (nI (m))), some (.int (nI (x))), some (.int (nI (pt))), some (.int (nI (abvF t g s l m x set))), some (.int (nI (10 ^ m))), some (.int (nI (set))), w8, w9, w10] [] n I Q F := by
  intro k
  induction k with
  | zero => intros; omega
  | succ k ih =>
    intro set I w8 w9 w10 hi0 hi hfr hs
    obtain ⟨b0, bT, bO, bD, bB, bS, bP, bM, bN, bR, bH, qT, qO, qD, qB, qS, qP, qM, qN, qR, qH⟩ := id hb
    refine x_iload_7 dX9_likely_75 ?_
    have hpw := pw6 m (by omega)
    refine x_const (c := 1) dX9_likely_77 rfl ?_
    refine x_iload_2 dX9_likely_78 ?_
    refine x_ishl dX9_likely_79 ?_
    rw [shl_1 m (by omega)]
    refine x_icmp_geN dX9_likely_80 (by omega) (by omega) (fun c80 => ?_) (fun c80 => ?_)
    · have e9 : set = 2 ^ m := by omega
      subst e9
      exact hx _ _ _ _ hfr hs
    · have hn6 := ht.1
      have ho : tdp I (a + 2) t g := tdp_fr ho0 (fun j => hfr _ _ (by unfold FtP9; omega))
      refine x_const (c := 1) dX9_likely_83 rfl ?_
      refine x_istore_8 dX9_likely_84 rfl rfl ?_
      refine x_const (c := 0) dX9_likely_86 rfl ?_
      refine x_istore_9 dX9_likely_87 rfl rfl ?_
      refine l_lk3 a hb t g ho ht hG s hk hR l m x pt hm6 hx10 _ _ set (by omega) (fun I1 w11 f1 s1 => ?_) (m + 1) 0 _ _ (by omega) (by omega) (fun _ _ _ => rfl) hs
      have hmk := okS_mh (g := g) (set := set) hk m
      have hDl := (hmk.1 l hl).2.1
      have h9l := h9 l hl
      have hy27 := hG.2.2.2.2.2.2
      refine x_iload_5 dX9_likely_146 ?_
      refine x_aload_0 dX9_likely_148 ?_
      refine x_getr dX9_likely_149 f_X9_22 (by assumption) qS ?_
      refine x_bip (c := 6) dX9_likely_152 (by decide) ?_
      refine x_iload_1 dX9_likely_154 ?_
      refine x_iaddN dX9_likely_155 ?_
      refine x_ialdV dX9_likely_156 (by assumption) rfl (by omega) (s1.2.1 l hl) ?_
      refine x_aload_0 dX9_likely_157 ?_
      refine x_getr dX9_likely_158 f_X9_13 (by assumption) qO ?_
      refine x_const (c := 4) dX9_likely_161 rfl ?_
      refine x_ialdV dX9_likely_162 (by assumption) rfl (by omega) ((f1 _ _ (by unfold FtP9; omega)).trans ho.2.2.2.2.1) ?_
      refine x_icmp_ltN dX9_likely_163 (by omega) (by omega) (fun c163 => ?_) (fun c163 => ?_)
      · refine x_const (c := 0) dX9_likely_171 rfl ?_
        refine x_iaddN dX9_likely_172 ?_
        refine x_istore_5 dX9_likely_173 rfl rfl ?_
        refine x_aload_0 dX9_likely_175 ?_
        refine x_V0v dX9_likely_176 m_X9_140 (c_X9_bringsBack a hb) (by assumption) (fun I176 h176 => ?_)
        obtain ⟨cf176, cc176⟩ := h176
        refine x_iinc_7 dX9_likely_179 (iinc1 _) rfl rfl ?_
        refine x_goto dX9_likely_182 ?_
        have e1 : abvF t g s l m x (set + 1) = abvF t g s l m x set + 0 := congrArg (fun y => abvF t g s l m x set + y) (if_neg (by omega))
        rw [← e1]
        exact ih (set + 1) _ _ _ _ (by omega) (by omega) (fun x j hx => (cf176 x j (by unfold FtP9 at hx; omega)).trans ((f1 x j hx).trans (hfr x j hx))) (stp_to hs0 hn6 (fun j hj => (cc176 j hj).trans ((f1 _ _ (by unfold FtP9; omega)).trans ((hfr _ _ (by unfold FtP9; omega)).trans (hheld j hj)))))
      · refine x_iload_8 dX9_likely_166 ?_
        refine x_goto dX9_likely_168 ?_
        refine x_iaddN dX9_likely_172 ?_
        refine x_istore_5 dX9_likely_173 rfl rfl ?_
        refine x_aload_0 dX9_likely_175 ?_
        refine x_V0v dX9_likely_176 m_X9_140 (c_X9_bringsBack a hb) (by assumption) (fun I176 h176 => ?_)
        obtain ⟨cf176, cc176⟩ := h176
        refine x_iinc_7 dX9_likely_179 (iinc1 _) rfl rfl ?_
        refine x_goto dX9_likely_182 ?_
        have e1 : abvF t g s l m x (set + 1) = abvF t g s l m x set + prF x set m := congrArg (fun y => abvF t g s l m x set + y) (if_pos (by omega))
        rw [← e1]
        exact ih (set + 1) _ _ _ _ (by omega) (by omega) (fun x j hx => (cf176 x j (by unfold FtP9 at hx; omega)).trans ((f1 x j hx).trans (hfr x j hx))) (stp_to hs0 hn6 (fun j hj => (cc176 j hj).trans ((f1 _ _ (by unfold FtP9; omega)).trans ((hfr _ _ (by unfold FtP9; omega)).trans (hheld j hj)))))
set_option maxHeartbeats 4000000 in
theorem l_lk4 {r : Ev} {n : Nat} {Q : MQ2} {F : Post} {I : MI} (a : Nat) (hb : MdB n Q a) (l m x pt : Nat) (hm6 : m ≤ 6) (hx10 : x ≤ 10) (ab bl : Nat) (w10 : Option Value) (hF : ∀ (w9 : Option Value), X r 4 yX9_likely cX9_likely (11, (some .int)) (0, 0) 216 [some (.ref (evz r + a)), some (.int (nI (l))), some (.int (nI (m))), some (.int (nI (x))), some (.int (nI (pt))), some (.int (nI (ab))), some (.int (nI (bl))), some (.int (nI (Nat.gcd ab bl))), some (.int (nI (0))), w9, w10] [] n I Q F) : ∀ (k : Nat) (p q : Nat) (w9 : Option Value), q < k → p < 100000000 → q < 100000000 → Nat.gcd p q = Nat.gcd ab bl → X r 4 yX9_likely cX9_likely (11, (some .int)) (0, 0) 193 [some (.ref (evz r + a)), some (.int (nI (l))), some (.int (nI (m))), some (.int (nI (x))), some (.int (nI (pt))), some (.int (nI (ab))), some (.int (nI (bl))), some (.int (nI (p))), some (.int (nI (q))), w9, w10] [] n I Q F := by
  intro k
  induction k with
  | zero => intros; omega
  | succ k ih =>
    intro p q w9 hq hp2 hq2 he
    obtain ⟨b0, bT, bO, bD, bB, bS, bP, bM, bN, bR, bH, qT, qO, qD, qB, qS, qP, qM, qN, qR, qH⟩ := id hb
    refine x_iload_8 dX9_likely_193 ?_
    refine x_if_leN dX9_likely_195 (by omega) (fun c195 => ?_) (fun c195 => ?_)
    · have e0 : q = 0 := by omega
      subst e0
      rw [Nat.gcd_zero_right] at he
      subst he
      exact hF _
    · refine x_iload_7 dX9_likely_198 ?_
      refine x_iload_8 dX9_likely_200 ?_
      refine x_iremN dX9_likely_202 (by omega) (by omega) (by omega) ?_
      refine x_istore_9 dX9_likely_203 rfl rfl ?_
      refine x_iload_8 dX9_likely_205 ?_
      refine x_istore_7 dX9_likely_207 rfl rfl ?_
      refine x_iload_9 dX9_likely_209 ?_
      refine x_istore_8 dX9_likely_211 rfl rfl ?_
      refine x_goto dX9_likely_213 ?_
      refine ih q (p % q) _ ?_ (by omega) ?_ ?_
      · have := Nat.mod_lt p (show 0 < q by omega); omega
      · have := Nat.mod_lt p (show 0 < q by omega); omega
      · rw [← he, Nat.gcd_comm q, ← Nat.gcd_rec q p, Nat.gcd_comm]
set_option maxHeartbeats 4000000 in
theorem c_X9_likely {r : Ev} {n : Nat} {I : MI} {Q : MQ2} (a : Nat) (hb : MdB n Q a) (S : Sy) (hm : MdI I a S) (hok : okY S) (x y z u : Int32) : CT r 4 yX9_likely cX9_likely (11, (some .int)) (0, 0) [.ref (evz r + a), .int x, .int y, .int z, .int u] n I Q (ri Q (fun v J => FrS I J (FtMd a) ∧ MdI J a (A_likely S x y z u).2 ∧ v = (A_likely S x y z u).1)) := by
  refine ct_of (lv := [some (.ref (evz r + a)), some (.int x), some (.int y), some (.int z), some (.int u), none, none, none, none, none, none]) (by decide +kernel) rfl rfl rfl ?_
  obtain ⟨b0, bT, bO, bD, bB, bS, bP, bM, bN, bR, bH, qT, qO, qD, qB, qS, qP, qM, qN, qR, qH⟩ := id hb
  obtain ⟨ht, ho, hs, ⟨h7, hp⟩, ⟨h9, hq⟩, h11, hw⟩ := id hm
  obtain ⟨y1, y2, y3, y4, y5, y6, y7, y8, y9, y10, y11, y12⟩ := id hok
  have hn6 := y3.1
  refine x_aload_0 dX9_likely_0 ?_
  refine x_iload_1 dX9_likely_1 ?_
  refine x_V1i dX9_likely_2 m_X9_100 (c_X9_isLoom a hb (tN (yt S)) x ho.1 y6 hn6) (by assumption) (fun x2 I2 h2 => ?_)
  obtain ⟨rfl, ⟨rfl, h2⟩ | ⟨rfl, h2⟩⟩ := h2
  · obtain ⟨l, l0, l1, rfl⟩ := h2
    have hl : l < tN (yt S) := by omega
    refine x_if_eqN dX9_likely_5 (by omega) (fun c5 => ?_) (fun c5 => ?_)
    · exfalso; omega
    · refine x_iload_2 dX9_likely_8 ?_
      refine x_const (c := 0) dX9_likely_9 rfl ?_
      refine x_bip (c := 6) dX9_likely_10 (by decide) ?_
      refine x_S3i dX9_likely_12 m_X9_54 (c_X9_in y 0 6 (by omega) (by omega)) (fun x12 I12 h12 => ?_)
      obtain ⟨rfl, ⟨rfl, h12⟩ | ⟨rfl, h12⟩⟩ := h12
      · obtain ⟨m, m0, m1, rfl⟩ := h12
        refine x_if_eqN dX9_likely_15 (by omega) (fun c15 => ?_) (fun c15 => ?_)
        · exfalso; omega
        · refine x_iload_3 dX9_likely_18 ?_
          refine x_const (c := 0) dX9_likely_19 rfl ?_
          refine x_bip (c := 10) dX9_likely_20 (by decide) ?_
          refine x_S3i dX9_likely_22 m_X9_54 (c_X9_in z 0 10 (by omega) (by omega)) (fun x22 I22 h22 => ?_)
          obtain ⟨rfl, ⟨rfl, h22⟩ | ⟨rfl, h22⟩⟩ := h22
          · obtain ⟨x, x0, x1, rfl⟩ := h22
            refine x_if_eqN dX9_likely_25 (by omega) (fun c25 => ?_) (fun c25 => ?_)
            · exfalso; omega
            · refine x_iload_4 dX9_likely_28 ?_
              refine x_const (c := 0) dX9_likely_30 rfl ?_
              refine x_const (c := 1) dX9_likely_31 rfl ?_
              refine x_S3i dX9_likely_32 m_X9_54 (c_X9_in u 0 1 (by omega) (by omega)) (fun x32 I32 h32 => ?_)
              obtain ⟨rfl, ⟨rfl, h32⟩ | ⟨rfl, h32⟩⟩ := h32
              · obtain ⟨pt, pt0, pt1, rfl⟩ := h32
                refine x_if_neN dX9_likely_35 (by omega) (fun c35 => ?_) (fun c35 => ?_)
                · refine x_aload_0 dX9_likely_40 ?_
                  refine x_V0v dX9_likely_41 m_X9_137 (c_X9_keepsAside a hb) (by assumption) (fun I41 h41 => ?_)
                  obtain ⟨cf41, cc41⟩ := h41
                  have ho3 := tdp_fr ho (fun j => cf41 _ _ (by omega))
                  have hs3 := stp_to hs hn6 (fun j _ => cf41 _ _ (by omega))
                  refine x_const (c := 0) dX9_likely_44 rfl ?_
                  refine x_istore_5 dX9_likely_45 rfl rfl ?_
                  refine x_const (c := 1) dX9_likely_47 rfl ?_
                  refine x_istore_6 dX9_likely_48 rfl rfl ?_
                  refine x_const (c := 0) dX9_likely_50 rfl ?_
                  refine x_istore_7 dX9_likely_51 rfl rfl ?_
                  refine l_lk1 a hb l m x pt (by omega) (by omega) _ _ _ ?_ (m + 1) 0 (by omega) (by omega)
                  refine x_const (c := 0) dX9_likely_72 rfl ?_
                  refine x_istore_7 dX9_likely_73 rfl rfl ?_
                  refine l_lk2 a hb (yt S) (yg S) ho3 y3 y4 (ys S) y5.1 y5.2 (fun j hj => (cc41 j hj).trans (cf41 _ _ (by omega)).symm) hs3 y7 l m x pt (by omega) (by omega) hl (fun J2 w8 w9 w10 q1 q3 => ?_) (2 ^ m + 1) 0 _ _ _ _ (Nat.zero_le _) (Nat.zero_add _) (fun _ _ _ => rfl) hs3
                  have hab0 := abv_le (t := yt S) (g := yg S) (s := ys S) (l := l) (m := m) (x := x) (by omega) (by omega) (2 ^ m) (pw6 m (by omega))
                  have h100 := (p10 m (by omega)).1
                  refine x_iload_5 dX9_likely_185 ?_
                  refine x_istore_7 dX9_likely_187 rfl rfl ?_
                  refine x_iload_6 dX9_likely_189 ?_
                  refine x_istore_8 dX9_likely_191 rfl rfl ?_
                  refine l_lk4 a hb l m x pt (by omega) (by omega) _ _ _ (fun w11 => ?_) (10 ^ m + 1) _ _ _ (Nat.lt_succ_self _) (by omega) (by omega) rfl
                  refine x_iload_4 dX9_likely_216 ?_
                  refine x_if_neN dX9_likely_218 (by omega) (fun c218 => ?_) (fun c218 => ?_)
                  · have hdv := gcd_le (x := abvF (yt S) (yg S) (ys S) l m x (2 ^ m)) (p10 m (by omega)).2
                    have h10 := (p10 m (by omega)).1
                    refine x_iload_6 dX9_likely_229 ?_
                    refine x_iload_7 dX9_likely_231 ?_
                    refine x_idivN dX9_likely_233 (by omega) (by omega) (by omega) ?_
                    exact x_iret (st := []) dX9_likely_234 rfl rfl (⟨_, rfl, rfl, by unfold A_likely; rw [onI_y (by omega) (by omega) (by omega), onI_y (by omega) (by omega) (by omega), onI_y (by omega) (by omega) (by omega), onI_y (by omega) (by omega) (by omega)]; exact ⟨fun b j hb2 => (q1 b j (by unfold FtMd at hb2; unfold FtP9; omega)).trans (cf41 b j (by unfold FtMd at hb2; omega)), MdI_q (s := ys S) hm hn6 (fun x j hx => (q1 x j (by unfold FtP9; omega)).trans (cf41 x j (by omega))) q3, by unfold likF; first | rw [if_pos (by omega)] | rw [if_neg (by omega)]⟩⟩)
                  · have hdv := gcd_le (x := abvF (yt S) (yg S) (ys S) l m x (2 ^ m)) (p10 m (by omega)).2
                    have h10 := (p10 m (by omega)).1
                    have hab := abv_le (t := yt S) (g := yg S) (s := ys S) (l := l) (m := m) (x := x) (by omega) (by omega) (2 ^ m) (pw6 m (by omega))
                    refine x_iload_5 dX9_likely_221 ?_
                    refine x_iload_7 dX9_likely_223 ?_
                    refine x_idivN dX9_likely_225 (by omega) (by omega) (by omega) ?_
                    refine x_goto dX9_likely_226 ?_
                    exact x_iret (st := []) dX9_likely_234 rfl rfl (⟨_, rfl, rfl, by unfold A_likely; rw [onI_y (by omega) (by omega) (by omega), onI_y (by omega) (by omega) (by omega), onI_y (by omega) (by omega) (by omega), onI_y (by omega) (by omega) (by omega)]; exact ⟨fun b j hb2 => (q1 b j (by unfold FtMd at hb2; unfold FtP9; omega)).trans (cf41 b j (by unfold FtMd at hb2; omega)), MdI_q (s := ys S) hm hn6 (fun x j hx => (q1 x j (by unfold FtP9; omega)).trans (cf41 x j (by omega))) q3, by unfold likF; first | rw [if_pos (by omega)] | rw [if_neg (by omega)]⟩⟩)
                · exfalso; omega
              · refine x_if_neN dX9_likely_35 (by omega) (fun c35 => ?_) (fun c35 => ?_)
                · exfalso; omega
                · refine x_iconst (v := -1) dX9_likely_38 rfl ?_
                  exact x_iret (st := []) dX9_likely_39 rfl rfl (by first | exact ⟨_, rfl, rfl, by unfold A_likely; rw [onI_n h2]; exact ⟨fun _ _ _ => rfl, hm, rfl⟩⟩ | exact ⟨_, rfl, rfl, by unfold A_likely; rw [onI_y (by omega) (by omega) (by omega), onI_n h12]; exact ⟨fun _ _ _ => rfl, hm, rfl⟩⟩ | exact ⟨_, rfl, rfl, by unfold A_likely; rw [onI_y (by omega) (by omega) (by omega), onI_y (by omega) (by omega) (by omega), onI_n h22]; exact ⟨fun _ _ _ => rfl, hm, rfl⟩⟩ | exact ⟨_, rfl, rfl, by unfold A_likely; rw [onI_y (by omega) (by omega) (by omega), onI_y (by omega) (by omega) (by omega), onI_y (by omega) (by omega) (by omega), onI_n h32]; exact ⟨fun _ _ _ => rfl, hm, rfl⟩⟩)
          · refine x_if_eqN dX9_likely_25 (by omega) (fun c25 => ?_) (fun c25 => ?_)
            · refine x_iconst (v := -1) dX9_likely_38 rfl ?_
              exact x_iret (st := []) dX9_likely_39 rfl rfl (by first | exact ⟨_, rfl, rfl, by unfold A_likely; rw [onI_n h2]; exact ⟨fun _ _ _ => rfl, hm, rfl⟩⟩ | exact ⟨_, rfl, rfl, by unfold A_likely; rw [onI_y (by omega) (by omega) (by omega), onI_n h12]; exact ⟨fun _ _ _ => rfl, hm, rfl⟩⟩ | exact ⟨_, rfl, rfl, by unfold A_likely; rw [onI_y (by omega) (by omega) (by omega), onI_y (by omega) (by omega) (by omega), onI_n h22]; exact ⟨fun _ _ _ => rfl, hm, rfl⟩⟩ | exact ⟨_, rfl, rfl, by unfold A_likely; rw [onI_y (by omega) (by omega) (by omega), onI_y (by omega) (by omega) (by omega), onI_y (by omega) (by omega) (by omega), onI_n h32]; exact ⟨fun _ _ _ => rfl, hm, rfl⟩⟩)
            · exfalso; omega
      · refine x_if_eqN dX9_likely_15 (by omega) (fun c15 => ?_) (fun c15 => ?_)
        · refine x_iconst (v := -1) dX9_likely_38 rfl ?_
          exact x_iret (st := []) dX9_likely_39 rfl rfl (by first | exact ⟨_, rfl, rfl, by unfold A_likely; rw [onI_n h2]; exact ⟨fun _ _ _ => rfl, hm, rfl⟩⟩ | exact ⟨_, rfl, rfl, by unfold A_likely; rw [onI_y (by omega) (by omega) (by omega), onI_n h12]; exact ⟨fun _ _ _ => rfl, hm, rfl⟩⟩ | exact ⟨_, rfl, rfl, by unfold A_likely; rw [onI_y (by omega) (by omega) (by omega), onI_y (by omega) (by omega) (by omega), onI_n h22]; exact ⟨fun _ _ _ => rfl, hm, rfl⟩⟩ | exact ⟨_, rfl, rfl, by unfold A_likely; rw [onI_y (by omega) (by omega) (by omega), onI_y (by omega) (by omega) (by omega), onI_y (by omega) (by omega) (by omega), onI_n h32]; exact ⟨fun _ _ _ => rfl, hm, rfl⟩⟩)
        · exfalso; omega
  · refine x_if_eqN dX9_likely_5 (by omega) (fun c5 => ?_) (fun c5 => ?_)
    · refine x_iconst (v := -1) dX9_likely_38 rfl ?_
      exact x_iret (st := []) dX9_likely_39 rfl rfl (by first | exact ⟨_, rfl, rfl, by unfold A_likely; rw [onI_n h2]; exact ⟨fun _ _ _ => rfl, hm, rfl⟩⟩ | exact ⟨_, rfl, rfl, by unfold A_likely; rw [onI_y (by omega) (by omega) (by omega), onI_n h12]; exact ⟨fun _ _ _ => rfl, hm, rfl⟩⟩ | exact ⟨_, rfl, rfl, by unfold A_likely; rw [onI_y (by omega) (by omega) (by omega), onI_y (by omega) (by omega) (by omega), onI_n h22]; exact ⟨fun _ _ _ => rfl, hm, rfl⟩⟩ | exact ⟨_, rfl, rfl, by unfold A_likely; rw [onI_y (by omega) (by omega) (by omega), onI_y (by omega) (by omega) (by omega), onI_y (by omega) (by omega) (by omega), onI_n h32]; exact ⟨fun _ _ _ => rfl, hm, rfl⟩⟩)
    · exfalso; omega
