def pushN (L m : Nat) : Nat := if m = L then L else m + 1
def pushF (L m : Nat) (v : Nat → St) (s : St) : Nat → St := if m = L then (fun i => if i + 1 = L then s else v (i + 1)) else nup v m s
def FtP (a L : Nat) (x _ : Nat) : Prop := a ≤ x ∧ x < a + 2 + 9 * L
set_option maxHeartbeats 4000000 in
theorem l_X2_put11 {r : Ev} {n : Nat} {Q : MQ2} {F : Post} {I : MI} (a L : Nat) (pr : Nat → Nat) (m : Nat) (hb : PlB n Q a L pr) (hm1 : I a 1 = nI m) (hm : m < L) (hL : L ≤ 8) (b : Nat) (t : Tp) (s : St) (hsl : SlB n Q b) (hs : SS I b t s) (hdis : b + 9 ≤ a ∨ a + 2 + 9 * L ≤ b) (hn : tN t ≤ 6) (hsh : ∀ l, l < tN t → sH s l ≤ 1) (hF : ∀ J, FrS I J (fun x j => x = a ∨ FtS (a + 2 + 9 * pr m) x j) → J a 1 = nI (m + 1) → SS J (a + 2 + 9 * pr m) t s → F none J Q) : X r 3 yX2_put cX2_put (2, none) (0, 0) 11 [some (.ref (evz r + a)), some (.ref (evz r + b))] [] n I Q F := by
  obtain ⟨k1, k2, k3, k4, k5, k6⟩ := id hb
  have hpm := k4 m hm
  refine x_aload_0 dX2_put_11 ?_
  refine x_getV dX2_put_12 f_X2_22 k1 hm1 ?_
  refine x_if_ltN dX2_put_15 (by omega) (fun c15 => ?_) (fun c15 => ?_)
  · exfalso; omega
  · refine x_aload_0 dX2_put_18 ?_
    refine x_getV dX2_put_19 f_X2_22 k1 hm1 ?_
    refine x_aload_0 dX2_put_22 ?_
    refine x_getr dX2_put_23 f_X2_15 k1 k3 ?_
    refine x_alen dX2_put_26 k2 (by decide) ?_
    refine x_icmp_geN dX2_put_27 (by omega) (by omega) (fun c27 => ?_) (fun c27 => ?_)
    · exfalso; omega
    · refine x_aload_0 dX2_put_30 ?_
      refine x_getr dX2_put_31 f_X2_15 k1 k3 ?_
      refine x_aload_0 dX2_put_34 ?_
      refine x_getV dX2_put_35 f_X2_22 k1 hm1 ?_
      refine x_aaldS dX2_put_38 k2 rfl (by omega) hpm.2 ?_
      refine x_aload_1 dX2_put_39 ?_
      refine x_V1v dX2_put_40 m_X2_33 (c_X5_copy (a + 2 + 9 * pr m) b t s (k6 _ hpm.1) hsl (by omega) hs.1 hs.2 hn hsh) (k6 _ hpm.1).1 (fun I40 h40 => ?_)
      obtain ⟨qf, qs, qk⟩ := h40
      have qm : I40 a 1 = nI m := (qf a 1 (by unfold FtS; omega)).trans hm1
      refine x_aload_0 dX2_put_43 ?_
      first | refine x_dup_ref dX2_put_44 ?_ | refine x_dup_int dX2_put_44 ?_
      refine x_getV dX2_put_45 f_X2_22 k1 qm ?_
      refine x_const (c := 1) dX2_put_48 rfl ?_
      refine x_iaddN dX2_put_49 ?_
      refine x_putA dX2_put_50 f_X2_22 k1 (fun J50 fr50 e50 => ?_)
      exact x_vret (st := []) dX2_put_53 rfl (hF _ (fun x j hx => (fr50 x j (by omega)).trans (qf x j (fun z => hx (Or.inr z)))) e50 (SS.fr ⟨qs, qk⟩ hn (fun x j z1 z2 => fr50 x j (by omega))))
theorem plp_push {I J : MI} {a L m : Nat} {pr : Nat → Nat} {t : Tp} {v : Nat → St} {s : St} (hm : m < L) (hi : ∀ i, i < L → ∀ j, j < L → pr i = pr j → i = j) (hn : tN t ≤ 6) (h : ∀ i, i < m → SS I (a + 2 + 9 * pr i) t (v i)) (qf : FrS I J (fun x j => x = a ∨ FtS (a + 2 + 9 * pr m) x j)) (q1 : J a 1 = nI (m + 1)) (qs : SS J (a + 2 + 9 * pr m) t s) : plp J a pr t (m + 1) (nup v m s) := by
  refine ⟨q1, fun i hi2 => ?_⟩
  by_cases e : i = m
  · subst e; rw [nup_s]; exact qs
  · rw [nup_n e]
    have hne : pr i ≠ pr m := fun z => e (hi i (by omega) m hm z)
    exact (h i (by omega)).fr hn (fun x j z1 z2 => qf x j (by unfold FtS; omega))
theorem plp_rot {I J : MI} {a L : Nat} {pr : Nat → Nat} {t : Tp} {v : Nat → St} {s : St} (hL : 1 ≤ L) (hi : ∀ i, i < L → ∀ j, j < L → rotP L pr i = rotP L pr j → i = j) (hn : tN t ≤ 6) (h : ∀ i, i < L → SS I (a + 2 + 9 * pr i) t (v i)) (qf : FrS I J (fun x j => x = a ∨ FtS (a + 2 + 9 * rotP L pr (L - 1)) x j)) (q1 : J a 1 = nI (L - 1 + 1)) (qs : SS J (a + 2 + 9 * rotP L pr (L - 1)) t s) : plp J a (rotP L pr) t L (fun i => if i + 1 = L then s else v (i + 1)) := by
  refine ⟨by rw [q1, show L - 1 + 1 = L by omega], fun i hi2 => ?_⟩
  show SS J (a + 2 + 9 * rotP L pr i) t (if i + 1 = L then s else v (i + 1))
  by_cases e : i + 1 = L
  · rw [if_pos e, show i = L - 1 by omega]; exact qs
  · rw [if_neg e]
    have hne : rotP L pr i ≠ rotP L pr (L - 1) := fun z => e (by have := hi i hi2 (L - 1) (by omega) z; omega)
    have e2 : rotP L pr i = pr (i + 1) := if_neg e
    rw [e2] at hne ⊢
    exact (h (i + 1) (by omega)).fr hn (fun x j z1 z2 => qf x j (by unfold FtS; omega))
set_option maxHeartbeats 4000000 in
theorem c_X2_put {r : Ev} {n : Nat} {I : MI} {Q : MQ2} (a L : Nat) (pr : Nat → Nat) (m : Nat) (v : Nat → St) (hb : PlB n Q a L pr) (hm : m ≤ L) (hL : L ≤ 8) (hL1 : 1 ≤ L) (b : Nat) (t : Tp) (s : St) (hp : plp I a pr t m v) (hsl : SlB n Q b) (hs : SS I b t s) (hdis : b + 9 ≤ a ∨ a + 2 + 9 * L ≤ b) (hn : tN t ≤ 6) (hsh : ∀ l, l < tN t → sH s l ≤ 1) : CT r 3 yX2_put cX2_put (2, none) (0, 0) [.ref (evz r + a), .ref (evz r + b)] n I Q (RV (fun J Q' => FrQ Q Q' (a + 1) ∧ FrS I J (FtP a L) ∧ ∃ pr', PlB n Q' a L pr' ∧ plp J a pr' t (pushN L m) (pushF L m v s))) := by
  refine ct_of (lv := [some (.ref (evz r + a)), some (.ref (evz r + b))]) (by decide +kernel) rfl rfl rfl ?_
  refine x_aload_0 dX2_put_0 ?_
  refine x_V0i dX2_put_1 m_X2_26 (c_X2_isFull a L pr m hb hp.1 hm hL) hb.1 (fun x1 I1 h1 => ?_)
  obtain ⟨rfl, ⟨rfl, h1⟩ | ⟨rfl, h1⟩⟩ := h1
  · refine x_if_eqN dX2_put_4 (by omega) (fun c4 => ?_) (fun c4 => ?_)
    · exfalso; omega
    · refine x_aload_0 dX2_put_7 ?_
      refine x_V0W dX2_put_8 m_X2_30 (c_X2_loseOldest a L pr hb hL hL1) hb.1 (fun I8 Q8 h8 => ?_)
      obtain ⟨w1, w2, w3, w4⟩ := h8
      refine l_X2_put11 a L (rotP L pr) (L - 1) w4 w2 (by omega) hL b t s (hsl.q (fun j => w3 _ (by omega) j) (fun j => w3 _ (by omega) j)) (hs.fr hn (fun x j z1 z2 => w1 x j (by omega))) hdis hn hsh (fun J qf q1 qs => ⟨rfl, w3, fun x j hx => ?_, rotP L pr, w4, ?_⟩)
      · have h9 := (w4.2.2.2.1 (L - 1) (by omega)).1
        exact (qf x j (fun z => hx (by unfold FtP; unfold FtS at z; omega))).trans (w1 x j (fun z => hx (by unfold FtP; omega)))
      · unfold pushN pushF
        rw [if_pos h1, if_pos h1]
        exact plp_rot hL1 w4.2.2.2.2.1 hn (fun i hi => (hp.2 i (by omega)).fr hn (fun x j z1 z2 => w1 x j (by omega))) qf q1 qs
  · refine x_if_eqN dX2_put_4 (by omega) (fun c4 => ?_) (fun c4 => ?_)
    · refine l_X2_put11 a L pr m hb hp.1 (by omega) hL b t s hsl hs hdis hn hsh (fun J qf q1 qs => ⟨rfl, fun _ _ _ => rfl, fun x j hx => ?_, pr, hb, ?_⟩)
      · have h9 := (hb.2.2.2.1 m (by omega)).1
        exact qf x j (fun z => hx (by unfold FtP; unfold FtS at z; omega))
      · unfold pushN pushF
        rw [if_neg (by omega), if_neg (by omega)]
        exact plp_push (by omega) hb.2.2.2.2.1 hn hp.2 qf q1 qs
    · exfalso; omega
set_option maxHeartbeats 4000000 in
theorem c_X2_takeInto {r : Ev} {n : Nat} {I : MI} {Q : MQ2} (a L : Nat) (pr : Nat → Nat) (m : Nat) (v : Nat → St) (hb : PlB n Q a L pr) (hm : m ≤ L) (hL : L ≤ 8) (hm1 : 1 ≤ m) (b : Nat) (t : Tp) (hp : plp I a pr t m v) (hsl : SlB n Q b) (hdis : b + 9 ≤ a ∨ a + 2 + 9 * L ≤ b) (hn : tN t ≤ 6) (hsh : ∀ l, l < tN t → sH (v (m - 1)) l ≤ 1) : CT r 3 yX2_takeInto cX2_takeInto (2, none) (0, 0) [.ref (evz r + a), .ref (evz r + b)] n I Q (rv Q (fun J => FrS I J (fun x j => (x = a ∧ j = 1) ∨ FtS b x j) ∧ J a 1 = nI (m - 1) ∧ SS J b t (v (m - 1)))) := by
  refine ct_of (lv := [some (.ref (evz r + a)), some (.ref (evz r + b))]) (by decide +kernel) rfl rfl rfl ?_
  obtain ⟨k1, k2, k3, k4, k5, k6⟩ := id hb
  refine x_aload_0 dX2_takeInto_0 ?_
  refine x_getV dX2_takeInto_1 f_X2_22 k1 hp.1 ?_
  refine x_if_leN dX2_takeInto_4 (by omega) (fun c4 => ?_) (fun c4 => ?_)
  · exfalso; omega
  · refine x_aload_0 dX2_takeInto_7 ?_
    refine x_getV dX2_takeInto_8 f_X2_22 k1 hp.1 ?_
    refine x_aload_0 dX2_takeInto_11 ?_
    refine x_getr dX2_takeInto_12 f_X2_15 k1 k3 ?_
    refine x_alen dX2_takeInto_15 k2 (by decide) ?_
    refine x_icmp_gtN dX2_takeInto_16 (by omega) (by omega) (fun c16 => ?_) (fun c16 => ?_)
    · exfalso; omega
    · refine x_aload_0 dX2_takeInto_19 ?_
      first | refine x_dup_ref dX2_takeInto_20 ?_ | refine x_dup_int dX2_takeInto_20 ?_
      refine x_getV dX2_takeInto_21 f_X2_22 k1 hp.1 ?_
      refine x_const (c := 1) dX2_takeInto_24 rfl ?_
      refine x_isubN dX2_takeInto_25 (by omega) ?_
      refine x_putA dX2_takeInto_26 f_X2_22 k1 (fun J26 fr26 e26 => ?_)
      refine x_aload_1 dX2_takeInto_29 ?_
      refine x_aload_0 dX2_takeInto_30 ?_
      refine x_getr dX2_takeInto_31 f_X2_15 k1 k3 ?_
      refine x_aload_0 dX2_takeInto_34 ?_
      refine x_getV dX2_takeInto_35 f_X2_22 k1 e26 ?_
      refine x_aaldS dX2_takeInto_38 k2 rfl (by omega) (k4 _ (by omega)).2 ?_
      have hps : SS J26 (a + 2 + 9 * pr (m - 1)) t (v (m - 1)) := (hp.2 (m - 1) (by omega)).fr hn (fun x j z1 z2 => fr26 x j (by omega))
      refine x_V1v dX2_takeInto_39 m_X2_33 (c_X5_copy b (a + 2 + 9 * pr (m - 1)) t (v (m - 1)) hsl (k6 _ (k4 _ (by omega)).1) (by have := (k4 (m - 1) (by omega)).1; omega) hps.1 hps.2 hn hsh) hsl.1 (fun I39 h39 => ?_)
      obtain ⟨qf, qs, qk⟩ := h39
      exact x_vret (st := []) dX2_takeInto_42 rfl (⟨rfl, rfl, fun x j hx => (qf x j (fun z => hx (Or.inr z))).trans (fr26 x j (fun z => hx (Or.inl z))), (qf _ _ (by unfold FtS; omega)).trans e26, qs, qk⟩)
