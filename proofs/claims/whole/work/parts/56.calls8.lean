theorem cop25 {p b : Nat} (hp : p = 2 ∨ p = 5) (h : ¬ p ∣ b) : Nat.gcd b p = 1 := by
  rw [Nat.gcd_comm, Nat.gcd_rec]
  rcases hp with rfl | rfl
  · have e : b % 2 = 1 := by omega
    rw [e]
    rfl
  · rcases (show b % 5 = 1 ∨ b % 5 = 2 ∨ b % 5 = 3 ∨ b % 5 = 4 by omega) with e | e | e | e <;> rw [e] <;> rfl
theorem gcd_pow {p a j k : Nat} (hp : p = 2 ∨ p = 5) (h1 : p ^ j ∣ a) (h2 : ¬ p ^ (j + 1) ∣ a) : Nat.gcd a (p ^ (j + k)) = p ^ j := by
  obtain ⟨b, rfl⟩ := h1
  have hb : ¬ p ∣ b := fun z => h2 (by obtain ⟨c, hc⟩ := z; exact ⟨c, by rw [hc, Nat.pow_succ, Nat.mul_assoc]⟩)
  have h3 : Nat.gcd b (p ^ k) = 1 := Nat.Coprime.pow_right k (cop25 hp hb)
  rw [Nat.pow_add, Nat.gcd_mul_left, h3, Nat.mul_one]
theorem gcd10 (x k : Nat) : Nat.gcd x (2 ^ k) * Nat.gcd x (5 ^ k) = Nat.gcd x (10 ^ k) := by
  have h : Nat.Coprime (2 ^ k) (5 ^ k) := Nat.Coprime.pow k k (show Nat.gcd 2 5 = 1 from rfl)
  have e : 10 ^ k = 2 ^ k * 5 ^ k := by rw [← Nat.mul_pow]
  rw [e, Nat.Coprime.gcd_mul x h]
theorem p25 : ∀ k, k < 8 → (2 ^ k ≤ 100000 ∧ 1 ≤ 2 ^ k) ∧ (5 ^ k ≤ 100000 ∧ 1 ≤ 5 ^ k) := by decide
theorem p25b {p k : Nat} (hp : p = 2 ∨ p = 5) (hk : k < 8) : p ^ k ≤ 100000 ∧ 1 ≤ p ^ k := by
  rcases hp with rfl | rfl
  · exact (p25 k hk).1
  · exact (p25 k hk).2
set_option maxHeartbeats 4000000 in
theorem l_power {r : Ev} {n : Nat} {Q : MQ2} {F : Post} {I : MI} (x m : Nat) (hm : m < 1000) (hF : F (some (.int (nI (x ^ m)))) I Q) : ∀ (k : Nat) (i : Nat), i ≤ m → i + k = m + 1 → X r 0 yX8_power cX8_power (4, (some .int)) (0, 0) 4 [some (.int (nI x)), some (.int (nI m)), some (.int (nI (x ^ i))), some (.int (nI i))] [] n I Q F := by
  intro k
  induction k with
  | zero => intros; omega
  | succ k ih =>
    intro i hi0 hi
    refine x_iload_3 dX8_power_4 ?_
    refine x_iload_1 dX8_power_5 ?_
    refine x_icmp_geN dX8_power_6 (by omega) (by omega) (fun c6 => ?_) (fun c6 => ?_)
    · have e9 : i = m := by omega
      subst e9
      refine x_iload_2 dX8_power_19 ?_
      exact x_iret (st := []) dX8_power_20 rfl rfl (hF)
    · refine x_iload_2 dX8_power_9 ?_
      refine x_iload_0 dX8_power_10 ?_
      refine x_imulN dX8_power_11 ?_
      rw [← Nat.pow_succ]
      refine x_istore_2 dX8_power_12 rfl rfl ?_
      refine x_iinc_3 dX8_power_13 (iinc1 _) rfl rfl ?_
      refine x_goto dX8_power_16 ?_
      exact ih (i + 1) (by omega) (by omega)
set_option maxHeartbeats 4000000 in
theorem c_X8_power {r : Ev} {n : Nat} {I : MI} {Q : MQ2} (x m : Nat) (hm : m < 1000) : CT r 0 yX8_power cX8_power (4, (some .int)) (0, 0) [.int (nI x), .int (nI m)] n I Q (ri Q (fun v J => J = I ∧ v = nI (x ^ m))) := by
  refine ct_of (lv := [some (.int (nI x)), some (.int (nI m)), none, none]) (by decide +kernel) rfl rfl rfl ?_
  refine x_const (c := 1) dX8_power_0 rfl ?_
  refine x_istore_2 dX8_power_1 rfl rfl ?_
  refine x_const (c := 0) dX8_power_2 rfl ?_
  refine x_istore_3 dX8_power_3 rfl rfl ?_
  exact l_power x m hm ⟨_, rfl, rfl, rfl, rfl⟩ (m + 1) 0 (by omega) (by omega)
set_option maxHeartbeats 4000000 in
theorem l_shared {r : Ev} {n : Nat} {Q : MQ2} {F : Post} {I : MI} (x p m : Nat) (hx : x ≤ 64000000) (hp : p = 2 ∨ p = 5) (hm : m ≤ 6) (hF : F (some (.int (nI (Nat.gcd x (p ^ m))))) I Q) : ∀ (k : Nat) (i : Nat) (w5 : Option Value), i ≤ m → i + k = m + 1 → p ^ i ∣ x → X r 0 yX8_sharedPower cX8_sharedPower (6, (some .int)) (0, 0) 5 [some (.int (nI x)), some (.int (nI p)), some (.int (nI m)), some (.int (nI (p ^ i))), some (.int (nI i)), w5] [] n I Q F := by
  intro k
  induction k with
  | zero => intros; omega
  | succ k ih =>
    intro i w5 hi0 hi hd
    refine x_iload_4 dX8_sharedPower_5 ?_
    refine x_iload_2 dX8_sharedPower_7 ?_
    refine x_icmp_geN dX8_sharedPower_8 (by omega) (by omega) (fun c8 => ?_) (fun c8 => ?_)
    · have e9 : i = m := by omega
      subst e9
      refine x_iload_3 dX8_sharedPower_39 ?_
      exact x_iret (st := []) dX8_sharedPower_40 rfl rfl (by
        have e1 := Nat.gcd_eq_right hd
        rw [← e1]
        exact hF)
    · refine x_iload_3 dX8_sharedPower_11 ?_
      refine x_iload_1 dX8_sharedPower_12 ?_
      refine x_imulN dX8_sharedPower_13 ?_
      rw [show p ^ i * p = p ^ (i + 1) from rfl]
      have hpb := p25b hp (show i + 1 < 8 by omega)
      have hxm : x % p ^ (i + 1) < 100000000 := Nat.lt_of_le_of_lt (Nat.mod_le _ _) (by omega)
      refine x_istore_5 dX8_sharedPower_14 rfl rfl ?_
      refine x_iload_5 dX8_sharedPower_16 ?_
      refine x_if_leN dX8_sharedPower_18 (by omega) (fun c18 => ?_) (fun c18 => ?_)
      · exfalso; omega
      · refine x_iload_0 dX8_sharedPower_21 ?_
        refine x_iload_5 dX8_sharedPower_22 ?_
        refine x_iremN dX8_sharedPower_24 (by omega) (by omega) (by omega) ?_
        refine x_if_eqN dX8_sharedPower_25 (by omega) (fun c25 => ?_) (fun c25 => ?_)
        · have hd2 : p ^ (i + 1) ∣ x := Nat.dvd_of_mod_eq_zero (by omega)
          refine x_iload_5 dX8_sharedPower_30 ?_
          refine x_istore_3 dX8_sharedPower_32 rfl rfl ?_
          refine x_iinc_4 dX8_sharedPower_33 (iinc1 _) rfl rfl ?_
          refine x_goto dX8_sharedPower_36 ?_
          exact ih (i + 1) _ (by omega) (by omega) hd2
        · have hd2 : ¬ p ^ (i + 1) ∣ x := fun z => absurd (Nat.mod_eq_zero_of_dvd z) (by omega)
          refine x_iload_3 dX8_sharedPower_28 ?_
          exact x_iret (st := []) dX8_sharedPower_29 rfl rfl (by
            have e1 := gcd_pow (k := m - i) hp hd hd2
            rw [show i + (m - i) = m by omega] at e1
            rw [← e1]
            exact hF)
set_option maxHeartbeats 4000000 in
theorem c_X8_sharedPower {r : Ev} {n : Nat} {I : MI} {Q : MQ2} (x p m : Nat) (hx : x ≤ 64000000) (hp : p = 2 ∨ p = 5) (hm : m ≤ 6) : CT r 0 yX8_sharedPower cX8_sharedPower (6, (some .int)) (0, 0) [.int (nI x), .int (nI p), .int (nI m)] n I Q (ri Q (fun v J => J = I ∧ v = nI (Nat.gcd x (p ^ m)))) := by
  refine ct_of (lv := [some (.int (nI x)), some (.int (nI p)), some (.int (nI m)), none, none, none]) (by decide +kernel) rfl rfl rfl ?_
  refine x_const (c := 1) dX8_sharedPower_0 rfl ?_
  refine x_istore_3 dX8_sharedPower_1 rfl rfl ?_
  refine x_const (c := 0) dX8_sharedPower_2 rfl ?_
  refine x_istore_4 dX8_sharedPower_3 rfl rfl ?_
  exact l_shared x p m hx hp hm ⟨_, rfl, rfl, rfl, rfl⟩ (m + 1) 0 _ (by omega) (by omega) ⟨x, by rw [Nat.pow_zero, Nat.one_mul]⟩
def bcF (set i : Nat) : Nat := sumF (fun k => set / 2 ^ k % 2) i
theorem bc_le (set : Nat) : ∀ i, bcF set i ≤ i
  | 0 => Nat.le_refl _
  | i + 1 => by
    have h := bc_le set i
    have h2 := bit01 set i
    show bcF set i + set / 2 ^ i % 2 ≤ i + 1
    omega
theorem pr_pow (x set : Nat) : ∀ i, prF x set i = x ^ bcF set i * (10 - x) ^ (i - bcF set i)
  | 0 => rfl
  | i + 1 => by
    have h := bc_le set i
    have h2 := bit01 set i
    show prF x set i * (if set / 2 ^ i % 2 = 1 then x else 10 - x) = x ^ (bcF set i + set / 2 ^ i % 2) * (10 - x) ^ (i + 1 - (bcF set i + set / 2 ^ i % 2))
    rw [pr_pow x set i]
    by_cases z : set / 2 ^ i % 2 = 1
    · rw [if_pos z, z, Nat.pow_succ, show i + 1 - (bcF set i + 1) = i - bcF set i by omega, Nat.mul_assoc, Nat.mul_assoc, Nat.mul_comm x]
    · have z0 : set / 2 ^ i % 2 = 0 := by omega
      rw [if_neg z, z0, Nat.add_zero, show i + 1 - bcF set i = (i - bcF set i) + 1 by omega, Nat.pow_succ, Nat.mul_assoc]
theorem bc_ones {set m : Nat} (h : set < 2 ^ m) (hm : m ≤ 6) : ones6 set = bcF set m := by
  have h1 : ∀ k, bcF set (m + k) = bcF set m := by
    intro k
    induction k with
    | zero => rfl
    | succ k ih =>
      show bcF set (m + k) + set / 2 ^ (m + k) % 2 = _
      rw [ih, Nat.div_eq_of_lt (Nat.lt_of_lt_of_le h (Nat.pow_le_pow_right (by decide) (by omega)))]
      rfl
  have h2 := h1 (6 - m)
  rw [show m + (6 - m) = 6 by omega] at h2
  exact h2
set_option maxHeartbeats 4000000 in
theorem l_ch2 {r : Ev} {n : Nat} {Q : MQ2} {F : Post} {I0 : MI} {S : Sy} (hc : CW n I0 Q S) (hok : okY S) (l m x : Nat) (hl : l < tN (yt S)) (hm6 : m ≤ 6) (hx10 : x ≤ 10) (ab set : Nat) (hset : set < 128) (hx : ∀ (J : MI), FrS I0 J (FtS 14) → SS J 14 (yt S) (mhS (yt S) (yg S) (ys S) set m) → X r 4 yX8_chancesOfYard cX8_chancesOfYard (7, (some .int)) (0, 0) 72 [some (.ref (evz r + 0)), some (.int (nI l)), some (.int (nI m)), some (.int (nI x)), some (.int (nI ab)), some (.int (nI set)), some (.int (nI m))] [] n J Q F) : ∀ (k : Nat) (i : Nat) (I : MI), i ≤ m → i + k = m + 1 → FrS I0 I (FtS 14) → SS I 14 (yt S) (mhS (yt S) (yg S) (ys S) set i) → X r 4 yX8_chancesOfYard cX8_chancesOfYard (7, (some .int)) (0, 0) 28 [some (.ref (evz r + 0)), some (.int (nI l)), some (.int (nI m)), some (.int (nI x)), some (.int (nI ab)), some (.int (nI set)), some (.int (nI i))] [] n I Q F := by
  intro k
  induction k with
  | zero => intros; omega
  | succ k ih =>
    intro i I hi0 hi hfr ss
    obtain ⟨na, nb, p1, p2, hB, hI⟩ := id hc
    obtain ⟨o0, oT, oR, oN, oL, oA, oK, oG, oW, oX, oD, hnn, u0, u1, u2, u3, u4, u5, u6, u7, u8, u9⟩ := id hB
    have oT1 := oT.1
    have oN1 := oN.1
    have oL1 := oL.1
    have oA1 := oA.1
    have oK1 := oK.1
    have oG1 := oG.1
    have oW1 := oW.1
    have oX1 := oX.1
    have oD1 := oD.1
    have oR1 := oR.1
    obtain ⟨ct, cs, ca, ck, cg, cn⟩ := id hI
    obtain ⟨y1, y2, y3, y4, y5, y6, y7, y8, y9, y10, y11, y12⟩ := id hok
    have hn6 := y3.1
    have hsh : ∀ l, l < tN (yt S) → sH (ys S) l ≤ 1 := fun l hl => (y5.1.1 l hl).2.2
    have cs2 : SS I 5 (yt S) (ys S) := cs.fr hn6 (fun x j z1 z2 => hfr x j (by unfold FtS; omega))
    have cn2 : ntp I na (yg S) := ntp_fr cn (fun x j hx => hfr x j (by unfold FtS; omega))
    have cg2 : sgp I 117 (yG S) := sgp_fr cg (fun x j z1 z2 => hfr x j (by unfold FtS; omega))
    refine x_iload_6 dX8_chancesOfYard_28 ?_
    refine x_iload_2 dX8_chancesOfYard_30 ?_
    refine x_icmp_geN dX8_chancesOfYard_31 (by omega) (by omega) (fun c31 => ?_) (fun c31 => ?_)
    · have e9 : i = m := by omega
      subst e9
      exact hx _ hfr ss
    · have hsr := sR_mh (yt S) (yg S) (ys S) set i
      have hR9 := y5.2
      refine x_aload_0 dX8_chancesOfYard_34 ?_
      refine x_getr dX8_chancesOfYard_35 f_X8_62 (by assumption) u8 ?_
      refine x_aload_0 dX8_chancesOfYard_38 ?_
      refine x_getr dX8_chancesOfYard_39 f_X8_30 (by assumption) u3 ?_
      refine x_aload_0 dX8_chancesOfYard_42 ?_
      refine x_getr dX8_chancesOfYard_43 f_X8_62 (by assumption) u8 ?_
      refine x_aload_0 dX8_chancesOfYard_46 ?_
      refine x_getr dX8_chancesOfYard_47 f_X8_30 (by assumption) u3 ?_
      refine x_getV dX8_chancesOfYard_50 f_X8_133 (by assumption) ss.1.2.1 ?_
      refine x_V1i dX8_chancesOfYard_53 m_X8_121 (c_X1_coldOf na (yg S) oX cn2 y4.1 _ (by omega)) (by assumption) (fun x53 I53 h53 => ?_)
      obtain ⟨rfl, rfl⟩ := h53
      refine x_iload_5 dX8_chancesOfYard_56 ?_
      refine x_iload_6 dX8_chancesOfYard_58 ?_
      refine x_ishr dX8_chancesOfYard_60 ?_
      refine x_const (c := 1) dX8_chancesOfYard_61 rfl ?_
      refine x_iand dX8_chancesOfYard_62 ?_
      rw [bit_at i (by omega) set hset]
      have hb2 := bit01 set i
      refine x_V3v dX8_chancesOfYard_63 m_X8_292 (c_X1_goByOne na 14 (yt S) (mhS (yt S) (yg S) (ys S) set i) (yg S) oX cn2 oL ss y3 (okS_mh y5.1 i) (by omega) (by have := y4.2.2.1; omega) (by omega) _ _ (cold_le y4 _) (by omega)) (by assumption) (fun I63 h63 => ?_)
      obtain ⟨qf, qs, qr⟩ := h63
      refine x_iinc_6 dX8_chancesOfYard_66 (iinc1 _) rfl rfl ?_
      refine x_goto dX8_chancesOfYard_69 ?_
      exact ih (i + 1) _ (by omega) (by omega) (fun x j hx => (qf x j hx).trans (hfr x j hx)) qs
set_option maxHeartbeats 4000000 in
theorem l_ch1 {r : Ev} {n : Nat} {Q : MQ2} {F : Post} {I0 : MI} {S : Sy} (hc : CW n I0 Q S) (hok : okY S) (l m x : Nat) (hl : l < tN (yt S)) (hm6 : m ≤ 6) (hx10 : x ≤ 10) (hF : ∀ J, FrS I0 J (FtS 14) → F (some (.int (nI (abvF (yt S) (yg S) (ys S) l m x (2 ^ m))))) J Q) : ∀ (k : Nat) (set : Nat) (I : MI) (w6 : Option Value), set ≤ 2 ^ m → set + k = 2 ^ m + 1 → FrS I0 I (FtS 14) → X r 4 yX8_chancesOfYard cX8_chancesOfYard (7, (some .int)) (0, 0) 6 [some (.ref (evz r + 0)), some (.int (nI l)), some (.int (nI m)), some (.int (nI x)), some (.int (nI (abvF (yt S) (yg S) (ys S) l m x set))), some (.int (nI set)), w6] [] n I Q F := by
  intro k
  induction k with
  | zero => intros; omega
  | succ k ih =>
    intro set I w6 hi0 hi hfr
    obtain ⟨na, nb, p1, p2, hB, hI⟩ := id hc
    obtain ⟨o0, oT, oR, oN, oL, oA, oK, oG, oW, oX, oD, hnn, u0, u1, u2, u3, u4, u5, u6, u7, u8, u9⟩ := id hB
    have oT1 := oT.1
    have oN1 := oN.1
    have oL1 := oL.1
    have oA1 := oA.1
    have oK1 := oK.1
    have oG1 := oG.1
    have oW1 := oW.1
    have oX1 := oX.1
    have oD1 := oD.1
    have oR1 := oR.1
    obtain ⟨ct, cs, ca, ck, cg, cn⟩ := id hI
    obtain ⟨y1, y2, y3, y4, y5, y6, y7, y8, y9, y10, y11, y12⟩ := id hok
    have hn6 := y3.1
    have hsh : ∀ l, l < tN (yt S) → sH (ys S) l ≤ 1 := fun l hl => (y5.1.1 l hl).2.2
    have cs2 : SS I 5 (yt S) (ys S) := cs.fr hn6 (fun x j z1 z2 => hfr x j (by unfold FtS; omega))
    have cn2 : ntp I na (yg S) := ntp_fr cn (fun x j hx => hfr x j (by unfold FtS; omega))
    have cg2 : sgp I 117 (yG S) := sgp_fr cg (fun x j z1 z2 => hfr x j (by unfold FtS; omega))
    refine x_iload_5 dX8_chancesOfYard_6 ?_
    have hpw := pw6 m (by omega)
    refine x_const (c := 1) dX8_chancesOfYard_8 rfl ?_
    refine x_iload_2 dX8_chancesOfYard_9 ?_
    refine x_ishl dX8_chancesOfYard_10 ?_
    rw [shl_1 m (by omega)]
    refine x_icmp_geN dX8_chancesOfYard_11 (by omega) (by omega) (fun c11 => ?_) (fun c11 => ?_)
    · have e9 : set = 2 ^ m := by omega
      refine x_iload_4 dX8_chancesOfYard_129 ?_
      exact x_iret (st := []) dX8_chancesOfYard_131 rfl rfl (by rw [e9]; exact hF _ hfr)
    · refine x_aload_0 dX8_chancesOfYard_14 ?_
      refine x_getr dX8_chancesOfYard_15 f_X8_30 (by assumption) u3 ?_
      refine x_aload_0 dX8_chancesOfYard_18 ?_
      refine x_getr dX8_chancesOfYard_19 f_X8_26 (by assumption) u2 ?_
      refine x_V1v dX8_chancesOfYard_22 m_X8_176 (c_X5_copy 14 5 (yt S) (ys S) oL oN (by omega) cs2.1 cs2.2 hn6 hsh) (by assumption) (fun I22 h22 => ?_)
      obtain ⟨fr22, sl22, sk22⟩ := h22
      have ss22 : SS I22 14 (yt S) (ys S) := ⟨sl22, sk22⟩
      have cn3 : ntp I22 na (yg S) := ntp_fr cn2 (fun x j hx => fr22 x j (by unfold FtS; omega))
      have e53 : I22 5 3 = nI (sR (ys S)) := (fr22 _ _ (by unfold FtS; omega)).trans cs2.1.2.1
      refine x_const (c := 0) dX8_chancesOfYard_25 rfl ?_
      refine x_istore_6 dX8_chancesOfYard_26 rfl rfl ?_
      have c22 : CW n _ Q S := (CW_q hB hI hok (fun x j hx => ((fr22 x j (by unfold Qry at hx; unfold FtS; omega)).trans (hfr x j (by unfold Qry at hx; unfold FtS; omega))))).2
      refine l_ch2 c22 hok l m x hl hm6 hx10 _ set (by omega) (fun J1 f0 s1 => ?_) (m + 1) 0 _ (by omega) (by omega) (fun _ _ _ => rfl) ss22
      have f1 := fun x j hx => (f0 x j hx).trans (fr22 x j hx)
      have hq := bitF_bit (fun l2 => decide (nY (yg S) ≤ sD (mhS (yt S) (yg S) (ys S) set m) l2)) hl
      have hq2 : ydB (yt S) (yg S) (mhS (yt S) (yg S) (ys S) set m) / 2 ^ l % 2 = if decide (nY (yg S) ≤ sD (mhS (yt S) (yg S) (ys S) set m) l) then 1 else 0 := hq
      have hbo := bc_ones (show set < 2 ^ m by omega) hm6
      have hbl := bc_le set m
      refine x_aload_0 dX8_chancesOfYard_72 ?_
      refine x_getr dX8_chancesOfYard_73 f_X8_30 (by assumption) u3 ?_
      refine x_aload_0 dX8_chancesOfYard_76 ?_
      refine x_getr dX8_chancesOfYard_77 f_X8_62 (by assumption) u8 ?_
      refine x_getV dX8_chancesOfYard_80 f_X8_268 (by assumption) ((f1 _ _ (by unfold FtS; omega)).trans cn2.2.2.2.1) ?_
      refine x_V1i dX8_chancesOfYard_83 m_X8_271 (c_X5_yardBits 14 (yt S) (mhS (yt S) (yg S) (ys S) set m) oL s1.1 hn6 (nY (yg S)) (by have := y4.2.2.2.2.2.2; omega) (fun l hl => by have h1 := (okS_mh (g := yg S) (set := set) y5.1 m).1 l hl; have h2 := y7 l hl; exact ⟨by omega, by omega⟩)) (by assumption) (fun x83 I83 h83 => ?_)
      obtain ⟨rfl, rfl⟩ := h83
      refine x_iload_1 dX8_chancesOfYard_86 ?_
      refine x_S2i dX8_chancesOfYard_87 m_X8_224 (c_X8_hasBit (ydB (yt S) (yg S) (mhS (yt S) (yg S) (ys S) set m)) l (ydB_lt hn6) (by omega)) (fun x87 I87 h87 => ?_)
      obtain ⟨rfl, ⟨rfl, hbb⟩ | ⟨rfl, hbb⟩⟩ := h87
      · refine x_if_eqN dX8_chancesOfYard_90 (by omega) (fun c90 => ?_) (fun c90 => ?_)
        · exfalso; omega
        · refine x_iload_5 dX8_chancesOfYard_93 ?_
          refine x_S1i dX8_chancesOfYard_95 m_X8_195 (c_bitCount set (by omega)) (fun x95 I95 h95 => ?_)
          obtain ⟨rfl, rfl⟩ := h95
          refine x_istore_6 dX8_chancesOfYard_98 rfl rfl ?_
          refine x_iload_4 dX8_chancesOfYard_100 ?_
          refine x_iload_3 dX8_chancesOfYard_102 ?_
          refine x_iload_6 dX8_chancesOfYard_103 ?_
          refine x_S2i dX8_chancesOfYard_105 m_X8_250 (c_X8_power x (ones6 set) (by have := ones6_le set; omega)) (fun x105 I105 h105 => ?_)
          obtain ⟨rfl, rfl⟩ := h105
          refine x_bip (c := 10) dX8_chancesOfYard_108 (by decide) ?_
          refine x_iload_3 dX8_chancesOfYard_110 ?_
          refine x_isubN dX8_chancesOfYard_111 (by omega) ?_
          refine x_iload_2 dX8_chancesOfYard_112 ?_
          refine x_iload_6 dX8_chancesOfYard_113 ?_
          refine x_isubN dX8_chancesOfYard_115 (by omega) ?_
          refine x_S2i dX8_chancesOfYard_116 m_X8_250 (c_X8_power (10 - x) (m - ones6 set) (by omega)) (fun x116 I116 h116 => ?_)
          obtain ⟨rfl, rfl⟩ := h116
          refine x_imulN dX8_chancesOfYard_119 ?_
          refine x_iaddN dX8_chancesOfYard_120 ?_
          refine x_istore_4 dX8_chancesOfYard_121 rfl rfl ?_
          refine x_iinc_5 dX8_chancesOfYard_123 (iinc1 _) rfl rfl ?_
          refine x_goto dX8_chancesOfYard_126 ?_
          have hy : nY (yg S) ≤ sD (mhS (yt S) (yg S) (ys S) set m) l := by
            rw [hq2] at hbb
            by_cases z : nY (yg S) ≤ sD (mhS (yt S) (yg S) (ys S) set m) l
            · exact z
            · rw [decide_eq_false z] at hbb; exact absurd hbb (by decide)
          have e2 : x ^ ones6 set * (10 - x) ^ (m - ones6 set) = prF x set m := by rw [pr_pow, hbo]
          have e1 : (abvF (yt S) (yg S) (ys S) l m x (set + 1)) = (abvF (yt S) (yg S) (ys S) l m x set) + prF x set m := congrArg (fun y => (abvF (yt S) (yg S) (ys S) l m x set) + y) (if_pos hy)
          rw [e2, ← e1]
          exact ih (set + 1) _ _ (by omega) (by omega) (fun x j hx => (f1 x j hx).trans (hfr x j hx))
      · refine x_if_eqN dX8_chancesOfYard_90 (by omega) (fun c90 => ?_) (fun c90 => ?_)
        · refine x_iinc_5 dX8_chancesOfYard_123 (iinc1 _) rfl rfl ?_
          refine x_goto dX8_chancesOfYard_126 ?_
          have hy : ¬ nY (yg S) ≤ sD (mhS (yt S) (yg S) (ys S) set m) l := fun z => by
            rw [hq2, decide_eq_true z] at hbb
            exact absurd hbb (by decide)
          have e1 : (abvF (yt S) (yg S) (ys S) l m x (set + 1)) = (abvF (yt S) (yg S) (ys S) l m x set) := (congrArg (fun y => (abvF (yt S) (yg S) (ys S) l m x set) + y) (if_neg hy)).trans (Nat.add_zero _)
          rw [← e1]
          exact ih (set + 1) _ _ (by omega) (by omega) (fun x j hx => (f1 x j hx).trans (hfr x j hx))
        · exfalso; omega
set_option maxHeartbeats 4000000 in
theorem c_X8_chancesOfYard {r : Ev} {n : Nat} {I : MI} {Q : MQ2} {S : Sy} (hc : CW n I Q S) (hok : okY S) (l m x : Nat) (hl : l < tN (yt S)) (hm6 : m ≤ 6) (hx10 : x ≤ 10) : CT r 4 yX8_chancesOfYard cX8_chancesOfYard (7, (some .int)) (0, 0) [.ref (evz r + 0), .int (nI l), .int (nI m), .int (nI x)] n I Q (ri Q (fun v J => FrS I J (FtS 14) ∧ v = nI (abvF (yt S) (yg S) (ys S) l m x (2 ^ m)))) := by
  refine ct_of (lv := [some (.ref (evz r + 0)), some (.int (nI l)), some (.int (nI m)), some (.int (nI x)), none, none, none]) (by decide +kernel) rfl rfl rfl ?_
  refine x_const (c := 0) dX8_chancesOfYard_0 rfl ?_
  refine x_istore_4 dX8_chancesOfYard_1 rfl rfl ?_
  refine x_const (c := 0) dX8_chancesOfYard_3 rfl ?_
  refine x_istore_5 dX8_chancesOfYard_4 rfl rfl ?_
  exact l_ch1 hc hok l m x hl hm6 hx10 (fun J q => ⟨_, rfl, rfl, q, rfl⟩) (2 ^ m + 1) 0 _ _ (Nat.zero_le _) (Nat.zero_add _) (fun _ _ _ => rfl)
set_option maxHeartbeats 4000000 in
theorem c_X8_likely {r : Ev} {n : Nat} {I : MI} {Q : MQ2} {S : Sy} (hc : CW n I Q S) (hok : okY S) (x y z u : Int32) : CT r 5 yX8_likely cX8_likely (8, (some .int)) (0, 0) [.ref (evz r + 0), .int x, .int y, .int z, .int u] n I Q (ri Q (fun v J => FrW I Q J Q ∧ CW n J Q (A_likely S x y z u).2 ∧ v = (A_likely S x y z u).1)) := by
  refine ct_of (lv := [some (.ref (evz r + 0)), some (.int x), some (.int y), some (.int z), some (.int u), none, none, none]) (by decide +kernel) rfl rfl rfl ?_
  obtain ⟨na, nb, p1, p2, hB, hI⟩ := id hc
  obtain ⟨o0, oT, oR, oN, oL, oA, oK, oG, oW, oX, oD, hnn, u0, u1, u2, u3, u4, u5, u6, u7, u8, u9⟩ := id hB
  have oT1 := oT.1
  have oN1 := oN.1
  have oL1 := oL.1
  have oA1 := oA.1
  have oK1 := oK.1
  have oG1 := oG.1
  have oW1 := oW.1
  have oX1 := oX.1
  have oD1 := oD.1
  have oR1 := oR.1
  obtain ⟨ct, cs, ca, ck, cg, cn⟩ := id hI
  obtain ⟨y1, y2, y3, y4, y5, y6, y7, y8, y9, y10, y11, y12⟩ := id hok
  have hn6 := y3.1
  have hsh : ∀ l, l < tN (yt S) → sH (ys S) l ≤ 1 := fun l hl => (y5.1.1 l hl).2.2
  refine x_aload_0 dX8_likely_0 ?_
  refine x_iload_1 dX8_likely_1 ?_
  refine x_V1i dX8_likely_2 m_X8_107 (c_X8_isNoLoom hB (tN (yt S)) x cs.1.1 y6 hn6) (by assumption) (fun x2 I2 h2 => ?_)
  obtain ⟨rfl, ⟨rfl, h2⟩ | ⟨rfl, h2⟩⟩ := h2
  · refine x_if_neN dX8_likely_5 (by omega) (fun c5 => ?_) (fun c5 => ?_)
    · refine x_iconst (v := -1) dX8_likely_38 rfl ?_
      exact x_iret (st := []) dX8_likely_39 rfl rfl (by first | exact ⟨_, rfl, rfl, by unfold A_likely; rw [onI_n h2]; exact ⟨FrW.rf, hc, rfl⟩⟩ | exact ⟨_, rfl, rfl, by unfold A_likely; rw [onI_y (by omega) (by omega) (by omega), onI_n h12]; exact ⟨FrW.rf, hc, rfl⟩⟩ | exact ⟨_, rfl, rfl, by unfold A_likely; rw [onI_y (by omega) (by omega) (by omega), onI_y (by omega) (by omega) (by omega), onI_n h22]; exact ⟨FrW.rf, hc, rfl⟩⟩ | exact ⟨_, rfl, rfl, by unfold A_likely; rw [onI_y (by omega) (by omega) (by omega), onI_y (by omega) (by omega) (by omega), onI_y (by omega) (by omega) (by omega), onI_n h32]; exact ⟨FrW.rf, hc, rfl⟩⟩)
    · exfalso; omega
  · obtain ⟨l, l0, l1, rfl⟩ := h2
    have hl : l < tN (yt S) := by omega
    have lm := cs.1.2.2.2 l hl
    have hsl := hsh l hl
    have hDl := (y5.1.1 l hl).2.1
    have hTl := y7 l hl
    refine x_if_neN dX8_likely_5 (by omega) (fun c5 => ?_) (fun c5 => ?_)
    · exfalso; omega
    · refine x_iload_2 dX8_likely_8 ?_
      refine x_const (c := 0) dX8_likely_9 rfl ?_
      refine x_bip (c := 6) dX8_likely_10 (by decide) ?_
      refine x_S3i dX8_likely_12 m_X8_91 (c_isOutB y 0 6 (by omega) (by omega)) (fun x12 I12 h12 => ?_)
      obtain ⟨rfl, ⟨rfl, h12⟩ | ⟨rfl, h12⟩⟩ := h12
      · refine x_if_neN dX8_likely_15 (by omega) (fun c15 => ?_) (fun c15 => ?_)
        · refine x_iconst (v := -1) dX8_likely_38 rfl ?_
          exact x_iret (st := []) dX8_likely_39 rfl rfl (by first | exact ⟨_, rfl, rfl, by unfold A_likely; rw [onI_n h2]; exact ⟨FrW.rf, hc, rfl⟩⟩ | exact ⟨_, rfl, rfl, by unfold A_likely; rw [onI_y (by omega) (by omega) (by omega), onI_n h12]; exact ⟨FrW.rf, hc, rfl⟩⟩ | exact ⟨_, rfl, rfl, by unfold A_likely; rw [onI_y (by omega) (by omega) (by omega), onI_y (by omega) (by omega) (by omega), onI_n h22]; exact ⟨FrW.rf, hc, rfl⟩⟩ | exact ⟨_, rfl, rfl, by unfold A_likely; rw [onI_y (by omega) (by omega) (by omega), onI_y (by omega) (by omega) (by omega), onI_y (by omega) (by omega) (by omega), onI_n h32]; exact ⟨FrW.rf, hc, rfl⟩⟩)
        · exfalso; omega
      · obtain ⟨m, m0, m1, rfl⟩ := h12
        refine x_if_neN dX8_likely_15 (by omega) (fun c15 => ?_) (fun c15 => ?_)
        · exfalso; omega
        · refine x_iload_3 dX8_likely_18 ?_
          refine x_const (c := 0) dX8_likely_19 rfl ?_
          refine x_bip (c := 10) dX8_likely_20 (by decide) ?_
          refine x_S3i dX8_likely_22 m_X8_91 (c_isOutB z 0 10 (by omega) (by omega)) (fun x22 I22 h22 => ?_)
          obtain ⟨rfl, ⟨rfl, h22⟩ | ⟨rfl, h22⟩⟩ := h22
          · refine x_if_neN dX8_likely_25 (by omega) (fun c25 => ?_) (fun c25 => ?_)
            · refine x_iconst (v := -1) dX8_likely_38 rfl ?_
              exact x_iret (st := []) dX8_likely_39 rfl rfl (by first | exact ⟨_, rfl, rfl, by unfold A_likely; rw [onI_n h2]; exact ⟨FrW.rf, hc, rfl⟩⟩ | exact ⟨_, rfl, rfl, by unfold A_likely; rw [onI_y (by omega) (by omega) (by omega), onI_n h12]; exact ⟨FrW.rf, hc, rfl⟩⟩ | exact ⟨_, rfl, rfl, by unfold A_likely; rw [onI_y (by omega) (by omega) (by omega), onI_y (by omega) (by omega) (by omega), onI_n h22]; exact ⟨FrW.rf, hc, rfl⟩⟩ | exact ⟨_, rfl, rfl, by unfold A_likely; rw [onI_y (by omega) (by omega) (by omega), onI_y (by omega) (by omega) (by omega), onI_y (by omega) (by omega) (by omega), onI_n h32]; exact ⟨FrW.rf, hc, rfl⟩⟩)
            · exfalso; omega
          · obtain ⟨x, x0, x1, rfl⟩ := h22
            refine x_if_neN dX8_likely_25 (by omega) (fun c25 => ?_) (fun c25 => ?_)
            · exfalso; omega
            · refine x_iload_4 dX8_likely_28 ?_
              refine x_const (c := 0) dX8_likely_30 rfl ?_
              refine x_const (c := 1) dX8_likely_31 rfl ?_
              refine x_S3i dX8_likely_32 m_X8_91 (c_isOutB u 0 1 (by omega) (by omega)) (fun x32 I32 h32 => ?_)
              obtain ⟨rfl, ⟨rfl, h32⟩ | ⟨rfl, h32⟩⟩ := h32
              · refine x_if_eqN dX8_likely_35 (by omega) (fun c35 => ?_) (fun c35 => ?_)
                · exfalso; omega
                · refine x_iconst (v := -1) dX8_likely_38 rfl ?_
                  exact x_iret (st := []) dX8_likely_39 rfl rfl (by first | exact ⟨_, rfl, rfl, by unfold A_likely; rw [onI_n h2]; exact ⟨FrW.rf, hc, rfl⟩⟩ | exact ⟨_, rfl, rfl, by unfold A_likely; rw [onI_y (by omega) (by omega) (by omega), onI_n h12]; exact ⟨FrW.rf, hc, rfl⟩⟩ | exact ⟨_, rfl, rfl, by unfold A_likely; rw [onI_y (by omega) (by omega) (by omega), onI_y (by omega) (by omega) (by omega), onI_n h22]; exact ⟨FrW.rf, hc, rfl⟩⟩ | exact ⟨_, rfl, rfl, by unfold A_likely; rw [onI_y (by omega) (by omega) (by omega), onI_y (by omega) (by omega) (by omega), onI_y (by omega) (by omega) (by omega), onI_n h32]; exact ⟨FrW.rf, hc, rfl⟩⟩)
              · obtain ⟨pt, pt0, pt1, rfl⟩ := h32
                refine x_if_eqN dX8_likely_35 (by omega) (fun c35 => ?_) (fun c35 => ?_)
                · refine x_aload_0 dX8_likely_40 ?_
                  refine x_iload_1 dX8_likely_41 ?_
                  refine x_iload_2 dX8_likely_42 ?_
                  refine x_iload_3 dX8_likely_43 ?_
                  have hab := abv_le (t := yt S) (g := yg S) (s := ys S) (l := l) (m := m) (x := x) (by omega) (by omega) (2 ^ m) (pw6 m (by omega))
                  have hdv := gcd_le (x := abvF (yt S) (yg S) (ys S) l m x (2 ^ m)) (p10 m (by omega)).2
                  have h100 := (p10 m (by omega)).1
                  refine x_V3i dX8_likely_44 m_X8_246 (c_X8_chancesOfYard hc hok l m x hl (by omega) (by omega)) (by assumption) (fun x44 I44 h44 => ?_)
                  obtain ⟨hf44, rfl⟩ := h44
                  refine x_istore_5 dX8_likely_47 rfl rfl ?_
                  refine x_bip (c := 10) dX8_likely_49 (by decide) ?_
                  refine x_iload_2 dX8_likely_51 ?_
                  refine x_S2i dX8_likely_52 m_X8_250 (c_X8_power 10 m (by omega)) (fun x52 I52 h52 => ?_)
                  obtain ⟨rfl, rfl⟩ := h52
                  refine x_istore_6 dX8_likely_55 rfl rfl ?_
                  refine x_iload_5 dX8_likely_57 ?_
                  refine x_const (c := 2) dX8_likely_59 rfl ?_
                  refine x_iload_2 dX8_likely_60 ?_
                  refine x_S3i dX8_likely_61 m_X8_254 (c_X8_sharedPower (abvF (yt S) (yg S) (ys S) l m x (2 ^ m)) 2 m hab (Or.inl rfl) (by omega)) (fun x61 I61 h61 => ?_)
                  obtain ⟨rfl, rfl⟩ := h61
                  refine x_iload_5 dX8_likely_64 ?_
                  refine x_const (c := 5) dX8_likely_66 rfl ?_
                  refine x_iload_2 dX8_likely_67 ?_
                  refine x_S3i dX8_likely_68 m_X8_254 (c_X8_sharedPower (abvF (yt S) (yg S) (ys S) l m x (2 ^ m)) 5 m hab (Or.inr rfl) (by omega)) (fun x68 I68 h68 => ?_)
                  obtain ⟨rfl, rfl⟩ := h68
                  refine x_imulN dX8_likely_71 ?_
                  rw [gcd10]
                  refine x_istore_7 dX8_likely_72 rfl rfl ?_
                  refine x_iload_4 dX8_likely_74 ?_
                  refine x_if_neN dX8_likely_76 (by omega) (fun c76 => ?_) (fun c76 => ?_)
                  · refine x_iload_6 dX8_likely_84 ?_
                    refine x_const (c := 1) dX8_likely_86 rfl ?_
                    refine x_iload_7 dX8_likely_87 ?_
                    refine x_max dX8_likely_89 m_X8_257 ?_
                    rw [nmax (by omega) (by omega), Nat.max_eq_right (by omega)]
                    refine x_idivN dX8_likely_92 (by omega) (by omega) (by omega) ?_
                    exact x_iret (st := []) dX8_likely_93 rfl rfl (⟨_, rfl, rfl, by unfold A_likely; rw [onI_y (by omega) (by omega) (by omega), onI_y (by omega) (by omega) (by omega), onI_y (by omega) (by omega) (by omega), onI_y (by omega) (by omega) (by omega)]; obtain ⟨z1, z2⟩ := CW_q (J := _) hB hI hok (fun x j hx => hf44 x j (by unfold Qry at hx; unfold FtS; omega)); exact ⟨z1, z2, by unfold likF; first | rw [if_pos (by omega)] | rw [if_neg (by omega)]⟩⟩)
                  · refine x_iload_5 dX8_likely_79 ?_
                    refine x_goto dX8_likely_81 ?_
                    refine x_const (c := 1) dX8_likely_86 rfl ?_
                    refine x_iload_7 dX8_likely_87 ?_
                    refine x_max dX8_likely_89 m_X8_257 ?_
                    rw [nmax (by omega) (by omega), Nat.max_eq_right (by omega)]
                    refine x_idivN dX8_likely_92 (by omega) (by omega) (by omega) ?_
                    exact x_iret (st := []) dX8_likely_93 rfl rfl (⟨_, rfl, rfl, by unfold A_likely; rw [onI_y (by omega) (by omega) (by omega), onI_y (by omega) (by omega) (by omega), onI_y (by omega) (by omega) (by omega), onI_y (by omega) (by omega) (by omega)]; obtain ⟨z1, z2⟩ := CW_q (J := _) hB hI hok (fun x j hx => hf44 x j (by unfold Qry at hx; unfold FtS; omega)); exact ⟨z1, z2, by unfold likF; first | rw [if_pos (by omega)] | rw [if_neg (by omega)]⟩⟩)
                · exfalso; omega
