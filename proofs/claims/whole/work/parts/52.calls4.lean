theorem FrW.rf {I : MI} {Q : MQ2} : FrW I Q I Q := fun _ _ _ => ⟨rfl, rfl⟩
theorem CW_q {n : Nat} {I J : MI} {Q : MQ2} {na nb : Nat} {p1 p2 : Nat → Nat} {S : Sy} (hB : CWB n Q na nb p1 p2) (h : CWI I na p1 p2 S) (hok : okY S) (f : FrS I J (fun x _ => Qry nb x)) : FrW I Q J Q ∧ CW n J Q S := by
  have hnn := hB.2.2.2.2.2.2.2.2.2.2.2.1
  exact ⟨fun x hx j => ⟨f x j (by unfold Qry; omega), rfl⟩, na, nb, p1, p2, hB, h.fr hB hok.2.2.1.1 hok.2.2.2.2.2.2.2.1 hok.2.2.2.2.2.2.2.2.2.1 f⟩
theorem CW_txt {n : Nat} {I J : MI} {Q : MQ2} {na nb : Nat} {p1 p2 : Nat → Nat} {S : Sy} {m : Nat} {T : Nat → Nat} (hB : CWB n Q na nb p1 p2) (h : CWI I na p1 p2 S) (hok : okY S) (f : FrS I J (fun x _ => x = 1 ∨ x = 2)) (ht : txp J 1 m T) : FrW I Q J Q ∧ CW n J Q ((m, T), S.2) := by
  obtain ⟨ct, cs, ca, ck, cg, cn⟩ := h
  have hn := hok.2.2.1.1
  obtain ⟨o0, oT, oR, oN, oL, oA, oK, oG, oW, oX, oD, hnn, -⟩ := id hB
  exact ⟨fun x hx j => ⟨f x j (by omega), rfl⟩, na, nb, p1, p2, hB, ht, cs.fr hn (fun x j z1 z2 => f x j (by omega)), plp_fr ca hok.2.2.2.2.2.2.2.1 (fun i hi => (oA.2.2.2.1 i hi).1) hn (fun x j z1 z2 => f x j (by omega)), plp_fr ck hok.2.2.2.2.2.2.2.2.2.1 (fun i hi => (oK.2.2.2.1 i hi).1) hn (fun x j z1 z2 => f x j (by omega)), sgp_fr cg (fun x j z1 z2 => f x j (by omega)), ntp_fr cn (fun x j hx => f x j (by omega))⟩
theorem i2cN {c : Nat} (h : c < 65536) : ((nI c).toUInt32 % 65536).toInt32 = nI c := by rw [pk_char, pk_tn (by omega), Nat.mod_eq_of_lt h]
theorem tell_eq {I : MI} {S : Sy} {l w : Nat} (h : lmp I (5 + 3 + l) (tK (yt S) l) (sP (ys S) l) (tT (yt S) l) (sD (ys S) l) (sX (ys S) l) (sH (ys S) l)) (hw : w ≤ 5) : I (5 + 3 + l) (if w = 5 then 6 else w) = tellV S l w := by
  obtain ⟨a0, a1, a2, a3, a4, a6⟩ := h
  rcases (show w = 0 ∨ w = 1 ∨ w = 2 ∨ w = 3 ∨ w = 4 ∨ w = 5 by omega) with rfl | rfl | rfl | rfl | rfl | rfl
  · exact a0
  · exact a1
  · exact a2
  · exact a3
  · exact a4
  · exact a6
set_option maxHeartbeats 4000000 in
theorem c_X8_write {r : Ev} {n : Nat} {I : MI} {Q : MQ2} {S : Sy} (hc : CW n I Q S) (hok : okY S) (x : Int32) : CT r 1 yX8_write cX8_write (2, (some .int)) (0, 0) [.ref (evz r + 0), .int x] n I Q (ri Q (fun v J => FrW I Q J Q ∧ CW n J Q (A_write S x).2 ∧ v = (A_write S x).1)) := by
  refine ct_of (lv := [some (.ref (evz r + 0)), some (.int x)]) (by decide +kernel) rfl rfl rfl ?_
  obtain ⟨na, nb, p1, p2, hB, hI⟩ := id hc
  obtain ⟨o0, oT, oR, oN, oL, oA, oK, oG, oW, oX, oD, hnn, u0, u1, u2, u3, u4, u5, u6, u7, u8, u9⟩ := id hB
  have oT1 := oT.1
  have oN1 := oN.1
  have oL1 := oL.1
  have oA1 := oA.1
  have oK1 := oK.1
  have oG1 := oG.1
  have oW1 := oW.1
  have oX1 := oX.1
  have oD1 := oD.1
  have oR1 := oR.1
  obtain ⟨ct, cs, ca, ck, cg, cn⟩ := id hI
  obtain ⟨y1, y2, y3, y4, y5, y6, y7, y8, y9, y10, y11, y12⟩ := id hok
  have hn6 := y3.1
  have hsh : ∀ l, l < tN (yt S) → sH (ys S) l ≤ 1 := fun l hl => (y5.1.1 l hl).2.2
  refine x_iload_1 dX8_write_0 ?_
  refine x_bip (c := 32) dX8_write_1 (by decide) ?_
  refine x_bip (c := 126) dX8_write_3 (by decide) ?_
  refine x_S3i dX8_write_5 m_X8_91 (c_isOutB x 32 126 (by omega) (by omega)) (fun x5 I5 h5 => ?_)
  obtain ⟨rfl, ⟨rfl, h5⟩ | ⟨rfl, h5⟩⟩ := h5
  · refine x_if_eqN dX8_write_8 (by omega) (fun c8 => ?_) (fun c8 => ?_)
    · exfalso; omega
    · refine x_iconst (v := -1) dX8_write_11 rfl ?_
      exact x_iret (st := []) dX8_write_12 rfl rfl (⟨_, rfl, rfl, by unfold A_write; rw [onI_n h5]; exact ⟨FrW.rf, hc, rfl⟩⟩)
  · obtain ⟨c, c0, c1, rfl⟩ := h5
    refine x_if_eqN dX8_write_8 (by omega) (fun c8 => ?_) (fun c8 => ?_)
    · refine x_aload_0 dX8_write_13 ?_
      refine x_getr dX8_write_14 f_X8_12 (by assumption) u0 ?_
      refine x_V0i dX8_write_17 m_X8_95 (c_X6_isFull 1 (yM S) (yT S) oT ct y1) (by assumption) (fun x17 I17 h17 => ?_)
      obtain ⟨rfl, ⟨rfl, h17⟩ | ⟨rfl, h17⟩⟩ := h17
      · refine x_if_eqN dX8_write_20 (by omega) (fun c20 => ?_) (fun c20 => ?_)
        · exfalso; omega
        · refine x_bipush (v := -3) dX8_write_23 (by decide) ?_
          exact x_iret (st := []) dX8_write_25 rfl rfl (⟨_, rfl, rfl, by unfold A_write; rw [onI_y (by omega) (by omega) (by omega), if_pos (by omega)]; exact ⟨FrW.rf, hc, rfl⟩⟩)
      · refine x_if_eqN dX8_write_20 (by omega) (fun c20 => ?_) (fun c20 => ?_)
        · refine x_aload_0 dX8_write_26 ?_
          refine x_getr dX8_write_27 f_X8_12 (by assumption) u0 ?_
          refine x_iload_1 dX8_write_30 ?_
          refine x_i2c dX8_write_31 ((i2cN (by omega))) ?_
          refine x_V1v dX8_write_32 m_X8_81 (c_X6_append 1 (yM S) (yT S) oT ct y1 (by omega) c (by omega)) (by assumption) (fun I32 h32 => ?_)
          obtain ⟨tf, tx⟩ := h32
          refine x_aload_0 dX8_write_35 ?_
          refine x_getr dX8_write_36 f_X8_12 (by assumption) u0 ?_
          refine x_getV dX8_write_39 f_X8_99 (by assumption) tx.1 ?_
          exact x_iret (st := []) dX8_write_42 rfl rfl (⟨_, rfl, rfl, by unfold A_write; rw [onI_y (by omega) (by omega) (by omega), if_neg (by omega)]; obtain ⟨z1, z2⟩ := CW_txt hB hI hok tf tx; exact ⟨z1, z2, rfl⟩⟩)
        · exfalso; omega
    · exfalso; omega
set_option maxHeartbeats 4000000 in
theorem c_X8_wipe {r : Ev} {n : Nat} {I : MI} {Q : MQ2} {S : Sy} (hc : CW n I Q S) (hok : okY S) : CT r 1 yX8_wipe cX8_wipe (2, (some .int)) (0, 0) [.ref (evz r + 0)] n I Q (ri Q (fun v J => FrW I Q J Q ∧ CW n J Q (A_wipe S).2 ∧ v = (A_wipe S).1)) := by
  refine ct_of (lv := [some (.ref (evz r + 0)), none]) (by decide +kernel) rfl rfl rfl ?_
  obtain ⟨na, nb, p1, p2, hB, hI⟩ := id hc
  obtain ⟨o0, oT, oR, oN, oL, oA, oK, oG, oW, oX, oD, hnn, u0, u1, u2, u3, u4, u5, u6, u7, u8, u9⟩ := id hB
  have oT1 := oT.1
  have oN1 := oN.1
  have oL1 := oL.1
  have oA1 := oA.1
  have oK1 := oK.1
  have oG1 := oG.1
  have oW1 := oW.1
  have oX1 := oX.1
  have oD1 := oD.1
  have oR1 := oR.1
  obtain ⟨ct, cs, ca, ck, cg, cn⟩ := id hI
  obtain ⟨y1, y2, y3, y4, y5, y6, y7, y8, y9, y10, y11, y12⟩ := id hok
  have hn6 := y3.1
  have hsh : ∀ l, l < tN (yt S) → sH (ys S) l ≤ 1 := fun l hl => (y5.1.1 l hl).2.2
  refine x_aload_0 dX8_wipe_0 ?_
  refine x_getr dX8_wipe_1 f_X8_12 (by assumption) u0 ?_
  refine x_getV dX8_wipe_4 f_X8_99 (by assumption) ct.1 ?_
  refine x_istore_1 dX8_wipe_7 rfl rfl ?_
  refine x_aload_0 dX8_wipe_8 ?_
  refine x_getr dX8_wipe_9 f_X8_12 (by assumption) u0 ?_
  refine x_V0v dX8_wipe_12 m_X8_88 (c_X6_clear 1 oT) (by assumption) (fun I12 h12 => ?_)
  obtain ⟨tf12, te12⟩ := h12
  refine x_iload_1 dX8_wipe_15 ?_
  exact x_iret (st := []) dX8_wipe_16 rfl rfl (⟨_, rfl, rfl, by obtain ⟨z1, z2⟩ := CW_txt (m := 0) (T := yT S) hB hI hok (fun x j hx => tf12 x j (by omega)) ⟨te12, fun k hk => absurd hk (Nat.not_lt_zero k)⟩; exact ⟨z1, z2, rfl⟩⟩)
set_option maxHeartbeats 4000000 in
theorem c_X8_fault {r : Ev} {n : Nat} {I : MI} {Q : MQ2} {S : Sy} (hc : CW n I Q S) (hok : okY S) : CT r 5 yX8_fault cX8_fault (1, (some .int)) (0, 0) [.ref (evz r + 0)] n I Q (ri Q (fun v J => FrW I Q J Q ∧ CW n J Q (A_fault S).2 ∧ v = (A_fault S).1)) := by
  refine ct_of (lv := [some (.ref (evz r + 0))]) (by decide +kernel) rfl rfl rfl ?_
  obtain ⟨na, nb, p1, p2, hB, hI⟩ := id hc
  obtain ⟨o0, oT, oR, oN, oL, oA, oK, oG, oW, oX, oD, hnn, u0, u1, u2, u3, u4, u5, u6, u7, u8, u9⟩ := id hB
  have oT1 := oT.1
  have oN1 := oN.1
  have oL1 := oL.1
  have oA1 := oA.1
  have oK1 := oK.1
  have oG1 := oG.1
  have oW1 := oW.1
  have oX1 := oX.1
  have oD1 := oD.1
  have oR1 := oR.1
  obtain ⟨ct, cs, ca, ck, cg, cn⟩ := id hI
  obtain ⟨y1, y2, y3, y4, y5, y6, y7, y8, y9, y10, y11, y12⟩ := id hok
  have hn6 := y3.1
  have hsh : ∀ l, l < tN (yt S) → sH (ys S) l ≤ 1 := fun l hl => (y5.1.1 l hl).2.2
  refine x_aload_0 dX8_fault_0 ?_
  refine x_getr dX8_fault_1 f_X8_19 (by assumption) u1 ?_
  refine x_aload_0 dX8_fault_4 ?_
  refine x_getr dX8_fault_5 f_X8_12 (by assumption) u0 ?_
  refine x_aload_0 dX8_fault_8 ?_
  refine x_getr dX8_fault_9 f_X8_66 (by assumption) u9 ?_
  refine x_V2i dX8_fault_12 m_X8_103 (c_X3_read 3 1 nb (yM S) (yT S) oR oT oD y1 y2 (by omega) (by omega) (by omega) ct) (by assumption) (fun x12 I12 h12 => ?_)
  obtain ⟨rf, rd⟩ := h12
  exact x_iret (st := []) dX8_fault_15 rfl rfl (⟨_, rfl, rfl, by
      obtain ⟨z1, z2⟩ := CW_q (J := _) hB hI hok (fun x j hx => rf x j (fun z => hx (by unfold FtR FtN at z; unfold Qry; omega)))
      refine ⟨z1, z2, ?_⟩
      show _ = pl4 (rdF S).1
      unfold rdF
      rcases rd with ⟨rfl, e, -⟩ | ⟨p, rfl, hp, e⟩
      · rw [e]; rfl
      · rw [e]; rfl⟩)
theorem CWB.swap {n : Nat} {Q : MQ2} {na nb : Nat} {p1 p2 : Nat → Nat} (hB : CWB n Q na nb p1 p2) : CWB n (up2 (up2 Q 0 9 (some na)) 0 8 (some nb)) nb na p1 p2 := by
  obtain ⟨o0, oT, oR, oN, oL, oA, oK, oG, oW, oX, oD, hnn, u0, u1, u2, u3, u4, u5, u6, u7, u8, u9⟩ := hB
  have g : ∀ x j, ¬ (x = 0 ∧ 8 ≤ j) → (up2 (up2 Q 0 9 (some na)) 0 8 (some nb)) x j = Q x j := fun x j h => (up2_ne (by omega)).trans (up2_ne (by omega))
  exact ⟨o0, ⟨oT.1, oT.2.1, (g _ _ (by omega)).trans oT.2.2⟩, ⟨oR.1, oR.2.1, (g _ _ (by omega)).trans oR.2.2⟩, oN.q (fun j => g _ _ (by omega)) (fun j => g _ _ (by omega)), oL.q (fun j => g _ _ (by omega)) (fun j => g _ _ (by omega)), oA.same (fun x j z1 z2 => g _ _ (by omega)), oK.same (fun x j z1 z2 => g _ _ (by omega)), ⟨oG.1, oG.2.1, oG.2.2.1, oG.2.2.2.1, (g _ _ (by omega)).trans oG.2.2.2.2.1, (g _ _ (by omega)).trans oG.2.2.2.2.2.1, (g _ _ (by omega)).trans oG.2.2.2.2.2.2⟩, ⟨oW.1, oW.2.1, oW.2.2.1, (g _ _ (by omega)).trans oW.2.2.2.1, (g _ _ (by omega)).trans oW.2.2.2.2⟩, oD.same (fun x j z1 z2 => g _ _ (by omega)), oX.same (fun x j z1 z2 => g _ _ (by omega)), by omega, (g _ _ (by omega)).trans u0, (g _ _ (by omega)).trans u1, (g _ _ (by omega)).trans u2, (g _ _ (by omega)).trans u3, (g _ _ (by omega)).trans u4, (g _ _ (by omega)).trans u5, (g _ _ (by omega)).trans u6, (g _ _ (by omega)).trans u7, up2_same _ _ _ _, (up2_ne (by omega)).trans (up2_same _ _ _ _)⟩
set_option maxHeartbeats 4000000 in
theorem c_X8_layText {r : Ev} {n : Nat} {I : MI} {Q : MQ2} {na nb : Nat} {p1 p2 : Nat → Nat} (hB : CWB n Q na nb p1 p2) (m : Nat) (T : Nat → Nat) (ct : txp I 1 m T) (y1 : m ≤ 200) (y2 : ∀ k, k < m → T k < 128) : CT r 5 yX8_layText cX8_layText (2, (some .int)) (0, 0) [.ref (evz r + 0)] n I Q (RI (fun v J Q' => FrW I Q J Q' ∧ ((((readF T m 200 0 (t00, s00, g00)).1 = none ∧ tN (readF T m 200 0 (t00, s00, g00)).2.1 ≠ 0) ∧ v = nI (tN (readF T m 200 0 (t00, s00, g00)).2.1) ∧ ∃ p1 p2, CWB n Q' nb na p1 p2 ∧ (∀ x j, x = 1 ∨ x = 2 → J x j = I x j) ∧ SS J 5 (readF T m 200 0 (t00, s00, g00)).2.1 (readF T m 200 0 (t00, s00, g00)).2.2.1 ∧ J 23 1 = nI 0 ∧ J 97 1 = nI 0 ∧ J 117 3 = nI 0 ∧ ntp J nb (readF T m 200 0 (t00, s00, g00)).2.2.2) ∨ (¬ ((readF T m 200 0 (t00, s00, g00)).1 = none ∧ tN (readF T m 200 0 (t00, s00, g00)).2.1 ≠ 0) ∧ v = -2 ∧ Q' = Q ∧ FrS I J (fun x _ => Qry nb x))))) := by
  refine ct_of (lv := [some (.ref (evz r + 0)), none]) (by decide +kernel) rfl rfl rfl ?_
  obtain ⟨o0, oT, oR, oN, oL, oA, oK, oG, oW, oX, oD, hnn, u0, u1, u2, u3, u4, u5, u6, u7, u8, u9⟩ := id hB
  have oT1 := oT.1
  have oN1 := oN.1
  have oL1 := oL.1
  have oA1 := oA.1
  have oK1 := oK.1
  have oG1 := oG.1
  have oW1 := oW.1
  have oX1 := oX.1
  have oD1 := oD.1
  have oR1 := oR.1
  refine x_aload_0 dX8_layText_0 ?_
  refine x_getr dX8_layText_1 f_X8_19 (by assumption) u1 ?_
  refine x_aload_0 dX8_layText_4 ?_
  refine x_getr dX8_layText_5 f_X8_12 (by assumption) u0 ?_
  refine x_aload_0 dX8_layText_8 ?_
  refine x_getr dX8_layText_9 f_X8_66 (by assumption) u9 ?_
  refine x_V2i dX8_layText_12 m_X8_103 (c_X3_read 3 1 nb m T oR oT oD y1 y2 (by omega) (by omega) (by omega) ct) (by assumption) (fun x12 I12 h12 => ?_)
  obtain ⟨rf, ⟨rfl, rn, un, uk⟩ | ⟨p, rfl, hp, rn⟩⟩ := h12
  · have h6 := uk.1.1
    refine x_bipush (v := -4) dX8_layText_15 (by decide) ?_
    refine x_icmp_ne dX8_layText_17 (fun c17 => ?_) (fun c17 => ?_)
    · exact absurd rfl c17
    · refine x_aload_0 dX8_layText_20 ?_
      refine x_getr dX8_layText_21 f_X8_66 (by assumption) u9 ?_
      refine x_getr dX8_layText_24 f_X8_279 (by assumption) oD.2.2.2.2.1 ?_
      refine x_getV dX8_layText_27 f_X8_185 oD.2.1.1 un.1.1.1 ?_
      refine x_if_neN dX8_layText_30 (by omega) (fun c30 => ?_) (fun c30 => ?_)
      · refine x_aload_0 dX8_layText_36 ?_
        refine x_getr dX8_layText_37 f_X8_66 (by assumption) u9 ?_
        refine x_astore_1 dX8_layText_40 rfl rfl ?_
        refine x_aload_0 dX8_layText_41 ?_
        refine x_aload_0 dX8_layText_42 ?_
        refine x_getr dX8_layText_43 f_X8_62 (by assumption) u8 ?_
        refine x_putr dX8_layText_46 f_X8_66 rfl rfl rfl (by assumption) ?_
        refine x_aload_0 dX8_layText_49 ?_
        refine x_aload_1 dX8_layText_50 ?_
        refine x_putr dX8_layText_51 f_X8_62 rfl rfl rfl (by assumption) ?_
        have hB2 := hB.swap
        obtain ⟨o0, oT, oR, oN, oL, oA, oK, oG, oW, oX, oD, hnn, u0, u1, u2, u3, u4, u5, u6, u7, u8, u9⟩ := id hB2
        have oT1 := oT.1
        have oN1 := oN.1
        have oL1 := oL.1
        have oA1 := oA.1
        have oK1 := oK.1
        have oG1 := oG.1
        have oW1 := oW.1
        have oX1 := oX.1
        have oD1 := oD.1
        have oR1 := oR.1
        refine x_aload_0 dX8_layText_54 ?_
        refine x_getr dX8_layText_55 f_X8_26 (by assumption) u2 ?_
        refine x_aload_0 dX8_layText_58 ?_
        refine x_getr dX8_layText_59 f_X8_62 (by assumption) u8 ?_
        refine x_getr dX8_layText_62 f_X8_279 (by assumption) oX.2.2.2.2.1 ?_
        refine x_V1v dX8_layText_65 m_X8_176 (c_X5_copy 5 (nb + 1) (readF T m 200 0 (t00, s00, g00)).2.1 (readF T m 200 0 (t00, s00, g00)).2.2.1 oN oX.2.1 (by omega) un.1.1 un.1.2 uk.1.1 (fun l hl => (uk.2.1.1 l hl).2.2)) (by assumption) (fun I65 h65 => ?_)
        obtain ⟨fr65, cs65, ck65⟩ := h65
        refine x_aload_0 dX8_layText_68 ?_
        refine x_getr dX8_layText_69 f_X8_48 (by assumption) u6 ?_
        refine x_V0v dX8_layText_72 m_X8_239 (c_X4_clear 117 oG) (by assumption) (fun I72 h72 => ?_)
        obtain ⟨tf72, te72⟩ := h72
        refine x_aload_0 dX8_layText_75 ?_
        refine x_getr dX8_layText_76 f_X8_38 (by assumption) u4 ?_
        refine x_V0v dX8_layText_79 m_X8_278 (c_X2_clear 23 oA1) (by assumption) (fun I79 h79 => ?_)
        obtain ⟨tf79, te79⟩ := h79
        refine x_aload_0 dX8_layText_82 ?_
        refine x_getr dX8_layText_83 f_X8_42 (by assumption) u5 ?_
        refine x_V0v dX8_layText_86 m_X8_278 (c_X2_clear 97 oK1) (by assumption) (fun I86 h86 => ?_)
        obtain ⟨tf86, te86⟩ := h86
        refine x_aload_0 dX8_layText_89 ?_
        refine x_getr dX8_layText_90 f_X8_26 (by assumption) u2 ?_
        refine x_getV dX8_layText_93 f_X8_185 (by assumption) ((tf86 _ _ (by omega)).trans ((tf79 _ _ (by omega)).trans ((tf72 _ _ (by omega)).trans cs65.1))) ?_
        exact x_iret (st := []) dX8_layText_96 rfl rfl (⟨_, rfl, fun x hx j => ⟨(tf86 _ _ (by omega)).trans ((tf79 _ _ (by omega)).trans ((tf72 _ _ (by omega)).trans ((fr65 _ _ (by unfold FtS; omega)).trans (rf x j (fun z => by unfold FtR FtN at z; omega))))), (up2_ne (by omega)).trans (up2_ne (by omega))⟩, Or.inl ⟨⟨rn, by omega⟩, rfl, p1, p2, hB2, fun x j hx => (tf86 _ _ (by omega)).trans ((tf79 _ _ (by omega)).trans ((tf72 _ _ (by omega)).trans ((fr65 _ _ (by unfold FtS; omega)).trans (rf x j (fun z => by unfold FtR FtN at z; omega))))), SS.fr (I := _) ⟨cs65, ck65⟩ uk.1.1 (fun x j z1 z2 => (tf86 _ _ (by omega)).trans ((tf79 _ _ (by omega)).trans (tf72 _ _ (by omega)))), (tf86 _ _ (by omega)).trans te79, te86, (tf86 _ _ (by omega)).trans ((tf79 _ _ (by omega)).trans te72), ntp_fr un.2 (fun x j hx => (tf86 _ _ (by omega)).trans ((tf79 _ _ (by omega)).trans ((tf72 _ _ (by omega)).trans (fr65 _ _ (by unfold FtS; omega)))))⟩⟩)
      · refine x_bipush (v := -2) dX8_layText_33 (by decide) ?_
        exact x_iret (st := []) dX8_layText_35 rfl rfl (by first | exact ⟨_, rfl, fun x hx j => ⟨rf x j (fun z => by unfold FtR FtN at z; omega), rfl⟩, Or.inr ⟨fun z => z.2 c30, rfl, rfl, fun x j hx => rf x j (fun z => hx (by unfold FtR FtN at z; unfold Qry; omega))⟩⟩ | exact ⟨_, rfl, fun x hx j => ⟨rf x j (fun z => by unfold FtR FtN at z; omega), rfl⟩, Or.inr ⟨(by intro z; rw [rn] at z; exact absurd z.1 (by simp)), rfl, rfl, fun x j hx => rf x j (fun z => hx (by unfold FtR FtN at z; unfold Qry; omega))⟩⟩)
  · refine x_bipush (v := -4) dX8_layText_15 (by decide) ?_
    refine x_icmp_ne dX8_layText_17 (fun c17 => ?_) (fun c17 => ?_)
    · refine x_bipush (v := -2) dX8_layText_33 (by decide) ?_
      exact x_iret (st := []) dX8_layText_35 rfl rfl (by first | exact ⟨_, rfl, fun x hx j => ⟨rf x j (fun z => by unfold FtR FtN at z; omega), rfl⟩, Or.inr ⟨fun z => z.2 c30, rfl, rfl, fun x j hx => rf x j (fun z => hx (by unfold FtR FtN at z; unfold Qry; omega))⟩⟩ | exact ⟨_, rfl, fun x hx j => ⟨rf x j (fun z => by unfold FtR FtN at z; omega), rfl⟩, Or.inr ⟨(by intro z; rw [rn] at z; exact absurd z.1 (by simp)), rfl, rfl, fun x j hx => rf x j (fun z => hx (by unfold FtR FtN at z; unfold Qry; omega))⟩⟩)
    · exact absurd c17 (nI_ne4 (by omega))
set_option maxHeartbeats 4000000 in
theorem c_X8_lay {r : Ev} {n : Nat} {I : MI} {Q : MQ2} {S : Sy} (hc : CW n I Q S) (hok : okY S) : CT r 6 yX8_lay cX8_lay (1, (some .int)) (0, 0) [.ref (evz r + 0)] n I Q (RI (fun v J Q' => FrW I Q J Q' ∧ CW n J Q' (A_lay S).2 ∧ v = (A_lay S).1)) := by
  refine ct_of (lv := [some (.ref (evz r + 0))]) (by decide +kernel) rfl rfl rfl ?_
  obtain ⟨na, nb, p1, p2, hB, hI⟩ := id hc
  obtain ⟨o0, oT, oR, oN, oL, oA, oK, oG, oW, oX, oD, hnn, u0, u1, u2, u3, u4, u5, u6, u7, u8, u9⟩ := id hB
  have oT1 := oT.1
  have oN1 := oN.1
  have oL1 := oL.1
  have oA1 := oA.1
  have oK1 := oK.1
  have oG1 := oG.1
  have oW1 := oW.1
  have oX1 := oX.1
  have oD1 := oD.1
  have oR1 := oR.1
  obtain ⟨ct, cs, ca, ck, cg, cn⟩ := id hI
  obtain ⟨y1, y2, y3, y4, y5, y6, y7, y8, y9, y10, y11, y12⟩ := id hok
  have hn6 := y3.1
  have hsh : ∀ l, l < tN (yt S) → sH (ys S) l ≤ 1 := fun l hl => (y5.1.1 l hl).2.2
  refine x_aload_0 dX8_lay_0 ?_
  refine x_V0I dX8_lay_1 m_X8_85 (c_X8_layText hB (yM S) (yT S) ct y1 y2) (by assumption) (fun x1 I1 Q1 h1 => ?_)
  exact x_iret (st := []) dX8_lay_4 rfl rfl (⟨_, rfl, by
      obtain ⟨fw, ⟨hcd, rfl, q1, q2, hB2, f12, s5, l1, l2, l3, nt⟩ | ⟨hcd, rfl, rfl, f⟩⟩ := h1
      · have e : A_lay S = (nI (tN (rdF S).2.1), layS S) := if_pos hcd
        rw [e]
        exact ⟨fw, ⟨nb, na, q1, q2, hB2, txp_fr ct f12, s5, ⟨l1, fun i hi => absurd hi (Nat.not_lt_zero i)⟩, ⟨l2, fun i hi => absurd hi (Nat.not_lt_zero i)⟩, ⟨l3, fun i hi => absurd hi (Nat.not_lt_zero i)⟩, nt⟩, rfl⟩
      · have e : A_lay S = (-2, S) := if_neg hcd
        rw [e]
        obtain ⟨z1, z2⟩ := CW_q hB hI hok f
        exact ⟨z1, z2, rfl⟩⟩)
set_option maxHeartbeats 4000000 in
theorem c_X8_loom {r : Ev} {n : Nat} {I : MI} {Q : MQ2} {S : Sy} (hc : CW n I Q S) (hok : okY S) (x y : Int32) : CT r 2 yX8_loom cX8_loom (3, (some .int)) (0, 0) [.ref (evz r + 0), .int x, .int y] n I Q (ri Q (fun v J => FrW I Q J Q ∧ CW n J Q (A_loom S x y).2 ∧ v = (A_loom S x y).1)) := by
  refine ct_of (lv := [some (.ref (evz r + 0)), some (.int x), some (.int y)]) (by decide +kernel) rfl rfl rfl ?_
  obtain ⟨na, nb, p1, p2, hB, hI⟩ := id hc
  obtain ⟨o0, oT, oR, oN, oL, oA, oK, oG, oW, oX, oD, hnn, u0, u1, u2, u3, u4, u5, u6, u7, u8, u9⟩ := id hB
  have oT1 := oT.1
  have oN1 := oN.1
  have oL1 := oL.1
  have oA1 := oA.1
  have oK1 := oK.1
  have oG1 := oG.1
  have oW1 := oW.1
  have oX1 := oX.1
  have oD1 := oD.1
  have oR1 := oR.1
  obtain ⟨ct, cs, ca, ck, cg, cn⟩ := id hI
  obtain ⟨y1, y2, y3, y4, y5, y6, y7, y8, y9, y10, y11, y12⟩ := id hok
  have hn6 := y3.1
  have hsh : ∀ l, l < tN (yt S) → sH (ys S) l ≤ 1 := fun l hl => (y5.1.1 l hl).2.2
  refine x_aload_0 dX8_loom_0 ?_
  refine x_iload_1 dX8_loom_1 ?_
  refine x_V1i dX8_loom_2 m_X8_107 (c_X8_isNoLoom hB (tN (yt S)) x cs.1.1 y6 hn6) (by assumption) (fun x2 I2 h2 => ?_)
  obtain ⟨rfl, ⟨rfl, h2⟩ | ⟨rfl, h2⟩⟩ := h2
  · refine x_if_neN dX8_loom_5 (by omega) (fun c5 => ?_) (fun c5 => ?_)
    · refine x_iconst (v := -1) dX8_loom_17 rfl ?_
      exact x_iret (st := []) dX8_loom_18 rfl rfl (by first | exact ⟨_, rfl, rfl, by unfold A_loom; rw [onI_n h2]; exact ⟨FrW.rf, hc, rfl⟩⟩ | exact ⟨_, rfl, rfl, by unfold A_loom; rw [onI_y (by omega) (by omega) (by omega), onI_n h11]; exact ⟨FrW.rf, hc, rfl⟩⟩)
    · exfalso; omega
  · obtain ⟨l, l0, l1, rfl⟩ := h2
    have hl : l < tN (yt S) := by omega
    have lm := cs.1.2.2.2 l hl
    have hsl := hsh l hl
    have hDl := (y5.1.1 l hl).2.1
    have hTl := y7 l hl
    refine x_if_neN dX8_loom_5 (by omega) (fun c5 => ?_) (fun c5 => ?_)
    · exfalso; omega
    · refine x_iload_2 dX8_loom_8 ?_
      refine x_const (c := 0) dX8_loom_9 rfl ?_
      refine x_const (c := 5) dX8_loom_10 rfl ?_
      refine x_S3i dX8_loom_11 m_X8_91 (c_isOutB y 0 5 (by omega) (by omega)) (fun x11 I11 h11 => ?_)
      obtain ⟨rfl, ⟨rfl, h11⟩ | ⟨rfl, h11⟩⟩ := h11
      · refine x_if_eqN dX8_loom_14 (by omega) (fun c14 => ?_) (fun c14 => ?_)
        · exfalso; omega
        · refine x_iconst (v := -1) dX8_loom_17 rfl ?_
          exact x_iret (st := []) dX8_loom_18 rfl rfl (by first | exact ⟨_, rfl, rfl, by unfold A_loom; rw [onI_n h2]; exact ⟨FrW.rf, hc, rfl⟩⟩ | exact ⟨_, rfl, rfl, by unfold A_loom; rw [onI_y (by omega) (by omega) (by omega), onI_n h11]; exact ⟨FrW.rf, hc, rfl⟩⟩)
      · obtain ⟨w, w0, w1, rfl⟩ := h11
        refine x_if_eqN dX8_loom_14 (by omega) (fun c14 => ?_) (fun c14 => ?_)
        · refine x_aload_0 dX8_loom_19 ?_
          refine x_getr dX8_loom_20 f_X8_26 (by assumption) u2 ?_
          refine x_iload_1 dX8_loom_23 ?_
          refine x_V1o dX8_loom_24 m_X8_111 (c_X5_pick 5 l oN (by omega)) (by assumption) ?_
          refine x_iload_2 dX8_loom_27 ?_
          refine x_V1i dX8_loom_28 m_X8_115 (c_X0_tell (5 + 3 + l) w (sH (ys S) l) (oN.2.2.2.1 l (by omega)) (by omega) lm.2.2.2.2.2 hsl) (oN.2.2.2.1 l (by omega)) (fun x28 I28 h28 => ?_)
          obtain ⟨rfl, rfl⟩ := h28
          exact x_iret (st := []) dX8_loom_31 rfl rfl (⟨_, rfl, rfl, by unfold A_loom; rw [onI_y (by omega) (by omega) (by omega), onI_y (by omega) (by omega) (by omega)]; exact ⟨FrW.rf, hc, tell_eq lm (by omega)⟩⟩)
        · exfalso; omega
set_option maxHeartbeats 4000000 in
theorem c_X8_hour {r : Ev} {n : Nat} {I : MI} {Q : MQ2} {S : Sy} (hc : CW n I Q S) (hok : okY S) (x y : Int32) : CT r 3 yX8_hour cX8_hour (3, (some .int)) (0, 0) [.ref (evz r + 0), .int x, .int y] n I Q (ri Q (fun v J => FrW I Q J Q ∧ CW n J Q (A_hour S x y).2 ∧ v = (A_hour S x y).1)) := by
  refine ct_of (lv := [some (.ref (evz r + 0)), some (.int x), some (.int y)]) (by decide +kernel) rfl rfl rfl ?_
  obtain ⟨na, nb, p1, p2, hB, hI⟩ := id hc
  obtain ⟨o0, oT, oR, oN, oL, oA, oK, oG, oW, oX, oD, hnn, u0, u1, u2, u3, u4, u5, u6, u7, u8, u9⟩ := id hB
  have oT1 := oT.1
  have oN1 := oN.1
  have oL1 := oL.1
  have oA1 := oA.1
  have oK1 := oK.1
  have oG1 := oG.1
  have oW1 := oW.1
  have oX1 := oX.1
  have oD1 := oD.1
  have oR1 := oR.1
  obtain ⟨ct, cs, ca, ck, cg, cn⟩ := id hI
  obtain ⟨y1, y2, y3, y4, y5, y6, y7, y8, y9, y10, y11, y12⟩ := id hok
  have hn6 := y3.1
  have hsh : ∀ l, l < tN (yt S) → sH (ys S) l ≤ 1 := fun l hl => (y5.1.1 l hl).2.2
  refine x_iload_1 dX8_hour_0 ?_
  refine x_const (c := 0) dX8_hour_1 rfl ?_
  refine x_bip (c := 99) dX8_hour_2 (by decide) ?_
  refine x_S3i dX8_hour_4 m_X8_91 (c_isOutB x 0 99 (by omega) (by omega)) (fun x4 I4 h4 => ?_)
  obtain ⟨rfl, ⟨rfl, h4⟩ | ⟨rfl, h4⟩⟩ := h4
  · refine x_if_neN dX8_hour_7 (by omega) (fun c7 => ?_) (fun c7 => ?_)
    · refine x_iconst (v := -1) dX8_hour_19 rfl ?_
      exact x_iret (st := []) dX8_hour_20 rfl rfl (by first | exact ⟨_, rfl, rfl, by unfold A_hour; rw [onI_n h4]; exact ⟨FrW.rf, hc, rfl⟩⟩ | exact ⟨_, rfl, rfl, by unfold A_hour; rw [onI_y (by omega) (by omega) (by omega), onI_n h13]; exact ⟨FrW.rf, hc, rfl⟩⟩)
    · exfalso; omega
  · obtain ⟨h, h0, h1, rfl⟩ := h4
    refine x_if_neN dX8_hour_7 (by omega) (fun c7 => ?_) (fun c7 => ?_)
    · exfalso; omega
    · refine x_iload_2 dX8_hour_10 ?_
      refine x_const (c := 0) dX8_hour_11 rfl ?_
      refine x_const (c := 1) dX8_hour_12 rfl ?_
      refine x_S3i dX8_hour_13 m_X8_91 (c_isOutB y 0 1 (by omega) (by omega)) (fun x13 I13 h13 => ?_)
      obtain ⟨rfl, ⟨rfl, h13⟩ | ⟨rfl, h13⟩⟩ := h13
      · refine x_if_eqN dX8_hour_16 (by omega) (fun c16 => ?_) (fun c16 => ?_)
        · exfalso; omega
        · refine x_iconst (v := -1) dX8_hour_19 rfl ?_
          exact x_iret (st := []) dX8_hour_20 rfl rfl (by first | exact ⟨_, rfl, rfl, by unfold A_hour; rw [onI_n h4]; exact ⟨FrW.rf, hc, rfl⟩⟩ | exact ⟨_, rfl, rfl, by unfold A_hour; rw [onI_y (by omega) (by omega) (by omega), onI_n h13]; exact ⟨FrW.rf, hc, rfl⟩⟩)
      · obtain ⟨w, w0, w1, rfl⟩ := h13
        refine x_if_eqN dX8_hour_16 (by omega) (fun c16 => ?_) (fun c16 => ?_)
        · refine x_iload_2 dX8_hour_21 ?_
          refine x_if_neN dX8_hour_22 (by omega) (fun c22 => ?_) (fun c22 => ?_)
          · refine x_aload_0 dX8_hour_36 ?_
            refine x_getr dX8_hour_37 f_X8_62 (by assumption) u8 ?_
            refine x_iload_1 dX8_hour_40 ?_
            refine x_V1i dX8_hour_41 m_X8_124 (c_X1_mistOf na (yg S) oX cn y4.1 h (by omega)) (by assumption) (fun x41 I41 h41 => ?_)
            obtain ⟨rfl, rfl⟩ := h41
            exact x_iret (st := []) dX8_hour_44 rfl rfl (⟨_, rfl, rfl, by unfold A_hour; rw [onI_y (by omega) (by omega) (by omega), onI_y (by omega) (by omega) (by omega)]; exact ⟨FrW.rf, hc, by first | rw [if_pos (by omega)] | rw [if_neg (by omega)]⟩⟩)
          · refine x_aload_0 dX8_hour_25 ?_
            refine x_getr dX8_hour_26 f_X8_62 (by assumption) u8 ?_
            refine x_iload_1 dX8_hour_29 ?_
            refine x_V1i dX8_hour_30 m_X8_121 (c_X1_coldOf na (yg S) oX cn y4.1 h (by omega)) (by assumption) (fun x30 I30 h30 => ?_)
            obtain ⟨rfl, rfl⟩ := h30
            refine x_goto dX8_hour_33 ?_
            exact x_iret (st := []) dX8_hour_44 rfl rfl (⟨_, rfl, rfl, by unfold A_hour; rw [onI_y (by omega) (by omega) (by omega), onI_y (by omega) (by omega) (by omega)]; exact ⟨FrW.rf, hc, by first | rw [if_pos (by omega)] | rw [if_neg (by omega)]⟩⟩)
        · exfalso; omega
set_option maxHeartbeats 4000000 in
theorem c_X8_at {r : Ev} {n : Nat} {I : MI} {Q : MQ2} {S : Sy} (hc : CW n I Q S) (hok : okY S) (x : Int32) : CT r 2 yX8_at cX8_at (2, (some .int)) (0, 0) [.ref (evz r + 0), .int x] n I Q (ri Q (fun v J => FrW I Q J Q ∧ CW n J Q (A_at S x).2 ∧ v = (A_at S x).1)) := by
  refine ct_of (lv := [some (.ref (evz r + 0)), some (.int x)]) (by decide +kernel) rfl rfl rfl ?_
  obtain ⟨na, nb, p1, p2, hB, hI⟩ := id hc
  obtain ⟨o0, oT, oR, oN, oL, oA, oK, oG, oW, oX, oD, hnn, u0, u1, u2, u3, u4, u5, u6, u7, u8, u9⟩ := id hB
  have oT1 := oT.1
  have oN1 := oN.1
  have oL1 := oL.1
  have oA1 := oA.1
  have oK1 := oK.1
  have oG1 := oG.1
  have oW1 := oW.1
  have oX1 := oX.1
  have oD1 := oD.1
  have oR1 := oR.1
  obtain ⟨ct, cs, ca, ck, cg, cn⟩ := id hI
  obtain ⟨y1, y2, y3, y4, y5, y6, y7, y8, y9, y10, y11, y12⟩ := id hok
  have hn6 := y3.1
  have hsh : ∀ l, l < tN (yt S) → sH (ys S) l ≤ 1 := fun l hl => (y5.1.1 l hl).2.2
  refine x_iload_1 dX8_at_0 ?_
  refine x_S1i dX8_at_1 m_X8_127 (c_noPlB x) (fun x1 I1 h1 => ?_)
  obtain ⟨rfl, ⟨rfl, h1⟩ | ⟨rfl, h1⟩⟩ := h1
  · refine x_if_eqN dX8_at_4 (by omega) (fun c4 => ?_) (fun c4 => ?_)
    · exfalso; omega
    · refine x_iconst (v := -1) dX8_at_7 rfl ?_
      exact x_iret (st := []) dX8_at_8 rfl rfl (⟨_, rfl, rfl, by unfold A_at; rw [onI_n h1]; exact ⟨FrW.rf, hc, rfl⟩⟩)
  · obtain ⟨p, p0, p1, rfl⟩ := h1
    refine x_if_eqN dX8_at_4 (by omega) (fun c4 => ?_) (fun c4 => ?_)
    · refine x_aload_0 dX8_at_9 ?_
      refine x_getr dX8_at_10 f_X8_26 (by assumption) u2 ?_
      refine x_iload_1 dX8_at_13 ?_
      refine x_V1i dX8_at_14 m_X8_130 (c_X5_loomOn 5 (yt S) (ys S) oN cs.1 hn6 p (by omega) (fun l hl => by have := (y5.1.1 l hl).1; omega)) (by assumption) (fun x14 I14 h14 => ?_)
      obtain ⟨rfl, ⟨l, hl, he, rfl⟩ | ⟨rfl, hno⟩⟩ := h14
      · exact x_iret (st := []) dX8_at_17 rfl rfl (by first | exact ⟨_, rfl, rfl, by unfold A_at; rw [onI_y (by omega) (by omega) (by omega), atF_y y5.1.2 hl he]; exact ⟨FrW.rf, hc, rfl⟩⟩ | exact ⟨_, rfl, rfl, by unfold A_at; rw [onI_y (by omega) (by omega) (by omega), atF_n hno]; exact ⟨FrW.rf, hc, rfl⟩⟩)
      · exact x_iret (st := []) dX8_at_17 rfl rfl (by first | exact ⟨_, rfl, rfl, by unfold A_at; rw [onI_y (by omega) (by omega) (by omega), atF_y y5.1.2 hl he]; exact ⟨FrW.rf, hc, rfl⟩⟩ | exact ⟨_, rfl, rfl, by unfold A_at; rw [onI_y (by omega) (by omega) (by omega), atF_n hno]; exact ⟨FrW.rf, hc, rfl⟩⟩)
    · exfalso; omega
set_option maxHeartbeats 4000000 in
theorem c_X8_pass {r : Ev} {n : Nat} {I : MI} {Q : MQ2} {S : Sy} (hc : CW n I Q S) (hok : okY S) (x : Int32) : CT r 5 yX8_pass cX8_pass (2, (some .int)) (0, 0) [.ref (evz r + 0), .int x] n I Q (RI (fun v J Q' => FrW I Q J Q' ∧ CW n J Q' (A_pass S x).2 ∧ v = (A_pass S x).1)) := by
  refine ct_of (lv := [some (.ref (evz r + 0)), some (.int x)]) (by decide +kernel) rfl rfl rfl ?_
  obtain ⟨na, nb, p1, p2, hB, hI⟩ := id hc
  obtain ⟨o0, oT, oR, oN, oL, oA, oK, oG, oW, oX, oD, hnn, u0, u1, u2, u3, u4, u5, u6, u7, u8, u9⟩ := id hB
  have oT1 := oT.1
  have oN1 := oN.1
  have oL1 := oL.1
  have oA1 := oA.1
  have oK1 := oK.1
  have oG1 := oG.1
  have oW1 := oW.1
  have oX1 := oX.1
  have oD1 := oD.1
  have oR1 := oR.1
  obtain ⟨ct, cs, ca, ck, cg, cn⟩ := id hI
  obtain ⟨y1, y2, y3, y4, y5, y6, y7, y8, y9, y10, y11, y12⟩ := id hok
  have hn6 := y3.1
  have hsh : ∀ l, l < tN (yt S) → sH (ys S) l ≤ 1 := fun l hl => (y5.1.1 l hl).2.2
  refine x_iload_1 dX8_pass_0 ?_
  refine x_const (c := 1) dX8_pass_1 rfl ?_
  refine x_bip (c := 24) dX8_pass_2 (by decide) ?_
  refine x_S3i dX8_pass_4 m_X8_91 (c_isOutB x 1 24 (by omega) (by omega)) (fun x4 I4 h4 => ?_)
  obtain ⟨rfl, ⟨rfl, h4⟩ | ⟨rfl, h4⟩⟩ := h4
  · refine x_if_eqN dX8_pass_7 (by omega) (fun c7 => ?_) (fun c7 => ?_)
    · exfalso; omega
    · refine x_iconst (v := -1) dX8_pass_10 rfl ?_
      exact x_iret (st := []) dX8_pass_11 rfl rfl (⟨_, rfl, by unfold A_pass; rw [onI_n h4]; exact ⟨FrW.rf, hc, rfl⟩⟩)
  · obtain ⟨n1, n10, n11, rfl⟩ := h4
    have hR := y5.2
    refine x_if_eqN dX8_pass_7 (by omega) (fun c7 => ?_) (fun c7 => ?_)
    · refine x_aload_0 dX8_pass_12 ?_
      refine x_getr dX8_pass_13 f_X8_26 (by assumption) u2 ?_
      refine x_getV dX8_pass_16 f_X8_133 (by assumption) cs.1.2.1 ?_
      refine x_iload_1 dX8_pass_19 ?_
      refine x_iaddN dX8_pass_20 ?_
      refine x_bip (c := 99) dX8_pass_21 (by decide) ?_
      refine x_icmp_leN dX8_pass_23 (by omega) (by omega) (fun c23 => ?_) (fun c23 => ?_)
      · refine x_aload_0 dX8_pass_29 ?_
        refine x_getr dX8_pass_30 f_X8_38 (by assumption) u4 ?_
        refine x_aload_0 dX8_pass_33 ?_
        refine x_getr dX8_pass_34 f_X8_26 (by assumption) u2 ?_
        refine x_V1W dX8_pass_37 m_X8_136 (c_X2_put 23 8 p1 (yan S) (yav S) oA y8 (by omega) (by omega) 5 (yt S) (ys S) ca oN cs (by omega) hn6 hsh) (by assumption) (fun I37 Q37 h37 => ?_)
        obtain ⟨w1, w2, pr, wP, wp⟩ := h37
        have hB2 := ((hB.put 24 w1 (Or.inl rfl)).1 rfl wP)
        obtain ⟨o0, oT, oR, oN, oL, oA, oK, oG, oW, oX, oD, hnn, u0, u1, u2, u3, u4, u5, u6, u7, u8, u9⟩ := id hB2
        have oT1 := oT.1
        have oN1 := oN.1
        have oL1 := oL.1
        have oA1 := oA.1
        have oK1 := oK.1
        have oG1 := oG.1
        have oW1 := oW.1
        have oX1 := oX.1
        have oD1 := oD.1
        have oR1 := oR.1
        have cs2 := cs.fr hn6 (fun x j z1 z2 => w2 x j (by unfold FtP; omega))
        have cn2 := ntp_fr cn (fun x j hx => w2 x j (by unfold FtP; omega))
        refine x_aload_0 dX8_pass_40 ?_
        refine x_getr dX8_pass_41 f_X8_62 (by assumption) u8 ?_
        refine x_aload_0 dX8_pass_44 ?_
        refine x_getr dX8_pass_45 f_X8_26 (by assumption) u2 ?_
        refine x_iload_1 dX8_pass_48 ?_
        refine x_V2v dX8_pass_49 m_X8_140 (c_X1_goBy na 5 (yt S) (ys S) (yg S) oX cn2 oN cs2 y3 y5.1 (by omega) (by have := y4.2.2.1; omega) y4 n1 (by have := y5.2; omega)) (by assumption) (fun I49 h49 => ?_)
        obtain ⟨gf49, gs49, gr49⟩ := h49
        refine x_aload_0 dX8_pass_52 ?_
        refine x_getr dX8_pass_53 f_X8_26 (by assumption) u2 ?_
        refine x_V0i dX8_pass_56 m_X8_144 (c_X5_allDrops 5 (yt S) (hrsS (yt S) (yg S) n1 (ys S)) oN gs49.1 hn6) (by assumption) (fun x56 I56 h56 => ?_)
        obtain ⟨rfl, rfl⟩ := h56
        exact x_iret (st := []) dX8_pass_59 rfl rfl (⟨_, rfl, by unfold A_pass; rw [onI_y (by omega) (by omega) (by omega), if_neg (by omega)]; obtain ⟨z1, z2⟩ := CW_act hB hI hn6 y10 w1 w2 wP wp gf49 gs49; exact ⟨z1, z2, rfl⟩⟩)
      · refine x_bipush (v := -2) dX8_pass_26 (by decide) ?_
        exact x_iret (st := []) dX8_pass_28 rfl rfl (⟨_, rfl, by unfold A_pass; rw [onI_y (by omega) (by omega) (by omega), if_pos (by omega)]; exact ⟨FrW.rf, hc, rfl⟩⟩)
    · exfalso; omega
set_option maxHeartbeats 4000000 in
theorem c_X8_shade {r : Ev} {n : Nat} {I : MI} {Q : MQ2} {S : Sy} (hc : CW n I Q S) (hok : okY S) (x : Int32) : CT r 4 yX8_shade cX8_shade (2, (some .int)) (0, 0) [.ref (evz r + 0), .int x] n I Q (RI (fun v J Q' => FrW I Q J Q' ∧ CW n J Q' (A_shade S x).2 ∧ v = (A_shade S x).1)) := by
  refine ct_of (lv := [some (.ref (evz r + 0)), some (.int x)]) (by decide +kernel) rfl rfl rfl ?_
  obtain ⟨na, nb, p1, p2, hB, hI⟩ := id hc
  obtain ⟨o0, oT, oR, oN, oL, oA, oK, oG, oW, oX, oD, hnn, u0, u1, u2, u3, u4, u5, u6, u7, u8, u9⟩ := id hB
  have oT1 := oT.1
  have oN1 := oN.1
  have oL1 := oL.1
  have oA1 := oA.1
  have oK1 := oK.1
  have oG1 := oG.1
  have oW1 := oW.1
  have oX1 := oX.1
  have oD1 := oD.1
  have oR1 := oR.1
  obtain ⟨ct, cs, ca, ck, cg, cn⟩ := id hI
  obtain ⟨y1, y2, y3, y4, y5, y6, y7, y8, y9, y10, y11, y12⟩ := id hok
  have hn6 := y3.1
  have hsh : ∀ l, l < tN (yt S) → sH (ys S) l ≤ 1 := fun l hl => (y5.1.1 l hl).2.2
  refine x_aload_0 dX8_shade_0 ?_
  refine x_iload_1 dX8_shade_1 ?_
  refine x_V1i dX8_shade_2 m_X8_107 (c_X8_isNoLoom hB (tN (yt S)) x cs.1.1 y6 hn6) (by assumption) (fun x2 I2 h2 => ?_)
  obtain ⟨rfl, ⟨rfl, h2⟩ | ⟨rfl, h2⟩⟩ := h2
  · refine x_if_eqN dX8_shade_5 (by omega) (fun c5 => ?_) (fun c5 => ?_)
    · exfalso; omega
    · refine x_iconst (v := -1) dX8_shade_8 rfl ?_
      exact x_iret (st := []) dX8_shade_9 rfl rfl (⟨_, rfl, by unfold A_shade; rw [onI_n h2]; exact ⟨FrW.rf, hc, rfl⟩⟩)
  · obtain ⟨l, l0, l1, rfl⟩ := h2
    have hl : l < tN (yt S) := by omega
    have lm := cs.1.2.2.2 l hl
    have hsl := hsh l hl
    have hDl := (y5.1.1 l hl).2.1
    have hTl := y7 l hl
    refine x_if_eqN dX8_shade_5 (by omega) (fun c5 => ?_) (fun c5 => ?_)
    · refine x_aload_0 dX8_shade_10 ?_
      refine x_getr dX8_shade_11 f_X8_38 (by assumption) u4 ?_
      refine x_aload_0 dX8_shade_14 ?_
      refine x_getr dX8_shade_15 f_X8_26 (by assumption) u2 ?_
      refine x_V1W dX8_shade_18 m_X8_136 (c_X2_put 23 8 p1 (yan S) (yav S) oA y8 (by omega) (by omega) 5 (yt S) (ys S) ca oN cs (by omega) hn6 hsh) (by assumption) (fun I18 Q18 h18 => ?_)
      obtain ⟨w1, w2, pr, wP, wp⟩ := h18
      have hB2 := ((hB.put 24 w1 (Or.inl rfl)).1 rfl wP)
      obtain ⟨o0, oT, oR, oN, oL, oA, oK, oG, oW, oX, oD, hnn, u0, u1, u2, u3, u4, u5, u6, u7, u8, u9⟩ := id hB2
      have oT1 := oT.1
      have oN1 := oN.1
      have oL1 := oL.1
      have oA1 := oA.1
      have oK1 := oK.1
      have oG1 := oG.1
      have oW1 := oW.1
      have oX1 := oX.1
      have oD1 := oD.1
      have oR1 := oR.1
      have cs2 := cs.fr hn6 (fun x j z1 z2 => w2 x j (by unfold FtP; omega))
      have cn2 := ntp_fr cn (fun x j hx => w2 x j (by unfold FtP; omega))
      have lm2 := cs2.1.2.2.2 l hl
      refine x_aload_0 dX8_shade_21 ?_
      refine x_getr dX8_shade_22 f_X8_26 (by assumption) u2 ?_
      refine x_iload_1 dX8_shade_25 ?_
      refine x_V1o dX8_shade_26 m_X8_111 (c_X5_pick 5 l oN (by omega)) (by assumption) ?_
      refine x_V0v dX8_shade_29 m_X8_147 (c_X0_turnShade (5 + 3 + l) (sH (ys S) l) (oN.2.2.2.1 l (by omega)) lm2.2.2.2.2.2 hsl) (oN.2.2.2.1 l (by omega)) (fun I29 h29 => ?_)
      obtain ⟨f3, e3⟩ := h29
      refine x_aload_0 dX8_shade_32 ?_
      refine x_getr dX8_shade_33 f_X8_26 (by assumption) u2 ?_
      refine x_iload_1 dX8_shade_36 ?_
      refine x_V1o dX8_shade_37 m_X8_111 (c_X5_pick 5 l oN (by omega)) (by assumption) ?_
      refine x_getV dX8_shade_40 f_X8_150 (oN.2.2.2.1 l (by omega)) e3 ?_
      refine x_if_eqN dX8_shade_43 (by omega) (fun c43 => ?_) (fun c43 => ?_)
      · refine x_const (c := 0) dX8_shade_50 rfl ?_
        exact x_iret (st := []) dX8_shade_51 rfl rfl (⟨_, rfl, by unfold A_shade; rw [onI_y (by omega) (by omega) (by omega)]; obtain ⟨z1, z2⟩ := CW_act hB hI hn6 y10 w1 w2 wP wp (fun x j hx => f3 x j (by unfold FtS at hx; omega)) (SS_H cs2 hl f3 e3); exact ⟨z1, z2, by congr 1; omega⟩⟩)
      · refine x_const (c := 1) dX8_shade_46 rfl ?_
        refine x_goto dX8_shade_47 ?_
        exact x_iret (st := []) dX8_shade_51 rfl rfl (⟨_, rfl, by unfold A_shade; rw [onI_y (by omega) (by omega) (by omega)]; obtain ⟨z1, z2⟩ := CW_act hB hI hn6 y10 w1 w2 wP wp (fun x j hx => f3 x j (by unfold FtS at hx; omega)) (SS_H cs2 hl f3 e3); exact ⟨z1, z2, by congr 1; omega⟩⟩)
    · exfalso; omega
set_option maxHeartbeats 4000000 in
theorem c_X8_cow {r : Ev} {n : Nat} {I : MI} {Q : MQ2} {S : Sy} (hc : CW n I Q S) (hok : okY S) (x : Int32) : CT r 4 yX8_cow cX8_cow (2, (some .int)) (0, 0) [.ref (evz r + 0), .int x] n I Q (RI (fun v J Q' => FrW I Q J Q' ∧ CW n J Q' (A_cow S x).2 ∧ v = (A_cow S x).1)) := by
  refine ct_of (lv := [some (.ref (evz r + 0)), some (.int x)]) (by decide +kernel) rfl rfl rfl ?_
  obtain ⟨na, nb, p1, p2, hB, hI⟩ := id hc
  obtain ⟨o0, oT, oR, oN, oL, oA, oK, oG, oW, oX, oD, hnn, u0, u1, u2, u3, u4, u5, u6, u7, u8, u9⟩ := id hB
  have oT1 := oT.1
  have oN1 := oN.1
  have oL1 := oL.1
  have oA1 := oA.1
  have oK1 := oK.1
  have oG1 := oG.1
  have oW1 := oW.1
  have oX1 := oX.1
  have oD1 := oD.1
  have oR1 := oR.1
  obtain ⟨ct, cs, ca, ck, cg, cn⟩ := id hI
  obtain ⟨y1, y2, y3, y4, y5, y6, y7, y8, y9, y10, y11, y12⟩ := id hok
  have hn6 := y3.1
  have hsh : ∀ l, l < tN (yt S) → sH (ys S) l ≤ 1 := fun l hl => (y5.1.1 l hl).2.2
  refine x_aload_0 dX8_cow_0 ?_
  refine x_iload_1 dX8_cow_1 ?_
  refine x_V1i dX8_cow_2 m_X8_107 (c_X8_isNoLoom hB (tN (yt S)) x cs.1.1 y6 hn6) (by assumption) (fun x2 I2 h2 => ?_)
  obtain ⟨rfl, ⟨rfl, h2⟩ | ⟨rfl, h2⟩⟩ := h2
  · refine x_if_eqN dX8_cow_5 (by omega) (fun c5 => ?_) (fun c5 => ?_)
    · exfalso; omega
    · refine x_iconst (v := -1) dX8_cow_8 rfl ?_
      exact x_iret (st := []) dX8_cow_9 rfl rfl (⟨_, rfl, by unfold A_cow; rw [onI_n h2]; exact ⟨FrW.rf, hc, rfl⟩⟩)
  · obtain ⟨l, l0, l1, rfl⟩ := h2
    have hl : l < tN (yt S) := by omega
    have lm := cs.1.2.2.2 l hl
    have hsl := hsh l hl
    have hDl := (y5.1.1 l hl).2.1
    have hTl := y7 l hl
    refine x_if_eqN dX8_cow_5 (by omega) (fun c5 => ?_) (fun c5 => ?_)
    · refine x_aload_0 dX8_cow_10 ?_
      refine x_getr dX8_cow_11 f_X8_26 (by assumption) u2 ?_
      refine x_iload_1 dX8_cow_14 ?_
      refine x_V1o dX8_cow_15 m_X8_111 (c_X5_pick 5 l oN (by omega)) (by assumption) ?_
      refine x_getV dX8_cow_18 f_X8_154 (oN.2.2.2.1 l (by omega)) lm.2.2.2.1 ?_
      refine x_if_neN dX8_cow_21 (by omega) (fun c21 => ?_) (fun c21 => ?_)
      · refine x_aload_0 dX8_cow_27 ?_
        refine x_getr dX8_cow_28 f_X8_38 (by assumption) u4 ?_
        refine x_aload_0 dX8_cow_31 ?_
        refine x_getr dX8_cow_32 f_X8_26 (by assumption) u2 ?_
        refine x_V1W dX8_cow_35 m_X8_136 (c_X2_put 23 8 p1 (yan S) (yav S) oA y8 (by omega) (by omega) 5 (yt S) (ys S) ca oN cs (by omega) hn6 hsh) (by assumption) (fun I35 Q35 h35 => ?_)
        obtain ⟨w1, w2, pr, wP, wp⟩ := h35
        have hB2 := ((hB.put 24 w1 (Or.inl rfl)).1 rfl wP)
        obtain ⟨o0, oT, oR, oN, oL, oA, oK, oG, oW, oX, oD, hnn, u0, u1, u2, u3, u4, u5, u6, u7, u8, u9⟩ := id hB2
        have oT1 := oT.1
        have oN1 := oN.1
        have oL1 := oL.1
        have oA1 := oA.1
        have oK1 := oK.1
        have oG1 := oG.1
        have oW1 := oW.1
        have oX1 := oX.1
        have oD1 := oD.1
        have oR1 := oR.1
        have cs2 := cs.fr hn6 (fun x j z1 z2 => w2 x j (by unfold FtP; omega))
        have cn2 := ntp_fr cn (fun x j hx => w2 x j (by unfold FtP; omega))
        have lm2 := cs2.1.2.2.2 l hl
        refine x_aload_0 dX8_cow_38 ?_
        refine x_getr dX8_cow_39 f_X8_26 (by assumption) u2 ?_
        refine x_iload_1 dX8_cow_42 ?_
        refine x_V1o dX8_cow_43 m_X8_111 (c_X5_pick 5 l oN (by omega)) (by assumption) ?_
        refine x_V0v dX8_cow_46 m_X8_157 (c_X0_feelCow (5 + 3 + l) (sD (ys S) l) (oN.2.2.2.1 l (by omega)) lm2.2.2.2.1 (by omega)) (oN.2.2.2.1 l (by omega)) (fun I46 h46 => ?_)
        obtain ⟨f3, e3⟩ := h46
        refine x_aload_0 dX8_cow_49 ?_
        refine x_getr dX8_cow_50 f_X8_26 (by assumption) u2 ?_
        refine x_iload_1 dX8_cow_53 ?_
        refine x_V1o dX8_cow_54 m_X8_111 (c_X5_pick 5 l oN (by omega)) (by assumption) ?_
        refine x_getV dX8_cow_57 f_X8_154 (oN.2.2.2.1 l (by omega)) e3 ?_
        exact x_iret (st := []) dX8_cow_60 rfl rfl (⟨_, rfl, by unfold A_cow; rw [onI_y (by omega) (by omega) (by omega), if_neg (by omega)]; obtain ⟨z1, z2⟩ := CW_act hB hI hn6 y10 w1 w2 wP wp (fun x j hx => f3 x j (by unfold FtS at hx; omega)) (SS_D cs2 hl f3 e3); exact ⟨z1, z2, rfl⟩⟩)
      · refine x_bipush (v := -2) dX8_cow_24 (by decide) ?_
        exact x_iret (st := []) dX8_cow_26 rfl rfl (⟨_, rfl, by unfold A_cow; rw [onI_y (by omega) (by omega) (by omega), if_pos (by omega)]; exact ⟨FrW.rf, hc, rfl⟩⟩)
    · exfalso; omega
set_option maxHeartbeats 4000000 in
theorem c_X8_tears {r : Ev} {n : Nat} {I : MI} {Q : MQ2} {S : Sy} (hc : CW n I Q S) (hok : okY S) (x : Int32) : CT r 4 yX8_tears cX8_tears (2, (some .int)) (0, 0) [.ref (evz r + 0), .int x] n I Q (RI (fun v J Q' => FrW I Q J Q' ∧ CW n J Q' (A_tears S x).2 ∧ v = (A_tears S x).1)) := by
  refine ct_of (lv := [some (.ref (evz r + 0)), some (.int x)]) (by decide +kernel) rfl rfl rfl ?_
  obtain ⟨na, nb, p1, p2, hB, hI⟩ := id hc
  obtain ⟨o0, oT, oR, oN, oL, oA, oK, oG, oW, oX, oD, hnn, u0, u1, u2, u3, u4, u5, u6, u7, u8, u9⟩ := id hB
  have oT1 := oT.1
  have oN1 := oN.1
  have oL1 := oL.1
  have oA1 := oA.1
  have oK1 := oK.1
  have oG1 := oG.1
  have oW1 := oW.1
  have oX1 := oX.1
  have oD1 := oD.1
  have oR1 := oR.1
  obtain ⟨ct, cs, ca, ck, cg, cn⟩ := id hI
  obtain ⟨y1, y2, y3, y4, y5, y6, y7, y8, y9, y10, y11, y12⟩ := id hok
  have hn6 := y3.1
  have hsh : ∀ l, l < tN (yt S) → sH (ys S) l ≤ 1 := fun l hl => (y5.1.1 l hl).2.2
  refine x_aload_0 dX8_tears_0 ?_
  refine x_iload_1 dX8_tears_1 ?_
  refine x_V1i dX8_tears_2 m_X8_107 (c_X8_isNoLoom hB (tN (yt S)) x cs.1.1 y6 hn6) (by assumption) (fun x2 I2 h2 => ?_)
  obtain ⟨rfl, ⟨rfl, h2⟩ | ⟨rfl, h2⟩⟩ := h2
  · refine x_if_eqN dX8_tears_5 (by omega) (fun c5 => ?_) (fun c5 => ?_)
    · exfalso; omega
    · refine x_iconst (v := -1) dX8_tears_8 rfl ?_
      exact x_iret (st := []) dX8_tears_9 rfl rfl (⟨_, rfl, by unfold A_tears; rw [onI_n h2]; exact ⟨FrW.rf, hc, rfl⟩⟩)
  · obtain ⟨l, l0, l1, rfl⟩ := h2
    have hl : l < tN (yt S) := by omega
    have lm := cs.1.2.2.2 l hl
    have hsl := hsh l hl
    have hDl := (y5.1.1 l hl).2.1
    have hTl := y7 l hl
    refine x_if_eqN dX8_tears_5 (by omega) (fun c5 => ?_) (fun c5 => ?_)
    · refine x_aload_0 dX8_tears_10 ?_
      refine x_getr dX8_tears_11 f_X8_26 (by assumption) u2 ?_
      refine x_iload_1 dX8_tears_14 ?_
      refine x_V1o dX8_tears_15 m_X8_111 (c_X5_pick 5 l oN (by omega)) (by assumption) ?_
      refine x_getV dX8_tears_18 f_X8_154 (oN.2.2.2.1 l (by omega)) lm.2.2.2.1 ?_
      refine x_aload_0 dX8_tears_21 ?_
      refine x_getr dX8_tears_22 f_X8_26 (by assumption) u2 ?_
      refine x_iload_1 dX8_tears_25 ?_
      refine x_V1o dX8_tears_26 m_X8_111 (c_X5_pick 5 l oN (by omega)) (by assumption) ?_
      refine x_V0i dX8_tears_29 m_X8_160 (c_X0_holds (5 + 3 + l) (tT (yt S) l) (oN.2.2.2.1 l (by omega)) lm.2.2.1) (oN.2.2.2.1 l (by omega)) (fun x29 I29 h29 => ?_)
      obtain ⟨rfl, rfl⟩ := h29
      refine x_icmp_ltN dX8_tears_32 (by omega) (by omega) (fun c32 => ?_) (fun c32 => ?_)
      · refine x_aload_0 dX8_tears_38 ?_
        refine x_getr dX8_tears_39 f_X8_38 (by assumption) u4 ?_
        refine x_aload_0 dX8_tears_42 ?_
        refine x_getr dX8_tears_43 f_X8_26 (by assumption) u2 ?_
        refine x_V1W dX8_tears_46 m_X8_136 (c_X2_put 23 8 p1 (yan S) (yav S) oA y8 (by omega) (by omega) 5 (yt S) (ys S) ca oN cs (by omega) hn6 hsh) (by assumption) (fun I46 Q46 h46 => ?_)
        obtain ⟨w1, w2, pr, wP, wp⟩ := h46
        have hB2 := ((hB.put 24 w1 (Or.inl rfl)).1 rfl wP)
        obtain ⟨o0, oT, oR, oN, oL, oA, oK, oG, oW, oX, oD, hnn, u0, u1, u2, u3, u4, u5, u6, u7, u8, u9⟩ := id hB2
        have oT1 := oT.1
        have oN1 := oN.1
        have oL1 := oL.1
        have oA1 := oA.1
        have oK1 := oK.1
        have oG1 := oG.1
        have oW1 := oW.1
        have oX1 := oX.1
        have oD1 := oD.1
        have oR1 := oR.1
        have cs2 := cs.fr hn6 (fun x j z1 z2 => w2 x j (by unfold FtP; omega))
        have cn2 := ntp_fr cn (fun x j hx => w2 x j (by unfold FtP; omega))
        have lm2 := cs2.1.2.2.2 l hl
        refine x_aload_0 dX8_tears_49 ?_
        refine x_getr dX8_tears_50 f_X8_26 (by assumption) u2 ?_
        refine x_iload_1 dX8_tears_53 ?_
        refine x_V1o dX8_tears_54 m_X8_111 (c_X5_pick 5 l oN (by omega)) (by assumption) ?_
        refine x_V0v dX8_tears_57 m_X8_163 (c_X0_takeTears (5 + 3 + l) (tT (yt S) l) (sD (ys S) l) (oN.2.2.2.1 l (by omega)) lm2.2.2.1 lm2.2.2.2.1 (by omega) (by omega)) (oN.2.2.2.1 l (by omega)) (fun I57 h57 => ?_)
        obtain ⟨f3, e3⟩ := h57
        refine x_aload_0 dX8_tears_60 ?_
        refine x_getr dX8_tears_61 f_X8_26 (by assumption) u2 ?_
        refine x_iload_1 dX8_tears_64 ?_
        refine x_V1o dX8_tears_65 m_X8_111 (c_X5_pick 5 l oN (by omega)) (by assumption) ?_
        refine x_getV dX8_tears_68 f_X8_154 (oN.2.2.2.1 l (by omega)) e3 ?_
        exact x_iret (st := []) dX8_tears_71 rfl rfl (⟨_, rfl, by unfold A_tears; rw [onI_y (by omega) (by omega) (by omega), if_neg (by omega)]; obtain ⟨z1, z2⟩ := CW_act hB hI hn6 y10 w1 w2 wP wp (fun x j hx => f3 x j (by unfold FtS at hx; omega)) (SS_D cs2 hl f3 e3); exact ⟨z1, z2, rfl⟩⟩)
      · refine x_bipush (v := -2) dX8_tears_35 (by decide) ?_
        exact x_iret (st := []) dX8_tears_37 rfl rfl (⟨_, rfl, by unfold A_tears; rw [onI_y (by omega) (by omega) (by omega), if_pos (by omega)]; exact ⟨FrW.rf, hc, rfl⟩⟩)
    · exfalso; omega
set_option maxHeartbeats 4000000 in
theorem c_X8_set {r : Ev} {n : Nat} {I : MI} {Q : MQ2} {S : Sy} (hc : CW n I Q S) (hok : okY S) (x y : Int32) : CT r 4 yX8_set cX8_set (4, (some .int)) (0, 0) [.ref (evz r + 0), .int x, .int y] n I Q (RI (fun v J Q' => FrW I Q J Q' ∧ CW n J Q' (A_set S x y).2 ∧ v = (A_set S x y).1)) := by
  refine ct_of (lv := [some (.ref (evz r + 0)), some (.int x), some (.int y), none]) (by decide +kernel) rfl rfl rfl ?_
  obtain ⟨na, nb, p1, p2, hB, hI⟩ := id hc
  obtain ⟨o0, oT, oR, oN, oL, oA, oK, oG, oW, oX, oD, hnn, u0, u1, u2, u3, u4, u5, u6, u7, u8, u9⟩ := id hB
  have oT1 := oT.1
  have oN1 := oN.1
  have oL1 := oL.1
  have oA1 := oA.1
  have oK1 := oK.1
  have oG1 := oG.1
  have oW1 := oW.1
  have oX1 := oX.1
  have oD1 := oD.1
  have oR1 := oR.1
  obtain ⟨ct, cs, ca, ck, cg, cn⟩ := id hI
  obtain ⟨y1, y2, y3, y4, y5, y6, y7, y8, y9, y10, y11, y12⟩ := id hok
  have hn6 := y3.1
  have hsh : ∀ l, l < tN (yt S) → sH (ys S) l ≤ 1 := fun l hl => (y5.1.1 l hl).2.2
  refine x_aload_0 dX8_set_0 ?_
  refine x_iload_1 dX8_set_1 ?_
  refine x_V1i dX8_set_2 m_X8_107 (c_X8_isNoLoom hB (tN (yt S)) x cs.1.1 y6 hn6) (by assumption) (fun x2 I2 h2 => ?_)
  obtain ⟨rfl, ⟨rfl, h2⟩ | ⟨rfl, h2⟩⟩ := h2
  · refine x_if_neN dX8_set_5 (by omega) (fun c5 => ?_) (fun c5 => ?_)
    · refine x_iconst (v := -1) dX8_set_15 rfl ?_
      exact x_iret (st := []) dX8_set_16 rfl rfl (by first | exact ⟨_, rfl, by unfold A_set; rw [onI_n h2]; exact ⟨FrW.rf, hc, rfl⟩⟩ | exact ⟨_, rfl, by unfold A_set; rw [onI_y (by omega) (by omega) (by omega), onI_n h9]; exact ⟨FrW.rf, hc, rfl⟩⟩)
    · exfalso; omega
  · obtain ⟨l, l0, l1, rfl⟩ := h2
    have hl : l < tN (yt S) := by omega
    have lm := cs.1.2.2.2 l hl
    have hsl := hsh l hl
    have hDl := (y5.1.1 l hl).2.1
    have hTl := y7 l hl
    refine x_if_neN dX8_set_5 (by omega) (fun c5 => ?_) (fun c5 => ?_)
    · exfalso; omega
    · refine x_iload_2 dX8_set_8 ?_
      refine x_S1i dX8_set_9 m_X8_127 (c_noPlB y) (fun x9 I9 h9 => ?_)
      obtain ⟨rfl, ⟨rfl, h9⟩ | ⟨rfl, h9⟩⟩ := h9
      · refine x_if_eqN dX8_set_12 (by omega) (fun c12 => ?_) (fun c12 => ?_)
        · exfalso; omega
        · refine x_iconst (v := -1) dX8_set_15 rfl ?_
          exact x_iret (st := []) dX8_set_16 rfl rfl (by first | exact ⟨_, rfl, by unfold A_set; rw [onI_n h2]; exact ⟨FrW.rf, hc, rfl⟩⟩ | exact ⟨_, rfl, by unfold A_set; rw [onI_y (by omega) (by omega) (by omega), onI_n h9]; exact ⟨FrW.rf, hc, rfl⟩⟩)
      · obtain ⟨pq, pq0, pq1, rfl⟩ := h9
        refine x_if_eqN dX8_set_12 (by omega) (fun c12 => ?_) (fun c12 => ?_)
        · refine x_aload_0 dX8_set_17 ?_
          refine x_getr dX8_set_18 f_X8_26 (by assumption) u2 ?_
          refine x_iload_2 dX8_set_21 ?_
          refine x_V1i dX8_set_22 m_X8_130 (c_X5_loomOn 5 (yt S) (ys S) oN cs.1 hn6 pq (by omega) (fun l hl => by have := (y5.1.1 l hl).1; omega)) (by assumption) (fun x22 I22 h22 => ?_)
          obtain ⟨rfl, ⟨k9, hk9, he, rfl⟩ | ⟨rfl, hno⟩⟩ := h22
          · refine x_bipush (v := -4) dX8_set_25 (by decide) ?_
            refine x_icmp_eq dX8_set_27 (fun c27 => ?_) (fun c27 => ?_)
            · exact absurd c27 (nI_ne4 (by omega))
            · refine x_bipush (v := -2) dX8_set_30 (by decide) ?_
              exact x_iret (st := []) dX8_set_32 rfl rfl (⟨_, rfl, by unfold A_set; rw [onI_y (by omega) (by omega) (by omega), onI_y (by omega) (by omega) (by omega), if_neg (fun z => z k9 hk9 he)]; exact ⟨FrW.rf, hc, rfl⟩⟩)
          · refine x_bipush (v := -4) dX8_set_25 (by decide) ?_
            refine x_icmp_eq dX8_set_27 (fun c27 => ?_) (fun c27 => ?_)
            · refine x_aload_0 dX8_set_33 ?_
              refine x_getr dX8_set_34 f_X8_38 (by assumption) u4 ?_
              refine x_aload_0 dX8_set_37 ?_
              refine x_getr dX8_set_38 f_X8_26 (by assumption) u2 ?_
              refine x_V1W dX8_set_41 m_X8_136 (c_X2_put 23 8 p1 (yan S) (yav S) oA y8 (by omega) (by omega) 5 (yt S) (ys S) ca oN cs (by omega) hn6 hsh) (by assumption) (fun I41 Q41 h41 => ?_)
              obtain ⟨w1, w2, pr, wP, wp⟩ := h41
              have hB2 := ((hB.put 24 w1 (Or.inl rfl)).1 rfl wP)
              obtain ⟨o0, oT, oR, oN, oL, oA, oK, oG, oW, oX, oD, hnn, u0, u1, u2, u3, u4, u5, u6, u7, u8, u9⟩ := id hB2
              have oT1 := oT.1
              have oN1 := oN.1
              have oL1 := oL.1
              have oA1 := oA.1
              have oK1 := oK.1
              have oG1 := oG.1
              have oW1 := oW.1
              have oX1 := oX.1
              have oD1 := oD.1
              have oR1 := oR.1
              have cs2 := cs.fr hn6 (fun x j z1 z2 => w2 x j (by unfold FtP; omega))
              have cn2 := ntp_fr cn (fun x j hx => w2 x j (by unfold FtP; omega))
              have lm2 := cs2.1.2.2.2 l hl
              refine x_aload_0 dX8_set_44 ?_
              refine x_getr dX8_set_45 f_X8_26 (by assumption) u2 ?_
              refine x_iload_1 dX8_set_48 ?_
              refine x_V1o dX8_set_49 m_X8_111 (c_X5_pick 5 l oN (by omega)) (by assumption) ?_
              refine x_getV dX8_set_52 f_X8_166 (oN.2.2.2.1 l (by omega)) lm2.2.1 ?_
              refine x_istore_3 dX8_set_55 rfl rfl ?_
              refine x_aload_0 dX8_set_56 ?_
              refine x_getr dX8_set_57 f_X8_26 (by assumption) u2 ?_
              refine x_iload_1 dX8_set_60 ?_
              refine x_V1o dX8_set_61 m_X8_111 (c_X5_pick 5 l oN (by omega)) (by assumption) ?_
              refine x_iload_2 dX8_set_64 ?_
              refine x_putA dX8_set_65 f_X8_166 (oN.2.2.2.1 l (by omega)) (fun J65 fr65 e65 => ?_)
              refine x_aload_0 dX8_set_68 ?_
              refine x_getr dX8_set_69 f_X8_26 (by assumption) u2 ?_
              refine x_V0v dX8_set_72 m_X8_169 (c_X5_rank 5 (yt S) (putS (ys S) l pq) oN (slp_P cs2.1 hl fr65 e65) hn6 (fun k hk => by have := ((okS_put (l := l) y5.1 (by omega) hno).1 k hk).1; omega) (okS_put (p := pq) y5.1 (by omega) hno).2) (by assumption) (fun I72 h72 => ?_)
              obtain ⟨rf, rk⟩ := h72
              refine x_iload_3 dX8_set_75 ?_
              exact x_iret (st := []) dX8_set_76 rfl rfl (⟨_, rfl, by unfold A_set; rw [onI_y (by omega) (by omega) (by omega), onI_y (by omega) (by omega) (by omega), if_pos hno]; obtain ⟨z1, z2⟩ := CW_act hB hI hn6 y10 w1 w2 wP wp (fun x j hx => (rf x j (by unfold FtS at hx; omega)).trans (fr65 x j (by unfold FtS at hx; omega))) ⟨slp_fr (slp_P cs2.1 hl fr65 e65) hn6 (fun x j _ _ hx => rf x j hx), rk⟩; exact ⟨z1, z2, rfl⟩⟩)
            · exact absurd rfl c27
        · exfalso; omega
