theorem CW_und {n : Nat} {I J : MI} {Q : MQ2} {na nb : Nat} {p1 p2 : Nat → Nat} {S : Sy} (hB : CWB n Q na nb p1 p2) (h : CWI I na p1 p2 S) (hok : okY S) (f : FrS I J (fun x j => (x = 23 ∧ j = 1) ∨ FtS 5 x j)) (e : J 23 1 = nI (yan S - 1)) (hs : SS J 5 (yt S) (yav S (yan S - 1))) : FrW I Q J Q ∧ CW n J Q (undoS S) := by
  obtain ⟨ct, cs, ca, ck, cg, cn⟩ := h
  have hn := hok.2.2.1.1
  obtain ⟨o0, oT, oR, oN, oL, oA, oK, oG, oW, oX, oD, hnn, -⟩ := id hB
  have g : ∀ x j, ¬ (x = 23 ∧ j = 1) → ¬ (5 ≤ x ∧ x < 14) → J x j = I x j := fun x j h1 h2 => f x j (by unfold FtS; omega)
  exact ⟨fun x hx j => ⟨g x j (by omega) (by omega), rfl⟩, na, nb, p1, p2, hB, txp_fr ct (fun x j hx => g x j (by omega) (by omega)), hs, ⟨e, fun i hi => (ca.2 i (Nat.lt_of_lt_of_le hi (Nat.sub_le _ _))).fr hn (fun x j z1 z2 => g x j (by omega) (by omega))⟩, plp_fr ck hok.2.2.2.2.2.2.2.2.2.1 (fun i hi => (oK.2.2.2.1 i hi).1) hn (fun x j z1 z2 => g x j (by omega) (by omega)), sgp_fr cg (fun x j z1 z2 => g x j (by omega) (by omega)), ntp_fr cn (fun x j hx => g x j (by omega) (by omega))⟩
theorem CW_bck {n : Nat} {I J : MI} {Q : MQ2} {na nb : Nat} {p1 p2 : Nat → Nat} {S : Sy} (hB : CWB n Q na nb p1 p2) (h : CWI I na p1 p2 S) (hok : okY S) (f : FrS I J (fun x j => (x = 97 ∧ j = 1) ∨ (x = 23 ∧ j = 1) ∨ FtS 5 x j)) (e : J 97 1 = nI (ykn S - 1)) (e2 : J 23 1 = nI 0) (hs : SS J 5 (yt S) (ykv S (ykn S - 1))) : FrW I Q J Q ∧ CW n J Q (S.1, S.2.1, ykv S (ykn S - 1), (0, yav S), (ykn S - 1, ykv S), S.2.2.2.2.2) := by
  obtain ⟨ct, cs, ca, ck, cg, cn⟩ := h
  have hn := hok.2.2.1.1
  obtain ⟨o0, oT, oR, oN, oL, oA, oK, oG, oW, oX, oD, hnn, -⟩ := id hB
  have g : ∀ x j, ¬ (x = 97 ∧ j = 1) → ¬ (x = 23 ∧ j = 1) → ¬ (5 ≤ x ∧ x < 14) → J x j = I x j := fun x j h1 h2 h3 => f x j (by unfold FtS; omega)
  exact ⟨fun x hx j => ⟨g x j (by omega) (by omega) (by omega), rfl⟩, na, nb, p1, p2, hB, txp_fr ct (fun x j hx => g x j (by omega) (by omega) (by omega)), hs, ⟨e2, fun i hi => absurd hi (Nat.not_lt_zero i)⟩, ⟨e, fun i hi => (ck.2 i (Nat.lt_of_lt_of_le hi (Nat.sub_le _ _))).fr hn (fun x j z1 z2 => g x j (by omega) (by omega) (by omega))⟩, sgp_fr cg (fun x j z1 z2 => g x j (by omega) (by omega) (by omega)), ntp_fr cn (fun x j hx => g x j (by omega) (by omega) (by omega))⟩
theorem CW_sg {n : Nat} {I J : MI} {Q : MQ2} {na nb : Nat} {p1 p2 : Nat → Nat} {S : Sy} {G : Sg} (hB : CWB n Q na nb p1 p2) (h : CWI I na p1 p2 S) (hok : okY S) (f : FrS I J (fun x _ => 117 ≤ x ∧ x < 121)) (hg : sgp J 117 G) : FrW I Q J Q ∧ CW n J Q (S.1, S.2.1, S.2.2.1, S.2.2.2.1, S.2.2.2.2.1, G) := by
  obtain ⟨ct, cs, ca, ck, cg, cn⟩ := h
  have hn := hok.2.2.1.1
  obtain ⟨o0, oT, oR, oN, oL, oA, oK, oG, oW, oX, oD, hnn, -⟩ := id hB
  exact ⟨fun x hx j => ⟨f x j (by omega), rfl⟩, na, nb, p1, p2, hB, txp_fr ct (fun x j hx => f x j (by omega)), cs.fr hn (fun x j z1 z2 => f x j (by omega)), plp_fr ca hok.2.2.2.2.2.2.2.1 (fun i hi => (oA.2.2.2.1 i hi).1) hn (fun x j z1 z2 => f x j (by omega)), plp_fr ck hok.2.2.2.2.2.2.2.2.2.1 (fun i hi => (oK.2.2.2.1 i hi).1) hn (fun x j z1 z2 => f x j (by omega)), hg, ntp_fr cn (fun x j hx => f x j (by omega))⟩
set_option maxHeartbeats 4000000 in
theorem c_X8_undo {r : Ev} {n : Nat} {I : MI} {Q : MQ2} {S : Sy} (hc : CW n I Q S) (hok : okY S) : CT r 4 yX8_undo cX8_undo (1, (some .int)) (0, 0) [.ref (evz r + 0)] n I Q (ri Q (fun v J => FrW I Q J Q ∧ CW n J Q (A_undo S).2 ∧ v = (A_undo S).1)) := by
  refine ct_of (lv := [some (.ref (evz r + 0))]) (by decide +kernel) rfl rfl rfl ?_
  obtain ⟨na, nb, p1, p2, hB, hI⟩ := id hc
  obtain ⟨o0, oT, oR, oN, oL, oA, oK, oG, oW, oX, oD, hnn, u0, u1, u2, u3, u4, u5, u6, u7, u8, u9⟩ := id hB
  have oT1 := oT.1
  have oN1 := oN.1
  have oL1 := oL.1
  have oA1 := oA.1
  have oK1 := oK.1
  have oG1 := oG.1
  have oW1 := oW.1
  have oX1 := oX.1
  have oD1 := oD.1
  have oR1 := oR.1
  obtain ⟨ct, cs, ca, ck, cg, cn⟩ := id hI
  obtain ⟨y1, y2, y3, y4, y5, y6, y7, y8, y9, y10, y11, y12⟩ := id hok
  have hn6 := y3.1
  have hsh : ∀ l, l < tN (yt S) → sH (ys S) l ≤ 1 := fun l hl => (y5.1.1 l hl).2.2
  refine x_aload_0 dX8_undo_0 ?_
  refine x_getr dX8_undo_1 f_X8_38 (by assumption) u4 ?_
  refine x_getV dX8_undo_4 f_X8_172 (by assumption) ca.1 ?_
  refine x_if_neN dX8_undo_7 (by omega) (fun c7 => ?_) (fun c7 => ?_)
  · refine x_aload_0 dX8_undo_13 ?_
    refine x_getr dX8_undo_14 f_X8_38 (by assumption) u4 ?_
    refine x_aload_0 dX8_undo_17 ?_
    refine x_getr dX8_undo_18 f_X8_26 (by assumption) u2 ?_
    refine x_V1v dX8_undo_21 m_X8_173 (c_X2_takeInto 23 8 p1 (yan S) (yav S) oA (by omega) (by omega) (by omega) 5 (yt S) ca oN (by omega) hn6 (fun l hl => ((y9 _ (by omega)).1.1 l hl).2.2)) (by assumption) (fun I21 h21 => ?_)
    obtain ⟨tf, te, ts⟩ := h21
    refine x_aload_0 dX8_undo_24 ?_
    refine x_getr dX8_undo_25 f_X8_38 (by assumption) u4 ?_
    refine x_getV dX8_undo_28 f_X8_172 (by assumption) te ?_
    exact x_iret (st := []) dX8_undo_31 rfl rfl (⟨_, rfl, rfl, by unfold A_undo; rw [if_neg (by omega)]; obtain ⟨z1, z2⟩ := CW_und hB hI hok tf te ts; exact ⟨z1, z2, rfl⟩⟩)
  · refine x_bipush (v := -2) dX8_undo_10 (by decide) ?_
    exact x_iret (st := []) dX8_undo_12 rfl rfl (⟨_, rfl, rfl, by unfold A_undo; rw [if_pos (by omega)]; exact ⟨FrW.rf, hc, rfl⟩⟩)
set_option maxHeartbeats 4000000 in
theorem c_X8_behind {r : Ev} {n : Nat} {I : MI} {Q : MQ2} {S : Sy} (hc : CW n I Q S) (hok : okY S) (x y z : Int32) : CT r 5 yX8_behind cX8_behind (4, (some .int)) (0, 0) [.ref (evz r + 0), .int x, .int y, .int z] n I Q (ri Q (fun v J => FrW I Q J Q ∧ CW n J Q (A_behind S x y z).2 ∧ v = (A_behind S x y z).1)) := by
  refine ct_of (lv := [some (.ref (evz r + 0)), some (.int x), some (.int y), some (.int z)]) (by decide +kernel) rfl rfl rfl ?_
  obtain ⟨na, nb, p1, p2, hB, hI⟩ := id hc
  obtain ⟨o0, oT, oR, oN, oL, oA, oK, oG, oW, oX, oD, hnn, u0, u1, u2, u3, u4, u5, u6, u7, u8, u9⟩ := id hB
  have oT1 := oT.1
  have oN1 := oN.1
  have oL1 := oL.1
  have oA1 := oA.1
  have oK1 := oK.1
  have oG1 := oG.1
  have oW1 := oW.1
  have oX1 := oX.1
  have oD1 := oD.1
  have oR1 := oR.1
  obtain ⟨ct, cs, ca, ck, cg, cn⟩ := id hI
  obtain ⟨y1, y2, y3, y4, y5, y6, y7, y8, y9, y10, y11, y12⟩ := id hok
  have hn6 := y3.1
  have hsh : ∀ l, l < tN (yt S) → sH (ys S) l ≤ 1 := fun l hl => (y5.1.1 l hl).2.2
  refine x_iload_1 dX8_behind_0 ?_
  refine x_const (c := 0) dX8_behind_1 rfl ?_
  refine x_bip (c := 24) dX8_behind_2 (by decide) ?_
  refine x_S3i dX8_behind_4 m_X8_91 (c_isOutB x 0 24 (by omega) (by omega)) (fun x4 I4 h4 => ?_)
  obtain ⟨rfl, ⟨rfl, h4⟩ | ⟨rfl, h4⟩⟩ := h4
  · refine x_if_neN dX8_behind_7 (by omega) (fun c7 => ?_) (fun c7 => ?_)
    · refine x_iconst (v := -1) dX8_behind_27 rfl ?_
      exact x_iret (st := []) dX8_behind_28 rfl rfl (by first | exact ⟨_, rfl, rfl, by unfold A_behind; rw [onI_n h4]; exact ⟨FrW.rf, hc, rfl⟩⟩ | exact ⟨_, rfl, rfl, by unfold A_behind; rw [onI_y (by omega) (by omega) (by omega), onI_n h12]; exact ⟨FrW.rf, hc, rfl⟩⟩ | exact ⟨_, rfl, rfl, by unfold A_behind; rw [onI_y (by omega) (by omega) (by omega), onI_y (by omega) (by omega) (by omega), onI_n h21]; exact ⟨FrW.rf, hc, rfl⟩⟩)
    · exfalso; omega
  · obtain ⟨n1, n10, n11, rfl⟩ := h4
    refine x_if_neN dX8_behind_7 (by omega) (fun c7 => ?_) (fun c7 => ?_)
    · exfalso; omega
    · refine x_aload_0 dX8_behind_10 ?_
      refine x_iload_2 dX8_behind_11 ?_
      refine x_V1i dX8_behind_12 m_X8_107 (c_X8_isNoLoom hB (tN (yt S)) y cs.1.1 y6 hn6) (by assumption) (fun x12 I12 h12 => ?_)
      obtain ⟨rfl, ⟨rfl, h12⟩ | ⟨rfl, h12⟩⟩ := h12
      · refine x_if_neN dX8_behind_15 (by omega) (fun c15 => ?_) (fun c15 => ?_)
        · refine x_iconst (v := -1) dX8_behind_27 rfl ?_
          exact x_iret (st := []) dX8_behind_28 rfl rfl (by first | exact ⟨_, rfl, rfl, by unfold A_behind; rw [onI_n h4]; exact ⟨FrW.rf, hc, rfl⟩⟩ | exact ⟨_, rfl, rfl, by unfold A_behind; rw [onI_y (by omega) (by omega) (by omega), onI_n h12]; exact ⟨FrW.rf, hc, rfl⟩⟩ | exact ⟨_, rfl, rfl, by unfold A_behind; rw [onI_y (by omega) (by omega) (by omega), onI_y (by omega) (by omega) (by omega), onI_n h21]; exact ⟨FrW.rf, hc, rfl⟩⟩)
        · exfalso; omega
      · obtain ⟨l, l0, l1, rfl⟩ := h12
        have hl : l < tN (yt S) := by omega
        have lm := cs.1.2.2.2 l hl
        have hsl := hsh l hl
        have hDl := (y5.1.1 l hl).2.1
        have hTl := y7 l hl
        refine x_if_neN dX8_behind_15 (by omega) (fun c15 => ?_) (fun c15 => ?_)
        · exfalso; omega
        · refine x_iload_3 dX8_behind_18 ?_
          refine x_const (c := 0) dX8_behind_19 rfl ?_
          refine x_const (c := 1) dX8_behind_20 rfl ?_
          refine x_S3i dX8_behind_21 m_X8_91 (c_isOutB z 0 1 (by omega) (by omega)) (fun x21 I21 h21 => ?_)
          obtain ⟨rfl, ⟨rfl, h21⟩ | ⟨rfl, h21⟩⟩ := h21
          · refine x_if_eqN dX8_behind_24 (by omega) (fun c24 => ?_) (fun c24 => ?_)
            · exfalso; omega
            · refine x_iconst (v := -1) dX8_behind_27 rfl ?_
              exact x_iret (st := []) dX8_behind_28 rfl rfl (by first | exact ⟨_, rfl, rfl, by unfold A_behind; rw [onI_n h4]; exact ⟨FrW.rf, hc, rfl⟩⟩ | exact ⟨_, rfl, rfl, by unfold A_behind; rw [onI_y (by omega) (by omega) (by omega), onI_n h12]; exact ⟨FrW.rf, hc, rfl⟩⟩ | exact ⟨_, rfl, rfl, by unfold A_behind; rw [onI_y (by omega) (by omega) (by omega), onI_y (by omega) (by omega) (by omega), onI_n h21]; exact ⟨FrW.rf, hc, rfl⟩⟩)
          · obtain ⟨wh, wh0, wh1, rfl⟩ := h21
            refine x_if_eqN dX8_behind_24 (by omega) (fun c24 => ?_) (fun c24 => ?_)
            · refine x_aload_0 dX8_behind_29 ?_
              refine x_getr dX8_behind_30 f_X8_30 (by assumption) u3 ?_
              refine x_aload_0 dX8_behind_33 ?_
              refine x_getr dX8_behind_34 f_X8_26 (by assumption) u2 ?_
              refine x_V1v dX8_behind_37 m_X8_176 (c_X5_copy 14 5 (yt S) (ys S) oL oN (by omega) cs.1 cs.2 hn6 hsh) (by assumption) (fun I37 h37 => ?_)
              obtain ⟨fr37, sl37, sk37⟩ := h37
              have ss37 : SS I37 14 (yt S) (ys S) := ⟨sl37, sk37⟩
              have cn2 : ntp I37 na (yg S) := ntp_fr cn (fun x j hx => fr37 x j (by unfold FtS; omega))
              have e53 : I37 5 3 = nI (sR (ys S)) := (fr37 _ _ (by unfold FtS; omega)).trans cs.1.2.1
              refine x_aload_0 dX8_behind_40 ?_
              refine x_getr dX8_behind_41 f_X8_62 (by assumption) u8 ?_
              refine x_aload_0 dX8_behind_44 ?_
              refine x_getr dX8_behind_45 f_X8_30 (by assumption) u3 ?_
              refine x_iload_1 dX8_behind_48 ?_
              refine x_V2v dX8_behind_49 m_X8_140 (c_X1_goBy na 14 (yt S) (ys S) (yg S) oX cn2 oL ss37 y3 y5.1 (by omega) (by have := y4.2.2.1; omega) y4 n1 (by have := y5.2; omega)) (by assumption) (fun I49 h49 => ?_)
              obtain ⟨gf49, gs49, gr49⟩ := h49
              refine x_iload_3 dX8_behind_52 ?_
              refine x_if_neN dX8_behind_53 (by omega) (fun c53 => ?_) (fun c53 => ?_)
              · refine x_aload_0 dX8_behind_70 ?_
                refine x_getr dX8_behind_71 f_X8_30 (by assumption) u3 ?_
                refine x_iload_2 dX8_behind_74 ?_
                refine x_V1o dX8_behind_75 m_X8_111 (c_X5_pick 14 l oL (by omega)) (by assumption) ?_
                refine x_getV dX8_behind_78 f_X8_179 (oL.2.2.2.1 l (by omega)) (gs49.1.2.2.2 l hl).2.2.2.2.1 ?_
                exact x_iret (st := []) dX8_behind_81 rfl rfl (⟨_, rfl, rfl, by unfold A_behind; rw [onI_y (by omega) (by omega) (by omega), onI_y (by omega) (by omega) (by omega), onI_y (by omega) (by omega) (by omega)]; obtain ⟨z1, z2⟩ := CW_q (J := _) hB hI hok (fun x j hx => (gf49 x j (by unfold Qry at hx; unfold FtS; omega)).trans (fr37 x j (by unfold Qry at hx; unfold FtS; omega))); exact ⟨z1, z2, by first | rw [if_pos (by omega)] | rw [if_neg (by omega)]⟩⟩)
              · refine x_aload_0 dX8_behind_56 ?_
                refine x_getr dX8_behind_57 f_X8_30 (by assumption) u3 ?_
                refine x_iload_2 dX8_behind_60 ?_
                refine x_V1o dX8_behind_61 m_X8_111 (c_X5_pick 14 l oL (by omega)) (by assumption) ?_
                refine x_getV dX8_behind_64 f_X8_154 (oL.2.2.2.1 l (by omega)) (gs49.1.2.2.2 l hl).2.2.2.1 ?_
                refine x_goto dX8_behind_67 ?_
                exact x_iret (st := []) dX8_behind_81 rfl rfl (⟨_, rfl, rfl, by unfold A_behind; rw [onI_y (by omega) (by omega) (by omega), onI_y (by omega) (by omega) (by omega), onI_y (by omega) (by omega) (by omega)]; obtain ⟨z1, z2⟩ := CW_q (J := _) hB hI hok (fun x j hx => (gf49 x j (by unfold Qry at hx; unfold FtS; omega)).trans (fr37 x j (by unfold Qry at hx; unfold FtS; omega))); exact ⟨z1, z2, by first | rw [if_pos (by omega)] | rw [if_neg (by omega)]⟩⟩)
            · exfalso; omega
set_option maxHeartbeats 4000000 in
theorem c_X8_yards {r : Ev} {n : Nat} {I : MI} {Q : MQ2} {S : Sy} (hc : CW n I Q S) (hok : okY S) : CT r 6 yX8_yards cX8_yards (1, (some .int)) (0, 0) [.ref (evz r + 0)] n I Q (ri Q (fun v J => FrW I Q J Q ∧ CW n J Q (A_yards S).2 ∧ v = (A_yards S).1)) := by
  refine ct_of (lv := [some (.ref (evz r + 0))]) (by decide +kernel) rfl rfl rfl ?_
  obtain ⟨na, nb, p1, p2, hB, hI⟩ := id hc
  obtain ⟨o0, oT, oR, oN, oL, oA, oK, oG, oW, oX, oD, hnn, u0, u1, u2, u3, u4, u5, u6, u7, u8, u9⟩ := id hB
  have oT1 := oT.1
  have oN1 := oN.1
  have oL1 := oL.1
  have oA1 := oA.1
  have oK1 := oK.1
  have oG1 := oG.1
  have oW1 := oW.1
  have oX1 := oX.1
  have oD1 := oD.1
  have oR1 := oR.1
  obtain ⟨ct, cs, ca, ck, cg, cn⟩ := id hI
  obtain ⟨y1, y2, y3, y4, y5, y6, y7, y8, y9, y10, y11, y12⟩ := id hok
  have hn6 := y3.1
  have hsh : ∀ l, l < tN (yt S) → sH (ys S) l ≤ 1 := fun l hl => (y5.1.1 l hl).2.2
  refine x_aload_0 dX8_yards_0 ?_
  refine x_getr dX8_yards_1 f_X8_30 (by assumption) u3 ?_
  refine x_aload_0 dX8_yards_4 ?_
  refine x_getr dX8_yards_5 f_X8_26 (by assumption) u2 ?_
  refine x_V1v dX8_yards_8 m_X8_176 (c_X5_copy 14 5 (yt S) (ys S) oL oN (by omega) cs.1 cs.2 hn6 hsh) (by assumption) (fun I8 h8 => ?_)
  obtain ⟨fr8, sl8, sk8⟩ := h8
  have ss8 : SS I8 14 (yt S) (ys S) := ⟨sl8, sk8⟩
  have cn2 : ntp I8 na (yg S) := ntp_fr cn (fun x j hx => fr8 x j (by unfold FtS; omega))
  have e53 : I8 5 3 = nI (sR (ys S)) := (fr8 _ _ (by unfold FtS; omega)).trans cs.1.2.1
  refine x_aload_0 dX8_yards_11 ?_
  refine x_V0i dX8_yards_12 m_X8_182 (c_X8_yot hB (yt S) (yg S) (ys S) cn2 y4 y3 y5.1 ss8 e53 (by have := y5.2; omega)) (by assumption) (fun x12 I12 h12 => ?_)
  obtain ⟨yf12, ys12, rfl⟩ := h12
  exact x_iret (st := []) dX8_yards_15 rfl rfl (⟨_, rfl, rfl, by obtain ⟨z1, z2⟩ := CW_q (J := _) hB hI hok (fun x j hx => (yf12 x j (by unfold Qry at hx; unfold FtS; omega)).trans (fr8 x j (by unfold Qry at hx; unfold FtS; omega))); exact ⟨z1, z2, rfl⟩⟩)
theorem gth_ran {t : Tp} {c m : Nat} {s : St} (hd : dst (tN t) (sP s)) {i : Nat} (hi : i < tN t) : ∀ j, i + 1 + j ≤ tN t → (gth t c m (ordO (tN t) (sP s)) s (i + 1 + j)).2.2 (ordO (tN t) (sP s) i) = (gth t c m (ordO (tN t) (sP s)) s (i + 1)).1
  | 0, _ => nup_s _ _ _
  | j + 1, h => by
    have ih := gth_ran (c := c) (m := m) hd hi j (by omega)
    rw [← ih]
    refine nup_n ?_
    intro e
    have h1 := (ordO_ok hd hi).2
    have h2 := (ordO_ok hd (show i + 1 + j < tN t by omega)).2
    have e2 : ordO (tN t) (sP s) i = ordO (tN t) (sP s) (i + 1 + j) := e
    rw [e2] at h1
    omega
theorem rnH_le {t : Tp} {sun c m : Nat} {s : St} (ht : okT t) (hk : okS t s) (hc : c ≤ 9) {l : Nat} (hl : l < tN t) : rnH t sun c m s l ≤ 600 := by
  unfold rnH
  split
  · unfold ranS
    have hr := rankO_lt (p := sP s) hl
    have h1 := gth_ran (c := c) (m := m) hk.2 hr (tN t - (rankO (tN t) (sP s) l + 1)) (by omega)
    rw [ordO_rank hk.2 hl, show rankO (tN t) (sP s) l + 1 + (tN t - (rankO (tN t) (sP s) l + 1)) = tN t by omega] at h1
    rw [h1]
    have := gth_runs (m := m) (ord := ordO (tN t) (sP s)) ht hc (fun l hl => (hk.1 l hl).2.1) (rankO (tN t) (sP s) l + 1) (by omega) (fun k hk2 => (ordO_ok hk.2 (show k < tN t by omega)).1)
    have := ht.1
    omega
  · omega
theorem drH_0 {t : Tp} {sun c m : Nat} {s : St} {l : Nat} (h : rankO (tN t) (sP s) l = 0) : drH t sun c m s l = -4 := by
  unfold drH
  split
  · rw [h]; rfl
  · rfl
theorem drH_s {t : Tp} {sun c m : Nat} {s : St} {l : Nat} (hk : okS t s) (hl : l < tN t) (h : 0 < rankO (tN t) (sP s) l) : drH t sun c m s l = if 0 < rnH t sun c m s (ordO (tN t) (sP s) (rankO (tN t) (sP s) l - 1)) then nI (ordO (tN t) (sP s) (rankO (tN t) (sP s) l - 1)) else -4 := by
  have hr := rankO_lt (p := sP s) hl
  obtain ⟨i, hi⟩ : ∃ i, rankO (tN t) (sP s) l = i + 1 := ⟨rankO (tN t) (sP s) l - 1, by omega⟩
  unfold drH rnH
  by_cases z : sR s < sun
  · rw [if_pos z, if_pos z, hi, Nat.add_sub_cancel]
    unfold drG drI abv
    rw [if_neg (Nat.succ_ne_zero i), Nat.add_sub_cancel]
    have h1 := gth_ran (c := c) (m := m) hk.2 (show i < tN t by omega) (tN t - (i + 1)) (by omega)
    rw [show i + 1 + (tN t - (i + 1)) = tN t by omega] at h1
    show _ = if 0 < ranS t c m s (ordO (tN t) (sP s) i) then _ else _
    unfold ranS
    rw [h1]
  · rw [if_neg z, if_neg z, if_neg (Nat.lt_irrefl 0)]
set_option maxHeartbeats 4000000 in
theorem c_X8_drips {r : Ev} {n : Nat} {I : MI} {Q : MQ2} {S : Sy} (hc : CW n I Q S) (hok : okY S) (x : Int32) : CT r 5 yX8_drips cX8_drips (3, (some .int)) (0, 0) [.ref (evz r + 0), .int x] n I Q (ri Q (fun v J => FrW I Q J Q ∧ CW n J Q (A_drips S x).2 ∧ v = (A_drips S x).1)) := by
  refine ct_of (lv := [some (.ref (evz r + 0)), some (.int x), none]) (by decide +kernel) rfl rfl rfl ?_
  obtain ⟨na, nb, p1, p2, hB, hI⟩ := id hc
  obtain ⟨o0, oT, oR, oN, oL, oA, oK, oG, oW, oX, oD, hnn, u0, u1, u2, u3, u4, u5, u6, u7, u8, u9⟩ := id hB
  have oT1 := oT.1
  have oN1 := oN.1
  have oL1 := oL.1
  have oA1 := oA.1
  have oK1 := oK.1
  have oG1 := oG.1
  have oW1 := oW.1
  have oX1 := oX.1
  have oD1 := oD.1
  have oR1 := oR.1
  obtain ⟨ct, cs, ca, ck, cg, cn⟩ := id hI
  obtain ⟨y1, y2, y3, y4, y5, y6, y7, y8, y9, y10, y11, y12⟩ := id hok
  have hn6 := y3.1
  have hsh : ∀ l, l < tN (yt S) → sH (ys S) l ≤ 1 := fun l hl => (y5.1.1 l hl).2.2
  refine x_aload_0 dX8_drips_0 ?_
  refine x_iload_1 dX8_drips_1 ?_
  refine x_V1i dX8_drips_2 m_X8_107 (c_X8_isNoLoom hB (tN (yt S)) x cs.1.1 y6 hn6) (by assumption) (fun x2 I2 h2 => ?_)
  obtain ⟨rfl, ⟨rfl, h2⟩ | ⟨rfl, h2⟩⟩ := h2
  · refine x_if_eqN dX8_drips_5 (by omega) (fun c5 => ?_) (fun c5 => ?_)
    · exfalso; omega
    · refine x_iconst (v := -1) dX8_drips_8 rfl ?_
      exact x_iret (st := []) dX8_drips_9 rfl rfl (⟨_, rfl, rfl, by unfold A_drips; rw [onI_n h2]; exact ⟨FrW.rf, hc, rfl⟩⟩)
  · obtain ⟨l, l0, l1, rfl⟩ := h2
    have hl : l < tN (yt S) := by omega
    have lm := cs.1.2.2.2 l hl
    have hsl := hsh l hl
    have hDl := (y5.1.1 l hl).2.1
    have hTl := y7 l hl
    refine x_if_eqN dX8_drips_5 (by omega) (fun c5 => ?_) (fun c5 => ?_)
    · refine x_aload_0 dX8_drips_10 ?_
      refine x_getr dX8_drips_11 f_X8_26 (by assumption) u2 ?_
      refine x_iload_1 dX8_drips_14 ?_
      refine x_V1i dX8_drips_15 m_X8_228 (c_X5_nextAbove 5 (yt S) (ys S) oN cs.1 hn6 cs.2 y5.1.2 l hl) (by assumption) (fun x15 I15 h15 => ?_)
      obtain ⟨rfl, ⟨rk0, rfl⟩ | ⟨rk0, rfl⟩⟩ := h15
      · refine x_istore_2 dX8_drips_18 rfl rfl ?_
        refine x_aload_0 dX8_drips_19 ?_
        refine x_getr dX8_drips_20 f_X8_30 (by assumption) u3 ?_
        refine x_aload_0 dX8_drips_23 ?_
        refine x_getr dX8_drips_24 f_X8_26 (by assumption) u2 ?_
        refine x_V1v dX8_drips_27 m_X8_176 (c_X5_copy 14 5 (yt S) (ys S) oL oN (by omega) cs.1 cs.2 hn6 hsh) (by assumption) (fun I27 h27 => ?_)
        obtain ⟨fr27, sl27, sk27⟩ := h27
        have ss27 : SS I27 14 (yt S) (ys S) := ⟨sl27, sk27⟩
        have cn2 : ntp I27 na (yg S) := ntp_fr cn (fun x j hx => fr27 x j (by unfold FtS; omega))
        have e53 : I27 5 3 = nI (sR (ys S)) := (fr27 _ _ (by unfold FtS; omega)).trans cs.1.2.1
        refine x_aload_0 dX8_drips_30 ?_
        refine x_getr dX8_drips_31 f_X8_62 (by assumption) u8 ?_
        refine x_aload_0 dX8_drips_34 ?_
        refine x_getr dX8_drips_35 f_X8_30 (by assumption) u3 ?_
        refine x_const (c := 1) dX8_drips_38 rfl ?_
        refine x_V2v dX8_drips_39 m_X8_140 (c_X1_goBy na 14 (yt S) (ys S) (yg S) oX cn2 oL ss27 y3 y5.1 (by omega) (by have := y4.2.2.1; omega) y4 1 (by have := y5.2; omega)) (by assumption) (fun I39 h39 => ?_)
        obtain ⟨gf39, gs39, gr39⟩ := h39
        refine x_iload_2 dX8_drips_42 ?_
        refine x_bipush (v := -4) dX8_drips_43 (by decide) ?_
        refine x_icmp_eq dX8_drips_45 (fun c45 => ?_) (fun c45 => ?_)
        · refine x_bipush (v := -4) dX8_drips_66 (by decide) ?_
          exact x_iret (st := []) dX8_drips_68 rfl rfl (⟨_, rfl, rfl, by unfold A_drips; rw [onI_y (by omega) (by omega) (by omega)]; obtain ⟨z1, z2⟩ := CW_q (J := _) hB hI hok (fun x j hx => (gf39 x j (by unfold Qry at hx; unfold FtS; omega)).trans (fr27 x j (by unfold Qry at hx; unfold FtS; omega))); exact ⟨z1, z2, (drH_0 rk0).symm⟩⟩)
        · exact absurd rfl c45
      · have hab := (ordO_ok y5.1.2 (show rankO (tN (yt S)) (sP (ys S)) l - 1 < tN (yt S) by have := rankO_lt (p := sP (ys S)) hl; omega)).1
        have hrn := rnH_le (sun := nS (yg S)) (c := coldF (yg S) (sR (ys S))) (m := mistF (yg S) (sR (ys S))) y3 y5.1 (cold_le y4 _) hab
        refine x_istore_2 dX8_drips_18 rfl rfl ?_
        refine x_aload_0 dX8_drips_19 ?_
        refine x_getr dX8_drips_20 f_X8_30 (by assumption) u3 ?_
        refine x_aload_0 dX8_drips_23 ?_
        refine x_getr dX8_drips_24 f_X8_26 (by assumption) u2 ?_
        refine x_V1v dX8_drips_27 m_X8_176 (c_X5_copy 14 5 (yt S) (ys S) oL oN (by omega) cs.1 cs.2 hn6 hsh) (by assumption) (fun I27 h27 => ?_)
        obtain ⟨fr27, sl27, sk27⟩ := h27
        have ss27 : SS I27 14 (yt S) (ys S) := ⟨sl27, sk27⟩
        have cn2 : ntp I27 na (yg S) := ntp_fr cn (fun x j hx => fr27 x j (by unfold FtS; omega))
        have e53 : I27 5 3 = nI (sR (ys S)) := (fr27 _ _ (by unfold FtS; omega)).trans cs.1.2.1
        refine x_aload_0 dX8_drips_30 ?_
        refine x_getr dX8_drips_31 f_X8_62 (by assumption) u8 ?_
        refine x_aload_0 dX8_drips_34 ?_
        refine x_getr dX8_drips_35 f_X8_30 (by assumption) u3 ?_
        refine x_const (c := 1) dX8_drips_38 rfl ?_
        refine x_V2v dX8_drips_39 m_X8_140 (c_X1_goBy na 14 (yt S) (ys S) (yg S) oX cn2 oL ss27 y3 y5.1 (by omega) (by have := y4.2.2.1; omega) y4 1 (by have := y5.2; omega)) (by assumption) (fun I39 h39 => ?_)
        obtain ⟨gf39, gs39, gr39⟩ := h39
        refine x_iload_2 dX8_drips_42 ?_
        refine x_bipush (v := -4) dX8_drips_43 (by decide) ?_
        refine x_icmp_eq dX8_drips_45 (fun c45 => ?_) (fun c45 => ?_)
        · exact absurd c45 (nI_ne4 (by omega))
        · refine x_aload_0 dX8_drips_48 ?_
          refine x_getr dX8_drips_49 f_X8_30 (by assumption) u3 ?_
          refine x_iload_2 dX8_drips_52 ?_
          refine x_V1o dX8_drips_53 m_X8_111 (c_X5_pick 14 (ordO (tN (yt S)) (sP (ys S)) (rankO (tN (yt S)) (sP (ys S)) l - 1)) oL (by omega)) (by assumption) ?_
          have gv : _ = nI (rnH (yt S) (nS (yg S)) (coldF (yg S) (sR (ys S))) (mistF (yg S) (sR (ys S))) (ys S) (ordO (tN (yt S)) (sP (ys S)) (rankO (tN (yt S)) (sP (ys S)) l - 1))) := gr39 (by decide) (ordO (tN (yt S)) (sP (ys S)) (rankO (tN (yt S)) (sP (ys S)) l - 1)) hab
          refine x_getV dX8_drips_56 f_X8_231 (oL.2.2.2.1 (ordO (tN (yt S)) (sP (ys S)) (rankO (tN (yt S)) (sP (ys S)) l - 1)) (by omega)) gv ?_
          refine x_if_leN dX8_drips_59 (by omega) (fun c59 => ?_) (fun c59 => ?_)
          · refine x_bipush (v := -4) dX8_drips_66 (by decide) ?_
            exact x_iret (st := []) dX8_drips_68 rfl rfl (⟨_, rfl, rfl, by unfold A_drips; rw [onI_y (by omega) (by omega) (by omega)]; obtain ⟨z1, z2⟩ := CW_q (J := _) hB hI hok (fun x j hx => (gf39 x j (by unfold Qry at hx; unfold FtS; omega)).trans (fr27 x j (by unfold Qry at hx; unfold FtS; omega))); exact ⟨z1, z2, by show _ = drH _ _ _ _ _ _; rw [drH_s y5.1 hl rk0]; first | exact (if_pos (by omega)).symm | exact (if_neg (by omega)).symm⟩⟩)
          · refine x_iload_2 dX8_drips_62 ?_
            refine x_goto dX8_drips_63 ?_
            exact x_iret (st := []) dX8_drips_68 rfl rfl (⟨_, rfl, rfl, by unfold A_drips; rw [onI_y (by omega) (by omega) (by omega)]; obtain ⟨z1, z2⟩ := CW_q (J := _) hB hI hok (fun x j hx => (gf39 x j (by unfold Qry at hx; unfold FtS; omega)).trans (fr27 x j (by unfold Qry at hx; unfold FtS; omega))); exact ⟨z1, z2, by show _ = drH _ _ _ _ _ _; rw [drH_s y5.1 hl rk0]; first | exact (if_pos (by omega)).symm | exact (if_neg (by omega)).symm⟩⟩)
    · exfalso; omega
set_option maxHeartbeats 4000000 in
theorem c_X8_seen {r : Ev} {n : Nat} {I : MI} {Q : MQ2} {S : Sy} (hc : CW n I Q S) (hok : okY S) (x y z : Int32) : CT r 2 yX8_seen cX8_seen (4, (some .int)) (0, 0) [.ref (evz r + 0), .int x, .int y, .int z] n I Q (ri Q (fun v J => FrW I Q J Q ∧ CW n J Q (A_seen S x y z).2 ∧ v = (A_seen S x y z).1)) := by
  refine ct_of (lv := [some (.ref (evz r + 0)), some (.int x), some (.int y), some (.int z)]) (by decide +kernel) rfl rfl rfl ?_
  obtain ⟨na, nb, p1, p2, hB, hI⟩ := id hc
  obtain ⟨o0, oT, oR, oN, oL, oA, oK, oG, oW, oX, oD, hnn, u0, u1, u2, u3, u4, u5, u6, u7, u8, u9⟩ := id hB
  have oT1 := oT.1
  have oN1 := oN.1
  have oL1 := oL.1
  have oA1 := oA.1
  have oK1 := oK.1
  have oG1 := oG.1
  have oW1 := oW.1
  have oX1 := oX.1
  have oD1 := oD.1
  have oR1 := oR.1
  obtain ⟨ct, cs, ca, ck, cg, cn⟩ := id hI
  obtain ⟨y1, y2, y3, y4, y5, y6, y7, y8, y9, y10, y11, y12⟩ := id hok
  have hn6 := y3.1
  have hsh : ∀ l, l < tN (yt S) → sH (ys S) l ≤ 1 := fun l hl => (y5.1.1 l hl).2.2
  refine x_aload_0 dX8_seen_0 ?_
  refine x_iload_1 dX8_seen_1 ?_
  refine x_V1i dX8_seen_2 m_X8_107 (c_X8_isNoLoom hB (tN (yt S)) x cs.1.1 y6 hn6) (by assumption) (fun x2 I2 h2 => ?_)
  obtain ⟨rfl, ⟨rfl, h2⟩ | ⟨rfl, h2⟩⟩ := h2
  · refine x_if_neN dX8_seen_5 (by omega) (fun c5 => ?_) (fun c5 => ?_)
    · refine x_iconst (v := -1) dX8_seen_28 rfl ?_
      exact x_iret (st := []) dX8_seen_29 rfl rfl (by first | exact ⟨_, rfl, rfl, by unfold A_seen; rw [onI_n h2]; exact ⟨FrW.rf, hc, rfl⟩⟩ | exact ⟨_, rfl, rfl, by unfold A_seen; rw [onI_y (by omega) (by omega) (by omega), onI_n h12]; exact ⟨FrW.rf, hc, rfl⟩⟩ | exact ⟨_, rfl, rfl, by unfold A_seen; rw [onI_y (by omega) (by omega) (by omega), onI_y (by omega) (by omega) (by omega), onI_n h22]; exact ⟨FrW.rf, hc, rfl⟩⟩)
    · exfalso; omega
  · obtain ⟨l, l0, l1, rfl⟩ := h2
    refine x_if_neN dX8_seen_5 (by omega) (fun c5 => ?_) (fun c5 => ?_)
    · exfalso; omega
    · refine x_iload_2 dX8_seen_8 ?_
      refine x_const (c := 0) dX8_seen_9 rfl ?_
      refine x_bip (c := 27) dX8_seen_10 (by decide) ?_
      refine x_S3i dX8_seen_12 m_X8_91 (c_isOutB y 0 27 (by omega) (by omega)) (fun x12 I12 h12 => ?_)
      obtain ⟨rfl, ⟨rfl, h12⟩ | ⟨rfl, h12⟩⟩ := h12
      · refine x_if_neN dX8_seen_15 (by omega) (fun c15 => ?_) (fun c15 => ?_)
        · refine x_iconst (v := -1) dX8_seen_28 rfl ?_
          exact x_iret (st := []) dX8_seen_29 rfl rfl (by first | exact ⟨_, rfl, rfl, by unfold A_seen; rw [onI_n h2]; exact ⟨FrW.rf, hc, rfl⟩⟩ | exact ⟨_, rfl, rfl, by unfold A_seen; rw [onI_y (by omega) (by omega) (by omega), onI_n h12]; exact ⟨FrW.rf, hc, rfl⟩⟩ | exact ⟨_, rfl, rfl, by unfold A_seen; rw [onI_y (by omega) (by omega) (by omega), onI_y (by omega) (by omega) (by omega), onI_n h22]; exact ⟨FrW.rf, hc, rfl⟩⟩)
        · exfalso; omega
      · obtain ⟨d, d0, d1, rfl⟩ := h12
        refine x_if_neN dX8_seen_15 (by omega) (fun c15 => ?_) (fun c15 => ?_)
        · exfalso; omega
        · refine x_iload_3 dX8_seen_18 ?_
          refine x_const (c := 0) dX8_seen_19 rfl ?_
          refine x_bip (c := 12) dX8_seen_20 (by decide) ?_
          refine x_S3i dX8_seen_22 m_X8_91 (c_isOutB z 0 12 (by omega) (by omega)) (fun x22 I22 h22 => ?_)
          obtain ⟨rfl, ⟨rfl, h22⟩ | ⟨rfl, h22⟩⟩ := h22
          · refine x_if_eqN dX8_seen_25 (by omega) (fun c25 => ?_) (fun c25 => ?_)
            · exfalso; omega
            · refine x_iconst (v := -1) dX8_seen_28 rfl ?_
              exact x_iret (st := []) dX8_seen_29 rfl rfl (by first | exact ⟨_, rfl, rfl, by unfold A_seen; rw [onI_n h2]; exact ⟨FrW.rf, hc, rfl⟩⟩ | exact ⟨_, rfl, rfl, by unfold A_seen; rw [onI_y (by omega) (by omega) (by omega), onI_n h12]; exact ⟨FrW.rf, hc, rfl⟩⟩ | exact ⟨_, rfl, rfl, by unfold A_seen; rw [onI_y (by omega) (by omega) (by omega), onI_y (by omega) (by omega) (by omega), onI_n h22]; exact ⟨FrW.rf, hc, rfl⟩⟩)
          · obtain ⟨e, e0, e1, rfl⟩ := h22
            refine x_if_eqN dX8_seen_25 (by omega) (fun c25 => ?_) (fun c25 => ?_)
            · refine x_aload_0 dX8_seen_30 ?_
              refine x_getr dX8_seen_31 f_X8_48 (by assumption) u6 ?_
              refine x_V0i dX8_seen_34 m_X8_234 (c_X4_isFull 117 (yG S) oG cg y12.1) (by assumption) (fun x34 I34 h34 => ?_)
              obtain ⟨rfl, ⟨rfl, h34⟩ | ⟨rfl, h34⟩⟩ := h34
              · refine x_if_eqN dX8_seen_37 (by omega) (fun c37 => ?_) (fun c37 => ?_)
                · exfalso; omega
                · refine x_bipush (v := -3) dX8_seen_40 (by decide) ?_
                  exact x_iret (st := []) dX8_seen_42 rfl rfl (⟨_, rfl, rfl, by unfold A_seen; rw [onI_y (by omega) (by omega) (by omega), onI_y (by omega) (by omega) (by omega), onI_y (by omega) (by omega) (by omega), if_pos (by omega)]; exact ⟨FrW.rf, hc, rfl⟩⟩)
              · refine x_if_eqN dX8_seen_37 (by omega) (fun c37 => ?_) (fun c37 => ?_)
                · refine x_aload_0 dX8_seen_43 ?_
                  refine x_getr dX8_seen_44 f_X8_48 (by assumption) u6 ?_
                  refine x_iload_1 dX8_seen_47 ?_
                  refine x_iload_2 dX8_seen_48 ?_
                  refine x_iload_3 dX8_seen_49 ?_
                  refine x_V3v dX8_seen_50 m_X8_235 (c_X4_put 117 (yG S) oG cg y12.1 (by omega) l d e) (by assumption) (fun I50 h50 => ?_)
                  obtain ⟨tf, tg⟩ := h50
                  refine x_aload_0 dX8_seen_53 ?_
                  refine x_getr dX8_seen_54 f_X8_48 (by assumption) u6 ?_
                  refine x_getV dX8_seen_57 f_X8_238 (by assumption) tg.1 ?_
                  exact x_iret (st := []) dX8_seen_60 rfl rfl (⟨_, rfl, rfl, by unfold A_seen; rw [onI_y (by omega) (by omega) (by omega), onI_y (by omega) (by omega) (by omega), onI_y (by omega) (by omega) (by omega), if_neg (by omega)]; obtain ⟨z1, z2⟩ := CW_sg hB hI hok tf tg; exact ⟨z1, z2, rfl⟩⟩)
                · exfalso; omega
            · exfalso; omega
set_option maxHeartbeats 4000000 in
theorem c_X8_forget {r : Ev} {n : Nat} {I : MI} {Q : MQ2} {S : Sy} (hc : CW n I Q S) (hok : okY S) : CT r 1 yX8_forget cX8_forget (2, (some .int)) (0, 0) [.ref (evz r + 0)] n I Q (ri Q (fun v J => FrW I Q J Q ∧ CW n J Q (A_forget S).2 ∧ v = (A_forget S).1)) := by
  refine ct_of (lv := [some (.ref (evz r + 0)), none]) (by decide +kernel) rfl rfl rfl ?_
  obtain ⟨na, nb, p1, p2, hB, hI⟩ := id hc
  obtain ⟨o0, oT, oR, oN, oL, oA, oK, oG, oW, oX, oD, hnn, u0, u1, u2, u3, u4, u5, u6, u7, u8, u9⟩ := id hB
  have oT1 := oT.1
  have oN1 := oN.1
  have oL1 := oL.1
  have oA1 := oA.1
  have oK1 := oK.1
  have oG1 := oG.1
  have oW1 := oW.1
  have oX1 := oX.1
  have oD1 := oD.1
  have oR1 := oR.1
  obtain ⟨ct, cs, ca, ck, cg, cn⟩ := id hI
  obtain ⟨y1, y2, y3, y4, y5, y6, y7, y8, y9, y10, y11, y12⟩ := id hok
  have hn6 := y3.1
  have hsh : ∀ l, l < tN (yt S) → sH (ys S) l ≤ 1 := fun l hl => (y5.1.1 l hl).2.2
  refine x_aload_0 dX8_forget_0 ?_
  refine x_getr dX8_forget_1 f_X8_48 (by assumption) u6 ?_
  refine x_getV dX8_forget_4 f_X8_238 (by assumption) cg.1 ?_
  refine x_istore_1 dX8_forget_7 rfl rfl ?_
  refine x_aload_0 dX8_forget_8 ?_
  refine x_getr dX8_forget_9 f_X8_48 (by assumption) u6 ?_
  refine x_V0v dX8_forget_12 m_X8_239 (c_X4_clear 117 oG) (by assumption) (fun I12 h12 => ?_)
  obtain ⟨tf12, te12⟩ := h12
  refine x_iload_1 dX8_forget_15 ?_
  exact x_iret (st := []) dX8_forget_16 rfl rfl (⟨_, rfl, rfl, by obtain ⟨z1, z2⟩ := CW_sg (G := (0, (yG S).2)) hB hI hok (fun x j hx => tf12 x j (by omega)) ⟨te12, fun k hk => absurd hk (Nat.not_lt_zero k)⟩; exact ⟨z1, z2, rfl⟩⟩)
theorem CW_kep {n : Nat} {I J1 : MI} {Q Q' : MQ2} {na nb : Nat} {p1 p2 pr : Nat → Nat} {S : Sy} {m : Nat} {v : Nat → St} (hB : CWB n Q na nb p1 p2) (hI : CWI I na p1 p2 S) (hok : okY S) (w1 : FrQ Q Q' 98) (w2 : FrS I J1 (FtP 97 2)) (hP : PlB n Q' 97 2 pr) (hp : plp J1 97 pr (yt S) m v) : FrW I Q J1 Q' ∧ CW n J1 Q' (S.1, S.2.1, S.2.2.1, S.2.2.2.1, (m, v), S.2.2.2.2.2) := by
  have hB2 := ((hB.put 98 w1 (Or.inr rfl)).2 rfl hP)
  obtain ⟨ct, cs, ca, ck, cg, cn⟩ := hI
  have hn := hok.2.2.1.1
  obtain ⟨o0, oT, oR, oN, oL, oA, oK, oG, oW, oX, oD, hnn, -⟩ := hB
  have g : ∀ x j, ¬ (97 ≤ x ∧ x < 117) → J1 x j = I x j := fun x j h1 => w2 x j (by unfold FtP; omega)
  exact ⟨fun x hx j => ⟨g x j (by omega), w1 x (by omega) j⟩, na, nb, p1, pr, hB2, txp_fr ct (fun x j hx => g x j (by omega)), cs.fr hn (fun x j z1 z2 => g x j (by omega)), plp_fr ca hok.2.2.2.2.2.2.2.1 (fun i hi => (oA.2.2.2.1 i hi).1) hn (fun x j z1 z2 => g x j (by omega)), hp, sgp_fr cg (fun x j z1 z2 => g x j (by omega)), ntp_fr cn (fun x j hx => g x j (by omega))⟩
theorem push_n {L m : Nat} {v : Nat → St} {s : St} (h : m ≠ L) : pushN L m = m + 1 ∧ pushF L m v s = nup v m s := ⟨if_neg h, if_neg h⟩
set_option maxHeartbeats 4000000 in
theorem c_X8_keep {r : Ev} {n : Nat} {I : MI} {Q : MQ2} {S : Sy} (hc : CW n I Q S) (hok : okY S) : CT r 4 yX8_keep cX8_keep (1, (some .int)) (0, 0) [.ref (evz r + 0)] n I Q (RI (fun v J Q' => FrW I Q J Q' ∧ CW n J Q' (A_keep S).2 ∧ v = (A_keep S).1)) := by
  refine ct_of (lv := [some (.ref (evz r + 0))]) (by decide +kernel) rfl rfl rfl ?_
  obtain ⟨na, nb, p1, p2, hB, hI⟩ := id hc
  obtain ⟨o0, oT, oR, oN, oL, oA, oK, oG, oW, oX, oD, hnn, u0, u1, u2, u3, u4, u5, u6, u7, u8, u9⟩ := id hB
  have oT1 := oT.1
  have oN1 := oN.1
  have oL1 := oL.1
  have oA1 := oA.1
  have oK1 := oK.1
  have oG1 := oG.1
  have oW1 := oW.1
  have oX1 := oX.1
  have oD1 := oD.1
  have oR1 := oR.1
  obtain ⟨ct, cs, ca, ck, cg, cn⟩ := id hI
  obtain ⟨y1, y2, y3, y4, y5, y6, y7, y8, y9, y10, y11, y12⟩ := id hok
  have hn6 := y3.1
  have hsh : ∀ l, l < tN (yt S) → sH (ys S) l ≤ 1 := fun l hl => (y5.1.1 l hl).2.2
  refine x_aload_0 dX8_keep_0 ?_
  refine x_getr dX8_keep_1 f_X8_42 (by assumption) u5 ?_
  refine x_V0i dX8_keep_4 m_X8_277 (c_X2_isFull 97 2 p2 (ykn S) oK ck.1 y10 (by omega)) (by assumption) (fun x4 I4 h4 => ?_)
  obtain ⟨rfl, ⟨rfl, h4⟩ | ⟨rfl, h4⟩⟩ := h4
  · refine x_if_eqN dX8_keep_7 (by omega) (fun c7 => ?_) (fun c7 => ?_)
    · exfalso; omega
    · refine x_bipush (v := -3) dX8_keep_10 (by decide) ?_
      exact x_iret (st := []) dX8_keep_12 rfl rfl (⟨_, rfl, by unfold A_keep; rw [if_pos (by omega)]; exact ⟨FrW.rf, hc, rfl⟩⟩)
  · refine x_if_eqN dX8_keep_7 (by omega) (fun c7 => ?_) (fun c7 => ?_)
    · refine x_aload_0 dX8_keep_13 ?_
      refine x_getr dX8_keep_14 f_X8_42 (by assumption) u5 ?_
      refine x_aload_0 dX8_keep_17 ?_
      refine x_getr dX8_keep_18 f_X8_26 (by assumption) u2 ?_
      refine x_V1W dX8_keep_21 m_X8_136 (c_X2_put 97 2 p2 (ykn S) (ykv S) oK y10 (by omega) (by omega) 5 (yt S) (ys S) ck oN cs (by omega) hn6 hsh) (by assumption) (fun I21 Q21 h21 => ?_)
      obtain ⟨w1, w2, pr, wP, wp⟩ := h21
      have hB2 := ((hB.put 98 w1 (Or.inr rfl)).2 rfl wP)
      obtain ⟨o0, oT, oR, oN, oL, oA, oK, oG, oW, oX, oD, hnn, u0, u1, u2, u3, u4, u5, u6, u7, u8, u9⟩ := id hB2
      have oT1 := oT.1
      have oN1 := oN.1
      have oL1 := oL.1
      have oA1 := oA.1
      have oK1 := oK.1
      have oG1 := oG.1
      have oW1 := oW.1
      have oX1 := oX.1
      have oD1 := oD.1
      have oR1 := oR.1
      have pn := push_n (v := ykv S) (s := ys S) (show ykn S ≠ 2 by omega)
      rw [pn.1, pn.2] at wp
      refine x_aload_0 dX8_keep_24 ?_
      refine x_getr dX8_keep_25 f_X8_42 (by assumption) u5 ?_
      refine x_getV dX8_keep_28 f_X8_172 (by assumption) wp.1 ?_
      exact x_iret (st := []) dX8_keep_31 rfl rfl (⟨_, rfl, by unfold A_keep; rw [if_neg (by omega)]; obtain ⟨z1, z2⟩ := CW_kep hB hI hok w1 w2 wP wp; exact ⟨z1, z2, rfl⟩⟩)
    · exfalso; omega
set_option maxHeartbeats 4000000 in
theorem c_X8_back {r : Ev} {n : Nat} {I : MI} {Q : MQ2} {S : Sy} (hc : CW n I Q S) (hok : okY S) : CT r 4 yX8_back cX8_back (1, (some .int)) (0, 0) [.ref (evz r + 0)] n I Q (ri Q (fun v J => FrW I Q J Q ∧ CW n J Q (A_back S).2 ∧ v = (A_back S).1)) := by
  refine ct_of (lv := [some (.ref (evz r + 0))]) (by decide +kernel) rfl rfl rfl ?_
  obtain ⟨na, nb, p1, p2, hB, hI⟩ := id hc
  obtain ⟨o0, oT, oR, oN, oL, oA, oK, oG, oW, oX, oD, hnn, u0, u1, u2, u3, u4, u5, u6, u7, u8, u9⟩ := id hB
  have oT1 := oT.1
  have oN1 := oN.1
  have oL1 := oL.1
  have oA1 := oA.1
  have oK1 := oK.1
  have oG1 := oG.1
  have oW1 := oW.1
  have oX1 := oX.1
  have oD1 := oD.1
  have oR1 := oR.1
  obtain ⟨ct, cs, ca, ck, cg, cn⟩ := id hI
  obtain ⟨y1, y2, y3, y4, y5, y6, y7, y8, y9, y10, y11, y12⟩ := id hok
  have hn6 := y3.1
  have hsh : ∀ l, l < tN (yt S) → sH (ys S) l ≤ 1 := fun l hl => (y5.1.1 l hl).2.2
  refine x_aload_0 dX8_back_0 ?_
  refine x_getr dX8_back_1 f_X8_42 (by assumption) u5 ?_
  refine x_getV dX8_back_4 f_X8_172 (by assumption) ck.1 ?_
  refine x_if_neN dX8_back_7 (by omega) (fun c7 => ?_) (fun c7 => ?_)
  · refine x_aload_0 dX8_back_13 ?_
    refine x_getr dX8_back_14 f_X8_42 (by assumption) u5 ?_
    refine x_aload_0 dX8_back_17 ?_
    refine x_getr dX8_back_18 f_X8_26 (by assumption) u2 ?_
    refine x_V1v dX8_back_21 m_X8_173 (c_X2_takeInto 97 2 p2 (ykn S) (ykv S) oK (by omega) (by omega) (by omega) 5 (yt S) ck oN (by omega) hn6 (fun l hl => ((y11 _ (by omega)).1.1 l hl).2.2)) (by assumption) (fun I21 h21 => ?_)
    obtain ⟨tf, te, ts⟩ := h21
    refine x_aload_0 dX8_back_24 ?_
    refine x_getr dX8_back_25 f_X8_38 (by assumption) u4 ?_
    refine x_V0v dX8_back_28 m_X8_278 (c_X2_clear 23 oA1) (by assumption) (fun I28 h28 => ?_)
    obtain ⟨tf28, te28⟩ := h28
    refine x_aload_0 dX8_back_31 ?_
    refine x_getr dX8_back_32 f_X8_42 (by assumption) u5 ?_
    refine x_getV dX8_back_35 f_X8_172 (by assumption) ((tf28 _ _ (by omega)).trans te) ?_
    exact x_iret (st := []) dX8_back_38 rfl rfl (⟨_, rfl, rfl, by unfold A_back; rw [if_neg (by omega)]; obtain ⟨z1, z2⟩ := CW_bck hB hI hok (fun x j hx => (tf28 x j (fun z => hx (Or.inr (Or.inl z)))).trans (tf x j (fun z => hx (z.elim Or.inl (fun z => Or.inr (Or.inr z)))))) ((tf28 _ _ (by omega)).trans te) te28 (ts.fr hn6 (fun x j z1 z2 => tf28 x j (by omega))); exact ⟨z1, z2, rfl⟩⟩)
  · refine x_bipush (v := -2) dX8_back_10 (by decide) ?_
    exact x_iret (st := []) dX8_back_12 rfl rfl (⟨_, rfl, rfl, by unfold A_back; rw [if_pos (by omega)]; exact ⟨FrW.rf, hc, rfl⟩⟩)
theorem bitF_ct (q : Nat → Bool) : ∀ n k, n ≤ k → sumF (fun j => bitF q n / 2 ^ j % 2) k = fb_ct q n := by
  intro n k hk
  have h1 : ∀ m, sumF (fun j => bitF q n / 2 ^ j % 2) (n + m) = sumF (fun j => bitF q n / 2 ^ j % 2) n := by
    intro m
    induction m with
    | zero => rfl
    | succ m ih =>
      show sumF (fun j => bitF q n / 2 ^ j % 2) (n + m) + bitF q n / 2 ^ (n + m) % 2 = _
      rw [ih, Nat.div_eq_of_lt (Nat.lt_of_lt_of_le (bitF_lt q n) (Nat.pow_le_pow_right (by decide) (by omega)))]
      rfl
  have h2 : ∀ m, m ≤ n → sumF (fun j => bitF q n / 2 ^ j % 2) m = fb_ct q m := by
    intro m
    induction m with
    | zero => intro _; rfl
    | succ m ih =>
      intro hm
      show sumF (fun j => bitF q n / 2 ^ j % 2) m + bitF q n / 2 ^ m % 2 = _
      rw [ih (by omega), bitF_bit q (show m < n by omega), fb_ct_succ]
  obtain ⟨m, rfl⟩ : ∃ m, k = n + m := ⟨k - n, by omega⟩
  rw [h1, h2 n (Nat.le_refl n)]
theorem ones_bit (q : Nat → Bool) {n : Nat} (h : n ≤ 6) : ones6 (bitF q n) = fb_ct q n := bitF_ct q n 6 h
theorem ct_sum {f : Nat → Nat} : ∀ {n : Nat}, (∀ k, k < n → f k ≤ 1) → fb_ct (fun l => decide (f l ≠ 0)) n = sumF f n
  | 0, _ => rfl
  | n + 1, h => by
    rw [fb_ct_succ, ct_sum (fun k hk => h k (by omega))]
    show _ = sumF f n + f n
    congr 1
    have := h n (Nat.lt_succ_self n)
    by_cases z : f n = 0
    · rw [z]; rfl
    · rw [if_pos (decide_eq_true z)]; omega
set_option maxHeartbeats 4000000 in
theorem c_X8_count {r : Ev} {n : Nat} {I : MI} {Q : MQ2} {S : Sy} (hc : CW n I Q S) (hok : okY S) (x : Int32) : CT r 2 yX8_count cX8_count (2, (some .int)) (0, 0) [.ref (evz r + 0), .int x] n I Q (ri Q (fun v J => FrW I Q J Q ∧ CW n J Q (A_count S x).2 ∧ v = (A_count S x).1)) := by
  refine ct_of (lv := [some (.ref (evz r + 0)), some (.int x)]) (by decide +kernel) rfl rfl rfl ?_
  obtain ⟨na, nb, p1, p2, hB, hI⟩ := id hc
  obtain ⟨o0, oT, oR, oN, oL, oA, oK, oG, oW, oX, oD, hnn, u0, u1, u2, u3, u4, u5, u6, u7, u8, u9⟩ := id hB
  have oT1 := oT.1
  have oN1 := oN.1
  have oL1 := oL.1
  have oA1 := oA.1
  have oK1 := oK.1
  have oG1 := oG.1
  have oW1 := oW.1
  have oX1 := oX.1
  have oD1 := oD.1
  have oR1 := oR.1
  obtain ⟨ct, cs, ca, ck, cg, cn⟩ := id hI
  obtain ⟨y1, y2, y3, y4, y5, y6, y7, y8, y9, y10, y11, y12⟩ := id hok
  have hn6 := y3.1
  have hsh : ∀ l, l < tN (yt S) → sH (ys S) l ≤ 1 := fun l hl => (y5.1.1 l hl).2.2
  refine x_iload_1 dX8_count_0 ?_
  by_cases hy : inB x 0 10
  · obtain ⟨w, w0, w1, rfl⟩ := hy
    by_cases q0 : w = 0
    · subst q0
      refine x_tsIn (off := 59) (t := 60) dX8_count_1 (by decide) (by decide) (by decide) (by decide) ?_
      refine x_aload_0 dX8_count_60 ?_
      refine x_getr dX8_count_61 f_X8_26 (by assumption) u2 ?_
      refine x_getV dX8_count_64 f_X8_185 (by assumption) cs.1.1 ?_
      exact x_iret (st := []) dX8_count_67 rfl rfl (⟨_, rfl, rfl, by unfold A_count; rw [onI_y (by omega) (by omega) (by omega)]; exact ⟨FrW.rf, hc, rfl⟩⟩)
    by_cases q1 : w = 1
    · subst q1
      refine x_tsIn (off := 67) (t := 68) dX8_count_1 (by decide) (by decide) (by decide) (by decide) ?_
      refine x_aload_0 dX8_count_68 ?_
      refine x_getr dX8_count_69 f_X8_26 (by assumption) u2 ?_
      refine x_getV dX8_count_72 f_X8_133 (by assumption) cs.1.2.1 ?_
      exact x_iret (st := []) dX8_count_75 rfl rfl (⟨_, rfl, rfl, by unfold A_count; rw [onI_y (by omega) (by omega) (by omega)]; exact ⟨FrW.rf, hc, rfl⟩⟩)
    by_cases q2 : w = 2
    · subst q2
      refine x_tsIn (off := 75) (t := 76) dX8_count_1 (by decide) (by decide) (by decide) (by decide) ?_
      refine x_aload_0 dX8_count_76 ?_
      refine x_getr dX8_count_77 f_X8_26 (by assumption) u2 ?_
      refine x_V0i dX8_count_80 m_X8_144 (c_X5_allDrops 5 (yt S) (ys S) oN cs.1 hn6) (by assumption) (fun x80 I80 h80 => ?_)
      obtain ⟨rfl, rfl⟩ := h80
      exact x_iret (st := []) dX8_count_83 rfl rfl (⟨_, rfl, rfl, by unfold A_count; rw [onI_y (by omega) (by omega) (by omega)]; exact ⟨FrW.rf, hc, rfl⟩⟩)
    by_cases q3 : w = 3
    · subst q3
      refine x_tsIn (off := 83) (t := 84) dX8_count_1 (by decide) (by decide) (by decide) (by decide) ?_
      refine x_aload_0 dX8_count_84 ?_
      refine x_getr dX8_count_85 f_X8_26 (by assumption) u2 ?_
      refine x_getV dX8_count_88 f_X8_274 (by assumption) cs.1.2.2.1 ?_
      exact x_iret (st := []) dX8_count_91 rfl rfl (⟨_, rfl, rfl, by unfold A_count; rw [onI_y (by omega) (by omega) (by omega)]; exact ⟨FrW.rf, hc, rfl⟩⟩)
    by_cases q4 : w = 4
    · subst q4
      refine x_tsIn (off := 91) (t := 92) dX8_count_1 (by decide) (by decide) (by decide) (by decide) ?_
      refine x_aload_0 dX8_count_92 ?_
      refine x_getr dX8_count_93 f_X8_26 (by assumption) u2 ?_
      refine x_V0i dX8_count_96 m_X8_186 (c_X5_allSpoiled 5 (yt S) (ys S) oN cs.1 hn6) (by assumption) (fun x96 I96 h96 => ?_)
      obtain ⟨rfl, rfl⟩ := h96
      exact x_iret (st := []) dX8_count_99 rfl rfl (⟨_, rfl, rfl, by unfold A_count; rw [onI_y (by omega) (by omega) (by omega)]; exact ⟨FrW.rf, hc, rfl⟩⟩)
    by_cases q5 : w = 5
    · subst q5
      refine x_tsIn (off := 99) (t := 100) dX8_count_1 (by decide) (by decide) (by decide) (by decide) ?_
      refine x_aload_0 dX8_count_100 ?_
      refine x_getr dX8_count_101 f_X8_26 (by assumption) u2 ?_
      refine x_V0i dX8_count_104 m_X8_215 (c_X5_shades 5 (yt S) (ys S) oN cs.1 hn6 (fun l hl => by have h1 := y5.1.1 l hl; have h2 := y7 l hl; exact ⟨by omega, by omega⟩)) (by assumption) (fun x104 I104 h104 => ?_)
      obtain ⟨rfl, rfl⟩ := h104
      refine x_S1i dX8_count_107 m_X8_195 (c_bitCount _ (bitF_le (k := 6) hn6)) (fun x107 I107 h107 => ?_)
      obtain ⟨rfl, rfl⟩ := h107
      exact x_iret (st := []) dX8_count_110 rfl rfl (⟨_, rfl, rfl, by unfold A_count; rw [onI_y (by omega) (by omega) (by omega)]; exact ⟨FrW.rf, hc, congrArg nI ((ones_bit _ hn6).trans (ct_sum hsh))⟩⟩)
    by_cases q6 : w = 6
    · subst q6
      refine x_tsIn (off := 110) (t := 111) dX8_count_1 (by decide) (by decide) (by decide) (by decide) ?_
      refine x_aload_0 dX8_count_111 ?_
      refine x_getr dX8_count_112 f_X8_26 (by assumption) u2 ?_
      refine x_aload_0 dX8_count_115 ?_
      refine x_getr dX8_count_116 f_X8_62 (by assumption) u8 ?_
      refine x_getV dX8_count_119 f_X8_268 (by assumption) cn.2.2.2.1 ?_
      refine x_V1i dX8_count_122 m_X8_271 (c_X5_yardBits 5 (yt S) (ys S) oN cs.1 hn6 (nY (yg S)) (by have := y4.2.2.2.2.2.2; omega) (fun l hl => by have h1 := y5.1.1 l hl; have h2 := y7 l hl; exact ⟨by omega, by omega⟩)) (by assumption) (fun x122 I122 h122 => ?_)
      obtain ⟨rfl, rfl⟩ := h122
      refine x_S1i dX8_count_125 m_X8_195 (c_bitCount _ (bitF_le (k := 6) hn6)) (fun x125 I125 h125 => ?_)
      obtain ⟨rfl, rfl⟩ := h125
      exact x_iret (st := []) dX8_count_128 rfl rfl (⟨_, rfl, rfl, by unfold A_count; rw [onI_y (by omega) (by omega) (by omega)]; exact ⟨FrW.rf, hc, rfl⟩⟩)
    by_cases q7 : w = 7
    · subst q7
      refine x_tsIn (off := 128) (t := 129) dX8_count_1 (by decide) (by decide) (by decide) (by decide) ?_
      refine x_aload_0 dX8_count_129 ?_
      refine x_getr dX8_count_130 f_X8_48 (by assumption) u6 ?_
      refine x_getV dX8_count_133 f_X8_238 (by assumption) cg.1 ?_
      exact x_iret (st := []) dX8_count_136 rfl rfl (⟨_, rfl, rfl, by unfold A_count; rw [onI_y (by omega) (by omega) (by omega)]; exact ⟨FrW.rf, hc, rfl⟩⟩)
    by_cases q8 : w = 8
    · subst q8
      refine x_tsIn (off := 136) (t := 137) dX8_count_1 (by decide) (by decide) (by decide) (by decide) ?_
      refine x_aload_0 dX8_count_137 ?_
      refine x_getr dX8_count_138 f_X8_38 (by assumption) u4 ?_
      refine x_getV dX8_count_141 f_X8_172 (by assumption) ca.1 ?_
      exact x_iret (st := []) dX8_count_144 rfl rfl (⟨_, rfl, rfl, by unfold A_count; rw [onI_y (by omega) (by omega) (by omega)]; exact ⟨FrW.rf, hc, rfl⟩⟩)
    by_cases q9 : w = 9
    · subst q9
      refine x_tsIn (off := 144) (t := 145) dX8_count_1 (by decide) (by decide) (by decide) (by decide) ?_
      refine x_aload_0 dX8_count_145 ?_
      refine x_getr dX8_count_146 f_X8_42 (by assumption) u5 ?_
      refine x_getV dX8_count_149 f_X8_172 (by assumption) ck.1 ?_
      exact x_iret (st := []) dX8_count_152 rfl rfl (⟨_, rfl, rfl, by unfold A_count; rw [onI_y (by omega) (by omega) (by omega)]; exact ⟨FrW.rf, hc, rfl⟩⟩)
    have q10 : w = 10 := by omega
    subst q10
    refine x_tsIn (off := 152) (t := 153) dX8_count_1 (by decide) (by decide) (by decide) (by decide) ?_
    refine x_aload_0 dX8_count_153 ?_
    refine x_getr dX8_count_154 f_X8_12 (by assumption) u0 ?_
    refine x_getV dX8_count_157 f_X8_99 (by assumption) ct.1 ?_
    exact x_iret (st := []) dX8_count_160 rfl rfl (⟨_, rfl, rfl, by unfold A_count; rw [onI_y (by omega) (by omega) (by omega)]; exact ⟨FrW.rf, hc, rfl⟩⟩)
  · refine x_tsOut (t := 161) dX8_count_1 (inB_out (hi := 10) hy (by decide)) (by decide) ?_
    refine x_iconst (v := -1) dX8_count_161 rfl ?_
    exact x_iret (st := []) dX8_count_162 rfl rfl (⟨_, rfl, rfl, by unfold A_count; rw [onI_n hy]; exact ⟨FrW.rf, hc, rfl⟩⟩)
