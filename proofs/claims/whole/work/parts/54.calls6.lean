theorem SS_thr {I J : MI} {b : Nat} {t : Tp} {s : St} {l x : Nat} (h : SS I b t s) (hl : l < tN t) (fr : Fr1 I J (b + 3 + l) 2) (e : J (b + 3 + l) 2 = nI (tT t l + x)) : SS J b (thrT t l x) s := by
  obtain ⟨⟨h1, h2, h3, h4⟩, h5⟩ := h
  refine ⟨⟨(fr _ _ (by omega)).trans h1, (fr _ _ (by omega)).trans h2, (fr _ _ (by omega)).trans h3, fun k hk => ?_⟩, fun i hi => (fr _ _ (by omega)).trans (h5 i hi)⟩
  have hk : k < tN t := hk
  obtain ⟨a0, a1, a2, a3, a4, a6⟩ := h4 k hk
  refine ⟨(fr _ _ (by omega)).trans a0, (fr _ _ (by omega)).trans a1, ?_, (fr _ _ (by omega)).trans a3, (fr _ _ (by omega)).trans a4, (fr _ _ (by omega)).trans a6⟩
  show J (b + 3 + k) 2 = nI (nup (tT t) l (tT t l + x) k)
  by_cases z : k = l
  · subst z; rw [nup_s]; exact e
  · rw [nup_n z, fr _ _ (by omega)]; exact a2
set_option maxHeartbeats 4000000 in
theorem l_cwants {r : Ev} {n : Nat} {Q : MQ2} {F : Post} {I0 : MI} {S : Sy} (hc : CW n I0 Q S) (hok : okY S) (l : Nat) (hl : l < tN (yt S)) (hF : ∀ J, FrS I0 J (FtS 14) → F (some (.int (wantF (wantQ (yt S) (yg S) (ys S) l) 10 0))) J Q) : ∀ (k : Nat) (i : Nat) (I : MI), i ≤ 10 → i + k = 10 + 1 → FrS I0 I (FtS 14) → wantF (wantQ (yt S) (yg S) (ys S) l) 10 0 = wantF (wantQ (yt S) (yg S) (ys S) l) (10 - i) i → X r 6 yX8_wants cX8_wants (3, (some .int)) (0, 0) 12 [some (.ref (evz r + 0)), some (.int (nI l)), some (.int (nI i))] [] n I Q F := by
  intro k
  induction k with
  | zero => intros; omega
  | succ k ih =>
    intro i I hi0 hi hfr hw
    obtain ⟨na, nb, p1, p2, hB, hI⟩ := id hc
    obtain ⟨o0, oT, oR, oN, oL, oA, oK, oG, oW, oX, oD, hnn, u0, u1, u2, u3, u4, u5, u6, u7, u8, u9⟩ := id hB
    have oT1 := oT.1
    have oN1 := oN.1
    have oL1 := oL.1
    have oA1 := oA.1
    have oK1 := oK.1
    have oG1 := oG.1
    have oW1 := oW.1
    have oX1 := oX.1
    have oD1 := oD.1
    have oR1 := oR.1
    obtain ⟨ct, cs, ca, ck, cg, cn⟩ := id hI
    obtain ⟨y1, y2, y3, y4, y5, y6, y7, y8, y9, y10, y11, y12⟩ := id hok
    have hn6 := y3.1
    have hsh : ∀ l, l < tN (yt S) → sH (ys S) l ≤ 1 := fun l hl => (y5.1.1 l hl).2.2
    have cs2 : SS I 5 (yt S) (ys S) := cs.fr hn6 (fun x j z1 z2 => hfr x j (by unfold FtS; omega))
    have cn2 : ntp I na (yg S) := ntp_fr cn (fun x j hx => hfr x j (by unfold FtS; omega))
    have cg2 : sgp I 117 (yG S) := sgp_fr cg (fun x j z1 z2 => hfr x j (by unfold FtS; omega))
    refine x_iload_2 dX8_wants_12 ?_
    refine x_bip (c := 9) dX8_wants_13 (by decide) ?_
    refine x_icmp_gtN dX8_wants_15 (by omega) (by omega) (fun c15 => ?_) (fun c15 => ?_)
    · have e9 : i = 10 := by omega
      refine x_bipush (v := -4) dX8_wants_65 (by decide) ?_
      exact x_iret (st := []) dX8_wants_67 rfl rfl (by rw [e9] at hw; have e1 : wantF (wantQ (yt S) (yg S) (ys S) l) 10 0 = -4 := hw; rw [← e1]; exact hF _ hfr)
    · have h10 : 10 - i = (10 - (i + 1)) + 1 := by omega
      refine x_aload_0 dX8_wants_18 ?_
      refine x_getr dX8_wants_19 f_X8_30 (by assumption) u3 ?_
      refine x_aload_0 dX8_wants_22 ?_
      refine x_getr dX8_wants_23 f_X8_26 (by assumption) u2 ?_
      refine x_V1v dX8_wants_26 m_X8_176 (c_X5_copy 14 5 (yt S) (ys S) oL oN (by omega) cs2.1 cs2.2 hn6 hsh) (by assumption) (fun I26 h26 => ?_)
      obtain ⟨fr26, sl26, sk26⟩ := h26
      have ss26 : SS I26 14 (yt S) (ys S) := ⟨sl26, sk26⟩
      have cn3 : ntp I26 na (yg S) := ntp_fr cn2 (fun x j hx => fr26 x j (by unfold FtS; omega))
      have e53 : I26 5 3 = nI (sR (ys S)) := (fr26 _ _ (by unfold FtS; omega)).trans cs2.1.2.1
      refine x_aload_0 dX8_wants_29 ?_
      refine x_getr dX8_wants_30 f_X8_30 (by assumption) u3 ?_
      refine x_iload_1 dX8_wants_33 ?_
      refine x_V1o dX8_wants_34 m_X8_111 (c_X5_pick 14 l oL (by omega)) (by assumption) ?_
      first | refine x_dup_ref dX8_wants_37 ?_ | refine x_dup_int dX8_wants_37 ?_
      refine x_getV dX8_wants_38 f_X8_221 (oL.2.2.2.1 l (by omega)) (ss26.1.2.2.2 l hl).2.2.1 ?_
      refine x_iload_2 dX8_wants_41 ?_
      refine x_iaddN dX8_wants_42 ?_
      refine x_putA dX8_wants_43 f_X8_221 (oL.2.2.2.1 l (by omega)) (fun J43 fr43 e43 => ?_)
      have cn4 : ntp J43 na (yg S) := ntp_fr cn3 (fun x j hx => fr43 x j (by omega))
      have e54 : J43 5 3 = nI (sR (ys S)) := (fr43 _ _ (by omega)).trans e53
      refine x_aload_0 dX8_wants_46 ?_
      refine x_V0i dX8_wants_47 m_X8_182 (c_X8_yot hB (thrT (yt S) l i) (yg S) (ys S) cn4 y4 (okT_thr y3 y7 (by omega)) (okS_thr y5.1) (SS_thr ss26 hl fr43 e43) e54 (by have := y5.2; omega)) (by assumption) (fun x47 I47 h47 => ?_)
      obtain ⟨yf47, ys47, rfl⟩ := h47
      refine x_iload_1 dX8_wants_50 ?_
      refine x_S2i dX8_wants_51 m_X8_224 (c_X8_hasBit (ydB (thrT (yt S) l i) (yg S) (selS (thrT (yt S) l i) (yg S) (ys S))) l (ydB_lt (t := thrT (yt S) l i) hn6) (by omega)) (fun x51 I51 h51 => ?_)
      obtain ⟨rfl, ⟨rfl, hbb⟩ | ⟨rfl, hbb⟩⟩ := h51
      · have hq := bitF_bit (fun l2 => decide (nY (yg S) ≤ sD (selS (thrT (yt S) l i) (yg S) (ys S)) l2)) (show l < tN (thrT (yt S) l i) from hl)
        have hq2 : ydB (thrT (yt S) l i) (yg S) (selS (thrT (yt S) l i) (yg S) (ys S)) / 2 ^ l % 2 = if wantQ (yt S) (yg S) (ys S) l i then 1 else 0 := hq
        rw [hq2] at hbb
        refine x_if_eqN dX8_wants_54 (by omega) (fun c54 => ?_) (fun c54 => ?_)
        · exfalso; omega
        · refine x_iload_2 dX8_wants_57 ?_
          exact x_iret (st := []) dX8_wants_58 rfl rfl (by
                have e1 : wantF (wantQ (yt S) (yg S) (ys S) l) 10 0 = nI i := by
                  rw [hw, h10]
                  refine if_pos ?_
                  cases z : wantQ (yt S) (yg S) (ys S) l i with
                  | true => rfl
                  | false => rw [z] at hbb; exact absurd hbb (by decide)
                rw [← e1]
                exact hF _ (fun x j hx => (yf47 x j hx).trans ((fr43 x j (by unfold FtS at hx; omega)).trans ((fr26 x j hx).trans (hfr x j hx)))))
      · have hq := bitF_bit (fun l2 => decide (nY (yg S) ≤ sD (selS (thrT (yt S) l i) (yg S) (ys S)) l2)) (show l < tN (thrT (yt S) l i) from hl)
        have hq2 : ydB (thrT (yt S) l i) (yg S) (selS (thrT (yt S) l i) (yg S) (ys S)) / 2 ^ l % 2 = if wantQ (yt S) (yg S) (ys S) l i then 1 else 0 := hq
        rw [hq2] at hbb
        refine x_if_eqN dX8_wants_54 (by omega) (fun c54 => ?_) (fun c54 => ?_)
        · refine x_iinc_2 dX8_wants_59 (iinc1 _) rfl rfl ?_
          refine x_goto dX8_wants_62 ?_
          refine ih (i + 1) _ (by omega) (by omega) (fun x j hx => (yf47 x j hx).trans ((fr43 x j (by unfold FtS at hx; omega)).trans ((fr26 x j hx).trans (hfr x j hx)))) ?_
          rw [hw, h10]
          exact if_neg (fun z => by rw [if_pos z] at hbb; exact absurd hbb (by decide))
        · exfalso; omega
set_option maxHeartbeats 4000000 in
theorem c_X8_wants {r : Ev} {n : Nat} {I : MI} {Q : MQ2} {S : Sy} (hc : CW n I Q S) (hok : okY S) (x : Int32) : CT r 6 yX8_wants cX8_wants (3, (some .int)) (0, 0) [.ref (evz r + 0), .int x] n I Q (ri Q (fun v J => FrW I Q J Q ∧ CW n J Q (A_wants S x).2 ∧ v = (A_wants S x).1)) := by
  refine ct_of (lv := [some (.ref (evz r + 0)), some (.int x), none]) (by decide +kernel) rfl rfl rfl ?_
  obtain ⟨na, nb, p1, p2, hB, hI⟩ := id hc
  obtain ⟨o0, oT, oR, oN, oL, oA, oK, oG, oW, oX, oD, hnn, u0, u1, u2, u3, u4, u5, u6, u7, u8, u9⟩ := id hB
  have oT1 := oT.1
  have oN1 := oN.1
  have oL1 := oL.1
  have oA1 := oA.1
  have oK1 := oK.1
  have oG1 := oG.1
  have oW1 := oW.1
  have oX1 := oX.1
  have oD1 := oD.1
  have oR1 := oR.1
  obtain ⟨ct, cs, ca, ck, cg, cn⟩ := id hI
  obtain ⟨y1, y2, y3, y4, y5, y6, y7, y8, y9, y10, y11, y12⟩ := id hok
  have hn6 := y3.1
  have hsh : ∀ l, l < tN (yt S) → sH (ys S) l ≤ 1 := fun l hl => (y5.1.1 l hl).2.2
  refine x_aload_0 dX8_wants_0 ?_
  refine x_iload_1 dX8_wants_1 ?_
  refine x_V1i dX8_wants_2 m_X8_107 (c_X8_isNoLoom hB (tN (yt S)) x cs.1.1 y6 hn6) (by assumption) (fun x2 I2 h2 => ?_)
  obtain ⟨rfl, ⟨rfl, h2⟩ | ⟨rfl, h2⟩⟩ := h2
  · refine x_if_eqN dX8_wants_5 (by omega) (fun c5 => ?_) (fun c5 => ?_)
    · exfalso; omega
    · refine x_iconst (v := -1) dX8_wants_8 rfl ?_
      exact x_iret (st := []) dX8_wants_9 rfl rfl (⟨_, rfl, rfl, by unfold A_wants; rw [onI_n h2]; exact ⟨FrW.rf, hc, rfl⟩⟩)
  · obtain ⟨l, l0, l1, rfl⟩ := h2
    have hl : l < tN (yt S) := by omega
    have lm := cs.1.2.2.2 l hl
    have hsl := hsh l hl
    have hDl := (y5.1.1 l hl).2.1
    have hTl := y7 l hl
    refine x_if_eqN dX8_wants_5 (by omega) (fun c5 => ?_) (fun c5 => ?_)
    · refine x_const (c := 0) dX8_wants_10 rfl ?_
      refine x_istore_2 dX8_wants_11 rfl rfl ?_
      refine l_cwants hc hok l hl (fun J q1 => ⟨_, rfl, rfl, ?_⟩) 11 0 _ (by omega) (by omega) (fun _ _ _ => rfl) rfl
      unfold A_wants
      rw [onI_y (by omega) (by omega) (by omega)]
      obtain ⟨z1, z2⟩ := CW_q (J := J) hB hI hok (fun x j hx => q1 x j (by unfold Qry at hx; unfold FtS; omega))
      exact ⟨z1, z2, rfl⟩
    · exfalso; omega
theorem slp_shd {I J : MI} {b : Nat} {t : Tp} {s : St} {set i : Nat} (h : slp I b t (shdS i s set)) (fr : Fr1 I J (b + 3 + i) 6) (e : J (b + 3 + i) 6 = nI 1) (hb : set / 2 ^ i % 2 = 1) : slp J b t (shdS (i + 1) s set) := by
  obtain ⟨h1, h2, h3, h4⟩ := h
  refine ⟨(fr _ _ (by omega)).trans h1, (fr _ _ (by omega)).trans h2, (fr _ _ (by omega)).trans h3, fun k hk => ?_⟩
  obtain ⟨a0, a1, a2, a3, a4, a6⟩ := h4 k hk
  refine ⟨(fr _ _ (by omega)).trans a0, (fr _ _ (by omega)).trans a1, (fr _ _ (by omega)).trans a2, (fr _ _ (by omega)).trans a3, (fr _ _ (by omega)).trans a4, ?_⟩
  show J (b + 3 + k) 6 = nI (if k < i + 1 ∧ set / 2 ^ k % 2 = 1 then 1 else sH s k)
  by_cases z : k = i
  · subst z; rw [if_pos ⟨Nat.lt_succ_self k, hb⟩]; exact e
  · have a6 : I (b + 3 + k) 6 = nI (if k < i ∧ set / 2 ^ k % 2 = 1 then 1 else sH s k) := a6
    rw [fr _ _ (by omega), a6]
    congr 1
    by_cases y : k < i ∧ set / 2 ^ k % 2 = 1
    · rw [if_pos y, if_pos ⟨by omega, y.2⟩]
    · rw [if_neg y, if_neg (fun q => y ⟨by omega, q.2⟩)]
theorem shd_no {N : Nat} {s : St} {set i : Nat} (hb : set / 2 ^ i % 2 = 0) : eqS N (shdS i s set) (shdS (i + 1) s set) := by
  refine ⟨fun k hk => ⟨rfl, rfl, rfl, ?_⟩, rfl, rfl⟩
  show (if k < i ∧ set / 2 ^ k % 2 = 1 then 1 else sH s k) = (if k < i + 1 ∧ set / 2 ^ k % 2 = 1 then 1 else sH s k)
  by_cases z : k = i
  · subst z; rw [if_neg (fun q => absurd q.1 (Nat.lt_irrefl k)), if_neg (fun q => by omega)]
  · by_cases y : k < i ∧ set / 2 ^ k % 2 = 1
    · rw [if_pos y, if_pos ⟨by omega, y.2⟩]
    · rw [if_neg y, if_neg (fun q => y ⟨by omega, q.2⟩)]
set_option maxHeartbeats 4000000 in
theorem l_shT {r : Ev} {n : Nat} {Q : MQ2} {F : Post} {I0 : MI} {na nb : Nat} {p1 p2 : Nat → Nat} (hB : CWB n Q na nb p1 p2) (t : Tp) (s : St) (hn : tN t ≤ 6) (h52 : I0 5 2 = nI (tN t)) (set : Nat) (hset : set < 128) (hF : ∀ J, FrS I0 J (FtS 14) → slp J 14 t (shdS (tN t) s set) → (∀ j, J 16 j = I0 16 j) → F none J Q) : ∀ (k : Nat) (i : Nat) (I : MI), i ≤ tN t → i + k = tN t + 1 → FrS I0 I (FtS 14) → slp I 14 t (shdS i s set) → (∀ j, I 16 j = I0 16 j) → X r 3 yX8_shadeTrial cX8_shadeTrial (3, none) (0, 0) 13 [some (.ref (evz r + 0)), some (.int (nI set)), some (.int (nI i))] [] n I Q F := by
  intro k
  induction k with
  | zero => intros; omega
  | succ k ih =>
    intro i I hi0 hi hfr hs h16
    obtain ⟨o0, oT, oR, oN, oL, oA, oK, oG, oW, oX, oD, hnn, u0, u1, u2, u3, u4, u5, u6, u7, u8, u9⟩ := id hB
    have oT1 := oT.1
    have oN1 := oN.1
    have oL1 := oL.1
    have oA1 := oA.1
    have oK1 := oK.1
    have oG1 := oG.1
    have oW1 := oW.1
    have oX1 := oX.1
    have oD1 := oD.1
    have oR1 := oR.1
    refine x_iload_2 dX8_shadeTrial_13 ?_
    refine x_aload_0 dX8_shadeTrial_14 ?_
    refine x_getr dX8_shadeTrial_15 f_X8_26 (by assumption) u2 ?_
    refine x_getV dX8_shadeTrial_18 f_X8_185 (by assumption) ((hfr _ _ (by unfold FtS; omega)).trans h52) ?_
    refine x_icmp_geN dX8_shadeTrial_21 (by omega) (by omega) (fun c21 => ?_) (fun c21 => ?_)
    · have e9 : i = tN t := by omega
      subst e9
      exact x_vret (st := []) dX8_shadeTrial_50 rfl (hF _ hfr hs h16)
    · refine x_iload_1 dX8_shadeTrial_24 ?_
      refine x_iload_2 dX8_shadeTrial_25 ?_
      refine x_S2i dX8_shadeTrial_26 m_X8_224 (c_X8_hasBit set i hset (by omega)) (fun x26 I26 h26 => ?_)
      obtain ⟨rfl, ⟨rfl, hbb⟩ | ⟨rfl, hbb⟩⟩ := h26
      · refine x_if_eqN dX8_shadeTrial_29 (by omega) (fun c29 => ?_) (fun c29 => ?_)
        · exfalso; omega
        · refine x_aload_0 dX8_shadeTrial_32 ?_
          refine x_getr dX8_shadeTrial_33 f_X8_30 (by assumption) u3 ?_
          refine x_iload_2 dX8_shadeTrial_36 ?_
          refine x_V1o dX8_shadeTrial_37 m_X8_111 (c_X5_pick 14 i oL (by omega)) (by assumption) ?_
          refine x_const (c := 1) dX8_shadeTrial_40 rfl ?_
          refine x_putB dX8_shadeTrial_41 f_X8_150 (oL.2.2.2.1 i (by omega)) (by exact Or.inr rfl) (fun J41 fr41 e41 => ?_)
          refine x_iinc_2 dX8_shadeTrial_44 (iinc1 _) rfl rfl ?_
          refine x_goto dX8_shadeTrial_47 ?_
          exact ih (i + 1) _ (by omega) (by omega) (fun x j hx => (fr41 x j (by unfold FtS at hx; omega)).trans (hfr x j hx)) (slp_shd hs fr41 e41 hbb) (fun j => (fr41 _ _ (by omega)).trans (h16 j))
      · refine x_if_eqN dX8_shadeTrial_29 (by omega) (fun c29 => ?_) (fun c29 => ?_)
        · refine x_iinc_2 dX8_shadeTrial_44 (iinc1 _) rfl rfl ?_
          refine x_goto dX8_shadeTrial_47 ?_
          exact ih (i + 1) _ (by omega) (by omega) hfr (slp_cong hs (shd_no hbb)) h16
        · exfalso; omega
set_option maxHeartbeats 4000000 in
theorem c_X8_shadeTrial {r : Ev} {n : Nat} {I : MI} {Q : MQ2} {na nb : Nat} {p1 p2 : Nat → Nat} (hB : CWB n Q na nb p1 p2) (t : Tp) (s : St) (hn : tN t ≤ 6) (cs : SS I 5 t s) (hsh : ∀ l, l < tN t → sH s l ≤ 1) (set : Nat) (hset : set < 128) : CT r 3 yX8_shadeTrial cX8_shadeTrial (3, none) (0, 0) [.ref (evz r + 0), .int (nI set)] n I Q (rv Q (fun J => FrS I J (FtS 14) ∧ SS J 14 t (shdS (tN t) s set))) := by
  refine ct_of (lv := [some (.ref (evz r + 0)), some (.int (nI set)), none]) (by decide +kernel) rfl rfl rfl ?_
  obtain ⟨o0, oT, oR, oN, oL, oA, oK, oG, oW, oX, oD, hnn, u0, u1, u2, u3, u4, u5, u6, u7, u8, u9⟩ := id hB
  have oT1 := oT.1
  have oN1 := oN.1
  have oL1 := oL.1
  have oA1 := oA.1
  have oK1 := oK.1
  have oG1 := oG.1
  have oW1 := oW.1
  have oX1 := oX.1
  have oD1 := oD.1
  have oR1 := oR.1
  refine x_aload_0 dX8_shadeTrial_0 ?_
  refine x_getr dX8_shadeTrial_1 f_X8_30 (by assumption) u3 ?_
  refine x_aload_0 dX8_shadeTrial_4 ?_
  refine x_getr dX8_shadeTrial_5 f_X8_26 (by assumption) u2 ?_
  refine x_V1v dX8_shadeTrial_8 m_X8_176 (c_X5_copy 14 5 t s oL oN (by omega) cs.1 cs.2 hn hsh) (by assumption) (fun I8 h8 => ?_)
  obtain ⟨f8, s8, k8⟩ := h8
  refine x_const (c := 0) dX8_shadeTrial_11 rfl ?_
  refine x_istore_2 dX8_shadeTrial_12 rfl rfl ?_
  exact l_shT hB t s hn ((f8 _ _ (by unfold FtS; omega)).trans cs.1.1) set hset (fun J q1 q2 q3 => ⟨rfl, rfl, fun x j hx => (q1 x j hx).trans (f8 x j hx), q2, rkp_cong (rkp_fr k8 q3) (fun l hl => rfl)⟩) (tN t + 1) 0 _ (by omega) (by omega) (fun _ _ _ => rfl) (slp_cong s8 ⟨fun l hl => ⟨rfl, rfl, rfl, (if_neg (c := l < 0 ∧ set / 2 ^ l % 2 = 1) (t := 1) (fun q => absurd q.1 (Nat.not_lt_zero l))).symm⟩, rfl, rfl⟩) (fun _ => rfl)
theorem and_can : ∀ a, a < 64 → ∀ b, b < 64 → (nI a &&& nI b = 0 ↔ ∀ l, l < 6 → a / 2 ^ l % 2 = 1 → b / 2 ^ l % 2 = 0) := by decide +kernel
theorem can_iff {N : Nat} {s : St} {set : Nat} (hN : N ≤ 6) (hset : set < 2 ^ N) : nI set &&& nI (bitF (fun l => decide (sH s l ≠ 0)) N) = 0 ↔ canS N s set := by
  have hpw := pw6 N (by omega)
  rw [and_can set (by omega) _ (bitF_le (k := 6) hN)]
  constructor
  · intro h l hl hb
    have h1 := h l (by omega) hb
    rw [bitF_bit _ hl] at h1
    by_cases z : sH s l = 0
    · exact z
    · rw [if_pos (decide_eq_true z)] at h1; exact absurd h1 (by decide)
  · intro h l hl hb
    by_cases y : l < N
    · rw [bitF_bit _ y, h l y hb]; rfl
    · rw [Nat.div_eq_of_lt (Nat.lt_of_lt_of_le hset (Nat.pow_le_pow_right (by decide) (by omega)))] at hb
      exact absurd hb (by decide)
set_option maxHeartbeats 4000000 in
theorem l_cshd {r : Ev} {n : Nat} {Q : MQ2} {F : Post} {I0 : MI} {S : Sy} (hc : CW n I0 Q S) (hok : okY S) (w1 : Option Value) (hx : ∀ (J : MI) (w6 w7 : Option Value), FrS I0 J (FtS 14) → X r 6 yX8_shading cX8_shading (8, (some .int)) (0, 0) 128 [some (.ref (evz r + 0)), w1, some (.int (nI (bitF (fun l => decide (sH (ys S) l ≠ 0)) (tN (yt S))))), some (.int (nI (shF (yt S) (yg S) (ys S) (2 ^ tN (yt S) - 1)).2)), some (.int (nI (shF (yt S) (yg S) (ys S) (2 ^ tN (yt S) - 1)).1)), some (.int (nI (2 ^ tN (yt S)))), w6, w7] [] n J Q F) : ∀ (k : Nat) (set : Nat) (I : MI) (w6 w7 : Option Value), 0 < set → set ≤ 2 ^ tN (yt S) → set + k = 2 ^ tN (yt S) + 1 → FrS I0 I (FtS 14) → X r 6 yX8_shading cX8_shading (8, (some .int)) (0, 0) 38 [some (.ref (evz r + 0)), w1, some (.int (nI (bitF (fun l => decide (sH (ys S) l ≠ 0)) (tN (yt S))))), some (.int (nI (shF (yt S) (yg S) (ys S) (set - 1)).2)), some (.int (nI (shF (yt S) (yg S) (ys S) (set - 1)).1)), some (.int (nI set)), w6, w7] [] n I Q F := by
  intro k
  induction k with
  | zero => intros; omega
  | succ k ih =>
    intro set I w6 w7 hi1 hi0 hi hfr
    obtain ⟨na, nb, p1, p2, hB, hI⟩ := id hc
    obtain ⟨o0, oT, oR, oN, oL, oA, oK, oG, oW, oX, oD, hnn, u0, u1, u2, u3, u4, u5, u6, u7, u8, u9⟩ := id hB
    have oT1 := oT.1
    have oN1 := oN.1
    have oL1 := oL.1
    have oA1 := oA.1
    have oK1 := oK.1
    have oG1 := oG.1
    have oW1 := oW.1
    have oX1 := oX.1
    have oD1 := oD.1
    have oR1 := oR.1
    obtain ⟨ct, cs, ca, ck, cg, cn⟩ := id hI
    obtain ⟨y1, y2, y3, y4, y5, y6, y7, y8, y9, y10, y11, y12⟩ := id hok
    have hn6 := y3.1
    have hsh : ∀ l, l < tN (yt S) → sH (ys S) l ≤ 1 := fun l hl => (y5.1.1 l hl).2.2
    have cs2 : SS I 5 (yt S) (ys S) := cs.fr hn6 (fun x j z1 z2 => hfr x j (by unfold FtS; omega))
    have cn2 : ntp I na (yg S) := ntp_fr cn (fun x j hx => hfr x j (by unfold FtS; omega))
    have cg2 : sgp I 117 (yG S) := sgp_fr cg (fun x j z1 z2 => hfr x j (by unfold FtS; omega))
    refine x_iload_5 dX8_shading_38 ?_
    refine x_const (c := 1) dX8_shading_40 rfl ?_
    refine x_aload_0 dX8_shading_41 ?_
    refine x_getr dX8_shading_42 f_X8_26 (by assumption) u2 ?_
    refine x_getV dX8_shading_45 f_X8_185 (by assumption) cs2.1.1 ?_
    have hpw := pw6 (tN (yt S)) (by omega)
    refine x_ishl dX8_shading_48 ?_
    rw [shl_1 (tN (yt S)) (by omega)]
    refine x_icmp_geN dX8_shading_49 (by omega) (by omega) (fun c49 => ?_) (fun c49 => ?_)
    · have e9 : set = 2 ^ tN (yt S) := by omega
      subst e9
      exact hx _ _ _ hfr
    · refine x_iload_5 dX8_shading_52 ?_
      refine x_iload_2 dX8_shading_54 ?_
      refine x_iand dX8_shading_55 ?_
      refine x_if_eq dX8_shading_56 (fun c56 => ?_) (fun c56 => ?_)
      · have hcan := (can_iff hn6 (by omega)).mp c56
        refine x_aload_0 dX8_shading_62 ?_
        refine x_iload_5 dX8_shading_63 ?_
        refine x_V1v dX8_shading_65 m_X8_218 (c_X8_shadeTrial hB (yt S) (ys S) hn6 cs2 hsh set (by omega)) (by assumption) (fun I65 h65 => ?_)
        obtain ⟨tf65, tt65⟩ := h65
        refine x_aload_0 dX8_shading_68 ?_
        refine x_V0i dX8_shading_69 m_X8_182 (c_X8_yot hB (yt S) (yg S) (shdS (tN (yt S)) (ys S) set) (ntp_fr cn2 (fun x j hx => tf65 x j (by unfold FtS; omega))) y4 y3 (okS_shd y5.1) tt65 ((tf65 _ _ (by unfold FtS; omega)).trans cs2.1.2.1) (by show sR (ys S) ≤ 200; have := y5.2; omega)) (by assumption) (fun x69 I69 h69 => ?_)
        obtain ⟨yf69, ys69, rfl⟩ := h69
        refine x_S1i dX8_shading_72 m_X8_195 (c_bitCount _ (bitF_le (k := 6) hn6)) (fun x72 I72 h72 => ?_)
        obtain ⟨rfl, rfl⟩ := h72
        refine x_istore_6 dX8_shading_75 rfl rfl ?_
        refine x_iload_5 dX8_shading_77 ?_
        refine x_S1i dX8_shading_79 m_X8_195 (c_bitCount set (by omega)) (fun x79 I79 h79 => ?_)
        obtain ⟨rfl, rfl⟩ := h79
        refine x_iload_3 dX8_shading_82 ?_
        refine x_S1i dX8_shading_83 m_X8_195 (c_bitCount _ (by have := shF_le2 (yt S) (yg S) (ys S) (set - 1); omega)) (fun x83 I83 h83 => ?_)
        obtain ⟨rfl, rfl⟩ := h83
        have o1 := ones6_le set
        have o2 := ones6_le (shF (yt S) (yg S) (ys S) (set - 1)).2
        have hy6 := ones6_le (ydB (yt S) (yg S) (selS (yt S) (yg S) (shdS (tN (yt S)) (ys S) set)))
        have hm6 := shF_le (yt S) (yg S) (ys S) (set - 1)
        refine x_icmp_geN dX8_shading_86 (by omega) (by omega) (fun c86 => ?_) (fun c86 => ?_)
        · refine x_const (c := 0) dX8_shading_93 rfl ?_
          refine x_istore_7 dX8_shading_94 rfl rfl ?_
          refine x_iload_6 dX8_shading_96 ?_
          refine x_iload_4 dX8_shading_98 ?_
          refine x_icmp_gtN dX8_shading_100 (by omega) (by omega) (fun c100 => ?_) (fun c100 => ?_)
          · refine x_iload_6 dX8_shading_115 ?_
            refine x_istore_4 dX8_shading_117 rfl rfl ?_
            refine x_iload_5 dX8_shading_119 ?_
            refine x_istore_3 dX8_shading_121 rfl rfl ?_
            refine x_iinc_5 dX8_shading_122 (iinc1 _) rfl rfl ?_
            refine x_goto dX8_shading_125 ?_
            have e1 := shF_yes (t := yt S) (g := yg S) (s := ys S) (set := set) hi1 ⟨hcan, Or.inl (show (shF (yt S) (yg S) (ys S) (set - 1)).1 < ones6 (ydB (yt S) (yg S) (selS (yt S) (yg S) (shdS (tN (yt S)) (ys S) set))) from c100)⟩
            have h9 := fun w6 w7 => ih (set + 1) _ w6 w7 (by omega) (by omega) (by omega) (fun x j hx => (yf69 x j hx).trans ((tf65 x j hx).trans (hfr x j hx)))
            rw [e1] at h9
            exact h9 _ _
          · refine x_iload_6 dX8_shading_103 ?_
            refine x_iload_4 dX8_shading_105 ?_
            refine x_icmp_neN dX8_shading_107 (by omega) (by omega) (fun c107 => ?_) (fun c107 => ?_)
            · refine x_iinc_5 dX8_shading_122 (iinc1 _) rfl rfl ?_
              refine x_goto dX8_shading_125 ?_
              have e1 := shF_no (t := yt S) (g := yg S) (s := ys S) (set := set) hi1 (fun q => by
                have q2 := q.2
                have e8 : yShd (yt S) (yg S) (ys S) set = ones6 (ydB (yt S) (yg S) (selS (yt S) (yg S) (shdS (tN (yt S)) (ys S) set))) := rfl
                rw [e8] at q2
                omega)
              have h9 := fun w6 w7 => ih (set + 1) _ w6 w7 (by omega) (by omega) (by omega) (fun x j hx => (yf69 x j hx).trans ((tf65 x j hx).trans (hfr x j hx)))
              rw [e1] at h9
              exact h9 _ _
            · refine x_iload_7 dX8_shading_110 ?_
              refine x_if_eqN dX8_shading_112 (by omega) (fun c112 => ?_) (fun c112 => ?_)
              · refine x_iinc_5 dX8_shading_122 (iinc1 _) rfl rfl ?_
                refine x_goto dX8_shading_125 ?_
                have e1 := shF_no (t := yt S) (g := yg S) (s := ys S) (set := set) hi1 (fun q => by
                  have q2 := q.2
                  have e8 : yShd (yt S) (yg S) (ys S) set = ones6 (ydB (yt S) (yg S) (selS (yt S) (yg S) (shdS (tN (yt S)) (ys S) set))) := rfl
                  rw [e8] at q2
                  omega)
                have h9 := fun w6 w7 => ih (set + 1) _ w6 w7 (by omega) (by omega) (by omega) (fun x j hx => (yf69 x j hx).trans ((tf65 x j hx).trans (hfr x j hx)))
                rw [e1] at h9
                exact h9 _ _
              · exfalso; omega
        · refine x_const (c := 1) dX8_shading_89 rfl ?_
          refine x_goto dX8_shading_90 ?_
          refine x_istore_7 dX8_shading_94 rfl rfl ?_
          refine x_iload_6 dX8_shading_96 ?_
          refine x_iload_4 dX8_shading_98 ?_
          refine x_icmp_gtN dX8_shading_100 (by omega) (by omega) (fun c100 => ?_) (fun c100 => ?_)
          · refine x_iload_6 dX8_shading_115 ?_
            refine x_istore_4 dX8_shading_117 rfl rfl ?_
            refine x_iload_5 dX8_shading_119 ?_
            refine x_istore_3 dX8_shading_121 rfl rfl ?_
            refine x_iinc_5 dX8_shading_122 (iinc1 _) rfl rfl ?_
            refine x_goto dX8_shading_125 ?_
            have e1 := shF_yes (t := yt S) (g := yg S) (s := ys S) (set := set) hi1 ⟨hcan, Or.inl (show (shF (yt S) (yg S) (ys S) (set - 1)).1 < ones6 (ydB (yt S) (yg S) (selS (yt S) (yg S) (shdS (tN (yt S)) (ys S) set))) from c100)⟩
            have h9 := fun w6 w7 => ih (set + 1) _ w6 w7 (by omega) (by omega) (by omega) (fun x j hx => (yf69 x j hx).trans ((tf65 x j hx).trans (hfr x j hx)))
            rw [e1] at h9
            exact h9 _ _
          · refine x_iload_6 dX8_shading_103 ?_
            refine x_iload_4 dX8_shading_105 ?_
            refine x_icmp_neN dX8_shading_107 (by omega) (by omega) (fun c107 => ?_) (fun c107 => ?_)
            · refine x_iinc_5 dX8_shading_122 (iinc1 _) rfl rfl ?_
              refine x_goto dX8_shading_125 ?_
              have e1 := shF_no (t := yt S) (g := yg S) (s := ys S) (set := set) hi1 (fun q => by
                have q2 := q.2
                have e8 : yShd (yt S) (yg S) (ys S) set = ones6 (ydB (yt S) (yg S) (selS (yt S) (yg S) (shdS (tN (yt S)) (ys S) set))) := rfl
                rw [e8] at q2
                omega)
              have h9 := fun w6 w7 => ih (set + 1) _ w6 w7 (by omega) (by omega) (by omega) (fun x j hx => (yf69 x j hx).trans ((tf65 x j hx).trans (hfr x j hx)))
              rw [e1] at h9
              exact h9 _ _
            · refine x_iload_7 dX8_shading_110 ?_
              refine x_if_eqN dX8_shading_112 (by omega) (fun c112 => ?_) (fun c112 => ?_)
              · exfalso; omega
              · refine x_iload_6 dX8_shading_115 ?_
                refine x_istore_4 dX8_shading_117 rfl rfl ?_
                refine x_iload_5 dX8_shading_119 ?_
                refine x_istore_3 dX8_shading_121 rfl rfl ?_
                refine x_iinc_5 dX8_shading_122 (iinc1 _) rfl rfl ?_
                refine x_goto dX8_shading_125 ?_
                have e1 := shF_yes (t := yt S) (g := yg S) (s := ys S) (set := set) hi1 ⟨hcan, Or.inr ⟨show ones6 (ydB (yt S) (yg S) (selS (yt S) (yg S) (shdS (tN (yt S)) (ys S) set))) = _ from by omega, by omega⟩⟩
                have h9 := fun w6 w7 => ih (set + 1) _ w6 w7 (by omega) (by omega) (by omega) (fun x j hx => (yf69 x j hx).trans ((tf65 x j hx).trans (hfr x j hx)))
                rw [e1] at h9
                exact h9 _ _
      · have hcan : ¬ canS (tN (yt S)) (ys S) set := fun z => c56 ((can_iff hn6 (by omega)).mpr z)
        refine x_goto dX8_shading_59 ?_
        refine x_iinc_5 dX8_shading_122 (iinc1 _) rfl rfl ?_
        refine x_goto dX8_shading_125 ?_
        have e1 := shF_no (t := yt S) (g := yg S) (s := ys S) (set := set) hi1 (fun q => hcan q.1)
        have h9 := fun w6 w7 => ih (set + 1) _ w6 w7 (by omega) (by omega) (by omega) hfr
        rw [e1] at h9
        exact h9 _ _
set_option maxHeartbeats 4000000 in
theorem c_X8_shading {r : Ev} {n : Nat} {I : MI} {Q : MQ2} {S : Sy} (hc : CW n I Q S) (hok : okY S) (x : Int32) : CT r 6 yX8_shading cX8_shading (8, (some .int)) (0, 0) [.ref (evz r + 0), .int x] n I Q (ri Q (fun v J => FrW I Q J Q ∧ CW n J Q (A_shading S x).2 ∧ v = (A_shading S x).1)) := by
  refine ct_of (lv := [some (.ref (evz r + 0)), some (.int x), none, none, none, none, none, none]) (by decide +kernel) rfl rfl rfl ?_
  obtain ⟨na, nb, p1, p2, hB, hI⟩ := id hc
  obtain ⟨o0, oT, oR, oN, oL, oA, oK, oG, oW, oX, oD, hnn, u0, u1, u2, u3, u4, u5, u6, u7, u8, u9⟩ := id hB
  have oT1 := oT.1
  have oN1 := oN.1
  have oL1 := oL.1
  have oA1 := oA.1
  have oK1 := oK.1
  have oG1 := oG.1
  have oW1 := oW.1
  have oX1 := oX.1
  have oD1 := oD.1
  have oR1 := oR.1
  obtain ⟨ct, cs, ca, ck, cg, cn⟩ := id hI
  obtain ⟨y1, y2, y3, y4, y5, y6, y7, y8, y9, y10, y11, y12⟩ := id hok
  have hn6 := y3.1
  have hsh : ∀ l, l < tN (yt S) → sH (ys S) l ≤ 1 := fun l hl => (y5.1.1 l hl).2.2
  refine x_iload_1 dX8_shading_0 ?_
  refine x_const (c := 0) dX8_shading_1 rfl ?_
  refine x_const (c := 1) dX8_shading_2 rfl ?_
  refine x_S3i dX8_shading_3 m_X8_91 (c_isOutB x 0 1 (by omega) (by omega)) (fun x3 I3 h3 => ?_)
  obtain ⟨rfl, ⟨rfl, h3⟩ | ⟨rfl, h3⟩⟩ := h3
  · refine x_if_eqN dX8_shading_6 (by omega) (fun c6 => ?_) (fun c6 => ?_)
    · exfalso; omega
    · refine x_iconst (v := -1) dX8_shading_9 rfl ?_
      exact x_iret (st := []) dX8_shading_10 rfl rfl (⟨_, rfl, rfl, by unfold A_shading; rw [onI_n h3]; exact ⟨FrW.rf, hc, rfl⟩⟩)
  · obtain ⟨wh, wh0, wh1, rfl⟩ := h3
    refine x_if_eqN dX8_shading_6 (by omega) (fun c6 => ?_) (fun c6 => ?_)
    · refine x_aload_0 dX8_shading_11 ?_
      refine x_getr dX8_shading_12 f_X8_26 (by assumption) u2 ?_
      refine x_V0i dX8_shading_15 m_X8_215 (c_X5_shades 5 (yt S) (ys S) oN cs.1 hn6 (fun l hl => by have h1 := y5.1.1 l hl; have h2 := y7 l hl; exact ⟨by omega, by omega⟩)) (by assumption) (fun x15 I15 h15 => ?_)
      obtain ⟨rfl, rfl⟩ := h15
      refine x_istore_2 dX8_shading_18 rfl rfl ?_
      refine x_const (c := 0) dX8_shading_19 rfl ?_
      refine x_istore_3 dX8_shading_20 rfl rfl ?_
      refine x_aload_0 dX8_shading_21 ?_
      refine x_iload_3 dX8_shading_22 ?_
      refine x_V1v dX8_shading_23 m_X8_218 (c_X8_shadeTrial hB (yt S) (ys S) hn6 cs hsh 0 (by omega)) (by assumption) (fun I23 h23 => ?_)
      obtain ⟨tf23, tt23⟩ := h23
      refine x_aload_0 dX8_shading_26 ?_
      refine x_V0i dX8_shading_27 m_X8_182 (c_X8_yot hB (yt S) (yg S) (shdS (tN (yt S)) (ys S) 0) (ntp_fr cn (fun x j hx => tf23 x j (by unfold FtS; omega))) y4 y3 (okS_shd y5.1) tt23 ((tf23 _ _ (by unfold FtS; omega)).trans cs.1.2.1) (by show sR (ys S) ≤ 200; have := y5.2; omega)) (by assumption) (fun x27 I27 h27 => ?_)
      obtain ⟨yf27, ys27, rfl⟩ := h27
      refine x_S1i dX8_shading_30 m_X8_195 (c_bitCount _ (bitF_le (k := 6) hn6)) (fun x30 I30 h30 => ?_)
      obtain ⟨rfl, rfl⟩ := h30
      refine x_istore_4 dX8_shading_33 rfl rfl ?_
      refine x_const (c := 1) dX8_shading_35 rfl ?_
      refine x_istore_5 dX8_shading_36 rfl rfl ?_
      have h0p := Nat.two_pow_pos (tN (yt S))
      refine l_cshd hc hok _ (fun J2 w6 w7 q1 => ?_) (2 ^ tN (yt S)) 1 _ _ _ (by omega) (by omega) (by omega) (fun x j hx => (yf27 x j hx).trans (tf23 x j hx))
      refine x_iload_1 dX8_shading_128 ?_
      refine x_if_neN dX8_shading_129 (by omega) (fun c129 => ?_) (fun c129 => ?_)
      · refine x_iload_3 dX8_shading_137 ?_
        exact x_iret (st := []) dX8_shading_138 rfl rfl (⟨_, rfl, rfl, by unfold A_shading; rw [onI_y (by omega) (by omega) (by omega)]; obtain ⟨z1, z2⟩ := CW_q (J := _) hB hI hok (fun x j hx => q1 x j (by unfold Qry at hx; unfold FtS; omega)); exact ⟨z1, z2, by first | rw [if_pos (by omega)] | rw [if_neg (by omega)]⟩⟩)
      · refine x_iload_4 dX8_shading_132 ?_
        refine x_goto dX8_shading_134 ?_
        exact x_iret (st := []) dX8_shading_138 rfl rfl (⟨_, rfl, rfl, by unfold A_shading; rw [onI_y (by omega) (by omega) (by omega)]; obtain ⟨z1, z2⟩ := CW_q (J := _) hB hI hok (fun x j hx => q1 x j (by unfold Qry at hx; unfold FtS; omega)); exact ⟨z1, z2, by first | rw [if_pos (by omega)] | rw [if_neg (by omega)]⟩⟩)
    · exfalso; omega
