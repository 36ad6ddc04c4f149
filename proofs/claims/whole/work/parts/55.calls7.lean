set_option maxHeartbeats 4000000 in
theorem l_ass {r : Ev} {n : Nat} {Q : MQ2} {F : Post} {I0 : MI} {S : Sy} {RES : Bool} (hc : CW n I0 Q S) (hok : okY S) (c0 : Nat) (hF : ∀ J (v : Nat), FrS I0 J (FtS 14) → v ≤ 1 → (v = 1 ↔ RES = true) → F (some (.int (nI v))) J Q) : ∀ (k : Nat) (h ch : Nat) (s : St) (I : MI), h ≤ 13 → h + k = 13 + 1 → FrS I0 I (FtS 14) → SS I 14 (yt S) s → okS (yt S) s → sR s ≤ 200 + h → ch ≤ 9 → RES = soN (yt S) (yg S) (yG S) (13 - h) h ch s → X r 4 yX8_isAllSeenSo cX8_isAllSeenSo (4, (some .boolean)) (0, 0) 4 [some (.ref (evz r + 0)), some (.int (nI c0)), some (.int (nI ch)), some (.int (nI h))] [] n I Q F := by
  intro k
  induction k with
  | zero => intros; omega
  | succ k ih =>
    intro h ch s I hi0 hi hfr ss hk hR hch hr
    obtain ⟨na, nb, p1, p2, hB, hI⟩ := id hc
    obtain ⟨o0, oT, oR, oN, oL, oA, oK, oG, oW, oX, oD, hnn, u0, u1, u2, u3, u4, u5, u6, u7, u8, u9⟩ := id hB
    have oT1 := oT.1
    have oN1 := oN.1
    have oL1 := oL.1
    have oA1 := oA.1
    have oK1 := oK.1
    have oG1 := oG.1
    have oW1 := oW.1
    have oX1 := oX.1
    have oD1 := oD.1
    have oR1 := oR.1
    obtain ⟨ct, cs, ca, ck, cg, cn⟩ := id hI
    obtain ⟨y1, y2, y3, y4, y5, y6, y7, y8, y9, y10, y11, y12⟩ := id hok
    have hn6 := y3.1
    have hsh : ∀ l, l < tN (yt S) → sH (ys S) l ≤ 1 := fun l hl => (y5.1.1 l hl).2.2
    have cs2 : SS I 5 (yt S) (ys S) := cs.fr hn6 (fun x j z1 z2 => hfr x j (by unfold FtS; omega))
    have cn2 : ntp I na (yg S) := ntp_fr cn (fun x j hx => hfr x j (by unfold FtS; omega))
    have cg2 : sgp I 117 (yG S) := sgp_fr cg (fun x j z1 z2 => hfr x j (by unfold FtS; omega))
    refine x_iload_3 dX8_isAllSeenSo_4 ?_
    refine x_bip (c := 12) dX8_isAllSeenSo_5 (by decide) ?_
    refine x_icmp_gtN dX8_isAllSeenSo_7 (by omega) (by omega) (fun c7 => ?_) (fun c7 => ?_)
    · have h9 : h = 13 := by omega
      rw [h9] at hr
      have hr2 : RES = true := hr
      refine x_const (c := 1) dX8_isAllSeenSo_74 rfl ?_
      exact x_iret (st := []) dX8_isAllSeenSo_75 rfl (by first | rfl | exact bo01 (A := True) (B := True) (by first | exact Or.inl ⟨rfl, trivial⟩ | exact Or.inr ⟨rfl, trivial⟩)) (hF _ 1 hfr (by decide) ⟨fun _ => hr2, fun _ => rfl⟩)
    · have h13 : 13 - h = (13 - (h + 1)) + 1 := by omega
      rw [h13] at hr
      refine x_aload_0 dX8_isAllSeenSo_10 ?_
      refine x_getr dX8_isAllSeenSo_11 f_X8_48 (by assumption) u6 ?_
      refine x_aload_0 dX8_isAllSeenSo_14 ?_
      refine x_getr dX8_isAllSeenSo_15 f_X8_30 (by assumption) u3 ?_
      refine x_iload_3 dX8_isAllSeenSo_18 ?_
      refine x_V2i dX8_isAllSeenSo_19 m_X8_288 (c_X4_isSo 117 (yG S) oG cg2 y12.1 14 (yt S) s oL ss.1 hn6 (fun l hl => by have h1 := (hk.1 l hl).2.1; have := y7 l hl; omega) y12 h (by omega)) (by assumption) (fun x19 I19 h19 => ?_)
      obtain ⟨rfl, ⟨rfl, h19⟩ | ⟨rfl, h19⟩⟩ := h19
      · refine x_if_neN dX8_isAllSeenSo_22 (by omega) (fun c22 => ?_) (fun c22 => ?_)
        · refine x_aload_0 dX8_isAllSeenSo_27 ?_
          refine x_getr dX8_isAllSeenSo_28 f_X8_62 (by assumption) u8 ?_
          refine x_aload_0 dX8_isAllSeenSo_31 ?_
          refine x_getr dX8_isAllSeenSo_32 f_X8_30 (by assumption) u3 ?_
          refine x_iload_2 dX8_isAllSeenSo_35 ?_
          refine x_aload_0 dX8_isAllSeenSo_36 ?_
          refine x_getr dX8_isAllSeenSo_37 f_X8_62 (by assumption) u8 ?_
          refine x_aload_0 dX8_isAllSeenSo_40 ?_
          refine x_getr dX8_isAllSeenSo_41 f_X8_30 (by assumption) u3 ?_
          refine x_getV dX8_isAllSeenSo_44 f_X8_133 (by assumption) ss.1.2.1 ?_
          refine x_V1i dX8_isAllSeenSo_47 m_X8_124 (c_X1_mistOf na (yg S) oX cn2 y4.1 (sR s) (by omega)) (by assumption) (fun x47 I47 h47 => ?_)
          obtain ⟨rfl, rfl⟩ := h47
          refine x_V3v dX8_isAllSeenSo_50 m_X8_292 (c_X1_goByOne na 14 (yt S) s (yg S) oX cn2 oL ss y3 hk (by omega) (by have := y4.2.2.1; omega) (by omega) ch (mistF (yg S) (sR s)) hch (mist_le y4 _)) (by assumption) (fun I50 h50 => ?_)
          obtain ⟨qf, qs, qr⟩ := h50
          refine x_aload_0 dX8_isAllSeenSo_53 ?_
          refine x_getr dX8_isAllSeenSo_54 f_X8_62 (by assumption) u8 ?_
          refine x_aload_0 dX8_isAllSeenSo_57 ?_
          refine x_getr dX8_isAllSeenSo_58 f_X8_30 (by assumption) u3 ?_
          refine x_getV dX8_isAllSeenSo_61 f_X8_133 (by assumption) qs.1.2.1 ?_
          refine x_V1i dX8_isAllSeenSo_64 m_X8_121 (c_X1_coldOf na (yg S) oX (ntp_fr cn2 (fun x j hx => qf x j (by unfold FtS; omega))) y4.1 _ (by rw [sR_hour]; omega)) (by assumption) (fun x64 I64 h64 => ?_)
          obtain ⟨rfl, rfl⟩ := h64
          refine x_istore_2 dX8_isAllSeenSo_67 rfl rfl ?_
          refine x_iinc_3 dX8_isAllSeenSo_68 (iinc1 _) rfl rfl ?_
          refine x_goto dX8_isAllSeenSo_71 ?_
          refine ih (h + 1) _ _ _ (by omega) (by omega) (fun x j hx => (qf x j hx).trans (hfr x j hx)) qs (okS_hour hk) (by rw [sR_hour]; omega) (cold_le y4 _) ?_
          rw [hr, sR_hour]
          show (soB (yG S) s h (gn (yG S)) && _) = _
          rw [h19, Bool.true_and]
        · exfalso; omega
      · refine x_if_neN dX8_isAllSeenSo_22 (by omega) (fun c22 => ?_) (fun c22 => ?_)
        · exfalso; omega
        · refine x_const (c := 0) dX8_isAllSeenSo_25 rfl ?_
          exact x_iret (st := []) dX8_isAllSeenSo_26 rfl (by first | rfl | exact bo01 (A := True) (B := True) (by first | exact Or.inl ⟨rfl, trivial⟩ | exact Or.inr ⟨rfl, trivial⟩)) (hF _ 0 hfr (by decide) ⟨fun z => absurd z (by decide), fun z => by rw [hr] at z; have z2 : (soB (yG S) s h (gn (yG S)) && soN (yt S) (yg S) (yG S) (13 - (h + 1)) (h + 1) (coldF (yg S) (sR s + 1)) (hourS (yt S) (nS (yg S)) ch (mistF (yg S) (sR s)) s)) = true := z; rw [h19] at z2; cases z2⟩)
set_option maxHeartbeats 4000000 in
theorem c_X8_isAllSeenSo {r : Ev} {n : Nat} {I : MI} {Q : MQ2} {S : Sy} (hc : CW n I Q S) (hok : okY S) (s : St) (ss : SS I 14 (yt S) s) (hk : okS (yt S) s) (hR : sR s ≤ 200) (c0 : Nat) (hc0 : c0 ≤ 9) : CT r 4 yX8_isAllSeenSo cX8_isAllSeenSo (4, (some .boolean)) (0, 0) [.ref (evz r + 0), .int (nI c0)] n I Q (ri Q (fun v J => FrS I J (FtS 14) ∧ ((v = nI 1 ∧ soA (yt S) (yg S) (yG S) c0 s = true) ∨ (v = nI 0 ∧ soA (yt S) (yg S) (yG S) c0 s = false)))) := by
  refine ct_of (lv := [some (.ref (evz r + 0)), some (.int (nI c0)), none, none]) (by decide +kernel) rfl rfl rfl ?_
  refine x_iload_1 dX8_isAllSeenSo_0 ?_
  refine x_istore_2 dX8_isAllSeenSo_1 rfl rfl ?_
  refine x_const (c := 0) dX8_isAllSeenSo_2 rfl ?_
  refine x_istore_3 dX8_isAllSeenSo_3 rfl rfl ?_
  refine l_ass (RES := soA (yt S) (yg S) (yG S) c0 s) hc hok c0 (fun J v q1 q2 q3 => ⟨_, rfl, rfl, q1, ?_⟩) 14 0 c0 s _ (by omega) (by omega) (fun _ _ _ => rfl) ss hk (by omega) hc0 rfl
  rcases (show v = 0 ∨ v = 1 by omega) with rfl | rfl
  · refine Or.inr ⟨rfl, ?_⟩
    cases e : soA (yt S) (yg S) (yG S) c0 s with
    | false => rfl
    | true => exact absurd (q3.mpr e) (by decide)
  · exact Or.inl ⟨rfl, q3.mp rfl⟩
set_option maxHeartbeats 4000000 in
theorem l_ccows {r : Ev} {n : Nat} {Q : MQ2} {F : Post} {I0 : MI} {S : Sy} (hc : CW n I0 Q S) (hok : okY S) (b : Nat) (hb2 : b < 2) (hF : ∀ J, FrS I0 J (FtS 14) → F (some (.int (nI (64 * b + bitF (cwQ (yt S) (yg S) (yG S) (ys S)) (tN (yt S)))))) J Q) : ∀ (k : Nat) (l : Nat) (I : MI), l ≤ tN (yt S) → l + k = tN (yt S) + 1 → FrS I0 I (FtS 14) → X r 5 yX8_cows cX8_cows (3, (some .int)) (0, 0) 31 [some (.ref (evz r + 0)), some (.int (nI (64 * b + bitF (cwQ (yt S) (yg S) (yG S) (ys S)) l))), some (.int (nI l))] [] n I Q F := by
  intro k
  induction k with
  | zero => intros; omega
  | succ k ih =>
    intro l I hi0 hi hfr
    obtain ⟨na, nb, p1, p2, hB, hI⟩ := id hc
    obtain ⟨o0, oT, oR, oN, oL, oA, oK, oG, oW, oX, oD, hnn, u0, u1, u2, u3, u4, u5, u6, u7, u8, u9⟩ := id hB
    have oT1 := oT.1
    have oN1 := oN.1
    have oL1 := oL.1
    have oA1 := oA.1
    have oK1 := oK.1
    have oG1 := oG.1
    have oW1 := oW.1
    have oX1 := oX.1
    have oD1 := oD.1
    have oR1 := oR.1
    obtain ⟨ct, cs, ca, ck, cg, cn⟩ := id hI
    obtain ⟨y1, y2, y3, y4, y5, y6, y7, y8, y9, y10, y11, y12⟩ := id hok
    have hn6 := y3.1
    have hsh : ∀ l, l < tN (yt S) → sH (ys S) l ≤ 1 := fun l hl => (y5.1.1 l hl).2.2
    have cs2 : SS I 5 (yt S) (ys S) := cs.fr hn6 (fun x j z1 z2 => hfr x j (by unfold FtS; omega))
    have cn2 : ntp I na (yg S) := ntp_fr cn (fun x j hx => hfr x j (by unfold FtS; omega))
    have cg2 : sgp I 117 (yG S) := sgp_fr cg (fun x j z1 z2 => hfr x j (by unfold FtS; omega))
    refine x_iload_2 dX8_cows_31 ?_
    refine x_aload_0 dX8_cows_32 ?_
    refine x_getr dX8_cows_33 f_X8_26 (by assumption) u2 ?_
    refine x_getV dX8_cows_36 f_X8_185 (by assumption) cs2.1.1 ?_
    refine x_icmp_geN dX8_cows_39 (by omega) (by omega) (fun c39 => ?_) (fun c39 => ?_)
    · have e9 : l = tN (yt S) := by omega
      subst e9
      refine x_iload_1 dX8_cows_87 ?_
      exact x_iret (st := []) dX8_cows_88 rfl rfl (hF _ hfr)
    · have hDl := (y5.1.1 l (by omega)).2.1
      have h9l := y7 l (by omega)
      have hbl := bitF_lt (cwQ (yt S) (yg S) (yG S) (ys S)) l
      refine x_aload_0 dX8_cows_42 ?_
      refine x_getr dX8_cows_43 f_X8_30 (by assumption) u3 ?_
      refine x_aload_0 dX8_cows_46 ?_
      refine x_getr dX8_cows_47 f_X8_26 (by assumption) u2 ?_
      refine x_V1v dX8_cows_50 m_X8_176 (c_X5_copy 14 5 (yt S) (ys S) oL oN (by omega) cs2.1 cs2.2 hn6 hsh) (by assumption) (fun I50 h50 => ?_)
      obtain ⟨fr50, sl50, sk50⟩ := h50
      have ss50 : SS I50 14 (yt S) (ys S) := ⟨sl50, sk50⟩
      have cn3 : ntp I50 na (yg S) := ntp_fr cn2 (fun x j hx => fr50 x j (by unfold FtS; omega))
      have e53 : I50 5 3 = nI (sR (ys S)) := (fr50 _ _ (by unfold FtS; omega)).trans cs2.1.2.1
      refine x_aload_0 dX8_cows_53 ?_
      refine x_getr dX8_cows_54 f_X8_30 (by assumption) u3 ?_
      refine x_iload_2 dX8_cows_57 ?_
      refine x_V1o dX8_cows_58 m_X8_111 (c_X5_pick 14 l oL (by omega)) (by assumption) ?_
      refine x_V0v dX8_cows_61 m_X8_157 (c_X0_feelCow (14 + 3 + l) (sD (ys S) l) (oL.2.2.2.1 l (by omega)) (ss50.1.2.2.2 l (by omega)).2.2.2.1 (by omega)) (oL.2.2.2.1 l (by omega)) (fun I61 h61 => ?_)
      obtain ⟨f61, e61⟩ := h61
      have hcI := (CW_q hB hI hok (fun x j hx => ((f61 x j (by unfold Qry at hx; omega)).trans ((fr50 x j (by unfold Qry at hx; unfold FtS; omega)).trans (hfr x j (by unfold Qry at hx; unfold FtS; omega)))))).2
      refine x_aload_0 dX8_cows_64 ?_
      refine x_aload_0 dX8_cows_65 ?_
      refine x_V0i dX8_cows_66 m_X8_240 (c_X8_ownNextCold hB (yg S) (sR (ys S)) (ntp_fr cn3 (fun x j hx => f61 x j (by omega))) y4 ((f61 _ _ (by omega)).trans e53) (by have := y5.2; omega)) (by assumption) (fun x66 I66 h66 => ?_)
      obtain ⟨rfl, rfl⟩ := h66
      refine x_V1i dX8_cows_69 m_X8_243 (c_X8_isAllSeenSo hcI hok (cowS (ys S) l) (SS_D ss50 (by omega) f61 e61) (okS_cow y5.1 (by omega)) (by show sR (ys S) ≤ 200; have := y5.2; omega) _ (cold_le y4 _)) (by assumption) (fun x69 I69 h69 => ?_)
      obtain ⟨of69, ⟨rfl, ob69⟩ | ⟨rfl, ob69⟩⟩ := h69
      · refine x_if_eqN dX8_cows_72 (by omega) (fun c72 => ?_) (fun c72 => ?_)
        · exfalso; omega
        · refine x_iload_1 dX8_cows_75 ?_
          refine x_const (c := 1) dX8_cows_76 rfl ?_
          refine x_iload_2 dX8_cows_77 ?_
          refine x_ishl dX8_cows_78 ?_
          refine x_ior dX8_cows_79 ?_
          rw [or_64 l (by omega) _ hbl b hb2, bitF_y (q := (cwQ (yt S) (yg S) (yG S) (ys S))) (i := l) ob69]
          refine x_istore_1 dX8_cows_80 rfl rfl ?_
          refine x_iinc_2 dX8_cows_81 (iinc1 _) rfl rfl ?_
          refine x_goto dX8_cows_84 ?_
          exact ih (l + 1) _ (by omega) (by omega) (fun x j hx => (of69 x j hx).trans ((f61 x j (by unfold FtS at hx; omega)).trans ((fr50 x j hx).trans (hfr x j hx))))
      · refine x_if_eqN dX8_cows_72 (by omega) (fun c72 => ?_) (fun c72 => ?_)
        · refine x_iinc_2 dX8_cows_81 (iinc1 _) rfl rfl ?_
          refine x_goto dX8_cows_84 ?_
          have e0 := bitF_n (q := (cwQ (yt S) (yg S) (yG S) (ys S))) (i := l) (by rw [show (cwQ (yt S) (yg S) (yG S) (ys S)) l = false from ob69]; decide)
          rw [e0]
          exact ih (l + 1) _ (by omega) (by omega) (fun x j hx => (of69 x j hx).trans ((f61 x j (by unfold FtS at hx; omega)).trans ((fr50 x j hx).trans (hfr x j hx))))
        · exfalso; omega
set_option maxHeartbeats 4000000 in
theorem c_X8_cows {r : Ev} {n : Nat} {I : MI} {Q : MQ2} {S : Sy} (hc : CW n I Q S) (hok : okY S) : CT r 5 yX8_cows cX8_cows (3, (some .int)) (0, 0) [.ref (evz r + 0)] n I Q (ri Q (fun v J => FrW I Q J Q ∧ CW n J Q (A_cows S).2 ∧ v = (A_cows S).1)) := by
  refine ct_of (lv := [some (.ref (evz r + 0)), none, none]) (by decide +kernel) rfl rfl rfl ?_
  obtain ⟨na, nb, p1, p2, hB, hI⟩ := id hc
  obtain ⟨o0, oT, oR, oN, oL, oA, oK, oG, oW, oX, oD, hnn, u0, u1, u2, u3, u4, u5, u6, u7, u8, u9⟩ := id hB
  have oT1 := oT.1
  have oN1 := oN.1
  have oL1 := oL.1
  have oA1 := oA.1
  have oK1 := oK.1
  have oG1 := oG.1
  have oW1 := oW.1
  have oX1 := oX.1
  have oD1 := oD.1
  have oR1 := oR.1
  obtain ⟨ct, cs, ca, ck, cg, cn⟩ := id hI
  obtain ⟨y1, y2, y3, y4, y5, y6, y7, y8, y9, y10, y11, y12⟩ := id hok
  have hn6 := y3.1
  have hsh : ∀ l, l < tN (yt S) → sH (ys S) l ≤ 1 := fun l hl => (y5.1.1 l hl).2.2
  refine x_aload_0 dX8_cows_0 ?_
  refine x_getr dX8_cows_1 f_X8_30 (by assumption) u3 ?_
  refine x_aload_0 dX8_cows_4 ?_
  refine x_getr dX8_cows_5 f_X8_26 (by assumption) u2 ?_
  refine x_V1v dX8_cows_8 m_X8_176 (c_X5_copy 14 5 (yt S) (ys S) oL oN (by omega) cs.1 cs.2 hn6 hsh) (by assumption) (fun I8 h8 => ?_)
  obtain ⟨fr8, sl8, sk8⟩ := h8
  have ss8 : SS I8 14 (yt S) (ys S) := ⟨sl8, sk8⟩
  have cn2 : ntp I8 na (yg S) := ntp_fr cn (fun x j hx => fr8 x j (by unfold FtS; omega))
  have e53 : I8 5 3 = nI (sR (ys S)) := (fr8 _ _ (by unfold FtS; omega)).trans cs.1.2.1
  refine x_aload_0 dX8_cows_11 ?_
  refine x_aload_0 dX8_cows_12 ?_
  refine x_V0i dX8_cows_13 m_X8_240 (c_X8_ownNextCold hB (yg S) (sR (ys S)) cn2 y4 e53 (by have := y5.2; omega)) (by assumption) (fun x13 I13 h13 => ?_)
  obtain ⟨rfl, rfl⟩ := h13
  refine x_V1i dX8_cows_16 m_X8_243 (c_X8_isAllSeenSo (CW_q hB hI hok (fun x j hx => (fr8 x j (by unfold Qry at hx; unfold FtS; omega)))).2 hok (ys S) ss8 y5.1 (by have := y5.2; omega) _ (cold_le y4 _)) (by assumption) (fun x16 I16 h16 => ?_)
  obtain ⟨of16, ⟨rfl, ob16⟩ | ⟨rfl, ob16⟩⟩ := h16
  · refine x_if_eqN dX8_cows_19 (by omega) (fun c19 => ?_) (fun c19 => ?_)
    · exfalso; omega
    · refine x_bip (c := 64) dX8_cows_22 (by decide) ?_
      refine x_goto dX8_cows_24 ?_
      refine x_istore_1 dX8_cows_28 rfl rfl ?_
      refine x_const (c := 0) dX8_cows_29 rfl ?_
      refine x_istore_2 dX8_cows_30 rfl rfl ?_
      refine l_ccows hc hok 1 (by decide) (fun J q1 => ⟨_, rfl, rfl, ?_⟩) (tN (yt S) + 1) 0 _ (by omega) (by omega) (fun x j hx => (of16 x j hx).trans (fr8 x j hx))
      obtain ⟨z1, z2⟩ := CW_q (J := J) hB hI hok (fun x j hx => q1 x j (by unfold Qry at hx; unfold FtS; omega))
      refine ⟨z1, z2, ?_⟩
      unfold A_cows
      rw [ob16]
      rfl
  · refine x_if_eqN dX8_cows_19 (by omega) (fun c19 => ?_) (fun c19 => ?_)
    · refine x_const (c := 0) dX8_cows_27 rfl ?_
      refine x_istore_1 dX8_cows_28 rfl rfl ?_
      refine x_const (c := 0) dX8_cows_29 rfl ?_
      refine x_istore_2 dX8_cows_30 rfl rfl ?_
      refine l_ccows hc hok 0 (by decide) (fun J q1 => ⟨_, rfl, rfl, ?_⟩) (tN (yt S) + 1) 0 _ (by omega) (by omega) (fun x j hx => (of16 x j hx).trans (fr8 x j hx))
      obtain ⟨z1, z2⟩ := CW_q (J := J) hB hI hok (fun x j hx => q1 x j (by unfold Qry at hx; unfold FtS; omega))
      refine ⟨z1, z2, ?_⟩
      unfold A_cows
      rw [ob16]
      rfl
    · exfalso; omega
set_option maxHeartbeats 4000000 in
theorem l_ccolds {r : Ev} {n : Nat} {Q : MQ2} {F : Post} {I0 : MI} {S : Sy} (hc : CW n I0 Q S) (hok : okY S) (hF : ∀ J, FrS I0 J (FtS 14) → F (some (.int (nI (bitF (fun c => soA (yt S) (yg S) (yG S) c (ys S)) 10)))) J Q) : ∀ (k : Nat) (i : Nat) (I : MI), i ≤ 10 → i + k = 10 + 1 → FrS I0 I (FtS 14) → X r 5 yX8_colds cX8_colds (3, (some .int)) (0, 0) 4 [some (.ref (evz r + 0)), some (.int (nI (bitF (fun c => soA (yt S) (yg S) (yG S) c (ys S)) i))), some (.int (nI i))] [] n I Q F := by
  intro k
  induction k with
  | zero => intros; omega
  | succ k ih =>
    intro i I hi0 hi hfr
    obtain ⟨na, nb, p1, p2, hB, hI⟩ := id hc
    obtain ⟨o0, oT, oR, oN, oL, oA, oK, oG, oW, oX, oD, hnn, u0, u1, u2, u3, u4, u5, u6, u7, u8, u9⟩ := id hB
    have oT1 := oT.1
    have oN1 := oN.1
    have oL1 := oL.1
    have oA1 := oA.1
    have oK1 := oK.1
    have oG1 := oG.1
    have oW1 := oW.1
    have oX1 := oX.1
    have oD1 := oD.1
    have oR1 := oR.1
    obtain ⟨ct, cs, ca, ck, cg, cn⟩ := id hI
    obtain ⟨y1, y2, y3, y4, y5, y6, y7, y8, y9, y10, y11, y12⟩ := id hok
    have hn6 := y3.1
    have hsh : ∀ l, l < tN (yt S) → sH (ys S) l ≤ 1 := fun l hl => (y5.1.1 l hl).2.2
    have cs2 : SS I 5 (yt S) (ys S) := cs.fr hn6 (fun x j z1 z2 => hfr x j (by unfold FtS; omega))
    have cn2 : ntp I na (yg S) := ntp_fr cn (fun x j hx => hfr x j (by unfold FtS; omega))
    have cg2 : sgp I 117 (yG S) := sgp_fr cg (fun x j z1 z2 => hfr x j (by unfold FtS; omega))
    refine x_iload_2 dX8_colds_4 ?_
    refine x_bip (c := 9) dX8_colds_5 (by decide) ?_
    refine x_icmp_gtN dX8_colds_7 (by omega) (by omega) (fun c7 => ?_) (fun c7 => ?_)
    · have e9 : i = 10 := by omega
      subst e9
      refine x_iload_1 dX8_colds_41 ?_
      exact x_iret (st := []) dX8_colds_42 rfl rfl (hF _ hfr)
    · have hbl := bitF_lt (fun c => soA (yt S) (yg S) (yG S) c (ys S)) i
      refine x_aload_0 dX8_colds_10 ?_
      refine x_getr dX8_colds_11 f_X8_30 (by assumption) u3 ?_
      refine x_aload_0 dX8_colds_14 ?_
      refine x_getr dX8_colds_15 f_X8_26 (by assumption) u2 ?_
      refine x_V1v dX8_colds_18 m_X8_176 (c_X5_copy 14 5 (yt S) (ys S) oL oN (by omega) cs2.1 cs2.2 hn6 hsh) (by assumption) (fun I18 h18 => ?_)
      obtain ⟨fr18, sl18, sk18⟩ := h18
      have ss18 : SS I18 14 (yt S) (ys S) := ⟨sl18, sk18⟩
      have cn3 : ntp I18 na (yg S) := ntp_fr cn2 (fun x j hx => fr18 x j (by unfold FtS; omega))
      have e53 : I18 5 3 = nI (sR (ys S)) := (fr18 _ _ (by unfold FtS; omega)).trans cs2.1.2.1
      have hcI := (CW_q hB hI hok (fun x j hx => ((fr18 x j (by unfold Qry at hx; unfold FtS; omega)).trans (hfr x j (by unfold Qry at hx; unfold FtS; omega))))).2
      refine x_aload_0 dX8_colds_21 ?_
      refine x_iload_2 dX8_colds_22 ?_
      refine x_V1i dX8_colds_23 m_X8_243 (c_X8_isAllSeenSo hcI hok (ys S) ss18 y5.1 (by have := y5.2; omega) i (by omega)) (by assumption) (fun x23 I23 h23 => ?_)
      obtain ⟨of23, ⟨rfl, ob23⟩ | ⟨rfl, ob23⟩⟩ := h23
      · refine x_if_eqN dX8_colds_26 (by omega) (fun c26 => ?_) (fun c26 => ?_)
        · exfalso; omega
        · refine x_iload_1 dX8_colds_29 ?_
          refine x_const (c := 1) dX8_colds_30 rfl ?_
          refine x_iload_2 dX8_colds_31 ?_
          refine x_ishl dX8_colds_32 ?_
          refine x_ior dX8_colds_33 ?_
          rw [or_bit i (by omega) _ hbl, bitF_y (q := (fun c => soA (yt S) (yg S) (yG S) c (ys S))) (i := i) ob23]
          refine x_istore_1 dX8_colds_34 rfl rfl ?_
          refine x_iinc_2 dX8_colds_35 (iinc1 _) rfl rfl ?_
          refine x_goto dX8_colds_38 ?_
          exact ih (i + 1) _ (by omega) (by omega) (fun x j hx => (of23 x j hx).trans ((fr18 x j hx).trans (hfr x j hx)))
      · refine x_if_eqN dX8_colds_26 (by omega) (fun c26 => ?_) (fun c26 => ?_)
        · refine x_iinc_2 dX8_colds_35 (iinc1 _) rfl rfl ?_
          refine x_goto dX8_colds_38 ?_
          have e0 := bitF_n (q := (fun c => soA (yt S) (yg S) (yG S) c (ys S))) (i := i) (by rw [ob23]; decide)
          rw [e0]
          exact ih (i + 1) _ (by omega) (by omega) (fun x j hx => (of23 x j hx).trans ((fr18 x j hx).trans (hfr x j hx)))
        · exfalso; omega
set_option maxHeartbeats 4000000 in
theorem c_X8_colds {r : Ev} {n : Nat} {I : MI} {Q : MQ2} {S : Sy} (hc : CW n I Q S) (hok : okY S) : CT r 5 yX8_colds cX8_colds (3, (some .int)) (0, 0) [.ref (evz r + 0)] n I Q (ri Q (fun v J => FrW I Q J Q ∧ CW n J Q (A_colds S).2 ∧ v = (A_colds S).1)) := by
  refine ct_of (lv := [some (.ref (evz r + 0)), none, none]) (by decide +kernel) rfl rfl rfl ?_
  obtain ⟨na, nb, p1, p2, hB, hI⟩ := id hc
  obtain ⟨o0, oT, oR, oN, oL, oA, oK, oG, oW, oX, oD, hnn, u0, u1, u2, u3, u4, u5, u6, u7, u8, u9⟩ := id hB
  have oT1 := oT.1
  have oN1 := oN.1
  have oL1 := oL.1
  have oA1 := oA.1
  have oK1 := oK.1
  have oG1 := oG.1
  have oW1 := oW.1
  have oX1 := oX.1
  have oD1 := oD.1
  have oR1 := oR.1
  obtain ⟨ct, cs, ca, ck, cg, cn⟩ := id hI
  obtain ⟨y1, y2, y3, y4, y5, y6, y7, y8, y9, y10, y11, y12⟩ := id hok
  have hn6 := y3.1
  have hsh : ∀ l, l < tN (yt S) → sH (ys S) l ≤ 1 := fun l hl => (y5.1.1 l hl).2.2
  refine x_const (c := 0) dX8_colds_0 rfl ?_
  refine x_istore_1 dX8_colds_1 rfl rfl ?_
  refine x_const (c := 0) dX8_colds_2 rfl ?_
  refine x_istore_2 dX8_colds_3 rfl rfl ?_
  refine l_ccolds hc hok (fun J q1 => ⟨_, rfl, rfl, ?_⟩) 11 0 _ (by omega) (by omega) (fun _ _ _ => rfl)
  obtain ⟨z1, z2⟩ := CW_q (J := J) hB hI hok (fun x j hx => q1 x j (by unfold Qry at hx; unfold FtS; omega))
  exact ⟨z1, z2, rfl⟩
set_option maxHeartbeats 4000000 in
theorem c_X8_draw {r : Ev} {n : Nat} {I : MI} {Q : MQ2} (z i : Nat) (hz : z ≤ 9999) (hi : i ≤ 40) : CT r 0 yX8_draw cX8_draw (4, (some .int)) (0, 0) [.int (nI z), .int (nI i)] n I Q (ri Q (fun v J => J = I ∧ v = nI (drw z i))) := by
  refine ct_of (lv := [some (.int (nI z)), some (.int (nI i)), none, none]) (by decide +kernel) rfl rfl rfl ?_
  refine x_ldc2 dX8_draw_0 k_X8_296 ?_
  refine x_iload_0 dX8_draw_3 ?_
  refine x_i2l dX8_draw_4 ?_
  refine x_lmul dX8_draw_5 ?_
  rw [show (7919 : Int64) * (nI z).toInt64 = lN (7919 * z) from by rw [nI_l (by omega), ← lN_mul]; rfl]
  refine x_ldc2 dX8_draw_6 k_X8_298 ?_
  refine x_iload_1 dX8_draw_9 ?_
  refine x_i2l dX8_draw_10 ?_
  refine x_lmul dX8_draw_11 ?_
  rw [show (6151 : Int64) * (nI i).toInt64 = lN (6151 * i) from by rw [nI_l (by omega), ← lN_mul]; rfl]
  refine x_ladd dX8_draw_12 ?_
  rw [lN_add]
  refine x_lconst (v := 1) dX8_draw_13 rfl ?_
  refine x_ladd dX8_draw_14 ?_
  rw [lN_1]
  refine x_lstore_2 dX8_draw_15 rfl rfl ?_
  refine x_lload_2 dX8_draw_16 ?_
  refine x_lload_2 dX8_draw_17 ?_
  refine x_lmul dX8_draw_18 ?_
  rw [lN_mul]
  refine x_ldc2 dX8_draw_19 k_X8_300 ?_
  refine x_lrem dX8_draw_22 (by decide) ?_
  rw [show (65521 : Int64) = lN 65521 from rfl, pk_lRem (drx_lt hz hi) (by decide) (by decide)]
  refine x_ldc2 dX8_draw_23 k_X8_302 ?_
  refine x_ldiv dX8_draw_26 (by decide) ?_
  rw [show (2 : Int64) = lN 2 from rfl, pk_lDiv (Nat.lt_trans (Nat.mod_lt _ (by decide)) (by decide : 65521 < 2 ^ 63)) (by decide) (by decide)]
  refine x_l2i dX8_draw_27 ?_
  rw [lN_i]
  exact x_iret (st := []) dX8_draw_28 rfl rfl (⟨_, rfl, rfl, rfl, rfl⟩)
set_option maxHeartbeats 4000000 in
theorem c_X8_actByDraw {r : Ev} {n : Nat} {I : MI} {Q : MQ2} {na nb : Nat} {p1 p2 : Nat → Nat} (hB : CWB n Q na nb p1 p2) (t : Tp) (s : St) (ss : SS I 14 t s) (hn : tN t ≤ 6) (h1 : 1 ≤ tN t) (hk : okS t s) (h9 : ∀ l, l < tN t → tT t l ≤ 9) (d : Nat) (hd : d < 100000) : CT r 2 yX8_actByDraw cX8_actByDraw (3, none) (0, 0) [.ref (evz r + 0), .int (nI d)] n I Q (rv Q (fun J => FrS I J (FtS 14) ∧ SS J 14 t (turnS t s d))) := by
  refine ct_of (lv := [some (.ref (evz r + 0)), some (.int (nI d)), none]) (by decide +kernel) rfl rfl rfl ?_
  obtain ⟨o0, oT, oR, oN, oL, oA, oK, oG, oW, oX, oD, hnn, u0, u1, u2, u3, u4, u5, u6, u7, u8, u9⟩ := id hB
  have oT1 := oT.1
  have oN1 := oN.1
  have oL1 := oL.1
  have oA1 := oA.1
  have oK1 := oK.1
  have oG1 := oG.1
  have oW1 := oW.1
  have oX1 := oX.1
  have oD1 := oD.1
  have oR1 := oR.1
  refine x_aload_0 dX8_actByDraw_0 ?_
  refine x_getr dX8_actByDraw_1 f_X8_30 (by assumption) u3 ?_
  refine x_iload_1 dX8_actByDraw_4 ?_
  refine x_const (c := 1) dX8_actByDraw_5 rfl ?_
  refine x_aload_0 dX8_actByDraw_6 ?_
  refine x_getr dX8_actByDraw_7 f_X8_30 (by assumption) u3 ?_
  refine x_getV dX8_actByDraw_10 f_X8_185 (by assumption) ss.1.1 ?_
  refine x_max dX8_actByDraw_13 m_X8_257 ?_
  rw [nmax (by omega) (by omega), Nat.max_eq_right h1]
  refine x_iremN dX8_actByDraw_16 (by omega) (by omega) (by omega) ?_
  have hl : d % tN t < tN t := Nat.mod_lt _ (by omega)
  have hDl := (hk.1 _ hl).2.1
  have hHl := (hk.1 _ hl).2.2
  have h9l := h9 _ hl
  refine x_V1o dX8_actByDraw_17 m_X8_111 (c_X5_pick 14 (d % tN t) oL (by omega)) (by assumption) ?_
  refine x_astore_2 dX8_actByDraw_20 rfl rfl ?_
  refine x_iload_1 dX8_actByDraw_21 ?_
  refine x_bip (c := 8) dX8_actByDraw_22 (by decide) ?_
  refine x_idivN dX8_actByDraw_24 (by omega) (by omega) (by omega) ?_
  refine x_const (c := 5) dX8_actByDraw_25 rfl ?_
  refine x_iremN dX8_actByDraw_26 (by omega) (by omega) (by omega) ?_
  by_cases q0 : d / 8 % 5 = 0
  · rw [q0]
    refine x_tsIn (off := 25) (t := 52) dX8_actByDraw_27 (by decide) (by decide) (by decide) (by decide) ?_
    refine x_aload_2 dX8_actByDraw_52 ?_
    refine x_V0v dX8_actByDraw_53 m_X8_157 (c_X0_feelCow (14 + 3 + d % tN t) (sD s (d % tN t)) (oL.2.2.2.1 _ (by omega)) (ss.1.2.2.2 _ hl).2.2.2.1 (by omega)) (oL.2.2.2.1 _ (by omega)) (fun I53 h53 => ?_)
    obtain ⟨f3, e3⟩ := h53
    refine x_goto dX8_actByDraw_56 ?_
    exact x_vret (st := []) dX8_actByDraw_73 rfl (⟨rfl, rfl, fun x j hx => f3 x j (by unfold FtS at hx; omega), by unfold turnS; rw [if_pos q0]; exact SS_D ss hl f3 e3⟩)
  by_cases q1 : d / 8 % 5 = 1
  · rw [q1]
    refine x_tsIn (off := 32) (t := 59) dX8_actByDraw_27 (by decide) (by decide) (by decide) (by decide) ?_
    refine x_aload_2 dX8_actByDraw_59 ?_
    refine x_V0v dX8_actByDraw_60 m_X8_163 (c_X0_takeTears (14 + 3 + d % tN t) (tT t (d % tN t)) (sD s (d % tN t)) (oL.2.2.2.1 _ (by omega)) (ss.1.2.2.2 _ hl).2.2.1 (ss.1.2.2.2 _ hl).2.2.2.1 (by omega) (by omega)) (oL.2.2.2.1 _ (by omega)) (fun I60 h60 => ?_)
    obtain ⟨f3, e3⟩ := h60
    refine x_goto dX8_actByDraw_63 ?_
    exact x_vret (st := []) dX8_actByDraw_73 rfl (⟨rfl, rfl, fun x j hx => f3 x j (by unfold FtS at hx; omega), by unfold turnS; rw [if_neg q0, if_pos q1]; exact SS_D ss hl f3 e3⟩)
  by_cases q2 : d / 8 % 5 = 2
  · rw [q2]
    refine x_tsIn (off := 39) (t := 66) dX8_actByDraw_27 (by decide) (by decide) (by decide) (by decide) ?_
    refine x_aload_2 dX8_actByDraw_66 ?_
    refine x_V0v dX8_actByDraw_67 m_X8_147 (c_X0_turnShade (14 + 3 + d % tN t) (sH s (d % tN t)) (oL.2.2.2.1 _ (by omega)) (ss.1.2.2.2 _ hl).2.2.2.2.2 (by omega)) (oL.2.2.2.1 _ (by omega)) (fun I67 h67 => ?_)
    obtain ⟨f3, e3⟩ := h67
    refine x_goto dX8_actByDraw_70 ?_
    exact x_vret (st := []) dX8_actByDraw_73 rfl (⟨rfl, rfl, fun x j hx => f3 x j (by unfold FtS at hx; omega), by unfold turnS; rw [if_neg q0, if_neg q1, if_pos q2]; exact SS_H ss hl f3 e3⟩)
  refine x_tsOut (t := 73) dX8_actByDraw_27 (Or.inr (by rw [nI_toInt (by omega)]; omega)) (by decide) ?_
  exact x_vret (st := []) dX8_actByDraw_73 rfl (⟨rfl, rfl, fun _ _ _ => rfl, by unfold turnS; rw [if_neg q0, if_neg q1, if_neg q2]; exact ss⟩)
set_option maxHeartbeats 4000000 in
theorem l_cyear {r : Ev} {n : Nat} {Q : MQ2} {F : Post} {I0 : MI} {S : Sy} (hc : CW n I0 Q S) (hok : okY S) (z m wh : Nat) (hz : z ≤ 9999) (hm40 : m ≤ 40) (hx : ∀ (J : MI), FrS I0 J (FtS 14) → SS J 14 (yt S) (yrS (yt S) (yg S) z (ys S) m) → X r 5 yX8_year cX8_year (5, (some .int)) (0, 0) 80 [some (.ref (evz r + 0)), some (.int (nI z)), some (.int (nI m)), some (.int (nI wh)), some (.int (nI m))] [] n J Q F) : ∀ (k : Nat) (i : Nat) (I : MI), i ≤ m → i + k = m + 1 → FrS I0 I (FtS 14) → SS I 14 (yt S) (yrS (yt S) (yg S) z (ys S) i) → X r 5 yX8_year cX8_year (5, (some .int)) (0, 0) 46 [some (.ref (evz r + 0)), some (.int (nI z)), some (.int (nI m)), some (.int (nI wh)), some (.int (nI i))] [] n I Q F := by
  intro k
  induction k with
  | zero => intros; omega
  | succ k ih =>
    intro i I hi0 hi hfr ss
    obtain ⟨na, nb, p1, p2, hB, hI⟩ := id hc
    obtain ⟨o0, oT, oR, oN, oL, oA, oK, oG, oW, oX, oD, hnn, u0, u1, u2, u3, u4, u5, u6, u7, u8, u9⟩ := id hB
    have oT1 := oT.1
    have oN1 := oN.1
    have oL1 := oL.1
    have oA1 := oA.1
    have oK1 := oK.1
    have oG1 := oG.1
    have oW1 := oW.1
    have oX1 := oX.1
    have oD1 := oD.1
    have oR1 := oR.1
    obtain ⟨ct, cs, ca, ck, cg, cn⟩ := id hI
    obtain ⟨y1, y2, y3, y4, y5, y6, y7, y8, y9, y10, y11, y12⟩ := id hok
    have hn6 := y3.1
    have hsh : ∀ l, l < tN (yt S) → sH (ys S) l ≤ 1 := fun l hl => (y5.1.1 l hl).2.2
    have cs2 : SS I 5 (yt S) (ys S) := cs.fr hn6 (fun x j z1 z2 => hfr x j (by unfold FtS; omega))
    have cn2 : ntp I na (yg S) := ntp_fr cn (fun x j hx => hfr x j (by unfold FtS; omega))
    have cg2 : sgp I 117 (yG S) := sgp_fr cg (fun x j z1 z2 => hfr x j (by unfold FtS; omega))
    refine x_iload_4 dX8_year_46 ?_
    refine x_iload_2 dX8_year_48 ?_
    refine x_icmp_geN dX8_year_49 (by omega) (by omega) (fun c49 => ?_) (fun c49 => ?_)
    · have e9 : i = m := by omega
      subst e9
      exact hx _ hfr ss
    · refine x_aload_0 dX8_year_52 ?_
      refine x_iload_1 dX8_year_53 ?_
      refine x_iload_4 dX8_year_54 ?_
      refine x_S2i dX8_year_56 m_X8_262 (c_X8_draw z i hz (by omega)) (fun x56 I56 h56 => ?_)
      obtain ⟨rfl, rfl⟩ := h56
      refine x_V1v dX8_year_59 m_X8_265 (c_X8_actByDraw hB (yt S) (yrS (yt S) (yg S) z (ys S) i) ss hn6 y6 (okS_yr y5.1 y6 i) y7 (drw z i) (by have := drw_lt z i; omega)) (by assumption) (fun I59 h59 => ?_)
      obtain ⟨af59, as59⟩ := h59
      refine x_aload_0 dX8_year_62 ?_
      refine x_getr dX8_year_63 f_X8_62 (by assumption) u8 ?_
      refine x_aload_0 dX8_year_66 ?_
      refine x_getr dX8_year_67 f_X8_30 (by assumption) u3 ?_
      refine x_const (c := 1) dX8_year_70 rfl ?_
      refine x_V2v dX8_year_71 m_X8_140 (c_X1_goBy na 14 (yt S) (turnS (yt S) (yrS (yt S) (yg S) z (ys S) i) (drw z i)) (yg S) oX (ntp_fr cn2 (fun x j hx => af59 x j (by unfold FtS; omega))) oL as59 y3 (okS_turn (okS_yr y5.1 y6 i) y6) (by omega) (by have := y4.2.2.1; omega) y4 1 (by rw [sR_turn, sR_yr]; have := y5.2; omega)) (by assumption) (fun I71 h71 => ?_)
      obtain ⟨gf71, gs71, gr71⟩ := h71
      refine x_iinc_4 dX8_year_74 (iinc1 _) rfl rfl ?_
      refine x_goto dX8_year_77 ?_
      exact ih (i + 1) _ (by omega) (by omega) (fun x j hx => (gf71 x j hx).trans ((af59 x j hx).trans (hfr x j hx))) gs71
set_option maxHeartbeats 4000000 in
theorem c_X8_year {r : Ev} {n : Nat} {I : MI} {Q : MQ2} {S : Sy} (hc : CW n I Q S) (hok : okY S) (x y z : Int32) : CT r 5 yX8_year cX8_year (5, (some .int)) (0, 0) [.ref (evz r + 0), .int x, .int y, .int z] n I Q (ri Q (fun v J => FrW I Q J Q ∧ CW n J Q (A_year S x y z).2 ∧ v = (A_year S x y z).1)) := by
  refine ct_of (lv := [some (.ref (evz r + 0)), some (.int x), some (.int y), some (.int z), none]) (by decide +kernel) rfl rfl rfl ?_
  obtain ⟨na, nb, p1, p2, hB, hI⟩ := id hc
  obtain ⟨o0, oT, oR, oN, oL, oA, oK, oG, oW, oX, oD, hnn, u0, u1, u2, u3, u4, u5, u6, u7, u8, u9⟩ := id hB
  have oT1 := oT.1
  have oN1 := oN.1
  have oL1 := oL.1
  have oA1 := oA.1
  have oK1 := oK.1
  have oG1 := oG.1
  have oW1 := oW.1
  have oX1 := oX.1
  have oD1 := oD.1
  have oR1 := oR.1
  obtain ⟨ct, cs, ca, ck, cg, cn⟩ := id hI
  obtain ⟨y1, y2, y3, y4, y5, y6, y7, y8, y9, y10, y11, y12⟩ := id hok
  have hn6 := y3.1
  have hsh : ∀ l, l < tN (yt S) → sH (ys S) l ≤ 1 := fun l hl => (y5.1.1 l hl).2.2
  refine x_iload_1 dX8_year_0 ?_
  refine x_const (c := 0) dX8_year_1 rfl ?_
  refine x_sip (c := 9999) dX8_year_2 (by decide) ?_
  refine x_S3i dX8_year_5 m_X8_91 (c_isOutB x 0 9999 (by omega) (by omega)) (fun x5 I5 h5 => ?_)
  obtain ⟨rfl, ⟨rfl, h5⟩ | ⟨rfl, h5⟩⟩ := h5
  · refine x_if_neN dX8_year_8 (by omega) (fun c8 => ?_) (fun c8 => ?_)
    · refine x_iconst (v := -1) dX8_year_30 rfl ?_
      exact x_iret (st := []) dX8_year_31 rfl rfl (by first | exact ⟨_, rfl, rfl, by unfold A_year; rw [onI_n h5]; exact ⟨FrW.rf, hc, rfl⟩⟩ | exact ⟨_, rfl, rfl, by unfold A_year; rw [onI_y (by omega) (by omega) (by omega), onI_n h15]; exact ⟨FrW.rf, hc, rfl⟩⟩ | exact ⟨_, rfl, rfl, by unfold A_year; rw [onI_y (by omega) (by omega) (by omega), onI_y (by omega) (by omega) (by omega), onI_n h24]; exact ⟨FrW.rf, hc, rfl⟩⟩)
    · exfalso; omega
  · obtain ⟨z0, z0a, z0b, rfl⟩ := h5
    refine x_if_neN dX8_year_8 (by omega) (fun c8 => ?_) (fun c8 => ?_)
    · exfalso; omega
    · refine x_iload_2 dX8_year_11 ?_
      refine x_const (c := 1) dX8_year_12 rfl ?_
      refine x_bip (c := 40) dX8_year_13 (by decide) ?_
      refine x_S3i dX8_year_15 m_X8_91 (c_isOutB y 1 40 (by omega) (by omega)) (fun x15 I15 h15 => ?_)
      obtain ⟨rfl, ⟨rfl, h15⟩ | ⟨rfl, h15⟩⟩ := h15
      · refine x_if_neN dX8_year_18 (by omega) (fun c18 => ?_) (fun c18 => ?_)
        · refine x_iconst (v := -1) dX8_year_30 rfl ?_
          exact x_iret (st := []) dX8_year_31 rfl rfl (by first | exact ⟨_, rfl, rfl, by unfold A_year; rw [onI_n h5]; exact ⟨FrW.rf, hc, rfl⟩⟩ | exact ⟨_, rfl, rfl, by unfold A_year; rw [onI_y (by omega) (by omega) (by omega), onI_n h15]; exact ⟨FrW.rf, hc, rfl⟩⟩ | exact ⟨_, rfl, rfl, by unfold A_year; rw [onI_y (by omega) (by omega) (by omega), onI_y (by omega) (by omega) (by omega), onI_n h24]; exact ⟨FrW.rf, hc, rfl⟩⟩)
        · exfalso; omega
      · obtain ⟨m, m0, m1, rfl⟩ := h15
        refine x_if_neN dX8_year_18 (by omega) (fun c18 => ?_) (fun c18 => ?_)
        · exfalso; omega
        · refine x_iload_3 dX8_year_21 ?_
          refine x_const (c := 0) dX8_year_22 rfl ?_
          refine x_const (c := 2) dX8_year_23 rfl ?_
          refine x_S3i dX8_year_24 m_X8_91 (c_isOutB z 0 2 (by omega) (by omega)) (fun x24 I24 h24 => ?_)
          obtain ⟨rfl, ⟨rfl, h24⟩ | ⟨rfl, h24⟩⟩ := h24
          · refine x_if_eqN dX8_year_27 (by omega) (fun c27 => ?_) (fun c27 => ?_)
            · exfalso; omega
            · refine x_iconst (v := -1) dX8_year_30 rfl ?_
              exact x_iret (st := []) dX8_year_31 rfl rfl (by first | exact ⟨_, rfl, rfl, by unfold A_year; rw [onI_n h5]; exact ⟨FrW.rf, hc, rfl⟩⟩ | exact ⟨_, rfl, rfl, by unfold A_year; rw [onI_y (by omega) (by omega) (by omega), onI_n h15]; exact ⟨FrW.rf, hc, rfl⟩⟩ | exact ⟨_, rfl, rfl, by unfold A_year; rw [onI_y (by omega) (by omega) (by omega), onI_y (by omega) (by omega) (by omega), onI_n h24]; exact ⟨FrW.rf, hc, rfl⟩⟩)
          · obtain ⟨wh, wh0, wh1, rfl⟩ := h24
            refine x_if_eqN dX8_year_27 (by omega) (fun c27 => ?_) (fun c27 => ?_)
            · refine x_aload_0 dX8_year_32 ?_
              refine x_getr dX8_year_33 f_X8_30 (by assumption) u3 ?_
              refine x_aload_0 dX8_year_36 ?_
              refine x_getr dX8_year_37 f_X8_26 (by assumption) u2 ?_
              refine x_V1v dX8_year_40 m_X8_176 (c_X5_copy 14 5 (yt S) (ys S) oL oN (by omega) cs.1 cs.2 hn6 hsh) (by assumption) (fun I40 h40 => ?_)
              obtain ⟨fr40, sl40, sk40⟩ := h40
              have ss40 : SS I40 14 (yt S) (ys S) := ⟨sl40, sk40⟩
              have cn2 : ntp I40 na (yg S) := ntp_fr cn (fun x j hx => fr40 x j (by unfold FtS; omega))
              have e53 : I40 5 3 = nI (sR (ys S)) := (fr40 _ _ (by unfold FtS; omega)).trans cs.1.2.1
              refine x_const (c := 0) dX8_year_43 rfl ?_
              refine x_istore_4 dX8_year_44 rfl rfl ?_
              refine l_cyear hc hok z0 m wh (by omega) (by omega) (fun J3 f3 s4 => ?_) (m + 1) 0 _ (by omega) (by omega) (fun x j hx => fr40 x j hx) ss40
              refine x_iload_3 dX8_year_80 ?_
              by_cases q0 : wh = 0
              · rw [q0]
                refine x_ls (off := 27) (t := 108) dX8_year_81 (by decide) (by decide) (by decide) ?_
                refine x_aload_0 dX8_year_108 ?_
                refine x_getr dX8_year_109 f_X8_30 (by assumption) u3 ?_
                refine x_aload_0 dX8_year_112 ?_
                refine x_getr dX8_year_113 f_X8_62 (by assumption) u8 ?_
                refine x_getV dX8_year_116 f_X8_268 (by assumption) ((f3 _ _ (by unfold FtS; omega)).trans cn.2.2.2.1) ?_
                refine x_V1i dX8_year_119 m_X8_271 (c_X5_yardBits 14 (yt S) (yrS (yt S) (yg S) z0 (ys S) m) oL s4.1 hn6 (nY (yg S)) (by have := y4.2.2.2.2.2.2; omega) (fun l hl => by have h1 := (okS_yr (g := yg S) (z := z0) y5.1 y6 m).1 l hl; have h2 := y7 l hl; exact ⟨by omega, by omega⟩)) (by assumption) (fun x119 I119 h119 => ?_)
                obtain ⟨rfl, rfl⟩ := h119
                refine x_S1i dX8_year_122 m_X8_195 (c_bitCount _ (bitF_le (k := 6) hn6)) (fun x122 I122 h122 => ?_)
                obtain ⟨rfl, rfl⟩ := h122
                exact x_iret (st := []) dX8_year_125 rfl rfl (⟨_, rfl, rfl, by unfold A_year; rw [onI_y (by omega) (by omega) (by omega), onI_y (by omega) (by omega) (by omega), onI_y (by omega) (by omega) (by omega)]; obtain ⟨z1, z2⟩ := CW_q (J := _) hB hI hok (fun x j hx => (f3 x j (by unfold Qry at hx; unfold FtS; omega))); exact ⟨z1, z2, by rw [if_pos rfl]; rfl⟩⟩)
              by_cases q1 : wh = 1
              · rw [q1]
                refine x_ls (off := 45) (t := 126) dX8_year_81 (by decide) (by decide) (by decide) ?_
                refine x_aload_0 dX8_year_126 ?_
                refine x_getr dX8_year_127 f_X8_30 (by assumption) u3 ?_
                refine x_getV dX8_year_130 f_X8_274 (by assumption) s4.1.2.2.1 ?_
                exact x_iret (st := []) dX8_year_133 rfl rfl (⟨_, rfl, rfl, by unfold A_year; rw [onI_y (by omega) (by omega) (by omega), onI_y (by omega) (by omega) (by omega), onI_y (by omega) (by omega) (by omega)]; obtain ⟨z1, z2⟩ := CW_q (J := _) hB hI hok (fun x j hx => (f3 x j (by unfold Qry at hx; unfold FtS; omega))); exact ⟨z1, z2, by rw [if_neg (by decide), if_pos rfl]⟩⟩)
              have q2 : wh = 2 := by omega
              rw [q2]
              refine x_ls (off := 53) (t := 134) dX8_year_81 (by decide) (by decide) (by decide) ?_
              refine x_aload_0 dX8_year_134 ?_
              refine x_getr dX8_year_135 f_X8_30 (by assumption) u3 ?_
              refine x_V0i dX8_year_138 m_X8_186 (c_X5_allSpoiled 14 (yt S) (yrS (yt S) (yg S) z0 (ys S) m) oL s4.1 hn6) (by assumption) (fun x138 I138 h138 => ?_)
              obtain ⟨rfl, rfl⟩ := h138
              exact x_iret (st := []) dX8_year_141 rfl rfl (⟨_, rfl, rfl, by unfold A_year; rw [onI_y (by omega) (by omega) (by omega), onI_y (by omega) (by omega) (by omega), onI_y (by omega) (by omega) (by omega)]; obtain ⟨z1, z2⟩ := CW_q (J := _) hB hI hok (fun x j hx => (f3 x j (by unfold Qry at hx; unfold FtS; omega))); exact ⟨z1, z2, by rw [if_neg (by decide), if_neg (by decide)]⟩⟩)
            · exfalso; omega
