def MdI (I : MI) (a : Nat) (S : Sy) : Prop := txm I a (yM S) (yT S) ∧ tdp I (a + 2) (yt S) (yg S) ∧ stp I (a + 5) (yt S) (ys S) ∧ (I a 7 = nI (yan S) ∧ plm I (a + 6) (yt S) (yan S) (yav S)) ∧ (I a 9 = nI (ykn S) ∧ plm I (a + 7) (yt S) (ykn S) (ykv S)) ∧ I a 11 = nI (gn (yG S)) ∧ ∀ k, k < gn (yG S) → I (a + 8) k = nI (1000 * gL (yG S) k + 20 * gD (yG S) k + gH (yG S) k)
def FtMd (a x _j : Nat) : Prop := a ≤ x ∧ x < a + 11
theorem MdI_q {I J : MI} {a : Nat} {S : Sy} {s : St} (h : MdI I a S) (hn : tN (yt S) ≤ 6) (f : FrS I J (fun x _ => x = a + 5 ∨ x = a + 9 ∨ x = a + 10)) (hs : stp J (a + 5) (yt S) s) : MdI J a (toS S s) := by
  obtain ⟨ht, ho, -, ⟨h7, hp⟩, ⟨h9, hq⟩, h11, hw⟩ := h
  exact ⟨⟨(f _ _ (by omega)).trans ht.1, fun k hk => (f _ _ (by omega)).trans (ht.2 k hk)⟩, tdp_fr ho (fun j => f _ _ (by omega)), hs, ⟨(f _ _ (by omega)).trans h7, plm_fr hp hn (fun j => f _ _ (by omega))⟩, ⟨(f _ _ (by omega)).trans h9, plm_fr hq hn (fun j => f _ _ (by omega))⟩, (f _ _ (by omega)).trans h11, fun k hk => (f _ _ (by omega)).trans (hw k hk)⟩
theorem MdI_act {I J : MI} {a : Nat} {S : Sy} {s : St} (h : MdI I a S) (hn : tN (yt S) ≤ 6) (f : FrS I J (fun x j => x = a + 5 ∨ x = a + 9 ∨ x = a + 6 ∨ (x = a ∧ j = 7))) (h7 : J a 7 = nI (pushN 8 (yan S))) (hp : plm J (a + 6) (yt S) (pushN 8 (yan S)) (pushF 8 (yan S) (yav S) (ys S))) (hs : stp J (a + 5) (yt S) s) : MdI J a (actS S s) := by
  obtain ⟨ht, ho, -, -, ⟨h9, hq⟩, h11, hw⟩ := h
  exact ⟨⟨(f _ _ (by omega)).trans ht.1, fun k hk => (f _ _ (by omega)).trans (ht.2 k hk)⟩, tdp_fr ho (fun j => f _ _ (by omega)), hs, ⟨h7, hp⟩, ⟨(f _ _ (by omega)).trans h9, plm_fr hq hn (fun j => f _ _ (by omega))⟩, (f _ _ (by omega)).trans h11, fun k hk => (f _ _ (by omega)).trans (hw k hk)⟩
theorem md_write {I J K : MI} {a c : Nat} {S : Sy} (h : MdI I a S) (hn : tN (yt S) ≤ 6) (f1 : Fr1 I J (a + 1) (yM S)) (e1 : J (a + 1) (yM S) = nI c) (f2 : Fr1 J K a 1) (e2 : K a 1 = nI (yM S + 1)) : MdI K a ((yM S + 1, nup (yT S) (yM S) c), S.2) := by
  obtain ⟨ht, ho, hs, ⟨h7, hp⟩, ⟨h9, hq⟩, h11, hw⟩ := h
  have f : ∀ x j, x ≠ a + 1 → ¬ (x = a ∧ j = 1) → K x j = I x j := fun x j h1 h2 => (f2 x j h2).trans (f1 x j (fun z => h1 z.1))
  refine ⟨⟨e2, fun k hk => ?_⟩, tdp_fr ho (fun j => f _ _ (by omega) (by omega)), stp_to hs hn (fun j _ => f _ _ (by omega) (by omega)), ⟨(f _ _ (by omega) (by omega)).trans h7, plm_fr hp hn (fun j => f _ _ (by omega) (by omega))⟩, ⟨(f _ _ (by omega) (by omega)).trans h9, plm_fr hq hn (fun j => f _ _ (by omega) (by omega))⟩, (f _ _ (by omega) (by omega)).trans h11, fun k hk => (f _ _ (by omega) (by omega)).trans (hw k hk)⟩
  have hk : k < yM S + 1 := hk
  show K (a + 1) k = nI (nup (yT S) (yM S) c k)
  rw [f2 _ _ (by omega)]
  by_cases e : k = yM S
  · subst e; rw [nup_s]; exact e1
  · rw [nup_n e, f1 _ _ (by omega)]; exact ht.2 k (by omega)
theorem md_cnt {I J : MI} {a q : Nat} {S : Sy} (h : MdI I a S) (hn : tN (yt S) ≤ 6) (f : Fr1 I J a q) (h1 : q = 1 ∨ q = 11) (e : J a q = nI 0) : (q = 1 → MdI J a ((0, yT S), S.2)) ∧ (q = 11 → MdI J a (S.1, S.2.1, S.2.2.1, S.2.2.2.1, S.2.2.2.2.1, (0, (yG S).2))) := by
  obtain ⟨ht, ho, hs, ⟨h7, hp⟩, ⟨h9, hq⟩, h11, hw⟩ := h
  refine ⟨fun h2 => ?_, fun h2 => ?_⟩
  · subst h2
    exact ⟨⟨e, fun k hk => absurd hk (Nat.not_lt_zero k)⟩, tdp_fr ho (fun j => f _ _ (by omega)), stp_to hs hn (fun j _ => f _ _ (by omega)), ⟨(f _ _ (by omega)).trans h7, plm_fr hp hn (fun j => f _ _ (by omega))⟩, ⟨(f _ _ (by omega)).trans h9, plm_fr hq hn (fun j => f _ _ (by omega))⟩, (f _ _ (by omega)).trans h11, fun k hk => (f _ _ (by omega)).trans (hw k hk)⟩
  · subst h2
    exact ⟨⟨(f _ _ (by omega)).trans ht.1, fun k hk => (f _ _ (by omega)).trans (ht.2 k hk)⟩, tdp_fr ho (fun j => f _ _ (by omega)), stp_to hs hn (fun j _ => f _ _ (by omega)), ⟨(f _ _ (by omega)).trans h7, plm_fr hp hn (fun j => f _ _ (by omega))⟩, ⟨(f _ _ (by omega)).trans h9, plm_fr hq hn (fun j => f _ _ (by omega))⟩, e, fun k hk => absurd hk (Nat.not_lt_zero k)⟩
set_option maxHeartbeats 4000000 in
theorem c_X9_write {r : Ev} {n : Nat} {I : MI} {Q : MQ2} (a : Nat) (hb : MdB n Q a) (S : Sy) (hm : MdI I a S) (hok : okY S) (x : Int32) : CT r 1 yX9_write cX9_write (2, (some .int)) (0, 0) [.ref (evz r + a), .int x] n I Q (ri Q (fun v J => FrS I J (FtMd a) ∧ MdI J a (A_write S x).2 ∧ v = (A_write S x).1)) := by
  refine ct_of (lv := [some (.ref (evz r + a)), some (.int x)]) (by decide +kernel) rfl rfl rfl ?_
  obtain ⟨b0, bT, bO, bD, bB, bS, bP, bM, bN, bR, bH, qT, qO, qD, qB, qS, qP, qM, qN, qR, qH⟩ := id hb
  obtain ⟨ht, ho, hs, ⟨h7, hp⟩, ⟨h9, hq⟩, h11, hw⟩ := id hm
  obtain ⟨y1, y2, y3, y4, y5, y6, y7, y8, y9, y10, y11, y12⟩ := id hok
  have hn6 := y3.1
  refine x_iload_1 dX9_write_0 ?_
  refine x_bip (c := 32) dX9_write_1 (by decide) ?_
  refine x_bip (c := 126) dX9_write_3 (by decide) ?_
  refine x_S3i dX9_write_5 m_X9_54 (c_X9_in x 32 126 (by omega) (by omega)) (fun x5 I5 h5 => ?_)
  obtain ⟨rfl, ⟨rfl, h5⟩ | ⟨rfl, h5⟩⟩ := h5
  · obtain ⟨c, c0, c1, rfl⟩ := h5
    refine x_if_neN dX9_write_8 (by omega) (fun c8 => ?_) (fun c8 => ?_)
    · refine x_aload_0 dX9_write_13 ?_
      refine x_getV dX9_write_14 f_X9_58 (by assumption) ht.1 ?_
      refine x_sip (c := 200) dX9_write_17 (by decide) ?_
      refine x_icmp_neN dX9_write_20 (by omega) (by omega) (fun c20 => ?_) (fun c20 => ?_)
      · refine x_aload_0 dX9_write_26 ?_
        refine x_getr dX9_write_27 f_X9_7 (by assumption) qT ?_
        refine x_aload_0 dX9_write_30 ?_
        refine x_getV dX9_write_31 f_X9_58 (by assumption) ht.1 ?_
        refine x_iload_1 dX9_write_34 ?_
        refine x_iastA dX9_write_35 (by assumption) rfl (by omega) (fun J35 fr35 e35 => ?_)
        refine x_aload_0 dX9_write_36 ?_
        first | refine x_dup_ref dX9_write_37 ?_ | refine x_dup_int dX9_write_37 ?_
        refine x_getV dX9_write_38 f_X9_58 (by assumption) ((fr35 _ _ (by omega)).trans ht.1) ?_
        refine x_const (c := 1) dX9_write_41 rfl ?_
        refine x_iaddN dX9_write_42 ?_
        refine x_putA dX9_write_43 f_X9_58 (by assumption) (fun J43 fr43 e43 => ?_)
        refine x_aload_0 dX9_write_46 ?_
        refine x_getV dX9_write_47 f_X9_58 (by assumption) e43 ?_
        exact x_iret (st := []) dX9_write_50 rfl rfl (⟨_, rfl, rfl, by unfold A_write; rw [onI_y (by omega) (by omega) (by omega), if_neg (by omega)]; exact ⟨fun b j hb2 => (fr43 b j (by unfold FtMd at hb2; omega)).trans (fr35 b j (by unfold FtMd at hb2; omega)), md_write hm hn6 fr35 e35 fr43 e43, rfl⟩⟩)
      · refine x_bipush (v := -3) dX9_write_23 (by decide) ?_
        exact x_iret (st := []) dX9_write_25 rfl rfl (⟨_, rfl, rfl, by unfold A_write; rw [onI_y (by omega) (by omega) (by omega), if_pos (by omega)]; exact ⟨fun _ _ _ => rfl, hm, rfl⟩⟩)
    · exfalso; omega
  · refine x_if_neN dX9_write_8 (by omega) (fun c8 => ?_) (fun c8 => ?_)
    · exfalso; omega
    · refine x_iconst (v := -1) dX9_write_11 rfl ?_
      exact x_iret (st := []) dX9_write_12 rfl rfl (⟨_, rfl, rfl, by unfold A_write; rw [onI_n h5]; exact ⟨fun _ _ _ => rfl, hm, rfl⟩⟩)
set_option maxHeartbeats 4000000 in
theorem c_X9_wipe {r : Ev} {n : Nat} {I : MI} {Q : MQ2} (a : Nat) (hb : MdB n Q a) (S : Sy) (hm : MdI I a S) (hok : okY S) : CT r 0 yX9_wipe cX9_wipe (2, (some .int)) (0, 0) [.ref (evz r + a)] n I Q (ri Q (fun v J => FrS I J (FtMd a) ∧ MdI J a (A_wipe S).2 ∧ v = (A_wipe S).1)) := by
  refine ct_of (lv := [some (.ref (evz r + a)), none]) (by decide +kernel) rfl rfl rfl ?_
  obtain ⟨b0, bT, bO, bD, bB, bS, bP, bM, bN, bR, bH, qT, qO, qD, qB, qS, qP, qM, qN, qR, qH⟩ := id hb
  obtain ⟨ht, ho, hs, ⟨h7, hp⟩, ⟨h9, hq⟩, h11, hw⟩ := id hm
  obtain ⟨y1, y2, y3, y4, y5, y6, y7, y8, y9, y10, y11, y12⟩ := id hok
  have hn6 := y3.1
  refine x_aload_0 dX9_wipe_0 ?_
  refine x_getV dX9_wipe_1 f_X9_58 (by assumption) ht.1 ?_
  refine x_istore_1 dX9_wipe_4 rfl rfl ?_
  refine x_aload_0 dX9_wipe_5 ?_
  refine x_const (c := 0) dX9_wipe_6 rfl ?_
  refine x_putA dX9_wipe_7 f_X9_58 (by assumption) (fun J7 fr7 e7 => ?_)
  refine x_iload_1 dX9_wipe_10 ?_
  exact x_iret (st := []) dX9_wipe_11 rfl rfl (⟨_, rfl, rfl, fun b j hb2 => fr7 b j (by unfold FtMd at hb2; omega), (md_cnt hm hn6 fr7 (Or.inl rfl) e7).1 rfl, rfl⟩)
set_option maxHeartbeats 4000000 in
theorem c_X9_forget {r : Ev} {n : Nat} {I : MI} {Q : MQ2} (a : Nat) (hb : MdB n Q a) (S : Sy) (hm : MdI I a S) (hok : okY S) : CT r 0 yX9_forget cX9_forget (2, (some .int)) (0, 0) [.ref (evz r + a)] n I Q (ri Q (fun v J => FrS I J (FtMd a) ∧ MdI J a (A_forget S).2 ∧ v = (A_forget S).1)) := by
  refine ct_of (lv := [some (.ref (evz r + a)), none]) (by decide +kernel) rfl rfl rfl ?_
  obtain ⟨b0, bT, bO, bD, bB, bS, bP, bM, bN, bR, bH, qT, qO, qD, qB, qS, qP, qM, qN, qR, qH⟩ := id hb
  obtain ⟨ht, ho, hs, ⟨h7, hp⟩, ⟨h9, hq⟩, h11, hw⟩ := id hm
  obtain ⟨y1, y2, y3, y4, y5, y6, y7, y8, y9, y10, y11, y12⟩ := id hok
  have hn6 := y3.1
  refine x_aload_0 dX9_forget_0 ?_
  refine x_getV dX9_forget_1 f_X9_97 (by assumption) h11 ?_
  refine x_istore_1 dX9_forget_4 rfl rfl ?_
  refine x_aload_0 dX9_forget_5 ?_
  refine x_const (c := 0) dX9_forget_6 rfl ?_
  refine x_putA dX9_forget_7 f_X9_97 (by assumption) (fun J7 fr7 e7 => ?_)
  refine x_iload_1 dX9_forget_10 ?_
  exact x_iret (st := []) dX9_forget_11 rfl rfl (⟨_, rfl, rfl, fun b j hb2 => fr7 b j (by unfold FtMd at hb2; omega), (md_cnt hm hn6 fr7 (Or.inr rfl) e7).2 rfl, rfl⟩)
theorem md_read {I J : MI} {a : Nat} {S : Sy} (h : MdI I a S) (hn : tN (yt S) ≤ 6) (f : FrS I J (FtM a)) : MdI J a S := by
  obtain ⟨ht, ho, hs, ⟨h7, hp⟩, ⟨h9, hq⟩, h11, hw⟩ := h
  exact ⟨⟨(f _ _ (by unfold FtM; omega)).trans ht.1, fun k hk => (f _ _ (by unfold FtM; omega)).trans (ht.2 k hk)⟩, tdp_fr ho (fun j => f _ _ (by unfold FtM; omega)), stp_to hs hn (fun j _ => f _ _ (by unfold FtM; omega)), ⟨(f _ _ (by unfold FtM; omega)).trans h7, plm_fr hp hn (fun j => f _ _ (by unfold FtM; omega))⟩, ⟨(f _ _ (by unfold FtM; omega)).trans h9, plm_fr hq hn (fun j => f _ _ (by unfold FtM; omega))⟩, (f _ _ (by unfold FtM; omega)).trans h11, fun k hk => (f _ _ (by unfold FtM; omega)).trans (hw k hk)⟩
theorem p_fault {I J : MI} {a : Nat} {S : Sy} {v : Int32} (hm : MdI I a S) (hn : tN (yt S) ≤ 6) (h : FrS I J (FtM a) ∧ ((v = -4 ∧ (readF (yT S) (yM S) 200 0 (t00, s00, g00)).1 = none) ∨ (∃ p, v = nI p ∧ p < 200 ∧ (readF (yT S) (yM S) 200 0 (t00, s00, g00)).1 = some p))) : FrS I J (FtMd a) ∧ MdI J a (A_fault S).2 ∧ v = (A_fault S).1 := by
  refine ⟨fun b j hb2 => h.1 b j (by unfold FtMd at hb2; unfold FtM; omega), md_read hm hn h.1, ?_⟩
  show v = pl4 (rdF S).1
  unfold rdF
  rcases h.2 with ⟨rfl, e⟩ | ⟨p, rfl, hp, e⟩
  · rw [e]; rfl
  · rw [e]; rfl
theorem p_lay {I J : MI} {a : Nat} {S : Sy} {v : Int32} (hm : MdI I a S) (hn : tN (yt S) ≤ 6) (h : (((rdF S).1 = none ∧ tN (rdF S).2.1 ≠ 0) ∧ v = nI (tN (rdF S).2.1) ∧ FrS I J (fun x j => FtY a x j ∨ FtM a x j) ∧ tdp J (a + 2) (rdF S).2.1 (rdF S).2.2.2 ∧ stp J (a + 5) (rdF S).2.1 (rdF S).2.2.1 ∧ J a 7 = nI 0 ∧ J a 9 = nI 0 ∧ J a 11 = nI 0) ∨ (¬ ((rdF S).1 = none ∧ tN (rdF S).2.1 ≠ 0) ∧ v = -2 ∧ FrS I J (FtM a))) : FrS I J (FtMd a) ∧ MdI J a (A_lay S).2 ∧ v = (A_lay S).1 := by
  rcases h with ⟨hc, rfl, f, h1, h2, h3, h4, h5⟩ | ⟨hc, rfl, f⟩
  · have e : A_lay S = (nI (tN (rdF S).2.1), layS S) := if_pos hc
    rw [e]
    exact ⟨fun b j hb2 => f b j (by unfold FtMd at hb2; unfold FtY FtM; omega), ⟨⟨(f _ _ (by unfold FtY FtM; omega)).trans hm.1.1, fun k hk => (f _ _ (by unfold FtY FtM; omega)).trans (hm.1.2 k hk)⟩, h1, h2, ⟨h3, fun i hi => absurd hi (Nat.not_lt_zero i)⟩, ⟨h4, fun i hi => absurd hi (Nat.not_lt_zero i)⟩, h5, fun i hi => absurd hi (Nat.not_lt_zero i)⟩, rfl⟩
  · have e : A_lay S = (-2, S) := if_neg hc
    rw [e]
    exact ⟨fun b j hb2 => f b j (by unfold FtMd at hb2; unfold FtM; omega), md_read hm hn f, rfl⟩
theorem inB_out {x : Int32} {hi : Nat} (h : ¬ inB x 0 hi) (hh : hi < 100000) : x.toInt < 0 ∨ (hi : Int) < x.toInt := by
  by_cases h1 : x < nI 0
  · exact Or.inl (Int32.lt_iff_toInt_lt.mp h1)
  · by_cases h2 : nI hi < x
    · have := Int32.lt_iff_toInt_lt.mp h2
      rw [nI_toInt (by omega)] at this
      exact Or.inr this
    · exact absurd (inR (by omega) (by omega) h1 h2) h
set_option maxHeartbeats 4000000 in
theorem c_X9_loom {r : Ev} {n : Nat} {I : MI} {Q : MQ2} (a : Nat) (hb : MdB n Q a) (S : Sy) (hm : MdI I a S) (hok : okY S) (x y : Int32) : CT r 2 yX9_loom cX9_loom (3, (some .int)) (0, 0) [.ref (evz r + a), .int x, .int y] n I Q (ri Q (fun v J => FrS I J (FtMd a) ∧ MdI J a (A_loom S x y).2 ∧ v = (A_loom S x y).1)) := by
  refine ct_of (lv := [some (.ref (evz r + a)), some (.int x), some (.int y)]) (by decide +kernel) rfl rfl rfl ?_
  obtain ⟨b0, bT, bO, bD, bB, bS, bP, bM, bN, bR, bH, qT, qO, qD, qB, qS, qP, qM, qN, qR, qH⟩ := id hb
  obtain ⟨ht, ho, hs, ⟨h7, hp⟩, ⟨h9, hq⟩, h11, hw⟩ := id hm
  obtain ⟨y1, y2, y3, y4, y5, y6, y7, y8, y9, y10, y11, y12⟩ := id hok
  have hn6 := y3.1
  refine x_aload_0 dX9_loom_0 ?_
  refine x_iload_1 dX9_loom_1 ?_
  refine x_V1i dX9_loom_2 m_X9_100 (c_X9_isLoom a hb (tN (yt S)) x ho.1 y6 hn6) (by assumption) (fun x2 I2 h2 => ?_)
  obtain ⟨rfl, ⟨rfl, h2⟩ | ⟨rfl, h2⟩⟩ := h2
  · obtain ⟨l, l0, l1, rfl⟩ := h2
    refine x_if_neN dX9_loom_5 (by omega) (fun c5 => ?_) (fun c5 => ?_)
    · refine x_iload_2 dX9_loom_10 ?_
      by_cases hy : inB y 0 5
      · obtain ⟨w, w0, w1, rfl⟩ := hy
        by_cases q0 : w = 0
        · subst q0
          refine x_tsIn (off := 37) (t := 48) dX9_loom_11 (by decide) (by decide) (by decide) (by decide) ?_
          refine x_aload_0 dX9_loom_48 ?_
          refine x_getr dX9_loom_49 f_X9_13 (by assumption) qO ?_
          refine x_const (c := 5) dX9_loom_52 rfl ?_
          refine x_iload_1 dX9_loom_53 ?_
          refine x_iaddN dX9_loom_54 ?_
          refine x_ialdV dX9_loom_55 (by assumption) rfl (by omega) (ho.2.2.2.2.2.1 l (by omega)) ?_
          exact x_iret (st := []) dX9_loom_56 rfl rfl (⟨_, rfl, rfl, by unfold A_loom; rw [onI_y (by omega) (by omega) (by omega), onI_y (by omega) (by omega) (by omega)]; exact ⟨fun _ _ _ => rfl, hm, rfl⟩⟩)
        by_cases q1 : w = 1
        · subst q1
          refine x_tsIn (off := 46) (t := 57) dX9_loom_11 (by decide) (by decide) (by decide) (by decide) ?_
          refine x_aload_0 dX9_loom_57 ?_
          refine x_getr dX9_loom_58 f_X9_22 (by assumption) qS ?_
          refine x_iload_1 dX9_loom_61 ?_
          refine x_ialdV dX9_loom_62 (by assumption) rfl (by omega) (hs.1 l (by omega)) ?_
          exact x_iret (st := []) dX9_loom_63 rfl rfl (⟨_, rfl, rfl, by unfold A_loom; rw [onI_y (by omega) (by omega) (by omega), onI_y (by omega) (by omega) (by omega)]; exact ⟨fun _ _ _ => rfl, hm, rfl⟩⟩)
        by_cases q2 : w = 2
        · subst q2
          refine x_tsIn (off := 53) (t := 64) dX9_loom_11 (by decide) (by decide) (by decide) (by decide) ?_
          refine x_aload_0 dX9_loom_64 ?_
          refine x_getr dX9_loom_65 f_X9_13 (by assumption) qO ?_
          refine x_bip (c := 11) dX9_loom_68 (by decide) ?_
          refine x_iload_1 dX9_loom_70 ?_
          refine x_iaddN dX9_loom_71 ?_
          refine x_ialdV dX9_loom_72 (by assumption) rfl (by omega) (ho.2.2.2.2.2.2.1 l (by omega)) ?_
          exact x_iret (st := []) dX9_loom_73 rfl rfl (⟨_, rfl, rfl, by unfold A_loom; rw [onI_y (by omega) (by omega) (by omega), onI_y (by omega) (by omega) (by omega)]; exact ⟨fun _ _ _ => rfl, hm, rfl⟩⟩)
        by_cases q3 : w = 3
        · subst q3
          refine x_tsIn (off := 63) (t := 74) dX9_loom_11 (by decide) (by decide) (by decide) (by decide) ?_
          refine x_aload_0 dX9_loom_74 ?_
          refine x_getr dX9_loom_75 f_X9_22 (by assumption) qS ?_
          refine x_bip (c := 6) dX9_loom_78 (by decide) ?_
          refine x_iload_1 dX9_loom_80 ?_
          refine x_iaddN dX9_loom_81 ?_
          refine x_ialdV dX9_loom_82 (by assumption) rfl (by omega) (hs.2.1 l (by omega)) ?_
          exact x_iret (st := []) dX9_loom_83 rfl rfl (⟨_, rfl, rfl, by unfold A_loom; rw [onI_y (by omega) (by omega) (by omega), onI_y (by omega) (by omega) (by omega)]; exact ⟨fun _ _ _ => rfl, hm, rfl⟩⟩)
        by_cases q4 : w = 4
        · subst q4
          refine x_tsIn (off := 73) (t := 84) dX9_loom_11 (by decide) (by decide) (by decide) (by decide) ?_
          refine x_aload_0 dX9_loom_84 ?_
          refine x_getr dX9_loom_85 f_X9_22 (by assumption) qS ?_
          refine x_bip (c := 12) dX9_loom_88 (by decide) ?_
          refine x_iload_1 dX9_loom_90 ?_
          refine x_iaddN dX9_loom_91 ?_
          refine x_ialdV dX9_loom_92 (by assumption) rfl (by omega) (hs.2.2.1 l (by omega)) ?_
          exact x_iret (st := []) dX9_loom_93 rfl rfl (⟨_, rfl, rfl, by unfold A_loom; rw [onI_y (by omega) (by omega) (by omega), onI_y (by omega) (by omega) (by omega)]; exact ⟨fun _ _ _ => rfl, hm, rfl⟩⟩)
        have q5 : w = 5 := by omega
        subst q5
        refine x_tsIn (off := 83) (t := 94) dX9_loom_11 (by decide) (by decide) (by decide) (by decide) ?_
        refine x_aload_0 dX9_loom_94 ?_
        refine x_getr dX9_loom_95 f_X9_22 (by assumption) qS ?_
        refine x_bip (c := 18) dX9_loom_98 (by decide) ?_
        refine x_iload_1 dX9_loom_100 ?_
        refine x_iaddN dX9_loom_101 ?_
        refine x_ialdV dX9_loom_102 (by assumption) rfl (by omega) (hs.2.2.2.1 l (by omega)) ?_
        exact x_iret (st := []) dX9_loom_103 rfl rfl (⟨_, rfl, rfl, by unfold A_loom; rw [onI_y (by omega) (by omega) (by omega), onI_y (by omega) (by omega) (by omega)]; exact ⟨fun _ _ _ => rfl, hm, rfl⟩⟩)
      · refine x_tsOut (t := 104) dX9_loom_11 (inB_out (hi := 5) hy (by decide)) (by decide) ?_
        refine x_iconst (v := -1) dX9_loom_104 rfl ?_
        exact x_iret (st := []) dX9_loom_105 rfl rfl (⟨_, rfl, rfl, by unfold A_loom; rw [onI_y (by omega) (by omega) (by omega), onI_n hy]; exact ⟨fun _ _ _ => rfl, hm, rfl⟩⟩)
    · exfalso; omega
  · refine x_if_neN dX9_loom_5 (by omega) (fun c5 => ?_) (fun c5 => ?_)
    · exfalso; omega
    · refine x_iconst (v := -1) dX9_loom_8 rfl ?_
      exact x_iret (st := []) dX9_loom_9 rfl rfl (⟨_, rfl, rfl, by unfold A_loom; rw [onI_n h2]; exact ⟨fun _ _ _ => rfl, hm, rfl⟩⟩)
set_option maxHeartbeats 4000000 in
theorem c_X9_hour {r : Ev} {n : Nat} {I : MI} {Q : MQ2} (a : Nat) (hb : MdB n Q a) (S : Sy) (hm : MdI I a S) (hok : okY S) (x y : Int32) : CT r 2 yX9_hour cX9_hour (3, (some .int)) (0, 0) [.ref (evz r + a), .int x, .int y] n I Q (ri Q (fun v J => FrS I J (FtMd a) ∧ MdI J a (A_hour S x y).2 ∧ v = (A_hour S x y).1)) := by
  refine ct_of (lv := [some (.ref (evz r + a)), some (.int x), some (.int y)]) (by decide +kernel) rfl rfl rfl ?_
  obtain ⟨b0, bT, bO, bD, bB, bS, bP, bM, bN, bR, bH, qT, qO, qD, qB, qS, qP, qM, qN, qR, qH⟩ := id hb
  obtain ⟨ht, ho, hs, ⟨h7, hp⟩, ⟨h9, hq⟩, h11, hw⟩ := id hm
  obtain ⟨y1, y2, y3, y4, y5, y6, y7, y8, y9, y10, y11, y12⟩ := id hok
  have hn6 := y3.1
  refine x_iload_1 dX9_hour_0 ?_
  refine x_const (c := 0) dX9_hour_1 rfl ?_
  refine x_bip (c := 99) dX9_hour_2 (by decide) ?_
  refine x_S3i dX9_hour_4 m_X9_54 (c_X9_in x 0 99 (by omega) (by omega)) (fun x4 I4 h4 => ?_)
  obtain ⟨rfl, ⟨rfl, h4⟩ | ⟨rfl, h4⟩⟩ := h4
  · obtain ⟨h, h0, h1, rfl⟩ := h4
    refine x_if_eqN dX9_hour_7 (by omega) (fun c7 => ?_) (fun c7 => ?_)
    · exfalso; omega
    · refine x_iload_2 dX9_hour_10 ?_
      refine x_const (c := 0) dX9_hour_11 rfl ?_
      refine x_const (c := 1) dX9_hour_12 rfl ?_
      refine x_S3i dX9_hour_13 m_X9_54 (c_X9_in y 0 1 (by omega) (by omega)) (fun x13 I13 h13 => ?_)
      obtain ⟨rfl, ⟨rfl, h13⟩ | ⟨rfl, h13⟩⟩ := h13
      · obtain ⟨w, w0, w1, rfl⟩ := h13
        refine x_if_neN dX9_hour_16 (by omega) (fun c16 => ?_) (fun c16 => ?_)
        · refine x_iload_2 dX9_hour_23 ?_
          refine x_if_neN dX9_hour_24 (by omega) (fun c24 => ?_) (fun c24 => ?_)
          · refine x_aload_0 dX9_hour_35 ?_
            refine x_iload_1 dX9_hour_36 ?_
            refine x_V1i dX9_hour_37 m_X9_109 (c_X9_mistOf a hb (yt S) (yg S) ho h (by omega) y4.1) (by assumption) (fun x37 I37 h37 => ?_)
            obtain ⟨rfl, rfl⟩ := h37
            exact x_iret (st := []) dX9_hour_40 rfl rfl (by first | exact ⟨_, rfl, rfl, by unfold A_hour; rw [onI_n h4]; exact ⟨fun _ _ _ => rfl, hm, rfl⟩⟩ | exact ⟨_, rfl, rfl, by unfold A_hour; rw [onI_y (by omega) (by omega) (by omega), onI_n h13]; exact ⟨fun _ _ _ => rfl, hm, rfl⟩⟩ | exact ⟨_, rfl, rfl, by unfold A_hour; rw [onI_y (by omega) (by omega) (by omega), onI_y (by omega) (by omega) (by omega)]; exact ⟨fun _ _ _ => rfl, hm, by first | rw [if_pos (by omega)] | rw [if_neg (by omega)]⟩⟩)
          · refine x_aload_0 dX9_hour_27 ?_
            refine x_iload_1 dX9_hour_28 ?_
            refine x_V1i dX9_hour_29 m_X9_106 (c_X9_coldOf a hb (yt S) (yg S) ho h (by omega) y4.1) (by assumption) (fun x29 I29 h29 => ?_)
            obtain ⟨rfl, rfl⟩ := h29
            refine x_goto dX9_hour_32 ?_
            exact x_iret (st := []) dX9_hour_40 rfl rfl (by first | exact ⟨_, rfl, rfl, by unfold A_hour; rw [onI_n h4]; exact ⟨fun _ _ _ => rfl, hm, rfl⟩⟩ | exact ⟨_, rfl, rfl, by unfold A_hour; rw [onI_y (by omega) (by omega) (by omega), onI_n h13]; exact ⟨fun _ _ _ => rfl, hm, rfl⟩⟩ | exact ⟨_, rfl, rfl, by unfold A_hour; rw [onI_y (by omega) (by omega) (by omega), onI_y (by omega) (by omega) (by omega)]; exact ⟨fun _ _ _ => rfl, hm, by first | rw [if_pos (by omega)] | rw [if_neg (by omega)]⟩⟩)
        · exfalso; omega
      · refine x_if_neN dX9_hour_16 (by omega) (fun c16 => ?_) (fun c16 => ?_)
        · exfalso; omega
        · refine x_iconst (v := -1) dX9_hour_19 rfl ?_
          refine x_goto dX9_hour_20 ?_
          exact x_iret (st := []) dX9_hour_40 rfl rfl (by first | exact ⟨_, rfl, rfl, by unfold A_hour; rw [onI_n h4]; exact ⟨fun _ _ _ => rfl, hm, rfl⟩⟩ | exact ⟨_, rfl, rfl, by unfold A_hour; rw [onI_y (by omega) (by omega) (by omega), onI_n h13]; exact ⟨fun _ _ _ => rfl, hm, rfl⟩⟩ | exact ⟨_, rfl, rfl, by unfold A_hour; rw [onI_y (by omega) (by omega) (by omega), onI_y (by omega) (by omega) (by omega)]; exact ⟨fun _ _ _ => rfl, hm, by first | rw [if_pos (by omega)] | rw [if_neg (by omega)]⟩⟩)
  · refine x_if_eqN dX9_hour_7 (by omega) (fun c7 => ?_) (fun c7 => ?_)
    · refine x_iconst (v := -1) dX9_hour_19 rfl ?_
      refine x_goto dX9_hour_20 ?_
      exact x_iret (st := []) dX9_hour_40 rfl rfl (by first | exact ⟨_, rfl, rfl, by unfold A_hour; rw [onI_n h4]; exact ⟨fun _ _ _ => rfl, hm, rfl⟩⟩ | exact ⟨_, rfl, rfl, by unfold A_hour; rw [onI_y (by omega) (by omega) (by omega), onI_n h13]; exact ⟨fun _ _ _ => rfl, hm, rfl⟩⟩ | exact ⟨_, rfl, rfl, by unfold A_hour; rw [onI_y (by omega) (by omega) (by omega), onI_y (by omega) (by omega) (by omega)]; exact ⟨fun _ _ _ => rfl, hm, by first | rw [if_pos (by omega)] | rw [if_neg (by omega)]⟩⟩)
    · exfalso; omega
set_option maxHeartbeats 4000000 in
theorem c_X9_at {r : Ev} {n : Nat} {I : MI} {Q : MQ2} (a : Nat) (hb : MdB n Q a) (S : Sy) (hm : MdI I a S) (hok : okY S) (x : Int32) : CT r 1 yX9_at cX9_at (2, (some .int)) (0, 0) [.ref (evz r + a), .int x] n I Q (ri Q (fun v J => FrS I J (FtMd a) ∧ MdI J a (A_at S x).2 ∧ v = (A_at S x).1)) := by
  refine ct_of (lv := [some (.ref (evz r + a)), some (.int x)]) (by decide +kernel) rfl rfl rfl ?_
  obtain ⟨b0, bT, bO, bD, bB, bS, bP, bM, bN, bR, bH, qT, qO, qD, qB, qS, qP, qM, qN, qR, qH⟩ := id hb
  obtain ⟨ht, ho, hs, ⟨h7, hp⟩, ⟨h9, hq⟩, h11, hw⟩ := id hm
  obtain ⟨y1, y2, y3, y4, y5, y6, y7, y8, y9, y10, y11, y12⟩ := id hok
  have hn6 := y3.1
  refine x_iload_1 dX9_at_0 ?_
  refine x_const (c := 0) dX9_at_1 rfl ?_
  refine x_bip (c := 9) dX9_at_2 (by decide) ?_
  refine x_S3i dX9_at_4 m_X9_54 (c_X9_in x 0 9 (by omega) (by omega)) (fun x4 I4 h4 => ?_)
  obtain ⟨rfl, ⟨rfl, h4⟩ | ⟨rfl, h4⟩⟩ := h4
  · obtain ⟨p, p0, p1, rfl⟩ := h4
    refine x_if_eqN dX9_at_7 (by omega) (fun c7 => ?_) (fun c7 => ?_)
    · exfalso; omega
    · refine x_aload_0 dX9_at_10 ?_
      refine x_iload_1 dX9_at_11 ?_
      refine x_V1i dX9_at_12 m_X9_112 (c_X9_loomAt a hb (yt S) (yg S) ho (ys S) hs hn6 p (by omega) (fun l hl => by have := (y5.1.1 l hl).1; omega) y5.1.2) (by assumption) (fun x12 I12 h12 => ?_)
      obtain ⟨rfl, ⟨l, hl, he, rfl⟩ | ⟨rfl, hno⟩⟩ := h12
      · refine x_goto dX9_at_15 ?_
        exact x_iret (st := []) dX9_at_19 rfl rfl (by first | exact ⟨_, rfl, rfl, by unfold A_at; rw [onI_n h4]; exact ⟨fun _ _ _ => rfl, hm, rfl⟩⟩ | exact ⟨_, rfl, rfl, by unfold A_at; rw [onI_y (by omega) (by omega) (by omega), atF_y y5.1.2 hl he]; exact ⟨fun _ _ _ => rfl, hm, rfl⟩⟩ | exact ⟨_, rfl, rfl, by unfold A_at; rw [onI_y (by omega) (by omega) (by omega), atF_n hno]; exact ⟨fun _ _ _ => rfl, hm, rfl⟩⟩)
      · refine x_goto dX9_at_15 ?_
        exact x_iret (st := []) dX9_at_19 rfl rfl (by first | exact ⟨_, rfl, rfl, by unfold A_at; rw [onI_n h4]; exact ⟨fun _ _ _ => rfl, hm, rfl⟩⟩ | exact ⟨_, rfl, rfl, by unfold A_at; rw [onI_y (by omega) (by omega) (by omega), atF_y y5.1.2 hl he]; exact ⟨fun _ _ _ => rfl, hm, rfl⟩⟩ | exact ⟨_, rfl, rfl, by unfold A_at; rw [onI_y (by omega) (by omega) (by omega), atF_n hno]; exact ⟨fun _ _ _ => rfl, hm, rfl⟩⟩)
  · refine x_if_eqN dX9_at_7 (by omega) (fun c7 => ?_) (fun c7 => ?_)
    · refine x_iconst (v := -1) dX9_at_18 rfl ?_
      exact x_iret (st := []) dX9_at_19 rfl rfl (by first | exact ⟨_, rfl, rfl, by unfold A_at; rw [onI_n h4]; exact ⟨fun _ _ _ => rfl, hm, rfl⟩⟩ | exact ⟨_, rfl, rfl, by unfold A_at; rw [onI_y (by omega) (by omega) (by omega), atF_y y5.1.2 hl he]; exact ⟨fun _ _ _ => rfl, hm, rfl⟩⟩ | exact ⟨_, rfl, rfl, by unfold A_at; rw [onI_y (by omega) (by omega) (by omega), atF_n hno]; exact ⟨fun _ _ _ => rfl, hm, rfl⟩⟩)
    · exfalso; omega
set_option maxHeartbeats 4000000 in
theorem c_X9_pass {r : Ev} {n : Nat} {I : MI} {Q : MQ2} (a : Nat) (hb : MdB n Q a) (S : Sy) (hm : MdI I a S) (hok : okY S) (x : Int32) : CT r 4 yX9_pass cX9_pass (2, (some .int)) (0, 0) [.ref (evz r + a), .int x] n I Q (ri Q (fun v J => FrS I J (FtMd a) ∧ MdI J a (A_pass S x).2 ∧ v = (A_pass S x).1)) := by
  refine ct_of (lv := [some (.ref (evz r + a)), some (.int x)]) (by decide +kernel) rfl rfl rfl ?_
  obtain ⟨b0, bT, bO, bD, bB, bS, bP, bM, bN, bR, bH, qT, qO, qD, qB, qS, qP, qM, qN, qR, qH⟩ := id hb
  obtain ⟨ht, ho, hs, ⟨h7, hp⟩, ⟨h9, hq⟩, h11, hw⟩ := id hm
  obtain ⟨y1, y2, y3, y4, y5, y6, y7, y8, y9, y10, y11, y12⟩ := id hok
  have hn6 := y3.1
  refine x_iload_1 dX9_pass_0 ?_
  refine x_const (c := 1) dX9_pass_1 rfl ?_
  refine x_bip (c := 24) dX9_pass_2 (by decide) ?_
  refine x_S3i dX9_pass_4 m_X9_54 (c_X9_in x 1 24 (by omega) (by omega)) (fun x4 I4 h4 => ?_)
  obtain ⟨rfl, ⟨rfl, h4⟩ | ⟨rfl, h4⟩⟩ := h4
  · obtain ⟨n1, n10, n11, rfl⟩ := h4
    have hR := y5.2
    refine x_if_neN dX9_pass_7 (by omega) (fun c7 => ?_) (fun c7 => ?_)
    · refine x_aload_0 dX9_pass_12 ?_
      refine x_getr dX9_pass_13 f_X9_22 (by assumption) qS ?_
      refine x_bip (c := 25) dX9_pass_16 (by decide) ?_
      refine x_ialdV dX9_pass_18 (by assumption) rfl (by omega) hs.2.2.2.2.2 ?_
      refine x_iload_1 dX9_pass_19 ?_
      refine x_iaddN dX9_pass_20 ?_
      refine x_bip (c := 99) dX9_pass_21 (by decide) ?_
      refine x_icmp_leN dX9_pass_23 (by omega) (by omega) (fun c23 => ?_) (fun c23 => ?_)
      · refine x_aload_0 dX9_pass_29 ?_
        refine x_V0v dX9_pass_30 m_X9_124 (c_X9_keeps a hb (yt S) (ys S) (yan S) (yav S) hs hn6 h7 y8 hp) (by assumption) (fun I30 h30 => ?_)
        obtain ⟨kf30, k730, kp30⟩ := h30
        have ho3 := tdp_fr ho (fun j => kf30 _ _ (by omega))
        have hs3 := stp_to hs hn6 (fun j _ => kf30 _ _ (by omega))
        refine x_aload_0 dX9_pass_33 ?_
        refine x_iload_1 dX9_pass_34 ?_
        refine x_V1v dX9_pass_35 m_X9_127 (c_X9_hours a hb (yt S) (yg S) ho3 y3 y4 (ys S) y5.1 hs3 n1 (by have := y5.2; omega)) (by assumption) (fun I35 h35 => ?_)
        obtain ⟨pf35, ps35, pr35⟩ := h35
        refine x_aload_0 dX9_pass_38 ?_
        refine x_bip (c := 6) dX9_pass_39 (by decide) ?_
        refine x_V1i dX9_pass_41 m_X9_131 (c_X9_sumOf a hb (tN (yt S)) ((pf35 _ _ (by unfold FtP9; omega)).trans ho3.1) hn6 6 (by omega) _ ps35.2.1) (by assumption) (fun x41 I41 h41 => ?_)
        obtain ⟨rfl, rfl⟩ := h41
        exact x_iret (st := []) dX9_pass_44 rfl rfl (⟨_, rfl, rfl, by unfold A_pass; rw [onI_y (by omega) (by omega) (by omega), if_neg (by omega)]; exact ⟨fun b j hb2 => (pf35 b j (by unfold FtMd at hb2; unfold FtP9; omega)).trans (kf30 b j (by unfold FtMd at hb2; omega)), MdI_act hm hn6 (fun x j hx => (pf35 x j (by unfold FtP9; omega)).trans (kf30 x j (by omega))) ((pf35 _ _ (by unfold FtP9; omega)).trans k730) (plm_fr kp30 hn6 (fun j => pf35 _ _ (by unfold FtP9; omega))) ps35, rfl⟩⟩)
      · refine x_bipush (v := -2) dX9_pass_26 (by decide) ?_
        exact x_iret (st := []) dX9_pass_28 rfl rfl (⟨_, rfl, rfl, by unfold A_pass; rw [onI_y (by omega) (by omega) (by omega), if_pos (by omega)]; exact ⟨fun _ _ _ => rfl, hm, rfl⟩⟩)
    · exfalso; omega
  · refine x_if_neN dX9_pass_7 (by omega) (fun c7 => ?_) (fun c7 => ?_)
    · exfalso; omega
    · refine x_iconst (v := -1) dX9_pass_10 rfl ?_
      exact x_iret (st := []) dX9_pass_11 rfl rfl (⟨_, rfl, rfl, by unfold A_pass; rw [onI_n h4]; exact ⟨fun _ _ _ => rfl, hm, rfl⟩⟩)
set_option maxHeartbeats 4000000 in
theorem c_X9_shade {r : Ev} {n : Nat} {I : MI} {Q : MQ2} (a : Nat) (hb : MdB n Q a) (S : Sy) (hm : MdI I a S) (hok : okY S) (x : Int32) : CT r 2 yX9_shade cX9_shade (2, (some .int)) (0, 0) [.ref (evz r + a), .int x] n I Q (ri Q (fun v J => FrS I J (FtMd a) ∧ MdI J a (A_shade S x).2 ∧ v = (A_shade S x).1)) := by
  refine ct_of (lv := [some (.ref (evz r + a)), some (.int x)]) (by decide +kernel) rfl rfl rfl ?_
  obtain ⟨b0, bT, bO, bD, bB, bS, bP, bM, bN, bR, bH, qT, qO, qD, qB, qS, qP, qM, qN, qR, qH⟩ := id hb
  obtain ⟨ht, ho, hs, ⟨h7, hp⟩, ⟨h9, hq⟩, h11, hw⟩ := id hm
  obtain ⟨y1, y2, y3, y4, y5, y6, y7, y8, y9, y10, y11, y12⟩ := id hok
  have hn6 := y3.1
  refine x_aload_0 dX9_shade_0 ?_
  refine x_iload_1 dX9_shade_1 ?_
  refine x_V1i dX9_shade_2 m_X9_100 (c_X9_isLoom a hb (tN (yt S)) x ho.1 y6 hn6) (by assumption) (fun x2 I2 h2 => ?_)
  obtain ⟨rfl, ⟨rfl, h2⟩ | ⟨rfl, h2⟩⟩ := h2
  · obtain ⟨l, l0, l1, rfl⟩ := h2
    have hl : l < tN (yt S) := by omega
    have hH := (y5.1.1 l hl).2.2
    refine x_if_neN dX9_shade_5 (by omega) (fun c5 => ?_) (fun c5 => ?_)
    · refine x_aload_0 dX9_shade_10 ?_
      refine x_V0v dX9_shade_11 m_X9_124 (c_X9_keeps a hb (yt S) (ys S) (yan S) (yav S) hs hn6 h7 y8 hp) (by assumption) (fun I11 h11 => ?_)
      obtain ⟨kf11, k711, kp11⟩ := h11
      have ho3 := tdp_fr ho (fun j => kf11 _ _ (by omega))
      have hs3 := stp_to hs hn6 (fun j _ => kf11 _ _ (by omega))
      refine x_aload_0 dX9_shade_14 ?_
      refine x_getr dX9_shade_15 f_X9_22 (by assumption) qS ?_
      refine x_bip (c := 18) dX9_shade_18 (by decide) ?_
      refine x_iload_1 dX9_shade_20 ?_
      refine x_iaddN dX9_shade_21 ?_
      refine x_const (c := 1) dX9_shade_22 rfl ?_
      refine x_aload_0 dX9_shade_23 ?_
      refine x_getr dX9_shade_24 f_X9_22 (by assumption) qS ?_
      refine x_bip (c := 18) dX9_shade_27 (by decide) ?_
      refine x_iload_1 dX9_shade_29 ?_
      refine x_iaddN dX9_shade_30 ?_
      refine x_ialdV dX9_shade_31 (by assumption) rfl (by omega) (hs3.2.2.2.1 l hl) ?_
      refine x_isubN dX9_shade_32 (by omega) ?_
      refine x_iastA dX9_shade_33 (by assumption) rfl (by omega) (fun J33 fr33 e33 => ?_)
      refine x_aload_0 dX9_shade_34 ?_
      refine x_getr dX9_shade_35 f_X9_22 (by assumption) qS ?_
      refine x_bip (c := 18) dX9_shade_38 (by decide) ?_
      refine x_iload_1 dX9_shade_40 ?_
      refine x_iaddN dX9_shade_41 ?_
      refine x_ialdV dX9_shade_42 (by assumption) rfl (by omega) e33 ?_
      exact x_iret (st := []) dX9_shade_43 rfl rfl (⟨_, rfl, rfl, by unfold A_shade; rw [onI_y (by omega) (by omega) (by omega)]; exact ⟨fun b j hb2 => (fr33 b j (by unfold FtMd at hb2; omega)).trans (kf11 b j (by unfold FtMd at hb2; omega)), MdI_act hm hn6 (fun x j hx => (fr33 x j (by omega)).trans (kf11 x j (by omega))) ((fr33 _ _ (by omega)).trans k711) (plm_fr kp11 hn6 (fun j => fr33 _ _ (by omega))) (stp_H hs3 hn6 hl fr33 e33), rfl⟩⟩)
    · exfalso; omega
  · refine x_if_neN dX9_shade_5 (by omega) (fun c5 => ?_) (fun c5 => ?_)
    · exfalso; omega
    · refine x_iconst (v := -1) dX9_shade_8 rfl ?_
      exact x_iret (st := []) dX9_shade_9 rfl rfl (⟨_, rfl, rfl, by unfold A_shade; rw [onI_n h2]; exact ⟨fun _ _ _ => rfl, hm, rfl⟩⟩)
set_option maxHeartbeats 4000000 in
theorem c_X9_cow {r : Ev} {n : Nat} {I : MI} {Q : MQ2} (a : Nat) (hb : MdB n Q a) (S : Sy) (hm : MdI I a S) (hok : okY S) (x : Int32) : CT r 2 yX9_cow cX9_cow (2, (some .int)) (0, 0) [.ref (evz r + a), .int x] n I Q (ri Q (fun v J => FrS I J (FtMd a) ∧ MdI J a (A_cow S x).2 ∧ v = (A_cow S x).1)) := by
  refine ct_of (lv := [some (.ref (evz r + a)), some (.int x)]) (by decide +kernel) rfl rfl rfl ?_
  obtain ⟨b0, bT, bO, bD, bB, bS, bP, bM, bN, bR, bH, qT, qO, qD, qB, qS, qP, qM, qN, qR, qH⟩ := id hb
  obtain ⟨ht, ho, hs, ⟨h7, hp⟩, ⟨h9, hq⟩, h11, hw⟩ := id hm
  obtain ⟨y1, y2, y3, y4, y5, y6, y7, y8, y9, y10, y11, y12⟩ := id hok
  have hn6 := y3.1
  refine x_aload_0 dX9_cow_0 ?_
  refine x_iload_1 dX9_cow_1 ?_
  refine x_V1i dX9_cow_2 m_X9_100 (c_X9_isLoom a hb (tN (yt S)) x ho.1 y6 hn6) (by assumption) (fun x2 I2 h2 => ?_)
  obtain ⟨rfl, ⟨rfl, h2⟩ | ⟨rfl, h2⟩⟩ := h2
  · obtain ⟨l, l0, l1, rfl⟩ := h2
    have hl : l < tN (yt S) := by omega
    have hD := (y5.1.1 l hl).2.1
    have h9 := y7 l hl
    refine x_if_neN dX9_cow_5 (by omega) (fun c5 => ?_) (fun c5 => ?_)
    · refine x_aload_0 dX9_cow_10 ?_
      refine x_getr dX9_cow_11 f_X9_22 (by assumption) qS ?_
      refine x_bip (c := 6) dX9_cow_14 (by decide) ?_
      refine x_iload_1 dX9_cow_16 ?_
      refine x_iaddN dX9_cow_17 ?_
      refine x_ialdV dX9_cow_18 (by assumption) rfl (by omega) (hs.2.1 l hl) ?_
      refine x_if_neN dX9_cow_19 (by omega) (fun c19 => ?_) (fun c19 => ?_)
      · refine x_aload_0 dX9_cow_25 ?_
        refine x_V0v dX9_cow_26 m_X9_124 (c_X9_keeps a hb (yt S) (ys S) (yan S) (yav S) hs hn6 h7 y8 hp) (by assumption) (fun I26 h26 => ?_)
        obtain ⟨kf26, k726, kp26⟩ := h26
        have ho3 := tdp_fr ho (fun j => kf26 _ _ (by omega))
        have hs3 := stp_to hs hn6 (fun j _ => kf26 _ _ (by omega))
        refine x_aload_0 dX9_cow_29 ?_
        refine x_getr dX9_cow_30 f_X9_22 (by assumption) qS ?_
        refine x_bip (c := 6) dX9_cow_33 (by decide) ?_
        refine x_iload_1 dX9_cow_35 ?_
        refine x_iaddN dX9_cow_36 ?_
        refine x_dup2 dX9_cow_37 ?_
        refine x_ialdV dX9_cow_38 (by assumption) rfl (by omega) (hs3.2.1 l hl) ?_
        refine x_const (c := 2) dX9_cow_39 rfl ?_
        refine x_idivN dX9_cow_40 (by omega) (by omega) (by omega) ?_
        refine x_iastA dX9_cow_41 (by assumption) rfl (by omega) (fun J41 fr41 e41 => ?_)
        refine x_aload_0 dX9_cow_42 ?_
        refine x_getr dX9_cow_43 f_X9_22 (by assumption) qS ?_
        refine x_bip (c := 6) dX9_cow_46 (by decide) ?_
        refine x_iload_1 dX9_cow_48 ?_
        refine x_iaddN dX9_cow_49 ?_
        refine x_ialdV dX9_cow_50 (by assumption) rfl (by omega) e41 ?_
        exact x_iret (st := []) dX9_cow_51 rfl rfl (⟨_, rfl, rfl, by unfold A_cow; rw [onI_y (by omega) (by omega) (by omega), if_neg (by omega)]; exact ⟨fun b j hb2 => (fr41 b j (by unfold FtMd at hb2; omega)).trans (kf26 b j (by unfold FtMd at hb2; omega)), MdI_act hm hn6 (fun x j hx => (fr41 x j (by omega)).trans (kf26 x j (by omega))) ((fr41 _ _ (by omega)).trans k726) (plm_fr kp26 hn6 (fun j => fr41 _ _ (by omega))) (stp_D hs3 hn6 hl fr41 e41), rfl⟩⟩)
      · refine x_bipush (v := -2) dX9_cow_22 (by decide) ?_
        exact x_iret (st := []) dX9_cow_24 rfl rfl (⟨_, rfl, rfl, by unfold A_cow; rw [onI_y (by omega) (by omega) (by omega), if_pos (by omega)]; exact ⟨fun _ _ _ => rfl, hm, rfl⟩⟩)
    · exfalso; omega
  · refine x_if_neN dX9_cow_5 (by omega) (fun c5 => ?_) (fun c5 => ?_)
    · exfalso; omega
    · refine x_iconst (v := -1) dX9_cow_8 rfl ?_
      exact x_iret (st := []) dX9_cow_9 rfl rfl (⟨_, rfl, rfl, by unfold A_cow; rw [onI_n h2]; exact ⟨fun _ _ _ => rfl, hm, rfl⟩⟩)
set_option maxHeartbeats 4000000 in
theorem c_X9_tears {r : Ev} {n : Nat} {I : MI} {Q : MQ2} (a : Nat) (hb : MdB n Q a) (S : Sy) (hm : MdI I a S) (hok : okY S) (x : Int32) : CT r 2 yX9_tears cX9_tears (2, (some .int)) (0, 0) [.ref (evz r + a), .int x] n I Q (ri Q (fun v J => FrS I J (FtMd a) ∧ MdI J a (A_tears S x).2 ∧ v = (A_tears S x).1)) := by
  refine ct_of (lv := [some (.ref (evz r + a)), some (.int x)]) (by decide +kernel) rfl rfl rfl ?_
  obtain ⟨b0, bT, bO, bD, bB, bS, bP, bM, bN, bR, bH, qT, qO, qD, qB, qS, qP, qM, qN, qR, qH⟩ := id hb
  obtain ⟨ht, ho, hs, ⟨h7, hp⟩, ⟨h9, hq⟩, h11, hw⟩ := id hm
  obtain ⟨y1, y2, y3, y4, y5, y6, y7, y8, y9, y10, y11, y12⟩ := id hok
  have hn6 := y3.1
  refine x_aload_0 dX9_tears_0 ?_
  refine x_iload_1 dX9_tears_1 ?_
  refine x_V1i dX9_tears_2 m_X9_100 (c_X9_isLoom a hb (tN (yt S)) x ho.1 y6 hn6) (by assumption) (fun x2 I2 h2 => ?_)
  obtain ⟨rfl, ⟨rfl, h2⟩ | ⟨rfl, h2⟩⟩ := h2
  · obtain ⟨l, l0, l1, rfl⟩ := h2
    have hl : l < tN (yt S) := by omega
    have hD := (y5.1.1 l hl).2.1
    have h9t := y7 l hl
    refine x_if_neN dX9_tears_5 (by omega) (fun c5 => ?_) (fun c5 => ?_)
    · refine x_aload_0 dX9_tears_10 ?_
      refine x_getr dX9_tears_11 f_X9_22 (by assumption) qS ?_
      refine x_bip (c := 6) dX9_tears_14 (by decide) ?_
      refine x_iload_1 dX9_tears_16 ?_
      refine x_iaddN dX9_tears_17 ?_
      refine x_ialdV dX9_tears_18 (by assumption) rfl (by omega) (hs.2.1 l hl) ?_
      refine x_aload_0 dX9_tears_19 ?_
      refine x_iload_1 dX9_tears_20 ?_
      refine x_V1i dX9_tears_21 m_X9_118 (c_X9_holds a hb (yt S) (yg S) ho hn6 l hl) (by assumption) (fun x21 I21 h21 => ?_)
      obtain ⟨rfl, rfl⟩ := h21
      refine x_icmp_neN dX9_tears_24 (by omega) (by omega) (fun c24 => ?_) (fun c24 => ?_)
      · refine x_aload_0 dX9_tears_30 ?_
        refine x_V0v dX9_tears_31 m_X9_124 (c_X9_keeps a hb (yt S) (ys S) (yan S) (yav S) hs hn6 h7 y8 hp) (by assumption) (fun I31 h31 => ?_)
        obtain ⟨kf31, k731, kp31⟩ := h31
        have ho3 := tdp_fr ho (fun j => kf31 _ _ (by omega))
        have hs3 := stp_to hs hn6 (fun j _ => kf31 _ _ (by omega))
        refine x_aload_0 dX9_tears_34 ?_
        refine x_iload_1 dX9_tears_35 ?_
        refine x_V1v dX9_tears_36 m_X9_134 (c_X9_weeps a hb (yt S) (yg S) ho3 y3 y4 (ys S) y5.1 hs3 l hl) (by assumption) (fun I36 h36 => ?_)
        obtain ⟨wf36, ws36⟩ := h36
        refine x_aload_0 dX9_tears_39 ?_
        refine x_getr dX9_tears_40 f_X9_22 (by assumption) qS ?_
        refine x_bip (c := 6) dX9_tears_43 (by decide) ?_
        refine x_iload_1 dX9_tears_45 ?_
        refine x_iaddN dX9_tears_46 ?_
        refine x_ialdV dX9_tears_47 (by assumption) rfl (by omega) (ws36.2.1 l hl) ?_
        exact x_iret (st := []) dX9_tears_48 rfl rfl (⟨_, rfl, rfl, by unfold A_tears; rw [onI_y (by omega) (by omega) (by omega), if_neg (by omega)]; exact ⟨fun b j hb2 => (wf36 b j (by unfold FtMd at hb2; omega)).trans (kf31 b j (by unfold FtMd at hb2; omega)), MdI_act hm hn6 (fun x j hx => (wf36 x j (by omega)).trans (kf31 x j (by omega))) ((wf36 _ _ (by omega)).trans k731) (plm_fr kp31 hn6 (fun j => wf36 _ _ (by omega))) ws36, (by congr 1; exact nup_s _ _ _)⟩⟩)
      · refine x_bipush (v := -2) dX9_tears_27 (by decide) ?_
        exact x_iret (st := []) dX9_tears_29 rfl rfl (⟨_, rfl, rfl, by unfold A_tears; rw [onI_y (by omega) (by omega) (by omega), if_pos (by omega)]; exact ⟨fun _ _ _ => rfl, hm, rfl⟩⟩)
    · exfalso; omega
  · refine x_if_neN dX9_tears_5 (by omega) (fun c5 => ?_) (fun c5 => ?_)
    · exfalso; omega
    · refine x_iconst (v := -1) dX9_tears_8 rfl ?_
      exact x_iret (st := []) dX9_tears_9 rfl rfl (⟨_, rfl, rfl, by unfold A_tears; rw [onI_n h2]; exact ⟨fun _ _ _ => rfl, hm, rfl⟩⟩)
set_option maxHeartbeats 4000000 in
theorem c_X9_set {r : Ev} {n : Nat} {I : MI} {Q : MQ2} (a : Nat) (hb : MdB n Q a) (S : Sy) (hm : MdI I a S) (hok : okY S) (x y : Int32) : CT r 2 yX9_set cX9_set (4, (some .int)) (0, 0) [.ref (evz r + a), .int x, .int y] n I Q (ri Q (fun v J => FrS I J (FtMd a) ∧ MdI J a (A_set S x y).2 ∧ v = (A_set S x y).1)) := by
  refine ct_of (lv := [some (.ref (evz r + a)), some (.int x), some (.int y), none]) (by decide +kernel) rfl rfl rfl ?_
  obtain ⟨b0, bT, bO, bD, bB, bS, bP, bM, bN, bR, bH, qT, qO, qD, qB, qS, qP, qM, qN, qR, qH⟩ := id hb
  obtain ⟨ht, ho, hs, ⟨h7, hp⟩, ⟨h9, hq⟩, h11, hw⟩ := id hm
  obtain ⟨y1, y2, y3, y4, y5, y6, y7, y8, y9, y10, y11, y12⟩ := id hok
  have hn6 := y3.1
  refine x_aload_0 dX9_set_0 ?_
  refine x_iload_1 dX9_set_1 ?_
  refine x_V1i dX9_set_2 m_X9_100 (c_X9_isLoom a hb (tN (yt S)) x ho.1 y6 hn6) (by assumption) (fun x2 I2 h2 => ?_)
  obtain ⟨rfl, ⟨rfl, h2⟩ | ⟨rfl, h2⟩⟩ := h2
  · obtain ⟨l, l0, l1, rfl⟩ := h2
    have hl : l < tN (yt S) := by omega
    refine x_if_eqN dX9_set_5 (by omega) (fun c5 => ?_) (fun c5 => ?_)
    · exfalso; omega
    · refine x_iload_2 dX9_set_8 ?_
      refine x_const (c := 0) dX9_set_9 rfl ?_
      refine x_bip (c := 9) dX9_set_10 (by decide) ?_
      refine x_S3i dX9_set_12 m_X9_54 (c_X9_in y 0 9 (by omega) (by omega)) (fun x12 I12 h12 => ?_)
      obtain ⟨rfl, ⟨rfl, h12⟩ | ⟨rfl, h12⟩⟩ := h12
      · obtain ⟨p, p0, p1, rfl⟩ := h12
        refine x_if_neN dX9_set_15 (by omega) (fun c15 => ?_) (fun c15 => ?_)
        · refine x_aload_0 dX9_set_20 ?_
          refine x_iload_2 dX9_set_21 ?_
          refine x_V1i dX9_set_22 m_X9_112 (c_X9_loomAt a hb (yt S) (yg S) ho (ys S) hs hn6 p (by omega) (fun l hl => by have := (y5.1.1 l hl).1; omega) y5.1.2) (by assumption) (fun x22 I22 h22 => ?_)
          obtain ⟨rfl, ⟨k9, hk9, he, rfl⟩ | ⟨rfl, hno⟩⟩ := h22
          · refine x_bipush (v := -4) dX9_set_25 (by decide) ?_
            refine x_icmp_eq dX9_set_27 (fun c27 => ?_) (fun c27 => ?_)
            · exact absurd c27 (nI_ne4 (by omega))
            · refine x_bipush (v := -2) dX9_set_30 (by decide) ?_
              exact x_iret (st := []) dX9_set_32 rfl rfl (⟨_, rfl, rfl, by unfold A_set; rw [onI_y (by omega) (by omega) (by omega), onI_y (by omega) (by omega) (by omega), if_neg (fun z => z k9 hk9 he)]; exact ⟨fun _ _ _ => rfl, hm, rfl⟩⟩)
          · refine x_bipush (v := -4) dX9_set_25 (by decide) ?_
            refine x_icmp_eq dX9_set_27 (fun c27 => ?_) (fun c27 => ?_)
            · refine x_aload_0 dX9_set_33 ?_
              refine x_V0v dX9_set_34 m_X9_124 (c_X9_keeps a hb (yt S) (ys S) (yan S) (yav S) hs hn6 h7 y8 hp) (by assumption) (fun I34 h34 => ?_)
              obtain ⟨kf34, k734, kp34⟩ := h34
              have ho3 := tdp_fr ho (fun j => kf34 _ _ (by omega))
              have hs3 := stp_to hs hn6 (fun j _ => kf34 _ _ (by omega))
              refine x_aload_0 dX9_set_37 ?_
              refine x_getr dX9_set_38 f_X9_22 (by assumption) qS ?_
              refine x_iload_1 dX9_set_41 ?_
              refine x_ialdV dX9_set_42 (by assumption) rfl (by omega) (hs3.1 l hl) ?_
              refine x_istore_3 dX9_set_43 rfl rfl ?_
              refine x_aload_0 dX9_set_44 ?_
              refine x_getr dX9_set_45 f_X9_22 (by assumption) qS ?_
              refine x_iload_1 dX9_set_48 ?_
              refine x_iload_2 dX9_set_49 ?_
              refine x_iastA dX9_set_50 (by assumption) rfl (by omega) (fun J50 fr50 e50 => ?_)
              refine x_iload_3 dX9_set_51 ?_
              exact x_iret (st := []) dX9_set_52 rfl rfl (⟨_, rfl, rfl, by unfold A_set; rw [onI_y (by omega) (by omega) (by omega), onI_y (by omega) (by omega) (by omega), if_pos hno]; exact ⟨fun b j hb2 => (fr50 b j (by unfold FtMd at hb2; omega)).trans (kf34 b j (by unfold FtMd at hb2; omega)), MdI_act hm hn6 (fun x j hx => (fr50 x j (by omega)).trans (kf34 x j (by omega))) ((fr50 _ _ (by omega)).trans k734) (plm_fr kp34 hn6 (fun j => fr50 _ _ (by omega))) (stp_P hs3 hn6 hl fr50 e50), rfl⟩⟩)
            · exact absurd rfl c27
        · exfalso; omega
      · refine x_if_neN dX9_set_15 (by omega) (fun c15 => ?_) (fun c15 => ?_)
        · exfalso; omega
        · refine x_iconst (v := -1) dX9_set_18 rfl ?_
          exact x_iret (st := []) dX9_set_19 rfl rfl (by first | exact ⟨_, rfl, rfl, by unfold A_set; rw [onI_n h2]; exact ⟨fun _ _ _ => rfl, hm, rfl⟩⟩ | exact ⟨_, rfl, rfl, by unfold A_set; rw [onI_y (by omega) (by omega) (by omega), onI_n h12]; exact ⟨fun _ _ _ => rfl, hm, rfl⟩⟩)
  · refine x_if_eqN dX9_set_5 (by omega) (fun c5 => ?_) (fun c5 => ?_)
    · refine x_iconst (v := -1) dX9_set_18 rfl ?_
      exact x_iret (st := []) dX9_set_19 rfl rfl (by first | exact ⟨_, rfl, rfl, by unfold A_set; rw [onI_n h2]; exact ⟨fun _ _ _ => rfl, hm, rfl⟩⟩ | exact ⟨_, rfl, rfl, by unfold A_set; rw [onI_y (by omega) (by omega) (by omega), onI_n h12]; exact ⟨fun _ _ _ => rfl, hm, rfl⟩⟩)
    · exfalso; omega
theorem p_undo {I J : MI} {a : Nat} {S : Sy} {x : Int32} (hm : MdI I a S) (hn : tN (yt S) ≤ 6) (h : (yan S = 0 ∧ x = -2 ∧ J = I) ∨ (0 < yan S ∧ x = nI (yan S - 1) ∧ FrS I J (fun x j => x = a + 5 ∨ (x = a ∧ j = 7)) ∧ J a 7 = nI (yan S - 1) ∧ stp J (a + 5) (yt S) (yav S (yan S - 1)))) : FrS I J (FtMd a) ∧ MdI J a (A_undo S).2 ∧ x = (A_undo S).1 := by
  rcases h with ⟨h1, rfl, rfl⟩ | ⟨h1, rfl, f, h3, h4⟩
  · unfold A_undo
    rw [if_pos h1]
    exact ⟨fun _ _ _ => rfl, hm, rfl⟩
  · unfold A_undo
    rw [if_neg (by omega)]
    obtain ⟨ht, ho, -, ⟨h7, hp⟩, ⟨h9, hq⟩, h11, hw⟩ := hm
    exact ⟨fun b j hb2 => f b j (by unfold FtMd at hb2; omega), ⟨⟨(f _ _ (by omega)).trans ht.1, fun k hk => (f _ _ (by omega)).trans (ht.2 k hk)⟩, tdp_fr ho (fun j => f _ _ (by omega)), h4, ⟨h3, plm_fr (fun i hi => hp i (Nat.lt_of_lt_of_le hi (Nat.sub_le _ _))) hn (fun j => f _ _ (by omega))⟩, ⟨(f _ _ (by omega)).trans h9, plm_fr hq hn (fun j => f _ _ (by omega))⟩, (f _ _ (by omega)).trans h11, fun k hk => (f _ _ (by omega)).trans (hw k hk)⟩, rfl⟩
theorem MdI_back {I J1 J2 J3 : MI} {a : Nat} {S : Sy} (h : MdI I a S) (hn : tN (yt S) ≤ 6) (f1 : FrS I J1 (fun x _ => x = a + 10)) (c1 : ∀ j, j < 26 → J1 (a + 10) j = I (a + 5) j) (f2 : FrS J1 J2 (fun x _ => FtP9 a x)) (f3 : FrS J2 J3 (fun x _ => x = a + 5)) (c3 : ∀ j, j < 26 → J3 (a + 5) j = J2 (a + 10) j) : FrS I J3 (FtMd a) ∧ MdI J3 a S :=
  ⟨fun b j hb => (f3 b j (by unfold FtMd at hb; omega)).trans ((f2 b j (by unfold FtMd at hb; unfold FtP9; omega)).trans (f1 b j (by unfold FtMd at hb; omega))), MdI_q (s := ys S) h hn (fun x j hx => (f3 x j (by omega)).trans ((f2 x j (by unfold FtP9; omega)).trans (f1 x j (by omega)))) (stp_to h.2.2.1 hn (fun j hj => (c3 j hj).trans ((f2 _ _ (by unfold FtP9; omega)).trans (c1 j hj))))⟩
set_option maxHeartbeats 4000000 in
theorem c_X9_behind {r : Ev} {n : Nat} {I : MI} {Q : MQ2} (a : Nat) (hb : MdB n Q a) (S : Sy) (hm : MdI I a S) (hok : okY S) (x y z : Int32) : CT r 4 yX9_behind cX9_behind (5, (some .int)) (0, 0) [.ref (evz r + a), .int x, .int y, .int z] n I Q (ri Q (fun v J => FrS I J (FtMd a) ∧ MdI J a (A_behind S x y z).2 ∧ v = (A_behind S x y z).1)) := by
  refine ct_of (lv := [some (.ref (evz r + a)), some (.int x), some (.int y), some (.int z), none]) (by decide +kernel) rfl rfl rfl ?_
  obtain ⟨b0, bT, bO, bD, bB, bS, bP, bM, bN, bR, bH, qT, qO, qD, qB, qS, qP, qM, qN, qR, qH⟩ := id hb
  obtain ⟨ht, ho, hs, ⟨h7, hp⟩, ⟨h9, hq⟩, h11, hw⟩ := id hm
  obtain ⟨y1, y2, y3, y4, y5, y6, y7, y8, y9, y10, y11, y12⟩ := id hok
  have hn6 := y3.1
  refine x_iload_1 dX9_behind_0 ?_
  refine x_const (c := 0) dX9_behind_1 rfl ?_
  refine x_bip (c := 24) dX9_behind_2 (by decide) ?_
  refine x_S3i dX9_behind_4 m_X9_54 (c_X9_in x 0 24 (by omega) (by omega)) (fun x4 I4 h4 => ?_)
  obtain ⟨rfl, ⟨rfl, h4⟩ | ⟨rfl, h4⟩⟩ := h4
  · obtain ⟨n1, n10, n11, rfl⟩ := h4
    refine x_if_eqN dX9_behind_7 (by omega) (fun c7 => ?_) (fun c7 => ?_)
    · exfalso; omega
    · refine x_aload_0 dX9_behind_10 ?_
      refine x_iload_2 dX9_behind_11 ?_
      refine x_V1i dX9_behind_12 m_X9_100 (c_X9_isLoom a hb (tN (yt S)) y ho.1 y6 hn6) (by assumption) (fun x12 I12 h12 => ?_)
      obtain ⟨rfl, ⟨rfl, h12⟩ | ⟨rfl, h12⟩⟩ := h12
      · obtain ⟨l, l0, l1, rfl⟩ := h12
        have hl : l < tN (yt S) := by omega
        refine x_if_eqN dX9_behind_15 (by omega) (fun c15 => ?_) (fun c15 => ?_)
        · exfalso; omega
        · refine x_iload_3 dX9_behind_18 ?_
          refine x_const (c := 0) dX9_behind_19 rfl ?_
          refine x_const (c := 1) dX9_behind_20 rfl ?_
          refine x_S3i dX9_behind_21 m_X9_54 (c_X9_in z 0 1 (by omega) (by omega)) (fun x21 I21 h21 => ?_)
          obtain ⟨rfl, ⟨rfl, h21⟩ | ⟨rfl, h21⟩⟩ := h21
          · obtain ⟨w, w0, w1, rfl⟩ := h21
            refine x_if_neN dX9_behind_24 (by omega) (fun c24 => ?_) (fun c24 => ?_)
            · refine x_aload_0 dX9_behind_29 ?_
              refine x_V0v dX9_behind_30 m_X9_137 (c_X9_keepsAside a hb) (by assumption) (fun I30 h30 => ?_)
              obtain ⟨cf30, cc30⟩ := h30
              have ho3 := tdp_fr ho (fun j => cf30 _ _ (by omega))
              have hs3 := stp_to hs hn6 (fun j _ => cf30 _ _ (by omega))
              refine x_aload_0 dX9_behind_33 ?_
              refine x_iload_1 dX9_behind_34 ?_
              refine x_V1v dX9_behind_35 m_X9_127 (c_X9_hours a hb (yt S) (yg S) ho3 y3 y4 (ys S) y5.1 hs3 n1 (by have := y5.2; omega)) (by assumption) (fun I35 h35 => ?_)
              obtain ⟨pf35, ps35, pr35⟩ := h35
              refine x_aload_0 dX9_behind_38 ?_
              refine x_getr dX9_behind_39 f_X9_22 (by assumption) qS ?_
              refine x_iload_3 dX9_behind_42 ?_
              refine x_if_neN dX9_behind_43 (by omega) (fun c43 => ?_) (fun c43 => ?_)
              · refine x_bip (c := 12) dX9_behind_51 (by decide) ?_
                refine x_iload_2 dX9_behind_53 ?_
                refine x_iaddN dX9_behind_54 ?_
                refine x_ialdV dX9_behind_55 (by assumption) rfl (by omega) (by first | exact ps35.2.1 l hl | exact ps35.2.2.1 l hl) ?_
                refine x_istore_4 dX9_behind_56 rfl rfl ?_
                refine x_aload_0 dX9_behind_58 ?_
                refine x_V0v dX9_behind_59 m_X9_140 (c_X9_bringsBack a hb) (by assumption) (fun I59 h59 => ?_)
                obtain ⟨cf59, cc59⟩ := h59
                refine x_iload_4 dX9_behind_62 ?_
                exact x_iret (st := []) dX9_behind_64 rfl rfl (⟨_, rfl, rfl, by unfold A_behind; rw [onI_y (by omega) (by omega) (by omega), onI_y (by omega) (by omega) (by omega), onI_y (by omega) (by omega) (by omega)]; obtain ⟨z1, z2⟩ := MdI_back hm hn6 cf30 cc30 pf35 cf59 cc59; exact ⟨z1, z2, by first | rw [if_pos (by omega)] | rw [if_neg (by omega)]⟩⟩)
              · refine x_bip (c := 6) dX9_behind_46 (by decide) ?_
                refine x_goto dX9_behind_48 ?_
                refine x_iload_2 dX9_behind_53 ?_
                refine x_iaddN dX9_behind_54 ?_
                refine x_ialdV dX9_behind_55 (by assumption) rfl (by omega) (by first | exact ps35.2.1 l hl | exact ps35.2.2.1 l hl) ?_
                refine x_istore_4 dX9_behind_56 rfl rfl ?_
                refine x_aload_0 dX9_behind_58 ?_
                refine x_V0v dX9_behind_59 m_X9_140 (c_X9_bringsBack a hb) (by assumption) (fun I59 h59 => ?_)
                obtain ⟨cf59, cc59⟩ := h59
                refine x_iload_4 dX9_behind_62 ?_
                exact x_iret (st := []) dX9_behind_64 rfl rfl (⟨_, rfl, rfl, by unfold A_behind; rw [onI_y (by omega) (by omega) (by omega), onI_y (by omega) (by omega) (by omega), onI_y (by omega) (by omega) (by omega)]; obtain ⟨z1, z2⟩ := MdI_back hm hn6 cf30 cc30 pf35 cf59 cc59; exact ⟨z1, z2, by first | rw [if_pos (by omega)] | rw [if_neg (by omega)]⟩⟩)
            · exfalso; omega
          · refine x_if_neN dX9_behind_24 (by omega) (fun c24 => ?_) (fun c24 => ?_)
            · exfalso; omega
            · refine x_iconst (v := -1) dX9_behind_27 rfl ?_
              exact x_iret (st := []) dX9_behind_28 rfl rfl (by first | exact ⟨_, rfl, rfl, by unfold A_behind; rw [onI_n h4]; exact ⟨fun _ _ _ => rfl, hm, rfl⟩⟩ | exact ⟨_, rfl, rfl, by unfold A_behind; rw [onI_y (by omega) (by omega) (by omega), onI_n h12]; exact ⟨fun _ _ _ => rfl, hm, rfl⟩⟩ | exact ⟨_, rfl, rfl, by unfold A_behind; rw [onI_y (by omega) (by omega) (by omega), onI_y (by omega) (by omega) (by omega), onI_n h21]; exact ⟨fun _ _ _ => rfl, hm, rfl⟩⟩)
      · refine x_if_eqN dX9_behind_15 (by omega) (fun c15 => ?_) (fun c15 => ?_)
        · refine x_iconst (v := -1) dX9_behind_27 rfl ?_
          exact x_iret (st := []) dX9_behind_28 rfl rfl (by first | exact ⟨_, rfl, rfl, by unfold A_behind; rw [onI_n h4]; exact ⟨fun _ _ _ => rfl, hm, rfl⟩⟩ | exact ⟨_, rfl, rfl, by unfold A_behind; rw [onI_y (by omega) (by omega) (by omega), onI_n h12]; exact ⟨fun _ _ _ => rfl, hm, rfl⟩⟩ | exact ⟨_, rfl, rfl, by unfold A_behind; rw [onI_y (by omega) (by omega) (by omega), onI_y (by omega) (by omega) (by omega), onI_n h21]; exact ⟨fun _ _ _ => rfl, hm, rfl⟩⟩)
        · exfalso; omega
  · refine x_if_eqN dX9_behind_7 (by omega) (fun c7 => ?_) (fun c7 => ?_)
    · refine x_iconst (v := -1) dX9_behind_27 rfl ?_
      exact x_iret (st := []) dX9_behind_28 rfl rfl (by first | exact ⟨_, rfl, rfl, by unfold A_behind; rw [onI_n h4]; exact ⟨fun _ _ _ => rfl, hm, rfl⟩⟩ | exact ⟨_, rfl, rfl, by unfold A_behind; rw [onI_y (by omega) (by omega) (by omega), onI_n h12]; exact ⟨fun _ _ _ => rfl, hm, rfl⟩⟩ | exact ⟨_, rfl, rfl, by unfold A_behind; rw [onI_y (by omega) (by omega) (by omega), onI_y (by omega) (by omega) (by omega), onI_n h21]; exact ⟨fun _ _ _ => rfl, hm, rfl⟩⟩)
    · exfalso; omega
set_option maxHeartbeats 4000000 in
theorem c_X9_yards {r : Ev} {n : Nat} {I : MI} {Q : MQ2} (a : Nat) (hb : MdB n Q a) (S : Sy) (hm : MdI I a S) (hok : okY S) : CT r 5 yX9_yards cX9_yards (2, (some .int)) (0, 0) [.ref (evz r + a)] n I Q (ri Q (fun v J => FrS I J (FtMd a) ∧ MdI J a (A_yards S).2 ∧ v = (A_yards S).1)) := by
  refine ct_of (lv := [some (.ref (evz r + a)), none]) (by decide +kernel) rfl rfl rfl ?_
  obtain ⟨b0, bT, bO, bD, bB, bS, bP, bM, bN, bR, bH, qT, qO, qD, qB, qS, qP, qM, qN, qR, qH⟩ := id hb
  obtain ⟨ht, ho, hs, ⟨h7, hp⟩, ⟨h9, hq⟩, h11, hw⟩ := id hm
  obtain ⟨y1, y2, y3, y4, y5, y6, y7, y8, y9, y10, y11, y12⟩ := id hok
  have hn6 := y3.1
  refine x_aload_0 dX9_yards_0 ?_
  refine x_V0v dX9_yards_1 m_X9_137 (c_X9_keepsAside a hb) (by assumption) (fun I1 h1 => ?_)
  obtain ⟨cf1, cc1⟩ := h1
  have ho3 := tdp_fr ho (fun j => cf1 _ _ (by omega))
  have hs3 := stp_to hs hn6 (fun j _ => cf1 _ _ (by omega))
  refine x_aload_0 dX9_yards_4 ?_
  refine x_V0v dX9_yards_5 m_X9_143 (c_X9_sells a hb (yt S) (yg S) ho3 y3 y4 (ys S) y5.1 hs3 (by have := y5.2; omega)) (by assumption) (fun I5 h5 => ?_)
  obtain ⟨pf5, ps5⟩ := h5
  refine x_aload_0 dX9_yards_8 ?_
  refine x_V0i dX9_yards_9 m_X9_146 (c_X9_yardsNow a hb (yt S) (yg S) (tdp_fr ho3 (fun j => pf5 _ _ (by unfold FtP9; omega))) _ ps5 hn6 (fun l hl => by have h1 := ((okS_sel (g := yg S) y5.1).1 l hl).2.1; have := y7 l hl; omega) (by have := y4.2.2.2.2.2.2; omega)) (by assumption) (fun x9 I9 h9 => ?_)
  obtain ⟨rfl, rfl⟩ := h9
  refine x_istore_1 dX9_yards_12 rfl rfl ?_
  refine x_aload_0 dX9_yards_13 ?_
  refine x_V0v dX9_yards_14 m_X9_140 (c_X9_bringsBack a hb) (by assumption) (fun I14 h14 => ?_)
  obtain ⟨cf14, cc14⟩ := h14
  refine x_iload_1 dX9_yards_17 ?_
  exact x_iret (st := []) dX9_yards_18 rfl rfl (⟨_, rfl, rfl, by obtain ⟨z1, z2⟩ := MdI_back hm hn6 cf1 cc1 pf5 cf14 cc14; exact ⟨z1, z2, rfl⟩⟩)
set_option maxHeartbeats 4000000 in
theorem c_X9_drips {r : Ev} {n : Nat} {I : MI} {Q : MQ2} (a : Nat) (hb : MdB n Q a) (S : Sy) (hm : MdI I a S) (hok : okY S) (x : Int32) : CT r 4 yX9_drips cX9_drips (2, (some .int)) (0, 0) [.ref (evz r + a), .int x] n I Q (ri Q (fun v J => FrS I J (FtMd a) ∧ MdI J a (A_drips S x).2 ∧ v = (A_drips S x).1)) := by
  refine ct_of (lv := [some (.ref (evz r + a)), some (.int x)]) (by decide +kernel) rfl rfl rfl ?_
  obtain ⟨b0, bT, bO, bD, bB, bS, bP, bM, bN, bR, bH, qT, qO, qD, qB, qS, qP, qM, qN, qR, qH⟩ := id hb
  obtain ⟨ht, ho, hs, ⟨h7, hp⟩, ⟨h9, hq⟩, h11, hw⟩ := id hm
  obtain ⟨y1, y2, y3, y4, y5, y6, y7, y8, y9, y10, y11, y12⟩ := id hok
  have hn6 := y3.1
  refine x_aload_0 dX9_drips_0 ?_
  refine x_iload_1 dX9_drips_1 ?_
  refine x_V1i dX9_drips_2 m_X9_100 (c_X9_isLoom a hb (tN (yt S)) x ho.1 y6 hn6) (by assumption) (fun x2 I2 h2 => ?_)
  obtain ⟨rfl, ⟨rfl, h2⟩ | ⟨rfl, h2⟩⟩ := h2
  · obtain ⟨l, l0, l1, rfl⟩ := h2
    have hl : l < tN (yt S) := by omega
    refine x_if_neN dX9_drips_5 (by omega) (fun c5 => ?_) (fun c5 => ?_)
    · refine x_aload_0 dX9_drips_10 ?_
      refine x_V0v dX9_drips_11 m_X9_137 (c_X9_keepsAside a hb) (by assumption) (fun I11 h11 => ?_)
      obtain ⟨cf11, cc11⟩ := h11
      have ho3 := tdp_fr ho (fun j => cf11 _ _ (by omega))
      have hs3 := stp_to hs hn6 (fun j _ => cf11 _ _ (by omega))
      refine x_aload_0 dX9_drips_14 ?_
      refine x_const (c := 1) dX9_drips_15 rfl ?_
      refine x_V1v dX9_drips_16 m_X9_127 (c_X9_hours a hb (yt S) (yg S) ho3 y3 y4 (ys S) y5.1 hs3 1 (by have := y5.2; omega)) (by assumption) (fun I16 h16 => ?_)
      obtain ⟨pf16, ps16, pr16⟩ := h16
      refine x_aload_0 dX9_drips_19 ?_
      refine x_V0v dX9_drips_20 m_X9_140 (c_X9_bringsBack a hb) (by assumption) (fun I20 h20 => ?_)
      obtain ⟨cf20, cc20⟩ := h20
      refine x_aload_0 dX9_drips_23 ?_
      refine x_getr dX9_drips_24 f_X9_34 (by assumption) qR ?_
      refine x_iload_1 dX9_drips_27 ?_
      refine x_ialdV dX9_drips_28 (by assumption) rfl (by omega) ((cf20 _ _ (by omega)).trans (pr16 (by decide) l hl)) ?_
      exact x_iret (st := []) dX9_drips_29 rfl rfl (⟨_, rfl, rfl, by unfold A_drips; rw [onI_y (by omega) (by omega) (by omega)]; obtain ⟨z1, z2⟩ := MdI_back hm hn6 cf11 cc11 pf16 cf20 cc20; exact ⟨z1, z2, rfl⟩⟩)
    · exfalso; omega
  · refine x_if_neN dX9_drips_5 (by omega) (fun c5 => ?_) (fun c5 => ?_)
    · exfalso; omega
    · refine x_iconst (v := -1) dX9_drips_8 rfl ?_
      exact x_iret (st := []) dX9_drips_9 rfl rfl (⟨_, rfl, rfl, by unfold A_drips; rw [onI_n h2]; exact ⟨fun _ _ _ => rfl, hm, rfl⟩⟩)
theorem md_seen {I J K : MI} {a l d e : Nat} {S : Sy} (h : MdI I a S) (hn : tN (yt S) ≤ 6) (f1 : Fr1 I J (a + 8) (gn (yG S))) (e1 : J (a + 8) (gn (yG S)) = nI (1000 * l + 20 * d + e)) (f2 : Fr1 J K a 11) (e2 : K a 11 = nI (gn (yG S) + 1)) : MdI K a (S.1, S.2.1, S.2.2.1, S.2.2.2.1, S.2.2.2.2.1, addG (yG S) l d e) := by
  obtain ⟨ht, ho, hs, ⟨h7, hp⟩, ⟨h9, hq⟩, h11, hw⟩ := h
  have f : ∀ x j, x ≠ a + 8 → ¬ (x = a ∧ j = 11) → K x j = I x j := fun x j h1 h2 => (f2 x j h2).trans (f1 x j (fun z => h1 z.1))
  refine ⟨⟨(f _ _ (by omega) (by omega)).trans ht.1, fun k hk => (f _ _ (by omega) (by omega)).trans (ht.2 k hk)⟩, tdp_fr ho (fun j => f _ _ (by omega) (by omega)), stp_to hs hn (fun j _ => f _ _ (by omega) (by omega)), ⟨(f _ _ (by omega) (by omega)).trans h7, plm_fr hp hn (fun j => f _ _ (by omega) (by omega))⟩, ⟨(f _ _ (by omega) (by omega)).trans h9, plm_fr hq hn (fun j => f _ _ (by omega) (by omega))⟩, e2, fun k hk => ?_⟩
  have hk : k < gn (yG S) + 1 := hk
  show K (a + 8) k = nI (1000 * nup (gL (yG S)) (gn (yG S)) l k + 20 * nup (gD (yG S)) (gn (yG S)) d k + nup (gH (yG S)) (gn (yG S)) e k)
  rw [f2 _ _ (by omega)]
  by_cases z : k = gn (yG S)
  · subst z; rw [nup_s, nup_s, nup_s]; exact e1
  · rw [nup_n z, nup_n z, nup_n z, f1 _ _ (by omega)]; exact hw k (by omega)
set_option maxHeartbeats 4000000 in
theorem c_X9_seen {r : Ev} {n : Nat} {I : MI} {Q : MQ2} (a : Nat) (hb : MdB n Q a) (S : Sy) (hm : MdI I a S) (hok : okY S) (x y z : Int32) : CT r 2 yX9_seen cX9_seen (4, (some .int)) (0, 0) [.ref (evz r + a), .int x, .int y, .int z] n I Q (ri Q (fun v J => FrS I J (FtMd a) ∧ MdI J a (A_seen S x y z).2 ∧ v = (A_seen S x y z).1)) := by
  refine ct_of (lv := [some (.ref (evz r + a)), some (.int x), some (.int y), some (.int z)]) (by decide +kernel) rfl rfl rfl ?_
  obtain ⟨b0, bT, bO, bD, bB, bS, bP, bM, bN, bR, bH, qT, qO, qD, qB, qS, qP, qM, qN, qR, qH⟩ := id hb
  obtain ⟨ht, ho, hs, ⟨h7, hp⟩, ⟨h9, hq⟩, h11, hw⟩ := id hm
  obtain ⟨y1, y2, y3, y4, y5, y6, y7, y8, y9, y10, y11, y12⟩ := id hok
  have hn6 := y3.1
  refine x_aload_0 dX9_seen_0 ?_
  refine x_iload_1 dX9_seen_1 ?_
  refine x_V1i dX9_seen_2 m_X9_100 (c_X9_isLoom a hb (tN (yt S)) x ho.1 y6 hn6) (by assumption) (fun x2 I2 h2 => ?_)
  obtain ⟨rfl, ⟨rfl, h2⟩ | ⟨rfl, h2⟩⟩ := h2
  · obtain ⟨l, l0, l1, rfl⟩ := h2
    refine x_if_eqN dX9_seen_5 (by omega) (fun c5 => ?_) (fun c5 => ?_)
    · exfalso; omega
    · refine x_iload_2 dX9_seen_8 ?_
      refine x_const (c := 0) dX9_seen_9 rfl ?_
      refine x_bip (c := 27) dX9_seen_10 (by decide) ?_
      refine x_S3i dX9_seen_12 m_X9_54 (c_X9_in y 0 27 (by omega) (by omega)) (fun x12 I12 h12 => ?_)
      obtain ⟨rfl, ⟨rfl, h12⟩ | ⟨rfl, h12⟩⟩ := h12
      · obtain ⟨d, d0, d1, rfl⟩ := h12
        refine x_if_eqN dX9_seen_15 (by omega) (fun c15 => ?_) (fun c15 => ?_)
        · exfalso; omega
        · refine x_iload_3 dX9_seen_18 ?_
          refine x_const (c := 0) dX9_seen_19 rfl ?_
          refine x_bip (c := 12) dX9_seen_20 (by decide) ?_
          refine x_S3i dX9_seen_22 m_X9_54 (c_X9_in z 0 12 (by omega) (by omega)) (fun x22 I22 h22 => ?_)
          obtain ⟨rfl, ⟨rfl, h22⟩ | ⟨rfl, h22⟩⟩ := h22
          · obtain ⟨h, h0, h1, rfl⟩ := h22
            refine x_if_neN dX9_seen_25 (by omega) (fun c25 => ?_) (fun c25 => ?_)
            · refine x_aload_0 dX9_seen_30 ?_
              have hg6 := y12.1
              refine x_getV dX9_seen_31 f_X9_97 (by assumption) h11 ?_
              refine x_bip (c := 6) dX9_seen_34 (by decide) ?_
              refine x_icmp_neN dX9_seen_36 (by omega) (by omega) (fun c36 => ?_) (fun c36 => ?_)
              · refine x_aload_0 dX9_seen_42 ?_
                refine x_getr dX9_seen_43 f_X9_31 (by assumption) qN ?_
                refine x_aload_0 dX9_seen_46 ?_
                refine x_getV dX9_seen_47 f_X9_97 (by assumption) h11 ?_
                refine x_sip (c := 1000) dX9_seen_50 (by decide) ?_
                refine x_iload_1 dX9_seen_53 ?_
                refine x_imulN dX9_seen_54 ?_
                refine x_bip (c := 20) dX9_seen_55 (by decide) ?_
                refine x_iload_2 dX9_seen_57 ?_
                refine x_imulN dX9_seen_58 ?_
                refine x_iaddN dX9_seen_59 ?_
                refine x_iload_3 dX9_seen_60 ?_
                refine x_iaddN dX9_seen_61 ?_
                refine x_iastA dX9_seen_62 (by assumption) rfl (by omega) (fun J62 fr62 e62 => ?_)
                refine x_aload_0 dX9_seen_63 ?_
                first | refine x_dup_ref dX9_seen_64 ?_ | refine x_dup_int dX9_seen_64 ?_
                refine x_getV dX9_seen_65 f_X9_97 (by assumption) ((fr62 _ _ (by omega)).trans h11) ?_
                refine x_const (c := 1) dX9_seen_68 rfl ?_
                refine x_iaddN dX9_seen_69 ?_
                refine x_putA dX9_seen_70 f_X9_97 (by assumption) (fun J70 fr70 e70 => ?_)
                refine x_aload_0 dX9_seen_73 ?_
                refine x_getV dX9_seen_74 f_X9_97 (by assumption) e70 ?_
                exact x_iret (st := []) dX9_seen_77 rfl rfl (⟨_, rfl, rfl, by unfold A_seen; rw [onI_y (by omega) (by omega) (by omega), onI_y (by omega) (by omega) (by omega), onI_y (by omega) (by omega) (by omega), if_neg (by omega)]; exact ⟨fun b j hb2 => (fr70 b j (by unfold FtMd at hb2; omega)).trans (fr62 b j (by unfold FtMd at hb2; omega)), md_seen hm hn6 fr62 e62 fr70 e70, rfl⟩⟩)
              · refine x_bipush (v := -3) dX9_seen_39 (by decide) ?_
                exact x_iret (st := []) dX9_seen_41 rfl rfl (⟨_, rfl, rfl, by unfold A_seen; rw [onI_y (by omega) (by omega) (by omega), onI_y (by omega) (by omega) (by omega), onI_y (by omega) (by omega) (by omega), if_pos (by omega)]; exact ⟨fun _ _ _ => rfl, hm, rfl⟩⟩)
            · exfalso; omega
          · refine x_if_neN dX9_seen_25 (by omega) (fun c25 => ?_) (fun c25 => ?_)
            · exfalso; omega
            · refine x_iconst (v := -1) dX9_seen_28 rfl ?_
              exact x_iret (st := []) dX9_seen_29 rfl rfl (by first | exact ⟨_, rfl, rfl, by unfold A_seen; rw [onI_n h2]; exact ⟨fun _ _ _ => rfl, hm, rfl⟩⟩ | exact ⟨_, rfl, rfl, by unfold A_seen; rw [onI_y (by omega) (by omega) (by omega), onI_n h12]; exact ⟨fun _ _ _ => rfl, hm, rfl⟩⟩ | exact ⟨_, rfl, rfl, by unfold A_seen; rw [onI_y (by omega) (by omega) (by omega), onI_y (by omega) (by omega) (by omega), onI_n h22]; exact ⟨fun _ _ _ => rfl, hm, rfl⟩⟩)
      · refine x_if_eqN dX9_seen_15 (by omega) (fun c15 => ?_) (fun c15 => ?_)
        · refine x_iconst (v := -1) dX9_seen_28 rfl ?_
          exact x_iret (st := []) dX9_seen_29 rfl rfl (by first | exact ⟨_, rfl, rfl, by unfold A_seen; rw [onI_n h2]; exact ⟨fun _ _ _ => rfl, hm, rfl⟩⟩ | exact ⟨_, rfl, rfl, by unfold A_seen; rw [onI_y (by omega) (by omega) (by omega), onI_n h12]; exact ⟨fun _ _ _ => rfl, hm, rfl⟩⟩ | exact ⟨_, rfl, rfl, by unfold A_seen; rw [onI_y (by omega) (by omega) (by omega), onI_y (by omega) (by omega) (by omega), onI_n h22]; exact ⟨fun _ _ _ => rfl, hm, rfl⟩⟩)
        · exfalso; omega
  · refine x_if_eqN dX9_seen_5 (by omega) (fun c5 => ?_) (fun c5 => ?_)
    · refine x_iconst (v := -1) dX9_seen_28 rfl ?_
      exact x_iret (st := []) dX9_seen_29 rfl rfl (by first | exact ⟨_, rfl, rfl, by unfold A_seen; rw [onI_n h2]; exact ⟨fun _ _ _ => rfl, hm, rfl⟩⟩ | exact ⟨_, rfl, rfl, by unfold A_seen; rw [onI_y (by omega) (by omega) (by omega), onI_n h12]; exact ⟨fun _ _ _ => rfl, hm, rfl⟩⟩ | exact ⟨_, rfl, rfl, by unfold A_seen; rw [onI_y (by omega) (by omega) (by omega), onI_y (by omega) (by omega) (by omega), onI_n h22]; exact ⟨fun _ _ _ => rfl, hm, rfl⟩⟩)
    · exfalso; omega
set_option maxHeartbeats 4000000 in
theorem l_X9_keep {r : Ev} {n : Nat} {Q : MQ2} {F : Post} {I0 : MI} (a : Nat) (hb : MdB n Q a) (K : Nat) (hK : K < 2) (hF : ∀ J, FrS I0 J (fun x j => x = a + 7 ∨ (x = a ∧ j = 9)) → (∀ j, j < 26 * K → J (a + 7) j = I0 (a + 7) j) → (∀ j, j < 26 → J (a + 7) (26 * K + j) = I0 (a + 5) j) → J a 9 = nI (K + 1) → F (some (.int (nI (K + 1)))) J Q) : ∀ (k : Nat) (i : Nat) (I : MI), i ≤ 26 → i + k = 26 + 1 → FrS I0 I (fun x _ => x = a + 7) → I0 a 9 = nI K → (∀ j, j < 26 * K → I (a + 7) j = I0 (a + 7) j) → (∀ j, j < i → I (a + 7) (26 * K + j) = I0 (a + 5) j) → X r 0 yX9_keep cX9_keep (2, (some .int)) (0, 0) 13 [some (.ref (evz r + a)), some (.int (nI i))] [] n I Q F := by
  intro k
  induction k with
  | zero => intros; omega
  | succ k ih =>
    intro i I hi0 hi hfr h9 hy hz
    obtain ⟨b0, bT, bO, bD, bB, bS, bP, bM, bN, bR, bH, qT, qO, qD, qB, qS, qP, qM, qN, qR, qH⟩ := id hb
    refine x_iload_1 dX9_keep_13 ?_
    refine x_bip (c := 26) dX9_keep_14 (by decide) ?_
    refine x_icmp_geN dX9_keep_16 (by omega) (by omega) (fun c16 => ?_) (fun c16 => ?_)
    · obtain rfl : i = 26 := (by omega)
      refine x_aload_0 dX9_keep_45 ?_
      first | refine x_dup_ref dX9_keep_46 ?_ | refine x_dup_int dX9_keep_46 ?_
      refine x_getV dX9_keep_47 f_X9_94 (by assumption) ((hfr _ _ (by omega)).trans h9) ?_
      refine x_const (c := 1) dX9_keep_50 rfl ?_
      refine x_iaddN dX9_keep_51 ?_
      refine x_putA dX9_keep_52 f_X9_94 (by assumption) (fun J52 fr52 e52 => ?_)
      refine x_aload_0 dX9_keep_55 ?_
      refine x_getV dX9_keep_56 f_X9_94 (by assumption) e52 ?_
      exact x_iret (st := []) dX9_keep_59 rfl rfl (hF _ (fun x j hx => (fr52 x j (by omega)).trans (hfr x j (by omega))) (fun j hj => (fr52 _ _ (by omega)).trans (hy j hj)) (fun j hj => (fr52 _ _ (by omega)).trans (hz j hj)) e52)
    · refine x_aload_0 dX9_keep_19 ?_
      refine x_getr dX9_keep_20 f_X9_28 (by assumption) qM ?_
      refine x_bip (c := 26) dX9_keep_23 (by decide) ?_
      refine x_aload_0 dX9_keep_25 ?_
      refine x_getV dX9_keep_26 f_X9_94 (by assumption) ((hfr _ _ (by omega)).trans h9) ?_
      refine x_imulN dX9_keep_29 ?_
      refine x_iload_1 dX9_keep_30 ?_
      refine x_iaddN dX9_keep_31 ?_
      refine x_aload_0 dX9_keep_32 ?_
      refine x_getr dX9_keep_33 f_X9_22 (by assumption) qS ?_
      refine x_iload_1 dX9_keep_36 ?_
      refine x_iald dX9_keep_37 (by assumption) rfl (by omega) ?_
      refine x_iastA dX9_keep_38 (by assumption) rfl (by omega) (fun J38 fr38 e38 => ?_)
      refine x_iinc_1 dX9_keep_39 (iinc1 _) rfl rfl ?_
      refine x_goto dX9_keep_42 ?_
      exact ih (i + 1) _ (by omega) (by omega) (fun x j hx => (fr38 x j (by omega)).trans (hfr x j hx)) h9 (fun j hj => (fr38 _ _ (by omega)).trans (hy j hj)) (fun j hj => by
        by_cases e : j = i
        · subst e; exact e38.trans (hfr _ _ (by omega))
        · exact (fr38 _ _ (by omega)).trans (hz j (by omega)))
set_option maxHeartbeats 4000000 in
theorem c_X9_keep {r : Ev} {n : Nat} {I : MI} {Q : MQ2} (a : Nat) (hb : MdB n Q a) (S : Sy) (hm : MdI I a S) (hok : okY S) : CT r 0 yX9_keep cX9_keep (2, (some .int)) (0, 0) [.ref (evz r + a)] n I Q (ri Q (fun v J => FrS I J (FtMd a) ∧ MdI J a (A_keep S).2 ∧ v = (A_keep S).1)) := by
  refine ct_of (lv := [some (.ref (evz r + a)), none]) (by decide +kernel) rfl rfl rfl ?_
  obtain ⟨b0, bT, bO, bD, bB, bS, bP, bM, bN, bR, bH, qT, qO, qD, qB, qS, qP, qM, qN, qR, qH⟩ := id hb
  obtain ⟨ht, ho, hs, ⟨h7, hp⟩, ⟨h9, hq⟩, h11, hw⟩ := id hm
  obtain ⟨y1, y2, y3, y4, y5, y6, y7, y8, y9, y10, y11, y12⟩ := id hok
  have hn6 := y3.1
  refine x_aload_0 dX9_keep_0 ?_
  refine x_getV dX9_keep_1 f_X9_94 (by assumption) h9 ?_
  refine x_const (c := 2) dX9_keep_4 rfl ?_
  refine x_icmp_neN dX9_keep_5 (by omega) (by omega) (fun c5 => ?_) (fun c5 => ?_)
  · refine x_const (c := 0) dX9_keep_11 rfl ?_
    refine x_istore_1 dX9_keep_12 rfl rfl ?_
    refine l_X9_keep a hb (ykn S) (by omega) (fun J f q2 q3 q4 => ⟨_, rfl, rfl, ?_⟩) 27 0 _ (by omega) (by omega) (fun _ _ _ => rfl) h9 (fun _ _ => rfl) (fun j hj => absurd hj (Nat.not_lt_zero j))
    unfold A_keep
    rw [if_neg (by omega)]
    exact ⟨fun b j hb2 => f b j (by unfold FtMd at hb2; omega), ⟨⟨(f _ _ (by omega)).trans ht.1, fun k hk => (f _ _ (by omega)).trans (ht.2 k hk)⟩, tdp_fr ho (fun j => f _ _ (by omega)), stp_to hs hn6 (fun j _ => f _ _ (by omega)), ⟨(f _ _ (by omega)).trans h7, plm_fr hp hn6 (fun j => f _ _ (by omega))⟩, ⟨q4, plm_put hq hs hn6 q2 q3⟩, (f _ _ (by omega)).trans h11, fun k hk => (f _ _ (by omega)).trans (hw k hk)⟩, rfl⟩
  · refine x_bipush (v := -3) dX9_keep_8 (by decide) ?_
    exact x_iret (st := []) dX9_keep_10 rfl rfl (⟨_, rfl, rfl, by unfold A_keep; rw [if_pos (by omega)]; exact ⟨fun _ _ _ => rfl, hm, rfl⟩⟩)
set_option maxHeartbeats 4000000 in
theorem l_X9_back {r : Ev} {n : Nat} {Q : MQ2} {F : Post} {I0 : MI} (a : Nat) (hb : MdB n Q a) (K : Nat) (hK : K < 2) (hF : ∀ J, FrS I0 J (fun x j => x = a + 5 ∨ (x = a ∧ j = 7)) → (∀ j, j < 26 → J (a + 5) j = I0 (a + 7) (26 * K + j)) → J a 7 = nI 0 → F (some (.int (nI K))) J Q) : ∀ (k : Nat) (i : Nat) (I : MI), i ≤ 26 → i + k = 26 + 1 → FrS I0 I (fun x _ => x = a + 5) → I0 a 9 = nI K → (∀ j, j < i → I (a + 5) j = I0 (a + 7) (26 * K + j)) → X r 0 yX9_back cX9_back (2, (some .int)) (0, 0) 22 [some (.ref (evz r + a)), some (.int (nI i))] [] n I Q F := by
  intro k
  induction k with
  | zero => intros; omega
  | succ k ih =>
    intro i I hi0 hi hfr h9 hz
    obtain ⟨b0, bT, bO, bD, bB, bS, bP, bM, bN, bR, bH, qT, qO, qD, qB, qS, qP, qM, qN, qR, qH⟩ := id hb
    refine x_iload_1 dX9_back_22 ?_
    refine x_bip (c := 26) dX9_back_23 (by decide) ?_
    refine x_icmp_geN dX9_back_25 (by omega) (by omega) (fun c25 => ?_) (fun c25 => ?_)
    · obtain rfl : i = 26 := (by omega)
      refine x_aload_0 dX9_back_54 ?_
      refine x_const (c := 0) dX9_back_55 rfl ?_
      refine x_putA dX9_back_56 f_X9_91 (by assumption) (fun J56 fr56 e56 => ?_)
      refine x_aload_0 dX9_back_59 ?_
      refine x_getV dX9_back_60 f_X9_94 (by assumption) ((fr56 _ _ (by omega)).trans ((hfr _ _ (by omega)).trans h9)) ?_
      exact x_iret (st := []) dX9_back_63 rfl rfl (hF _ (fun x j hx => (fr56 x j (by omega)).trans (hfr x j (by omega))) (fun j hj => (fr56 _ _ (by omega)).trans (hz j hj)) e56)
    · refine x_aload_0 dX9_back_28 ?_
      refine x_getr dX9_back_29 f_X9_22 (by assumption) qS ?_
      refine x_iload_1 dX9_back_32 ?_
      refine x_aload_0 dX9_back_33 ?_
      refine x_getr dX9_back_34 f_X9_28 (by assumption) qM ?_
      refine x_bip (c := 26) dX9_back_37 (by decide) ?_
      refine x_aload_0 dX9_back_39 ?_
      refine x_getV dX9_back_40 f_X9_94 (by assumption) ((hfr _ _ (by omega)).trans h9) ?_
      refine x_imulN dX9_back_43 ?_
      refine x_iload_1 dX9_back_44 ?_
      refine x_iaddN dX9_back_45 ?_
      refine x_iald dX9_back_46 (by assumption) rfl (by omega) ?_
      refine x_iastA dX9_back_47 (by assumption) rfl (by omega) (fun J47 fr47 e47 => ?_)
      refine x_iinc_1 dX9_back_48 (iinc1 _) rfl rfl ?_
      refine x_goto dX9_back_51 ?_
      exact ih (i + 1) _ (by omega) (by omega) (fun x j hx => (fr47 x j (by omega)).trans (hfr x j hx)) h9 (fun j hj => by
        by_cases e : j = i
        · subst e; exact e47.trans (hfr _ _ (by omega))
        · exact (fr47 _ _ (by omega)).trans (hz j (by omega)))
set_option maxHeartbeats 4000000 in
theorem c_X9_back {r : Ev} {n : Nat} {I : MI} {Q : MQ2} (a : Nat) (hb : MdB n Q a) (S : Sy) (hm : MdI I a S) (hok : okY S) : CT r 0 yX9_back cX9_back (2, (some .int)) (0, 0) [.ref (evz r + a)] n I Q (ri Q (fun v J => FrS I J (FtMd a) ∧ MdI J a (A_back S).2 ∧ v = (A_back S).1)) := by
  refine ct_of (lv := [some (.ref (evz r + a)), none]) (by decide +kernel) rfl rfl rfl ?_
  obtain ⟨b0, bT, bO, bD, bB, bS, bP, bM, bN, bR, bH, qT, qO, qD, qB, qS, qP, qM, qN, qR, qH⟩ := id hb
  obtain ⟨ht, ho, hs, ⟨h7, hp⟩, ⟨h9, hq⟩, h11, hw⟩ := id hm
  obtain ⟨y1, y2, y3, y4, y5, y6, y7, y8, y9, y10, y11, y12⟩ := id hok
  have hn6 := y3.1
  refine x_aload_0 dX9_back_0 ?_
  refine x_getV dX9_back_1 f_X9_94 (by assumption) h9 ?_
  refine x_if_neN dX9_back_4 (by omega) (fun c4 => ?_) (fun c4 => ?_)
  · refine x_aload_0 dX9_back_10 ?_
    first | refine x_dup_ref dX9_back_11 ?_ | refine x_dup_int dX9_back_11 ?_
    refine x_getV dX9_back_12 f_X9_94 (by assumption) h9 ?_
    refine x_const (c := 1) dX9_back_15 rfl ?_
    refine x_isubN dX9_back_16 (by omega) ?_
    refine x_putA dX9_back_17 f_X9_94 (by assumption) (fun J17 fr17 e17 => ?_)
    refine x_const (c := 0) dX9_back_20 rfl ?_
    refine x_istore_1 dX9_back_21 rfl rfl ?_
    refine l_X9_back a hb (ykn S - 1) (by omega) (fun J f q2 q3 => ⟨_, rfl, rfl, ?_⟩) 27 0 _ (by omega) (by omega) (fun _ _ _ => rfl) e17 (fun j hj => absurd hj (Nat.not_lt_zero j))
    unfold A_back
    rw [if_neg (by omega)]
    have f2 := fun x j (hx : ¬ (x = a + 5 ∨ (x = a ∧ j = 7) ∨ (x = a ∧ j = 9))) => (f x j (by omega)).trans (fr17 x j (by omega))
    exact ⟨fun b j hb2 => f2 b j (by unfold FtMd at hb2; omega), ⟨⟨(f2 _ _ (by omega)).trans ht.1, fun k hk => (f2 _ _ (by omega)).trans (ht.2 k hk)⟩, tdp_fr ho (fun j => f2 _ _ (by omega)), plm_at hq hn6 (by omega) (fun j hj => (q2 j hj).trans (fr17 _ _ (by omega))), ⟨q3, fun i hi => absurd hi (Nat.not_lt_zero i)⟩, ⟨(f _ _ (by omega)).trans e17, plm_fr (fun i hi => hq i (Nat.lt_of_lt_of_le hi (Nat.sub_le _ _))) hn6 (fun j => f2 _ _ (by omega))⟩, (f2 _ _ (by omega)).trans h11, fun k hk => (f2 _ _ (by omega)).trans (hw k hk)⟩, rfl⟩
  · refine x_bipush (v := -2) dX9_back_7 (by decide) ?_
    exact x_iret (st := []) dX9_back_9 rfl rfl (⟨_, rfl, rfl, by unfold A_back; rw [if_pos (by omega)]; exact ⟨fun _ _ _ => rfl, hm, rfl⟩⟩)
set_option maxHeartbeats 4000000 in
theorem c_X9_count {r : Ev} {n : Nat} {I : MI} {Q : MQ2} (a : Nat) (hb : MdB n Q a) (S : Sy) (hm : MdI I a S) (hok : okY S) (x : Int32) : CT r 1 yX9_count cX9_count (2, (some .int)) (0, 0) [.ref (evz r + a), .int x] n I Q (ri Q (fun v J => FrS I J (FtMd a) ∧ MdI J a (A_count S x).2 ∧ v = (A_count S x).1)) := by
  refine ct_of (lv := [some (.ref (evz r + a)), some (.int x)]) (by decide +kernel) rfl rfl rfl ?_
  obtain ⟨b0, bT, bO, bD, bB, bS, bP, bM, bN, bR, bH, qT, qO, qD, qB, qS, qP, qM, qN, qR, qH⟩ := id hb
  obtain ⟨ht, ho, hs, ⟨h7, hp⟩, ⟨h9, hq⟩, h11, hw⟩ := id hm
  obtain ⟨y1, y2, y3, y4, y5, y6, y7, y8, y9, y10, y11, y12⟩ := id hok
  have hn6 := y3.1
  refine x_iload_1 dX9_count_0 ?_
  by_cases hy : inB x 0 10
  · obtain ⟨w, w0, w1, rfl⟩ := hy
    by_cases q0 : w = 0
    · subst q0
      refine x_tsIn (off := 59) (t := 60) dX9_count_1 (by decide) (by decide) (by decide) (by decide) ?_
      refine x_aload_0 dX9_count_60 ?_
      refine x_getr dX9_count_61 f_X9_13 (by assumption) qO ?_
      refine x_const (c := 0) dX9_count_64 rfl ?_
      refine x_ialdV dX9_count_65 (by assumption) rfl (by omega) ho.1 ?_
      exact x_iret (st := []) dX9_count_66 rfl rfl (⟨_, rfl, rfl, by unfold A_count; rw [onI_y (by omega) (by omega) (by omega)]; exact ⟨fun _ _ _ => rfl, hm, rfl⟩⟩)
    by_cases q1 : w = 1
    · subst q1
      refine x_tsIn (off := 66) (t := 67) dX9_count_1 (by decide) (by decide) (by decide) (by decide) ?_
      refine x_aload_0 dX9_count_67 ?_
      refine x_getr dX9_count_68 f_X9_22 (by assumption) qS ?_
      refine x_bip (c := 25) dX9_count_71 (by decide) ?_
      refine x_ialdV dX9_count_73 (by assumption) rfl (by omega) hs.2.2.2.2.2 ?_
      exact x_iret (st := []) dX9_count_74 rfl rfl (⟨_, rfl, rfl, by unfold A_count; rw [onI_y (by omega) (by omega) (by omega)]; exact ⟨fun _ _ _ => rfl, hm, rfl⟩⟩)
    by_cases q2 : w = 2
    · subst q2
      refine x_tsIn (off := 74) (t := 75) dX9_count_1 (by decide) (by decide) (by decide) (by decide) ?_
      refine x_aload_0 dX9_count_75 ?_
      refine x_bip (c := 6) dX9_count_76 (by decide) ?_
      refine x_V1i dX9_count_78 m_X9_131 (c_X9_sumOf a hb (tN (yt S)) ho.1 hn6 6 (by omega) _ hs.2.1) (by assumption) (fun x78 I78 h78 => ?_)
      obtain ⟨rfl, rfl⟩ := h78
      exact x_iret (st := []) dX9_count_81 rfl rfl (⟨_, rfl, rfl, by unfold A_count; rw [onI_y (by omega) (by omega) (by omega)]; exact ⟨fun _ _ _ => rfl, hm, rfl⟩⟩)
    by_cases q3 : w = 3
    · subst q3
      refine x_tsIn (off := 81) (t := 82) dX9_count_1 (by decide) (by decide) (by decide) (by decide) ?_
      refine x_aload_0 dX9_count_82 ?_
      refine x_getr dX9_count_83 f_X9_22 (by assumption) qS ?_
      refine x_bip (c := 24) dX9_count_86 (by decide) ?_
      refine x_ialdV dX9_count_88 (by assumption) rfl (by omega) hs.2.2.2.2.1 ?_
      exact x_iret (st := []) dX9_count_89 rfl rfl (⟨_, rfl, rfl, by unfold A_count; rw [onI_y (by omega) (by omega) (by omega)]; exact ⟨fun _ _ _ => rfl, hm, rfl⟩⟩)
    by_cases q4 : w = 4
    · subst q4
      refine x_tsIn (off := 89) (t := 90) dX9_count_1 (by decide) (by decide) (by decide) (by decide) ?_
      refine x_aload_0 dX9_count_90 ?_
      refine x_bip (c := 12) dX9_count_91 (by decide) ?_
      refine x_V1i dX9_count_93 m_X9_131 (c_X9_sumOf a hb (tN (yt S)) ho.1 hn6 12 (by omega) _ hs.2.2.1) (by assumption) (fun x93 I93 h93 => ?_)
      obtain ⟨rfl, rfl⟩ := h93
      exact x_iret (st := []) dX9_count_96 rfl rfl (⟨_, rfl, rfl, by unfold A_count; rw [onI_y (by omega) (by omega) (by omega)]; exact ⟨fun _ _ _ => rfl, hm, rfl⟩⟩)
    by_cases q5 : w = 5
    · subst q5
      refine x_tsIn (off := 96) (t := 97) dX9_count_1 (by decide) (by decide) (by decide) (by decide) ?_
      refine x_aload_0 dX9_count_97 ?_
      refine x_bip (c := 18) dX9_count_98 (by decide) ?_
      refine x_V1i dX9_count_100 m_X9_131 (c_X9_sumOf a hb (tN (yt S)) ho.1 hn6 18 (by omega) _ hs.2.2.2.1) (by assumption) (fun x100 I100 h100 => ?_)
      obtain ⟨rfl, rfl⟩ := h100
      exact x_iret (st := []) dX9_count_103 rfl rfl (⟨_, rfl, rfl, by unfold A_count; rw [onI_y (by omega) (by omega) (by omega)]; exact ⟨fun _ _ _ => rfl, hm, rfl⟩⟩)
    by_cases q6 : w = 6
    · subst q6
      refine x_tsIn (off := 103) (t := 104) dX9_count_1 (by decide) (by decide) (by decide) (by decide) ?_
      refine x_aload_0 dX9_count_104 ?_
      refine x_V0i dX9_count_105 m_X9_146 (c_X9_yardsNow a hb (yt S) (yg S) ho _ hs hn6 (fun l hl => by have h1 := (y5.1.1 l hl).2.1; have := y7 l hl; omega) (by have := y4.2.2.2.2.2.2; omega)) (by assumption) (fun x105 I105 h105 => ?_)
      obtain ⟨rfl, rfl⟩ := h105
      refine x_S1i dX9_count_108 m_X9_152 (c_X9_ones _ (ydB_lt (t := yt S) (g := yg S) (s := ys S) hn6)) (fun x108 I108 h108 => ?_)
      obtain ⟨rfl, rfl⟩ := h108
      exact x_iret (st := []) dX9_count_111 rfl rfl (⟨_, rfl, rfl, by unfold A_count; rw [onI_y (by omega) (by omega) (by omega)]; exact ⟨fun _ _ _ => rfl, hm, rfl⟩⟩)
    by_cases q7 : w = 7
    · subst q7
      refine x_tsIn (off := 111) (t := 112) dX9_count_1 (by decide) (by decide) (by decide) (by decide) ?_
      refine x_aload_0 dX9_count_112 ?_
      refine x_getV dX9_count_113 f_X9_97 (by assumption) h11 ?_
      exact x_iret (st := []) dX9_count_116 rfl rfl (⟨_, rfl, rfl, by unfold A_count; rw [onI_y (by omega) (by omega) (by omega)]; exact ⟨fun _ _ _ => rfl, hm, rfl⟩⟩)
    by_cases q8 : w = 8
    · subst q8
      refine x_tsIn (off := 116) (t := 117) dX9_count_1 (by decide) (by decide) (by decide) (by decide) ?_
      refine x_aload_0 dX9_count_117 ?_
      refine x_getV dX9_count_118 f_X9_91 (by assumption) h7 ?_
      exact x_iret (st := []) dX9_count_121 rfl rfl (⟨_, rfl, rfl, by unfold A_count; rw [onI_y (by omega) (by omega) (by omega)]; exact ⟨fun _ _ _ => rfl, hm, rfl⟩⟩)
    by_cases q9 : w = 9
    · subst q9
      refine x_tsIn (off := 121) (t := 122) dX9_count_1 (by decide) (by decide) (by decide) (by decide) ?_
      refine x_aload_0 dX9_count_122 ?_
      refine x_getV dX9_count_123 f_X9_94 (by assumption) h9 ?_
      exact x_iret (st := []) dX9_count_126 rfl rfl (⟨_, rfl, rfl, by unfold A_count; rw [onI_y (by omega) (by omega) (by omega)]; exact ⟨fun _ _ _ => rfl, hm, rfl⟩⟩)
    have q10 : w = 10 := by omega
    subst q10
    refine x_tsIn (off := 126) (t := 127) dX9_count_1 (by decide) (by decide) (by decide) (by decide) ?_
    refine x_aload_0 dX9_count_127 ?_
    refine x_getV dX9_count_128 f_X9_58 (by assumption) ht.1 ?_
    exact x_iret (st := []) dX9_count_131 rfl rfl (⟨_, rfl, rfl, by unfold A_count; rw [onI_y (by omega) (by omega) (by omega)]; exact ⟨fun _ _ _ => rfl, hm, rfl⟩⟩)
  · refine x_tsOut (t := 132) dX9_count_1 (inB_out (hi := 10) hy (by decide)) (by decide) ?_
    refine x_iconst (v := -1) dX9_count_132 rfl ?_
    exact x_iret (st := []) dX9_count_133 rfl rfl (⟨_, rfl, rfl, by unfold A_count; rw [onI_n hy]; exact ⟨fun _ _ _ => rfl, hm, rfl⟩⟩)
