set_option maxHeartbeats 4000000 in
theorem c_isOutM {r : Ev} {n : Nat} {I : MI} {Q : MQ2} (x : Int32) (hi : Nat) (hhi : hi < 100000000) : CT r 0 yX8_isOutside cX8_isOutside (3, (some .boolean)) (0, 0) [.int x, .int (-1), .int (nI hi)] n I Q (ri Q (fun v J => J = I ∧ ((v = nI 1 ∧ ¬ (x = -1 ∨ inB x 0 hi)) ∨ (v = nI 0 ∧ (x = -1 ∨ inB x 0 hi))))) := by
  refine ct_of (lv := [some (.int x), some (.int (-1)), some (.int (nI hi))]) (by decide +kernel) rfl rfl rfl ?_
  refine x_iload_0 dX8_isOutside_0 ?_
  refine x_iload_1 dX8_isOutside_1 ?_
  refine x_icmp_lt dX8_isOutside_2 (fun c2 => ?_) (fun c2 => ?_)
  · refine x_const (c := 1) dX8_isOutside_10 rfl ?_
    refine x_goto dX8_isOutside_11 ?_
    exact x_iret (st := []) dX8_isOutside_15 rfl rfl (⟨_, rfl, rfl, rfl, by first | exact Or.inl ⟨rfl, inM_lo hhi c2⟩ | exact Or.inl ⟨rfl, inM_hi hhi (by first | assumption | exact Int32.not_le.mp c7)⟩ | exact Or.inr ⟨rfl, inM_of hhi (by first | assumption | exact Int32.not_lt.mpr c2) (by first | assumption | exact Int32.not_lt.mpr c7)⟩⟩)
  · refine x_iload_0 dX8_isOutside_5 ?_
    refine x_iload_2 dX8_isOutside_6 ?_
    refine x_icmp_le dX8_isOutside_7 (fun c7 => ?_) (fun c7 => ?_)
    · refine x_const (c := 0) dX8_isOutside_14 rfl ?_
      exact x_iret (st := []) dX8_isOutside_15 rfl rfl (⟨_, rfl, rfl, rfl, by first | exact Or.inl ⟨rfl, inM_lo hhi c2⟩ | exact Or.inl ⟨rfl, inM_hi hhi (by first | assumption | exact Int32.not_le.mp c7)⟩ | exact Or.inr ⟨rfl, inM_of hhi (by first | assumption | exact Int32.not_lt.mpr c2) (by first | assumption | exact Int32.not_lt.mpr c7)⟩⟩)
    · refine x_const (c := 1) dX8_isOutside_10 rfl ?_
      refine x_goto dX8_isOutside_11 ?_
      exact x_iret (st := []) dX8_isOutside_15 rfl rfl (⟨_, rfl, rfl, rfl, by first | exact Or.inl ⟨rfl, inM_lo hhi c2⟩ | exact Or.inl ⟨rfl, inM_hi hhi (by first | assumption | exact Int32.not_le.mp c7)⟩ | exact Or.inr ⟨rfl, inM_of hhi (by first | assumption | exact Int32.not_lt.mpr c2) (by first | assumption | exact Int32.not_lt.mpr c7)⟩⟩)
theorem asc_map {N : Nat} {d sr : Nat → Nat} (hlt : ∀ i, i < N → d i < N) (hm : ∀ i, i < N → ∀ j, j < N → (sr i < sr j ↔ i < j)) : ∀ k, k < N → ascF (fun i => sr (d i)) k = ascF d k
  | 0, _ => rfl
  | k + 1, h => by
    have e := hm _ (hlt k (by omega)) _ (hlt (k + 1) h)
    show (if sr (d k) < sr (d (k + 1)) then some k else ascF (fun i => sr (d i)) k) = (if d k < d (k + 1) then some k else ascF d k)
    rw [asc_map hlt hm k (by omega)]
    by_cases z : d k < d (k + 1)
    · rw [if_pos z, if_pos (e.mpr z)]
    · rw [if_neg z, if_neg (fun y => z (e.mp y))]
theorem la_map {N l : Nat} {d sr : Nat → Nat} (hl : l < N) (hlt : ∀ i, i < N → d i < N) (hm : ∀ i, i < N → ∀ j, j < N → (sr i < sr j ↔ i < j)) : ∀ k, k ≤ N → laF (fun i => sr (d i)) l k = laF d l k
  | 0, _ => rfl
  | k + 1, h => by
    have e := hm _ (hlt l hl) _ (hlt k (by omega))
    show (if l < k ∧ sr (d l) < sr (d k) then k else laF (fun i => sr (d i)) l k) = (if l < k ∧ d l < d k then k else laF d l k)
    rw [la_map hl hlt hm k (by omega)]
    by_cases z : l < k ∧ d l < d k
    · rw [if_pos z, if_pos ⟨z.1, e.mpr z.2⟩]
    · rw [if_neg z, if_neg (fun y => z ⟨y.1, e.mp y.2⟩)]
theorem swp_map (sr d : Nat → Nat) (i j : Nat) : swpF (fun k => sr (d k)) i j = fun k => sr (swpF d i j k) := by
  funext k
  unfold swpF
  by_cases z : k = j
  · subst z; rw [nup_s, nup_s]
  · rw [nup_n z, nup_n z]
    by_cases z2 : k = i
    · subst z2; rw [nup_s, nup_s]
    · rw [nup_n z2, nup_n z2]
theorem rv_map (sr : Nat → Nat) : ∀ (k i j : Nat) (d : Nat → Nat), rvF k i j (fun x => sr (d x)) = fun x => sr (rvF k i j d x)
  | 0, _, _, _ => rfl
  | k + 1, i, j, d => by
    show (if i < j then rvF k (i + 1) (j - 1) (swpF (fun x => sr (d x)) i j) else fun x => sr (d x)) = fun x => sr ((if i < j then rvF k (i + 1) (j - 1) (swpF d i j) else d) x)
    by_cases z : i < j
    · rw [if_pos z, if_pos z, swp_map, rv_map sr k]
    · rw [if_neg z, if_neg z]
theorem go_map {N : Nat} {d sr : Nat → Nat} (h1 : 1 ≤ N) (hlt : ∀ i, i < N → d i < N) (hm : ∀ i, i < N → ∀ j, j < N → (sr i < sr j ↔ i < j)) : goF N (fun i => sr (d i)) = (goF N d).map (fun e x => sr (e x)) := by
  unfold goF
  rw [asc_map hlt hm (N - 1) (by omega)]
  cases e : ascF d (N - 1) with
  | none => rfl
  | some l =>
    have hl := ascF_lt _ e
    show some (rvF N (l + 1) (N - 1) (swpF (fun i => sr (d i)) l (laF (fun i => sr (d i)) l N))) = some (fun x => sr (rvF N (l + 1) (N - 1) (swpF d l (laF d l N)) x))
    rw [la_map (by omega) hlt hm N (Nat.le_refl N), swp_map, rv_map]
theorem step_go {N : Nat} {p : Nat → Nat} {L : List Nat} (h1 : 1 ≤ N) (hd : dst N p) (hg : goodL N L) : (goF N (fun l => srtF N p (L.getD l 0)) = none → stepL N L = none) ∧ ∀ f2, goF N (fun l => srtF N p (L.getD l 0)) = some f2 → ∃ M, stepL N L = some M ∧ ∀ i, i < N → f2 i = srtF N p (M.getD i 0) := by
  have e := go_map (d := fun l => L.getD l 0) (sr := srtF N p) h1 hg.1 (fun i hi j hj => srt_lt hd hi hj)
  rw [e]
  unfold stepL
  cases z : goF N (fun i => L.getD i 0) with
  | none => exact ⟨fun _ => rfl, fun f2 h => by cases h⟩
  | some d2 =>
    refine ⟨fun h => (by cases h), fun f2 h => ⟨_, rfl, fun i hi => ?_⟩⟩
    have h : some (fun x => srtF N p (d2 x)) = some f2 := h
    cases h
    rw [tab_get, if_pos hi]
theorem cF_some {β : Type} {w : β → List Nat → β} {b0 : β} {N k : Nat} {L : List Nat} (h : (cF w b0 N k).2 = some L) : cF w b0 N (k + 1) = (w (cF w b0 N k).1 L, stepL N L) := by
  show (match (cF w b0 N k).2 with
    | none => cF w b0 N k
    | some L => (w (cF w b0 N k).1 L, stepL N L)) = _
  rw [h]
theorem wg_cases (t : Tp) (g : Nt) (s : St) (b : Option (Nat × List Nat)) (L : List Nat) : wgS t g s b L = b ∨ wgS t g s b L = some (ones6 (ydB t g (wayU t g s L)), L) := by
  unfold wgS
  by_cases h : nI (sumF (sX (wayU t g s L)) (tN t)) = nI (sumF (sX s) (tN t)) ∧ mstV b < nI (ones6 (ydB t g (wayU t g s L)))
  · exact Or.inr (if_pos h)
  · exact Or.inl (if_neg h)
theorem cF_le (t : Tp) (g : Nt) (s : St) (N : Nat) : ∀ k x, (cF (wgS t g s) none N k).1 = some x → x.1 ≤ 6
  | 0, x, h => by cases h
  | k + 1, x, h => by
    cases z : (cF (wgS t g s) none N k).2 with
    | none =>
      have e := cF_none z 1
      rw [e] at h
      exact cF_le t g s N k x h
    | some L =>
      rw [cF_some z] at h
      rcases wg_cases t g s (cF (wgS t g s) none N k).1 L with e | e
      · have h : wgS t g s (cF (wgS t g s) none N k).1 L = some x := h
        rw [e] at h
        exact cF_le t g s N k x h
      · have h : wgS t g s (cF (wgS t g s) none N k).1 L = some x := h
        rw [e] at h
        cases h
        exact ones6_le _
def FtU (y _j : Nat) : Prop := (14 ≤ y ∧ y < 23) ∨ (121 ≤ y ∧ y < 124)
def bstP (I : MI) (N : Nat) (p : Nat → Nat) (b : Option (Nat × List Nat)) : Prop := ∀ x, b = some x → ∀ k, k < N → I 123 k = nI (srtF N p (x.2.getD k 0))
set_option maxHeartbeats 4000000 in
theorem l_cset {r : Ev} {n : Nat} {Q : MQ2} {F : Post} {I0 : MI} {S : Sy} (hc : CW n I0 Q S) (hok : okY S) (x : Int32) (hx : ∀ (J : MI) (w3 w4 w5 : Option Value), FrS I0 J FtU → J 121 3 = mstV (setB (yt S) (yg S) (ys S)) → bstP J (tN (yt S)) (sP (ys S)) (setB (yt S) (yg S) (ys S)) → X r 6 yX8_setting cX8_setting (6, (some .int)) (0, 0) 120 [some (.ref (evz r + 0)), some (.int x), some (.int (nI (sumF (sX (ys S)) (tN (yt S))))), w3, w4, w5] [] n J Q F) : ∀ (k : Nat) (i c : Nat) (I : MI) (w5 : Option Value), i ≤ 720 → i + k = 720 + 1 → FrS I0 I FtU → I 121 3 = mstV (cF (wgS (yt S) (yg S) (ys S)) none (tN (yt S)) i).1 → bstP I (tN (yt S)) (sP (ys S)) (cF (wgS (yt S) (yg S) (ys S)) none (tN (yt S)) i).1 → ((c = 1 ∧ ∃ L, (cF (wgS (yt S) (yg S) (ys S)) none (tN (yt S)) i).2 = some L ∧ plw I 121 (tN (yt S)) (fun l => srtF (tN (yt S)) (sP (ys S)) (L.getD l 0))) ∨ (c = 0 ∧ (cF (wgS (yt S) (yg S) (ys S)) none (tN (yt S)) i).2 = none)) → X r 6 yX8_setting cX8_setting (6, (some .int)) (0, 0) 43 [some (.ref (evz r + 0)), some (.int x), some (.int (nI (sumF (sX (ys S)) (tN (yt S))))), some (.int (nI c)), some (.int (nI i)), w5] [] n I Q F := by
  intro k
  induction k with
  | zero => intros; omega
  | succ k ih =>
    intro i c I w5 hi0 hi hfr h3 hbp hc9
    obtain ⟨na, nb, p1, p2, hB, hI⟩ := id hc
    obtain ⟨o0, oT, oR, oN, oL, oA, oK, oG, oW, oX, oD, hnn, u0, u1, u2, u3, u4, u5, u6, u7, u8, u9⟩ := id hB
    have oT1 := oT.1
    have oN1 := oN.1
    have oL1 := oL.1
    have oA1 := oA.1
    have oK1 := oK.1
    have oG1 := oG.1
    have oW1 := oW.1
    have oX1 := oX.1
    have oD1 := oD.1
    have oR1 := oR.1
    obtain ⟨ct, cs, ca, ck, cg, cn⟩ := id hI
    obtain ⟨y1, y2, y3, y4, y5, y6, y7, y8, y9, y10, y11, y12⟩ := id hok
    have hn6 := y3.1
    have hsh : ∀ l, l < tN (yt S) → sH (ys S) l ≤ 1 := fun l hl => (y5.1.1 l hl).2.2
    have cs2 : SS I 5 (yt S) (ys S) := cs.fr hn6 (fun x j z1 z2 => hfr x j (by unfold FtU; omega))
    have cn2 : ntp I na (yg S) := ntp_fr cn (fun x j hx => hfr x j (by unfold FtU; omega))
    have cg2 : sgp I 117 (yG S) := sgp_fr cg (fun x j z1 z2 => hfr x j (by unfold FtU; omega))
    have hc91 : c ≤ 1 := by omega
    have hways := ways_all (wgS (yt S) (yg S) (ys S)) none y6 hn6
    refine x_iload_3 dX8_setting_43 ?_
    refine x_if_eqN dX8_setting_44 (by omega) (fun c44 => ?_) (fun c44 => ?_)
    · have hno : (cF (wgS (yt S) (yg S) (ys S)) none (tN (yt S)) i).2 = none := hc9.elim (fun z => absurd z.1 (by omega)) (fun z => z.2)
      have eB : setB (yt S) (yg S) (ys S) = (cF (wgS (yt S) (yg S) (ys S)) none (tN (yt S)) i).1 := by
        have e := cF_none hno (720 - i)
        rw [show i + (720 - i) = 720 by omega] at e
        show mF _ _ _ _ = _
        rw [hways.1, e]
      exact hx _ _ _ _ hfr (by rw [eB]; exact h3) (by rw [eB]; exact hbp)
    · have hex : ∃ L, (cF (wgS (yt S) (yg S) (ys S)) none (tN (yt S)) i).2 = some L ∧ plw I 121 (tN (yt S)) (fun l => srtF (tN (yt S)) (sP (ys S)) (L.getD l 0)) := hc9.elim (fun z => z.2) (fun z => absurd z.1 (by omega))
      obtain ⟨L, hL, hpl⟩ := hex
      have hgd := hways.2 i L hL
      have hkw := okS_way y5.1 hgd.1 hgd.2
      have hf1 : ∀ k, k < tN (yt S) → (fun l => srtF (tN (yt S)) (sP (ys S)) (L.getD l 0)) k < 1000 := fun k hk => by have h8 := srt_le y5.1.2 (fun l hl => (y5.1.1 l hl).1) (hgd.1 k hk); show srtF _ _ _ < 1000; omega
      have hcs := cF_some hL
      have hsg := step_go y6 y5.1.2 hgd
      refine x_iload_4 dX8_setting_47 ?_
      refine x_sip (c := 720) dX8_setting_49 (by decide) ?_
      refine x_icmp_geN dX8_setting_52 (by omega) (by omega) (fun c52 => ?_) (fun c52 => ?_)
      · have i720 : i = 720 := by omega
        have eB : setB (yt S) (yg S) (ys S) = (cF (wgS (yt S) (yg S) (ys S)) none (tN (yt S)) i).1 := by rw [i720]; exact hways.1
        exact hx _ _ _ _ hfr (by rw [eB]; exact h3) (by rw [eB]; exact hbp)
      · refine x_aload_0 dX8_setting_55 ?_
        refine x_getr dX8_setting_56 f_X8_30 (by assumption) u3 ?_
        refine x_aload_0 dX8_setting_59 ?_
        refine x_getr dX8_setting_60 f_X8_26 (by assumption) u2 ?_
        refine x_V1v dX8_setting_63 m_X8_176 (c_X5_copy 14 5 (yt S) (ys S) oL oN (by omega) cs2.1 cs2.2 hn6 hsh) (by assumption) (fun I63 h63 => ?_)
        obtain ⟨fr63, sl63, sk63⟩ := h63
        have ss63 : SS I63 14 (yt S) (ys S) := ⟨sl63, sk63⟩
        have cn3 : ntp I63 na (yg S) := ntp_fr cn2 (fun x j hx => fr63 x j (by unfold FtS; omega))
        have e53 : I63 5 3 = nI (sR (ys S)) := (fr63 _ _ (by unfold FtS; omega)).trans cs2.1.2.1
        refine x_aload_0 dX8_setting_66 ?_
        refine x_getr dX8_setting_67 f_X8_55 (by assumption) u7 ?_
        refine x_aload_0 dX8_setting_70 ?_
        refine x_getr dX8_setting_71 f_X8_30 (by assumption) u3 ?_
        refine x_V1v dX8_setting_74 m_X8_192 (c_X7_applyTo 121 oW 14 (yt S) (ys S) oL hn6 ss63.1 (fun l => srtF (tN (yt S)) (sP (ys S)) (L.getD l 0)) (plw_fr hpl (fr63 _ _ (by unfold FtS; omega)) (fun j => fr63 _ _ (by unfold FtS; omega))) (by omega) hf1 hkw.2) (by assumption) (fun I74 h74 => ?_)
        obtain ⟨af, as⟩ := h74
        have as2 : SS _ 14 (yt S) (wayS (yt S) (ys S) L) := as
        refine x_aload_0 dX8_setting_77 ?_
        refine x_V0i dX8_setting_78 m_X8_182 (c_X8_yot hB (yt S) (yg S) (wayS (yt S) (ys S) L) (ntp_fr cn3 (fun x j hx => af x j (by unfold FtS; omega))) y4 y3 hkw as2 ((af _ _ (by unfold FtS; omega)).trans e53) (by show sR (ys S) ≤ 200; have := y5.2; omega)) (by assumption) (fun x78 I78 h78 => ?_)
        obtain ⟨yf78, ys78, rfl⟩ := h78
        refine x_S1i dX8_setting_81 m_X8_195 (c_bitCount _ (bitF_le (k := 6) hn6)) (fun x81 I81 h81 => ?_)
        obtain ⟨rfl, rfl⟩ := h81
        refine x_istore_5 dX8_setting_84 rfl rfl ?_
        have fo := fun x j (hx : ¬ FtS 14 x j) => (yf78 x j hx).trans ((af x j hx).trans (fr63 x j hx))
        refine x_aload_0 dX8_setting_86 ?_
        refine x_getr dX8_setting_87 f_X8_30 (by assumption) u3 ?_
        refine x_V0i dX8_setting_90 m_X8_186 (c_X5_allSpoiled 14 (yt S) (wayU (yt S) (yg S) (ys S) L) oL ys78.1 hn6) (by assumption) (fun x90 I90 h90 => ?_)
        obtain ⟨rfl, rfl⟩ := h90
        refine x_iload_2 dX8_setting_93 ?_
        refine x_icmp_ne dX8_setting_94 (fun c94 => ?_) (fun c94 => ?_)
        · have f4 := fun x j (hx : ¬ FtU x j) => fo x j (by unfold FtU at hx; unfold FtS; omega)
          have hpl5 : plw _ 121 (tN (yt S)) (fun l => srtF (tN (yt S)) (sP (ys S)) (L.getD l 0)) := plw_fr hpl (fo _ _ (by unfold FtS; omega)) (fun j => fo _ _ (by unfold FtS; omega))
          have wgE : wgS (yt S) (yg S) (ys S) (cF (wgS (yt S) (yg S) (ys S)) none (tN (yt S)) i).1 L = (cF (wgS (yt S) (yg S) (ys S)) none (tN (yt S)) i).1 := wg_n (fun z => c94 z.1)
          refine x_aload_0 dX8_setting_106 ?_
          refine x_getr dX8_setting_107 f_X8_55 (by assumption) u7 ?_
          refine x_V0i dX8_setting_110 m_X8_203 (c_X7_goOn 121 oW (tN (yt S)) (fun l => srtF (tN (yt S)) (sP (ys S)) (L.getD l 0)) hpl5 hn6 hf1 y6) (by assumption) (fun x110 I110 h110 => ?_)
          obtain ⟨gf110, ⟨rfl, f2, gs110, gp110⟩ | ⟨rfl, gs110⟩⟩ := h110
          · refine x_istore_3 dX8_setting_113 rfl rfl ?_
            refine x_iinc_4 dX8_setting_114 (iinc1 _) rfl rfl ?_
            refine x_goto dX8_setting_117 ?_
            have e1 : (cF (wgS (yt S) (yg S) (ys S)) none (tN (yt S)) (i + 1)) = (wgS (yt S) (yg S) (ys S) (cF (wgS (yt S) (yg S) (ys S)) none (tN (yt S)) i).1 L, stepL (tN (yt S)) L) := hcs
            refine ih (i + 1) _ _ _ (by omega) (by omega) (fun x j hx => (gf110 x j (by unfold FtU at hx; omega)).trans ((f4 x j hx).trans (hfr x j hx))) ?_ ?_ ?_
            · rw [e1]
              show _ = mstV (wgS (yt S) (yg S) (ys S) (cF (wgS (yt S) (yg S) (ys S)) none (tN (yt S)) i).1 L)
              rw [wgE]
              exact (gf110 _ _ (by omega)).trans ((fo _ _ (by unfold FtS; omega)).trans h3)
            · rw [e1]
              show bstP _ _ _ (wgS (yt S) (yg S) (ys S) (cF (wgS (yt S) (yg S) (ys S)) none (tN (yt S)) i).1 L)
              rw [wgE]
              intro x hx k hk
              exact (gf110 _ _ (by omega)).trans ((fo _ _ (by unfold FtS; omega)).trans (hbp x hx k hk))
            · refine Or.inl ⟨rfl, ?_⟩
              obtain ⟨M, hM, hM2⟩ := hsg.2 _ gs110
              refine ⟨M, by rw [e1]; exact hM, gp110.1, fun k hk => ?_⟩
              rw [gp110.2 k hk, hM2 k hk]
          · refine x_istore_3 dX8_setting_113 rfl rfl ?_
            refine x_iinc_4 dX8_setting_114 (iinc1 _) rfl rfl ?_
            refine x_goto dX8_setting_117 ?_
            have e1 : (cF (wgS (yt S) (yg S) (ys S)) none (tN (yt S)) (i + 1)) = (wgS (yt S) (yg S) (ys S) (cF (wgS (yt S) (yg S) (ys S)) none (tN (yt S)) i).1 L, stepL (tN (yt S)) L) := hcs
            refine ih (i + 1) _ _ _ (by omega) (by omega) (fun x j hx => (gf110 x j (by unfold FtU at hx; omega)).trans ((f4 x j hx).trans (hfr x j hx))) ?_ ?_ ?_
            · rw [e1]
              show _ = mstV (wgS (yt S) (yg S) (ys S) (cF (wgS (yt S) (yg S) (ys S)) none (tN (yt S)) i).1 L)
              rw [wgE]
              exact (gf110 _ _ (by omega)).trans ((fo _ _ (by unfold FtS; omega)).trans h3)
            · rw [e1]
              show bstP _ _ _ (wgS (yt S) (yg S) (ys S) (cF (wgS (yt S) (yg S) (ys S)) none (tN (yt S)) i).1 L)
              rw [wgE]
              intro x hx k hk
              exact (gf110 _ _ (by omega)).trans ((fo _ _ (by unfold FtS; omega)).trans (hbp x hx k hk))
            · refine Or.inr ⟨rfl, ?_⟩
              rw [e1]
              exact hsg.1 gs110
        · refine x_aload_0 dX8_setting_97 ?_
          refine x_getr dX8_setting_98 f_X8_55 (by assumption) u7 ?_
          refine x_iload_5 dX8_setting_101 ?_
          refine x_V1v dX8_setting_103 m_X8_200 (c_X7_weigh 121 oW (mstV (cF (wgS (yt S) (yg S) (ys S)) none (tN (yt S)) i).1) (nI (ones6 (ydB (yt S) (yg S) (wayU (yt S) (yg S) (ys S) L)))) ((fo _ _ (by unfold FtS; omega)).trans h3)) (by assumption) (fun I103 h103 => ?_)
          rcases h103 with ⟨wl, wf, wb, wc⟩ | ⟨wl, wf⟩
          · have f4 := fun x j (hx : ¬ FtU x j) => (wf x j (by unfold FtU at hx; omega)).trans (fo x j (by unfold FtU at hx; unfold FtS; omega))
            have hpl5 : plw _ 121 (tN (yt S)) (fun l => srtF (tN (yt S)) (sP (ys S)) (L.getD l 0)) := plw_fr hpl ((wf _ _ (by omega)).trans (fo _ _ (by unfold FtS; omega))) (fun j => (wf _ _ (by omega)).trans (fo _ _ (by unfold FtS; omega)))
            have wgE : wgS (yt S) (yg S) (ys S) (cF (wgS (yt S) (yg S) (ys S)) none (tN (yt S)) i).1 L = some (ones6 (ydB (yt S) (yg S) (wayU (yt S) (yg S) (ys S) L)), L) := wg_y c94 wl
            refine x_aload_0 dX8_setting_106 ?_
            refine x_getr dX8_setting_107 f_X8_55 (by assumption) u7 ?_
            refine x_V0i dX8_setting_110 m_X8_203 (c_X7_goOn 121 oW (tN (yt S)) (fun l => srtF (tN (yt S)) (sP (ys S)) (L.getD l 0)) hpl5 hn6 hf1 y6) (by assumption) (fun x110 I110 h110 => ?_)
            obtain ⟨gf110, ⟨rfl, f2, gs110, gp110⟩ | ⟨rfl, gs110⟩⟩ := h110
            · refine x_istore_3 dX8_setting_113 rfl rfl ?_
              refine x_iinc_4 dX8_setting_114 (iinc1 _) rfl rfl ?_
              refine x_goto dX8_setting_117 ?_
              have e1 : (cF (wgS (yt S) (yg S) (ys S)) none (tN (yt S)) (i + 1)) = (wgS (yt S) (yg S) (ys S) (cF (wgS (yt S) (yg S) (ys S)) none (tN (yt S)) i).1 L, stepL (tN (yt S)) L) := hcs
              refine ih (i + 1) _ _ _ (by omega) (by omega) (fun x j hx => (gf110 x j (by unfold FtU at hx; omega)).trans ((f4 x j hx).trans (hfr x j hx))) ?_ ?_ ?_
              · rw [e1]
                show _ = mstV (wgS (yt S) (yg S) (ys S) (cF (wgS (yt S) (yg S) (ys S)) none (tN (yt S)) i).1 L)
                rw [wgE]
                exact (gf110 _ _ (by omega)).trans wb
              · rw [e1]
                show bstP _ _ _ (wgS (yt S) (yg S) (ys S) (cF (wgS (yt S) (yg S) (ys S)) none (tN (yt S)) i).1 L)
                rw [wgE]
                intro x hx k hk
                cases hx
                exact (gf110 _ _ (by omega)).trans ((wc k (by omega)).trans ((fo _ _ (by unfold FtS; omega)).trans (hpl.2 k hk)))
              · refine Or.inl ⟨rfl, ?_⟩
                obtain ⟨M, hM, hM2⟩ := hsg.2 _ gs110
                refine ⟨M, by rw [e1]; exact hM, gp110.1, fun k hk => ?_⟩
                rw [gp110.2 k hk, hM2 k hk]
            · refine x_istore_3 dX8_setting_113 rfl rfl ?_
              refine x_iinc_4 dX8_setting_114 (iinc1 _) rfl rfl ?_
              refine x_goto dX8_setting_117 ?_
              have e1 : (cF (wgS (yt S) (yg S) (ys S)) none (tN (yt S)) (i + 1)) = (wgS (yt S) (yg S) (ys S) (cF (wgS (yt S) (yg S) (ys S)) none (tN (yt S)) i).1 L, stepL (tN (yt S)) L) := hcs
              refine ih (i + 1) _ _ _ (by omega) (by omega) (fun x j hx => (gf110 x j (by unfold FtU at hx; omega)).trans ((f4 x j hx).trans (hfr x j hx))) ?_ ?_ ?_
              · rw [e1]
                show _ = mstV (wgS (yt S) (yg S) (ys S) (cF (wgS (yt S) (yg S) (ys S)) none (tN (yt S)) i).1 L)
                rw [wgE]
                exact (gf110 _ _ (by omega)).trans wb
              · rw [e1]
                show bstP _ _ _ (wgS (yt S) (yg S) (ys S) (cF (wgS (yt S) (yg S) (ys S)) none (tN (yt S)) i).1 L)
                rw [wgE]
                intro x hx k hk
                cases hx
                exact (gf110 _ _ (by omega)).trans ((wc k (by omega)).trans ((fo _ _ (by unfold FtS; omega)).trans (hpl.2 k hk)))
              · refine Or.inr ⟨rfl, ?_⟩
                rw [e1]
                exact hsg.1 gs110
          · subst wf
            have f4 := fun x j (hx : ¬ FtU x j) => fo x j (by unfold FtU at hx; unfold FtS; omega)
            have hpl5 : plw _ 121 (tN (yt S)) (fun l => srtF (tN (yt S)) (sP (ys S)) (L.getD l 0)) := plw_fr hpl (fo _ _ (by unfold FtS; omega)) (fun j => fo _ _ (by unfold FtS; omega))
            have wgE : wgS (yt S) (yg S) (ys S) (cF (wgS (yt S) (yg S) (ys S)) none (tN (yt S)) i).1 L = (cF (wgS (yt S) (yg S) (ys S)) none (tN (yt S)) i).1 := wg_n (fun z => wl z.2)
            refine x_aload_0 dX8_setting_106 ?_
            refine x_getr dX8_setting_107 f_X8_55 (by assumption) u7 ?_
            refine x_V0i dX8_setting_110 m_X8_203 (c_X7_goOn 121 oW (tN (yt S)) (fun l => srtF (tN (yt S)) (sP (ys S)) (L.getD l 0)) hpl5 hn6 hf1 y6) (by assumption) (fun x110 I110 h110 => ?_)
            obtain ⟨gf110, ⟨rfl, f2, gs110, gp110⟩ | ⟨rfl, gs110⟩⟩ := h110
            · refine x_istore_3 dX8_setting_113 rfl rfl ?_
              refine x_iinc_4 dX8_setting_114 (iinc1 _) rfl rfl ?_
              refine x_goto dX8_setting_117 ?_
              have e1 : (cF (wgS (yt S) (yg S) (ys S)) none (tN (yt S)) (i + 1)) = (wgS (yt S) (yg S) (ys S) (cF (wgS (yt S) (yg S) (ys S)) none (tN (yt S)) i).1 L, stepL (tN (yt S)) L) := hcs
              refine ih (i + 1) _ _ _ (by omega) (by omega) (fun x j hx => (gf110 x j (by unfold FtU at hx; omega)).trans ((f4 x j hx).trans (hfr x j hx))) ?_ ?_ ?_
              · rw [e1]
                show _ = mstV (wgS (yt S) (yg S) (ys S) (cF (wgS (yt S) (yg S) (ys S)) none (tN (yt S)) i).1 L)
                rw [wgE]
                exact (gf110 _ _ (by omega)).trans ((fo _ _ (by unfold FtS; omega)).trans h3)
              · rw [e1]
                show bstP _ _ _ (wgS (yt S) (yg S) (ys S) (cF (wgS (yt S) (yg S) (ys S)) none (tN (yt S)) i).1 L)
                rw [wgE]
                intro x hx k hk
                exact (gf110 _ _ (by omega)).trans ((fo _ _ (by unfold FtS; omega)).trans (hbp x hx k hk))
              · refine Or.inl ⟨rfl, ?_⟩
                obtain ⟨M, hM, hM2⟩ := hsg.2 _ gs110
                refine ⟨M, by rw [e1]; exact hM, gp110.1, fun k hk => ?_⟩
                rw [gp110.2 k hk, hM2 k hk]
            · refine x_istore_3 dX8_setting_113 rfl rfl ?_
              refine x_iinc_4 dX8_setting_114 (iinc1 _) rfl rfl ?_
              refine x_goto dX8_setting_117 ?_
              have e1 : (cF (wgS (yt S) (yg S) (ys S)) none (tN (yt S)) (i + 1)) = (wgS (yt S) (yg S) (ys S) (cF (wgS (yt S) (yg S) (ys S)) none (tN (yt S)) i).1 L, stepL (tN (yt S)) L) := hcs
              refine ih (i + 1) _ _ _ (by omega) (by omega) (fun x j hx => (gf110 x j (by unfold FtU at hx; omega)).trans ((f4 x j hx).trans (hfr x j hx))) ?_ ?_ ?_
              · rw [e1]
                show _ = mstV (wgS (yt S) (yg S) (ys S) (cF (wgS (yt S) (yg S) (ys S)) none (tN (yt S)) i).1 L)
                rw [wgE]
                exact (gf110 _ _ (by omega)).trans ((fo _ _ (by unfold FtS; omega)).trans h3)
              · rw [e1]
                show bstP _ _ _ (wgS (yt S) (yg S) (ys S) (cF (wgS (yt S) (yg S) (ys S)) none (tN (yt S)) i).1 L)
                rw [wgE]
                intro x hx k hk
                exact (gf110 _ _ (by omega)).trans ((fo _ _ (by unfold FtS; omega)).trans (hbp x hx k hk))
              · refine Or.inr ⟨rfl, ?_⟩
                rw [e1]
                exact hsg.1 gs110
set_option maxHeartbeats 4000000 in
theorem c_X8_setting {r : Ev} {n : Nat} {I : MI} {Q : MQ2} {S : Sy} (hc : CW n I Q S) (hok : okY S) (x : Int32) : CT r 6 yX8_setting cX8_setting (6, (some .int)) (0, 0) [.ref (evz r + 0), .int x] n I Q (ri Q (fun v J => FrW I Q J Q ∧ CW n J Q (A_setting S x).2 ∧ v = (A_setting S x).1)) := by
  refine ct_of (lv := [some (.ref (evz r + 0)), some (.int x), none, none, none, none]) (by decide +kernel) rfl rfl rfl ?_
  obtain ⟨na, nb, p1, p2, hB, hI⟩ := id hc
  obtain ⟨o0, oT, oR, oN, oL, oA, oK, oG, oW, oX, oD, hnn, u0, u1, u2, u3, u4, u5, u6, u7, u8, u9⟩ := id hB
  have oT1 := oT.1
  have oN1 := oN.1
  have oL1 := oL.1
  have oA1 := oA.1
  have oK1 := oK.1
  have oG1 := oG.1
  have oW1 := oW.1
  have oX1 := oX.1
  have oD1 := oD.1
  have oR1 := oR.1
  obtain ⟨ct, cs, ca, ck, cg, cn⟩ := id hI
  obtain ⟨y1, y2, y3, y4, y5, y6, y7, y8, y9, y10, y11, y12⟩ := id hok
  have hn6 := y3.1
  have hsh : ∀ l, l < tN (yt S) → sH (ys S) l ≤ 1 := fun l hl => (y5.1.1 l hl).2.2
  refine x_iload_1 dX8_setting_0 ?_
  refine x_iconst (v := -1) dX8_setting_1 rfl ?_
  refine x_aload_0 dX8_setting_2 ?_
  refine x_getr dX8_setting_3 f_X8_26 (by assumption) u2 ?_
  refine x_getV dX8_setting_6 f_X8_185 (by assumption) cs.1.1 ?_
  refine x_const (c := 1) dX8_setting_9 rfl ?_
  refine x_isubN dX8_setting_10 (by omega) ?_
  refine x_S3i dX8_setting_11 m_X8_91 (c_isOutM x (tN (yt S) - 1) (by omega)) (fun x11 I11 h11 => ?_)
  obtain ⟨rfl, ⟨rfl, h11⟩ | ⟨rfl, h11⟩⟩ := h11
  · refine x_if_eqN dX8_setting_14 (by omega) (fun c14 => ?_) (fun c14 => ?_)
    · exfalso; omega
    · refine x_iconst (v := -1) dX8_setting_17 rfl ?_
      exact x_iret (st := []) dX8_setting_18 rfl rfl (⟨_, rfl, rfl, by rw [set_n h11]; exact ⟨FrW.rf, hc, rfl⟩⟩)
  · have hxk := inM_k y6 h11
    refine x_if_eqN dX8_setting_14 (by omega) (fun c14 => ?_) (fun c14 => ?_)
    · refine x_aload_0 dX8_setting_19 ?_
      refine x_getr dX8_setting_20 f_X8_26 (by assumption) u2 ?_
      refine x_V0i dX8_setting_23 m_X8_186 (c_X5_allSpoiled 5 (yt S) (ys S) oN cs.1 hn6) (by assumption) (fun x23 I23 h23 => ?_)
      obtain ⟨rfl, rfl⟩ := h23
      refine x_istore_2 dX8_setting_26 rfl rfl ?_
      refine x_aload_0 dX8_setting_27 ?_
      refine x_getr dX8_setting_28 f_X8_55 (by assumption) u7 ?_
      refine x_aload_0 dX8_setting_31 ?_
      refine x_getr dX8_setting_32 f_X8_26 (by assumption) u2 ?_
      refine x_V1v dX8_setting_35 m_X8_189 (c_X7_begin 121 oW 5 (yt S) (ys S) oN y5.1 hn6 cs.1 (by omega)) (by assumption) (fun I35 h35 => ?_)
      obtain ⟨bf35, bp35, b335⟩ := h35
      refine x_const (c := 1) dX8_setting_38 rfl ?_
      refine x_istore_3 dX8_setting_39 rfl rfl ?_
      refine x_const (c := 0) dX8_setting_40 rfl ?_
      refine x_istore_4 dX8_setting_41 rfl rfl ?_
      refine l_cset hc hok x (fun J2 w3 w4 w5 q1 h3 hbp => ?_) 721 0 1 _ _ (by omega) (by omega) (fun y q hy => bf35 y q (by unfold FtU at hy; omega)) b335 (fun y hy => by cases hy) (Or.inl ⟨rfl, _, rfl, bp35.1, fun k hk => by have e := tab_get (fun i => i) (tN (yt S)) [] k; rw [if_pos hk] at e; rw [bp35.2 k hk]; show nI _ = nI (srtF _ _ ((tabN (fun i => i) (tN (yt S)) []).getD k 0)); rw [e]⟩)
      have hqy : FrS _ J2 (fun x _ => Qry nb x) := fun x j hx => q1 x j (by unfold Qry at hx; unfold FtU; omega)
      refine x_aload_0 dX8_setting_120 ?_
      refine x_getr dX8_setting_121 f_X8_55 (by assumption) u7 ?_
      refine x_V0i dX8_setting_124 m_X8_206 (c_X7_isFound 121 oW (mstV (setB (yt S) (yg S) (ys S))) h3) (by assumption) (fun x124 I124 h124 => ?_)
      obtain ⟨rfl, ⟨rfl, h124⟩ | ⟨rfl, h124⟩⟩ := h124
      · refine x_if_neN dX8_setting_127 (by omega) (fun c127 => ?_) (fun c127 => ?_)
        · obtain ⟨z1, z2⟩ := CW_q (J := _) hB hI hok hqy
          rcases hxk with hx1 | ⟨k0, hk0, hx1⟩
          · rw [hx1]
            refine x_iload_1 dX8_setting_133 ?_
            refine x_if_ge dX8_setting_134 (fun c => absurd c n0m1) (fun _ => ?_)
            refine x_aload_0 dX8_setting_137 ?_
            refine x_getr dX8_setting_138 f_X8_55 (by assumption) u7 ?_
            refine x_getV dX8_setting_141 f_X8_209 oW1 h3 ?_
            refine x_goto dX8_setting_144 ?_
            refine x_iret (st := []) dX8_setting_155 rfl rfl ⟨_, rfl, rfl, ?_⟩
            rw [← hx1, set_y y6 hn6 h11]
            exact ⟨z1, z2, by rw [if_pos hx1]⟩
          · rw [hx1]
            refine x_iload_1 dX8_setting_133 ?_
            refine x_if_ge dX8_setting_134 (fun _ => ?_) (fun c => absurd (nI_pos' (by omega)) c)
            refine x_aload_0 dX8_setting_147 ?_
            refine x_getr dX8_setting_148 f_X8_55 (by assumption) u7 ?_
            refine x_iload_1 dX8_setting_151 ?_
            refine x_V1i dX8_setting_152 m_X8_212 (c_X7_bestPlace 121 oW k0 (by omega)) oW1 (fun x152 I152 h152 => ?_)
            obtain ⟨rfl, rfl⟩ := h152
            refine x_iret (st := []) dX8_setting_155 rfl rfl ⟨_, rfl, rfl, ?_⟩
            rw [← hx1, set_y y6 hn6 h11]
            refine ⟨z1, z2, ?_⟩
            have hne : x ≠ -1 := by rw [hx1]; exact nI_nm1 (by omega)
            rw [if_neg hne, hx1, nI_toInt (by omega)]
            show _ = plcV (tN (yt S)) (sP (ys S)) (setB (yt S) (yg S) (ys S)) k0
            cases hb : setB (yt S) (yg S) (ys S) with
            | none => rw [hb] at h124; exact absurd rfl h124
            | some y => exact hbp y hb k0 hk0
        · exfalso; omega
      · refine x_if_neN dX8_setting_127 (by omega) (fun c127 => ?_) (fun c127 => ?_)
        · exfalso; omega
        · refine x_bipush (v := -4) dX8_setting_130 (by decide) ?_
          exact x_iret (st := []) dX8_setting_132 rfl rfl (⟨_, rfl, rfl, by
              obtain ⟨z1, z2⟩ := CW_q (J := _) hB hI hok hqy
              rw [set_y y6 hn6 h11]
              refine ⟨z1, z2, ?_⟩
              cases hb : setB (yt S) (yg S) (ys S) with
              | none =>
                by_cases z : x = -1
                · rw [if_pos z]; rfl
                · rw [if_neg z]; rfl
              | some y =>
                rw [hb] at h124
                have h6 : y.1 ≤ 6 := cF_le (yt S) (yg S) (ys S) (tN (yt S)) 720 y (by rw [← (ways_all (wgS (yt S) (yg S) (ys S)) none y6 hn6).1]; exact hb)
                exact absurd h124 (nI_ne4 (by omega))⟩)
    · exfalso; omega
