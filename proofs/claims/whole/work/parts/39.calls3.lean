/-- what was noted, in one row of numbers -/
def ntk (I : MI) (a : Nat) (G : Sg) : Prop := I a 11 = nI (gn G) ∧ ∀ k, k < gn G → I (a + 8) k = nI (1000 * gL G k + 20 * gD G k + gH G k)
theorem soB_and {G : Sg} {s : St} {h i : Nat} {b : Bool} : (b && soB G s h (i + 1)) = ((b && soB G s h i) && (!decide (gH G i = h) || decide (sD s (gL G i) = gD G i))) := (Bool.and_assoc _ _ _).symm
theorem n1000a {l d e : Nat} (hd : d ≤ 27) (he : e ≤ 12) : (1000 * l + 20 * d + e) / 1000 = l := by omega
theorem n1000b {l d e : Nat} (hd : d ≤ 27) (he : e ≤ 12) : (1000 * l + 20 * d + e) % 1000 / 20 = d := by omega
theorem n1000c {l d e : Nat} (he : e ≤ 12) : (1000 * l + 20 * d + e) % 20 = e := by omega
def FtP0 (a x : Nat) : Prop := x = a + 5 ∨ x = a + 9
set_option maxHeartbeats 4000000 in
theorem l_so_in {r : Ev} {n : Nat} {Q : MQ2} {F : Post} {I : MI} (a : Nat) (hb : MdB n Q a) (G : Sg) (hG : ntk I a G) (N : Nat) (hN : N ≤ 6) (hok : okG N G) (t : Tp) (hNt : tN t = N) (s : St) (hs : stp I (a + 5) t s) (hD : ∀ l, l < N → sD s l < 1000) (cold h : Nat) (hh : h < 13) (B0 : Bool) (hx : ∀ (c : Nat) (w4 w5 : Option Value), ((c = 1 ∧ (B0 && soB G s h (gn G)) = true) ∨ (c = 0 ∧ (B0 && soB G s h (gn G)) = false)) → X r 4 yX9_isSo cX9_isSo (6, (some .boolean)) (0, 0) 100 [some (.ref (evz r + a)), some (.int (nI (cold))), some (.int (nI (c))), some (.int (nI (h))), w4, w5] [] n I Q F) : ∀ (k : Nat) (i c : Nat) (w5 : Option Value), i ≤ gn G → i + k = gn G + 1 → ((c = 1 ∧ (B0 && soB G s h i) = true) ∨ (c = 0 ∧ (B0 && soB G s h i) = false)) → X r 4 yX9_isSo cX9_isSo (6, (some .boolean)) (0, 0) 13 [some (.ref (evz r + a)), some (.int (nI (cold))), some (.int (nI (c))), some (.int (nI (h))), some (.int (nI (i))), w5] [] n I Q F := by
  intro k
  induction k with
  | zero => intros; omega
  | succ k ih =>
    intro i c w5 hi0 hi hc
    have hg6 := hok.1
    obtain ⟨b0, bT, bO, bD, bB, bS, bP, bM, bN, bR, bH, qT, qO, qD, qB, qS, qP, qM, qN, qR, qH⟩ := id hb
    refine x_iload_4 dX9_isSo_13 ?_
    refine x_aload_0 dX9_isSo_15 ?_
    refine x_getV dX9_isSo_16 f_X9_97 (by assumption) hG.1 ?_
    refine x_icmp_geN dX9_isSo_19 (by omega) (by omega) (fun c19 => ?_) (fun c19 => ?_)
    · obtain rfl : i = gn G := (by omega)
      exact hx _ _ _ hc
    · have hgi := hok.2 i (by omega)
      have hli := hgi.1
      have hDi := hD _ hgi.1
      have hc2 : c ≤ 1 := by omega
      refine x_aload_0 dX9_isSo_22 ?_
      refine x_getr dX9_isSo_23 f_X9_31 (by assumption) qN ?_
      refine x_iload_4 dX9_isSo_26 ?_
      refine x_ialdV dX9_isSo_28 (by assumption) rfl (by omega) (hG.2 i (by omega)) ?_
      refine x_bip (c := 20) dX9_isSo_29 (by decide) ?_
      refine x_iremN dX9_isSo_31 (by omega) (by omega) (by omega) ?_
      rw [n1000c hgi.2.2]
      refine x_iload_3 dX9_isSo_32 ?_
      refine x_icmp_neN dX9_isSo_33 (by omega) (by omega) (fun c33 => ?_) (fun c33 => ?_)
      · refine x_const (c := 0) dX9_isSo_40 rfl ?_
        refine x_istore_5 dX9_isSo_41 rfl rfl ?_
        refine x_iload_2 dX9_isSo_43 ?_
        refine x_if_eqN dX9_isSo_44 (by omega) (fun c44 => ?_) (fun c44 => ?_)
        · refine x_const (c := 0) dX9_isSo_92 rfl ?_
          refine x_istore_2 dX9_isSo_93 rfl rfl ?_
          refine x_iinc_4 dX9_isSo_94 (iinc1 _) rfl rfl ?_
          refine x_goto dX9_isSo_97 ?_
          refine ih (i + 1) _ _ (by omega) (by omega) ?_
          rw [soB_and]
          have e2 : (B0 && soB G s h i) = false := hc.elim (fun z => absurd z.1 (by omega)) (fun z => z.2)
          exact Or.inr ⟨rfl, by rw [e2]; rfl⟩
        · refine x_iload_5 dX9_isSo_47 ?_
          refine x_if_eqN dX9_isSo_49 (by omega) (fun c49 => ?_) (fun c49 => ?_)
          · refine x_const (c := 1) dX9_isSo_88 rfl ?_
            refine x_goto dX9_isSo_89 ?_
            refine x_istore_2 dX9_isSo_93 rfl rfl ?_
            refine x_iinc_4 dX9_isSo_94 (iinc1 _) rfl rfl ?_
            refine x_goto dX9_isSo_97 ?_
            refine ih (i + 1) _ _ (by omega) (by omega) ?_
            rw [soB_and]
            have e2 : (B0 && soB G s h i) = true := hc.elim (fun z => z.2) (fun z => absurd z.1 (by omega))
            refine Or.inl ⟨rfl, ?_⟩
            rw [e2, decide_eq_false (show ¬ gH G i = h by omega)]
            rfl
          · exfalso; omega
      · refine x_const (c := 1) dX9_isSo_36 rfl ?_
        refine x_goto dX9_isSo_37 ?_
        refine x_istore_5 dX9_isSo_41 rfl rfl ?_
        refine x_iload_2 dX9_isSo_43 ?_
        refine x_if_eqN dX9_isSo_44 (by omega) (fun c44 => ?_) (fun c44 => ?_)
        · refine x_const (c := 0) dX9_isSo_92 rfl ?_
          refine x_istore_2 dX9_isSo_93 rfl rfl ?_
          refine x_iinc_4 dX9_isSo_94 (iinc1 _) rfl rfl ?_
          refine x_goto dX9_isSo_97 ?_
          refine ih (i + 1) _ _ (by omega) (by omega) ?_
          rw [soB_and]
          have e2 : (B0 && soB G s h i) = false := hc.elim (fun z => absurd z.1 (by omega)) (fun z => z.2)
          exact Or.inr ⟨rfl, by rw [e2]; rfl⟩
        · refine x_iload_5 dX9_isSo_47 ?_
          refine x_if_eqN dX9_isSo_49 (by omega) (fun c49 => ?_) (fun c49 => ?_)
          · exfalso; omega
          · refine x_aload_0 dX9_isSo_52 ?_
            refine x_getr dX9_isSo_53 f_X9_22 (by assumption) qS ?_
            refine x_bip (c := 6) dX9_isSo_56 (by decide) ?_
            refine x_aload_0 dX9_isSo_58 ?_
            refine x_getr dX9_isSo_59 f_X9_31 (by assumption) qN ?_
            refine x_iload_4 dX9_isSo_62 ?_
            refine x_ialdV dX9_isSo_64 (by assumption) rfl (by omega) (hG.2 i (by omega)) ?_
            refine x_sip (c := 1000) dX9_isSo_65 (by decide) ?_
            refine x_idivN dX9_isSo_68 (by omega) (by omega) (by omega) ?_
            rw [n1000a hgi.2.1 hgi.2.2]
            refine x_iaddN dX9_isSo_69 ?_
            refine x_ialdV dX9_isSo_70 (by assumption) rfl (by omega) (hs.2.1 _ (by omega)) ?_
            refine x_aload_0 dX9_isSo_71 ?_
            refine x_getr dX9_isSo_72 f_X9_31 (by assumption) qN ?_
            refine x_iload_4 dX9_isSo_75 ?_
            refine x_ialdV dX9_isSo_77 (by assumption) rfl (by omega) (hG.2 i (by omega)) ?_
            refine x_sip (c := 1000) dX9_isSo_78 (by decide) ?_
            refine x_iremN dX9_isSo_81 (by omega) (by omega) (by omega) ?_
            refine x_bip (c := 20) dX9_isSo_82 (by decide) ?_
            refine x_idivN dX9_isSo_84 (by omega) (by omega) (by omega) ?_
            rw [n1000b hgi.2.1 hgi.2.2]
            refine x_icmp_neN dX9_isSo_85 (by omega) (by omega) (fun c85 => ?_) (fun c85 => ?_)
            · refine x_const (c := 0) dX9_isSo_92 rfl ?_
              refine x_istore_2 dX9_isSo_93 rfl rfl ?_
              refine x_iinc_4 dX9_isSo_94 (iinc1 _) rfl rfl ?_
              refine x_goto dX9_isSo_97 ?_
              refine ih (i + 1) _ _ (by omega) (by omega) ?_
              rw [soB_and]
              have e2 : (B0 && soB G s h i) = true := hc.elim (fun z => z.2) (fun z => absurd z.1 (by omega))
              refine Or.inr ⟨rfl, ?_⟩
              rw [e2, decide_eq_true (show gH G i = h by omega), decide_eq_false (show ¬ sD s (gL G i) = gD G i by omega)]
              rfl
            · refine x_const (c := 1) dX9_isSo_88 rfl ?_
              refine x_goto dX9_isSo_89 ?_
              refine x_istore_2 dX9_isSo_93 rfl rfl ?_
              refine x_iinc_4 dX9_isSo_94 (iinc1 _) rfl rfl ?_
              refine x_goto dX9_isSo_97 ?_
              refine ih (i + 1) _ _ (by omega) (by omega) ?_
              rw [soB_and]
              have e2 : (B0 && soB G s h i) = true := hc.elim (fun z => z.2) (fun z => absurd z.1 (by omega))
              refine Or.inl ⟨rfl, ?_⟩
              rw [e2, decide_eq_true (show sD s (gL G i) = gD G i by omega)]
              cases decide (gH G i = h) <;> rfl
theorem bo1 {v : Nat} (h : v ≤ 1) : narrow .boolean (.int (nI v)) = .int (nI v) := by
  rcases (show v = 0 ∨ v = 1 by omega) with rfl | rfl <;> rfl
set_option maxHeartbeats 4000000 in
theorem l_so {r : Ev} {n : Nat} {Q : MQ2} {F : Post} {RES : Bool} {I0 : MI} (a : Nat) (hb : MdB n Q a) (t : Tp) (g : Nt) (ho0 : tdp I0 (a + 2) t g) (ht : okT t) (hG : okN g) (G : Sg) (hnt0 : ntk I0 a G) (hok : okG (tN t) G) (h9 : ∀ l, l < tN t → tT t l ≤ 9) (cold : Nat) (hcold : cold ≤ 9) (hF : ∀ J (v : Nat), FrS I0 J (fun x _ => FtP9 a x) → (∀ j, j < 26 → J (a + 5) j = I0 (a + 10) j) → v ≤ 1 → (v = 1 ↔ RES = true) → F (some (.int (nI v))) J Q) : ∀ (k : Nat) (h c ch : Nat) (s : St) (B0 : Bool) (I : MI) (w4 w5 : Option Value), h ≤ 13 → h + k = 13 + 1 → FrS I0 I (fun x _ => FtP9 a x) → stp I (a + 5) t s → okS t s → sR s ≤ 200 + h → ((c = 1 ∧ (B0) = true) ∨ (c = 0 ∧ (B0) = false)) → ch = (if h = 0 then cold else coldF g (sR s)) → RES = (B0 && soN t g G (13 - h) h ch s) → X r 4 yX9_isSo cX9_isSo (6, (some .boolean)) (0, 0) 4 [some (.ref (evz r + a)), some (.int (nI (cold))), some (.int (nI (c))), some (.int (nI (h))), w4, w5] [] n I Q F := by
  intro k
  induction k with
  | zero => intros; omega
  | succ k ih =>
    intro h c ch s B0 I w4 w5 hi0 hi hfr hs hk hR hc hch hr
    obtain ⟨b0, bT, bO, bD, bB, bS, bP, bM, bN, bR, bH, qT, qO, qD, qB, qS, qP, qM, qN, qR, qH⟩ := id hb
    refine x_iload_3 dX9_isSo_4 ?_
    refine x_bip (c := 13) dX9_isSo_5 (by decide) ?_
    refine x_icmp_geN dX9_isSo_7 (by omega) (by omega) (fun c7 => ?_) (fun c7 => ?_)
    · obtain rfl : h = 13 := (by omega)
      refine x_aload_0 dX9_isSo_140 ?_
      refine x_V0v dX9_isSo_141 m_X9_140 (c_X9_bringsBack a hb) (by assumption) (fun I141 h141 => ?_)
      obtain ⟨cf141, cc141⟩ := h141
      
      refine x_iload_2 dX9_isSo_144 ?_
      exact x_iret (st := []) dX9_isSo_145 rfl (bo1 (by omega)) (hF _ c (fun x j hx => (cf141 x j (by unfold FtP9 at hx; omega)).trans (hfr x j hx)) (fun j hj => (cc141 j hj).trans (hfr _ _ (by unfold FtP9; omega))) (by omega) (by rw [hr, show soN t g G (13 - 13) 13 ch s = true from rfl, Bool.and_true]; exact ⟨fun z => hc.elim (fun y => y.2) (fun y => absurd y.1 (by omega)), fun z => hc.elim (fun y => y.1) (fun y => by rw [y.2] at z; cases z)⟩))
    · have hn6 := ht.1
      have ho : tdp I (a + 2) t g := tdp_fr ho0 (fun j => hfr _ _ (by unfold FtP9; omega))
      have hnt : ntk I a G := ⟨(hfr _ _ (by unfold FtP9; omega)).trans hnt0.1, fun k hk => (hfr _ _ (by unfold FtP9; omega)).trans (hnt0.2 k hk)⟩
      have h13 : 13 - h = (13 - (h + 1)) + 1 := by omega
      rw [h13] at hr
      refine x_const (c := 0) dX9_isSo_10 rfl ?_
      refine x_istore_4 dX9_isSo_11 rfl rfl ?_
      refine l_so_in a hb G hnt (tN t) hn6 hok t rfl s hs (fun l hl => by have := (hk.1 l hl).2.1; have := h9 l hl; omega) cold h (by omega) B0 (fun c4 w4 w5 hc4 => ?_) (gn G + 1) 0 c _ (by omega) (by omega) (by rw [show soB G s h 0 = true from rfl, Bool.and_true]; exact hc)
      refine x_aload_0 dX9_isSo_100 ?_
      refine x_iload_3 dX9_isSo_101 ?_
      refine x_if_neN dX9_isSo_102 (by omega) (fun c102 => ?_) (fun c102 => ?_)
      · have hce : ch = coldF g (sR s) := by rw [hch, if_neg (by omega)]
        subst hce
        refine x_aload_0 dX9_isSo_109 ?_
        refine x_aload_0 dX9_isSo_110 ?_
        refine x_getr dX9_isSo_111 f_X9_22 (by assumption) qS ?_
        refine x_bip (c := 25) dX9_isSo_114 (by decide) ?_
        refine x_ialdV dX9_isSo_116 (by assumption) rfl (by omega) hs.2.2.2.2.2 ?_
        refine x_V1i dX9_isSo_117 m_X9_106 (c_X9_coldOf a hb t g ho _ (by omega) hG.1) (by assumption) (fun x117 I117 h117 => ?_)
        obtain ⟨rfl, rfl⟩ := h117
        refine x_aload_0 dX9_isSo_120 ?_
        refine x_aload_0 dX9_isSo_121 ?_
        refine x_getr dX9_isSo_122 f_X9_22 (by assumption) qS ?_
        refine x_bip (c := 25) dX9_isSo_125 (by decide) ?_
        refine x_ialdV dX9_isSo_127 (by assumption) rfl (by omega) hs.2.2.2.2.2 ?_
        refine x_V1i dX9_isSo_128 m_X9_109 (c_X9_mistOf a hb t g ho _ (by omega) hG.1) (by assumption) (fun x128 I128 h128 => ?_)
        obtain ⟨rfl, rfl⟩ := h128
        refine x_V2v dX9_isSo_131 m_X9_121 (c_X9_passes a hb t g ho ht _ _ (by first | exact cold_le hG _ | exact hcold) (mist_le hG _) _ hk hs (by omega) (by have := hG.2.2.1; omega)) (by assumption) (fun I131 h131 => ?_)
        obtain ⟨pf131, ps131, pr131⟩ := h131
        refine x_iinc_3 dX9_isSo_134 (iinc1 _) rfl rfl ?_
        refine x_goto dX9_isSo_137 ?_
        exact ih (h + 1) _ _ _ (B0 && soB G s h (gn G)) _ _ _ (by omega) (by omega) (fun x j hx => (pf131 x j hx).trans (hfr x j hx)) ps131 (okS_hour hk) (by rw [sR_hour]; omega) hc4 rfl (by rw [hr, if_neg (by omega), sR_hour, Bool.and_assoc]; rfl)
      · have h00 : h = 0 := by omega
        have hce : ch = cold := by rw [hch, if_pos h00]
        subst hce
        refine x_iload_1 dX9_isSo_105 ?_
        refine x_goto dX9_isSo_106 ?_
        refine x_aload_0 dX9_isSo_120 ?_
        refine x_aload_0 dX9_isSo_121 ?_
        refine x_getr dX9_isSo_122 f_X9_22 (by assumption) qS ?_
        refine x_bip (c := 25) dX9_isSo_125 (by decide) ?_
        refine x_ialdV dX9_isSo_127 (by assumption) rfl (by omega) hs.2.2.2.2.2 ?_
        refine x_V1i dX9_isSo_128 m_X9_109 (c_X9_mistOf a hb t g ho _ (by omega) hG.1) (by assumption) (fun x128 I128 h128 => ?_)
        obtain ⟨rfl, rfl⟩ := h128
        refine x_V2v dX9_isSo_131 m_X9_121 (c_X9_passes a hb t g ho ht _ _ (by first | exact cold_le hG _ | exact hcold) (mist_le hG _) _ hk hs (by omega) (by have := hG.2.2.1; omega)) (by assumption) (fun I131 h131 => ?_)
        obtain ⟨pf131, ps131, pr131⟩ := h131
        refine x_iinc_3 dX9_isSo_134 (iinc1 _) rfl rfl ?_
        refine x_goto dX9_isSo_137 ?_
        exact ih (h + 1) _ _ _ (B0 && soB G s h (gn G)) _ _ _ (by omega) (by omega) (fun x j hx => (pf131 x j hx).trans (hfr x j hx)) ps131 (okS_hour hk) (by rw [sR_hour]; omega) hc4 rfl (by rw [hr, if_neg (by omega), sR_hour, Bool.and_assoc]; rfl)
set_option maxHeartbeats 4000000 in
theorem c_X9_isSo {r : Ev} {n : Nat} {I : MI} {Q : MQ2} (a : Nat) (hb : MdB n Q a) (t : Tp) (g : Nt) (ho : tdp I (a + 2) t g) (ht : okT t) (hG : okN g) (G : Sg) (hnt : ntk I a G) (hok : okG (tN t) G) (h9 : ∀ l, l < tN t → tT t l ≤ 9) (cold : Nat) (hcold : cold ≤ 9) (s : St) (hs : stp I (a + 5) t s) (hk : okS t s) (hR : sR s ≤ 200) : CT r 4 yX9_isSo cX9_isSo (6, (some .boolean)) (0, 0) [.ref (evz r + a), .int (nI cold)] n I Q (ri Q (fun v J => FrS I J (fun x _ => FtP9 a x) ∧ (∀ j, j < 26 → J (a + 5) j = I (a + 10) j) ∧ ((v = nI 1 ∧ soA t g G cold s = true) ∨ (v = nI 0 ∧ soA t g G cold s = false)))) := by
  refine ct_of (lv := [some (.ref (evz r + a)), some (.int (nI cold)), none, none, none, none]) (by decide +kernel) rfl rfl rfl ?_
  refine x_const (c := 1) dX9_isSo_0 rfl ?_
  refine x_istore_2 dX9_isSo_1 rfl rfl ?_
  refine x_const (c := 0) dX9_isSo_2 rfl ?_
  refine x_istore_3 dX9_isSo_3 rfl rfl ?_
  refine l_so a hb t g ho ht hG G hnt hok h9 cold hcold (RES := soA t g G cold s) (fun J v q1 q2 q3 q4 => ⟨_, rfl, rfl, q1, q2, ?_⟩) 14 0 1 cold s true _ _ _ (by omega) (by omega) (fun _ _ _ => rfl) hs hk (by omega) (Or.inl ⟨rfl, rfl⟩) rfl rfl
  rcases (show v = 0 ∨ v = 1 by omega) with rfl | rfl
  · refine Or.inr ⟨rfl, ?_⟩
    cases e : soA t g G cold s with
    | false => rfl
    | true => exact absurd (q4.mpr e) (by decide)
  · exact Or.inl ⟨rfl, q4.mp rfl⟩
theorem or_64 : ∀ l, l < 6 → ∀ x, x < 2 ^ l → ∀ b, b < 2 → nI (64 * b + x) ||| (nI 1 <<< (nI l &&& 31)) = nI (64 * b + (x + 2 ^ l)) := by decide +kernel
theorem or_064 : ∀ x, x < 128 → nI x ||| nI 0 = nI x := by decide +kernel
def cwQ (t : Tp) (g : Nt) (G : Sg) (s : St) (l : Nat) : Bool := soA t g G (coldF g (sR s)) (cowS s l)
set_option maxHeartbeats 4000000 in
theorem l_cows {r : Ev} {n : Nat} {Q : MQ2} {F : Post} {I0 : MI} (a : Nat) (hb : MdB n Q a) (t : Tp) (g : Nt) (ho0 : tdp I0 (a + 2) t g) (ht : okT t) (hG : okN g) (G : Sg) (hnt0 : ntk I0 a G) (hok : okG (tN t) G) (h9 : ∀ l, l < tN t → tT t l ≤ 9) (s : St) (hk : okS t s) (hR : sR s ≤ 99) (hheld : ∀ j, j < 26 → I0 (a + 10) j = I0 (a + 5) j) (hs0 : stp I0 (a + 5) t s) (b : Nat) (hb2 : b < 2) (hF : ∀ J, FrS I0 J (fun x _ => FtP9 a x) → stp J (a + 5) t s → F (some (.int (nI (64 * b + bitF (cwQ t g G s) (tN t))))) J Q) : ∀ (k : Nat) (l : Nat) (I : MI), l ≤ tN t → l + k = tN t + 1 → FrS I0 I (fun x _ => FtP9 a x) → stp I (a + 5) t s → X r 5 yX9_cows cX9_cows (3, (some .int)) (0, 0) 31 [some (.ref (evz r + a)), some (.int (nI (64 * b + bitF (cwQ t g G s) l))), some (.int (nI (l)))] [] n I Q F := by
  intro k
  induction k with
  | zero => intros; omega
  | succ k ih =>
    intro l I hi0 hi hfr hs
    have hn6 := ht.1
    have ho : tdp I (a + 2) t g := tdp_fr ho0 (fun j => hfr _ _ (by unfold FtP9; omega))
    have hnt : ntk I a G := ⟨(hfr _ _ (by unfold FtP9; omega)).trans hnt0.1, fun k hk => (hfr _ _ (by unfold FtP9; omega)).trans (hnt0.2 k hk)⟩
    obtain ⟨b0, bT, bO, bD, bB, bS, bP, bM, bN, bR, bH, qT, qO, qD, qB, qS, qP, qM, qN, qR, qH⟩ := id hb
    refine x_iload_2 dX9_cows_31 ?_
    refine x_aload_0 dX9_cows_32 ?_
    refine x_getr dX9_cows_33 f_X9_13 (by assumption) qO ?_
    refine x_const (c := 0) dX9_cows_36 rfl ?_
    refine x_ialdV dX9_cows_37 (by assumption) rfl (by omega) ho.1 ?_
    refine x_icmp_geN dX9_cows_38 (by omega) (by omega) (fun c38 => ?_) (fun c38 => ?_)
    · obtain rfl : l = tN t := (by omega)
      refine x_iload_1 dX9_cows_88 ?_
      exact x_iret (st := []) dX9_cows_89 rfl rfl (hF _ hfr hs)
    · have hDl := (hk.1 l (by omega)).2.1
      have h9l := h9 l (by omega)
      have hbl := bitF_lt (cwQ t g G s) l
      have hbl7 : bitF (cwQ t g G s) l < 64 := bitF_le (k := 6) (by omega)
      refine x_aload_0 dX9_cows_41 ?_
      refine x_getr dX9_cows_42 f_X9_22 (by assumption) qS ?_
      refine x_bip (c := 6) dX9_cows_45 (by decide) ?_
      refine x_iload_2 dX9_cows_47 ?_
      refine x_iaddN dX9_cows_48 ?_
      refine x_dup2 dX9_cows_49 ?_
      refine x_ialdV dX9_cows_50 (by assumption) rfl (by omega) (hs.2.1 l (by omega)) ?_
      refine x_const (c := 2) dX9_cows_51 rfl ?_
      refine x_idivN dX9_cows_52 (by omega) (by omega) (by omega) ?_
      refine x_iastA dX9_cows_53 (by assumption) rfl (by omega) (fun J53 fr53 e53 => ?_)
      refine x_iload_1 dX9_cows_54 ?_
      refine x_aload_0 dX9_cows_55 ?_
      refine x_aload_0 dX9_cows_56 ?_
      refine x_aload_0 dX9_cows_57 ?_
      refine x_getr dX9_cows_58 f_X9_22 (by assumption) qS ?_
      refine x_bip (c := 25) dX9_cows_61 (by decide) ?_
      refine x_ialdV dX9_cows_63 (by assumption) rfl (by omega) ((fr53 _ _ (by omega)).trans hs.2.2.2.2.2) ?_
      refine x_V1i dX9_cows_64 m_X9_106 (c_X9_coldOf a hb t g (tdp_fr ho (fun j => fr53 _ _ (by omega))) _ (by omega) hG.1) (by assumption) (fun x64 I64 h64 => ?_)
      obtain ⟨rfl, rfl⟩ := h64
      refine x_V1i dX9_cows_67 m_X9_155 (c_X9_isSo a hb t g (tdp_fr ho (fun j => fr53 _ _ (by omega))) ht hG G ⟨(fr53 _ _ (by omega)).trans hnt.1, fun k hk => (fr53 _ _ (by omega)).trans (hnt.2 k hk)⟩ hok h9 _ (cold_le hG _) (cowS s l) (stp_D hs hn6 (by omega) fr53 e53) (okS_cow hk (by omega)) (by show sR s ≤ 200; omega)) (by assumption) (fun x67 I67 h67 => ?_)
      obtain ⟨of67, oc67, ⟨rfl, ob67⟩ | ⟨rfl, ob67⟩⟩ := h67
      · refine x_if_eqN dX9_cows_70 (by omega) (fun c70 => ?_) (fun c70 => ?_)
        · exfalso; omega
        · refine x_const (c := 1) dX9_cows_73 rfl ?_
          refine x_iload_2 dX9_cows_74 ?_
          refine x_ishl dX9_cows_75 ?_
          refine x_goto dX9_cows_76 ?_
          refine x_ior dX9_cows_80 ?_
          rw [or_64 l (by omega) _ hbl b hb2, bitF_y (q := cwQ t g G s) (i := l) ob67]
          refine x_istore_1 dX9_cows_81 rfl rfl ?_
          refine x_iinc_2 dX9_cows_82 (iinc1 _) rfl rfl ?_
          refine x_goto dX9_cows_85 ?_
          exact ih (l + 1) _ (by omega) (by omega) (fun x j hx => (of67 x j hx).trans ((fr53 x j (by unfold FtP9 at hx; omega)).trans (hfr x j hx))) (stp_to hs0 hn6 (fun j hj => (oc67 j hj).trans ((fr53 _ _ (by omega)).trans ((hfr _ _ (by unfold FtP9; omega)).trans (hheld j hj)))))
      · refine x_if_eqN dX9_cows_70 (by omega) (fun c70 => ?_) (fun c70 => ?_)
        · refine x_const (c := 0) dX9_cows_79 rfl ?_
          refine x_ior dX9_cows_80 ?_
          rw [or_064 _ (by omega), bitF_n (q := cwQ t g G s) (i := l) (by rw [show cwQ t g G s l = false from ob67]; decide)]
          refine x_istore_1 dX9_cows_81 rfl rfl ?_
          refine x_iinc_2 dX9_cows_82 (iinc1 _) rfl rfl ?_
          refine x_goto dX9_cows_85 ?_
          exact ih (l + 1) _ (by omega) (by omega) (fun x j hx => (of67 x j hx).trans ((fr53 x j (by unfold FtP9 at hx; omega)).trans (hfr x j hx))) (stp_to hs0 hn6 (fun j hj => (oc67 j hj).trans ((fr53 _ _ (by omega)).trans ((hfr _ _ (by unfold FtP9; omega)).trans (hheld j hj)))))
        · exfalso; omega
set_option maxHeartbeats 4000000 in
theorem c_X9_cows {r : Ev} {n : Nat} {I : MI} {Q : MQ2} (a : Nat) (hb : MdB n Q a) (S : Sy) (hm : MdI I a S) (hok : okY S) : CT r 5 yX9_cows cX9_cows (3, (some .int)) (0, 0) [.ref (evz r + a)] n I Q (ri Q (fun v J => FrS I J (FtMd a) ∧ MdI J a (A_cows S).2 ∧ v = (A_cows S).1)) := by
  refine ct_of (lv := [some (.ref (evz r + a)), none, none]) (by decide +kernel) rfl rfl rfl ?_
  obtain ⟨b0, bT, bO, bD, bB, bS, bP, bM, bN, bR, bH, qT, qO, qD, qB, qS, qP, qM, qN, qR, qH⟩ := id hb
  obtain ⟨ht, ho, hs, ⟨h7, hp⟩, ⟨h9, hq⟩, h11, hw⟩ := id hm
  obtain ⟨y1, y2, y3, y4, y5, y6, y7, y8, y9, y10, y11, y12⟩ := id hok
  have hn6 := y3.1
  refine x_aload_0 dX9_cows_0 ?_
  refine x_V0v dX9_cows_1 m_X9_137 (c_X9_keepsAside a hb) (by assumption) (fun I1 h1 => ?_)
  obtain ⟨cf1, cc1⟩ := h1
  have ho3 := tdp_fr ho (fun j => cf1 _ _ (by omega))
  have hs3 := stp_to hs hn6 (fun j _ => cf1 _ _ (by omega))
  refine x_aload_0 dX9_cows_4 ?_
  refine x_aload_0 dX9_cows_5 ?_
  refine x_aload_0 dX9_cows_6 ?_
  refine x_getr dX9_cows_7 f_X9_22 (by assumption) qS ?_
  refine x_bip (c := 25) dX9_cows_10 (by decide) ?_
  refine x_ialdV dX9_cows_12 (by assumption) rfl (by omega) hs3.2.2.2.2.2 ?_
  refine x_V1i dX9_cows_13 m_X9_106 (c_X9_coldOf a hb (yt S) (yg S) ho3 _ (by have := y5.2; omega) y4.1) (by assumption) (fun x13 I13 h13 => ?_)
  obtain ⟨rfl, rfl⟩ := h13
  refine x_V1i dX9_cows_16 m_X9_155 (c_X9_isSo a hb (yt S) (yg S) ho3 y3 y4 (yG S) ⟨(cf1 _ _ (by omega)).trans h11, fun k hk => (cf1 _ _ (by omega)).trans (hw k hk)⟩ y12 y7 _ (cold_le y4 _) (ys S) hs3 y5.1 (by have := y5.2; omega)) (by assumption) (fun x16 I16 h16 => ?_)
  obtain ⟨of16, oc16, ⟨rfl, ob16⟩ | ⟨rfl, ob16⟩⟩ := h16
  · refine x_if_eqN dX9_cows_19 (by omega) (fun c19 => ?_) (fun c19 => ?_)
    · exfalso; omega
    · refine x_bip (c := 64) dX9_cows_22 (by decide) ?_
      refine x_goto dX9_cows_24 ?_
      refine x_istore_1 dX9_cows_28 rfl rfl ?_
      refine x_const (c := 0) dX9_cows_29 rfl ?_
      refine x_istore_2 dX9_cows_30 rfl rfl ?_
      refine l_cows a hb (yt S) (yg S) (tdp_fr ho3 (fun j => of16 _ _ (by unfold FtP9; omega))) y3 y4 (yG S) ⟨(of16 _ _ (by unfold FtP9; omega)).trans ((cf1 _ _ (by omega)).trans h11), fun k hk => (of16 _ _ (by unfold FtP9; omega)).trans ((cf1 _ _ (by omega)).trans (hw k hk))⟩ y12 y7 (ys S) y5.1 y5.2 (fun j hj => (of16 _ _ (by unfold FtP9; omega)).trans (oc16 j hj).symm) (stp_to hs hn6 (fun j hj => (oc16 j hj).trans (cc1 j hj))) 1 (by decide) (fun J q1 q3 => ⟨_, rfl, rfl, ⟨fun b j hb2 => (q1 b j (by unfold FtMd at hb2; unfold FtP9; omega)).trans ((of16 b j (by unfold FtMd at hb2; unfold FtP9; omega)).trans (cf1 b j (by unfold FtMd at hb2; omega))), MdI_q (s := ys S) hm hn6 (fun x j hx => (q1 x j (by unfold FtP9; omega)).trans ((of16 x j (by unfold FtP9; omega)).trans (cf1 x j (by omega)))) q3, ?_⟩⟩) (tN (yt S) + 1) 0 _ (by omega) (by omega) (fun _ _ _ => rfl) (stp_to hs hn6 (fun j hj => (oc16 j hj).trans (cc1 j hj)))
      unfold A_cows
      rw [ob16]
      rfl
  · refine x_if_eqN dX9_cows_19 (by omega) (fun c19 => ?_) (fun c19 => ?_)
    · refine x_const (c := 0) dX9_cows_27 rfl ?_
      refine x_istore_1 dX9_cows_28 rfl rfl ?_
      refine x_const (c := 0) dX9_cows_29 rfl ?_
      refine x_istore_2 dX9_cows_30 rfl rfl ?_
      refine l_cows a hb (yt S) (yg S) (tdp_fr ho3 (fun j => of16 _ _ (by unfold FtP9; omega))) y3 y4 (yG S) ⟨(of16 _ _ (by unfold FtP9; omega)).trans ((cf1 _ _ (by omega)).trans h11), fun k hk => (of16 _ _ (by unfold FtP9; omega)).trans ((cf1 _ _ (by omega)).trans (hw k hk))⟩ y12 y7 (ys S) y5.1 y5.2 (fun j hj => (of16 _ _ (by unfold FtP9; omega)).trans (oc16 j hj).symm) (stp_to hs hn6 (fun j hj => (oc16 j hj).trans (cc1 j hj))) 0 (by decide) (fun J q1 q3 => ⟨_, rfl, rfl, ⟨fun b j hb2 => (q1 b j (by unfold FtMd at hb2; unfold FtP9; omega)).trans ((of16 b j (by unfold FtMd at hb2; unfold FtP9; omega)).trans (cf1 b j (by unfold FtMd at hb2; omega))), MdI_q (s := ys S) hm hn6 (fun x j hx => (q1 x j (by unfold FtP9; omega)).trans ((of16 x j (by unfold FtP9; omega)).trans (cf1 x j (by omega)))) q3, ?_⟩⟩) (tN (yt S) + 1) 0 _ (by omega) (by omega) (fun _ _ _ => rfl) (stp_to hs hn6 (fun j hj => (oc16 j hj).trans (cc1 j hj)))
      unfold A_cows
      rw [ob16]
      rfl
    · exfalso; omega
set_option maxHeartbeats 4000000 in
theorem l_colds {r : Ev} {n : Nat} {Q : MQ2} {F : Post} {I0 : MI} (a : Nat) (hb : MdB n Q a) (t : Tp) (g : Nt) (ho0 : tdp I0 (a + 2) t g) (ht : okT t) (hG : okN g) (G : Sg) (hnt0 : ntk I0 a G) (hok : okG (tN t) G) (h9 : ∀ l, l < tN t → tT t l ≤ 9) (s : St) (hk : okS t s) (hR : sR s ≤ 99) (hheld : ∀ j, j < 26 → I0 (a + 10) j = I0 (a + 5) j) (hs0 : stp I0 (a + 5) t s) (hF : ∀ J, FrS I0 J (fun x _ => FtP9 a x) → stp J (a + 5) t s → F (some (.int (nI (bitF (fun c => soA t g G c s) 10)))) J Q) : ∀ (k : Nat) (i : Nat) (I : MI), i ≤ 10 → i + k = 10 + 1 → FrS I0 I (fun x _ => FtP9 a x) → stp I (a + 5) t s → X r 5 yX9_colds cX9_colds (3, (some .int)) (0, 0) 8 [some (.ref (evz r + a)), some (.int (nI (bitF (fun c => soA t g G c s) i))), some (.int (nI (i)))] [] n I Q F := by
  intro k
  induction k with
  | zero => intros; omega
  | succ k ih =>
    intro i I hi0 hi hfr hs
    have hn6 := ht.1
    have ho : tdp I (a + 2) t g := tdp_fr ho0 (fun j => hfr _ _ (by unfold FtP9; omega))
    have hnt : ntk I a G := ⟨(hfr _ _ (by unfold FtP9; omega)).trans hnt0.1, fun k hk => (hfr _ _ (by unfold FtP9; omega)).trans (hnt0.2 k hk)⟩
    obtain ⟨b0, bT, bO, bD, bB, bS, bP, bM, bN, bR, bH, qT, qO, qD, qB, qS, qP, qM, qN, qR, qH⟩ := id hb
    refine x_iload_2 dX9_colds_8 ?_
    refine x_bip (c := 10) dX9_colds_9 (by decide) ?_
    refine x_icmp_geN dX9_colds_11 (by omega) (by omega) (fun c11 => ?_) (fun c11 => ?_)
    · obtain rfl : i = 10 := (by omega)
      refine x_iload_1 dX9_colds_38 ?_
      exact x_iret (st := []) dX9_colds_39 rfl rfl (hF _ hfr hs)
    · have hbl := bitF_lt (fun c => soA t g G c s) i
      have hbl7 : bitF (fun c => soA t g G c s) i < 2048 := bitF_le (k := 11) (by omega)
      refine x_iload_1 dX9_colds_14 ?_
      refine x_aload_0 dX9_colds_15 ?_
      refine x_iload_2 dX9_colds_16 ?_
      refine x_V1i dX9_colds_17 m_X9_155 (c_X9_isSo a hb t g ho ht hG G hnt hok h9 i (by omega) s hs hk (by omega)) (by assumption) (fun x17 I17 h17 => ?_)
      obtain ⟨of17, oc17, ⟨rfl, ob17⟩ | ⟨rfl, ob17⟩⟩ := h17
      · refine x_if_eqN dX9_colds_20 (by omega) (fun c20 => ?_) (fun c20 => ?_)
        · exfalso; omega
        · refine x_const (c := 1) dX9_colds_23 rfl ?_
          refine x_iload_2 dX9_colds_24 ?_
          refine x_ishl dX9_colds_25 ?_
          refine x_goto dX9_colds_26 ?_
          refine x_ior dX9_colds_30 ?_
          rw [or_bit i (by omega) _ hbl, bitF_y (q := fun c => soA t g G c s) (i := i) ob17]
          refine x_istore_1 dX9_colds_31 rfl rfl ?_
          refine x_iinc_2 dX9_colds_32 (iinc1 _) rfl rfl ?_
          refine x_goto dX9_colds_35 ?_
          exact ih (i + 1) _ (by omega) (by omega) (fun x j hx => (of17 x j hx).trans (hfr x j hx)) (stp_to hs0 hn6 (fun j hj => (oc17 j hj).trans ((hfr _ _ (by unfold FtP9; omega)).trans (hheld j hj))))
      · refine x_if_eqN dX9_colds_20 (by omega) (fun c20 => ?_) (fun c20 => ?_)
        · refine x_const (c := 0) dX9_colds_29 rfl ?_
          refine x_ior dX9_colds_30 ?_
          rw [or_0 _ hbl7, bitF_n (q := fun c => soA t g G c s) (i := i) (by rw [ob17]; decide)]
          refine x_istore_1 dX9_colds_31 rfl rfl ?_
          refine x_iinc_2 dX9_colds_32 (iinc1 _) rfl rfl ?_
          refine x_goto dX9_colds_35 ?_
          exact ih (i + 1) _ (by omega) (by omega) (fun x j hx => (of17 x j hx).trans (hfr x j hx)) (stp_to hs0 hn6 (fun j hj => (oc17 j hj).trans ((hfr _ _ (by unfold FtP9; omega)).trans (hheld j hj))))
        · exfalso; omega
set_option maxHeartbeats 4000000 in
theorem c_X9_colds {r : Ev} {n : Nat} {I : MI} {Q : MQ2} (a : Nat) (hb : MdB n Q a) (S : Sy) (hm : MdI I a S) (hok : okY S) : CT r 5 yX9_colds cX9_colds (3, (some .int)) (0, 0) [.ref (evz r + a)] n I Q (ri Q (fun v J => FrS I J (FtMd a) ∧ MdI J a (A_colds S).2 ∧ v = (A_colds S).1)) := by
  refine ct_of (lv := [some (.ref (evz r + a)), none, none]) (by decide +kernel) rfl rfl rfl ?_
  obtain ⟨b0, bT, bO, bD, bB, bS, bP, bM, bN, bR, bH, qT, qO, qD, qB, qS, qP, qM, qN, qR, qH⟩ := id hb
  obtain ⟨ht, ho, hs, ⟨h7, hp⟩, ⟨h9, hq⟩, h11, hw⟩ := id hm
  obtain ⟨y1, y2, y3, y4, y5, y6, y7, y8, y9, y10, y11, y12⟩ := id hok
  have hn6 := y3.1
  refine x_aload_0 dX9_colds_0 ?_
  refine x_V0v dX9_colds_1 m_X9_137 (c_X9_keepsAside a hb) (by assumption) (fun I1 h1 => ?_)
  obtain ⟨cf1, cc1⟩ := h1
  have ho3 := tdp_fr ho (fun j => cf1 _ _ (by omega))
  have hs3 := stp_to hs hn6 (fun j _ => cf1 _ _ (by omega))
  refine x_const (c := 0) dX9_colds_4 rfl ?_
  refine x_istore_1 dX9_colds_5 rfl rfl ?_
  refine x_const (c := 0) dX9_colds_6 rfl ?_
  refine x_istore_2 dX9_colds_7 rfl rfl ?_
  refine l_colds a hb (yt S) (yg S) ho3 y3 y4 (yG S) ⟨(cf1 _ _ (by omega)).trans h11, fun k hk => (cf1 _ _ (by omega)).trans (hw k hk)⟩ y12 y7 (ys S) y5.1 y5.2 (fun j hj => (cc1 j hj).trans (cf1 _ _ (by omega)).symm) hs3 (fun J q1 q3 => ⟨_, rfl, rfl, fun b j hb2 => (q1 b j (by unfold FtMd at hb2; unfold FtP9; omega)).trans (cf1 b j (by unfold FtMd at hb2; omega)), MdI_q (s := ys S) hm hn6 (fun x j hx => (q1 x j (by unfold FtP9; omega)).trans (cf1 x j (by omega))) q3, rfl⟩) 11 0 _ (by omega) (by omega) (fun _ _ _ => rfl) hs3
set_option maxHeartbeats 4000000 in
theorem l_turn_end {r : Ev} {n : Nat} {Q : MQ2} {F : Post} {I : MI} (a : Nat) (hb : MdB n Q a) (t : Tp) (g : Nt) (ho : tdp I (a + 2) t g) (ht : okT t) (hG : okN g) (s : St) (hk : okS t s)  (hs : stp I (a + 5) t s) (hR : sR s ≤ 1000) (d : Nat) (w1 w2 w3 : Option Value) (hF : ∀ J, FrS I J (fun x _ => FtP9 a x) → stp J (a + 5) t (oneS t g s) → F none J Q) : X r 4 yX9_turn cX9_turn (4, none) (0, 0) 74 [some (.ref (evz r + a)), w1, w2, w3] [] n I Q F := by
  obtain ⟨b0, bT, bO, bD, bB, bS, bP, bM, bN, bR, bH, qT, qO, qD, qB, qS, qP, qM, qN, qR, qH⟩ := id hb
  refine x_aload_0 dX9_turn_74 ?_
  refine x_const (c := 1) dX9_turn_75 rfl ?_
  refine x_V1v dX9_turn_76 m_X9_127 (c_X9_hours a hb t g ho ht hG s hk hs 1 (by omega)) (by assumption) (fun I76 h76 => ?_)
  obtain ⟨pf76, ps76, pr76⟩ := h76
  exact x_vret (st := []) dX9_turn_79 rfl (hF _ pf76 ps76)
set_option maxHeartbeats 4000000 in
theorem c_X9_turn {r : Ev} {n : Nat} {I : MI} {Q : MQ2} (a : Nat) (hb : MdB n Q a) (t : Tp) (g : Nt) (ho : tdp I (a + 2) t g) (ht : okT t) (hG : okN g) (s : St) (hk : okS t s) (hR : sR s ≤ 1000) (hs : stp I (a + 5) t s) (h1 : 1 ≤ tN t) (h9 : ∀ l, l < tN t → tT t l ≤ 9) (d : Nat) (hd : d < 100000) : CT r 4 yX9_turn cX9_turn (4, none) (0, 0) [.ref (evz r + a), .int (nI d)] n I Q (rv Q (fun J => FrS I J (fun x _ => FtP9 a x) ∧ stp J (a + 5) t (oneS t g (turnS t s d)))) := by
  refine ct_of (lv := [some (.ref (evz r + a)), some (.int (nI d)), none, none]) (by decide +kernel) rfl rfl rfl ?_
  obtain ⟨b0, bT, bO, bD, bB, bS, bP, bM, bN, bR, bH, qT, qO, qD, qB, qS, qP, qM, qN, qR, qH⟩ := id hb
  have hn6 := ht.1
  refine x_iload_1 dX9_turn_0 ?_
  refine x_aload_0 dX9_turn_1 ?_
  refine x_getr dX9_turn_2 f_X9_13 (by assumption) qO ?_
  refine x_const (c := 0) dX9_turn_5 rfl ?_
  refine x_ialdV dX9_turn_6 (by assumption) rfl (by omega) ho.1 ?_
  refine x_iremN dX9_turn_7 (by omega) (by omega) (by omega) ?_
  refine x_istore_2 dX9_turn_8 rfl rfl ?_
  refine x_iload_1 dX9_turn_9 ?_
  refine x_bip (c := 8) dX9_turn_10 (by decide) ?_
  refine x_idivN dX9_turn_12 (by omega) (by omega) (by omega) ?_
  refine x_const (c := 5) dX9_turn_13 rfl ?_
  refine x_iremN dX9_turn_14 (by omega) (by omega) (by omega) ?_
  refine x_istore_3 dX9_turn_15 rfl rfl ?_
  have hl : d % tN t < tN t := Nat.mod_lt _ (by omega)
  have hDl := (hk.1 _ hl).2.1
  have hHl := (hk.1 _ hl).2.2
  have h9l := h9 _ hl
  refine x_iload_3 dX9_turn_16 ?_
  refine x_if_neN dX9_turn_17 (by omega) (fun c17 => ?_) (fun c17 => ?_)
  · refine x_iload_3 dX9_turn_36 ?_
    refine x_const (c := 1) dX9_turn_37 rfl ?_
    refine x_icmp_neN dX9_turn_38 (by omega) (by omega) (fun c38 => ?_) (fun c38 => ?_)
    · refine x_iload_3 dX9_turn_49 ?_
      refine x_const (c := 2) dX9_turn_50 rfl ?_
      refine x_icmp_neN dX9_turn_51 (by omega) (by omega) (fun c51 => ?_) (fun c51 => ?_)
      · have e1 : turnS t s d = s := by unfold turnS; rw [if_neg (by omega), if_neg (by omega), if_neg (by omega)]
        exact l_turn_end a hb t g ho ht hG _ (okS_turn hk h1) (by rw [e1]; exact hs) (by rw [sR_turn]; omega) d _ _ _ (fun J q1 q2 => ⟨rfl, rfl, q1, q2⟩)
      · refine x_aload_0 dX9_turn_54 ?_
        refine x_getr dX9_turn_55 f_X9_22 (by assumption) qS ?_
        refine x_bip (c := 18) dX9_turn_58 (by decide) ?_
        refine x_iload_2 dX9_turn_60 ?_
        refine x_iaddN dX9_turn_61 ?_
        refine x_const (c := 1) dX9_turn_62 rfl ?_
        refine x_aload_0 dX9_turn_63 ?_
        refine x_getr dX9_turn_64 f_X9_22 (by assumption) qS ?_
        refine x_bip (c := 18) dX9_turn_67 (by decide) ?_
        refine x_iload_2 dX9_turn_69 ?_
        refine x_iaddN dX9_turn_70 ?_
        refine x_ialdV dX9_turn_71 (by assumption) rfl (by omega) (hs.2.2.2.1 _ hl) ?_
        refine x_isubN dX9_turn_72 (by omega) ?_
        refine x_iastA dX9_turn_73 (by assumption) rfl (by omega) (fun J73 fr73 e73 => ?_)
        have e1 : turnS t s d = shaS s (d % tN t) := by unfold turnS; rw [if_neg (by omega), if_neg (by omega), if_pos (by omega)]
        have s1 : stp J73 (a + 5) t (turnS t s d) := by rw [e1]; exact stp_H hs hn6 hl fr73 e73
        have f1 : FrS I J73 (fun x _ => FtP9 a x) := fun x j hx => fr73 x j (by unfold FtP9 at hx; omega)
        exact l_turn_end a hb t g (tdp_fr ho (fun j => f1 _ _ (by unfold FtP9; omega))) ht hG _ (okS_turn hk h1) s1 (by rw [sR_turn]; omega) d _ _ _ (fun J q1 q2 => ⟨rfl, rfl, fun x j hx => (q1 x j hx).trans (f1 x j hx), q2⟩)
    · refine x_aload_0 dX9_turn_41 ?_
      refine x_iload_2 dX9_turn_42 ?_
      refine x_V1v dX9_turn_43 m_X9_134 (c_X9_weeps a hb t g ho ht hG s hk hs _ hl) (by assumption) (fun I43 h43 => ?_)
      obtain ⟨wf43, ws43⟩ := h43
      refine x_goto dX9_turn_46 ?_
      have e1 : turnS t s d = tearS t s (d % tN t) := by unfold turnS; rw [if_neg (by omega), if_pos (by omega)]
      rw [← e1] at ws43
      have f1 := fun x j (hx : ¬ FtP9 a x) => wf43 x j (by unfold FtP9 at hx; omega)
      exact l_turn_end a hb t g (tdp_fr ho (fun j => f1 _ _ (by unfold FtP9; omega))) ht hG _ (okS_turn hk h1) ws43 (by rw [sR_turn]; omega) d _ _ _ (fun J q1 q2 => ⟨rfl, rfl, fun x j hx => (q1 x j hx).trans (f1 x j hx), q2⟩)
  · refine x_aload_0 dX9_turn_20 ?_
    refine x_getr dX9_turn_21 f_X9_22 (by assumption) qS ?_
    refine x_bip (c := 6) dX9_turn_24 (by decide) ?_
    refine x_iload_2 dX9_turn_26 ?_
    refine x_iaddN dX9_turn_27 ?_
    refine x_dup2 dX9_turn_28 ?_
    refine x_ialdV dX9_turn_29 (by assumption) rfl (by omega) (hs.2.1 _ hl) ?_
    refine x_const (c := 2) dX9_turn_30 rfl ?_
    refine x_idivN dX9_turn_31 (by omega) (by omega) (by omega) ?_
    refine x_iastA dX9_turn_32 (by assumption) rfl (by omega) (fun J32 fr32 e32 => ?_)
    refine x_goto dX9_turn_33 ?_
    have e1 : turnS t s d = cowS s (d % tN t) := by unfold turnS; rw [if_pos (by omega)]
    have s1 : stp J32 (a + 5) t (turnS t s d) := by rw [e1]; exact stp_D hs hn6 hl fr32 e32
    have f1 : FrS I J32 (fun x _ => FtP9 a x) := fun x j hx => fr32 x j (by unfold FtP9 at hx; omega)
    exact l_turn_end a hb t g (tdp_fr ho (fun j => f1 _ _ (by unfold FtP9; omega))) ht hG _ (okS_turn hk h1) s1 (by rw [sR_turn]; omega) d _ _ _ (fun J q1 q2 => ⟨rfl, rfl, fun x j hx => (q1 x j hx).trans (f1 x j hx), q2⟩)
theorem drw_lt (z i : Nat) : drw z i < 65521 := by
  have h : (7919 * z + 6151 * i + 1) * (7919 * z + 6151 * i + 1) % 65521 < 65521 := Nat.mod_lt _ (by decide)
  unfold drw
  omega
theorem drx_lt {z i : Nat} (hz : z ≤ 9999) (hi : i ≤ 40) : (7919 * z + 6151 * i + 1) * (7919 * z + 6151 * i + 1) < 2 ^ 63 := by
  have h : 7919 * z + 6151 * i + 1 ≤ 100000000 := by omega
  exact Nat.lt_of_le_of_lt (Nat.mul_le_mul h h) (by decide)
set_option maxHeartbeats 4000000 in
theorem l_year {r : Ev} {n : Nat} {Q : MQ2} {F : Post} {I0 : MI} (a : Nat) (hb : MdB n Q a) (t : Tp) (g : Nt) (ho0 : tdp I0 (a + 2) t g) (ht : okT t) (hG : okN g) (s : St) (hk : okS t s) (hR : sR s ≤ 99) (hs0 : stp I0 (a + 5) t s) (h1 : 1 ≤ tN t) (h9 : ∀ l, l < tN t → tT t l ≤ 9) (z m wh : Nat) (hz : z ≤ 9999) (hm40 : m ≤ 40) (hx : ∀ (J : MI) (w5 w6 : Option Value), FrS I0 J (fun x _ => FtP9 a x) → stp J (a + 5) t (yrS t g z s m) → X r 5 yX9_year cX9_year (7, (some .int)) (0, 0) 85 [some (.ref (evz r + a)), some (.int (nI (z))), some (.int (nI (m))), some (.int (nI (wh))), some (.int (nI (m))), w5, w6] [] n J Q F) : ∀ (k : Nat) (i : Nat) (I : MI) (w5 w6 : Option Value), i ≤ m → i + k = m + 1 → FrS I0 I (fun x _ => FtP9 a x) → stp I (a + 5) t (yrS t g z s i) → X r 5 yX9_year cX9_year (7, (some .int)) (0, 0) 39 [some (.ref (evz r + a)), some (.int (nI (z))), some (.int (nI (m))), some (.int (nI (wh))), some (.int (nI (i))), w5, w6] [] n I Q F := by
  intro k
  induction k with
  | zero => intros; omega
  | succ k ih =>
    intro i I w5 w6 hi0 hi hfr hs
    obtain ⟨b0, bT, bO, bD, bB, bS, bP, bM, bN, bR, bH, qT, qO, qD, qB, qS, qP, qM, qN, qR, qH⟩ := id hb
    refine x_iload_4 dX9_year_39 ?_
    refine x_iload_2 dX9_year_41 ?_
    refine x_icmp_geN dX9_year_42 (by omega) (by omega) (fun c42 => ?_) (fun c42 => ?_)
    · obtain rfl : i = m := (by omega)
      exact hx _ _ _ hfr hs
    · have ho : tdp I (a + 2) t g := tdp_fr ho0 (fun j => hfr _ _ (by unfold FtP9; omega))
      have hd := drw_lt z i
      refine x_ldc2 dX9_year_45 k_X9_158 ?_
      refine x_iload_1 dX9_year_48 ?_
      refine x_i2l dX9_year_49 ?_
      refine x_lmul dX9_year_50 ?_
      rw [show (7919 : Int64) * (nI z).toInt64 = lN (7919 * z) from by rw [nI_l (by omega), ← lN_mul]; rfl]
      refine x_ldc2 dX9_year_51 k_X9_160 ?_
      refine x_iload_4 dX9_year_54 ?_
      refine x_i2l dX9_year_56 ?_
      refine x_lmul dX9_year_57 ?_
      rw [show (6151 : Int64) * (nI i).toInt64 = lN (6151 * i) from by rw [nI_l (by omega), ← lN_mul]; rfl]
      refine x_ladd dX9_year_58 ?_
      rw [lN_add]
      refine x_lconst (v := 1) dX9_year_59 rfl ?_
      refine x_ladd dX9_year_60 ?_
      rw [lN_1]
      refine x_lstore_5 dX9_year_61 rfl rfl ?_
      refine x_aload_0 dX9_year_63 ?_
      refine x_lload_5 dX9_year_64 ?_
      refine x_lload_5 dX9_year_66 ?_
      refine x_lmul dX9_year_68 ?_
      rw [lN_mul]
      refine x_ldc2 dX9_year_69 k_X9_162 ?_
      refine x_lrem dX9_year_72 (by decide) ?_
      rw [show (65521 : Int64) = lN 65521 from rfl, pk_lRem (drx_lt hz (show i ≤ 40 by omega)) (by decide) (by decide)]
      refine x_l2i dX9_year_73 ?_
      rw [lN_i]
      refine x_const (c := 2) dX9_year_74 rfl ?_
      refine x_idivN dX9_year_75 (by omega) (by omega) (by omega) ?_
      rw [show (7919 * z + 6151 * i + 1) * (7919 * z + 6151 * i + 1) % 65521 / 2 = drw z i from rfl]
      refine x_V1v dX9_year_76 m_X9_164 (c_X9_turn a hb t g ho ht hG _ (okS_yr hk h1 i) (by rw [sR_yr]; omega) hs h1 h9 _ (by omega)) (by assumption) (fun I76 h76 => ?_)
      obtain ⟨uf76, us76⟩ := h76
      refine x_iinc_4 dX9_year_79 (iinc1 _) rfl rfl ?_
      refine x_goto dX9_year_82 ?_
      exact ih (i + 1) _ _ _ (by omega) (by omega) (fun x j hx => (uf76 x j hx).trans (hfr x j hx)) us76
set_option maxHeartbeats 4000000 in
theorem c_X9_year {r : Ev} {n : Nat} {I : MI} {Q : MQ2} (a : Nat) (hb : MdB n Q a) (S : Sy) (hm : MdI I a S) (hok : okY S) (x y z : Int32) : CT r 5 yX9_year cX9_year (7, (some .int)) (0, 0) [.ref (evz r + a), .int x, .int y, .int z] n I Q (ri Q (fun v J => FrS I J (FtMd a) ∧ MdI J a (A_year S x y z).2 ∧ v = (A_year S x y z).1)) := by
  refine ct_of (lv := [some (.ref (evz r + a)), some (.int x), some (.int y), some (.int z), none, none, none]) (by decide +kernel) rfl rfl rfl ?_
  obtain ⟨b0, bT, bO, bD, bB, bS, bP, bM, bN, bR, bH, qT, qO, qD, qB, qS, qP, qM, qN, qR, qH⟩ := id hb
  obtain ⟨ht, ho, hs, ⟨h7, hp⟩, ⟨h9, hq⟩, h11, hw⟩ := id hm
  obtain ⟨y1, y2, y3, y4, y5, y6, y7, y8, y9, y10, y11, y12⟩ := id hok
  have hn6 := y3.1
  refine x_iload_1 dX9_year_0 ?_
  refine x_const (c := 0) dX9_year_1 rfl ?_
  refine x_sip (c := 9999) dX9_year_2 (by decide) ?_
  refine x_S3i dX9_year_5 m_X9_54 (c_X9_in x 0 9999 (by omega) (by omega)) (fun x5 I5 h5 => ?_)
  obtain ⟨rfl, ⟨rfl, h5⟩ | ⟨rfl, h5⟩⟩ := h5
  · obtain ⟨z0, z0a, z0b, rfl⟩ := h5
    refine x_if_eqN dX9_year_8 (by omega) (fun c8 => ?_) (fun c8 => ?_)
    · exfalso; omega
    · refine x_iload_2 dX9_year_11 ?_
      refine x_const (c := 1) dX9_year_12 rfl ?_
      refine x_bip (c := 40) dX9_year_13 (by decide) ?_
      refine x_S3i dX9_year_15 m_X9_54 (c_X9_in y 1 40 (by omega) (by omega)) (fun x15 I15 h15 => ?_)
      obtain ⟨rfl, ⟨rfl, h15⟩ | ⟨rfl, h15⟩⟩ := h15
      · obtain ⟨m, m0, m1, rfl⟩ := h15
        refine x_if_eqN dX9_year_18 (by omega) (fun c18 => ?_) (fun c18 => ?_)
        · exfalso; omega
        · refine x_iload_3 dX9_year_21 ?_
          refine x_const (c := 0) dX9_year_22 rfl ?_
          refine x_const (c := 2) dX9_year_23 rfl ?_
          refine x_S3i dX9_year_24 m_X9_54 (c_X9_in z 0 2 (by omega) (by omega)) (fun x24 I24 h24 => ?_)
          obtain ⟨rfl, ⟨rfl, h24⟩ | ⟨rfl, h24⟩⟩ := h24
          · obtain ⟨wh, wh0, wh1, rfl⟩ := h24
            refine x_if_neN dX9_year_27 (by omega) (fun c27 => ?_) (fun c27 => ?_)
            · refine x_aload_0 dX9_year_32 ?_
              refine x_V0v dX9_year_33 m_X9_137 (c_X9_keepsAside a hb) (by assumption) (fun I33 h33 => ?_)
              obtain ⟨cf33, cc33⟩ := h33
              have ho3 := tdp_fr ho (fun j => cf33 _ _ (by omega))
              have hs3 := stp_to hs hn6 (fun j _ => cf33 _ _ (by omega))
              refine x_const (c := 0) dX9_year_36 rfl ?_
              refine x_istore_4 dX9_year_37 rfl rfl ?_
              refine l_year a hb (yt S) (yg S) ho3 y3 y4 (ys S) y5.1 y5.2 hs3 y6 y7 z0 m wh (by omega) (by omega) (fun J3 w5 w6 f3 s4 => ?_) (m + 1) 0 _ _ _ (by omega) (by omega) (fun _ _ _ => rfl) hs3
              have ho4 := tdp_fr ho3 (fun j => f3 _ _ (by unfold FtP9; omega))
              refine x_iload_3 dX9_year_85 ?_
              refine x_if_neN dX9_year_86 (by omega) (fun c86 => ?_) (fun c86 => ?_)
              · refine x_iload_3 dX9_year_99 ?_
                refine x_const (c := 1) dX9_year_100 rfl ?_
                refine x_icmp_neN dX9_year_101 (by omega) (by omega) (fun c101 => ?_) (fun c101 => ?_)
                · refine x_aload_0 dX9_year_114 ?_
                  refine x_bip (c := 12) dX9_year_115 (by decide) ?_
                  refine x_V1i dX9_year_117 m_X9_131 (c_X9_sumOf a hb (tN (yt S)) ho4.1 hn6 12 (by omega) _ s4.2.2.1) (by assumption) (fun x117 I117 h117 => ?_)
                  obtain ⟨rfl, rfl⟩ := h117
                  refine x_istore_4 dX9_year_120 rfl rfl ?_
                  refine x_aload_0 dX9_year_122 ?_
                  refine x_V0v dX9_year_123 m_X9_140 (c_X9_bringsBack a hb) (by assumption) (fun I123 h123 => ?_)
                  obtain ⟨cf123, cc123⟩ := h123
                  refine x_iload_4 dX9_year_126 ?_
                  exact x_iret (st := []) dX9_year_128 rfl rfl (⟨_, rfl, rfl, by unfold A_year; rw [onI_y (by omega) (by omega) (by omega), onI_y (by omega) (by omega) (by omega), onI_y (by omega) (by omega) (by omega)]; obtain ⟨z1, z2⟩ := MdI_back hm hn6 cf33 cc33 f3 cf123 cc123; exact ⟨z1, z2, by first | rw [if_pos (by omega)]; rfl | rw [if_neg (by omega), if_pos (by omega)] | rw [if_neg (by omega), if_neg (by omega)]⟩⟩)
                · refine x_aload_0 dX9_year_104 ?_
                  refine x_getr dX9_year_105 f_X9_22 (by assumption) qS ?_
                  refine x_bip (c := 24) dX9_year_108 (by decide) ?_
                  refine x_ialdV dX9_year_110 (by assumption) rfl (by omega) s4.2.2.2.2.1 ?_
                  refine x_goto dX9_year_111 ?_
                  refine x_istore_4 dX9_year_120 rfl rfl ?_
                  refine x_aload_0 dX9_year_122 ?_
                  refine x_V0v dX9_year_123 m_X9_140 (c_X9_bringsBack a hb) (by assumption) (fun I123 h123 => ?_)
                  obtain ⟨cf123, cc123⟩ := h123
                  refine x_iload_4 dX9_year_126 ?_
                  exact x_iret (st := []) dX9_year_128 rfl rfl (⟨_, rfl, rfl, by unfold A_year; rw [onI_y (by omega) (by omega) (by omega), onI_y (by omega) (by omega) (by omega), onI_y (by omega) (by omega) (by omega)]; obtain ⟨z1, z2⟩ := MdI_back hm hn6 cf33 cc33 f3 cf123 cc123; exact ⟨z1, z2, by first | rw [if_pos (by omega)]; rfl | rw [if_neg (by omega), if_pos (by omega)] | rw [if_neg (by omega), if_neg (by omega)]⟩⟩)
              · refine x_aload_0 dX9_year_89 ?_
                refine x_V0i dX9_year_90 m_X9_146 (c_X9_yardsNow a hb (yt S) (yg S) ho4 _ s4 hn6 (fun l hl => by have h1 := ((okS_yr (g := yg S) (z := z0) y5.1 y6 m).1 l hl).2.1; have := y7 l hl; omega) (by have := y4.2.2.2.2.2.2; omega)) (by assumption) (fun x90 I90 h90 => ?_)
                obtain ⟨rfl, rfl⟩ := h90
                refine x_S1i dX9_year_93 m_X9_152 (c_X9_ones _ (ydB_lt (t := yt S) (g := yg S) (s := yrS (yt S) (yg S) z0 (ys S) m) hn6)) (fun x93 I93 h93 => ?_)
                obtain ⟨rfl, rfl⟩ := h93
                refine x_goto dX9_year_96 ?_
                refine x_istore_4 dX9_year_120 rfl rfl ?_
                refine x_aload_0 dX9_year_122 ?_
                refine x_V0v dX9_year_123 m_X9_140 (c_X9_bringsBack a hb) (by assumption) (fun I123 h123 => ?_)
                obtain ⟨cf123, cc123⟩ := h123
                refine x_iload_4 dX9_year_126 ?_
                exact x_iret (st := []) dX9_year_128 rfl rfl (⟨_, rfl, rfl, by unfold A_year; rw [onI_y (by omega) (by omega) (by omega), onI_y (by omega) (by omega) (by omega), onI_y (by omega) (by omega) (by omega)]; obtain ⟨z1, z2⟩ := MdI_back hm hn6 cf33 cc33 f3 cf123 cc123; exact ⟨z1, z2, by first | rw [if_pos (by omega)]; rfl | rw [if_neg (by omega), if_pos (by omega)] | rw [if_neg (by omega), if_neg (by omega)]⟩⟩)
            · exfalso; omega
          · refine x_if_neN dX9_year_27 (by omega) (fun c27 => ?_) (fun c27 => ?_)
            · exfalso; omega
            · refine x_iconst (v := -1) dX9_year_30 rfl ?_
              exact x_iret (st := []) dX9_year_31 rfl rfl (by first | exact ⟨_, rfl, rfl, by unfold A_year; rw [onI_n h5]; exact ⟨fun _ _ _ => rfl, hm, rfl⟩⟩ | exact ⟨_, rfl, rfl, by unfold A_year; rw [onI_y (by omega) (by omega) (by omega), onI_n h15]; exact ⟨fun _ _ _ => rfl, hm, rfl⟩⟩ | exact ⟨_, rfl, rfl, by unfold A_year; rw [onI_y (by omega) (by omega) (by omega), onI_y (by omega) (by omega) (by omega), onI_n h24]; exact ⟨fun _ _ _ => rfl, hm, rfl⟩⟩)
      · refine x_if_eqN dX9_year_18 (by omega) (fun c18 => ?_) (fun c18 => ?_)
        · refine x_iconst (v := -1) dX9_year_30 rfl ?_
          exact x_iret (st := []) dX9_year_31 rfl rfl (by first | exact ⟨_, rfl, rfl, by unfold A_year; rw [onI_n h5]; exact ⟨fun _ _ _ => rfl, hm, rfl⟩⟩ | exact ⟨_, rfl, rfl, by unfold A_year; rw [onI_y (by omega) (by omega) (by omega), onI_n h15]; exact ⟨fun _ _ _ => rfl, hm, rfl⟩⟩ | exact ⟨_, rfl, rfl, by unfold A_year; rw [onI_y (by omega) (by omega) (by omega), onI_y (by omega) (by omega) (by omega), onI_n h24]; exact ⟨fun _ _ _ => rfl, hm, rfl⟩⟩)
        · exfalso; omega
  · refine x_if_eqN dX9_year_8 (by omega) (fun c8 => ?_) (fun c8 => ?_)
    · refine x_iconst (v := -1) dX9_year_30 rfl ?_
      exact x_iret (st := []) dX9_year_31 rfl rfl (by first | exact ⟨_, rfl, rfl, by unfold A_year; rw [onI_n h5]; exact ⟨fun _ _ _ => rfl, hm, rfl⟩⟩ | exact ⟨_, rfl, rfl, by unfold A_year; rw [onI_y (by omega) (by omega) (by omega), onI_n h15]; exact ⟨fun _ _ _ => rfl, hm, rfl⟩⟩ | exact ⟨_, rfl, rfl, by unfold A_year; rw [onI_y (by omega) (by omega) (by omega), onI_y (by omega) (by omega) (by omega), onI_n h24]; exact ⟨fun _ _ _ => rfl, hm, rfl⟩⟩)
    · exfalso; omega
