/-! a night's cells: the night at a, its first slope at a + 1, colds at a + 10, mists at a + 11 -/
def NtB (n : Nat) (Q : MQ2) (a : Nat) : Prop := Ob n 1 a ∧ SlB n Q (a + 1) ∧ Ar n 11 (a + 10) 12 ∧ Ar n 11 (a + 11) 12 ∧ Q a 0 = some (a + 1) ∧ Q a 1 = some (a + 10) ∧ Q a 2 = some (a + 11)
def ntp (I : MI) (a : Nat) (g : Nt) : Prop := I a 3 = nI (nH g) ∧ I a 4 = nI (nS g) ∧ I a 5 = nI (nB g) ∧ I a 6 = nI (nY g) ∧ ∀ h, h < nH g → I (a + 10) h = nI (nC g h) ∧ I (a + 11) h = nI (nM g h)
theorem ntp_fr {I J : MI} {a : Nat} {g : Nt} (h : ntp I a g) (fr : ∀ x j, x = a ∨ x = a + 10 ∨ x = a + 11 → J x j = I x j) : ntp J a g := by
  obtain ⟨h1, h2, h3, h4, h5⟩ := h
  refine ⟨(fr _ _ (by omega)).trans h1, (fr _ _ (by omega)).trans h2, (fr _ _ (by omega)).trans h3, (fr _ _ (by omega)).trans h4, fun k hk => ?_⟩
  exact ⟨(fr _ _ (by omega)).trans (h5 k hk).1, (fr _ _ (by omega)).trans (h5 k hk).2⟩
theorem omin0 {h : Nat} (hh : h < 100000000) : (if nI 0 - nI 1 < nI h then nI 0 - nI 1 else nI h) = -1 := by
  have e : nI 0 - nI 1 = -1 := rfl
  have e1 : (nI h).toInt = h := nI_toInt (by omega)
  have e2 : (-1 : Int32).toInt = -1 := rfl
  rw [e, if_pos (Int32.lt_iff_toInt_lt.mpr (by omega))]
def SS (I : MI) (b : Nat) (t : Tp) (s : St) : Prop := slp I b t s ∧ rkp I b t s
theorem SS.fr {I J : MI} {b : Nat} {t : Tp} {s : St} (h : SS I b t s) (ht : tN t ≤ 6) (fr : ∀ x j, b ≤ x → x < b + 9 → J x j = I x j) : SS J b t s := ⟨slp_fr h.1 ht (fun x j z1 z2 _ => fr x j z1 z2), rkp_fr h.2 (fun j => fr _ j (by omega) (by omega))⟩
theorem SS.cong {I : MI} {b : Nat} {t : Tp} {s u : St} (h : SS I b t s) (e : eqS (tN t) s u) : SS I b t u := ⟨slp_cong h.1 e, rkp_cong h.2 (fun l hl => (e.1 l hl).1)⟩
theorem hrs_succ (t : Tp) (g : Nt) : ∀ (n : Nat) (s : St), hrsS t g (n + 1) s = oneS t g (hrsS t g n s)
  | 0, _ => rfl
  | n + 1, s => by
    show hrsS t g (n + 1) (oneS t g s) = _
    rw [hrs_succ t g n]
    rfl
def rnH (t : Tp) (sun c m : Nat) (s : St) (l : Nat) : Nat := if sR s < sun then ranS t c m s l else 0
theorem sP_hrs {t : Tp} {g : Nt} : ∀ (n : Nat) (s : St), sP (hrsS t g n s) = sP s
  | 0, _ => rfl
  | n + 1, s => by
    show sP (hrsS t g n (oneS t g s)) = _
    rw [sP_hrs n, oneS, sP_hour]
set_option maxHeartbeats 4000000 in
theorem c_X1_ofHour {r : Ev} {n : Nat} {I : MI} {Q : MQ2} (a rw0 : Nat) (g : Nt) (f : Nat → Nat) (h u : Nat) (ho : Ob n 1 a) (ha : Ar n 11 rw0 12) (h3 : I a 3 = nI (nH g)) (hf : ∀ h, h < nH g → I rw0 h = nI (f h)) (hg : nH g ≤ 12) (hh : h < 100000) : CT r 1 yX1_ofHour cX1_ofHour (5, (some .int)) (0, 0) [.ref (evz r + a), .ref (evz r + rw0), .int (nI h), .int (nI u)] n I Q (ri Q (fun v J => J = I ∧ v = nI (ofH g f h u))) := by
  refine ct_of (lv := [some (.ref (evz r + a)), some (.ref (evz r + rw0)), some (.int (nI h)), some (.int (nI u)), none]) (by decide +kernel) rfl rfl rfl ?_
  refine x_iload_2 dX1_ofHour_0 ?_
  refine x_aload_0 dX1_ofHour_1 ?_
  refine x_getV dX1_ofHour_2 f_X1_28 (by assumption) (by assumption) ?_
  refine x_const (c := 1) dX1_ofHour_5 rfl ?_
  rcases Nat.eq_zero_or_pos (nH g) with hz | hz
  · rw [hz]
    refine x_isub dX1_ofHour_6 ?_
    refine x_min dX1_ofHour_7 m_X1_49 ?_
    rw [omin0 (by omega)]
    refine x_istore_4 dX1_ofHour_10 rfl rfl ?_
    refine x_iload_4 dX1_ofHour_12 ?_
    refine x_if_lt dX1_ofHour_14 (fun c14 => ?_) (fun c14 => absurd (by decide) c14)
    refine x_iload_3 dX1_ofHour_24 ?_
    refine x_goto dX1_ofHour_25 ?_
    exact x_iret (st := []) dX1_ofHour_32 rfl rfl (⟨_, rfl, rfl, rfl, by unfold ofH; rw [if_pos hz]⟩)
  refine x_isubN dX1_ofHour_6 (by omega) ?_
  refine x_min dX1_ofHour_7 m_X1_49 ?_
  rw [nmin (by omega) (by omega)]
  refine x_istore_4 dX1_ofHour_10 rfl rfl ?_
  refine x_iload_4 dX1_ofHour_12 ?_
  refine x_if_ltN dX1_ofHour_14 (by omega) (fun c14 => ?_) (fun c14 => ?_)
  · exfalso; omega
  · refine x_iload_4 dX1_ofHour_17 ?_
    refine x_aload_1 dX1_ofHour_19 ?_
    refine x_alen dX1_ofHour_20 ha (by decide) ?_
    refine x_icmp_ltN dX1_ofHour_21 (by omega) (by omega) (fun c21 => ?_) (fun c21 => ?_)
    · refine x_aload_1 dX1_ofHour_28 ?_
      refine x_iload_4 dX1_ofHour_29 ?_
      refine x_ialdV dX1_ofHour_31 ha rfl (by omega) (hf _ (by omega)) ?_
      exact x_iret (st := []) dX1_ofHour_32 rfl rfl (⟨_, rfl, rfl, rfl, by unfold ofH; rw [if_neg (by omega)]; congr 2; split <;> omega⟩)
    · exfalso; omega
set_option maxHeartbeats 4000000 in
theorem c_X1_coldOf {r : Ev} {n : Nat} {I : MI} {Q : MQ2} (a : Nat) (g : Nt) (hb : NtB n Q a) (hg : ntp I a g) (hn : nH g ≤ 12) (h : Nat) (hh : h < 100000) : CT r 2 yX1_coldOf cX1_coldOf (2, (some .int)) (0, 0) [.ref (evz r + a), .int (nI h)] n I Q (ri Q (fun v J => J = I ∧ v = nI (coldF g h))) := by
  refine ct_of (lv := [some (.ref (evz r + a)), some (.int (nI h))]) (by decide +kernel) rfl rfl rfl ?_
  obtain ⟨k1, k2, k3, k4, k5, k6, k7⟩ := id hb
  obtain ⟨q3, q4, q5, q6, q7⟩ := id hg
  refine x_aload_0 dX1_coldOf_0 ?_
  refine x_aload_0 dX1_coldOf_1 ?_
  refine x_getr dX1_coldOf_2 f_X1_18 k1 k6 ?_
  refine x_iload_1 dX1_coldOf_5 ?_
  refine x_const (c := 4) dX1_coldOf_6 rfl ?_
  refine x_V3i dX1_coldOf_7 m_X1_45 (c_X1_ofHour a _ g (nC g) h 4 k1 k3 q3 (fun h hh => (q7 h hh).1) hn hh) k1 (fun x7 I7 h7 => ?_)
  obtain ⟨rfl, rfl⟩ := h7
  exact x_iret (st := []) dX1_coldOf_10 rfl rfl (⟨_, rfl, rfl, rfl, rfl⟩)
set_option maxHeartbeats 4000000 in
theorem c_X1_mistOf {r : Ev} {n : Nat} {I : MI} {Q : MQ2} (a : Nat) (g : Nt) (hb : NtB n Q a) (hg : ntp I a g) (hn : nH g ≤ 12) (h : Nat) (hh : h < 100000) : CT r 2 yX1_mistOf cX1_mistOf (2, (some .int)) (0, 0) [.ref (evz r + a), .int (nI h)] n I Q (ri Q (fun v J => J = I ∧ v = nI (mistF g h))) := by
  refine ct_of (lv := [some (.ref (evz r + a)), some (.int (nI h))]) (by decide +kernel) rfl rfl rfl ?_
  obtain ⟨k1, k2, k3, k4, k5, k6, k7⟩ := id hb
  obtain ⟨q3, q4, q5, q6, q7⟩ := id hg
  refine x_aload_0 dX1_mistOf_0 ?_
  refine x_aload_0 dX1_mistOf_1 ?_
  refine x_getr dX1_mistOf_2 f_X1_22 k1 k7 ?_
  refine x_iload_1 dX1_mistOf_5 ?_
  refine x_const (c := 0) dX1_mistOf_6 rfl ?_
  refine x_V3i dX1_mistOf_7 m_X1_45 (c_X1_ofHour a _ g (nM g) h 0 k1 k4 q3 (fun h hh => (q7 h hh).2) hn hh) k1 (fun x7 I7 h7 => ?_)
  obtain ⟨rfl, rfl⟩ := h7
  exact x_iret (st := []) dX1_mistOf_10 rfl rfl (⟨_, rfl, rfl, rfl, rfl⟩)
theorem SS_tick {I J : MI} {b : Nat} {t : Tp} {s : St} (h : SS I b t s) (ht : tN t ≤ 6) (fr : Fr1 I J b 3) (e : J b 3 = nI (sR s + 1)) : SS J b t (tick s) := by
  obtain ⟨⟨h1, h2, h3, h4⟩, h5⟩ := h
  refine ⟨⟨(fr _ _ (by omega)).trans h1, e, (fr _ _ (by omega)).trans h3, fun l hl => ?_⟩, fun i hi => (fr _ _ (by omega)).trans (h5 i hi)⟩
  obtain ⟨a0, a1, a2, a3, a4, a6⟩ := h4 l hl
  exact ⟨(fr _ _ (by omega)).trans a0, (fr _ _ (by omega)).trans a1, (fr _ _ (by omega)).trans a2, (fr _ _ (by omega)).trans a3, (fr _ _ (by omega)).trans a4, (fr _ _ (by omega)).trans a6⟩
set_option maxHeartbeats 4000000 in
theorem c_X1_goByOne {r : Ev} {n : Nat} {I : MI} {Q : MQ2} (a b : Nat) (t : Tp) (s : St) (g : Nt) (hb : NtB n Q a) (hg : ntp I a g) (hsl : SlB n Q b) (hs : SS I b t s) (ht : okT t) (hk : okS t s) (hdis : a + 12 ≤ b ∨ b + 9 ≤ a) (hgS : nS g ≤ 1000) (hR : sR s ≤ 10000) (cc0 mm : Nat) (hc : cc0 ≤ 9) (hm : mm ≤ 1) : CT r 3 yX1_goByOne cX1_goByOne (4, none) (0, 0) [.ref (evz r + a), .ref (evz r + b), .int (nI cc0), .int (nI mm)] n I Q (rv Q (fun J => FrS I J (FtS b) ∧ SS J b t (hourS t (nS g) cc0 mm s) ∧ ∀ l, l < tN t → J (b + 3 + l) 5 = nI (rnH t (nS g) cc0 mm s l))) := by
  refine ct_of (lv := [some (.ref (evz r + a)), some (.ref (evz r + b)), some (.int (nI cc0)), some (.int (nI mm))]) (by decide +kernel) rfl rfl rfl ?_
  obtain ⟨k1, k2, k3, k4, k5, k6, k7⟩ := id hb
  obtain ⟨q3, q4, q5, q6, q7⟩ := id hg
  refine x_aload_1 dX1_goByOne_0 ?_
  refine x_getV dX1_goByOne_1 f_X1_55 hsl.1 hs.1.2.1 ?_
  refine x_aload_0 dX1_goByOne_4 ?_
  refine x_getV dX1_goByOne_5 f_X1_32 k1 q4 ?_
  refine x_icmp_geN dX1_goByOne_8 (by omega) (by omega) (fun c8 => ?_) (fun c8 => ?_)
  · have c8 : ¬ sR s < nS g := by omega
    refine x_aload_1 dX1_goByOne_20 ?_
    refine x_V0v dX1_goByOne_21 m_X1_73 (c_X5_dry b t s hsl hs.1 hs.2 ht hk) hsl.1 (fun I21 h21 => ?_)
    obtain ⟨qf, qs1, qs2, qr⟩ := h21
    have qs : SS I21 b t (dryS t s) := ⟨qs1, qs2⟩
    have hRR : sR (dryS t s) = sR s := rfl
    have hgoal : hourS t (nS g) cc0 mm s = tick (dryS t s) := congrArg tick (if_neg c8)
    have hrn : ∀ l, rnH t (nS g) cc0 mm s l = 0 := fun l => if_neg c8
    refine x_aload_1 dX1_goByOne_24 ?_
    first | refine x_dup_ref dX1_goByOne_25 ?_ | refine x_dup_int dX1_goByOne_25 ?_
    refine x_getV dX1_goByOne_26 f_X1_55 hsl.1 qs.1.2.1 ?_
    refine x_const (c := 1) dX1_goByOne_29 rfl ?_
    refine x_iaddN dX1_goByOne_30 ?_
    refine x_putA dX1_goByOne_31 f_X1_55 hsl.1 (fun J31 fr31 e31 => ?_)
    exact x_vret (st := []) dX1_goByOne_34 rfl (⟨rfl, rfl, fun x j hx => (fr31 x j (fun z => hx (by unfold FtS; omega))).trans (qf x j hx), by rw [hgoal]; exact SS_tick qs ht.1 fr31 e31, fun l hl => (fr31 _ _ (by omega)).trans (by rw [hrn]; exact qr l hl)⟩)
  · have c8 : sR s < nS g := by omega
    refine x_aload_1 dX1_goByOne_11 ?_
    refine x_iload_2 dX1_goByOne_12 ?_
    refine x_iload_3 dX1_goByOne_13 ?_
    refine x_V2v dX1_goByOne_14 m_X1_69 (c_X5_gather b t s cc0 mm hsl hs.1 hs.2 ht hk hc hm) hsl.1 (fun I14 h14 => ?_)
    obtain ⟨qf, qs1, qs2, qr⟩ := h14
    have qs : SS I14 b t (gatS t cc0 mm s) := ⟨qs1, rkp_cong qs2 (fun l hl => by show sP s l = sP (gth _ _ _ _ _ _).2.1 l; rw [gth_P])⟩
    have hRR : sR (gatS t cc0 mm s) = sR s := gth_R _ _ _ _ _ _
    have hgoal : hourS t (nS g) cc0 mm s = tick (gatS t cc0 mm s) := congrArg tick (if_pos c8)
    have hrn : ∀ l, rnH t (nS g) cc0 mm s l = ranS t cc0 mm s l := fun l => if_pos c8
    refine x_goto dX1_goByOne_17 ?_
    refine x_aload_1 dX1_goByOne_24 ?_
    first | refine x_dup_ref dX1_goByOne_25 ?_ | refine x_dup_int dX1_goByOne_25 ?_
    refine x_getV dX1_goByOne_26 f_X1_55 hsl.1 qs.1.2.1 ?_
    refine x_const (c := 1) dX1_goByOne_29 rfl ?_
    refine x_iaddN dX1_goByOne_30 ?_
    refine x_putA dX1_goByOne_31 f_X1_55 hsl.1 (fun J31 fr31 e31 => ?_)
    exact x_vret (st := []) dX1_goByOne_34 rfl (⟨rfl, rfl, fun x j hx => (fr31 x j (fun z => hx (by unfold FtS; omega))).trans (qf x j hx), by rw [hgoal]; exact SS_tick qs ht.1 fr31 e31, fun l hl => (fr31 _ _ (by omega)).trans (by rw [hrn]; exact qr l hl)⟩)
set_option maxHeartbeats 4000000 in
theorem l_X1_goBy {r : Ev} {n : Nat} {Q : MQ2} {F : Post} {I0 : MI} (a b : Nat) (t : Tp) (s : St) (g : Nt) (hb : NtB n Q a) (hg0 : ntp I0 a g) (hsl : SlB n Q b) (ht : okT t) (hk0 : okS t s) (hdis : a + 12 ≤ b ∨ b + 9 ≤ a) (hgS : nS g ≤ 1000) (hG : okN g) (m : Nat) (hR : sR s + m ≤ 9000) (hF : ∀ J, FrS I0 J (FtS b) → SS J b t (hrsS t g m s) → (0 < m → ∀ l, l < tN t → J (b + 3 + l) 5 = nI (rnH t (nS g) (coldF g (sR (hrsS t g (m - 1) s))) (mistF g (sR (hrsS t g (m - 1) s))) (hrsS t g (m - 1) s) l)) → F none J Q) : ∀ (k : Nat) (i : Nat) (I : MI), i ≤ m → i + k = m + 1 → SS I b t (hrsS t g i s) → FrS I0 I (FtS b) → (0 < i → ∀ l, l < tN t → I (b + 3 + l) 5 = nI (rnH t (nS g) (coldF g (sR (hrsS t g (i - 1) s))) (mistF g (sR (hrsS t g (i - 1) s))) (hrsS t g (i - 1) s) l)) → X r 4 yX1_goBy cX1_goBy (4, none) (0, 0) 2 [some (.ref (evz r + a)), some (.ref (evz r + b)), some (.int (nI m)), some (.int (nI i))] [] n I Q F := by
  intro k
  induction k with
  | zero => intros; omega
  | succ k ih =>
    intro i I hi0 hi hs hfr hrn
    obtain ⟨k1, k2, k3, k4, k5, k6, k7⟩ := id hb
    refine x_iload_3 dX1_goBy_2 ?_
    refine x_iload_2 dX1_goBy_3 ?_
    refine x_icmp_geN dX1_goBy_4 (by omega) (by omega) (fun c4 => ?_) (fun c4 => ?_)
    · obtain rfl : i = m := (by omega)
      exact x_vret (st := []) dX1_goBy_34 rfl (hF _ hfr hs hrn)
    · have hg : ntp I a g := ntp_fr hg0 (fun x j hx => hfr x j (by unfold FtS; omega))
      have hk : okS t (hrsS t g i s) := okS_hrs hk0
      refine x_aload_0 dX1_goBy_7 ?_
      refine x_aload_1 dX1_goBy_8 ?_
      refine x_aload_0 dX1_goBy_9 ?_
      refine x_aload_1 dX1_goBy_10 ?_
      refine x_getV dX1_goBy_11 f_X1_55 hsl.1 hs.1.2.1 ?_
      refine x_V1i dX1_goBy_14 m_X1_58 (c_X1_coldOf a g hb hg hG.1 _ (by rw [sR_hrs]; omega)) k1 (fun x14 I14 h14 => ?_)
      obtain ⟨rfl, rfl⟩ := h14
      refine x_aload_0 dX1_goBy_17 ?_
      refine x_aload_1 dX1_goBy_18 ?_
      refine x_getV dX1_goBy_19 f_X1_55 hsl.1 hs.1.2.1 ?_
      refine x_V1i dX1_goBy_22 m_X1_62 (c_X1_mistOf a g hb hg hG.1 _ (by rw [sR_hrs]; omega)) k1 (fun x22 I22 h22 => ?_)
      obtain ⟨rfl, rfl⟩ := h22
      refine x_V3v dX1_goBy_25 m_X1_65 (c_X1_goByOne a b t (hrsS t g i s) g hb hg hsl hs ht hk hdis hgS (by rw [sR_hrs]; omega) _ _ (cold_le hG _) (mist_le hG _)) k1 (fun I25 h25 => ?_)
      obtain ⟨qf, qs, qr⟩ := h25
      refine x_iinc_3 dX1_goBy_28 (iinc1 _) rfl rfl ?_
      refine x_goto dX1_goBy_31 ?_
      exact ih (i + 1) _ (by omega) (by omega) (by rw [hrs_succ]; exact qs) (fun x j hx => (qf x j hx).trans (hfr x j hx)) (fun _ => qr)
set_option maxHeartbeats 4000000 in
theorem c_X1_goBy {r : Ev} {n : Nat} {I : MI} {Q : MQ2} (a b : Nat) (t : Tp) (s : St) (g : Nt) (hb : NtB n Q a) (hg : ntp I a g) (hsl : SlB n Q b) (hs : SS I b t s) (ht : okT t) (hk : okS t s) (hdis : a + 12 ≤ b ∨ b + 9 ≤ a) (hgS : nS g ≤ 1000) (hG : okN g) (m : Nat) (hR : sR s + m ≤ 9000) : CT r 4 yX1_goBy cX1_goBy (4, none) (0, 0) [.ref (evz r + a), .ref (evz r + b), .int (nI m)] n I Q (rv Q (fun J => FrS I J (FtS b) ∧ SS J b t (hrsS t g m s) ∧ (0 < m → ∀ l, l < tN t → J (b + 3 + l) 5 = nI (rnH t (nS g) (coldF g (sR (hrsS t g (m - 1) s))) (mistF g (sR (hrsS t g (m - 1) s))) (hrsS t g (m - 1) s) l)))) := by
  refine ct_of (lv := [some (.ref (evz r + a)), some (.ref (evz r + b)), some (.int (nI m)), none]) (by decide +kernel) rfl rfl rfl ?_
  refine x_const (c := 0) dX1_goBy_0 rfl ?_
  refine x_istore_3 dX1_goBy_1 rfl rfl ?_
  exact l_X1_goBy a b t s g hb hg hsl ht hk hdis hgS hG m hR (fun J q1 q2 q3 => ⟨rfl, rfl, q1, q2, q3⟩) (m + 1) 0 _ (by omega) (by omega) hs (fun _ _ _ => rfl) (fun z => absurd z (Nat.lt_irrefl 0))
def g00 : Nt := (0, fun _ => 0, fun _ => 0, 6, 9, 6)
def addH (g : Nt) (c m : Nat) : Nt := (nH g + 1, nup (nC g) (nH g) c, nup (nM g) (nH g) m, nS g, nB g, nY g)
def setSun (g : Nt) (x : Nat) : Nt := (nH g, nC g, nM g, x, nB g, nY g)
def setSel (g : Nt) (x : Nat) : Nt := (nH g, nC g, nM g, nS g, x, nY g)
def setYrd (g : Nt) (x : Nat) : Nt := (nH g, nC g, nM g, nS g, nB g, x)
def t00 : Tp := (0, fun _ => 0, fun _ => 0)
def s00 : St := (fun _ => 0, fun _ => 0, fun _ => 0, fun _ => 0, 0, 0)
set_option maxHeartbeats 4000000 in
theorem c_X1_clear {r : Ev} {n : Nat} {I : MI} {Q : MQ2} (a : Nat) (hb : NtB n Q a) : CT r 1 yX1_clear cX1_clear (1, none) (0, 0) [.ref (evz r + a)] n I Q (rv Q (fun J => FrS I J (fun x _ => x = a ∨ x = a + 1) ∧ ntp J a g00 ∧ SS J (a + 1) t00 s00)) := by
  refine ct_of (lv := [some (.ref (evz r + a))]) (by decide +kernel) rfl rfl rfl ?_
  obtain ⟨k1, k2, k3, k4, k5, k6, k7⟩ := id hb
  refine x_aload_0 dX1_clear_0 ?_
  refine x_getr dX1_clear_1 f_X1_12 k1 k5 ?_
  refine x_V0v dX1_clear_4 m_X1_25 (c_X5_clear (a + 1) k2.1) k2.1 (fun I4 h4 => ?_)
  obtain ⟨qf, q2, q3, q4⟩ := h4
  refine x_aload_0 dX1_clear_7 ?_
  refine x_const (c := 0) dX1_clear_8 rfl ?_
  refine x_putA dX1_clear_9 f_X1_28 k1 (fun J9 fr9 e9 => ?_)
  refine x_aload_0 dX1_clear_12 ?_
  refine x_bip (c := 6) dX1_clear_13 (by decide) ?_
  refine x_putA dX1_clear_15 f_X1_32 k1 (fun J15 fr15 e15 => ?_)
  have e9_p15 := (fr15 (a) (3) (by omega)).trans e9
  refine x_aload_0 dX1_clear_18 ?_
  refine x_bip (c := 9) dX1_clear_19 (by decide) ?_
  refine x_putA dX1_clear_21 f_X1_35 k1 (fun J21 fr21 e21 => ?_)
  have e9_p21 := (fr21 (a) (3) (by omega)).trans e9_p15
  have e15_p21 := (fr21 (a) (4) (by omega)).trans e15
  refine x_aload_0 dX1_clear_24 ?_
  refine x_bip (c := 6) dX1_clear_25 (by decide) ?_
  refine x_putA dX1_clear_27 f_X1_38 k1 (fun J27 fr27 e27 => ?_)
  have e9_p27 := (fr27 (a) (3) (by omega)).trans e9_p21
  have e15_p27 := (fr27 (a) (4) (by omega)).trans e15_p21
  have e21_p27 := (fr27 (a) (5) (by omega)).trans e21
  exact x_vret (st := []) dX1_clear_30 rfl (⟨rfl, rfl, fun x j hx => (fr27 x j (by omega)).trans ((fr21 x j (by omega)).trans ((fr15 x j (by omega)).trans ((fr9 x j (by omega)).trans (qf x j (by omega))))), ⟨by assumption, by assumption, by assumption, by assumption, fun h hh => absurd hh (Nat.not_lt_zero h)⟩, ⟨((fr27 _ _ (by omega)).trans ((fr21 _ _ (by omega)).trans ((fr15 _ _ (by omega)).trans (fr9 _ _ (by omega))))).trans q2, ((fr27 _ _ (by omega)).trans ((fr21 _ _ (by omega)).trans ((fr15 _ _ (by omega)).trans (fr9 _ _ (by omega))))).trans q3, ((fr27 _ _ (by omega)).trans ((fr21 _ _ (by omega)).trans ((fr15 _ _ (by omega)).trans (fr9 _ _ (by omega))))).trans q4, fun l hl => absurd hl (Nat.not_lt_zero l)⟩, fun l hl => absurd hl (Nat.not_lt_zero l)⟩)
set_option maxHeartbeats 4000000 in
theorem c_X1_tellSun {r : Ev} {n : Nat} {I : MI} {Q : MQ2} (a : Nat) (g : Nt) (hb : NtB n Q a) (hg : ntp I a g) (x : Nat) (hx : x < 1000) : CT r 1 yX1_tellSun cX1_tellSun (2, (some .boolean)) (0, 0) [.ref (evz r + a), .int (nI x)] n I Q (ri Q (fun v J => FrS I J (fun y j => y = a ∧ j = 4) ∧ ntp J a (setSun g x) ∧ ((v = nI 1 ∧ 0 ≤ x ∧ x ≤ 20) ∨ (v = nI 0 ∧ ¬ (0 ≤ x ∧ x ≤ 20))))) := by
  refine ct_of (lv := [some (.ref (evz r + a)), some (.int (nI x))]) (by decide +kernel) rfl rfl rfl ?_
  obtain ⟨k1, k2, k3, k4, k5, k6, k7⟩ := id hb
  obtain ⟨q3, q4, q5, q6, q7⟩ := id hg
  refine x_aload_0 dX1_tellSun_0 ?_
  refine x_iload_1 dX1_tellSun_1 ?_
  refine x_putA dX1_tellSun_2 f_X1_32 k1 (fun J2 fr2 e2 => ?_)
  have q3_p2 := (fr2 (a) (3) (by omega)).trans q3
  have q5_p2 := (fr2 (a) (5) (by omega)).trans q5
  have q6_p2 := (fr2 (a) (6) (by omega)).trans q6
  refine x_iload_1 dX1_tellSun_5 ?_
  refine x_const (c := 0) dX1_tellSun_6 rfl ?_
  refine x_bip (c := 20) dX1_tellSun_7 (by decide) ?_
  refine x_S3i dX1_tellSun_9 m_X1_41 (c_isOutN x 0 20 (by omega) (by omega) (by omega)) (fun x9 I9 h9 => ?_)
  obtain ⟨rfl, ⟨rfl, h9⟩ | ⟨rfl, h9⟩⟩ := h9
  · refine x_if_neN dX1_tellSun_12 (by omega) (fun c12 => ?_) (fun c12 => ?_)
    · refine x_const (c := 0) dX1_tellSun_19 rfl ?_
      exact x_iret (st := []) dX1_tellSun_20 rfl rfl (⟨_, rfl, rfl, fun y j hy => fr2 y j (by omega), ⟨by assumption, by assumption, by assumption, by assumption, fun h hh => ⟨(fr2 _ _ (by omega)).trans (q7 h hh).1, (fr2 _ _ (by omega)).trans (q7 h hh).2⟩⟩, by first | exact Or.inl ⟨rfl, by omega⟩ | exact Or.inr ⟨rfl, by omega⟩⟩)
    · exfalso; omega
  · refine x_if_neN dX1_tellSun_12 (by omega) (fun c12 => ?_) (fun c12 => ?_)
    · exfalso; omega
    · refine x_const (c := 1) dX1_tellSun_15 rfl ?_
      refine x_goto dX1_tellSun_16 ?_
      exact x_iret (st := []) dX1_tellSun_20 rfl rfl (⟨_, rfl, rfl, fun y j hy => fr2 y j (by omega), ⟨by assumption, by assumption, by assumption, by assumption, fun h hh => ⟨(fr2 _ _ (by omega)).trans (q7 h hh).1, (fr2 _ _ (by omega)).trans (q7 h hh).2⟩⟩, by first | exact Or.inl ⟨rfl, by omega⟩ | exact Or.inr ⟨rfl, by omega⟩⟩)
set_option maxHeartbeats 4000000 in
theorem c_X1_tellMerchants {r : Ev} {n : Nat} {I : MI} {Q : MQ2} (a : Nat) (g : Nt) (hb : NtB n Q a) (hg : ntp I a g) (x : Nat) (hx : x < 1000) : CT r 1 yX1_tellMerchants cX1_tellMerchants (2, (some .boolean)) (0, 0) [.ref (evz r + a), .int (nI x)] n I Q (ri Q (fun v J => FrS I J (fun y j => y = a ∧ j = 5) ∧ ntp J a (setSel g x) ∧ ((v = nI 1 ∧ 1 ≤ x ∧ x ≤ 24) ∨ (v = nI 0 ∧ ¬ (1 ≤ x ∧ x ≤ 24))))) := by
  refine ct_of (lv := [some (.ref (evz r + a)), some (.int (nI x))]) (by decide +kernel) rfl rfl rfl ?_
  obtain ⟨k1, k2, k3, k4, k5, k6, k7⟩ := id hb
  obtain ⟨q3, q4, q5, q6, q7⟩ := id hg
  refine x_aload_0 dX1_tellMerchants_0 ?_
  refine x_iload_1 dX1_tellMerchants_1 ?_
  refine x_putA dX1_tellMerchants_2 f_X1_35 k1 (fun J2 fr2 e2 => ?_)
  have q3_p2 := (fr2 (a) (3) (by omega)).trans q3
  have q4_p2 := (fr2 (a) (4) (by omega)).trans q4
  have q6_p2 := (fr2 (a) (6) (by omega)).trans q6
  refine x_iload_1 dX1_tellMerchants_5 ?_
  refine x_const (c := 1) dX1_tellMerchants_6 rfl ?_
  refine x_bip (c := 24) dX1_tellMerchants_7 (by decide) ?_
  refine x_S3i dX1_tellMerchants_9 m_X1_41 (c_isOutN x 1 24 (by omega) (by omega) (by omega)) (fun x9 I9 h9 => ?_)
  obtain ⟨rfl, ⟨rfl, h9⟩ | ⟨rfl, h9⟩⟩ := h9
  · refine x_if_neN dX1_tellMerchants_12 (by omega) (fun c12 => ?_) (fun c12 => ?_)
    · refine x_const (c := 0) dX1_tellMerchants_19 rfl ?_
      exact x_iret (st := []) dX1_tellMerchants_20 rfl rfl (⟨_, rfl, rfl, fun y j hy => fr2 y j (by omega), ⟨by assumption, by assumption, by assumption, by assumption, fun h hh => ⟨(fr2 _ _ (by omega)).trans (q7 h hh).1, (fr2 _ _ (by omega)).trans (q7 h hh).2⟩⟩, by first | exact Or.inl ⟨rfl, by omega⟩ | exact Or.inr ⟨rfl, by omega⟩⟩)
    · exfalso; omega
  · refine x_if_neN dX1_tellMerchants_12 (by omega) (fun c12 => ?_) (fun c12 => ?_)
    · exfalso; omega
    · refine x_const (c := 1) dX1_tellMerchants_15 rfl ?_
      refine x_goto dX1_tellMerchants_16 ?_
      exact x_iret (st := []) dX1_tellMerchants_20 rfl rfl (⟨_, rfl, rfl, fun y j hy => fr2 y j (by omega), ⟨by assumption, by assumption, by assumption, by assumption, fun h hh => ⟨(fr2 _ _ (by omega)).trans (q7 h hh).1, (fr2 _ _ (by omega)).trans (q7 h hh).2⟩⟩, by first | exact Or.inl ⟨rfl, by omega⟩ | exact Or.inr ⟨rfl, by omega⟩⟩)
set_option maxHeartbeats 4000000 in
theorem c_X1_tellYard {r : Ev} {n : Nat} {I : MI} {Q : MQ2} (a : Nat) (g : Nt) (hb : NtB n Q a) (hg : ntp I a g) (x : Nat) (hx : x < 1000) : CT r 1 yX1_tellYard cX1_tellYard (2, (some .boolean)) (0, 0) [.ref (evz r + a), .int (nI x)] n I Q (ri Q (fun v J => FrS I J (fun y j => y = a ∧ j = 6) ∧ ntp J a (setYrd g x) ∧ ((v = nI 1 ∧ 1 ≤ x ∧ x ≤ 27) ∨ (v = nI 0 ∧ ¬ (1 ≤ x ∧ x ≤ 27))))) := by
  refine ct_of (lv := [some (.ref (evz r + a)), some (.int (nI x))]) (by decide +kernel) rfl rfl rfl ?_
  obtain ⟨k1, k2, k3, k4, k5, k6, k7⟩ := id hb
  obtain ⟨q3, q4, q5, q6, q7⟩ := id hg
  refine x_aload_0 dX1_tellYard_0 ?_
  refine x_iload_1 dX1_tellYard_1 ?_
  refine x_putA dX1_tellYard_2 f_X1_38 k1 (fun J2 fr2 e2 => ?_)
  have q3_p2 := (fr2 (a) (3) (by omega)).trans q3
  have q4_p2 := (fr2 (a) (4) (by omega)).trans q4
  have q5_p2 := (fr2 (a) (5) (by omega)).trans q5
  refine x_iload_1 dX1_tellYard_5 ?_
  refine x_const (c := 1) dX1_tellYard_6 rfl ?_
  refine x_bip (c := 27) dX1_tellYard_7 (by decide) ?_
  refine x_S3i dX1_tellYard_9 m_X1_41 (c_isOutN x 1 27 (by omega) (by omega) (by omega)) (fun x9 I9 h9 => ?_)
  obtain ⟨rfl, ⟨rfl, h9⟩ | ⟨rfl, h9⟩⟩ := h9
  · refine x_if_neN dX1_tellYard_12 (by omega) (fun c12 => ?_) (fun c12 => ?_)
    · refine x_const (c := 0) dX1_tellYard_19 rfl ?_
      exact x_iret (st := []) dX1_tellYard_20 rfl rfl (⟨_, rfl, rfl, fun y j hy => fr2 y j (by omega), ⟨by assumption, by assumption, by assumption, by assumption, fun h hh => ⟨(fr2 _ _ (by omega)).trans (q7 h hh).1, (fr2 _ _ (by omega)).trans (q7 h hh).2⟩⟩, by first | exact Or.inl ⟨rfl, by omega⟩ | exact Or.inr ⟨rfl, by omega⟩⟩)
    · exfalso; omega
  · refine x_if_neN dX1_tellYard_12 (by omega) (fun c12 => ?_) (fun c12 => ?_)
    · exfalso; omega
    · refine x_const (c := 1) dX1_tellYard_15 rfl ?_
      refine x_goto dX1_tellYard_16 ?_
      exact x_iret (st := []) dX1_tellYard_20 rfl rfl (⟨_, rfl, rfl, fun y j hy => fr2 y j (by omega), ⟨by assumption, by assumption, by assumption, by assumption, fun h hh => ⟨(fr2 _ _ (by omega)).trans (q7 h hh).1, (fr2 _ _ (by omega)).trans (q7 h hh).2⟩⟩, by first | exact Or.inl ⟨rfl, by omega⟩ | exact Or.inr ⟨rfl, by omega⟩⟩)
theorem addH_ok {I J1 J2 J3 : MI} {a : Nat} {g : Nt} {x y : Nat} (q7 : ∀ h, h < nH g → I (a + 10) h = nI (nC g h) ∧ I (a + 11) h = nI (nM g h)) (f1 : Fr1 I J1 (a + 10) (nH g)) (e1 : J1 (a + 10) (nH g) = nI x) (f2 : Fr1 J1 J2 (a + 11) (nH g)) (e2 : J2 (a + 11) (nH g) = nI y) (f3 : Fr1 J2 J3 a 3) (e3 : J3 a 3 = nI (nH g + 1)) (e4 : J3 a 4 = nI (nS g)) (e5 : J3 a 5 = nI (nB g)) (e6 : J3 a 6 = nI (nY g)) : ntp J3 a (addH g x y) := by
  refine ⟨e3, e4, e5, e6, fun h hh => ?_⟩
  have hh : h < nH g + 1 := hh
  show J3 (a + 10) h = nI (nup (nC g) (nH g) x h) ∧ J3 (a + 11) h = nI (nup (nM g) (nH g) y h)
  rw [f3 _ _ (by omega), f3 _ _ (by omega), f2 (a + 10) _ (by omega)]
  by_cases e : h = nH g
  · subst e
    rw [nup_s, nup_s]
    exact ⟨e1, e2⟩
  · rw [nup_n e, nup_n e, f2 _ _ (by omega), f1 _ _ (by omega), f1 _ _ (by omega)]
    exact q7 h (by omega)
set_option maxHeartbeats 4000000 in
theorem c_X1_addHour {r : Ev} {n : Nat} {I : MI} {Q : MQ2} (a : Nat) (g : Nt) (hb : NtB n Q a) (hg : ntp I a g) (hn : nH g ≤ 12) (x y : Nat) (hx : x < 1000) (hy : y < 1000) : CT r 1 yX1_addHour cX1_addHour (3, (some .boolean)) (0, 0) [.ref (evz r + a), .int (nI x), .int (nI y)] n I Q (ri Q (fun v J => (v = nI 1 ∧ (nH g < 12 ∧ x ≤ 9 ∧ y ≤ 1) ∧ FrS I J (fun z _ => z = a ∨ z = a + 10 ∨ z = a + 11) ∧ ntp J a (addH g x y)) ∨ (v = nI 0 ∧ ¬ (nH g < 12 ∧ x ≤ 9 ∧ y ≤ 1) ∧ J = I))) := by
  refine ct_of (lv := [some (.ref (evz r + a)), some (.int (nI x)), some (.int (nI y))]) (by decide +kernel) rfl rfl rfl ?_
  obtain ⟨k1, k2, k3, k4, k5, k6, k7⟩ := id hb
  obtain ⟨q3, q4, q5, q6, q7⟩ := id hg
  refine x_aload_0 dX1_addHour_0 ?_
  refine x_getV dX1_addHour_1 f_X1_28 k1 (by assumption) ?_
  refine x_const (c := 0) dX1_addHour_4 rfl ?_
  refine x_bip (c := 11) dX1_addHour_5 (by decide) ?_
  refine x_S3i dX1_addHour_7 m_X1_41 (c_isOutN (nH g) 0 11 (by omega) (by omega) (by omega)) (fun x7 I7 h7 => ?_)
  obtain ⟨rfl, ⟨rfl, h7⟩ | ⟨rfl, h7⟩⟩ := h7
  · refine x_if_neN dX1_addHour_10 (by omega) (fun c10 => ?_) (fun c10 => ?_)
    · refine x_const (c := 0) dX1_addHour_32 rfl ?_
      exact x_iret (st := []) dX1_addHour_33 rfl rfl (⟨_, rfl, rfl, Or.inr ⟨rfl, by omega, rfl⟩⟩)
    · exfalso; omega
  · refine x_if_neN dX1_addHour_10 (by omega) (fun c10 => ?_) (fun c10 => ?_)
    · exfalso; omega
    · refine x_iload_1 dX1_addHour_13 ?_
      refine x_const (c := 0) dX1_addHour_14 rfl ?_
      refine x_bip (c := 9) dX1_addHour_15 (by decide) ?_
      refine x_S3i dX1_addHour_17 m_X1_41 (c_isOutN x 0 9 (by omega) (by omega) (by omega)) (fun x17 I17 h17 => ?_)
      obtain ⟨rfl, ⟨rfl, h17⟩ | ⟨rfl, h17⟩⟩ := h17
      · refine x_if_neN dX1_addHour_20 (by omega) (fun c20 => ?_) (fun c20 => ?_)
        · refine x_const (c := 0) dX1_addHour_32 rfl ?_
          exact x_iret (st := []) dX1_addHour_33 rfl rfl (⟨_, rfl, rfl, Or.inr ⟨rfl, by omega, rfl⟩⟩)
        · exfalso; omega
      · refine x_if_neN dX1_addHour_20 (by omega) (fun c20 => ?_) (fun c20 => ?_)
        · exfalso; omega
        · refine x_iload_2 dX1_addHour_23 ?_
          refine x_const (c := 0) dX1_addHour_24 rfl ?_
          refine x_const (c := 1) dX1_addHour_25 rfl ?_
          refine x_S3i dX1_addHour_26 m_X1_41 (c_isOutN y 0 1 (by omega) (by omega) (by omega)) (fun x26 I26 h26 => ?_)
          obtain ⟨rfl, ⟨rfl, h26⟩ | ⟨rfl, h26⟩⟩ := h26
          · refine x_if_eqN dX1_addHour_29 (by omega) (fun c29 => ?_) (fun c29 => ?_)
            · exfalso; omega
            · refine x_const (c := 0) dX1_addHour_32 rfl ?_
              exact x_iret (st := []) dX1_addHour_33 rfl rfl (⟨_, rfl, rfl, Or.inr ⟨rfl, by omega, rfl⟩⟩)
          · refine x_if_eqN dX1_addHour_29 (by omega) (fun c29 => ?_) (fun c29 => ?_)
            · refine x_aload_0 dX1_addHour_34 ?_
              refine x_getr dX1_addHour_35 f_X1_18 k1 k6 ?_
              refine x_aload_0 dX1_addHour_38 ?_
              refine x_getV dX1_addHour_39 f_X1_28 k1 (by assumption) ?_
              refine x_iload_1 dX1_addHour_42 ?_
              refine x_iastA dX1_addHour_43 k3 rfl (by omega) (fun J43 fr43 e43 => ?_)
              have q3_p43 := (fr43 (a) (3) (by omega)).trans q3
              have q4_p43 := (fr43 (a) (4) (by omega)).trans q4
              have q5_p43 := (fr43 (a) (5) (by omega)).trans q5
              have q6_p43 := (fr43 (a) (6) (by omega)).trans q6
              refine x_aload_0 dX1_addHour_44 ?_
              refine x_getr dX1_addHour_45 f_X1_22 k1 k7 ?_
              refine x_aload_0 dX1_addHour_48 ?_
              refine x_getV dX1_addHour_49 f_X1_28 k1 (by assumption) ?_
              refine x_iload_2 dX1_addHour_52 ?_
              refine x_iastA dX1_addHour_53 k4 rfl (by omega) (fun J53 fr53 e53 => ?_)
              have q3_p53 := (fr53 (a) (3) (by omega)).trans q3_p43
              have q4_p53 := (fr53 (a) (4) (by omega)).trans q4_p43
              have q5_p53 := (fr53 (a) (5) (by omega)).trans q5_p43
              have q6_p53 := (fr53 (a) (6) (by omega)).trans q6_p43
              refine x_aload_0 dX1_addHour_54 ?_
              first | refine x_dup_ref dX1_addHour_55 ?_ | refine x_dup_int dX1_addHour_55 ?_
              refine x_getV dX1_addHour_56 f_X1_28 k1 (by assumption) ?_
              refine x_const (c := 1) dX1_addHour_59 rfl ?_
              refine x_iaddN dX1_addHour_60 ?_
              refine x_putA dX1_addHour_61 f_X1_28 k1 (fun J61 fr61 e61 => ?_)
              have q4_p61 := (fr61 (a) (4) (by omega)).trans q4_p53
              have q5_p61 := (fr61 (a) (5) (by omega)).trans q5_p53
              have q6_p61 := (fr61 (a) (6) (by omega)).trans q6_p53
              refine x_const (c := 1) dX1_addHour_64 rfl ?_
              exact x_iret (st := []) dX1_addHour_65 rfl rfl (⟨_, rfl, rfl, Or.inl ⟨rfl, ⟨by omega, by omega, by omega⟩, fun z j hz => (fr61 z j (by omega)).trans ((fr53 z j (by omega)).trans (fr43 z j (by omega))), addH_ok q7 fr43 e43 fr53 e53 fr61 e61 (by assumption) (by assumption) (by assumption)⟩⟩)
            · exfalso; omega
