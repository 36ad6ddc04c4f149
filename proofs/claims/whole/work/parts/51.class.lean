/-! ===== DewLooms: the object is cell 0 ===== -/
def CWB (n : Nat) (Q : MQ2) (na nb : Nat) (p1 p2 : Nat → Nat) : Prop := Ob n 8 0 ∧ TxB n Q 1 ∧ RdB n Q 3 ∧ SlB n Q 5 ∧ SlB n Q 14 ∧ PlB n Q 23 8 p1 ∧ PlB n Q 97 2 p2 ∧ SgB n Q 117 ∧ WyB n Q 121 ∧ NtB n Q na ∧ NtB n Q nb ∧ ((na = 124 ∧ nb = 136) ∨ (na = 136 ∧ nb = 124)) ∧ Q 0 0 = some 1 ∧ Q 0 1 = some 3 ∧ Q 0 2 = some 5 ∧ Q 0 3 = some 14 ∧ Q 0 4 = some 23 ∧ Q 0 5 = some 97 ∧ Q 0 6 = some 117 ∧ Q 0 7 = some 121 ∧ Q 0 8 = some na ∧ Q 0 9 = some nb
def CWI (I : MI) (na : Nat) (p1 p2 : Nat → Nat) (S : Sy) : Prop := txp I 1 (yM S) (yT S) ∧ SS I 5 (yt S) (ys S) ∧ plp I 23 p1 (yt S) (yan S) (yav S) ∧ plp I 97 p2 (yt S) (ykn S) (ykv S) ∧ sgp I 117 (yG S) ∧ ntp I na (yg S)
def CW (n : Nat) (I : MI) (Q : MQ2) (S : Sy) : Prop := ∃ na nb p1 p2, CWB n Q na nb p1 p2 ∧ CWI I na p1 p2 S
def FrW (I : MI) (Q : MQ2) (J : MI) (Q' : MQ2) : Prop := ∀ x, 148 ≤ x → ∀ j, J x j = I x j ∧ Q' x j = Q x j
def Qry (nb x : Nat) : Prop := x = 3 ∨ x = 4 ∨ (14 ≤ x ∧ x < 23) ∨ (121 ≤ x ∧ x < 124) ∨ (nb ≤ x ∧ x < nb + 12)
theorem plp_fr {I J : MI} {a L : Nat} {pr : Nat → Nat} {t : Tp} {m : Nat} {v : Nat → St} (h : plp I a pr t m v) (hm : m ≤ L) (hpr : ∀ i, i < L → pr i < L) (hn : tN t ≤ 6) (f : ∀ x j, a ≤ x → x < a + 2 + 9 * L → J x j = I x j) : plp J a pr t m v :=
  ⟨(f _ _ (by omega) (by omega)).trans h.1, fun i hi => (h.2 i hi).fr hn (fun x j z1 z2 => f x j (by omega) (by have := hpr i (by omega); omega))⟩
theorem CWI.fr {n : Nat} {I J : MI} {Q : MQ2} {na nb : Nat} {p1 p2 : Nat → Nat} {S : Sy} (hB : CWB n Q na nb p1 p2) (h : CWI I na p1 p2 S) (hn : tN (yt S) ≤ 6) (h8 : yan S ≤ 8) (h2 : ykn S ≤ 2) (f : FrS I J (fun x _ => Qry nb x)) : CWI J na p1 p2 S := by
  obtain ⟨ct, cs, ca, ck, cg, cn⟩ := h
  obtain ⟨o0, oT, oR, oN, oL, oA, oK, oG, oW, oX, oD, hnn, -⟩ := hB
  refine ⟨txp_fr ct (fun x j hx => f x j (by unfold Qry; omega)), cs.fr hn (fun x j z1 z2 => f x j (by unfold Qry; omega)), plp_fr ca h8 (fun i hi => (oA.2.2.2.1 i hi).1) hn (fun x j z1 z2 => f x j (by unfold Qry; omega)), plp_fr ck h2 (fun i hi => (oK.2.2.2.1 i hi).1) hn (fun x j z1 z2 => f x j (by unfold Qry; omega)), sgp_fr cg (fun x j z1 z2 => f x j (by unfold Qry; omega)), ntp_fr cn (fun x j hx => f x j (by unfold Qry; omega))⟩
theorem PlB.same {n : Nat} {Q Q' : MQ2} {a L : Nat} {pr : Nat → Nat} (h : PlB n Q a L pr) (f : ∀ x j, a ≤ x → x < a + 2 + 9 * L → Q' x j = Q x j) : PlB n Q' a L pr := by
  obtain ⟨h1, h2, h3, h4, h5, h6⟩ := h
  exact ⟨h1, h2, (f _ _ (by omega) (by omega)).trans h3, fun i hi => ⟨(h4 i hi).1, (f _ _ (by omega) (by omega)).trans (h4 i hi).2⟩, h5, fun k hk => (h6 k hk).q (fun j => f _ _ (by omega) (by omega)) (fun j => f _ _ (by omega) (by omega))⟩
theorem NtB.same {n : Nat} {Q Q' : MQ2} {a : Nat} (h : NtB n Q a) (f : ∀ x j, a ≤ x → x < a + 12 → Q' x j = Q x j) : NtB n Q' a := by
  obtain ⟨h1, h2, h3, h4, h5, h6, h7⟩ := h
  exact ⟨h1, h2.q (fun j => f _ _ (by omega) (by omega)) (fun j => f _ _ (by omega) (by omega)), h3, h4, (f _ _ (by omega) (by omega)).trans h5, (f _ _ (by omega) (by omega)).trans h6, (f _ _ (by omega) (by omega)).trans h7⟩
theorem CWB.put {n : Nat} {Q Q' : MQ2} {na nb : Nat} {p1 p2 pr : Nat → Nat} (hB : CWB n Q na nb p1 p2) (k : Nat) (f : FrQ Q Q' k) (hk : k = 24 ∨ k = 98) : (k = 24 → PlB n Q' 23 8 pr → CWB n Q' na nb pr p2) ∧ (k = 98 → PlB n Q' 97 2 pr → CWB n Q' na nb p1 pr) := by
  obtain ⟨o0, oT, oR, oN, oL, oA, oK, oG, oW, oX, oD, hnn, u0, u1, u2, u3, u4, u5, u6, u7, u8, u9⟩ := hB
  have g : ∀ x j, x ≠ 24 → x ≠ 98 → Q' x j = Q x j := fun x j h1 h2 => f x (by omega) j
  have c1 : TxB n Q' 1 := ⟨oT.1, oT.2.1, (g _ _ (by omega) (by omega)).trans oT.2.2⟩
  have c2 : RdB n Q' 3 := ⟨oR.1, oR.2.1, (g _ _ (by omega) (by omega)).trans oR.2.2⟩
  have c3 : SlB n Q' 5 := oN.q (fun j => g _ _ (by omega) (by omega)) (fun j => g _ _ (by omega) (by omega))
  have c4 : SlB n Q' 14 := oL.q (fun j => g _ _ (by omega) (by omega)) (fun j => g _ _ (by omega) (by omega))
  have c5 : SgB n Q' 117 := ⟨oG.1, oG.2.1, oG.2.2.1, oG.2.2.2.1, (g _ _ (by omega) (by omega)).trans oG.2.2.2.2.1, (g _ _ (by omega) (by omega)).trans oG.2.2.2.2.2.1, (g _ _ (by omega) (by omega)).trans oG.2.2.2.2.2.2⟩
  have c6 : WyB n Q' 121 := ⟨oW.1, oW.2.1, oW.2.2.1, (g _ _ (by omega) (by omega)).trans oW.2.2.2.1, (g _ _ (by omega) (by omega)).trans oW.2.2.2.2⟩
  have c7 : NtB n Q' na := oX.same (fun x j z1 z2 => g _ _ (by omega) (by omega))
  have c8 : NtB n Q' nb := oD.same (fun x j z1 z2 => g _ _ (by omega) (by omega))
  have gu : ∀ j, Q' 0 j = Q 0 j := fun j => g _ _ (by omega) (by omega)
  refine ⟨fun hk1 hP => ?_, fun hk1 hP => ?_⟩
  · subst hk1
    exact ⟨o0, c1, c2, c3, c4, hP, oK.same (fun x j z1 z2 => f _ (by omega) j), c5, c6, c7, c8, hnn, (gu _).trans u0, (gu _).trans u1, (gu _).trans u2, (gu _).trans u3, (gu _).trans u4, (gu _).trans u5, (gu _).trans u6, (gu _).trans u7, (gu _).trans u8, (gu _).trans u9⟩
  · subst hk1
    exact ⟨o0, c1, c2, c3, c4, oA.same (fun x j z1 z2 => f _ (by omega) j), hP, c5, c6, c7, c8, hnn, (gu _).trans u0, (gu _).trans u1, (gu _).trans u2, (gu _).trans u3, (gu _).trans u4, (gu _).trans u5, (gu _).trans u6, (gu _).trans u7, (gu _).trans u8, (gu _).trans u9⟩
/-- an act: how it stood is put on the pile, then now is another -/
theorem CW_act {n : Nat} {I J1 J2 : MI} {Q Q' : MQ2} {na nb : Nat} {p1 p2 pr : Nat → Nat} {S : Sy} {s : St} (hB : CWB n Q na nb p1 p2) (hI : CWI I na p1 p2 S) (hn : tN (yt S) ≤ 6) (h2 : ykn S ≤ 2) (w1 : FrQ Q Q' 24) (w2 : FrS I J1 (FtP 23 8)) (hP : PlB n Q' 23 8 pr) (hp : plp J1 23 pr (yt S) (pushN 8 (yan S)) (pushF 8 (yan S) (yav S) (ys S))) (f : FrS J1 J2 (FtS 5)) (hs : SS J2 5 (yt S) s) : FrW I Q J2 Q' ∧ CW n J2 Q' (actS S s) := by
  have hB2 := ((hB.put 24 w1 (Or.inl rfl)).1 rfl hP)
  obtain ⟨ct, cs, ca, ck, cg, cn⟩ := hI
  obtain ⟨o0, oT, oR, oN, oL, oA, oK, oG, oW, oX, oD, hnn, -⟩ := hB
  have g : ∀ x j, ¬ (23 ≤ x ∧ x < 97) → ¬ (5 ≤ x ∧ x < 14) → J2 x j = I x j := fun x j h1 h2 => (f x j (by unfold FtS; omega)).trans (w2 x j (by unfold FtP; omega))
  have g2 : ∀ x j, 23 ≤ x → x < 97 → J2 x j = J1 x j := fun x j h1 h2 => f x j (by unfold FtS; omega)
  have hm8 : pushN 8 (yan S) ≤ 8 ∨ True := Or.inr trivial
  refine ⟨fun x hx j => ⟨g x j (by omega) (by omega), w1 x (by omega) j⟩, na, nb, pr, p2, hB2, txp_fr ct (fun x j hx => g x j (by omega) (by omega)), hs, ⟨(g2 _ _ (by omega) (by omega)).trans hp.1, fun i hi => ?_⟩, plp_fr ck h2 (fun i hi => (oK.2.2.2.1 i hi).1) hn (fun x j z1 z2 => g x j (by omega) (by omega)), sgp_fr cg (fun x j z1 z2 => g x j (by omega) (by omega)), ntp_fr cn (fun x j hx => g x j (by omega) (by omega))⟩
  have hi : i < pushN 8 (yan S) := hi
  by_cases hi8 : i < 8
  · have h9 := (hP.2.2.2.1 i hi8).1
    exact (hp.2 i hi).fr hn (fun x j z1 z2 => g2 x j (by omega) (by omega))
  · exact (hp.2 i hi).fr hn (fun x j z1 z2 => f x j (by unfold FtS; omega))
theorem SS_D {I J : MI} {b : Nat} {t : Tp} {s : St} {l d : Nat} (h : SS I b t s) (hl : l < tN t) (fr : Fr1 I J (b + 3 + l) 3) (e : J (b + 3 + l) 3 = nI d) : SS J b t (setL s l (sP s l) d (sX s l) (sH s l)) := by
  obtain ⟨a0, a1, a2, a3, a4, a6⟩ := h.1.2.2.2 l hl
  exact ⟨slp_loom h.1 (fun y j hy => fr y j (by omega)) ⟨(fr _ _ (by omega)).trans a0, (fr _ _ (by omega)).trans a1, (fr _ _ (by omega)).trans a2, e, (fr _ _ (by omega)).trans a4, (fr _ _ (by omega)).trans a6⟩, rkp_cong (rkp_fr h.2 (fun j => fr _ _ (by omega))) (fun k hk => by rw [setL_P, nup_self])⟩
theorem SS_H {I J : MI} {b : Nat} {t : Tp} {s : St} {l x : Nat} (h : SS I b t s) (hl : l < tN t) (fr : Fr1 I J (b + 3 + l) 6) (e : J (b + 3 + l) 6 = nI x) : SS J b t (setL s l (sP s l) (sD s l) (sX s l) x) := by
  obtain ⟨a0, a1, a2, a3, a4, a6⟩ := h.1.2.2.2 l hl
  exact ⟨slp_loom h.1 (fun y j hy => fr y j (by omega)) ⟨(fr _ _ (by omega)).trans a0, (fr _ _ (by omega)).trans a1, (fr _ _ (by omega)).trans a2, (fr _ _ (by omega)).trans a3, (fr _ _ (by omega)).trans a4, e⟩, rkp_cong (rkp_fr h.2 (fun j => fr _ _ (by omega))) (fun k hk => by rw [setL_P, nup_self])⟩
theorem slp_P {I J : MI} {b : Nat} {t : Tp} {s : St} {l p : Nat} (h : slp I b t s) (hl : l < tN t) (fr : Fr1 I J (b + 3 + l) 1) (e : J (b + 3 + l) 1 = nI p) : slp J b t (putS s l p) := by
  obtain ⟨a0, a1, a2, a3, a4, a6⟩ := h.2.2.2 l hl
  exact slp_loom h (fun y j hy => fr y j (by omega)) ⟨(fr _ _ (by omega)).trans a0, e, (fr _ _ (by omega)).trans a2, (fr _ _ (by omega)).trans a3, (fr _ _ (by omega)).trans a4, (fr _ _ (by omega)).trans a6⟩
set_option maxHeartbeats 4000000 in
theorem c_isOutB {r : Ev} {n : Nat} {I : MI} {Q : MQ2} (x : Int32) (lo hi : Nat) (hlo : lo < 1000) (hhi : hi < 100000000) : CT r 0 yX8_isOutside cX8_isOutside (3, (some .boolean)) (0, 0) [.int x, .int (nI lo), .int (nI hi)] n I Q (ri Q (fun v J => J = I ∧ ((v = nI 1 ∧ ¬ inB x lo hi) ∨ (v = nI 0 ∧ inB x lo hi)))) := by
  refine ct_of (lv := [some (.int x), some (.int (nI lo)), some (.int (nI hi))]) (by decide +kernel) rfl rfl rfl ?_
  refine x_iload_0 dX8_isOutside_0 ?_
  refine x_iload_1 dX8_isOutside_1 ?_
  refine x_icmp_lt dX8_isOutside_2 (fun c2 => ?_) (fun c2 => ?_)
  · refine x_const (c := 1) dX8_isOutside_10 rfl ?_
    refine x_goto dX8_isOutside_11 ?_
    exact x_iret (st := []) dX8_isOutside_15 rfl rfl (⟨_, rfl, rfl, rfl, by first | exact Or.inl ⟨rfl, inB_lo hhi c2⟩ | exact Or.inl ⟨rfl, inB_hi hhi (by first | assumption | exact Int32.not_le.mp c7)⟩ | exact Or.inr ⟨rfl, inR hlo hhi (by first | assumption | exact Int32.not_lt.mpr c2) (by first | assumption | exact Int32.not_lt.mpr c7)⟩⟩)
  · refine x_iload_0 dX8_isOutside_5 ?_
    refine x_iload_2 dX8_isOutside_6 ?_
    refine x_icmp_le dX8_isOutside_7 (fun c7 => ?_) (fun c7 => ?_)
    · refine x_const (c := 0) dX8_isOutside_14 rfl ?_
      exact x_iret (st := []) dX8_isOutside_15 rfl rfl (⟨_, rfl, rfl, rfl, by first | exact Or.inl ⟨rfl, inB_lo hhi c2⟩ | exact Or.inl ⟨rfl, inB_hi hhi (by first | assumption | exact Int32.not_le.mp c7)⟩ | exact Or.inr ⟨rfl, inR hlo hhi (by first | assumption | exact Int32.not_lt.mpr c2) (by first | assumption | exact Int32.not_lt.mpr c7)⟩⟩)
    · refine x_const (c := 1) dX8_isOutside_10 rfl ?_
      refine x_goto dX8_isOutside_11 ?_
      exact x_iret (st := []) dX8_isOutside_15 rfl rfl (⟨_, rfl, rfl, rfl, by first | exact Or.inl ⟨rfl, inB_lo hhi c2⟩ | exact Or.inl ⟨rfl, inB_hi hhi (by first | assumption | exact Int32.not_le.mp c7)⟩ | exact Or.inr ⟨rfl, inR hlo hhi (by first | assumption | exact Int32.not_lt.mpr c2) (by first | assumption | exact Int32.not_lt.mpr c7)⟩⟩)
set_option maxHeartbeats 4000000 in
theorem c_noPlB {r : Ev} {n : Nat} {I : MI} {Q : MQ2} (x : Int32) : CT r 1 yX8_isNoPlace cX8_isNoPlace (1, (some .boolean)) (0, 0) [.int x] n I Q (ri Q (fun v J => J = I ∧ ((v = nI 1 ∧ ¬ inB x 0 9) ∨ (v = nI 0 ∧ inB x 0 9)))) := by
  refine ct_of (lv := [some (.int x)]) (by decide +kernel) rfl rfl rfl ?_
  refine x_iload_0 dX8_isNoPlace_0 ?_
  refine x_const (c := 0) dX8_isNoPlace_1 rfl ?_
  refine x_bip (c := 9) dX8_isNoPlace_2 (by decide) ?_
  refine x_S3i dX8_isNoPlace_4 m_X8_91 (c_isOutB x 0 9 (by omega) (by omega)) (fun x4 I4 h4 => ?_)
  obtain ⟨rfl, h4⟩ := h4
  exact x_iret (st := []) dX8_isNoPlace_7 rfl (bo01 h4) (⟨_, rfl, rfl, rfl, h4⟩)
set_option maxHeartbeats 4000000 in
theorem c_X8_isNoLoom {r : Ev} {n : Nat} {I : MI} {Q : MQ2} {na nb : Nat} {p1 p2 : Nat → Nat} (hB : CWB n Q na nb p1 p2) (N : Nat) (x : Int32) (hN : I 5 2 = nI N) (h1 : 1 ≤ N) (h6 : N ≤ 6) : CT r 1 yX8_isNoLoom cX8_isNoLoom (2, (some .boolean)) (0, 0) [.ref (evz r + 0), .int x] n I Q (ri Q (fun v J => J = I ∧ ((v = nI 1 ∧ ¬ inB x 0 (N - 1)) ∨ (v = nI 0 ∧ inB x 0 (N - 1))))) := by
  refine ct_of (lv := [some (.ref (evz r + 0)), some (.int x)]) (by decide +kernel) rfl rfl rfl ?_
  obtain ⟨o0, oT, oR, oN, oL, oA, oK, oG, oW, oX, oD, hnn, u0, u1, u2, u3, u4, u5, u6, u7, u8, u9⟩ := id hB
  have oT1 := oT.1
  have oN1 := oN.1
  have oL1 := oL.1
  have oA1 := oA.1
  have oK1 := oK.1
  have oG1 := oG.1
  have oW1 := oW.1
  have oX1 := oX.1
  have oD1 := oD.1
  have oR1 := oR.1
  refine x_iload_1 dX8_isNoLoom_0 ?_
  refine x_const (c := 0) dX8_isNoLoom_1 rfl ?_
  refine x_aload_0 dX8_isNoLoom_2 ?_
  refine x_getr dX8_isNoLoom_3 f_X8_26 (by assumption) u2 ?_
  refine x_getV dX8_isNoLoom_6 f_X8_185 (by assumption) hN ?_
  refine x_const (c := 1) dX8_isNoLoom_9 rfl ?_
  refine x_isubN dX8_isNoLoom_10 (by omega) ?_
  refine x_S3i dX8_isNoLoom_11 m_X8_91 (c_isOutB x 0 (N - 1) (by omega) (by omega)) (fun x11 I11 h11 => ?_)
  obtain ⟨rfl, h11⟩ := h11
  exact x_iret (st := []) dX8_isNoLoom_14 rfl (bo01 h11) (⟨_, rfl, rfl, rfl, h11⟩)
def bc1 (x : Int32) : Int32 := x - ((x.toUInt32 >>> ((nI 1).toUInt32 &&& Int32.toUInt32 31)).toInt32 &&& 1431655765)
def bc2 (x : Int32) : Int32 := (x &&& 858993459) + ((x.toUInt32 >>> ((nI 2).toUInt32 &&& Int32.toUInt32 31)).toInt32 &&& 858993459)
def bc3 (x : Int32) : Int32 := (x + (x.toUInt32 >>> ((nI 4).toUInt32 &&& Int32.toUInt32 31)).toInt32) &&& 252645135
def bc4 (x : Int32) : Int32 := x + (x.toUInt32 >>> ((nI 8).toUInt32 &&& Int32.toUInt32 31)).toInt32
def bc5 (x : Int32) : Int32 := x + (x.toUInt32 >>> ((nI 16).toUInt32 &&& Int32.toUInt32 31)).toInt32
theorem bitc : ∀ x, x < 128 → bc5 (bc4 (bc3 (bc2 (bc1 (nI x))))) &&& nI 63 = nI (sumF (fun k => x / 2 ^ k % 2) 7) := by decide +kernel
theorem ones67 {x : Nat} (h : x < 64) : sumF (fun k => x / 2 ^ k % 2) 7 = ones6 x := by
  show ones6 x + x / 2 ^ 6 % 2 = ones6 x
  rw [Nat.div_eq_of_lt h]
  rfl
set_option maxHeartbeats 4000000 in
theorem c_bitCount {r : Ev} {n : Nat} {I : MI} {Q : MQ2} (x : Nat) (hx : x < 64) : CT r 0 yJ6_bitCount_0f7a4 cJ6_bitCount_0f7a4 (1, (some .int)) (0, 0) [.int (nI x)] n I Q (ri Q (fun v J => J = I ∧ v = nI (ones6 x))) := by
  refine ct_of (lv := [some (.int (nI x))]) (by decide +kernel) rfl rfl rfl ?_
  refine x_iload_0 dJ6_bitCount_0f7a4_0 ?_
  refine x_iload_0 dJ6_bitCount_0f7a4_1 ?_
  refine x_const (c := 1) dJ6_bitCount_0f7a4_2 rfl ?_
  refine x_iushr dJ6_bitCount_0f7a4_3 ?_
  refine x_ldcw dJ6_bitCount_0f7a4_4 k_J6_265 ?_
  refine x_iand dJ6_bitCount_0f7a4_7 ?_
  refine x_isub dJ6_bitCount_0f7a4_8 ?_
  refine x_istore_0 dJ6_bitCount_0f7a4_9 rfl rfl ?_
  refine x_iload_0 dJ6_bitCount_0f7a4_10 ?_
  refine x_ldcw dJ6_bitCount_0f7a4_11 k_J6_266 ?_
  refine x_iand dJ6_bitCount_0f7a4_14 ?_
  refine x_iload_0 dJ6_bitCount_0f7a4_15 ?_
  refine x_const (c := 2) dJ6_bitCount_0f7a4_16 rfl ?_
  refine x_iushr dJ6_bitCount_0f7a4_17 ?_
  refine x_ldcw dJ6_bitCount_0f7a4_18 k_J6_266 ?_
  refine x_iand dJ6_bitCount_0f7a4_21 ?_
  refine x_iadd dJ6_bitCount_0f7a4_22 ?_
  refine x_istore_0 dJ6_bitCount_0f7a4_23 rfl rfl ?_
  refine x_iload_0 dJ6_bitCount_0f7a4_24 ?_
  refine x_iload_0 dJ6_bitCount_0f7a4_25 ?_
  refine x_const (c := 4) dJ6_bitCount_0f7a4_26 rfl ?_
  refine x_iushr dJ6_bitCount_0f7a4_27 ?_
  refine x_iadd dJ6_bitCount_0f7a4_28 ?_
  refine x_ldcw dJ6_bitCount_0f7a4_29 k_J6_267 ?_
  refine x_iand dJ6_bitCount_0f7a4_32 ?_
  refine x_istore_0 dJ6_bitCount_0f7a4_33 rfl rfl ?_
  refine x_iload_0 dJ6_bitCount_0f7a4_34 ?_
  refine x_iload_0 dJ6_bitCount_0f7a4_35 ?_
  refine x_bip (c := 8) dJ6_bitCount_0f7a4_36 (by decide) ?_
  refine x_iushr dJ6_bitCount_0f7a4_38 ?_
  refine x_iadd dJ6_bitCount_0f7a4_39 ?_
  refine x_istore_0 dJ6_bitCount_0f7a4_40 rfl rfl ?_
  refine x_iload_0 dJ6_bitCount_0f7a4_41 ?_
  refine x_iload_0 dJ6_bitCount_0f7a4_42 ?_
  refine x_bip (c := 16) dJ6_bitCount_0f7a4_43 (by decide) ?_
  refine x_iushr dJ6_bitCount_0f7a4_45 ?_
  refine x_iadd dJ6_bitCount_0f7a4_46 ?_
  refine x_istore_0 dJ6_bitCount_0f7a4_47 rfl rfl ?_
  refine x_iload_0 dJ6_bitCount_0f7a4_48 ?_
  refine x_bip (c := 63) dJ6_bitCount_0f7a4_49 (by decide) ?_
  refine x_iand dJ6_bitCount_0f7a4_51 ?_
  exact x_iret (st := []) dJ6_bitCount_0f7a4_52 rfl rfl (⟨_, rfl, rfl, rfl, (bitc x (by omega)).trans (congrArg nI (ones67 hx))⟩)
set_option maxHeartbeats 4000000 in
theorem c_X8_hoursTill {r : Ev} {n : Nat} {I : MI} {Q : MQ2} {na nb : Nat} {p1 p2 : Nat → Nat} (hB : CWB n Q na nb p1 p2) (B R : Nat) (hB1 : I na 5 = nI B) (hR1 : I 5 3 = nI R) (hBl : B < 1000) (hRl : R < 1000) : CT r 1 yX8_hoursTillMerchants cX8_hoursTillMerchants (1, (some .int)) (0, 0) [.ref (evz r + 0)] n I Q (ri Q (fun v J => J = I ∧ v = nI (B - R))) := by
  refine ct_of (lv := [some (.ref (evz r + 0))]) (by decide +kernel) rfl rfl rfl ?_
  obtain ⟨o0, oT, oR, oN, oL, oA, oK, oG, oW, oX, oD, hnn, u0, u1, u2, u3, u4, u5, u6, u7, u8, u9⟩ := id hB
  have oT1 := oT.1
  have oN1 := oN.1
  have oL1 := oL.1
  have oA1 := oA.1
  have oK1 := oK.1
  have oG1 := oG.1
  have oW1 := oW.1
  have oX1 := oX.1
  have oD1 := oD.1
  have oR1 := oR.1
  refine x_const (c := 0) dX8_hoursTillMerchants_0 rfl ?_
  refine x_aload_0 dX8_hoursTillMerchants_1 ?_
  refine x_getr dX8_hoursTillMerchants_2 f_X8_62 (by assumption) u8 ?_
  refine x_getV dX8_hoursTillMerchants_5 f_X8_285 (by assumption) hB1 ?_
  refine x_aload_0 dX8_hoursTillMerchants_8 ?_
  refine x_getr dX8_hoursTillMerchants_9 f_X8_26 (by assumption) u2 ?_
  refine x_getV dX8_hoursTillMerchants_12 f_X8_133 (by assumption) hR1 ?_
  refine x_isub dX8_hoursTillMerchants_15 ?_
  refine x_max dX8_hoursTillMerchants_16 m_X8_257 ?_
  exact x_iret (st := []) dX8_hoursTillMerchants_19 rfl rfl (⟨_, rfl, rfl, rfl, nmaxsub (by omega) (by omega)⟩)
set_option maxHeartbeats 4000000 in
theorem c_X8_yot {r : Ev} {n : Nat} {I : MI} {Q : MQ2} {na nb : Nat} {p1 p2 : Nat → Nat} (hB : CWB n Q na nb p1 p2) (t : Tp) (g : Nt) (s : St) (hg : ntp I na g) (hG : okN g) (ht : okT t) (hk : okS t s) (hs : SS I 14 t s) (hR1 : I 5 3 = nI (sR s)) (hR : sR s ≤ 200) : CT r 5 yX8_yardsOfTrial cX8_yardsOfTrial (1, (some .int)) (0, 0) [.ref (evz r + 0)] n I Q (ri Q (fun v J => FrS I J (FtS 14) ∧ SS J 14 t (selS t g s) ∧ v = nI (ydB t g (selS t g s)))) := by
  refine ct_of (lv := [some (.ref (evz r + 0))]) (by decide +kernel) rfl rfl rfl ?_
  obtain ⟨o0, oT, oR, oN, oL, oA, oK, oG, oW, oX, oD, hnn, u0, u1, u2, u3, u4, u5, u6, u7, u8, u9⟩ := id hB
  have oT1 := oT.1
  have oN1 := oN.1
  have oL1 := oL.1
  have oA1 := oA.1
  have oK1 := oK.1
  have oG1 := oG.1
  have oW1 := oW.1
  have oX1 := oX.1
  have oD1 := oD.1
  have oR1 := oR.1
  refine x_aload_0 dX8_yardsOfTrial_0 ?_
  refine x_getr dX8_yardsOfTrial_1 f_X8_62 (by assumption) u8 ?_
  refine x_aload_0 dX8_yardsOfTrial_4 ?_
  refine x_getr dX8_yardsOfTrial_5 f_X8_30 (by assumption) u3 ?_
  refine x_aload_0 dX8_yardsOfTrial_8 ?_
  refine x_V0i dX8_yardsOfTrial_9 m_X8_282 (c_X8_hoursTill hB (nB g) (sR s) hg.2.2.1 hR1 (by have := hG.2.2.2.2.1; omega) (by omega)) (by assumption) (fun x9 I9 h9 => ?_)
  obtain ⟨rfl, rfl⟩ := h9
  refine x_V2v dX8_yardsOfTrial_12 m_X8_140 (c_X1_goBy na 14 t s g oX hg oL hs ht hk (by omega) (by have := hG.2.2.1; omega) hG (nB g - sR s) (by have := hG.2.2.2.2.1; omega)) (by assumption) (fun I12 h12 => ?_)
  obtain ⟨gf12, gs12, gr12⟩ := h12
  refine x_aload_0 dX8_yardsOfTrial_15 ?_
  refine x_getr dX8_yardsOfTrial_16 f_X8_30 (by assumption) u3 ?_
  refine x_aload_0 dX8_yardsOfTrial_19 ?_
  refine x_getr dX8_yardsOfTrial_20 f_X8_62 (by assumption) u8 ?_
  refine x_getV dX8_yardsOfTrial_23 f_X8_268 (by assumption) ((gf12 _ _ (by unfold FtS; omega)).trans hg.2.2.2.1) ?_
  refine x_V1i dX8_yardsOfTrial_26 m_X8_271 (c_X5_yardBits 14 t (selS t g s) oL gs12.1 ht.1 (nY g) (by have := hG.2.2.2.2.2.2; omega) (fun l hl => by have h1 := (okS_sel (g := g) hk).1 l hl; have h2 := (ht.2 l hl).2; exact ⟨by omega, by omega⟩)) (by assumption) (fun x26 I26 h26 => ?_)
  obtain ⟨rfl, rfl⟩ := h26
  exact x_iret (st := []) dX8_yardsOfTrial_29 rfl rfl (⟨_, rfl, rfl, gf12, gs12, rfl⟩)
set_option maxHeartbeats 4000000 in
theorem c_X8_ownNextCold {r : Ev} {n : Nat} {I : MI} {Q : MQ2} {na nb : Nat} {p1 p2 : Nat → Nat} (hB : CWB n Q na nb p1 p2) (g : Nt) (R : Nat) (hg : ntp I na g) (hG : okN g) (hR1 : I 5 3 = nI R) (hR : R < 1000) : CT r 3 yX8_ownNextCold cX8_ownNextCold (1, (some .int)) (0, 0) [.ref (evz r + 0)] n I Q (ri Q (fun v J => J = I ∧ v = nI (coldF g R))) := by
  refine ct_of (lv := [some (.ref (evz r + 0))]) (by decide +kernel) rfl rfl rfl ?_
  obtain ⟨o0, oT, oR, oN, oL, oA, oK, oG, oW, oX, oD, hnn, u0, u1, u2, u3, u4, u5, u6, u7, u8, u9⟩ := id hB
  have oT1 := oT.1
  have oN1 := oN.1
  have oL1 := oL.1
  have oA1 := oA.1
  have oK1 := oK.1
  have oG1 := oG.1
  have oW1 := oW.1
  have oX1 := oX.1
  have oD1 := oD.1
  have oR1 := oR.1
  refine x_aload_0 dX8_ownNextCold_0 ?_
  refine x_getr dX8_ownNextCold_1 f_X8_62 (by assumption) u8 ?_
  refine x_aload_0 dX8_ownNextCold_4 ?_
  refine x_getr dX8_ownNextCold_5 f_X8_26 (by assumption) u2 ?_
  refine x_getV dX8_ownNextCold_8 f_X8_133 (by assumption) hR1 ?_
  refine x_V1i dX8_ownNextCold_11 m_X8_121 (c_X1_coldOf na g oX hg hG.1 R (by omega)) (by assumption) (fun x11 I11 h11 => ?_)
  obtain ⟨rfl, rfl⟩ := h11
  exact x_iret (st := []) dX8_ownNextCold_14 rfl rfl (⟨_, rfl, rfl, rfl, rfl⟩)
