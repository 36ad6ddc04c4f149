def NP (J : MI) (y : Nat) (u : Ts) : Prop := SS J (y + 1) u.1 u.2.1 ∧ ntp J y u.2.2
def FtN (y : Nat) (x _ : Nat) : Prop := y ≤ x ∧ x < y + 12
theorem NP.fr {I J : MI} {y : Nat} {u : Ts} (h : NP I y u) (hn : tN u.1 ≤ 6) (fr : ∀ x j, y ≤ x → x < y + 12 → J x j = I x j) : NP J y u := ⟨h.1.fr hn (fun x j z1 z2 => fr x j (by omega) (by omega)), ntp_fr h.2 (fun x j z => fr x j (by omega) (by omega))⟩
theorem tellF_l {v0 v1 v2 : Nat} {u : Ts} (h : canAdd u.1 u.2.1 v0 v1 v2) : tellF 108 v0 v1 v2 u = some (addT u.1 v0 v2, addS u.1 u.2.1 v1, u.2.2) := by unfold tellF; rw [if_pos rfl, if_pos h]
theorem tellF_l0 {v0 v1 v2 : Nat} {u : Ts} (h : ¬ canAdd u.1 u.2.1 v0 v1 v2) : tellF 108 v0 v1 v2 u = none := by unfold tellF; rw [if_pos rfl, if_neg h]
theorem tellF_h (v0 v1 v2 : Nat) (u : Ts) : tellF 104 v0 v1 v2 u = if nH u.2.2 < 12 ∧ v0 ≤ 9 ∧ v1 ≤ 1 then some (u.1, u.2.1, addH u.2.2 v0 v1) else none := by unfold tellF; rw [if_neg (by decide), if_pos rfl]
theorem tellF_s (v0 v1 v2 : Nat) (u : Ts) : tellF 115 v0 v1 v2 u = if v0 ≤ 20 then some (u.1, u.2.1, setSun u.2.2 v0) else none := by unfold tellF; rw [if_neg (by decide), if_neg (by decide), if_pos rfl]
theorem tellF_m (v0 v1 v2 : Nat) (u : Ts) : tellF 109 v0 v1 v2 u = if 1 ≤ v0 ∧ v0 ≤ 24 then some (u.1, u.2.1, setSel u.2.2 v0) else none := by unfold tellF; rw [if_neg (by decide), if_neg (by decide), if_neg (by decide), if_pos rfl]
theorem tellF_y {c : Nat} (v0 v1 v2 : Nat) (u : Ts) (h1 : c ≠ 108) (h2 : c ≠ 104) (h3 : c ≠ 115) (h4 : c ≠ 109) : tellF c v0 v1 v2 u = if 1 ≤ v0 ∧ v0 ≤ 27 then some (u.1, u.2.1, setYrd u.2.2 v0) else none := by unfold tellF; rw [if_neg h1, if_neg h2, if_neg h3, if_neg h4]
theorem tn_l {I J : MI} {Q : MQ2} {y : Nat} {v : Nat → Nat} {u : Ts} {x : Int32} (hu : NP I y u) (hok : okU u) (h : (x = nI 1 ∧ canAdd u.1 u.2.1 (v 0) (v 1) (v 2) ∧ FrS I J (FtS (y + 1)) ∧ slp J (y + 1) (addT u.1 (v 0) (v 2)) (addS u.1 u.2.1 (v 1)) ∧ rkp J (y + 1) (addT u.1 (v 0) (v 2)) (addS u.1 u.2.1 (v 1))) ∨ (x = nI 0 ∧ ¬ canAdd u.1 u.2.1 (v 0) (v 1) (v 2) ∧ J = I)) : ri Q (fun x J => FrS I J (FtN y) ∧ ((x = nI 1 ∧ ∃ u2, tellF 108 (v 0) (v 1) (v 2) u = some u2 ∧ NP J y u2) ∨ (x = nI 0 ∧ tellF 108 (v 0) (v 1) (v 2) u = none))) (some (.int x)) J Q := by
  rcases h with ⟨rfl, hc, f, s1, s2⟩ | ⟨rfl, hc, rfl⟩
  · exact ⟨_, rfl, rfl, fun z j hz => f z j (by unfold FtS; unfold FtN at hz; omega), Or.inl ⟨rfl, _, tellF_l hc, ⟨s1, s2⟩, ntp_fr hu.2 (fun z j hz => f z j (by unfold FtS; omega))⟩⟩
  · exact ⟨_, rfl, rfl, fun _ _ _ => rfl, Or.inr ⟨rfl, tellF_l0 hc⟩⟩
theorem tn_h {I J : MI} {Q : MQ2} {y : Nat} {v : Nat → Nat} {u : Ts} {x : Int32} (hu : NP I y u) (hok : okU u) (h : (x = nI 1 ∧ (nH u.2.2 < 12 ∧ v 0 ≤ 9 ∧ v 1 ≤ 1) ∧ FrS I J (fun z _ => z = y ∨ z = y + 10 ∨ z = y + 11) ∧ ntp J y (addH u.2.2 (v 0) (v 1))) ∨ (x = nI 0 ∧ ¬ (nH u.2.2 < 12 ∧ v 0 ≤ 9 ∧ v 1 ≤ 1) ∧ J = I)) : ri Q (fun x J => FrS I J (FtN y) ∧ ((x = nI 1 ∧ ∃ u2, tellF 104 (v 0) (v 1) (v 2) u = some u2 ∧ NP J y u2) ∨ (x = nI 0 ∧ tellF 104 (v 0) (v 1) (v 2) u = none))) (some (.int x)) J Q := by
  rcases h with ⟨rfl, hc, f, s1⟩ | ⟨rfl, hc, rfl⟩
  · exact ⟨_, rfl, rfl, fun z j hz => f z j (by unfold FtN at hz; omega), Or.inl ⟨rfl, _, (tellF_h _ _ _ _).trans (if_pos hc), hu.1.fr hok.1.1 (fun z j z1 z2 => f z j (by omega)), s1⟩⟩
  · exact ⟨_, rfl, rfl, fun _ _ _ => rfl, Or.inr ⟨rfl, (tellF_h _ _ _ _).trans (if_neg hc)⟩⟩
theorem tn_s {I J : MI} {Q : MQ2} {y : Nat} {v : Nat → Nat} {u : Ts} {x : Int32} (hu : NP I y u) (hok : okU u) (f : FrS I J (fun z j => z = y ∧ j = 4)) (g : ntp J y (setSun u.2.2 (v 0))) (h : (x = nI 1 ∧ 0 ≤ v 0 ∧ v 0 ≤ 20) ∨ (x = nI 0 ∧ ¬ (0 ≤ v 0 ∧ v 0 ≤ 20))) : ri Q (fun x J => FrS I J (FtN y) ∧ ((x = nI 1 ∧ ∃ u2, tellF 115 (v 0) (v 1) (v 2) u = some u2 ∧ NP J y u2) ∨ (x = nI 0 ∧ tellF 115 (v 0) (v 1) (v 2) u = none))) (some (.int x)) J Q := by
  rcases h with ⟨rfl, hc⟩ | ⟨rfl, hc⟩
  · exact ⟨_, rfl, rfl, fun z j hz => f z j (by unfold FtN at hz; omega), Or.inl ⟨rfl, _, (tellF_s _ _ _ _).trans (if_pos (by omega)), hu.1.fr hok.1.1 (fun z j z1 z2 => f z j (by omega)), g⟩⟩
  · exact ⟨_, rfl, rfl, fun z j hz => f z j (by unfold FtN at hz; omega), Or.inr ⟨rfl, (tellF_s _ _ _ _).trans (if_neg (by omega))⟩⟩
theorem tn_m {I J : MI} {Q : MQ2} {y : Nat} {v : Nat → Nat} {u : Ts} {x : Int32} (hu : NP I y u) (hok : okU u) (f : FrS I J (fun z j => z = y ∧ j = 5)) (g : ntp J y (setSel u.2.2 (v 0))) (h : (x = nI 1 ∧ 1 ≤ v 0 ∧ v 0 ≤ 24) ∨ (x = nI 0 ∧ ¬ (1 ≤ v 0 ∧ v 0 ≤ 24))) : ri Q (fun x J => FrS I J (FtN y) ∧ ((x = nI 1 ∧ ∃ u2, tellF 109 (v 0) (v 1) (v 2) u = some u2 ∧ NP J y u2) ∨ (x = nI 0 ∧ tellF 109 (v 0) (v 1) (v 2) u = none))) (some (.int x)) J Q := by
  rcases h with ⟨rfl, hc⟩ | ⟨rfl, hc⟩
  · exact ⟨_, rfl, rfl, fun z j hz => f z j (by unfold FtN at hz; omega), Or.inl ⟨rfl, _, (tellF_m _ _ _ _).trans (if_pos ⟨by omega, by omega⟩), hu.1.fr hok.1.1 (fun z j z1 z2 => f z j (by omega)), g⟩⟩
  · exact ⟨_, rfl, rfl, fun z j hz => f z j (by unfold FtN at hz; omega), Or.inr ⟨rfl, (tellF_m _ _ _ _).trans (if_neg (by omega))⟩⟩
theorem tn_y {I J : MI} {Q : MQ2} {y : Nat} {v : Nat → Nat} {u : Ts} {x : Int32} (hu : NP I y u) (hok : okU u) {c : Nat} (q1 : c ≠ 108) (q2 : c ≠ 104) (q3 : c ≠ 115) (q4 : c ≠ 109) (f : FrS I J (fun z j => z = y ∧ j = 6)) (g : ntp J y (setYrd u.2.2 (v 0))) (h : (x = nI 1 ∧ 1 ≤ v 0 ∧ v 0 ≤ 27) ∨ (x = nI 0 ∧ ¬ (1 ≤ v 0 ∧ v 0 ≤ 27))) : ri Q (fun x J => FrS I J (FtN y) ∧ ((x = nI 1 ∧ ∃ u2, tellF c (v 0) (v 1) (v 2) u = some u2 ∧ NP J y u2) ∨ (x = nI 0 ∧ tellF c (v 0) (v 1) (v 2) u = none))) (some (.int x)) J Q := by
  rcases h with ⟨rfl, hc⟩ | ⟨rfl, hc⟩
  · exact ⟨_, rfl, rfl, fun z j hz => f z j (by unfold FtN at hz; omega), Or.inl ⟨rfl, _, (tellF_y _ _ _ _ q1 q2 q3 q4).trans (if_pos ⟨by omega, by omega⟩), hu.1.fr hok.1.1 (fun z j z1 z2 => f z j (by omega)), g⟩⟩
  · exact ⟨_, rfl, rfl, fun z j hz => f z j (by unfold FtN at hz; omega), Or.inr ⟨rfl, (tellF_y _ _ _ _ q1 q2 q3 q4).trans (if_neg (by omega))⟩⟩
set_option maxHeartbeats 4000000 in
theorem c_X3_tellNight {r : Ev} {n : Nat} {I : MI} {Q : MQ2} (a y c : Nat) (v : Nat → Nat) (u : Ts) (hb : RdB n Q a) (hy : NtB n Q y) (hu : NP I y u) (hok : okU u) (hdis : y + 12 ≤ a ∨ a + 2 ≤ y) (hc : c < 128) (hc0 : 0 < cntN c) (hv : ∀ i, i < cntN c → I (a + 1) i = nI (v i)) (hv9 : ∀ i, v i ≤ 99 ∨ cntN c ≤ i) : CT r 3 yX3_tellNight cX3_tellNight (3, (some .boolean)) (0, 0) [.ref (evz r + a), .ref (evz r + y), .int (nI c)] n I Q (ri Q (fun x J => FrS I J (FtN y) ∧ ((x = nI 1 ∧ ∃ u2, tellF c (v 0) (v 1) (v 2) u = some u2 ∧ NP J y u2) ∨ (x = nI 0 ∧ tellF c (v 0) (v 1) (v 2) u = none)))) := by
  refine ct_of (lv := [some (.ref (evz r + a)), some (.ref (evz r + y)), some (.int (nI c))]) (by decide +kernel) rfl rfl rfl ?_
  obtain ⟨k1, k2, k3⟩ := id hb
  refine x_iload_2 dX3_tellNight_0 ?_
  by_cases q104 : c = 104
  · subst q104
    have hv0 := hv 0 (by decide)
    have hv1 := hv 1 (by decide)
    refine x_ls (off := 69) (t := 70) dX3_tellNight_1 (by decide) (by decide) (by decide) ?_
    refine x_aload_1 dX3_tellNight_70 ?_
    refine x_aload_0 dX3_tellNight_71 ?_
    refine x_getr dX3_tellNight_72 f_X3_9 k1 k3 ?_
    refine x_const (c := 0) dX3_tellNight_75 rfl ?_
    refine x_ialdV dX3_tellNight_76 k2 rfl (by omega) hv0 ?_
    refine x_aload_0 dX3_tellNight_77 ?_
    refine x_getr dX3_tellNight_78 f_X3_9 k1 k3 ?_
    refine x_const (c := 1) dX3_tellNight_81 rfl ?_
    refine x_ialdV dX3_tellNight_82 k2 rfl (by omega) hv1 ?_
    refine x_V2i dX3_tellNight_83 m_X3_62 (c_X1_addHour y u.2.2 hy hu.2 hok.2.2.1.1 (v 0) (v 1) (by have := hv9 0; simp [cntN] at this; omega) (by have := hv9 1; simp [cntN] at this; omega)) hy.1 (fun x83 I83 h83 => ?_)
    have hre : narrow .boolean (.int x83) = .int x83 := by rcases h83 with ⟨rfl, -⟩ | ⟨rfl, -⟩ <;> rfl
    exact x_iret (st := []) dX3_tellNight_86 rfl hre (tn_h hu hok h83)
  by_cases q108 : c = 108
  · subst q108
    have hv0 := hv 0 (by decide)
    have hv1 := hv 1 (by decide)
    have hv2 := hv 2 (by decide)
    refine x_ls (off := 43) (t := 44) dX3_tellNight_1 (by decide) (by decide) (by decide) ?_
    refine x_aload_1 dX3_tellNight_44 ?_
    refine x_getr dX3_tellNight_45 f_X3_52 hy.1 hy.2.2.2.2.1 ?_
    refine x_aload_0 dX3_tellNight_48 ?_
    refine x_getr dX3_tellNight_49 f_X3_9 k1 k3 ?_
    refine x_const (c := 0) dX3_tellNight_52 rfl ?_
    refine x_ialdV dX3_tellNight_53 k2 rfl (by omega) hv0 ?_
    refine x_aload_0 dX3_tellNight_54 ?_
    refine x_getr dX3_tellNight_55 f_X3_9 k1 k3 ?_
    refine x_const (c := 1) dX3_tellNight_58 rfl ?_
    refine x_ialdV dX3_tellNight_59 k2 rfl (by omega) hv1 ?_
    refine x_aload_0 dX3_tellNight_60 ?_
    refine x_getr dX3_tellNight_61 f_X3_9 k1 k3 ?_
    refine x_const (c := 2) dX3_tellNight_64 rfl ?_
    refine x_ialdV dX3_tellNight_65 k2 rfl (by omega) hv2 ?_
    refine x_V3i dX3_tellNight_66 m_X3_56 (c_X5_addLoom (y + 1) u.1 u.2.1 hy.2.1 hu.1.1 hok.1.1 (fun l hl => (hok.2.1.1 l hl).1) hok.2.1.2 (v 0) (v 1) (v 2) (by have := hv9 0; simp [cntN] at this; omega) (by have := hv9 1; simp [cntN] at this; omega) (by have := hv9 2; simp [cntN] at this; omega)) hy.2.1.1 (fun x66 I66 h66 => ?_)
    have hre : narrow .boolean (.int x66) = .int x66 := by rcases h66 with ⟨rfl, -⟩ | ⟨rfl, -⟩ <;> rfl
    exact x_iret (st := []) dX3_tellNight_69 rfl hre (tn_l hu hok h66)
  by_cases q109 : c = 109
  · subst q109
    have hv0 := hv 0 (by decide)
    refine x_ls (off := 97) (t := 98) dX3_tellNight_1 (by decide) (by decide) (by decide) ?_
    refine x_aload_1 dX3_tellNight_98 ?_
    refine x_aload_0 dX3_tellNight_99 ?_
    refine x_getr dX3_tellNight_100 f_X3_9 k1 k3 ?_
    refine x_const (c := 0) dX3_tellNight_103 rfl ?_
    refine x_ialdV dX3_tellNight_104 k2 rfl (by omega) hv0 ?_
    refine x_V1i dX3_tellNight_105 m_X3_69 (c_X1_tellMerchants y u.2.2 hy hu.2 (v 0) (by have := hv9 0; simp [cntN] at this; omega)) hy.1 (fun x105 I105 h105 => ?_)
    obtain ⟨f105, g105, h105⟩ := h105
    have hre : narrow .boolean (.int x105) = .int x105 := by rcases h105 with ⟨rfl, -⟩ | ⟨rfl, -⟩ <;> rfl
    exact x_iret (st := []) dX3_tellNight_108 rfl hre (tn_m hu hok f105 g105 h105)
  by_cases q115 : c = 115
  · subst q115
    have hv0 := hv 0 (by decide)
    refine x_ls (off := 86) (t := 87) dX3_tellNight_1 (by decide) (by decide) (by decide) ?_
    refine x_aload_1 dX3_tellNight_87 ?_
    refine x_aload_0 dX3_tellNight_88 ?_
    refine x_getr dX3_tellNight_89 f_X3_9 k1 k3 ?_
    refine x_const (c := 0) dX3_tellNight_92 rfl ?_
    refine x_ialdV dX3_tellNight_93 k2 rfl (by omega) hv0 ?_
    refine x_V1i dX3_tellNight_94 m_X3_66 (c_X1_tellSun y u.2.2 hy hu.2 (v 0) (by have := hv9 0; simp [cntN] at this; omega)) hy.1 (fun x94 I94 h94 => ?_)
    obtain ⟨f94, g94, h94⟩ := h94
    have hre : narrow .boolean (.int x94) = .int x94 := by rcases h94 with ⟨rfl, -⟩ | ⟨rfl, -⟩ <;> rfl
    exact x_iret (st := []) dX3_tellNight_97 rfl hre (tn_s hu hok f94 g94 h94)
  have hv0 := hv 0 hc0
  refine x_ls (off := 108) (t := 109) dX3_tellNight_1 (by decide) (lsd_tn c hc q104 q108 q109 q115) (by decide) ?_
  refine x_aload_1 dX3_tellNight_109 ?_
  refine x_aload_0 dX3_tellNight_110 ?_
  refine x_getr dX3_tellNight_111 f_X3_9 k1 k3 ?_
  refine x_const (c := 0) dX3_tellNight_114 rfl ?_
  refine x_ialdV dX3_tellNight_115 k2 rfl (by omega) hv0 ?_
  refine x_V1i dX3_tellNight_116 m_X3_72 (c_X1_tellYard y u.2.2 hy hu.2 (v 0) (by have := hv9 0; omega)) hy.1 (fun x116 I116 h116 => ?_)
  obtain ⟨f116, g116, h116⟩ := h116
  have hre : narrow .boolean (.int x116) = .int x116 := by rcases h116 with ⟨rfl, -⟩ | ⟨rfl, -⟩ <;> rfl
  exact x_iret (st := []) dX3_tellNight_119 rfl hre (tn_y hu hok q108 q104 q115 q109 f116 g116 h116)
theorem itemF_no {T : Nat → Nat} {m p : Nat} {u : Ts} (h : ¬ (0 < cntN (ltr T m p) ∧ okNums T m (p + 1) (cntN (ltr T m p)))) : itemF T m p u = none := by unfold itemF; rw [if_neg h]
theorem itemF_t {T : Nat → Nat} {m p : Nat} {u : Ts} (h : 0 < cntN (ltr T m p) ∧ okNums T m (p + 1) (cntN (ltr T m p))) {o : Option Ts} (e : tellF (ltr T m p) (nvl T m (pNum T m (p + 1) 0)) (nvl T m (pNum T m (p + 1) 1)) (nvl T m (pNum T m (p + 1) 2)) u = o) : itemF T m p u = o.map (fun x => (pNum T m (p + 1) (cntN (ltr T m p)), x)) := by unfold itemF; rw [if_pos h, e]
theorem cntN_le (c : Nat) : cntN c ≤ 3 := by unfold cntN; repeat (first | omega | split)
theorem pNum_in {T : Nat → Nat} {m p k : Nat} (hk : 0 < k) (h : okNums T m p k) : pNum T m p k ≤ m := by
  obtain ⟨j, rfl⟩ : ∃ j, k = j + 1 := ⟨k - 1, by omega⟩
  have h1 := okn_lt (h j (Nat.lt_succ_self j)) (by split <;> decide)
  exact h1
theorem readF_item {T : Nat → Nat} {m k p : Nat} {u : Ts} (h : p < m) {o : Option (Nat × Ts)} (e : itemF T m p u = o) : readF T m (k + 1) p u = match (generalizing := false) o with
    | none => (some p, u)
    | some x => readF T m k x.1 x.2 := by
  show (if p < m then _ else _) = _
  rw [if_pos h, e]
  cases o <;> rfl
theorem readF_end {T : Nat → Nat} {m p : Nat} {u : Ts} (h : ¬ p < m) : ∀ k, readF T m k p u = (none, u)
  | 0 => rfl
  | k + 1 => if_neg h
theorem okn_fig {T : Nat → Nat} {m p k i : Nat} (h : okNums T m p k) (hi : i < k) : nvl T m (pNum T m p i) ≤ 99 := nvl_le (h i hi).1
set_option maxHeartbeats 4000000 in
theorem l_X3_read {r : Ev} {n : Nat} {Q : MQ2} {F : Post} (a x y m : Nat) (T : Nat → Nat) (hb : RdB n Q a) {I0 : MI} (hx : TxB n Q x) (ht0 : txp I0 x m T) (hy : NtB n Q y) (hm : m ≤ 200) (hT : ∀ k, k < m → T k < 128) (hdis : x + 2 ≤ a ∨ a + 2 ≤ x) (hdy : y + 12 ≤ a ∨ a + 2 ≤ y) (hdx : y + 12 ≤ x ∨ x + 2 ≤ y) (hF1 : ∀ J, FrS I0 J (fun z j => FtR a z j ∨ FtN y z j) → (readF T m 200 0 (t00, s00, g00)).1 = none → NP J y (readF T m 200 0 (t00, s00, g00)).2 → okU (readF T m 200 0 (t00, s00, g00)).2 → F (some (.int (-4))) J Q) (hF2 : ∀ J p, FrS I0 J (fun z j => FtR a z j ∨ FtN y z j) → p ≤ 200 → (readF T m 200 0 (t00, s00, g00)).1 = some p → F (some (.int (nI p))) J Q) : ∀ (k : Nat) (i p : Nat) (u : Ts) (I : MI) (w4 w5 : Option Value), i ≤ 200 → i + k = 200 + 1 → p ≤ 200 → FrS I0 I (fun z j => FtR a z j ∨ FtN y z j) → I a 1 = nI p → NP I y u → okU u → readF T m 200 0 (t00, s00, g00) = readF T m (200 - i) p u → X r 4 yX3_read cX3_read (6, (some .int)) (0, 0) 11 [some (.ref (evz r + a)), some (.ref (evz r + x)), some (.ref (evz r + y)), some (.int (nI i)), w4, w5] [] n I Q F := by
  intro k
  induction k with
  | zero => intros; omega
  | succ k ih =>
    intro i p u I w4 w5 hi0 hi hp2 hfr hp hu hok hrd
    obtain ⟨k1, k2, k3⟩ := id hb
    refine x_iload_3 dX3_read_11 ?_
    refine x_sip (c := 200) dX3_read_12 (by decide) ?_
    refine x_icmp_geN dX3_read_15 (by omega) (by omega) (fun c15 => ?_) (fun c15 => ?_)
    · have e0 : 200 - i = 0 := by omega
      rw [e0] at hrd
      have e1 : (readF T m 200 0 (t00, s00, g00)).2 = u := by rw [hrd]; rfl
      have e2 : (readF T m 200 0 (t00, s00, g00)).1 = none := by rw [hrd]; rfl
      refine x_bipush (v := -4) dX3_read_85 (by decide) ?_
      exact x_iret (st := []) dX3_read_87 rfl rfl (hF1 I hfr e2 (by rw [e1]; exact hu) (by rw [e1]; exact hok))
    · refine x_aload_0 dX3_read_18 ?_
      have ht : txp I x m T := txp_fr ht0 (fun z j hz => hfr z j (by unfold FtR FtN; omega))
      obtain ⟨ki, hki⟩ : ∃ ki, 200 - i = ki + 1 := ⟨200 - i - 1, by omega⟩
      have hki2 : 200 - (i + 1) = ki := by omega
      rw [hki] at hrd
      refine x_getV dX3_read_19 f_X3_20 k1 hp ?_
      refine x_aload_1 dX3_read_22 ?_
      refine x_getV dX3_read_23 f_X3_24 hx.1 ht.1 ?_
      refine x_icmp_geN dX3_read_26 (by omega) (by omega) (fun c26 => ?_) (fun c26 => ?_)
      · have e1 : (readF T m 200 0 (t00, s00, g00)).2 = u := by rw [hrd, readF_end (by omega)]
        have e2 : (readF T m 200 0 (t00, s00, g00)).1 = none := by rw [hrd, readF_end (by omega)]
        refine x_bipush (v := -4) dX3_read_85 (by decide) ?_
        exact x_iret (st := []) dX3_read_87 rfl rfl (hF1 I hfr e2 (by rw [e1]; exact hu) (by rw [e1]; exact hok))
      · refine x_aload_0 dX3_read_29 ?_
        refine x_getV dX3_read_30 f_X3_20 k1 hp ?_
        refine x_istore_4 dX3_read_33 rfl rfl ?_
        refine x_aload_1 dX3_read_35 ?_
        refine x_iload_4 dX3_read_36 ?_
        refine x_V1i dX3_read_38 m_X3_29 (c_X6_letterOn x m T hx ht hm p (by omega)) hx.1 (fun x38 I38 h38 => ?_)
        obtain ⟨rfl, rfl⟩ := h38
        refine x_istore_5 dX3_read_41 rfl rfl ?_
        refine x_aload_0 dX3_read_43 ?_
        first | refine x_dup_ref dX3_read_44 ?_ | refine x_dup_int dX3_read_44 ?_
        refine x_getV dX3_read_45 f_X3_20 k1 hp ?_
        refine x_const (c := 1) dX3_read_48 rfl ?_
        refine x_iaddN dX3_read_49 ?_
        refine x_putA dX3_read_50 f_X3_20 k1 (fun J50 fr50 e50 => ?_)
        refine x_aload_0 dX3_read_53 ?_
        refine x_aload_1 dX3_read_54 ?_
        refine x_iload_5 dX3_read_55 ?_
        refine x_S1i dX3_read_57 m_X3_33 (c_X3_numbersBehind (ltr T m p) (ltr_lt hT p)) (fun x57 I57 h57 => ?_)
        obtain ⟨rfl, rfl⟩ := h57
        refine x_V2i dX3_read_60 m_X3_36 (c_X3_readNumbers a x m T hb hx (txp_fr ht (fun z j hz => fr50 z j (by omega))) hm hT hdis (p + 1) (cntN (ltr T m p)) e50 (by omega) (cntN_le _)) k1 (fun x60 I60 h60 => ?_)
        obtain ⟨nf60, ⟨rfl, no60, np60, nv60⟩ | ⟨rfl, no60⟩⟩ := h60
        · refine x_if_eqN dX3_read_63 (by omega) (fun c63 => ?_) (fun c63 => ?_)
          · exfalso; omega
          · refine x_aload_0 dX3_read_66 ?_
            refine x_aload_2 dX3_read_67 ?_
            refine x_iload_5 dX3_read_68 ?_
            refine x_V2i dX3_read_70 m_X3_40 (c_X3_tellNight a y (ltr T m p) (fun i => nvl T m (pNum T m (p + 1) i)) u hb hy (hu.fr hok.1.1 (fun z j z1 z2 => (nf60 z j (by unfold FtR; omega)).trans (fr50 z j (by omega)))) hok hdy (ltr_lt hT p) no60.1 nv60 (fun i => (Nat.lt_or_ge i (cntN (ltr T m p))).elim (fun z => Or.inl (okn_fig no60.2 z)) Or.inr)) k1 (fun x70 I70 h70 => ?_)
            obtain ⟨yf70, ⟨rfl, u2, ut70, un70⟩ | ⟨rfl, ut70⟩⟩ := h70
            · refine x_if_neN dX3_read_73 (by omega) (fun c73 => ?_) (fun c73 => ?_)
              · refine x_iinc_3 dX3_read_79 (iinc1 _) rfl rfl ?_
                refine x_goto dX3_read_82 ?_
                refine ih (i + 1) _ u2 _ _ _ (by omega) (by omega) (by have := pNum_in no60.1 no60.2; omega) (fun z j hz => (yf70 z j (fun q => hz (Or.inr q))).trans ((nf60 z j (fun q => hz (Or.inl q))).trans ((fr50 z j (fun q => hz (Or.inl (Or.inl q.1)))).trans (hfr z j hz)))) ((yf70 _ _ (by unfold FtN; omega)).trans np60) un70 (tellF_ok hok ut70) ?_
                rw [hki2, hrd, readF_item (by omega) (itemF_t no60 ut70)]
                rfl
              · exfalso; omega
            · refine x_if_neN dX3_read_73 (by omega) (fun c73 => ?_) (fun c73 => ?_)
              · exfalso; omega
              · refine x_iload_4 dX3_read_76 ?_
                exact x_iret (st := []) dX3_read_78 rfl rfl (hF2 _ p (fun z j hz => (yf70 z j (fun q => hz (Or.inr q))).trans ((nf60 z j (fun q => hz (Or.inl q))).trans ((fr50 z j (fun q => hz (Or.inl (Or.inl q.1)))).trans (hfr z j hz)))) hp2 (by rw [hrd, readF_item (by omega) (itemF_t no60 ut70)]; rfl))
        · refine x_if_eqN dX3_read_63 (by omega) (fun c63 => ?_) (fun c63 => ?_)
          · refine x_iload_4 dX3_read_76 ?_
            exact x_iret (st := []) dX3_read_78 rfl rfl (hF2 _ p (fun z j hz => (nf60 z j (fun q => hz (Or.inl q))).trans ((fr50 z j (fun q => hz (Or.inl (Or.inl q.1)))).trans (hfr z j hz))) hp2 (by rw [hrd, readF_item (by omega) (itemF_no no60)]))
          · exfalso; omega
set_option maxHeartbeats 4000000 in
theorem c_X3_read {r : Ev} {n : Nat} {I : MI} {Q : MQ2} (a x y m : Nat) (T : Nat → Nat) (hb : RdB n Q a) (hx : TxB n Q x) (hy : NtB n Q y) (hm : m ≤ 200) (hT : ∀ k, k < m → T k < 128) (hdis : x + 2 ≤ a ∨ a + 2 ≤ x) (hdy : y + 12 ≤ a ∨ a + 2 ≤ y) (hdx : y + 12 ≤ x ∨ x + 2 ≤ y) (ht : txp I x m T) : CT r 4 yX3_read cX3_read (6, (some .int)) (0, 0) [.ref (evz r + a), .ref (evz r + x), .ref (evz r + y)] n I Q (ri Q (fun v J => FrS I J (fun z j => FtR a z j ∨ FtN y z j) ∧ ((v = -4 ∧ (readF T m 200 0 (t00, s00, g00)).1 = none ∧ NP J y (readF T m 200 0 (t00, s00, g00)).2 ∧ okU (readF T m 200 0 (t00, s00, g00)).2) ∨ (∃ p, v = nI p ∧ p ≤ 200 ∧ (readF T m 200 0 (t00, s00, g00)).1 = some p)))) := by
  refine ct_of (lv := [some (.ref (evz r + a)), some (.ref (evz r + x)), some (.ref (evz r + y)), none, none, none]) (by decide +kernel) rfl rfl rfl ?_
  obtain ⟨k1, k2, k3⟩ := id hb
  refine x_aload_2 dX3_read_0 ?_
  refine x_V0v dX3_read_1 m_X3_15 (c_X1_clear y hy) hy.1 (fun I1 h1 => ?_)
  obtain ⟨qf, q1, q2⟩ := h1
  refine x_aload_0 dX3_read_4 ?_
  refine x_const (c := 0) dX3_read_5 rfl ?_
  refine x_putA dX3_read_6 f_X3_20 k1 (fun J6 fr6 e6 => ?_)
  refine x_const (c := 0) dX3_read_9 rfl ?_
  refine x_istore_3 dX3_read_10 rfl rfl ?_
  exact l_X3_read a x y m T hb hx (txp_fr ht (fun z j hz => (fr6 z j (by omega)).trans (qf z j (by omega)))) hy hm hT hdis hdy hdx
      (fun J f1 f2 f3 f4 => ⟨_, rfl, rfl, fun z j hz => (f1 z j hz).trans ((fr6 z j (fun q => hz (Or.inl (Or.inl q.1)))).trans (qf z j (fun q => hz (Or.inr (by unfold FtN; omega))))), Or.inl ⟨rfl, f2, f3, f4⟩⟩)
      (fun J p f1 f2 f3 => ⟨_, rfl, rfl, fun z j hz => (f1 z j hz).trans ((fr6 z j (fun q => hz (Or.inl (Or.inl q.1)))).trans (qf z j (fun q => hz (Or.inr (by unfold FtN; omega))))), Or.inr ⟨p, rfl, f2, f3⟩⟩)
      201 0 0 _ _ _ _ (by omega) (by omega) (by omega) (fun _ _ _ => rfl) e6 (NP.fr (u := (t00, s00, g00)) ⟨q2, q1⟩ (by decide) (fun z j z1 z2 => fr6 z j (by omega))) okU_00 rfl
