/-! ===== the first text read ===== -/
def fu0 : Ts := (t00, s00, g00)
def fu1 : Ts := (addT fu0.1 0 3, addS fu0.1 fu0.2.1 0, fu0.2.2)
def fu2 : Ts := (addT fu1.1 1 2, addS fu1.1 fu1.2.1 2, fu1.2.2)
def fu3 : Ts := (addT fu2.1 2 3, addS fu2.1 fu2.2.1 3, fu2.2.2)
def fu4 : Ts := (addT fu3.1 3 4, addS fu3.1 fu3.2.1 5, fu3.2.2)
def fu5 : Ts := (addT fu4.1 0 2, addS fu4.1 fu4.2.1 8, fu4.2.2)
def fu6 : Ts := (fu5.1, fu5.2.1, addH fu5.2.2 3 0)
def fu7 : Ts := (fu6.1, fu6.2.1, addH fu6.2.2 5 0)
def fu8 : Ts := (fu7.1, fu7.2.1, addH fu7.2.2 2 1)
def fu9 : Ts := (fu8.1, fu8.2.1, addH fu8.2.2 0 1)
def fu10 : Ts := (fu9.1, fu9.2.1, setSun fu9.2.2 3)
def fu11 : Ts := (fu10.1, fu10.2.1, setSel fu10.2.2 6)
def fu12 : Ts := (fu11.1, fu11.2.1, setYrd fu11.2.2 5)
theorem rdS {T : Nat → Nat} {m k p q : Nat} {u u2 : Ts} (hp : p < m) (h : itemF T m p u = some (q, u2)) : readF T m (k + 1) p u = readF T m k q u2 := by
  show (if p < m then (match itemF T m p u with
    | none => (some p, u)
    | some x => readF T m k x.1 x.2) else (none, u)) = _
  rw [if_pos hp, h]
theorem rdE {T : Nat → Nat} {m k p : Nat} {u : Ts} (hp : ¬ p < m) : readF T m (k + 1) p u = (none, u) := by
  show (if p < m then (match itemF T m p u with
    | none => (some p, u)
    | some x => readF T m k x.1 x.2) else (none, u)) = _
  rw [if_neg hp]
theorem fit0 : itemF fT 64 0 fu0 = some (7, fu1) := by
  have ec : ltr fT 64 0 = 108 := by decide +kernel
  have ek : cntN (ltr fT 64 0) = 3 := by decide +kernel
  have eq : pNum fT 64 (0 + 1) (cntN (ltr fT 64 0)) = 7 := by decide +kernel
  have e0 : nvl fT 64 (pNum fT 64 (0 + 1) 0) = 0 := by decide +kernel
  have e1 : nvl fT 64 (pNum fT 64 (0 + 1) 1) = 0 := by decide +kernel
  have e2 : nvl fT 64 (pNum fT 64 (0 + 1) 2) = 3 := by decide +kernel
  have hk : okNums fT 64 (0 + 1) (cntN (ltr fT 64 0)) := by
    rw [ek]
    exact (show ∀ i, i < 3 → (48 ≤ ltr fT 64 (pNum fT 64 (0 + 1) i) ∧ ltr fT 64 (pNum fT 64 (0 + 1) i) ≤ 57) ∧ ltr fT 64 (npl fT 64 (pNum fT 64 (0 + 1) i)) = (if i + 1 < 3 then 44 else 59) by decide +kernel)
  have h := itemF_t (T := fT) (m := 64) (p := 0) (u := fu0) ⟨by rw [ek]; decide, hk⟩ (o := some fu1) (by rw [ec, e0, e1, e2]; exact tellF_l (show tN fu0.1 < 6 ∧ 0 ≤ 3 ∧ 0 ≤ 9 ∧ (∀ l, l < tN fu0.1 → sP fu0.2.1 l ≠ 0) ∧ 1 ≤ 3 ∧ 3 ≤ 9 by decide +kernel))
  rw [h, eq]
  rfl
theorem fit1 : itemF fT 64 7 fu1 = some (14, fu2) := by
  have ec : ltr fT 64 7 = 108 := by decide +kernel
  have ek : cntN (ltr fT 64 7) = 3 := by decide +kernel
  have eq : pNum fT 64 (7 + 1) (cntN (ltr fT 64 7)) = 14 := by decide +kernel
  have e0 : nvl fT 64 (pNum fT 64 (7 + 1) 0) = 1 := by decide +kernel
  have e1 : nvl fT 64 (pNum fT 64 (7 + 1) 1) = 2 := by decide +kernel
  have e2 : nvl fT 64 (pNum fT 64 (7 + 1) 2) = 2 := by decide +kernel
  have hk : okNums fT 64 (7 + 1) (cntN (ltr fT 64 7)) := by
    rw [ek]
    exact (show ∀ i, i < 3 → (48 ≤ ltr fT 64 (pNum fT 64 (7 + 1) i) ∧ ltr fT 64 (pNum fT 64 (7 + 1) i) ≤ 57) ∧ ltr fT 64 (npl fT 64 (pNum fT 64 (7 + 1) i)) = (if i + 1 < 3 then 44 else 59) by decide +kernel)
  have h := itemF_t (T := fT) (m := 64) (p := 7) (u := fu1) ⟨by rw [ek]; decide, hk⟩ (o := some fu2) (by rw [ec, e0, e1, e2]; exact tellF_l (show tN fu1.1 < 6 ∧ 1 ≤ 3 ∧ 2 ≤ 9 ∧ (∀ l, l < tN fu1.1 → sP fu1.2.1 l ≠ 2) ∧ 1 ≤ 2 ∧ 2 ≤ 9 by decide +kernel))
  rw [h, eq]
  rfl
theorem fit2 : itemF fT 64 14 fu2 = some (21, fu3) := by
  have ec : ltr fT 64 14 = 108 := by decide +kernel
  have ek : cntN (ltr fT 64 14) = 3 := by decide +kernel
  have eq : pNum fT 64 (14 + 1) (cntN (ltr fT 64 14)) = 21 := by decide +kernel
  have e0 : nvl fT 64 (pNum fT 64 (14 + 1) 0) = 2 := by decide +kernel
  have e1 : nvl fT 64 (pNum fT 64 (14 + 1) 1) = 3 := by decide +kernel
  have e2 : nvl fT 64 (pNum fT 64 (14 + 1) 2) = 3 := by decide +kernel
  have hk : okNums fT 64 (14 + 1) (cntN (ltr fT 64 14)) := by
    rw [ek]
    exact (show ∀ i, i < 3 → (48 ≤ ltr fT 64 (pNum fT 64 (14 + 1) i) ∧ ltr fT 64 (pNum fT 64 (14 + 1) i) ≤ 57) ∧ ltr fT 64 (npl fT 64 (pNum fT 64 (14 + 1) i)) = (if i + 1 < 3 then 44 else 59) by decide +kernel)
  have h := itemF_t (T := fT) (m := 64) (p := 14) (u := fu2) ⟨by rw [ek]; decide, hk⟩ (o := some fu3) (by rw [ec, e0, e1, e2]; exact tellF_l (show tN fu2.1 < 6 ∧ 2 ≤ 3 ∧ 3 ≤ 9 ∧ (∀ l, l < tN fu2.1 → sP fu2.2.1 l ≠ 3) ∧ 1 ≤ 3 ∧ 3 ≤ 9 by decide +kernel))
  rw [h, eq]
  rfl
theorem fit3 : itemF fT 64 21 fu3 = some (28, fu4) := by
  have ec : ltr fT 64 21 = 108 := by decide +kernel
  have ek : cntN (ltr fT 64 21) = 3 := by decide +kernel
  have eq : pNum fT 64 (21 + 1) (cntN (ltr fT 64 21)) = 28 := by decide +kernel
  have e0 : nvl fT 64 (pNum fT 64 (21 + 1) 0) = 3 := by decide +kernel
  have e1 : nvl fT 64 (pNum fT 64 (21 + 1) 1) = 5 := by decide +kernel
  have e2 : nvl fT 64 (pNum fT 64 (21 + 1) 2) = 4 := by decide +kernel
  have hk : okNums fT 64 (21 + 1) (cntN (ltr fT 64 21)) := by
    rw [ek]
    exact (show ∀ i, i < 3 → (48 ≤ ltr fT 64 (pNum fT 64 (21 + 1) i) ∧ ltr fT 64 (pNum fT 64 (21 + 1) i) ≤ 57) ∧ ltr fT 64 (npl fT 64 (pNum fT 64 (21 + 1) i)) = (if i + 1 < 3 then 44 else 59) by decide +kernel)
  have h := itemF_t (T := fT) (m := 64) (p := 21) (u := fu3) ⟨by rw [ek]; decide, hk⟩ (o := some fu4) (by rw [ec, e0, e1, e2]; exact tellF_l (show tN fu3.1 < 6 ∧ 3 ≤ 3 ∧ 5 ≤ 9 ∧ (∀ l, l < tN fu3.1 → sP fu3.2.1 l ≠ 5) ∧ 1 ≤ 4 ∧ 4 ≤ 9 by decide +kernel))
  rw [h, eq]
  rfl
theorem fit4 : itemF fT 64 28 fu4 = some (35, fu5) := by
  have ec : ltr fT 64 28 = 108 := by decide +kernel
  have ek : cntN (ltr fT 64 28) = 3 := by decide +kernel
  have eq : pNum fT 64 (28 + 1) (cntN (ltr fT 64 28)) = 35 := by decide +kernel
  have e0 : nvl fT 64 (pNum fT 64 (28 + 1) 0) = 0 := by decide +kernel
  have e1 : nvl fT 64 (pNum fT 64 (28 + 1) 1) = 8 := by decide +kernel
  have e2 : nvl fT 64 (pNum fT 64 (28 + 1) 2) = 2 := by decide +kernel
  have hk : okNums fT 64 (28 + 1) (cntN (ltr fT 64 28)) := by
    rw [ek]
    exact (show ∀ i, i < 3 → (48 ≤ ltr fT 64 (pNum fT 64 (28 + 1) i) ∧ ltr fT 64 (pNum fT 64 (28 + 1) i) ≤ 57) ∧ ltr fT 64 (npl fT 64 (pNum fT 64 (28 + 1) i)) = (if i + 1 < 3 then 44 else 59) by decide +kernel)
  have h := itemF_t (T := fT) (m := 64) (p := 28) (u := fu4) ⟨by rw [ek]; decide, hk⟩ (o := some fu5) (by rw [ec, e0, e1, e2]; exact tellF_l (show tN fu4.1 < 6 ∧ 0 ≤ 3 ∧ 8 ≤ 9 ∧ (∀ l, l < tN fu4.1 → sP fu4.2.1 l ≠ 8) ∧ 1 ≤ 2 ∧ 2 ≤ 9 by decide +kernel))
  rw [h, eq]
  rfl
theorem fit5 : itemF fT 64 35 fu5 = some (40, fu6) := by
  have ec : ltr fT 64 35 = 104 := by decide +kernel
  have ek : cntN (ltr fT 64 35) = 2 := by decide +kernel
  have eq : pNum fT 64 (35 + 1) (cntN (ltr fT 64 35)) = 40 := by decide +kernel
  have e0 : nvl fT 64 (pNum fT 64 (35 + 1) 0) = 3 := by decide +kernel
  have e1 : nvl fT 64 (pNum fT 64 (35 + 1) 1) = 0 := by decide +kernel
  have hk : okNums fT 64 (35 + 1) (cntN (ltr fT 64 35)) := by
    rw [ek]
    exact (show ∀ i, i < 2 → (48 ≤ ltr fT 64 (pNum fT 64 (35 + 1) i) ∧ ltr fT 64 (pNum fT 64 (35 + 1) i) ≤ 57) ∧ ltr fT 64 (npl fT 64 (pNum fT 64 (35 + 1) i)) = (if i + 1 < 2 then 44 else 59) by decide +kernel)
  have h := itemF_t (T := fT) (m := 64) (p := 35) (u := fu5) ⟨by rw [ek]; decide, hk⟩ (o := some fu6) (by rw [ec, e0, e1]; exact (tellF_h _ _ _ _).trans (if_pos (by decide +kernel)))
  rw [h, eq]
  rfl
theorem fit6 : itemF fT 64 40 fu6 = some (45, fu7) := by
  have ec : ltr fT 64 40 = 104 := by decide +kernel
  have ek : cntN (ltr fT 64 40) = 2 := by decide +kernel
  have eq : pNum fT 64 (40 + 1) (cntN (ltr fT 64 40)) = 45 := by decide +kernel
  have e0 : nvl fT 64 (pNum fT 64 (40 + 1) 0) = 5 := by decide +kernel
  have e1 : nvl fT 64 (pNum fT 64 (40 + 1) 1) = 0 := by decide +kernel
  have hk : okNums fT 64 (40 + 1) (cntN (ltr fT 64 40)) := by
    rw [ek]
    exact (show ∀ i, i < 2 → (48 ≤ ltr fT 64 (pNum fT 64 (40 + 1) i) ∧ ltr fT 64 (pNum fT 64 (40 + 1) i) ≤ 57) ∧ ltr fT 64 (npl fT 64 (pNum fT 64 (40 + 1) i)) = (if i + 1 < 2 then 44 else 59) by decide +kernel)
  have h := itemF_t (T := fT) (m := 64) (p := 40) (u := fu6) ⟨by rw [ek]; decide, hk⟩ (o := some fu7) (by rw [ec, e0, e1]; exact (tellF_h _ _ _ _).trans (if_pos (by decide +kernel)))
  rw [h, eq]
  rfl
theorem fit7 : itemF fT 64 45 fu7 = some (50, fu8) := by
  have ec : ltr fT 64 45 = 104 := by decide +kernel
  have ek : cntN (ltr fT 64 45) = 2 := by decide +kernel
  have eq : pNum fT 64 (45 + 1) (cntN (ltr fT 64 45)) = 50 := by decide +kernel
  have e0 : nvl fT 64 (pNum fT 64 (45 + 1) 0) = 2 := by decide +kernel
  have e1 : nvl fT 64 (pNum fT 64 (45 + 1) 1) = 1 := by decide +kernel
  have hk : okNums fT 64 (45 + 1) (cntN (ltr fT 64 45)) := by
    rw [ek]
    exact (show ∀ i, i < 2 → (48 ≤ ltr fT 64 (pNum fT 64 (45 + 1) i) ∧ ltr fT 64 (pNum fT 64 (45 + 1) i) ≤ 57) ∧ ltr fT 64 (npl fT 64 (pNum fT 64 (45 + 1) i)) = (if i + 1 < 2 then 44 else 59) by decide +kernel)
  have h := itemF_t (T := fT) (m := 64) (p := 45) (u := fu7) ⟨by rw [ek]; decide, hk⟩ (o := some fu8) (by rw [ec, e0, e1]; exact (tellF_h _ _ _ _).trans (if_pos (by decide +kernel)))
  rw [h, eq]
  rfl
theorem fit8 : itemF fT 64 50 fu8 = some (55, fu9) := by
  have ec : ltr fT 64 50 = 104 := by decide +kernel
  have ek : cntN (ltr fT 64 50) = 2 := by decide +kernel
  have eq : pNum fT 64 (50 + 1) (cntN (ltr fT 64 50)) = 55 := by decide +kernel
  have e0 : nvl fT 64 (pNum fT 64 (50 + 1) 0) = 0 := by decide +kernel
  have e1 : nvl fT 64 (pNum fT 64 (50 + 1) 1) = 1 := by decide +kernel
  have hk : okNums fT 64 (50 + 1) (cntN (ltr fT 64 50)) := by
    rw [ek]
    exact (show ∀ i, i < 2 → (48 ≤ ltr fT 64 (pNum fT 64 (50 + 1) i) ∧ ltr fT 64 (pNum fT 64 (50 + 1) i) ≤ 57) ∧ ltr fT 64 (npl fT 64 (pNum fT 64 (50 + 1) i)) = (if i + 1 < 2 then 44 else 59) by decide +kernel)
  have h := itemF_t (T := fT) (m := 64) (p := 50) (u := fu8) ⟨by rw [ek]; decide, hk⟩ (o := some fu9) (by rw [ec, e0, e1]; exact (tellF_h _ _ _ _).trans (if_pos (by decide +kernel)))
  rw [h, eq]
  rfl
theorem fit9 : itemF fT 64 55 fu9 = some (58, fu10) := by
  have ec : ltr fT 64 55 = 115 := by decide +kernel
  have ek : cntN (ltr fT 64 55) = 1 := by decide +kernel
  have eq : pNum fT 64 (55 + 1) (cntN (ltr fT 64 55)) = 58 := by decide +kernel
  have e0 : nvl fT 64 (pNum fT 64 (55 + 1) 0) = 3 := by decide +kernel
  have hk : okNums fT 64 (55 + 1) (cntN (ltr fT 64 55)) := by
    rw [ek]
    exact (show ∀ i, i < 1 → (48 ≤ ltr fT 64 (pNum fT 64 (55 + 1) i) ∧ ltr fT 64 (pNum fT 64 (55 + 1) i) ≤ 57) ∧ ltr fT 64 (npl fT 64 (pNum fT 64 (55 + 1) i)) = (if i + 1 < 1 then 44 else 59) by decide +kernel)
  have h := itemF_t (T := fT) (m := 64) (p := 55) (u := fu9) ⟨by rw [ek]; decide, hk⟩ (o := some fu10) (by rw [ec, e0]; exact (tellF_s _ _ _ _).trans (if_pos (by decide +kernel)))
  rw [h, eq]
  rfl
theorem fit10 : itemF fT 64 58 fu10 = some (61, fu11) := by
  have ec : ltr fT 64 58 = 109 := by decide +kernel
  have ek : cntN (ltr fT 64 58) = 1 := by decide +kernel
  have eq : pNum fT 64 (58 + 1) (cntN (ltr fT 64 58)) = 61 := by decide +kernel
  have e0 : nvl fT 64 (pNum fT 64 (58 + 1) 0) = 6 := by decide +kernel
  have hk : okNums fT 64 (58 + 1) (cntN (ltr fT 64 58)) := by
    rw [ek]
    exact (show ∀ i, i < 1 → (48 ≤ ltr fT 64 (pNum fT 64 (58 + 1) i) ∧ ltr fT 64 (pNum fT 64 (58 + 1) i) ≤ 57) ∧ ltr fT 64 (npl fT 64 (pNum fT 64 (58 + 1) i)) = (if i + 1 < 1 then 44 else 59) by decide +kernel)
  have h := itemF_t (T := fT) (m := 64) (p := 58) (u := fu10) ⟨by rw [ek]; decide, hk⟩ (o := some fu11) (by rw [ec, e0]; exact (tellF_m _ _ _ _).trans (if_pos (by decide +kernel)))
  rw [h, eq]
  rfl
theorem fit11 : itemF fT 64 61 fu11 = some (64, fu12) := by
  have ec : ltr fT 64 61 = 121 := by decide +kernel
  have ek : cntN (ltr fT 64 61) = 1 := by decide +kernel
  have eq : pNum fT 64 (61 + 1) (cntN (ltr fT 64 61)) = 64 := by decide +kernel
  have e0 : nvl fT 64 (pNum fT 64 (61 + 1) 0) = 5 := by decide +kernel
  have hk : okNums fT 64 (61 + 1) (cntN (ltr fT 64 61)) := by
    rw [ek]
    exact (show ∀ i, i < 1 → (48 ≤ ltr fT 64 (pNum fT 64 (61 + 1) i) ∧ ltr fT 64 (pNum fT 64 (61 + 1) i) ≤ 57) ∧ ltr fT 64 (npl fT 64 (pNum fT 64 (61 + 1) i)) = (if i + 1 < 1 then 44 else 59) by decide +kernel)
  have h := itemF_t (T := fT) (m := 64) (p := 61) (u := fu11) ⟨by rw [ek]; decide, hk⟩ (o := some fu12) (by rw [ec, e0]; exact (tellF_y _ _ _ _ (by decide) (by decide) (by decide) (by decide)).trans (if_pos (by decide +kernel)))
  rw [h, eq]
  rfl
theorem rd_first : readF fT 64 200 0 (t00, s00, g00) = (none, fu12) := (rdS (by decide) fit0).trans ((rdS (by decide) fit1).trans ((rdS (by decide) fit2).trans ((rdS (by decide) fit3).trans ((rdS (by decide) fit4).trans ((rdS (by decide) fit5).trans ((rdS (by decide) fit6).trans ((rdS (by decide) fit7).trans ((rdS (by decide) fit8).trans ((rdS (by decide) fit9).trans ((rdS (by decide) fit10).trans ((rdS (by decide) fit11).trans (rdE (k := 187) (by decide)))))))))))))
/-- how it all begins -/
def S0 : Sy := ((0, fT), (fu12.1, fu12.2.2), fu12.2.1, (0, fun _ => s00), (0, fun _ => s00), (0, fun _ => 0, fun _ => 0, fun _ => 0))
theorem okU_first : okU fu12 := by
  have h := okU_read fT 64
  rw [rd_first] at h
  exact h
theorem zU_first : zU fu12 := by
  have h := zU_read fT 64
  rw [rd_first] at h
  exact h
theorem okY_S0 : okY S0 := ⟨Nat.zero_le _, fun k hk => absurd hk (Nat.not_lt_zero k), okU_first.1, okU_first.2.2.1, ⟨okU_first.2.1, by have := okU_first.2.2.2.1; show sR fu12.2.1 ≤ 99; omega⟩, by decide +kernel, okU_first.2.2.2.2, Nat.zero_le _, fun i hi => absurd hi (Nat.not_lt_zero i), Nat.zero_le _, fun i hi => absurd hi (Nat.not_lt_zero i), Nat.zero_le _, fun i hi => absurd hi (Nat.not_lt_zero i)⟩
set_option maxHeartbeats 4000000 in
theorem l_X8_tail {r : Ev} {F : Post} {I : MI} {Q : MQ2} {p1 p2 : Nat → Nat} (hB : CWB 148 Q 124 136 p1 p2) (ct : txp I 1 64 fT) {w1 : Int32} (hF : ∀ J Q', CW 148 J Q' S0 → F none J Q') : X r 6 yX8_init cX8_init (2, none) (0, 0) 147 [some (.ref (evz r + 0)), some (.int w1)] [] 148 I Q F := by
  refine x_aload_0 dX8_init_147 ?_
  refine x_V0I dX8_init_148 m_X8_85 (c_X8_layText hB 64 fT ct (by omega) (fun k hk => fT_lt k hk)) hB.1 (fun x148 I148 Q148 h148 => ?_)
  rw [rd_first] at h148
  obtain ⟨-, h148⟩ := h148
  rcases h148 with ⟨-, -, q1, q2, hB2, -, ss, e23, e97, e117, nt⟩ | ⟨hn, -⟩
  · have tx := hB2.2.1
    have q0 : Q148 0 0 = some 1 := hB2.2.2.2.2.2.2.2.2.2.2.2.2.1
    refine x_pop_int dX8_init_151 ?_
    refine x_aload_0 dX8_init_152 ?_
    refine x_getr dX8_init_153 f_X8_12 hB2.1 q0 ?_
    refine x_V0v dX8_init_156 m_X8_88 (c_X6_clear 1 tx) tx.1 (fun I156 h156 => ?_)
    obtain ⟨f156, e156⟩ := h156
    have t6 : tN fu12.1 ≤ 6 := okU_first.1.1
    refine x_vret (st := []) dX8_init_159 rfl (hF _ _ ⟨136, 124, q1, q2, hB2, ⟨e156, fun k hk => absurd hk (Nat.not_lt_zero k)⟩, ss.fr t6 (fun x j z1 z2 => f156 x j (by omega)), ⟨(f156 _ _ (by omega)).trans e23, fun i hi => absurd hi (Nat.not_lt_zero i)⟩, ⟨(f156 _ _ (by omega)).trans e97, fun i hi => absurd hi (Nat.not_lt_zero i)⟩, ⟨(f156 _ _ (by omega)).trans e117, fun i hi => absurd hi (Nat.not_lt_zero i)⟩, ntp_fr nt (fun x j z => f156 x j (by omega))⟩)
  · exact absurd ⟨rfl, by decide +kernel⟩ hn
set_option maxHeartbeats 4000000 in
theorem l_X8_text {r : Ev} {F : Post} {Q : MQ2} {p1 p2 : Nat → Nat} (hB : CWB 148 Q 124 136 p1 p2) (hF : ∀ J Q', CW 148 J Q' S0 → F none J Q') : ∀ (k i : Nat) (I : MI), i + k = 64 → txp I 1 i fT → X r 6 yX8_init cX8_init (2, none) (0, 0) 119 [some (.ref (evz r + 0)), some (.int (nI i))] [] 148 I Q F := by
  have q0 : Q 0 0 = some 1 := hB.2.2.2.2.2.2.2.2.2.2.2.2.1
  intro k
  induction k with
  | zero =>
    intro i I hi ct
    obtain rfl : i = 64 := by omega
    refine x_iload_1 dX8_init_119 ?_
    refine x_ldcK dX8_init_120 rfl ?_
    refine x_K0i dX8_init_122 m_X8_71 c_J0_length rfl (fun x122 I122 h122 => ?_)
    obtain ⟨rfl, rfl⟩ := h122
    refine x_icmp_geN dX8_init_125 (by omega) (by omega) (fun c125 => ?_) (fun c125 => ?_)
    · exact l_X8_tail hB ct hF
    · exfalso; omega
  | succ k ih =>
    intro i I hi ct
    refine x_iload_1 dX8_init_119 ?_
    refine x_ldcK dX8_init_120 rfl ?_
    refine x_K0i dX8_init_122 m_X8_71 c_J0_length rfl (fun x122 I122 h122 => ?_)
    obtain ⟨rfl, rfl⟩ := h122
    refine x_icmp_geN dX8_init_125 (by omega) (by omega) (fun c125 => ?_) (fun c125 => ?_)
    · exfalso; omega
    · refine x_aload_0 dX8_init_128 ?_
      refine x_getr dX8_init_129 f_X8_12 hB.1 q0 ?_
      refine x_ldcK dX8_init_132 rfl ?_
      refine x_iload_1 dX8_init_134 ?_
      refine x_K1i dX8_init_135 m_X8_77 (c_J0_charAt i (by omega)) rfl (fun x135 I135 h135 => ?_)
      obtain ⟨rfl, rfl⟩ := h135
      refine x_V1v dX8_init_138 m_X8_81 (c_X6_append 1 i fT hB.2.1 ct (by omega) (by omega) (fT i) (by have := fT_lt i (by omega); omega)) hB.2.1.1 (fun I138 h138 => ?_)
      obtain ⟨-, ct2⟩ := h138
      rw [nup_self] at ct2
      refine x_iinc_1 dX8_init_141 (iinc1 _) rfl rfl ?_
      refine x_goto dX8_init_144 ?_
      exact ih (i + 1) _ (by omega) ct2
/-- rows that are made and fields that are set, one behind the other -/
def Hs (N k : Nat) (I : MI) (Q : MQ2) (J : MI) (Q' : MQ2) : Prop := (∀ x, 1 ≤ x → x < N → J x = I x ∧ Q' x = Q x) ∧ ∀ j, j < k → Q' 0 j = Q 0 j
theorem Hs.tr {N k N2 k2 : Nat} {I J K : MI} {Q Q' Q2 : MQ2} (h1 : Hs N k I Q J Q') (h2 : Hs N2 k2 J Q' K Q2) (hN : N ≤ N2) (hk : k ≤ k2) : Hs N k I Q K Q2 := ⟨fun x g1 g2 => ⟨(h2.1 x g1 (by omega)).1.trans (h1.1 x g1 g2).1, (h2.1 x g1 (by omega)).2.trans (h1.1 x g1 g2).2⟩, fun j hj => (h2.2 j (by omega)).trans (h1.2 j hj)⟩
theorem Hs.step {N : Nat} (k : Nat) (v : Option Nat) {I J : MI} {Q Q' : MQ2} {f : Nat → Int32} {f2 : Nat → Option Nat} (h0 : 1 ≤ N) (g : FrB N (setRow I N f) (setRow Q N f2) J Q') : Hs N k I Q J (up2 Q' 0 k v) := ⟨fun x g1 g2 => ⟨(g x g2).1.trans (setRow_ne (by omega)), (up2_row (by omega)).trans ((g x g2).2.trans (setRow_ne (by omega)))⟩, fun j hj => (up2_ne (by omega)).trans ((congrFun (g 0 h0).2 j).trans (congrFun (setRow_ne (by omega)) j))⟩
theorem kPl_of {a L : Nat} (h1 : kd a = 2) (h2 : kd (a + 1) = 13 ∧ nn (a + 1) = L) (g1 : ∀ k, k < L → kd (a + 2 + 9 * k) = 5) (g2 : ∀ k, k < L → kd (a + 2 + 9 * k + 1) = 12 ∧ nn (a + 2 + 9 * k + 1) = 6) (g3 : ∀ k, k < L → kd (a + 2 + 9 * k + 2) = 11 ∧ nn (a + 2 + 9 * k + 2) = 6) (g4 : ∀ k, k < L → ∀ j, j < 6 → kd (a + 2 + 9 * k + 3 + j) = 0) : kPl a L := ⟨h1, h2, fun k hk => ⟨g1 k hk, g2 k hk, g3 k hk, g4 k hk⟩⟩
theorem kSl_of {a : Nat} (h1 : kd a = 5) (h2 : kd (a + 1) = 12 ∧ nn (a + 1) = 6) (h3 : kd (a + 2) = 11 ∧ nn (a + 2) = 6) (h4 : ∀ k, k < 6 → kd (a + 3 + k) = 0) : kSl a := ⟨h1, h2, h3, h4⟩
set_option maxHeartbeats 8000000 in
theorem c_X8_init {r : Ev} {I : MI} {Q : MQ2} : CT r 6 yX8_init cX8_init (2, none) (147, 1147) [.ref (evz r + 0)] 1 I Q (RV (fun J Q' => CW 148 J Q' S0)) := by
  have hO : ∀ n, 1 ≤ n → Ob n 8 0 := fun n hn => ⟨by decide +kernel, hn⟩
  refine ct_of (lv := [some (.ref (evz r + 0)), none]) (by decide +kernel) rfl rfl rfl ?_
  refine x_aload_0 dX8_init_0 ?_
  refine x_objinit dX8_init_1 m_X8_3 ?_
  refine x_aload_0 dX8_init_4 ?_
  refine x_new (146, 1145) dX8_init_5 n_X8_9 (by decide +kernel) ⟨rfl, rfl⟩ ?_
  refine x_dup_ref dX8_init_8 ?_
  refine x_I0 (145, 945) dX8_init_9 m_X8_11 (c_X6_init 1 (by decide +kernel)) ⟨rfl, rfl⟩ (fun I0 Q0 h0 => ?_)
  obtain ⟨s0, g0, e0⟩ := h0
  refine x_n (n' := 3) rfl ?_
  refine x_putrF dX8_init_12 f_X8_12 f_X8_12_l rfl rfl rfl rfl rfl (hO _ (by omega)) ?_
  have t0 := Hs.step 0 (some 1) (by omega) g0
  refine x_aload_0 dX8_init_15 ?_
  refine x_new (144, 943) dX8_init_16 n_X8_16 (by decide +kernel) ⟨rfl, rfl⟩ ?_
  refine x_dup_ref dX8_init_19 ?_
  refine x_I0 (143, 940) dX8_init_20 m_X8_18 (c_X3_init 3 (by decide +kernel)) ⟨rfl, rfl⟩ (fun I1 Q1 h1 => ?_)
  obtain ⟨s1, g1, -⟩ := h1
  refine x_n (n' := 5) rfl ?_
  refine x_putrF dX8_init_23 f_X8_19 f_X8_19_l rfl rfl rfl rfl rfl (hO _ (by omega)) ?_
  have t1 := Hs.step 1 (some 3) (by omega) g1
  refine x_aload_0 dX8_init_26 ?_
  refine x_new (142, 935) dX8_init_27 n_X8_23 (by decide +kernel) ⟨rfl, rfl⟩ ?_
  refine x_dup_ref dX8_init_30 ?_
  refine x_I0 (134, 881) dX8_init_31 m_X8_25 (c_X5_init 5 (kSl_of (by decide +kernel) (by decide +kernel) (by decide +kernel) (by decide +kernel))) ⟨rfl, rfl⟩ (fun I2 Q2 h2 => ?_)
  obtain ⟨s2, g2⟩ := h2
  refine x_n (n' := 14) rfl ?_
  refine x_putrF dX8_init_34 f_X8_26 f_X8_26_l rfl rfl rfl rfl rfl (hO _ (by omega)) ?_
  have t2 := Hs.step 2 (some 5) (by omega) g2
  refine x_aload_0 dX8_init_37 ?_
  refine x_new (133, 876) dX8_init_38 n_X8_23 (by decide +kernel) ⟨rfl, rfl⟩ ?_
  refine x_dup_ref dX8_init_41 ?_
  refine x_I0 (125, 822) dX8_init_42 m_X8_25 (c_X5_init 14 (kSl_of (by decide +kernel) (by decide +kernel) (by decide +kernel) (by decide +kernel))) ⟨rfl, rfl⟩ (fun I3 Q3 h3 => ?_)
  obtain ⟨s3, g3⟩ := h3
  refine x_n (n' := 23) rfl ?_
  refine x_putrF dX8_init_45 f_X8_30 f_X8_30_l rfl rfl rfl rfl rfl (hO _ (by omega)) ?_
  have t3 := Hs.step 3 (some 14) (by omega) g3
  refine x_aload_0 dX8_init_48 ?_
  refine x_new (124, 820) dX8_init_49 n_X8_33 (by decide +kernel) ⟨rfl, rfl⟩ ?_
  refine x_dup_ref dX8_init_52 ?_
  refine x_bip (c := 8) dX8_init_53 (by decide) ?_
  refine x_I1 (51, 340) dX8_init_55 m_X8_35 (c_X2_init 23 8 (by omega) (by omega) (kPl_of (by decide +kernel) (by decide +kernel) (by decide +kernel) (by decide +kernel) (by decide +kernel) (by decide +kernel))) ⟨rfl, rfl⟩ (fun I4 Q4 h4 => ?_)
  obtain ⟨s4, g4⟩ := h4
  refine x_n (n' := 97) rfl ?_
  refine x_putrF dX8_init_58 f_X8_38 f_X8_38_l rfl rfl rfl rfl rfl (hO _ (by omega)) ?_
  have t4 := Hs.step 4 (some 23) (by omega) g4
  refine x_aload_0 dX8_init_61 ?_
  refine x_new (50, 338) dX8_init_62 n_X8_33 (by decide +kernel) ⟨rfl, rfl⟩ ?_
  refine x_dup_ref dX8_init_65 ?_
  refine x_const (c := 2) dX8_init_66 rfl ?_
  refine x_I1 (31, 218) dX8_init_67 m_X8_35 (c_X2_init 97 2 (by omega) (by omega) (kPl_of (by decide +kernel) (by decide +kernel) (by decide +kernel) (by decide +kernel) (by decide +kernel) (by decide +kernel))) ⟨rfl, rfl⟩ (fun I5 Q5 h5 => ?_)
  obtain ⟨s5, g5⟩ := h5
  refine x_n (n' := 117) rfl ?_
  refine x_putrF dX8_init_70 f_X8_42 f_X8_42_l rfl rfl rfl rfl rfl (hO _ (by omega)) ?_
  have t5 := Hs.step 5 (some 97) (by omega) g5
  refine x_aload_0 dX8_init_73 ?_
  refine x_new (30, 214) dX8_init_74 n_X8_45 (by decide +kernel) ⟨rfl, rfl⟩ ?_
  refine x_dup_ref dX8_init_77 ?_
  refine x_I0 (27, 196) dX8_init_78 m_X8_47 (c_X4_init 117 (by decide +kernel)) ⟨rfl, rfl⟩ (fun I6 Q6 h6 => ?_)
  obtain ⟨s6, g6, -⟩ := h6
  refine x_n (n' := 121) rfl ?_
  refine x_putrF dX8_init_81 f_X8_48 f_X8_48_l rfl rfl rfl rfl rfl (hO _ (by omega)) ?_
  have t6 := Hs.step 6 (some 117) (by omega) g6
  refine x_aload_0 dX8_init_84 ?_
  refine x_new (26, 192) dX8_init_85 n_X8_52 (by decide +kernel) ⟨rfl, rfl⟩ ?_
  refine x_dup_ref dX8_init_88 ?_
  refine x_I0 (24, 180) dX8_init_89 m_X8_54 (c_X7_init 121 (by decide +kernel)) ⟨rfl, rfl⟩ (fun I7 Q7 h7 => ?_)
  obtain ⟨s7, g7, -⟩ := h7
  refine x_n (n' := 124) rfl ?_
  refine x_putrF dX8_init_92 f_X8_55 f_X8_55_l rfl rfl rfl rfl rfl (hO _ (by omega)) ?_
  have t7 := Hs.step 7 (some 121) (by omega) g7
  refine x_aload_0 dX8_init_95 ?_
  refine x_new (23, 173) dX8_init_96 n_X8_59 (by decide +kernel) ⟨rfl, rfl⟩ ?_
  refine x_dup_ref dX8_init_99 ?_
  refine x_I0 (12, 90) dX8_init_100 m_X8_61 (c_X1_init 124 ⟨by decide +kernel, (kSl_of (by decide +kernel) (by decide +kernel) (by decide +kernel) (by decide +kernel)), by decide +kernel, by decide +kernel⟩) ⟨rfl, rfl⟩ (fun I8 Q8 h8 => ?_)
  obtain ⟨s8, g8⟩ := h8
  refine x_n (n' := 136) rfl ?_
  refine x_putr dX8_init_103 f_X8_62 rfl rfl rfl (hO _ (by omega)) ?_
  have t8 := Hs.step 8 (some 124) (by omega) g8
  refine x_aload_0 dX8_init_106 ?_
  refine x_new (11, 83) dX8_init_107 n_X8_59 (by decide +kernel) ⟨rfl, rfl⟩ ?_
  refine x_dup_ref dX8_init_110 ?_
  refine x_I0 (0, 0) dX8_init_111 m_X8_61 (c_X1_init 136 ⟨by decide +kernel, (kSl_of (by decide +kernel) (by decide +kernel) (by decide +kernel) (by decide +kernel)), by decide +kernel, by decide +kernel⟩) ⟨rfl, rfl⟩ (fun I9 Q9 h9 => ?_)
  obtain ⟨s9, g9⟩ := h9
  refine x_n (n' := 148) rfl ?_
  refine x_putr dX8_init_114 f_X8_66 rfl rfl rfl (hO _ (by omega)) ?_
  have t9 := Hs.step 9 (some 136) (by omega) g9
  have T9 := t9
  have T8 := t8.tr T9 (by omega) (by omega)
  have T7 := t7.tr T8 (by omega) (by omega)
  have T6 := t6.tr T7 (by omega) (by omega)
  have T5 := t5.tr T6 (by omega) (by omega)
  have T4 := t4.tr T5 (by omega) (by omega)
  have T3 := t3.tr T4 (by omega) (by omega)
  have T2 := t2.tr T3 (by omega) (by omega)
  have T1 := t1.tr T2 (by omega) (by omega)
  have T0 := t0.tr T1 (by omega) (by omega)
  have b0 := s0.up (n' := 148) (by omega) (fun x x1 x2 => ((T1.1 x (by omega) (by omega)).2.trans (up2_row (by omega))))
  have q0 := (T1.2 0 (by omega)).trans (up2_same _ 0 0 (some 1))
  have b1 := s1.up (n' := 148) (by omega) (fun x x1 x2 => ((T2.1 x (by omega) (by omega)).2.trans (up2_row (by omega))))
  have q1 := (T2.2 1 (by omega)).trans (up2_same _ 0 1 (some 3))
  have b2 := s2.up (n' := 148) (by omega) (fun x x1 x2 => ((T3.1 x (by omega) (by omega)).2.trans (up2_row (by omega))))
  have q2 := (T3.2 2 (by omega)).trans (up2_same _ 0 2 (some 5))
  have b3 := s3.up (n' := 148) (by omega) (fun x x1 x2 => ((T4.1 x (by omega) (by omega)).2.trans (up2_row (by omega))))
  have q3 := (T4.2 3 (by omega)).trans (up2_same _ 0 3 (some 14))
  have b4 := s4.up (n' := 148) (by omega) (fun x x1 x2 => ((T5.1 x (by omega) (by omega)).2.trans (up2_row (by omega))))
  have q4 := (T5.2 4 (by omega)).trans (up2_same _ 0 4 (some 23))
  have b5 := s5.up (n' := 148) (by omega) (fun x x1 x2 => ((T6.1 x (by omega) (by omega)).2.trans (up2_row (by omega))))
  have q5 := (T6.2 5 (by omega)).trans (up2_same _ 0 5 (some 97))
  have b6 := s6.up (n' := 148) (by omega) (fun x x1 x2 => ((T7.1 x (by omega) (by omega)).2.trans (up2_row (by omega))))
  have q6 := (T7.2 6 (by omega)).trans (up2_same _ 0 6 (some 117))
  have b7 := s7.up (n' := 148) (by omega) (fun x x1 x2 => ((T8.1 x (by omega) (by omega)).2.trans (up2_row (by omega))))
  have q7 := (T8.2 7 (by omega)).trans (up2_same _ 0 7 (some 121))
  have b8 := s8.up (n' := 148) (by omega) (fun x x1 x2 => ((T9.1 x (by omega) (by omega)).2.trans (up2_row (by omega))))
  have q8 := (T9.2 8 (by omega)).trans (up2_same _ 0 8 (some 124))
  have b9 := s9.up (n' := 148) (Q' := up2 Q9 0 9 (some 136)) (by omega) (fun x x1 x2 => up2_row (by omega))
  have q9 := up2_same Q9 0 9 (some 136)
  have hm : I9 1 1 = nI 0 := (congrFun (T1.1 1 (by omega) (by omega)).1 1).trans ((congrFun e0 1).trans (congrFun (setRow_same _ _ _) 1))
  have hB : CWB 148 _ 124 136 (fun i => i) (fun i => i) := ⟨hO 148 (by omega), b0, b1, b2, b3, b4, b5, b6, b7, b8, b9, Or.inl ⟨rfl, rfl⟩, q0, q1, q2, q3, q4, q5, q6, q7, q8, q9⟩
  refine x_const (c := 0) dX8_init_117 rfl ?_
  refine x_istore_1 dX8_init_118 rfl rfl ?_
  exact l_X8_text hB (fun J Q' h => ⟨rfl, h⟩) 64 0 _ rfl ⟨hm, fun k hk => absurd hk (Nat.not_lt_zero k)⟩
theorem x_nm {r : Ev} {d : Nat} {y : MethodName} {cc : ByteArray} {mr : Nat × Option FieldType} {b : Nat × Nat} {pc : Nat} {lv : List (Option Value)} {st : List Value} {n : Nat} {I : MI} {Q : MQ2} {F : Post} {P : MI → MQ2 → Prop} (h : P I Q) (k : ∀ J Q', P J Q' → X r d y cc mr b pc lv st n J Q' F) : X r d y cc mr b pc lv st n I Q F := k I Q h
set_option maxHeartbeats 8000000 in
theorem c_X9_init {r : Ev} {I : MI} {Q : MQ2} (h1 : I 148 1 = nI 0) : CT r 1 yX9_init cX9_init (1, none) (10, 612) [.ref (evz r + 148)] 149 I Q (RV (fun J Q' => (MdB 159 Q' 148 ∧ MdI J 148 S0) ∧ FrB 148 I Q J Q')) := by
  have hO : ∀ n, 149 ≤ n → Ob n 9 148 := fun n hn => ⟨by decide +kernel, hn⟩
  refine ct_of (lv := [some (.ref (evz r + 148))]) (by decide +kernel) rfl rfl rfl ?_
  refine x_aload_0 dX9_init_0 ?_
  refine x_objinit dX9_init_1 m_X9_1 ?_
  refine x_aload_0 dX9_init_4 ?_
  refine x_sip (c := 200) dX9_init_5 (by decide) ?_
  refine x_newI (9, 412) dX9_init_8 a_int (by decide +kernel) rfl ⟨rfl, rfl⟩ ?_
  refine x_n (n' := 150) rfl ?_
  refine x_putrF dX9_init_10 f_X9_7 f_X9_7_l rfl rfl rfl rfl rfl (hO _ (by omega)) ?_
  refine x_aload_0 dX9_init_13 ?_
  refine x_bip (c := 41) dX9_init_14 (by decide) ?_
  refine x_newI (8, 371) dX9_init_16 a_int (by decide +kernel) rfl ⟨rfl, rfl⟩ ?_
  refine x_n (n' := 151) rfl ?_
  refine x_putrF dX9_init_18 f_X9_13 f_X9_13_l rfl rfl rfl rfl rfl (hO _ (by omega)) ?_
  refine x_aload_0 dX9_init_21 ?_
  refine x_bip (c := 41) dX9_init_22 (by decide) ?_
  refine x_newI (7, 330) dX9_init_24 a_int (by decide +kernel) rfl ⟨rfl, rfl⟩ ?_
  refine x_n (n' := 152) rfl ?_
  refine x_putrF dX9_init_26 f_X9_16 f_X9_16_l rfl rfl rfl rfl rfl (hO _ (by omega)) ?_
  refine x_aload_0 dX9_init_29 ?_
  refine x_bip (c := 6) dX9_init_30 (by decide) ?_
  refine x_newI (6, 324) dX9_init_32 a_int (by decide +kernel) rfl ⟨rfl, rfl⟩ ?_
  refine x_n (n' := 153) rfl ?_
  refine x_putrF dX9_init_34 f_X9_19 f_X9_19_l rfl rfl rfl rfl rfl (hO _ (by omega)) ?_
  refine x_aload_0 dX9_init_37 ?_
  refine x_bip (c := 26) dX9_init_38 (by decide) ?_
  refine x_newI (5, 298) dX9_init_40 a_int (by decide +kernel) rfl ⟨rfl, rfl⟩ ?_
  refine x_n (n' := 154) rfl ?_
  refine x_putrF dX9_init_42 f_X9_22 f_X9_22_l rfl rfl rfl rfl rfl (hO _ (by omega)) ?_
  refine x_aload_0 dX9_init_45 ?_
  refine x_sip (c := 208) dX9_init_46 (by decide) ?_
  refine x_newI (4, 90) dX9_init_49 a_int (by decide +kernel) rfl ⟨rfl, rfl⟩ ?_
  refine x_n (n' := 155) rfl ?_
  refine x_putrF dX9_init_51 f_X9_25 f_X9_25_l rfl rfl rfl rfl rfl (hO _ (by omega)) ?_
  refine x_aload_0 dX9_init_54 ?_
  refine x_bip (c := 52) dX9_init_55 (by decide) ?_
  refine x_newI (3, 38) dX9_init_57 a_int (by decide +kernel) rfl ⟨rfl, rfl⟩ ?_
  refine x_n (n' := 156) rfl ?_
  refine x_putrF dX9_init_59 f_X9_28 f_X9_28_l rfl rfl rfl rfl rfl (hO _ (by omega)) ?_
  refine x_aload_0 dX9_init_62 ?_
  refine x_bip (c := 6) dX9_init_63 (by decide) ?_
  refine x_newI (2, 32) dX9_init_65 a_int (by decide +kernel) rfl ⟨rfl, rfl⟩ ?_
  refine x_n (n' := 157) rfl ?_
  refine x_putrF dX9_init_67 f_X9_31 f_X9_31_l rfl rfl rfl rfl rfl (hO _ (by omega)) ?_
  refine x_aload_0 dX9_init_70 ?_
  refine x_bip (c := 6) dX9_init_71 (by decide) ?_
  refine x_newI (1, 26) dX9_init_73 a_int (by decide +kernel) rfl ⟨rfl, rfl⟩ ?_
  refine x_n (n' := 158) rfl ?_
  refine x_putrF dX9_init_75 f_X9_34 f_X9_34_l rfl rfl rfl rfl rfl (hO _ (by omega)) ?_
  refine x_aload_0 dX9_init_78 ?_
  refine x_bip (c := 26) dX9_init_79 (by decide) ?_
  refine x_newI (0, 0) dX9_init_81 a_int (by decide +kernel) rfl ⟨rfl, rfl⟩ ?_
  refine x_n (n' := 159) rfl ?_
  refine x_putrF dX9_init_83 f_X9_37 f_X9_37_l rfl rfl rfl rfl rfl (hO _ (by omega)) ?_
  refine x_nm (P := fun J Q' => (FrB 148 I Q J Q' ∧ J 148 = I 148) ∧ MdB 159 Q' 148) ⟨⟨((((((((((((((((((((FrB.rf 148 I Q).row (by omega)).up (by omega)).row (by omega)).up (by omega)).row (by omega)).up (by omega)).row (by omega)).up (by omega)).row (by omega)).up (by omega)).row (by omega)).up (by omega)).row (by omega)).up (by omega)).row (by omega)).up (by omega)).row (by omega)).up (by omega)).row (by omega)).up (by omega), (setRow_ne (by omega)).trans ((setRow_ne (by omega)).trans ((setRow_ne (by omega)).trans ((setRow_ne (by omega)).trans ((setRow_ne (by omega)).trans ((setRow_ne (by omega)).trans ((setRow_ne (by omega)).trans ((setRow_ne (by omega)).trans ((setRow_ne (by omega)).trans ((setRow_ne (by omega)))))))))))⟩, hO _ (by omega), ⟨by decide +kernel, by decide +kernel, by omega⟩, ⟨by decide +kernel, by decide +kernel, by omega⟩, ⟨by decide +kernel, by decide +kernel, by omega⟩, ⟨by decide +kernel, by decide +kernel, by omega⟩, ⟨by decide +kernel, by decide +kernel, by omega⟩, ⟨by decide +kernel, by decide +kernel, by omega⟩, ⟨by decide +kernel, by decide +kernel, by omega⟩, ⟨by decide +kernel, by decide +kernel, by omega⟩, ⟨by decide +kernel, by decide +kernel, by omega⟩, ⟨by decide +kernel, by decide +kernel, by omega⟩, ((up2_ne (by omega)).trans ((congrFun (setRow_ne (by omega)) _).trans ((up2_ne (by omega)).trans ((congrFun (setRow_ne (by omega)) _).trans ((up2_ne (by omega)).trans ((congrFun (setRow_ne (by omega)) _).trans ((up2_ne (by omega)).trans ((congrFun (setRow_ne (by omega)) _).trans ((up2_ne (by omega)).trans ((congrFun (setRow_ne (by omega)) _).trans ((up2_ne (by omega)).trans ((congrFun (setRow_ne (by omega)) _).trans ((up2_ne (by omega)).trans ((congrFun (setRow_ne (by omega)) _).trans ((up2_ne (by omega)).trans ((congrFun (setRow_ne (by omega)) _).trans ((up2_ne (by omega)).trans ((congrFun (setRow_ne (by omega)) _).trans (up2_same _ _ _ _))))))))))))))))))), ((up2_ne (by omega)).trans ((congrFun (setRow_ne (by omega)) _).trans ((up2_ne (by omega)).trans ((congrFun (setRow_ne (by omega)) _).trans ((up2_ne (by omega)).trans ((congrFun (setRow_ne (by omega)) _).trans ((up2_ne (by omega)).trans ((congrFun (setRow_ne (by omega)) _).trans ((up2_ne (by omega)).trans ((congrFun (setRow_ne (by omega)) _).trans ((up2_ne (by omega)).trans ((congrFun (setRow_ne (by omega)) _).trans ((up2_ne (by omega)).trans ((congrFun (setRow_ne (by omega)) _).trans ((up2_ne (by omega)).trans ((congrFun (setRow_ne (by omega)) _).trans (up2_same _ _ _ _))))))))))))))))), ((up2_ne (by omega)).trans ((congrFun (setRow_ne (by omega)) _).trans ((up2_ne (by omega)).trans ((congrFun (setRow_ne (by omega)) _).trans ((up2_ne (by omega)).trans ((congrFun (setRow_ne (by omega)) _).trans ((up2_ne (by omega)).trans ((congrFun (setRow_ne (by omega)) _).trans ((up2_ne (by omega)).trans ((congrFun (setRow_ne (by omega)) _).trans ((up2_ne (by omega)).trans ((congrFun (setRow_ne (by omega)) _).trans ((up2_ne (by omega)).trans ((congrFun (setRow_ne (by omega)) _).trans (up2_same _ _ _ _))))))))))))))), ((up2_ne (by omega)).trans ((congrFun (setRow_ne (by omega)) _).trans ((up2_ne (by omega)).trans ((congrFun (setRow_ne (by omega)) _).trans ((up2_ne (by omega)).trans ((congrFun (setRow_ne (by omega)) _).trans ((up2_ne (by omega)).trans ((congrFun (setRow_ne (by omega)) _).trans ((up2_ne (by omega)).trans ((congrFun (setRow_ne (by omega)) _).trans ((up2_ne (by omega)).trans ((congrFun (setRow_ne (by omega)) _).trans (up2_same _ _ _ _))))))))))))), ((up2_ne (by omega)).trans ((congrFun (setRow_ne (by omega)) _).trans ((up2_ne (by omega)).trans ((congrFun (setRow_ne (by omega)) _).trans ((up2_ne (by omega)).trans ((congrFun (setRow_ne (by omega)) _).trans ((up2_ne (by omega)).trans ((congrFun (setRow_ne (by omega)) _).trans ((up2_ne (by omega)).trans ((congrFun (setRow_ne (by omega)) _).trans (up2_same _ _ _ _))))))))))), ((up2_ne (by omega)).trans ((congrFun (setRow_ne (by omega)) _).trans ((up2_ne (by omega)).trans ((congrFun (setRow_ne (by omega)) _).trans ((up2_ne (by omega)).trans ((congrFun (setRow_ne (by omega)) _).trans ((up2_ne (by omega)).trans ((congrFun (setRow_ne (by omega)) _).trans (up2_same _ _ _ _))))))))), ((up2_ne (by omega)).trans ((congrFun (setRow_ne (by omega)) _).trans ((up2_ne (by omega)).trans ((congrFun (setRow_ne (by omega)) _).trans ((up2_ne (by omega)).trans ((congrFun (setRow_ne (by omega)) _).trans (up2_same _ _ _ _))))))), ((up2_ne (by omega)).trans ((congrFun (setRow_ne (by omega)) _).trans ((up2_ne (by omega)).trans ((congrFun (setRow_ne (by omega)) _).trans (up2_same _ _ _ _))))), ((up2_ne (by omega)).trans ((congrFun (setRow_ne (by omega)) _).trans (up2_same _ _ _ _))), (up2_same _ _ _ _)⟩ (fun J0 Q0 h0 => ?_)
  obtain ⟨⟨f0, r0⟩, hb⟩ := h0
  refine x_aload_0 dX9_init_86 ?_
  refine x_V0v dX9_init_87 m_X9_40 (c_X9_begins 148 hb) hb.1 (fun I87 h87 => ?_)
  obtain ⟨f87, u87⟩ := h87
  have m0 : MP I87 148 fu0 := ⟨u87, fun l hl => absurd hl (Nat.not_lt_zero l)⟩
  refine x_aload_0 dX9_init_90 ?_
  refine x_const (c := 0) dX9_init_91 rfl ?_
  refine x_const (c := 0) dX9_init_92 rfl ?_
  refine x_const (c := 3) dX9_init_93 rfl ?_
  refine x_V3v dX9_init_94 m_X9_43 (c_X9_loomOf 148 hb fu0 m0 (by decide +kernel) 0 0 3) hb.1 (fun I94 h94 => ?_)
  obtain ⟨f94, m1⟩ := h94
  have m1 : MP I94 148 fu1 := m1
  refine x_aload_0 dX9_init_97 ?_
  refine x_const (c := 1) dX9_init_98 rfl ?_
  refine x_const (c := 2) dX9_init_99 rfl ?_
  refine x_const (c := 2) dX9_init_100 rfl ?_
  refine x_V3v dX9_init_101 m_X9_43 (c_X9_loomOf 148 hb fu1 m1 (by decide +kernel) 1 2 2) hb.1 (fun I101 h101 => ?_)
  obtain ⟨f101, m2⟩ := h101
  have m2 : MP I101 148 fu2 := m2
  refine x_aload_0 dX9_init_104 ?_
  refine x_const (c := 2) dX9_init_105 rfl ?_
  refine x_const (c := 3) dX9_init_106 rfl ?_
  refine x_const (c := 3) dX9_init_107 rfl ?_
  refine x_V3v dX9_init_108 m_X9_43 (c_X9_loomOf 148 hb fu2 m2 (by decide +kernel) 2 3 3) hb.1 (fun I108 h108 => ?_)
  obtain ⟨f108, m3⟩ := h108
  have m3 : MP I108 148 fu3 := m3
  refine x_aload_0 dX9_init_111 ?_
  refine x_const (c := 3) dX9_init_112 rfl ?_
  refine x_const (c := 5) dX9_init_113 rfl ?_
  refine x_const (c := 4) dX9_init_114 rfl ?_
  refine x_V3v dX9_init_115 m_X9_43 (c_X9_loomOf 148 hb fu3 m3 (by decide +kernel) 3 5 4) hb.1 (fun I115 h115 => ?_)
  obtain ⟨f115, m4⟩ := h115
  have m4 : MP I115 148 fu4 := m4
  refine x_aload_0 dX9_init_118 ?_
  refine x_const (c := 0) dX9_init_119 rfl ?_
  refine x_bip (c := 8) dX9_init_120 (by decide) ?_
  refine x_const (c := 2) dX9_init_122 rfl ?_
  refine x_V3v dX9_init_123 m_X9_43 (c_X9_loomOf 148 hb fu4 m4 (by decide +kernel) 0 8 2) hb.1 (fun I123 h123 => ?_)
  obtain ⟨f123, m5⟩ := h123
  have m5 : MP I123 148 fu5 := m5
  refine x_aload_0 dX9_init_126 ?_
  refine x_const (c := 3) dX9_init_127 rfl ?_
  refine x_const (c := 0) dX9_init_128 rfl ?_
  refine x_V2v dX9_init_129 m_X9_47 (c_X9_hourOf 148 hb fu5 m5 (by decide +kernel) (by decide +kernel) 3 0) hb.1 (fun I129 h129 => ?_)
  obtain ⟨f129, m6⟩ := h129
  have m6 : MP I129 148 fu6 := m6
  refine x_aload_0 dX9_init_132 ?_
  refine x_const (c := 5) dX9_init_133 rfl ?_
  refine x_const (c := 0) dX9_init_134 rfl ?_
  refine x_V2v dX9_init_135 m_X9_47 (c_X9_hourOf 148 hb fu6 m6 (by decide +kernel) (by decide +kernel) 5 0) hb.1 (fun I135 h135 => ?_)
  obtain ⟨f135, m7⟩ := h135
  have m7 : MP I135 148 fu7 := m7
  refine x_aload_0 dX9_init_138 ?_
  refine x_const (c := 2) dX9_init_139 rfl ?_
  refine x_const (c := 1) dX9_init_140 rfl ?_
  refine x_V2v dX9_init_141 m_X9_47 (c_X9_hourOf 148 hb fu7 m7 (by decide +kernel) (by decide +kernel) 2 1) hb.1 (fun I141 h141 => ?_)
  obtain ⟨f141, m8⟩ := h141
  have m8 : MP I141 148 fu8 := m8
  refine x_aload_0 dX9_init_144 ?_
  refine x_const (c := 0) dX9_init_145 rfl ?_
  refine x_const (c := 1) dX9_init_146 rfl ?_
  refine x_V2v dX9_init_147 m_X9_47 (c_X9_hourOf 148 hb fu8 m8 (by decide +kernel) (by decide +kernel) 0 1) hb.1 (fun I147 h147 => ?_)
  obtain ⟨f147, m9⟩ := h147
  have m9 : MP I147 148 fu9 := m9
  refine x_aload_0 dX9_init_150 ?_
  refine x_getr dX9_init_151 f_X9_16 hb.1 hb.2.2.2.2.2.2.2.2.2.2.2.2.2.1 ?_
  refine x_const (c := 2) dX9_init_154 rfl ?_
  refine x_const (c := 3) dX9_init_155 rfl ?_
  refine x_iastA dX9_init_156 hb.2.2.2.1 rfl (by omega) (fun J156 f156 e156 => ?_)
  have m10 : MP J156 148 fu10 := ⟨tdp_sun m9.1 (by decide +kernel) (fun j hj => f156 _ _ (by omega)) e156, fun l hl => (f156 _ _ (by omega)).trans (m9.2 l hl)⟩
  refine x_aload_0 dX9_init_157 ?_
  refine x_getr dX9_init_158 f_X9_16 hb.1 hb.2.2.2.2.2.2.2.2.2.2.2.2.2.1 ?_
  refine x_const (c := 3) dX9_init_161 rfl ?_
  refine x_bip (c := 6) dX9_init_162 (by decide) ?_
  refine x_iastA dX9_init_164 hb.2.2.2.1 rfl (by omega) (fun J164 f164 e164 => ?_)
  have m11 : MP J164 148 fu11 := ⟨tdp_sel m10.1 (by decide +kernel) (fun j hj => f164 _ _ (by omega)) e164, fun l hl => (f164 _ _ (by omega)).trans (m10.2 l hl)⟩
  refine x_aload_0 dX9_init_165 ?_
  refine x_getr dX9_init_166 f_X9_16 hb.1 hb.2.2.2.2.2.2.2.2.2.2.2.2.2.1 ?_
  refine x_const (c := 4) dX9_init_169 rfl ?_
  refine x_const (c := 5) dX9_init_170 rfl ?_
  refine x_iastA dX9_init_171 hb.2.2.2.1 rfl (by omega) (fun J171 f171 e171 => ?_)
  have m12 : MP J171 148 fu12 := ⟨tdp_yrd m11.1 (by decide +kernel) (fun j hj => f171 _ _ (by omega)) e171, fun l hl => (f171 _ _ (by omega)).trans (m11.2 l hl)⟩
  refine x_aload_0 dX9_init_172 ?_
  refine x_V0v dX9_init_173 m_X9_51 (c_X9_lays 148 hb fu12 m12 okU_first zU_first) hb.1 (fun I173 h173 => ?_)
  obtain ⟨f173, a1, a2, a3, a4, a5⟩ := h173
  have hx : ∀ x, x < 148 → ∀ j, I173 x j = J0 x j := fun x hx j => (f173 _ _ (fun z => by rcases z with z | z | z <;> omega)).trans ((f171 _ _ (by omega)).trans ((f164 _ _ (by omega)).trans ((f156 _ _ (by omega)).trans ((f147 _ _ (by omega)).trans ((f141 _ _ (by omega)).trans ((f135 _ _ (by omega)).trans ((f129 _ _ (by omega)).trans ((f123 _ _ (by omega)).trans ((f115 _ _ (by omega)).trans ((f108 _ _ (by omega)).trans ((f101 _ _ (by omega)).trans ((f94 _ _ (by omega)).trans ((f87 _ _ (by omega)).trans (rfl))))))))))))))
  have hr : I173 148 1 = J0 148 1 := (f173 _ _ (fun z => by rcases z with z | z | z <;> omega)).trans ((f171 _ _ (by omega)).trans ((f164 _ _ (by omega)).trans ((f156 _ _ (by omega)).trans ((f147 _ _ (by omega)).trans ((f141 _ _ (by omega)).trans ((f135 _ _ (by omega)).trans ((f129 _ _ (by omega)).trans ((f123 _ _ (by omega)).trans ((f115 _ _ (by omega)).trans ((f108 _ _ (by omega)).trans ((f101 _ _ (by omega)).trans ((f94 _ _ (by omega)).trans ((f87 _ _ (by omega)).trans (rfl))))))))))))))
  exact x_vret (st := []) dX9_init_176 rfl ⟨rfl, ⟨hb, ⟨hr.trans ((congrFun r0 1).trans h1), fun k hk => absurd hk (Nat.not_lt_zero k)⟩, a1, a2, ⟨a3, fun i hi => absurd hi (Nat.not_lt_zero i)⟩, ⟨a4, fun i hi => absurd hi (Nat.not_lt_zero i)⟩, a5, fun k hk => absurd hk (Nat.not_lt_zero k)⟩, fun x hx9 => ⟨(funext (hx x hx9)).trans (f0 x hx9).1, (f0 x hx9).2⟩⟩
