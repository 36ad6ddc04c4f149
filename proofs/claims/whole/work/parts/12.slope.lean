/-! ranges -/
theorem inR {x : Int32} {lo hi : Nat} (hlo : lo < 1000) (hhi : hi < 100000000) (h1 : ¬ x < nI lo) (h2 : ¬ nI hi < x) : ∃ j : Nat, lo ≤ j ∧ j ≤ hi ∧ x = nI j := by
  have a1 : (nI lo).toInt = lo := nI_toInt (by omega)
  have a2 : (nI hi).toInt = hi := nI_toInt (by omega)
  have b1 : ¬ x.toInt < (lo : Int) := by rw [← a1]; exact fun z => h1 (Int32.lt_iff_toInt_lt.mpr z)
  have b2 : ¬ (hi : Int) < x.toInt := by rw [← a2]; exact fun z => h2 (Int32.lt_iff_toInt_lt.mpr z)
  obtain ⟨j, hj, he⟩ := nI_of (x := x) (fun z => by have := Int32.lt_iff_toInt_lt.mp z; have e0 : (0 : Int32).toInt = 0 := rfl; omega)
  have a3 : (nI j).toInt = j := nI_toInt hj
  subst he
  exact ⟨j, by omega, by omega, rfl⟩
theorem outR {j lo hi : Nat} (hj : j < 100000000) (hlo : lo < 100000000) (hhi : hi < 100000000) : (nI j < nI lo ∨ nI hi < nI j) ↔ (j < lo ∨ hi < j) := by
  have e1 := nI_ltI (a := j) (b := lo) (by omega) (by omega)
  have e2 := nI_ltI (a := hi) (b := j) (by omega) (by omega)
  rw [e1, e2]
def outp (x lo hi y : Int32) : Prop := (y = nI 1 ∧ (x < lo ∨ hi < x)) ∨ (y = nI 0 ∧ ¬ x < lo ∧ ¬ hi < x)
set_option maxHeartbeats 4000000 in
theorem c_X8_isOutside {r : Ev} {n : Nat} {I : MI} {Q : MQ2} (x lo hi : Int32) : CT r 0 yX8_isOutside cX8_isOutside (3, (some .boolean)) (0, 0) [.int x, .int lo, .int hi] n I Q (ri Q (fun v J => J = I ∧ outp x lo hi v)) := by
  refine ct_of (lv := [some (.int x), some (.int lo), some (.int hi)]) (by decide +kernel) rfl rfl rfl ?_
  refine x_iload_0 dX8_isOutside_0 ?_
  refine x_iload_1 dX8_isOutside_1 ?_
  refine x_icmp_lt dX8_isOutside_2 (fun c2 => ?_) (fun c2 => ?_)
  · refine x_const (c := 1) dX8_isOutside_10 rfl ?_
    refine x_goto dX8_isOutside_11 ?_
    exact x_iret (st := []) dX8_isOutside_15 rfl rfl (⟨_, rfl, rfl, rfl, by unfold outp; first | exact Or.inl ⟨rfl, Or.inl (by assumption)⟩ | exact Or.inl ⟨rfl, Or.inr (by first | assumption | exact Int32.not_le.mp (by assumption))⟩ | exact Or.inr ⟨rfl, by assumption, by first | assumption | exact fun z => absurd z (Int32.not_lt.mpr (by assumption))⟩⟩)
  · refine x_iload_0 dX8_isOutside_5 ?_
    refine x_iload_2 dX8_isOutside_6 ?_
    refine x_icmp_le dX8_isOutside_7 (fun c7 => ?_) (fun c7 => ?_)
    · refine x_const (c := 0) dX8_isOutside_14 rfl ?_
      exact x_iret (st := []) dX8_isOutside_15 rfl rfl (⟨_, rfl, rfl, rfl, by unfold outp; first | exact Or.inl ⟨rfl, Or.inl (by assumption)⟩ | exact Or.inl ⟨rfl, Or.inr (by first | assumption | exact Int32.not_le.mp (by assumption))⟩ | exact Or.inr ⟨rfl, by assumption, by first | assumption | exact fun z => absurd z (Int32.not_lt.mpr (by assumption))⟩⟩)
    · refine x_const (c := 1) dX8_isOutside_10 rfl ?_
      refine x_goto dX8_isOutside_11 ?_
      exact x_iret (st := []) dX8_isOutside_15 rfl rfl (⟨_, rfl, rfl, rfl, by unfold outp; first | exact Or.inl ⟨rfl, Or.inl (by assumption)⟩ | exact Or.inl ⟨rfl, Or.inr (by first | assumption | exact Int32.not_le.mp (by assumption))⟩ | exact Or.inr ⟨rfl, by assumption, by first | assumption | exact fun z => absurd z (Int32.not_lt.mpr (by assumption))⟩⟩)
theorem outp01 {x lo hi y : Int32} (h : outp x lo hi y) : narrow .boolean (.int y) = .int y := by
  rcases h with ⟨rfl, -⟩ | ⟨rfl, -⟩ <;> rfl
set_option maxHeartbeats 4000000 in
theorem c_X8_isNoPlace {r : Ev} {n : Nat} {I : MI} {Q : MQ2} (x : Int32) : CT r 1 yX8_isNoPlace cX8_isNoPlace (1, (some .boolean)) (0, 0) [.int x] n I Q (ri Q (fun v J => J = I ∧ outp x (nI 0) (nI 9) v)) := by
  refine ct_of (lv := [some (.int x)]) (by decide +kernel) rfl rfl rfl ?_
  refine x_iload_0 dX8_isNoPlace_0 ?_
  refine x_const (c := 0) dX8_isNoPlace_1 rfl ?_
  refine x_bip (c := 9) dX8_isNoPlace_2 (by decide) ?_
  refine x_S3i dX8_isNoPlace_4 m_X8_91 (c_X8_isOutside x (nI 0) (nI 9)) (fun x4 I4 h4 => ?_)
  obtain ⟨rfl, h4⟩ := h4
  exact x_iret (st := []) dX8_isNoPlace_7 rfl (outp01 h4) (⟨_, rfl, rfl, rfl, h4⟩)
/-! bits of small numbers -/
def bitF (q : Nat → Bool) : Nat → Nat
  | 0 => 0
  | n + 1 => bitF q n + (if q n then 2 ^ n else 0)
theorem bitF_lt (q : Nat → Bool) : ∀ n, bitF q n < 2 ^ n
  | 0 => by unfold bitF; exact Nat.le_of_ble_eq_true rfl
  | n + 1 => by
    have h := bitF_lt q n
    have e : 2 ^ (n + 1) = 2 ^ n + 2 ^ n := by omega
    unfold bitF
    split <;> omega
theorem or_bit : ∀ l, l < 11 → ∀ a, a < 2 ^ l → nI a ||| (nI 1 <<< (nI l &&& 31)) = nI (a + 2 ^ l) := by decide +kernel
theorem or_0 : ∀ a, a < 2048 → nI a ||| nI 0 = nI a := by decide +kernel
theorem bit_at : ∀ l, l < 7 → ∀ a, a < 128 → ((nI a >>> (nI l &&& 31)) &&& nI 1) = nI (a / 2 ^ l % 2) := by decide +kernel
theorem bitF_bit (q : Nat → Bool) {l : Nat} : ∀ {n : Nat}, l < n → bitF q n / 2 ^ l % 2 = if q l then 1 else 0
  | 0, h => absurd h (Nat.not_lt_zero l)
  | n + 1, h => by
    have hp : 0 < 2 ^ l := Nat.pow_pos (by decide)
    rcases Nat.lt_or_ge l n with z | z
    · have ih := bitF_bit q z
      unfold bitF
      obtain ⟨k, rfl⟩ : ∃ k, n = l + 1 + k := ⟨n - (l + 1), by omega⟩
      have e : 2 ^ (l + 1 + k) = 2 ^ l * (2 * 2 ^ k) := by rw [Nat.pow_add, Nat.pow_add, Nat.pow_one]; rw [Nat.mul_assoc]
      split
      · rw [e, Nat.add_mul_div_left _ _ hp, Nat.add_mul_mod_self_left, ih]
      · rw [Nat.add_zero, ih]
    · have e : l = n := by omega
      subst e
      have hb := bitF_lt q l
      unfold bitF
      split
      · rw [Nat.add_div_right _ hp, Nat.div_eq_of_lt hb]
      · rw [Nat.add_zero, Nat.div_eq_of_lt hb]
theorem bitF_cong {q q' : Nat → Bool} : ∀ {n : Nat}, (∀ k, k < n → q k = q' k) → bitF q n = bitF q' n
  | 0, _ => rfl
  | n + 1, h => by unfold bitF; rw [h n (Nat.lt_succ_self n), bitF_cong (fun k hk => h k (Nat.lt_succ_of_lt hk))]
def sumF (f : Nat → Nat) : Nat → Nat
  | 0 => 0
  | n + 1 => sumF f n + f n
theorem sumF_cong {f g : Nat → Nat} : ∀ {n : Nat}, (∀ k, k < n → f k = g k) → sumF f n = sumF g n
  | 0, _ => rfl
  | n + 1, h => by unfold sumF; rw [h n (Nat.lt_succ_self n), sumF_cong (fun k hk => h k (Nat.lt_succ_of_lt hk))]
set_option maxHeartbeats 4000000 in
theorem c_X8_hasBit {r : Ev} {n : Nat} {I : MI} {Q : MQ2} (a l : Nat) (ha : a < 128) (hl : l < 7) : CT r 0 yX8_hasBit cX8_hasBit (2, (some .boolean)) (0, 0) [.int (nI a), .int (nI l)] n I Q (ri Q (fun v J => J = I ∧ ((v = nI 1 ∧ a / 2 ^ l % 2 = 1) ∨ (v = nI 0 ∧ a / 2 ^ l % 2 = 0)))) := by
  refine ct_of (lv := [some (.int (nI a)), some (.int (nI l))]) (by decide +kernel) rfl rfl rfl ?_
  refine x_iload_0 dX8_hasBit_0 ?_
  refine x_iload_1 dX8_hasBit_1 ?_
  refine x_ishr dX8_hasBit_2 ?_
  refine x_const (c := 1) dX8_hasBit_3 rfl ?_
  refine x_iand dX8_hasBit_4 ?_
  rw [bit_at l hl a ha]
  refine x_const (c := 1) dX8_hasBit_5 rfl ?_
  refine x_icmp_neN dX8_hasBit_6 (by omega) (by omega) (fun c6 => ?_) (fun c6 => ?_)
  · refine x_const (c := 0) dX8_hasBit_13 rfl ?_
    exact x_iret (st := []) dX8_hasBit_14 rfl rfl (⟨_, rfl, rfl, rfl, by first | exact Or.inl ⟨rfl, by omega⟩ | exact Or.inr ⟨rfl, by omega⟩⟩)
  · refine x_const (c := 1) dX8_hasBit_9 rfl ?_
    refine x_goto dX8_hasBit_10 ?_
    exact x_iret (st := []) dX8_hasBit_14 rfl rfl (⟨_, rfl, rfl, rfl, by first | exact Or.inl ⟨rfl, by omega⟩ | exact Or.inr ⟨rfl, by omega⟩⟩)
/-! a slope's cells: the slope at b, its row of looms at b + 1, fromAbove at b + 2, the looms from b + 3 on -/
def SlB (n : Nat) (Q : MQ2) (b : Nat) : Prop := Ob n 5 b ∧ Ar n 12 (b + 1) 6 ∧ Ar n 11 (b + 2) 6 ∧ (∀ k, k < 6 → Ob n 0 (b + 3 + k)) ∧ Q b 0 = some (b + 1) ∧ Q b 1 = some (b + 2) ∧ ∀ k, k < 6 → Q (b + 1) k = some (b + 3 + k)
def lmp (I : MI) (a k p t d x h : Nat) : Prop := I a 0 = nI k ∧ I a 1 = nI p ∧ I a 2 = nI t ∧ I a 3 = nI d ∧ I a 4 = nI x ∧ I a 6 = nI h
def slp (I : MI) (b : Nat) (t : Tp) (s : St) : Prop := I b 2 = nI (tN t) ∧ I b 3 = nI (sR s) ∧ I b 4 = nI (sO s) ∧ ∀ l, l < tN t → lmp I (b + 3 + l) (tK t l) (sP s l) (tT t l) (sD s l) (sX s l) (sH s l)
def rkp (I : MI) (b : Nat) (t : Tp) (s : St) : Prop := ∀ i, i < tN t → I (b + 2) i = nI (ordO (tN t) (sP s) i)
def FtS (b : Nat) (x _ : Nat) : Prop := b ≤ x ∧ x < b + 9
def FtL (b : Nat) (x _ : Nat) : Prop := b + 3 ≤ x ∧ x < b + 9
theorem slp_fr {I J : MI} {b : Nat} {t : Tp} {s : St} (h : slp I b t s) (ht : tN t ≤ 6) (fr : ∀ x j, b ≤ x → x < b + 9 → x ≠ b + 2 → J x j = I x j) : slp J b t s := by
  obtain ⟨h1, h2, h3, h4⟩ := h
  refine ⟨(fr b 2 (by omega) (by omega) (by omega)).trans h1, (fr b 3 (by omega) (by omega) (by omega)).trans h2, (fr b 4 (by omega) (by omega) (by omega)).trans h3, fun l hl => ?_⟩
  obtain ⟨a0, a1, a2, a3, a4, a6⟩ := h4 l hl
  have f := fun j => fr (b + 3 + l) j (by omega) (by omega) (by omega)
  exact ⟨(f 0).trans a0, (f 1).trans a1, (f 2).trans a2, (f 3).trans a3, (f 4).trans a4, (f 6).trans a6⟩
theorem rkp_fr {I J : MI} {b : Nat} {t : Tp} {s : St} (h : rkp I b t s) (fr : ∀ j, J (b + 2) j = I (b + 2) j) : rkp J b t s := fun i hi => (fr i).trans (h i hi)
theorem slp_loom {I J : MI} {b : Nat} {t : Tp} {s : St} {l p d x hh : Nat} (h : slp I b t s) (fr : ∀ y j, y ≠ b + 3 + l → J y j = I y j) (hm : lmp J (b + 3 + l) (tK t l) p (tT t l) d x hh) : slp J b t (setL s l p d x hh) := by
  obtain ⟨h1, h2, h3, h4⟩ := h
  refine ⟨(fr b 2 (by omega)).trans h1, (fr b 3 (by omega)).trans h2, (fr b 4 (by omega)).trans h3, fun k hk => ?_⟩
  rw [setL_P, setL_D, setL_X, setL_H]
  by_cases e : k = l
  · subst e
    rw [nup_s, nup_s, nup_s, nup_s]
    exact hm
  · rw [nup_n e, nup_n e, nup_n e, nup_n e]
    obtain ⟨a0, a1, a2, a3, a4, a6⟩ := h4 k hk
    have f := fun j => fr (b + 3 + k) j (by omega)
    exact ⟨(f 0).trans a0, (f 1).trans a1, (f 2).trans a2, (f 3).trans a3, (f 4).trans a4, (f 6).trans a6⟩
theorem slp_cong {I : MI} {b : Nat} {t : Tp} {s u : St} (h : slp I b t s) (e : eqS (tN t) s u) : slp I b t u := by
  obtain ⟨h1, h2, h3, h4⟩ := h
  refine ⟨h1, by rw [← e.2.2]; exact h2, by rw [← e.2.1]; exact h3, fun k hk => ?_⟩
  obtain ⟨e1, e2, e3, e4⟩ := e.1 k hk
  rw [← e1, ← e2, ← e3, ← e4]
  exact h4 k hk
theorem rkp_cong {I : MI} {b : Nat} {t : Tp} {s u : St} (h : rkp I b t s) (e : ∀ l, l < tN t → sP s l = sP u l) : rkp I b t u := fun i hi => by rw [← ordO_cong e]; exact h i hi
set_option maxHeartbeats 4000000 in
theorem c_X5_pick {r : Ev} {n : Nat} {I : MI} {Q : MQ2} (b k : Nat) (hb : SlB n Q b) (hk : k < 6) : CT r 0 yX5_pick cX5_pick (2, (some (.object "DewLooms$Loom"))) (0, 0) [.ref (evz r + b), .int (nI k)] n I Q (ro r I Q (b + 3 + k)) := by
  refine ct_of (lv := [some (.ref (evz r + b)), some (.int (nI k))]) (by decide +kernel) rfl rfl rfl ?_
  obtain ⟨h1, h2, h3, h4, h5, h6, h7⟩ := hb
  refine x_aload_0 dX5_pick_0 ?_
  refine x_getr dX5_pick_1 f_X5_11 h1 h5 ?_
  refine x_iload_1 dX5_pick_4 ?_
  refine x_if_ltN dX5_pick_5 (by omega) (fun c5 => ?_) (fun c5 => ?_)
  · exfalso; omega
  · refine x_iload_1 dX5_pick_8 ?_
    refine x_aload_0 dX5_pick_9 ?_
    refine x_getr dX5_pick_10 f_X5_11 h1 h5 ?_
    refine x_alen dX5_pick_13 h2 (by decide) ?_
    refine x_icmp_ltN dX5_pick_14 (by omega) (by omega) (fun c14 => ?_) (fun c14 => ?_)
    · refine x_iload_1 dX5_pick_21 ?_
      refine x_aaldL dX5_pick_22 h2 rfl (by omega) (h7 _ (by omega)) ?_
      exact x_aret (st := []) dX5_pick_23 rfl ⟨_, rfl⟩ (⟨rfl, rfl, rfl⟩)
    · exfalso; omega
set_option maxHeartbeats 4000000 in
theorem l_X5_loomOn {r : Ev} {n : Nat} {Q : MQ2} {F : Post} (b : Nat) (t : Tp) (s : St) (hb : SlB n Q b) {I : MI} (hs : slp I b t s) (hn : tN t ≤ 6) (p : Nat) (hp : p < 1000) (hpl : ∀ l, l < tN t → sP s l < 1000) (hF1 : ∀ l, l < tN t → sP s l = p → F (some (.int (nI l))) I Q) (hF2 : (∀ l, l < tN t → sP s l ≠ p) → F (some (.int (-4))) I Q) : ∀ (k : Nat) (i : Nat), i ≤ tN t → i + k = tN t + 1 → (∀ j, j < i → sP s j ≠ p) → X r 1 yX5_loomOn cX5_loomOn (3, (some .int)) (0, 0) 2 [some (.ref (evz r + b)), some (.int (nI p)), some (.int (nI i))] [] n I Q F := by
  intro k
  induction k with
  | zero => intros; omega
  | succ k ih =>
    obtain ⟨h1, h2, h3, h4, h5, h6, h7⟩ := id hb
    obtain ⟨g1, g2, g3, g4⟩ := id hs
    intro i hi0 hi ho
    refine x_iload_2 dX5_loomOn_2 ?_
    refine x_aload_0 dX5_loomOn_3 ?_
    refine x_getV dX5_loomOn_4 f_X5_22 h1 g1 ?_
    refine x_icmp_geN dX5_loomOn_7 (by omega) (by omega) (fun c7 => ?_) (fun c7 => ?_)
    · have c7 : i = tN t := by omega
      refine x_bipush (v := -4) dX5_loomOn_30 (by decide) ?_
      exact x_iret (st := []) dX5_loomOn_32 rfl rfl (hF2 (fun l hl => ho l (by omega)))
    · refine x_aload_0 dX5_loomOn_10 ?_
      refine x_iload_2 dX5_loomOn_11 ?_
      refine x_V1o dX5_loomOn_12 m_X5_32 (c_X5_pick b i hb (by omega)) (by assumption) ?_
      have hpi := hpl i (by omega)
      refine x_getV dX5_loomOn_15 f_X5_65 (h4 i (by omega)) (g4 i (by omega)).2.1 ?_
      refine x_iload_1 dX5_loomOn_18 ?_
      refine x_icmp_neN dX5_loomOn_19 (by omega) (by omega) (fun c19 => ?_) (fun c19 => ?_)
      · refine x_iinc_2 dX5_loomOn_24 (iinc1 _) rfl rfl ?_
        refine x_goto dX5_loomOn_27 ?_
        exact ih (i + 1) (by omega) (by omega) (fun j hj => (Nat.lt_or_ge j i).elim (ho j) (fun z => by obtain rfl : j = i := (by omega); exact c19))
      · have c19 : sP s i = p := by omega
        refine x_iload_2 dX5_loomOn_22 ?_
        exact x_iret (st := []) dX5_loomOn_23 rfl rfl (hF1 i (by omega) (by omega))
set_option maxHeartbeats 4000000 in
theorem c_X5_loomOn {r : Ev} {n : Nat} {I : MI} {Q : MQ2} (b : Nat) (t : Tp) (s : St) (hb : SlB n Q b) (hs : slp I b t s) (hn : tN t ≤ 6) (p : Nat) (hp : p < 1000) (hpl : ∀ l, l < tN t → sP s l < 1000) : CT r 1 yX5_loomOn cX5_loomOn (3, (some .int)) (0, 0) [.ref (evz r + b), .int (nI p)] n I Q (ri Q (fun v J => J = I ∧ ((∃ l, l < tN t ∧ sP s l = p ∧ v = nI l) ∨ (v = -4 ∧ ∀ l, l < tN t → sP s l ≠ p)))) := by
  refine ct_of (lv := [some (.ref (evz r + b)), some (.int (nI p)), none]) (by decide +kernel) rfl rfl rfl ?_
  refine x_const (c := 0) dX5_loomOn_0 rfl ?_
  refine x_istore_2 dX5_loomOn_1 rfl rfl ?_
  exact l_X5_loomOn b t s hb hs hn p hp hpl (fun l hl he => ⟨_, rfl, rfl, rfl, Or.inl ⟨l, hl, he, rfl⟩⟩) (fun h => ⟨_, rfl, rfl, rfl, Or.inr ⟨rfl, h⟩⟩) (tN t + 1) 0 (by omega) (by omega) (fun j hj => absurd hj (Nat.not_lt_zero j))
theorem cnt_hi {p : Nat → Nat} {l j : Nat} (h : ¬ p j < p l) : fb_ct (fun k => decide (p k < p l)) j + 0 = fb_ct (fun k => decide (p k < p l)) (j + 1) := by rw [fb_ct_succ, if_neg (by simpa using h)]
theorem cnt_lo {p : Nat → Nat} {l j : Nat} (h : p j < p l) : fb_ct (fun k => decide (p k < p l)) j + 1 = fb_ct (fun k => decide (p k < p l)) (j + 1) := by rw [fb_ct_succ, if_pos (by simpa using h)]
theorem bitF_y {q : Nat → Bool} {i : Nat} (h : q i = true) : bitF q i + 2 ^ i = bitF q (i + 1) := by show _ = bitF q i + _; rw [if_pos h]
theorem bitF_n {q : Nat → Bool} {i : Nat} (h : ¬ q i = true) : bitF q i = bitF q (i + 1) := by show _ = bitF q i + _; rw [if_neg h, Nat.add_zero]
theorem bitF_le {q : Nat → Bool} {i k : Nat} (h : i ≤ k) : bitF q i < 2 ^ k := Nat.lt_of_lt_of_le (bitF_lt q i) (Nat.pow_le_pow_right (by decide) h)
set_option maxHeartbeats 4000000 in
theorem l_X5_rank_in {r : Ev} {n : Nat} {Q : MQ2} {F : Post} (b : Nat) (t : Tp) (s : St) (hb : SlB n Q b) {I : MI} (hs : slp I b t s) (hn : tN t ≤ 6) (l : Nat) (hl : l < tN t) (hpl : ∀ l, l < tN t → sP s l < 1000) (hx : X r 1 yX5_rank cX5_rank (4, none) (0, 0) 55 [some (.ref (evz r + b)), some (.int (nI l)), some (.int (nI (rankO (tN t) (sP s) l))), some (.int (nI (tN t)))] [] n I Q F) : ∀ (k : Nat) (j : Nat), j ≤ tN t → j + k = tN t + 1 → X r 1 yX5_rank cX5_rank (4, none) (0, 0) 14 [some (.ref (evz r + b)), some (.int (nI l)), some (.int (nI (fb_ct (fun k => decide (sP s k < sP s l)) j))), some (.int (nI j))] [] n I Q F := by
  intro k
  induction k with
  | zero => intros; omega
  | succ k ih =>
    obtain ⟨h1, h2, h3, h4, h5, h6, h7⟩ := id hb
    obtain ⟨g1, g2, g3, g4⟩ := id hs
    intro j hj0 hj
    refine x_iload_3 dX5_rank_14 ?_
    refine x_aload_0 dX5_rank_15 ?_
    refine x_getV dX5_rank_16 f_X5_22 h1 g1 ?_
    refine x_icmp_geN dX5_rank_19 (by omega) (by omega) (fun c19 => ?_) (fun c19 => ?_)
    · obtain rfl : j = tN t := (by omega)
      exact hx
    · have hp1 := hpl j (by omega)
      have hp2 := hpl l (by omega)
      refine x_iload_2 dX5_rank_22 ?_
      refine x_aload_0 dX5_rank_23 ?_
      refine x_iload_3 dX5_rank_24 ?_
      refine x_V1o dX5_rank_25 m_X5_32 (c_X5_pick b j hb (by omega)) (by assumption) ?_
      refine x_getV dX5_rank_28 f_X5_65 (h4 j (by omega)) (g4 j (by omega)).2.1 ?_
      refine x_aload_0 dX5_rank_31 ?_
      refine x_iload_1 dX5_rank_32 ?_
      refine x_V1o dX5_rank_33 m_X5_32 (c_X5_pick b l hb (by omega)) (by assumption) ?_
      refine x_getV dX5_rank_36 f_X5_65 (h4 l (by omega)) (g4 l (by omega)).2.1 ?_
      refine x_icmp_geN dX5_rank_39 (by omega) (by omega) (fun c39 => ?_) (fun c39 => ?_)
      · refine x_const (c := 0) dX5_rank_46 rfl ?_
        refine x_iaddN dX5_rank_47 ?_
        first | rw [cnt_hi (p := sP s) (l := l) (j := j) (by omega)] | rw [cnt_lo (p := sP s) (l := l) (j := j) (by omega)]
        refine x_istore_2 dX5_rank_48 rfl rfl ?_
        refine x_iinc_3 dX5_rank_49 (iinc1 _) rfl rfl ?_
        refine x_goto dX5_rank_52 ?_
        exact ih (j + 1) (by omega) (by omega)
      · refine x_const (c := 1) dX5_rank_42 rfl ?_
        refine x_goto dX5_rank_43 ?_
        refine x_iaddN dX5_rank_47 ?_
        first | rw [cnt_hi (p := sP s) (l := l) (j := j) (by omega)] | rw [cnt_lo (p := sP s) (l := l) (j := j) (by omega)]
        refine x_istore_2 dX5_rank_48 rfl rfl ?_
        refine x_iinc_3 dX5_rank_49 (iinc1 _) rfl rfl ?_
        refine x_goto dX5_rank_52 ?_
        exact ih (j + 1) (by omega) (by omega)
set_option maxHeartbeats 4000000 in
theorem l_X5_rank {r : Ev} {n : Nat} {Q : MQ2} {F : Post} {I0 : MI} (b : Nat) (t : Tp) (s : St) (hb : SlB n Q b) (hn : tN t ≤ 6) (hpl : ∀ l, l < tN t → sP s l < 1000) (hd : dst (tN t) (sP s)) (hF : ∀ J, FrS I0 J (fun x j => x = b + 2) → rkp J b t s → F none J Q) : ∀ (k : Nat) (l : Nat) (I : MI) (w2 w3 : Option Value), l ≤ tN t → l + k = tN t + 1 → slp I b t s → FrS I0 I (fun x j => x = b + 2) → (∀ j, j < l → I (b + 2) (rankO (tN t) (sP s) j) = nI j) → X r 1 yX5_rank cX5_rank (4, none) (0, 0) 2 [some (.ref (evz r + b)), some (.int (nI l)), w2, w3] [] n I Q F := by
  intro k
  induction k with
  | zero => intros; omega
  | succ k ih =>
    intro l I w2 w3 hl0 hl hs hfr hrk
    obtain ⟨h1, h2, h3, h4, h5, h6, h7⟩ := id hb
    obtain ⟨g1, g2, g3, g4⟩ := id hs
    refine x_iload_1 dX5_rank_2 ?_
    refine x_aload_0 dX5_rank_3 ?_
    refine x_getV dX5_rank_4 f_X5_22 h1 g1 ?_
    refine x_icmp_geN dX5_rank_7 (by omega) (by omega) (fun c7 => ?_) (fun c7 => ?_)
    · obtain rfl : l = tN t := (by omega)
      exact x_vret (st := []) dX5_rank_77 rfl (hF I hfr (fun i hi => by have h9 := ordO_ok hd hi; have h8 := hrk _ h9.1; rw [h9.2] at h8; exact h8))
    · refine x_const (c := 0) dX5_rank_10 rfl ?_
      refine x_istore_2 dX5_rank_11 rfl rfl ?_
      refine x_const (c := 0) dX5_rank_12 rfl ?_
      refine x_istore_3 dX5_rank_13 rfl rfl ?_
      refine l_X5_rank_in b t s hb hs hn l (by omega) hpl ?_ (tN t + 1) 0 (by omega) (by omega)
      refine x_iload_2 dX5_rank_55 ?_
      refine x_aload_0 dX5_rank_56 ?_
      refine x_getr dX5_rank_57 f_X5_17 h1 h6 ?_
      refine x_alen dX5_rank_60 h3 (by decide) ?_
      have hrl := rankO_lt (p := sP s) (show l < tN t by omega)
      refine x_icmp_geN dX5_rank_61 (by omega) (by omega) (fun c61 => ?_) (fun c61 => ?_)
      · have := rankO_lt (p := sP s) (show l < tN t by omega)
        exfalso; omega
      · refine x_aload_0 dX5_rank_64 ?_
        refine x_getr dX5_rank_65 f_X5_17 h1 h6 ?_
        refine x_iload_2 dX5_rank_68 ?_
        refine x_iload_1 dX5_rank_69 ?_
        refine x_iastA dX5_rank_70 h3 rfl (by have := rankO_lt (p := sP s) (show l < tN t by omega); omega) (fun J70 fr70 e70 => ?_)
        refine x_iinc_1 dX5_rank_71 (iinc1 _) rfl rfl ?_
        refine x_goto dX5_rank_74 ?_
        exact ih (l + 1) _ _ _ (by omega) (by omega) (slp_fr hs hn (fun x j _ _ hx => fr70 x j (by omega))) (fun x j hx => (fr70 x j (by omega)).trans (hfr x j hx)) (fun j hj => by
          by_cases e : j = l
          · subst e; exact e70
          · have h9 := rankO_inj hd (show j < tN t by omega) (show l < tN t by omega)
            rw [fr70 _ _ (fun z => e (h9 z.2))]
            exact hrk j (by omega))
set_option maxHeartbeats 4000000 in
theorem c_X5_rank {r : Ev} {n : Nat} {I : MI} {Q : MQ2} (b : Nat) (t : Tp) (s : St) (hb : SlB n Q b) (hs : slp I b t s) (hn : tN t ≤ 6) (hpl : ∀ l, l < tN t → sP s l < 1000) (hd : dst (tN t) (sP s)) : CT r 1 yX5_rank cX5_rank (4, none) (0, 0) [.ref (evz r + b)] n I Q (rv Q (fun J => FrS I J (fun x j => x = b + 2) ∧ rkp J b t s)) := by
  refine ct_of (lv := [some (.ref (evz r + b)), none, none, none]) (by decide +kernel) rfl rfl rfl ?_
  refine x_const (c := 0) dX5_rank_0 rfl ?_
  refine x_istore_1 dX5_rank_1 rfl rfl ?_
  exact l_X5_rank b t s hb hn hpl hd (fun J h1 h2 => ⟨rfl, rfl, h1, h2⟩) (tN t + 1) 0 _ _ _ (by omega) (by omega) hs (fun _ _ _ => rfl) (fun j hj => absurd hj (Nat.not_lt_zero j))
set_option maxHeartbeats 4000000 in
theorem l_X5_gather {r : Ev} {n : Nat} {Q : MQ2} {F : Post} {I0 : MI} (b : Nat) (t : Tp) (s : St) (cc0 mm : Nat) (hb : SlB n Q b) (ht : okT t) (hk : okS t s) (hc : cc0 ≤ 9) (hm : mm ≤ 1) (hrk : rkp I0 b t s) (hx : ∀ (I : MI) (w5 : Option Value), FrS I0 I (FtL b) → slp I b t (gth t cc0 mm (ordO (tN t) (sP s)) s (tN t)).2.1 → (∀ l, l < tN t → I (b + 3 + l) 5 = nI ((gth t cc0 mm (ordO (tN t) (sP s)) s (tN t)).2.2 l)) → X r 2 yX5_gather cX5_gather (6, none) (0, 0) 57 [some (.ref (evz r + b)), some (.int (nI cc0)), some (.int (nI mm)), some (.int (nI (gth t cc0 mm (ordO (tN t) (sP s)) s (tN t)).1)), some (.int (nI (tN t))), w5] [] n I Q F) : ∀ (k : Nat) (i : Nat) (I : MI) (w5 : Option Value), i ≤ tN t → i + k = tN t + 1 → slp I b t (gth t cc0 mm (ordO (tN t) (sP s)) s i).2.1 → FrS I0 I (FtL b) → (∀ j, j < i → I (b + 3 + ordO (tN t) (sP s) j) 5 = nI ((gth t cc0 mm (ordO (tN t) (sP s)) s i).2.2 (ordO (tN t) (sP s) j))) → X r 2 yX5_gather cX5_gather (6, none) (0, 0) 5 [some (.ref (evz r + b)), some (.int (nI cc0)), some (.int (nI mm)), some (.int (nI (gth t cc0 mm (ordO (tN t) (sP s)) s i).1)), some (.int (nI i)), w5] [] n I Q F := by
  intro k
  induction k with
  | zero => intros; omega
  | succ k ih =>
    intro i I w5 hi0 hi hs hfr hrn
    obtain ⟨h1, h2, h3, h4, h5, h6, h7⟩ := id hb
    obtain ⟨g1, g2, g3, g4⟩ := id hs
    have hn := ht.1
    refine x_iload_4 dX5_gather_5 ?_
    refine x_aload_0 dX5_gather_7 ?_
    refine x_getV dX5_gather_8 f_X5_22 h1 g1 ?_
    refine x_icmp_geN dX5_gather_11 (by omega) (by omega) (fun c11 => ?_) (fun c11 => ?_)
    · obtain rfl : i = tN t := (by omega)
      exact hx I w5 hfr hs (fun l hl => by have h9 := hrn _ (rankO_lt (p := sP s) hl); rw [ordO_rank hk.2 hl] at h9; exact h9)
    · have ho := ordO_ok hk.2 (show i < tN t by omega)
      have lm := g4 _ ho.1
      have hD := gth_D (c := cc0) (m := mm) (ord := ordO (tN t) (sP s)) (fun l hl => (hk.1 l hl).2.1) i _ ho.1
      have hR := gth_runs (m := mm) (ord := ordO (tN t) (sP s)) ht hc (fun l hl => (hk.1 l hl).2.1) i (by omega) (fun k hk2 => (ordO_ok hk.2 (show k < tN t by omega)).1)
      refine x_iload_4 dX5_gather_14 ?_
      refine x_aload_0 dX5_gather_16 ?_
      refine x_getr dX5_gather_17 f_X5_17 h1 h6 ?_
      refine x_alen dX5_gather_20 h3 (by decide) ?_
      refine x_icmp_geN dX5_gather_21 (by omega) (by omega) (fun c21 => ?_) (fun c21 => ?_)
      · exfalso; omega
      · refine x_aload_0 dX5_gather_24 ?_
        refine x_aload_0 dX5_gather_25 ?_
        refine x_getr dX5_gather_26 f_X5_17 h1 h6 ?_
        refine x_iload_4 dX5_gather_29 ?_
        refine x_ialdV dX5_gather_31 h3 rfl (by omega) ((hfr _ _ (by unfold FtL; omega)).trans (hrk i (by omega))) ?_
        refine x_V1o dX5_gather_32 m_X5_32 (c_X5_pick b (ordO (tN t) (sP s) i) hb (by omega)) (by assumption) ?_
        refine x_astore_5 dX5_gather_35 rfl rfl ?_
        refine x_aload_5 dX5_gather_37 ?_
        refine x_iload_3 dX5_gather_39 ?_
        refine x_iload_1 dX5_gather_40 ?_
        refine x_iload_2 dX5_gather_41 ?_
        refine x_V3v dX5_gather_42 m_X5_68 (c_X0_gather (b + 3 + ordO (tN t) (sP s) i) (tK t (ordO (tN t) (sP s) i)) (tT t (ordO (tN t) (sP s) i)) (sD (gth t cc0 mm (ordO (tN t) (sP s)) s i).2.1 (ordO (tN t) (sP s) i)) (sX (gth t cc0 mm (ordO (tN t) (sP s)) s i).2.1 (ordO (tN t) (sP s) i)) (gth t cc0 mm (ordO (tN t) (sP s)) s i).1 cc0 mm (h4 _ (by omega)) lm.1 lm.2.2.1 lm.2.2.2.1 lm.2.2.2.2.1 (ht.2 _ ho.1).1 (by have := (ht.2 _ ho.1).2; omega) (by have := (ht.2 _ ho.1).2; omega) (by omega) hc hm) (h4 _ (by omega)) (fun I42 h42 => ?_)
        obtain ⟨qf, q3, q4, q5⟩ := h42
        refine x_aload_5 dX5_gather_45 ?_
        refine x_getV dX5_gather_47 f_X5_71 (h4 _ (by omega)) q5 ?_
        refine x_istore_3 dX5_gather_50 rfl rfl ?_
        refine x_iinc_4 dX5_gather_51 (iinc1 _) rfl rfl ?_
        refine x_goto dX5_gather_54 ?_
        refine ih (i + 1) _ _ (by omega) (by omega) (slp_loom hs (fun y j hy => qf y j (by omega)) ⟨(qf _ 0 (by omega)).trans lm.1, (qf _ 1 (by omega)).trans lm.2.1, (qf _ 2 (by omega)).trans lm.2.2.1, q3, q4, (qf _ 6 (by omega)).trans lm.2.2.2.2.2⟩) (fun x j hx2 => (qf x j (fun z => hx2 ⟨by omega, by omega⟩)).trans (hfr x j hx2)) (fun j hj => ?_)
        by_cases e : j = i
        · subst e
          rw [q5]
          congr 1
          exact (nup_s _ _ _).symm
        · have h9 := ordO_ok hk.2 (show j < tN t by omega)
          have h8 : ordO (tN t) (sP s) j ≠ ordO (tN t) (sP s) i := fun z => e (by rw [← h9.2, ← ho.2, z])
          rw [qf _ _ (by omega), hrn j (by omega)]
          congr 1
          exact (nup_n h8).symm
set_option maxHeartbeats 4000000 in
theorem c_X5_gather {r : Ev} {n : Nat} {I : MI} {Q : MQ2} (b : Nat) (t : Tp) (s : St) (cc0 mm : Nat) (hb : SlB n Q b) (hs : slp I b t s) (hrk : rkp I b t s) (ht : okT t) (hk : okS t s) (hc : cc0 ≤ 9) (hm : mm ≤ 1) : CT r 2 yX5_gather cX5_gather (6, none) (0, 0) [.ref (evz r + b), .int (nI cc0), .int (nI mm)] n I Q (rv Q (fun J => FrS I J (FtS b) ∧ slp J b t (gatS t cc0 mm s) ∧ rkp J b t s ∧ ∀ l, l < tN t → J (b + 3 + l) 5 = nI (ranS t cc0 mm s l))) := by
  refine ct_of (lv := [some (.ref (evz r + b)), some (.int (nI cc0)), some (.int (nI mm)), none, none, none]) (by decide +kernel) rfl rfl rfl ?_
  obtain ⟨h1, h2, h3, h4, h5, h6, h7⟩ := id hb
  obtain ⟨g1, g2, g3, g4⟩ := id hs
  have hn := ht.1
  refine x_const (c := 0) dX5_gather_0 rfl ?_
  refine x_istore_3 dX5_gather_1 rfl rfl ?_
  refine x_const (c := 0) dX5_gather_2 rfl ?_
  refine x_istore_4 dX5_gather_3 rfl rfl ?_
  refine l_X5_gather b t s cc0 mm hb ht hk hc hm hrk (fun I1 w5 hfr hs1 hrn => ?_) (tN t + 1) 0 I _ (by omega) (by omega) hs (fun _ _ _ => rfl) (fun j hj => absurd hj (Nat.not_lt_zero j))
  obtain ⟨g1, g2, g3, g4⟩ := id hs1
  refine x_aload_0 dX5_gather_57 ?_
  first | refine x_dup_ref dX5_gather_58 ?_ | refine x_dup_int dX5_gather_58 ?_
  refine x_getV dX5_gather_59 f_X5_29 h1 g3 ?_
  refine x_iload_3 dX5_gather_62 ?_
  refine x_iaddN dX5_gather_63 ?_
  refine x_putA dX5_gather_64 f_X5_29 h1 (fun J64 fr64 e64 => ?_)
  exact x_vret (st := []) dX5_gather_67 rfl (⟨rfl, rfl, fun x j hx => (fr64 x j (fun z => hx ⟨by omega, by omega⟩)).trans (hfr x j (fun z => hx ⟨by have := z.1; omega, z.2⟩)), ⟨(fr64 _ _ (by omega)).trans g1, (fr64 _ _ (by omega)).trans g2, e64, fun l hl => (by obtain ⟨a0, a1, a2, a3, a4, a6⟩ := g4 l hl; exact ⟨(fr64 _ _ (by omega)).trans a0, (fr64 _ _ (by omega)).trans a1, (fr64 _ _ (by omega)).trans a2, (fr64 _ _ (by omega)).trans a3, (fr64 _ _ (by omega)).trans a4, (fr64 _ _ (by omega)).trans a6⟩)⟩, fun i hi => ((fr64 _ _ (by omega)).trans (hfr _ _ (by unfold FtL; omega))).trans (hrk i hi), fun l hl => (fr64 _ _ (by omega)).trans (hrn l hl)⟩)
set_option maxHeartbeats 4000000 in
theorem l_X5_dry {r : Ev} {n : Nat} {Q : MQ2} {F : Post} {I0 : MI} (b : Nat) (t : Tp) (s : St) (hb : SlB n Q b) (ht : okT t) (hk : okS t s) (hF : ∀ J, FrS I0 J (FtL b) → slp J b t (dryS t s) → (∀ l, l < tN t → J (b + 3 + l) 5 = nI 0) → F none J Q) : ∀ (k : Nat) (l : Nat) (I : MI), l ≤ tN t → l + k = tN t + 1 → slp I b t (mkS (sP s) (fun j => if j < l then dryv t s j else sD s j) (sX s) (sH s) (sO s) (sR s)) → FrS I0 I (FtL b) → (∀ j, j < l → I (b + 3 + j) 5 = nI 0) → X r 2 yX5_dry cX5_dry (2, none) (0, 0) 2 [some (.ref (evz r + b)), some (.int (nI l))] [] n I Q F := by
  intro k
  induction k with
  | zero => intros; omega
  | succ k ih =>
    intro l I hl0 hl hs hfr hrn
    obtain ⟨h1, h2, h3, h4, h5, h6, h7⟩ := id hb
    obtain ⟨g1, g2, g3, g4⟩ := id hs
    have hn := ht.1
    refine x_iload_1 dX5_dry_2 ?_
    refine x_aload_0 dX5_dry_3 ?_
    refine x_getV dX5_dry_4 f_X5_22 h1 g1 ?_
    refine x_icmp_geN dX5_dry_7 (by omega) (by omega) (fun c7 => ?_) (fun c7 => ?_)
    · obtain rfl : l = tN t := (by omega)
      exact x_vret (st := []) dX5_dry_24 rfl (hF I hfr (slp_cong hs ⟨fun j hj => ⟨rfl, (if_pos hj), rfl, rfl⟩, rfl, rfl⟩) hrn)
    · have lm := g4 l (by omega)
      have hD : I (b + 3 + l) 3 = nI (sD s l) := by have h9 := lm.2.2.2.1; rw [show sD (mkS (sP s) (fun j => if j < l then dryv t s j else sD s j) (sX s) (sH s) (sO s) (sR s)) l = sD s l from if_neg (Nat.lt_irrefl l)] at h9; exact h9
      refine x_aload_0 dX5_dry_10 ?_
      refine x_iload_1 dX5_dry_11 ?_
      refine x_V1o dX5_dry_12 m_X5_32 (c_X5_pick b l hb (by omega)) (by assumption) ?_
      refine x_V0v dX5_dry_15 m_X5_74 (c_X0_dry (b + 3 + l) (tK t l) (sD s l) (sH s l) (h4 l (by omega)) lm.1 hD lm.2.2.2.2.2 (ht.2 l (by omega)).1 (by have := (ht.2 l (by omega)).2; have := (hk.1 l (by omega)).2.1; omega) (hk.1 l (by omega)).2.2) (h4 l (by omega)) (fun I15 h15 => ?_)
      obtain ⟨qf, q3, q5⟩ := h15
      refine x_iinc_1 dX5_dry_18 (iinc1 _) rfl rfl ?_
      refine x_goto dX5_dry_21 ?_
      refine ih (l + 1) _ (by omega) (by omega) (slp_cong (slp_loom hs (d := dryv t s l) (fun y j hy => qf y j (by omega)) ⟨(qf _ 0 (by omega)).trans lm.1, (qf _ 1 (by omega)).trans lm.2.1, (qf _ 2 (by omega)).trans lm.2.2.1, q3, (qf _ 4 (by omega)).trans lm.2.2.2.2.1, (qf _ 6 (by omega)).trans lm.2.2.2.2.2⟩) ⟨fun j hj => ⟨?_, ?_, ?_, ?_⟩, rfl, rfl⟩) (fun x j hx2 => (qf x j (fun z => hx2 ⟨by omega, by omega⟩)).trans (hfr x j hx2)) (fun j hj => ?_)
      · exact congrFun (nup_self (sP s) l) j
      · show nup (fun j => if j < l then dryv t s j else sD s j) l (dryv t s l) j = if j < l + 1 then dryv t s j else sD s j
        by_cases e : j = l
        · subst e; rw [nup_s, if_pos (Nat.lt_succ_self j)]
        · rw [nup_n e]
          by_cases e2 : j < l
          · rw [if_pos e2, if_pos (by omega)]
          · rw [if_neg e2, if_neg (by omega)]
      · exact congrFun (nup_self (sX s) l) j
      · exact congrFun (nup_self (sH s) l) j
      · by_cases e : j = l
        · subst e; exact q5
        · exact (qf _ _ (by omega)).trans (hrn j (by omega))
set_option maxHeartbeats 4000000 in
theorem c_X5_dry {r : Ev} {n : Nat} {I : MI} {Q : MQ2} (b : Nat) (t : Tp) (s : St) (hb : SlB n Q b) (hs : slp I b t s) (hrk : rkp I b t s) (ht : okT t) (hk : okS t s) : CT r 2 yX5_dry cX5_dry (2, none) (0, 0) [.ref (evz r + b)] n I Q (rv Q (fun J => FrS I J (FtS b) ∧ slp J b t (dryS t s) ∧ rkp J b t s ∧ ∀ l, l < tN t → J (b + 3 + l) 5 = nI 0)) := by
  refine ct_of (lv := [some (.ref (evz r + b)), none]) (by decide +kernel) rfl rfl rfl ?_
  refine x_const (c := 0) dX5_dry_0 rfl ?_
  refine x_istore_1 dX5_dry_1 rfl rfl ?_
  exact l_X5_dry b t s hb ht hk (fun J q1 q2 q3 => ⟨rfl, rfl, fun x j hx => q1 x j (fun z => hx ⟨by have := z.1; omega, z.2⟩), q2, fun i hi => (q1 _ _ (by unfold FtL; omega)).trans (hrk i hi), q3⟩) (tN t + 1) 0 _ (by omega) (by omega) (slp_cong hs ⟨fun j hj => ⟨rfl, (if_neg (t := dryv t s j) (Nat.not_lt_zero j)).symm, rfl, rfl⟩, rfl, rfl⟩) (fun _ _ _ => rfl) (fun j hj => absurd hj (Nat.not_lt_zero j))
set_option maxHeartbeats 4000000 in
theorem l_X5_allDrops {r : Ev} {n : Nat} {Q : MQ2} {F : Post} (b : Nat) (t : Tp) (s : St) (hb : SlB n Q b) {I : MI} (hs : slp I b t s) (hn : tN t ≤ 6) (hF : F (some (.int (nI (sumF (sD s) (tN t))))) I Q) : ∀ (k : Nat) (i : Nat), i ≤ tN t → i + k = tN t + 1 → X r 1 yX5_allDrops cX5_allDrops (3, (some .int)) (0, 0) 4 [some (.ref (evz r + b)), some (.int (nI (sumF (sD s) i))), some (.int (nI i))] [] n I Q F := by
  intro k
  induction k with
  | zero => intros; omega
  | succ k ih =>
    obtain ⟨h1, h2, h3, h4, h5, h6, h7⟩ := id hb
    obtain ⟨g1, g2, g3, g4⟩ := id hs
    intro i hi0 hi
    refine x_iload_2 dX5_allDrops_4 ?_
    refine x_aload_0 dX5_allDrops_5 ?_
    refine x_getV dX5_allDrops_6 f_X5_22 h1 g1 ?_
    refine x_icmp_geN dX5_allDrops_9 (by omega) (by omega) (fun c9 => ?_) (fun c9 => ?_)
    · obtain rfl : i = tN t := (by omega)
      refine x_iload_1 dX5_allDrops_29 ?_
      exact x_iret (st := []) dX5_allDrops_30 rfl rfl (hF)
    · refine x_iload_1 dX5_allDrops_12 ?_
      refine x_aload_0 dX5_allDrops_13 ?_
      refine x_iload_2 dX5_allDrops_14 ?_
      refine x_V1o dX5_allDrops_15 m_X5_32 (c_X5_pick b i hb (by omega)) (by assumption) ?_
      refine x_getV dX5_allDrops_18 f_X5_77 (h4 i (by omega)) (g4 i (by omega)).2.2.2.1 ?_
      refine x_iaddN dX5_allDrops_21 ?_
      refine x_istore_1 dX5_allDrops_22 rfl rfl ?_
      refine x_iinc_2 dX5_allDrops_23 (iinc1 _) rfl rfl ?_
      refine x_goto dX5_allDrops_26 ?_
      exact ih (i + 1) (by omega) (by omega)
set_option maxHeartbeats 4000000 in
theorem c_X5_allDrops {r : Ev} {n : Nat} {I : MI} {Q : MQ2} (b : Nat) (t : Tp) (s : St) (hb : SlB n Q b) (hs : slp I b t s) (hn : tN t ≤ 6) : CT r 1 yX5_allDrops cX5_allDrops (3, (some .int)) (0, 0) [.ref (evz r + b)] n I Q (ri Q (fun v J => J = I ∧ v = nI (sumF (sD s) (tN t)))) := by
  refine ct_of (lv := [some (.ref (evz r + b)), none, none]) (by decide +kernel) rfl rfl rfl ?_
  refine x_const (c := 0) dX5_allDrops_0 rfl ?_
  refine x_istore_1 dX5_allDrops_1 rfl rfl ?_
  refine x_const (c := 0) dX5_allDrops_2 rfl ?_
  refine x_istore_2 dX5_allDrops_3 rfl rfl ?_
  exact l_X5_allDrops b t s hb hs hn ⟨_, rfl, rfl, rfl, rfl⟩ (tN t + 1) 0 (by omega) (by omega)
set_option maxHeartbeats 4000000 in
theorem l_X5_allSpoiled {r : Ev} {n : Nat} {Q : MQ2} {F : Post} (b : Nat) (t : Tp) (s : St) (hb : SlB n Q b) {I : MI} (hs : slp I b t s) (hn : tN t ≤ 6) (hF : F (some (.int (nI (sumF (sX s) (tN t))))) I Q) : ∀ (k : Nat) (i : Nat), i ≤ tN t → i + k = tN t + 1 → X r 1 yX5_allSpoiled cX5_allSpoiled (3, (some .int)) (0, 0) 4 [some (.ref (evz r + b)), some (.int (nI (sumF (sX s) i))), some (.int (nI i))] [] n I Q F := by
  intro k
  induction k with
  | zero => intros; omega
  | succ k ih =>
    obtain ⟨h1, h2, h3, h4, h5, h6, h7⟩ := id hb
    obtain ⟨g1, g2, g3, g4⟩ := id hs
    intro i hi0 hi
    refine x_iload_2 dX5_allSpoiled_4 ?_
    refine x_aload_0 dX5_allSpoiled_5 ?_
    refine x_getV dX5_allSpoiled_6 f_X5_22 h1 g1 ?_
    refine x_icmp_geN dX5_allSpoiled_9 (by omega) (by omega) (fun c9 => ?_) (fun c9 => ?_)
    · obtain rfl : i = tN t := (by omega)
      refine x_iload_1 dX5_allSpoiled_29 ?_
      exact x_iret (st := []) dX5_allSpoiled_30 rfl rfl (hF)
    · refine x_iload_1 dX5_allSpoiled_12 ?_
      refine x_aload_0 dX5_allSpoiled_13 ?_
      refine x_iload_2 dX5_allSpoiled_14 ?_
      refine x_V1o dX5_allSpoiled_15 m_X5_32 (c_X5_pick b i hb (by omega)) (by assumption) ?_
      refine x_getV dX5_allSpoiled_18 f_X5_80 (h4 i (by omega)) (g4 i (by omega)).2.2.2.2.1 ?_
      refine x_iaddN dX5_allSpoiled_21 ?_
      refine x_istore_1 dX5_allSpoiled_22 rfl rfl ?_
      refine x_iinc_2 dX5_allSpoiled_23 (iinc1 _) rfl rfl ?_
      refine x_goto dX5_allSpoiled_26 ?_
      exact ih (i + 1) (by omega) (by omega)
set_option maxHeartbeats 4000000 in
theorem c_X5_allSpoiled {r : Ev} {n : Nat} {I : MI} {Q : MQ2} (b : Nat) (t : Tp) (s : St) (hb : SlB n Q b) (hs : slp I b t s) (hn : tN t ≤ 6) : CT r 1 yX5_allSpoiled cX5_allSpoiled (3, (some .int)) (0, 0) [.ref (evz r + b)] n I Q (ri Q (fun v J => J = I ∧ v = nI (sumF (sX s) (tN t)))) := by
  refine ct_of (lv := [some (.ref (evz r + b)), none, none]) (by decide +kernel) rfl rfl rfl ?_
  refine x_const (c := 0) dX5_allSpoiled_0 rfl ?_
  refine x_istore_1 dX5_allSpoiled_1 rfl rfl ?_
  refine x_const (c := 0) dX5_allSpoiled_2 rfl ?_
  refine x_istore_2 dX5_allSpoiled_3 rfl rfl ?_
  exact l_X5_allSpoiled b t s hb hs hn ⟨_, rfl, rfl, rfl, rfl⟩ (tN t + 1) 0 (by omega) (by omega)
set_option maxHeartbeats 4000000 in
theorem l_X5_shades {r : Ev} {n : Nat} {Q : MQ2} {F : Post} (b : Nat) (t : Tp) (s : St) (hb : SlB n Q b) {I : MI} (hs : slp I b t s) (hn : tN t ≤ 6) (hsm : ∀ l, l < tN t → sD s l < 1000 ∧ sH s l < 1000) (hF : F (some (.int (nI (bitF (fun l => decide (sH s l ≠ 0)) (tN t))))) I Q) : ∀ (k : Nat) (i : Nat), i ≤ tN t → i + k = tN t + 1 → X r 1 yX5_shades cX5_shades (3, (some .int)) (0, 0) 4 [some (.ref (evz r + b)), some (.int (nI (bitF (fun l => decide (sH s l ≠ 0)) i))), some (.int (nI i))] [] n I Q F := by
  intro k
  induction k with
  | zero => intros; omega
  | succ k ih =>
    obtain ⟨h1, h2, h3, h4, h5, h6, h7⟩ := id hb
    obtain ⟨g1, g2, g3, g4⟩ := id hs
    intro i hi0 hi
    refine x_iload_2 dX5_shades_4 ?_
    refine x_aload_0 dX5_shades_5 ?_
    refine x_getV dX5_shades_6 f_X5_22 h1 g1 ?_
    refine x_icmp_geN dX5_shades_9 (by omega) (by omega) (fun c9 => ?_) (fun c9 => ?_)
    · obtain rfl : i = tN t := (by omega)
      refine x_iload_1 dX5_shades_39 ?_
      exact x_iret (st := []) dX5_shades_40 rfl rfl (hF)
    · have hsi := hsm i (by omega)
      refine x_iload_1 dX5_shades_12 ?_
      refine x_aload_0 dX5_shades_13 ?_
      refine x_iload_2 dX5_shades_14 ?_
      refine x_V1o dX5_shades_15 m_X5_32 (c_X5_pick b i hb (by omega)) (by assumption) ?_
      refine x_getV dX5_shades_18 f_X5_83 (h4 i (by omega)) (g4 i (by omega)).2.2.2.2.2 ?_
      refine x_if_eqN dX5_shades_21 (by omega) (fun c21 => ?_) (fun c21 => ?_)
      · refine x_const (c := 0) dX5_shades_30 rfl ?_
        refine x_ior dX5_shades_31 ?_
        first | rw [or_bit i (by omega) _ (bitF_lt _ _), bitF_y (q := (fun l => decide (sH s l ≠ 0))) (i := i) (by simp; omega)] | rw [or_0 _ (Nat.lt_of_lt_of_le (bitF_lt _ _) (Nat.pow_le_pow_right (by decide) (show i ≤ 11 by omega))), bitF_n (q := (fun l => decide (sH s l ≠ 0))) (i := i) (by simp; omega)]
        refine x_istore_1 dX5_shades_32 rfl rfl ?_
        refine x_iinc_2 dX5_shades_33 (iinc1 _) rfl rfl ?_
        refine x_goto dX5_shades_36 ?_
        exact ih (i + 1) (by omega) (by omega)
      · refine x_const (c := 1) dX5_shades_24 rfl ?_
        refine x_iload_2 dX5_shades_25 ?_
        refine x_ishl dX5_shades_26 ?_
        refine x_goto dX5_shades_27 ?_
        refine x_ior dX5_shades_31 ?_
        first | rw [or_bit i (by omega) _ (bitF_lt _ _), bitF_y (q := (fun l => decide (sH s l ≠ 0))) (i := i) (by simp; omega)] | rw [or_0 _ (Nat.lt_of_lt_of_le (bitF_lt _ _) (Nat.pow_le_pow_right (by decide) (show i ≤ 11 by omega))), bitF_n (q := (fun l => decide (sH s l ≠ 0))) (i := i) (by simp; omega)]
        refine x_istore_1 dX5_shades_32 rfl rfl ?_
        refine x_iinc_2 dX5_shades_33 (iinc1 _) rfl rfl ?_
        refine x_goto dX5_shades_36 ?_
        exact ih (i + 1) (by omega) (by omega)
set_option maxHeartbeats 4000000 in
theorem c_X5_shades {r : Ev} {n : Nat} {I : MI} {Q : MQ2} (b : Nat) (t : Tp) (s : St) (hb : SlB n Q b) (hs : slp I b t s) (hn : tN t ≤ 6) (hsm : ∀ l, l < tN t → sD s l < 1000 ∧ sH s l < 1000) : CT r 1 yX5_shades cX5_shades (3, (some .int)) (0, 0) [.ref (evz r + b)] n I Q (ri Q (fun v J => J = I ∧ v = nI (bitF (fun l => decide (sH s l ≠ 0)) (tN t)))) := by
  refine ct_of (lv := [some (.ref (evz r + b)), none, none]) (by decide +kernel) rfl rfl rfl ?_
  refine x_const (c := 0) dX5_shades_0 rfl ?_
  refine x_istore_1 dX5_shades_1 rfl rfl ?_
  refine x_const (c := 0) dX5_shades_2 rfl ?_
  refine x_istore_2 dX5_shades_3 rfl rfl ?_
  exact l_X5_shades b t s hb hs hn hsm ⟨_, rfl, rfl, rfl, rfl⟩ (tN t + 1) 0 (by omega) (by omega)
set_option maxHeartbeats 4000000 in
theorem l_X5_yardBits {r : Ev} {n : Nat} {Q : MQ2} {F : Post} (b : Nat) (t : Tp) (s : St) (hb : SlB n Q b) {I : MI} (hs : slp I b t s) (hn : tN t ≤ 6) (yd : Nat) (hy : yd < 1000) (hsm : ∀ l, l < tN t → sD s l < 1000 ∧ sH s l < 1000) (hF : F (some (.int (nI (bitF (fun l => decide (yd ≤ sD s l)) (tN t))))) I Q) : ∀ (k : Nat) (i : Nat), i ≤ tN t → i + k = tN t + 1 → X r 1 yX5_yardBits cX5_yardBits (4, (some .int)) (0, 0) 4 [some (.ref (evz r + b)), some (.int (nI yd)), some (.int (nI (bitF (fun l => decide (yd ≤ sD s l)) i))), some (.int (nI i))] [] n I Q F := by
  intro k
  induction k with
  | zero => intros; omega
  | succ k ih =>
    obtain ⟨h1, h2, h3, h4, h5, h6, h7⟩ := id hb
    obtain ⟨g1, g2, g3, g4⟩ := id hs
    intro i hi0 hi
    refine x_iload_3 dX5_yardBits_4 ?_
    refine x_aload_0 dX5_yardBits_5 ?_
    refine x_getV dX5_yardBits_6 f_X5_22 h1 g1 ?_
    refine x_icmp_geN dX5_yardBits_9 (by omega) (by omega) (fun c9 => ?_) (fun c9 => ?_)
    · obtain rfl : i = tN t := (by omega)
      refine x_iload_2 dX5_yardBits_40 ?_
      exact x_iret (st := []) dX5_yardBits_41 rfl rfl (hF)
    · have hsi := hsm i (by omega)
      refine x_iload_2 dX5_yardBits_12 ?_
      refine x_aload_0 dX5_yardBits_13 ?_
      refine x_iload_3 dX5_yardBits_14 ?_
      refine x_V1o dX5_yardBits_15 m_X5_32 (c_X5_pick b i hb (by omega)) (by assumption) ?_
      refine x_getV dX5_yardBits_18 f_X5_77 (h4 i (by omega)) (g4 i (by omega)).2.2.2.1 ?_
      refine x_iload_1 dX5_yardBits_21 ?_
      refine x_icmp_ltN dX5_yardBits_22 (by omega) (by omega) (fun c22 => ?_) (fun c22 => ?_)
      · refine x_const (c := 0) dX5_yardBits_31 rfl ?_
        refine x_ior dX5_yardBits_32 ?_
        first | rw [or_bit i (by omega) _ (bitF_lt _ _), bitF_y (q := (fun l => decide (yd ≤ sD s l))) (i := i) (by simp; omega)] | rw [or_0 _ (Nat.lt_of_lt_of_le (bitF_lt _ _) (Nat.pow_le_pow_right (by decide) (show i ≤ 11 by omega))), bitF_n (q := (fun l => decide (yd ≤ sD s l))) (i := i) (by simp; omega)]
        refine x_istore_2 dX5_yardBits_33 rfl rfl ?_
        refine x_iinc_3 dX5_yardBits_34 (iinc1 _) rfl rfl ?_
        refine x_goto dX5_yardBits_37 ?_
        exact ih (i + 1) (by omega) (by omega)
      · refine x_const (c := 1) dX5_yardBits_25 rfl ?_
        refine x_iload_3 dX5_yardBits_26 ?_
        refine x_ishl dX5_yardBits_27 ?_
        refine x_goto dX5_yardBits_28 ?_
        refine x_ior dX5_yardBits_32 ?_
        first | rw [or_bit i (by omega) _ (bitF_lt _ _), bitF_y (q := (fun l => decide (yd ≤ sD s l))) (i := i) (by simp; omega)] | rw [or_0 _ (Nat.lt_of_lt_of_le (bitF_lt _ _) (Nat.pow_le_pow_right (by decide) (show i ≤ 11 by omega))), bitF_n (q := (fun l => decide (yd ≤ sD s l))) (i := i) (by simp; omega)]
        refine x_istore_2 dX5_yardBits_33 rfl rfl ?_
        refine x_iinc_3 dX5_yardBits_34 (iinc1 _) rfl rfl ?_
        refine x_goto dX5_yardBits_37 ?_
        exact ih (i + 1) (by omega) (by omega)
set_option maxHeartbeats 4000000 in
theorem c_X5_yardBits {r : Ev} {n : Nat} {I : MI} {Q : MQ2} (b : Nat) (t : Tp) (s : St) (hb : SlB n Q b) (hs : slp I b t s) (hn : tN t ≤ 6) (yd : Nat) (hy : yd < 1000) (hsm : ∀ l, l < tN t → sD s l < 1000 ∧ sH s l < 1000) : CT r 1 yX5_yardBits cX5_yardBits (4, (some .int)) (0, 0) [.ref (evz r + b), .int (nI yd)] n I Q (ri Q (fun v J => J = I ∧ v = nI (bitF (fun l => decide (yd ≤ sD s l)) (tN t)))) := by
  refine ct_of (lv := [some (.ref (evz r + b)), some (.int (nI yd)), none, none]) (by decide +kernel) rfl rfl rfl ?_
  refine x_const (c := 0) dX5_yardBits_0 rfl ?_
  refine x_istore_2 dX5_yardBits_1 rfl rfl ?_
  refine x_const (c := 0) dX5_yardBits_2 rfl ?_
  refine x_istore_3 dX5_yardBits_3 rfl rfl ?_
  exact l_X5_yardBits b t s hb hs hn yd hy hsm ⟨_, rfl, rfl, rfl, rfl⟩ (tN t + 1) 0 (by omega) (by omega)
