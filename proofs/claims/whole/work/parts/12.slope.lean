/-! ranges -/
theorem inR {x : Int32} {lo hi : Nat} (hlo : lo < 1000) (hhi : hi < 100000000) (h1 : ¬ x < nI lo) (h2 : ¬ nI hi < x) : ∃ j : Nat, lo ≤ j ∧ j ≤ hi ∧ x = nI j := by
  have a1 : (nI lo).toInt = lo := nI_toInt (by omega)
  have a2 : (nI hi).toInt = hi := nI_toInt (by omega)
  have b1 : ¬ x.toInt < (lo : Int) := by rw [← a1]; exact fun z => h1 (Int32.lt_iff_toInt_lt.mpr z)
  have b2 : ¬ (hi : Int) < x.toInt := by rw [← a2]; exact fun z => h2 (Int32.lt_iff_toInt_lt.mpr z)
  obtain ⟨j, hj, he⟩ := nI_of (x := x) (fun z => by have := Int32.lt_iff_toInt_lt.mp z; have e0 : (0 : Int32).toInt = 0 := rfl; omega)
  have a3 : (nI j).toInt = j := nI_toInt hj
  subst he
  exact ⟨j, by omega, by omega, rfl⟩
theorem outR {j lo hi : Nat} (hj : j < 100000000) (hlo : lo < 100000000) (hhi : hi < 100000000) : (nI j < nI lo ∨ nI hi < nI j) ↔ (j < lo ∨ hi < j) := by
  have e1 := nI_ltI (a := j) (b := lo) (by omega) (by omega)
  have e2 := nI_ltI (a := hi) (b := j) (by omega) (by omega)
  rw [e1, e2]
def outp (x lo hi y : Int32) : Prop := (y = nI 1 ∧ (x < lo ∨ hi < x)) ∨ (y = nI 0 ∧ ¬ x < lo ∧ ¬ hi < x)
set_option maxHeartbeats 4000000 in
theorem c_X8_isOutside {r : Ev} {n : Nat} {I : MI} {Q : MQ2} (x lo hi : Int32) : CT r 0 yX8_isOutside cX8_isOutside (3, (some .boolean)) (0, 0) [.int x, .int lo, .int hi] n I Q (ri Q (fun v J => J = I ∧ outp x lo hi v)) := by
  refine ct_of (lv := [some (.int x), some (.int lo), some (.int hi)]) (by decide +kernel) rfl rfl rfl ?_
  refine x_iload_0 dX8_isOutside_0 ?_
  refine x_iload_1 dX8_isOutside_1 ?_
  refine x_icmp_lt dX8_isOutside_2 (fun c2 => ?_) (fun c2 => ?_)
  · refine x_const (c := 1) dX8_isOutside_10 rfl ?_
    refine x_goto dX8_isOutside_11 ?_
    exact x_iret (st := []) dX8_isOutside_15 rfl rfl (⟨_, rfl, rfl, rfl, by unfold outp; first | exact Or.inl ⟨rfl, Or.inl (by assumption)⟩ | exact Or.inl ⟨rfl, Or.inr (by first | assumption | exact Int32.not_le.mp (by assumption))⟩ | exact Or.inr ⟨rfl, by assumption, by first | assumption | exact fun z => absurd z (Int32.not_lt.mpr (by assumption))⟩⟩)
  · refine x_iload_0 dX8_isOutside_5 ?_
    refine x_iload_2 dX8_isOutside_6 ?_
    refine x_icmp_le dX8_isOutside_7 (fun c7 => ?_) (fun c7 => ?_)
    · refine x_const (c := 0) dX8_isOutside_14 rfl ?_
      exact x_iret (st := []) dX8_isOutside_15 rfl rfl (⟨_, rfl, rfl, rfl, by unfold outp; first | exact Or.inl ⟨rfl, Or.inl (by assumption)⟩ | exact Or.inl ⟨rfl, Or.inr (by first | assumption | exact Int32.not_le.mp (by assumption))⟩ | exact Or.inr ⟨rfl, by assumption, by first | assumption | exact fun z => absurd z (Int32.not_lt.mpr (by assumption))⟩⟩)
    · refine x_const (c := 1) dX8_isOutside_10 rfl ?_
      refine x_goto dX8_isOutside_11 ?_
      exact x_iret (st := []) dX8_isOutside_15 rfl rfl (⟨_, rfl, rfl, rfl, by unfold outp; first | exact Or.inl ⟨rfl, Or.inl (by assumption)⟩ | exact Or.inl ⟨rfl, Or.inr (by first | assumption | exact Int32.not_le.mp (by assumption))⟩ | exact Or.inr ⟨rfl, by assumption, by first | assumption | exact fun z => absurd z (Int32.not_lt.mpr (by assumption))⟩⟩)
theorem outp01 {x lo hi y : Int32} (h : outp x lo hi y) : narrow .boolean (.int y) = .int y := by
  rcases h with ⟨rfl, -⟩ | ⟨rfl, -⟩ <;> rfl
set_option maxHeartbeats 4000000 in
theorem c_X8_isNoPlace {r : Ev} {n : Nat} {I : MI} {Q : MQ2} (x : Int32) : CT r 1 yX8_isNoPlace cX8_isNoPlace (1, (some .boolean)) (0, 0) [.int x] n I Q (ri Q (fun v J => J = I ∧ outp x (nI 0) (nI 9) v)) := by
  refine ct_of (lv := [some (.int x)]) (by decide +kernel) rfl rfl rfl ?_
  refine x_iload_0 dX8_isNoPlace_0 ?_
  refine x_const (c := 0) dX8_isNoPlace_1 rfl ?_
  refine x_bip (c := 9) dX8_isNoPlace_2 (by decide) ?_
  refine x_S3i dX8_isNoPlace_4 m_X8_91 (c_X8_isOutside x (nI 0) (nI 9)) (fun x4 I4 h4 => ?_)
  obtain ⟨rfl, h4⟩ := h4
  exact x_iret (st := []) dX8_isNoPlace_7 rfl (outp01 h4) (⟨_, rfl, rfl, rfl, h4⟩)
/-! bits of small numbers -/
def bitF (q : Nat → Bool) : Nat → Nat
  | 0 => 0
  | n + 1 => bitF q n + (if q n then 2 ^ n else 0)
theorem bitF_lt (q : Nat → Bool) : ∀ n, bitF q n < 2 ^ n
  | 0 => by unfold bitF; exact Nat.le_of_ble_eq_true rfl
  | n + 1 => by
    have h := bitF_lt q n
    have e : 2 ^ (n + 1) = 2 ^ n + 2 ^ n := by omega
    unfold bitF
    split <;> omega
theorem or_bit : ∀ l, l < 11 → ∀ a, a < 2 ^ l → nI a ||| (nI 1 <<< (nI l &&& 31)) = nI (a + 2 ^ l) := by decide +kernel
theorem or_0 : ∀ a, a < 2048 → nI a ||| nI 0 = nI a := by decide +kernel
theorem bit_at : ∀ l, l < 7 → ∀ a, a < 128 → ((nI a >>> (nI l &&& 31)) &&& nI 1) = nI (a / 2 ^ l % 2) := by decide +kernel
theorem bitF_bit (q : Nat → Bool) {l : Nat} : ∀ {n : Nat}, l < n → bitF q n / 2 ^ l % 2 = if q l then 1 else 0
  | 0, h => absurd h (Nat.not_lt_zero l)
  | n + 1, h => by
    have hp : 0 < 2 ^ l := Nat.pow_pos (by decide)
    rcases Nat.lt_or_ge l n with z | z
    · have ih := bitF_bit q z
      unfold bitF
      obtain ⟨k, rfl⟩ : ∃ k, n = l + 1 + k := ⟨n - (l + 1), by omega⟩
      have e : 2 ^ (l + 1 + k) = 2 ^ l * (2 * 2 ^ k) := by rw [Nat.pow_add, Nat.pow_add, Nat.pow_one]; rw [Nat.mul_assoc]
      split
      · rw [e, Nat.add_mul_div_left _ _ hp, Nat.add_mul_mod_self_left, ih]
      · rw [Nat.add_zero, ih]
    · have e : l = n := by omega
      subst e
      have hb := bitF_lt q l
      unfold bitF
      split
      · rw [Nat.add_div_right _ hp, Nat.div_eq_of_lt hb]
      · rw [Nat.add_zero, Nat.div_eq_of_lt hb]
theorem bitF_cong {q q' : Nat → Bool} : ∀ {n : Nat}, (∀ k, k < n → q k = q' k) → bitF q n = bitF q' n
  | 0, _ => rfl
  | n + 1, h => by unfold bitF; rw [h n (Nat.lt_succ_self n), bitF_cong (fun k hk => h k (Nat.lt_succ_of_lt hk))]
def sumF (f : Nat → Nat) : Nat → Nat
  | 0 => 0
  | n + 1 => sumF f n + f n
theorem sumF_cong {f g : Nat → Nat} : ∀ {n : Nat}, (∀ k, k < n → f k = g k) → sumF f n = sumF g n
  | 0, _ => rfl
  | n + 1, h => by unfold sumF; rw [h n (Nat.lt_succ_self n), sumF_cong (fun k hk => h k (Nat.lt_succ_of_lt hk))]
set_option maxHeartbeats 4000000 in
theorem c_X8_hasBit {r : Ev} {n : Nat} {I : MI} {Q : MQ2} (a l : Nat) (ha : a < 128) (hl : l < 7) : CT r 0 yX8_hasBit cX8_hasBit (2, (some .boolean)) (0, 0) [.int (nI a), .int (nI l)] n I Q (ri Q (fun v J => J = I ∧ ((v = nI 1 ∧ a / 2 ^ l % 2 = 1) ∨ (v = nI 0 ∧ a / 2 ^ l % 2 = 0)))) := by
  refine ct_of (lv := [some (.int (nI a)), some (.int (nI l))]) (by decide +kernel) rfl rfl rfl ?_
  refine x_iload_0 dX8_hasBit_0 ?_
  refine x_iload_1 dX8_hasBit_1 ?_
  refine x_ishr dX8_hasBit_2 ?_
  refine x_const (c := 1) dX8_hasBit_3 rfl ?_
  refine x_iand dX8_hasBit_4 ?_
  rw [bit_at l hl a ha]
  refine x_const (c := 1) dX8_hasBit_5 rfl ?_
  refine x_icmp_neN dX8_hasBit_6 (by omega) (by omega) (fun c6 => ?_) (fun c6 => ?_)
  · refine x_const (c := 0) dX8_hasBit_13 rfl ?_
    exact x_iret (st := []) dX8_hasBit_14 rfl rfl (⟨_, rfl, rfl, rfl, by first | exact Or.inl ⟨rfl, by omega⟩ | exact Or.inr ⟨rfl, by omega⟩⟩)
  · refine x_const (c := 1) dX8_hasBit_9 rfl ?_
    refine x_goto dX8_hasBit_10 ?_
    exact x_iret (st := []) dX8_hasBit_14 rfl rfl (⟨_, rfl, rfl, rfl, by first | exact Or.inl ⟨rfl, by omega⟩ | exact Or.inr ⟨rfl, by omega⟩⟩)
/-! a slope's cells: the slope at b, its row of looms at b + 1, fromAbove at b + 2, the looms from b + 3 on -/
def SlB (n : Nat) (Q : MQ2) (b : Nat) : Prop := Ob n 5 b ∧ Ar n 12 (b + 1) 6 ∧ Ar n 11 (b + 2) 6 ∧ (∀ k, k < 6 → Ob n 0 (b + 3 + k)) ∧ Q b 0 = some (b + 1) ∧ Q b 1 = some (b + 2) ∧ ∀ k, k < 6 → Q (b + 1) k = some (b + 3 + k)
def lmp (I : MI) (a k p t d x h : Nat) : Prop := I a 0 = nI k ∧ I a 1 = nI p ∧ I a 2 = nI t ∧ I a 3 = nI d ∧ I a 4 = nI x ∧ I a 6 = nI h
def slp (I : MI) (b : Nat) (t : Tp) (s : St) : Prop := I b 2 = nI (tN t) ∧ I b 3 = nI (sR s) ∧ I b 4 = nI (sO s) ∧ ∀ l, l < tN t → lmp I (b + 3 + l) (tK t l) (sP s l) (tT t l) (sD s l) (sX s l) (sH s l)
def rkp (I : MI) (b : Nat) (t : Tp) (s : St) : Prop := ∀ i, i < tN t → I (b + 2) i = nI (ordO (tN t) (sP s) i)
def FtS (b : Nat) (x _ : Nat) : Prop := b ≤ x ∧ x < b + 9
def FtL (b : Nat) (x _ : Nat) : Prop := b + 3 ≤ x ∧ x < b + 9
theorem slp_fr {I J : MI} {b : Nat} {t : Tp} {s : St} (h : slp I b t s) (ht : tN t ≤ 6) (fr : ∀ x j, b ≤ x → x < b + 9 → x ≠ b + 2 → J x j = I x j) : slp J b t s := by
  obtain ⟨h1, h2, h3, h4⟩ := h
  refine ⟨(fr b 2 (by omega) (by omega) (by omega)).trans h1, (fr b 3 (by omega) (by omega) (by omega)).trans h2, (fr b 4 (by omega) (by omega) (by omega)).trans h3, fun l hl => ?_⟩
  obtain ⟨a0, a1, a2, a3, a4, a6⟩ := h4 l hl
  have f := fun j => fr (b + 3 + l) j (by omega) (by omega) (by omega)
  exact ⟨(f 0).trans a0, (f 1).trans a1, (f 2).trans a2, (f 3).trans a3, (f 4).trans a4, (f 6).trans a6⟩
theorem rkp_fr {I J : MI} {b : Nat} {t : Tp} {s : St} (h : rkp I b t s) (fr : ∀ j, J (b + 2) j = I (b + 2) j) : rkp J b t s := fun i hi => (fr i).trans (h i hi)
theorem slp_loom {I J : MI} {b : Nat} {t : Tp} {s : St} {l p d x hh : Nat} (h : slp I b t s) (fr : ∀ y j, y ≠ b + 3 + l → J y j = I y j) (hm : lmp J (b + 3 + l) (tK t l) p (tT t l) d x hh) : slp J b t (setL s l p d x hh) := by
  obtain ⟨h1, h2, h3, h4⟩ := h
  refine ⟨(fr b 2 (by omega)).trans h1, (fr b 3 (by omega)).trans h2, (fr b 4 (by omega)).trans h3, fun k hk => ?_⟩
  rw [setL_P, setL_D, setL_X, setL_H]
  by_cases e : k = l
  · subst e
    rw [nup_s, nup_s, nup_s, nup_s]
    exact hm
  · rw [nup_n e, nup_n e, nup_n e, nup_n e]
    obtain ⟨a0, a1, a2, a3, a4, a6⟩ := h4 k hk
    have f := fun j => fr (b + 3 + k) j (by omega)
    exact ⟨(f 0).trans a0, (f 1).trans a1, (f 2).trans a2, (f 3).trans a3, (f 4).trans a4, (f 6).trans a6⟩
theorem slp_cong {I : MI} {b : Nat} {t : Tp} {s u : St} (h : slp I b t s) (e : eqS (tN t) s u) : slp I b t u := by
  obtain ⟨h1, h2, h3, h4⟩ := h
  refine ⟨h1, by rw [← e.2.2]; exact h2, by rw [← e.2.1]; exact h3, fun k hk => ?_⟩
  obtain ⟨e1, e2, e3, e4⟩ := e.1 k hk
  rw [← e1, ← e2, ← e3, ← e4]
  exact h4 k hk
theorem rkp_cong {I : MI} {b : Nat} {t : Tp} {s u : St} (h : rkp I b t s) (e : ∀ l, l < tN t → sP s l = sP u l) : rkp I b t u := fun i hi => by rw [← ordO_cong e]; exact h i hi
set_option maxHeartbeats 4000000 in
theorem c_X5_pick {r : Ev} {n : Nat} {I : MI} {Q : MQ2} (b k : Nat) (hb : SlB n Q b) (hk : k < 6) : CT r 0 yX5_pick cX5_pick (2, (some (.object "DewLooms$Loom"))) (0, 0) [.ref (evz r + b), .int (nI k)] n I Q (ro r I Q (b + 3 + k)) := by
  refine ct_of (lv := [some (.ref (evz r + b)), some (.int (nI k))]) (by decide +kernel) rfl rfl rfl ?_
  obtain ⟨h1, h2, h3, h4, h5, h6, h7⟩ := hb
  refine x_aload_0 dX5_pick_0 ?_
  refine x_getr dX5_pick_1 f_X5_11 h1 h5 ?_
  refine x_iload_1 dX5_pick_4 ?_
  refine x_if_ltN dX5_pick_5 (by omega) (fun c5 => ?_) (fun c5 => ?_)
  · exfalso; omega
  · refine x_iload_1 dX5_pick_8 ?_
    refine x_aload_0 dX5_pick_9 ?_
    refine x_getr dX5_pick_10 f_X5_11 h1 h5 ?_
    refine x_alen dX5_pick_13 h2 (by decide) ?_
    refine x_icmp_ltN dX5_pick_14 (by omega) (by omega) (fun c14 => ?_) (fun c14 => ?_)
    · refine x_iload_1 dX5_pick_21 ?_
      refine x_aaldL dX5_pick_22 h2 rfl (by omega) (h7 _ (by omega)) ?_
      exact x_aret (st := []) dX5_pick_23 rfl ⟨_, rfl⟩ (⟨rfl, rfl, rfl⟩)
    · exfalso; omega
set_option maxHeartbeats 4000000 in
theorem l_X5_loomOn {r : Ev} {n : Nat} {Q : MQ2} {F : Post} (b : Nat) (t : Tp) (s : St) (hb : SlB n Q b) {I : MI} (hs : slp I b t s) (hn : tN t ≤ 6) (p : Nat) (hp : p < 1000) (hpl : ∀ l, l < tN t → sP s l < 1000) (hF1 : ∀ l, l < tN t → sP s l = p → F (some (.int (nI l))) I Q) (hF2 : (∀ l, l < tN t → sP s l ≠ p) → F (some (.int (-4))) I Q) : ∀ (k : Nat) (i : Nat), i ≤ tN t → i + k = tN t + 1 → (∀ j, j < i → sP s j ≠ p) → X r 1 yX5_loomOn cX5_loomOn (3, (some .int)) (0, 0) 2 [some (.ref (evz r + b)), some (.int (nI p)), some (.int (nI i))] [] n I Q F := by
  intro k
  induction k with
  | zero => intros; omega
  | succ k ih =>
    obtain ⟨h1, h2, h3, h4, h5, h6, h7⟩ := id hb
    obtain ⟨g1, g2, g3, g4⟩ := id hs
    intro i hi0 hi ho
    refine x_iload_2 dX5_loomOn_2 ?_
    refine x_aload_0 dX5_loomOn_3 ?_
    refine x_getV dX5_loomOn_4 f_X5_22 h1 g1 ?_
    refine x_icmp_geN dX5_loomOn_7 (by omega) (by omega) (fun c7 => ?_) (fun c7 => ?_)
    · have c7 : i = tN t := by omega
      refine x_bipush (v := -4) dX5_loomOn_30 (by decide) ?_
      exact x_iret (st := []) dX5_loomOn_32 rfl rfl (hF2 (fun l hl => ho l (by omega)))
    · refine x_aload_0 dX5_loomOn_10 ?_
      refine x_iload_2 dX5_loomOn_11 ?_
      refine x_V1o dX5_loomOn_12 m_X5_32 (c_X5_pick b i hb (by omega)) (by assumption) ?_
      have hpi := hpl i (by omega)
      refine x_getV dX5_loomOn_15 f_X5_65 (h4 i (by omega)) (g4 i (by omega)).2.1 ?_
      refine x_iload_1 dX5_loomOn_18 ?_
      refine x_icmp_neN dX5_loomOn_19 (by omega) (by omega) (fun c19 => ?_) (fun c19 => ?_)
      · refine x_iinc_2 dX5_loomOn_24 (iinc1 _) rfl rfl ?_
        refine x_goto dX5_loomOn_27 ?_
        exact ih (i + 1) (by omega) (by omega) (fun j hj => (Nat.lt_or_ge j i).elim (ho j) (fun z => by obtain rfl : j = i := (by omega); exact c19))
      · have c19 : sP s i = p := by omega
        refine x_iload_2 dX5_loomOn_22 ?_
        exact x_iret (st := []) dX5_loomOn_23 rfl rfl (hF1 i (by omega) (by omega))
set_option maxHeartbeats 4000000 in
theorem c_X5_loomOn {r : Ev} {n : Nat} {I : MI} {Q : MQ2} (b : Nat) (t : Tp) (s : St) (hb : SlB n Q b) (hs : slp I b t s) (hn : tN t ≤ 6) (p : Nat) (hp : p < 1000) (hpl : ∀ l, l < tN t → sP s l < 1000) : CT r 1 yX5_loomOn cX5_loomOn (3, (some .int)) (0, 0) [.ref (evz r + b), .int (nI p)] n I Q (ri Q (fun v J => J = I ∧ ((∃ l, l < tN t ∧ sP s l = p ∧ v = nI l) ∨ (v = -4 ∧ ∀ l, l < tN t → sP s l ≠ p)))) := by
  refine ct_of (lv := [some (.ref (evz r + b)), some (.int (nI p)), none]) (by decide +kernel) rfl rfl rfl ?_
  refine x_const (c := 0) dX5_loomOn_0 rfl ?_
  refine x_istore_2 dX5_loomOn_1 rfl rfl ?_
  exact l_X5_loomOn b t s hb hs hn p hp hpl (fun l hl he => ⟨_, rfl, rfl, rfl, Or.inl ⟨l, hl, he, rfl⟩⟩) (fun h => ⟨_, rfl, rfl, rfl, Or.inr ⟨rfl, h⟩⟩) (tN t + 1) 0 (by omega) (by omega) (fun j hj => absurd hj (Nat.not_lt_zero j))
