/-! two families of laws/COUNTS.to-paste, then the pure picture -/
/-! ===== drawers: more things than places ===== -/
theorem fb_holes : ∀ (m n : Nat) (f : Nat → Nat), (∀ i, i < n → f i < m) → (∀ i j, i < j → j < n → f i ≠ f j) → n ≤ m := by
  intro m
  induction m with
  | zero =>
    intro n f h1 _
    rcases Nat.eq_zero_or_pos n with h | h
    · omega
    · exact absurd (h1 0 h) (Nat.not_lt_zero _)
  | succ m ih =>
    intro n f h1 h2
    by_cases hx : ∃ i, i < n ∧ f i = m
    · obtain ⟨a, ha, hfa⟩ := hx
      have hg := ih (n - 1) (fun i => if i < a then f i else f (i + 1)) (by
        intro i hi
        by_cases q : i < a
        · simp only [if_pos q]
          have b1 := h1 i (by omega)
          have b2 := h2 i a q ha
          omega
        · simp only [if_neg q]
          have b1 := h1 (i + 1) (by omega)
          have b2 := h2 a (i + 1) (by omega) (by omega)
          omega) (by
        intro i j hij hj
        by_cases q : i < a
        · by_cases r : j < a
          · simp only [if_pos q, if_pos r]
            exact h2 i j hij (by omega)
          · simp only [if_pos q, if_neg r]
            exact h2 i (j + 1) (by omega) (by omega)
        · have r : ¬ j < a := by omega
          simp only [if_neg q, if_neg r]
          exact h2 (i + 1) (j + 1) (by omega) (by omega))
      omega
    · have hg := ih n f (fun i hi => by
        have b1 := h1 i hi
        have b2 : f i ≠ m := fun e => hx ⟨i, hi, e⟩
        omega) h2
      omega
/-- two of them in one place -/
theorem fb_twice {m n : Nat} {f : Nat → Nat} (h : ∀ i, i < n → f i < m) (hm : m < n) : ∃ i j, i < j ∧ j < n ∧ f i = f j := by
  refine Classical.byContradiction fun hx => ?_
  have := fb_holes m n f h (fun i j hij hj e => hx ⟨i, j, hij, hj, e⟩)
  omega
/-- as many as places, none twice: each place is taken -/
theorem fb_onto {n : Nat} {f : Nat → Nat} (h : ∀ i, i < n → f i < n) (h2 : ∀ i j, i < j → j < n → f i ≠ f j) {y : Nat} (hy : y < n) : ∃ i, i < n ∧ f i = y := by
  refine Classical.byContradiction fun hx => ?_
  have hne : ∀ i, i < n → f i ≠ y := fun i hi e => hx ⟨i, hi, e⟩
  have := fb_holes (n - 1) n (fun i => if f i < y then f i else f i - 1) (by
    intro i hi
    have b1 := h i hi
    have b2 := hne i hi
    by_cases q : f i < y
    · simp only [if_pos q]; omega
    · simp only [if_neg q]; omega) (by
    intro i j hij hj
    have b1 := hne i (by omega)
    have b2 := hne j hj
    have b3 := h2 i j hij hj
    by_cases q : f i < y
    · by_cases r : f j < y
      · simp only [if_pos q, if_pos r]; exact b3
      · simp only [if_pos q, if_neg r]; omega
    · by_cases r : f j < y
      · simp only [if_neg q, if_pos r]; omega
      · simp only [if_neg q, if_neg r]; omega)
  omega
/-! ===== how many places have a property ===== -/
def fb_ct (p : Nat → Bool) : Nat → Nat
  | 0 => 0
  | n + 1 => fb_ct p n + (if p n then 1 else 0)
theorem fb_ct_succ (p : Nat → Bool) (n : Nat) : fb_ct p (n + 1) = fb_ct p n + (if p n then 1 else 0) := rfl
theorem fb_ct_le (p : Nat → Bool) : ∀ n, fb_ct p n ≤ n
  | 0 => Nat.le_refl _
  | n + 1 => by
    have h := fb_ct_le p n
    rw [fb_ct_succ]
    split <;> omega
theorem fb_ct_step (p : Nat → Bool) (m : Nat) : ∀ n, fb_ct p m ≤ fb_ct p (m + n)
  | 0 => Nat.le_refl _
  | n + 1 => by
    have h := fb_ct_step p m n
    show fb_ct p m ≤ fb_ct p (m + n + 1)
    rw [fb_ct_succ]
    omega
theorem fb_ct_mono (p : Nat → Bool) {m n : Nat} (h : m ≤ n) : fb_ct p m ≤ fb_ct p n := by
  have := fb_ct_step p m (n - m)
  rwa [Nat.add_sub_cancel' h] at this
theorem fb_ct_cong {p q : Nat → Bool} : ∀ {n : Nat}, (∀ k, k < n → p k = q k) → fb_ct p n = fb_ct q n
  | 0, _ => rfl
  | n + 1, h => by
    rw [fb_ct_succ, fb_ct_succ, fb_ct_cong (fun k hk => h k (by omega)), h n (by omega)]
/-- one place changed -/
theorem fb_ct_out (p : Nat → Bool) (b : Bool) {i n : Nat} (h : n ≤ i) : fb_ct (fun k => if k = i then b else p k) n = fb_ct p n :=
  fb_ct_cong fun k hk => if_neg (by omega)
theorem fb_ct_upd (p : Nat → Bool) (b : Bool) {i : Nat} : ∀ {n : Nat}, i < n → fb_ct (fun k => if k = i then b else p k) n + (if p i then 1 else 0) = fb_ct p n + (if b then 1 else 0)
  | 0, h => absurd h (Nat.not_lt_zero i)
  | n + 1, h => by
    rw [fb_ct_succ, fb_ct_succ]
    rcases Nat.lt_or_ge i n with q | q
    · have := fb_ct_upd p b q
      have e : (if n = i then b else p n) = p n := if_neg (by omega)
      rw [e]
      omega
    · have e : i = n := by omega
      subst e
      rw [fb_ct_out p b (Nat.le_refl _)]
      simp only [if_true]
      omega
theorem fb_ct_sub {p q : Nat → Bool} : ∀ {n : Nat}, (∀ k, k < n → p k = true → q k = true) → fb_ct p n ≤ fb_ct q n
  | 0, _ => Nat.le_refl _
  | n + 1, h => by
    have h1 := fb_ct_sub (n := n) (p := p) (q := q) (fun k hk => h k (by omega))
    have h2 := h n (by omega)
    rw [fb_ct_succ, fb_ct_succ]
    cases hp : p n <;> cases hq : q n <;> simp_all <;> omega
theorem fb_ct_or {p q : Nat → Bool} : ∀ {n : Nat}, (∀ k, k < n → ¬ (p k = true ∧ q k = true)) → fb_ct (fun k => p k || q k) n = fb_ct p n + fb_ct q n
  | 0, _ => rfl
  | n + 1, h => by
    have h1 := fb_ct_or (n := n) (p := p) (q := q) (fun k hk => h k (by omega))
    have h2 := h n (by omega)
    rw [fb_ct_succ, fb_ct_succ, fb_ct_succ, h1]
    cases hp : p n <;> cases hq : q n <;> simp_all <;> omega
theorem fb_ct_not (p : Nat → Bool) : ∀ n, fb_ct p n + fb_ct (fun k => !p k) n = n
  | 0 => rfl
  | n + 1 => by
    have h := fb_ct_not p n
    rw [fb_ct_succ, fb_ct_succ]
    cases p n <;> simp <;> omega
theorem fb_ct_split (p : Nat → Bool) (m : Nat) : ∀ n, fb_ct p (m + n) = fb_ct p m + fb_ct (fun k => p (m + k)) n
  | 0 => rfl
  | n + 1 => by
    have h := fb_ct_split p m n
    show fb_ct p (m + n + 1) = _
    rw [fb_ct_succ, fb_ct_succ, h, Nat.add_assoc]
theorem fb_ct_zero {p : Nat → Bool} : ∀ {n : Nat}, fb_ct p n = 0 ↔ ∀ k, k < n → p k = false
  | 0 => ⟨fun _ k hk => absurd hk (Nat.not_lt_zero k), fun _ => rfl⟩
  | n + 1 => by
    have h := fb_ct_zero (p := p) (n := n)
    rw [fb_ct_succ]
    constructor
    · intro e k hk
      have e1 : fb_ct p n = 0 := by omega
      rcases Nat.lt_or_ge k n with q | q
      · exact h.mp e1 k q
      · have ek : k = n := by omega
        subst ek
        cases hp : p k
        · rfl
        · simp [hp] at e
    · intro a
      rw [h.mpr (fun k hk => a k (by omega)), a n (by omega)]
      rfl
theorem fb_ct_pos {p : Nat → Bool} {n : Nat} : 0 < fb_ct p n ↔ ∃ k, k < n ∧ p k = true := by
  constructor
  · intro h
    refine Classical.byContradiction fun hx => ?_
    have := fb_ct_zero.mpr (fun k hk => by
      cases hp : p k
      · rfl
      · exact absurd ⟨k, hk, hp⟩ hx : ∀ k, k < n → p k = false)
    omega
  · rintro ⟨k, hk, hp⟩
    rcases Nat.eq_zero_or_pos (fb_ct p n) with e | e
    · have := fb_ct_zero.mp e k hk
      rw [this] at hp
      cases hp
    · exact e
theorem fb_ct_all {p : Nat → Bool} {n : Nat} : fb_ct p n = n ↔ ∀ k, k < n → p k = true := by
  have h := fb_ct_not p n
  constructor
  · intro e k hk
    have z : fb_ct (fun k => !p k) n = 0 := by omega
    have := fb_ct_zero.mp z k hk
    cases hp : p k
    · simp [hp] at this
    · rfl
  · intro a
    have z : fb_ct (fun k => !p k) n = 0 := fb_ct_zero.mpr (fun k hk => by simp [a k hk])
    omega
/-- the k-th place with the property -/
theorem fb_ct_kth {p : Nat → Bool} {k : Nat} : ∀ {n : Nat}, k < fb_ct p n → ∃ i, i < n ∧ p i = true ∧ fb_ct p i = k
  | 0, h => absurd h (Nat.not_lt_zero k)
  | n + 1, h => by
    rcases Nat.lt_or_ge k (fb_ct p n) with q | q
    · obtain ⟨i, h1, h2⟩ := fb_ct_kth q
      exact ⟨i, by omega, h2⟩
    · rw [fb_ct_succ] at h
      cases hp : p n
      · simp [hp] at h; omega
      · simp [hp] at h
        exact ⟨n, by omega, hp, by omega⟩
theorem fb_ct_kth_one {p : Nat → Bool} {i j : Nat} (hi : p i = true) (hj : p j = true) (e : fb_ct p i = fb_ct p j) : i = j := by
  have key : ∀ a b : Nat, a < b → p a = true → fb_ct p a < fb_ct p b := by
    intro a b hab ha
    have h := fb_ct_mono p (show a + 1 ≤ b from hab)
    rw [fb_ct_succ, ha] at h
    simp at h
    omega
  rcases Nat.lt_trichotomy i j with q | q | q
  · have := key i j q hi; omega
  · exact q
  · have := key j i q hj; omega

/-! ===== one place of a function changed ===== -/
def nup {α : Type} (f : Nat → α) (k : Nat) (v : α) : Nat → α := fun j => if j = k then v else f j
theorem nup_s {α : Type} (f : Nat → α) (k : Nat) (v : α) : nup f k v k = v := by simp [nup]
theorem nup_n {α : Type} {f : Nat → α} {k j : Nat} {v : α} (h : j ≠ k) : nup f k v j = f j := by simp only [nup, if_neg h]
theorem nup_self {α : Type} (f : Nat → α) (k : Nat) : nup f k (f k) = f := by
  funext j
  by_cases h : j = k
  · subst h; exact nup_s _ _ _
  · exact nup_n h
/-- what of the looms doesn't change: how many, kinds, threads -/
abbrev Tp : Type := Nat × (Nat → Nat) × (Nat → Nat)
def tN (t : Tp) : Nat := t.1
def tK (t : Tp) : Nat → Nat := t.2.1
def tT (t : Tp) : Nat → Nat := t.2.2
/-- the night: hours told, cold, mist, sun, merchants, a yard -/
abbrev Nt : Type := Nat × (Nat → Nat) × (Nat → Nat) × Nat × Nat × Nat
def nH (g : Nt) : Nat := g.1
def nC (g : Nt) : Nat → Nat := g.2.1
def nM (g : Nt) : Nat → Nat := g.2.2.1
def nS (g : Nt) : Nat := g.2.2.2.1
def nB (g : Nt) : Nat := g.2.2.2.2.1
def nY (g : Nt) : Nat := g.2.2.2.2.2
/-- how it stands: places, drops, spoiled, shade, ran off, the hour -/
abbrev St : Type := (Nat → Nat) × (Nat → Nat) × (Nat → Nat) × (Nat → Nat) × Nat × Nat
def sP (s : St) : Nat → Nat := s.1
def sD (s : St) : Nat → Nat := s.2.1
def sX (s : St) : Nat → Nat := s.2.2.1
def sH (s : St) : Nat → Nat := s.2.2.2.1
def sO (s : St) : Nat := s.2.2.2.2.1
def sR (s : St) : Nat := s.2.2.2.2.2
def mkS (p d x h : Nat → Nat) (o r : Nat) : St := (p, d, x, h, o, r)
/-- one loom set anew -/
def setL (s : St) (l p d x h : Nat) : St := (nup (sP s) l p, nup (sD s) l d, nup (sX s) l x, nup (sH s) l h, sO s, sR s)
theorem setL_P (s : St) (l p d x h : Nat) : sP (setL s l p d x h) = nup (sP s) l p := rfl
theorem setL_D (s : St) (l p d x h : Nat) : sD (setL s l p d x h) = nup (sD s) l d := rfl
theorem setL_X (s : St) (l p d x h : Nat) : sX (setL s l p d x h) = nup (sX s) l x := rfl
theorem setL_H (s : St) (l p d x h : Nat) : sH (setL s l p d x h) = nup (sH s) l h := rfl
theorem setL_O (s : St) (l p d x h : Nat) : sO (setL s l p d x h) = sO s := rfl
theorem setL_R (s : St) (l p d x h : Nat) : sR (setL s l p d x h) = sR s := rfl
/-- the same as far as N looms go -/
def eqS (N : Nat) (s t : St) : Prop := (∀ l, l < N → sP s l = sP t l ∧ sD s l = sD t l ∧ sX s l = sX t l ∧ sH s l = sH t l) ∧ sO s = sO t ∧ sR s = sR t
theorem eqS.rf {N : Nat} {s : St} : eqS N s s := ⟨fun _ _ => ⟨rfl, rfl, rfl, rfl⟩, rfl, rfl⟩
theorem eqS.sy {N : Nat} {s t : St} (h : eqS N s t) : eqS N t s := ⟨fun l hl => ⟨(h.1 l hl).1.symm, (h.1 l hl).2.1.symm, (h.1 l hl).2.2.1.symm, (h.1 l hl).2.2.2.symm⟩, h.2.1.symm, h.2.2.symm⟩
theorem eqS.tr {N : Nat} {s t u : St} (h : eqS N s t) (k : eqS N t u) : eqS N s u := ⟨fun l hl => ⟨(h.1 l hl).1.trans (k.1 l hl).1, (h.1 l hl).2.1.trans (k.1 l hl).2.1, (h.1 l hl).2.2.1.trans (k.1 l hl).2.2.1, (h.1 l hl).2.2.2.trans (k.1 l hl).2.2.2⟩, h.2.1.trans k.2.1, h.2.2.trans k.2.2⟩
/-! ===== the looms from above ===== -/
def rankO (N : Nat) (p : Nat → Nat) (l : Nat) : Nat := fb_ct (fun k => decide (p k < p l)) N
def findB (q : Nat → Bool) : Nat → Nat
  | 0 => 0
  | n + 1 => if q n then n else findB q n
theorem findB_yes {q : Nat → Bool} : ∀ {n k : Nat}, k < n → q k = true → findB q n < n ∧ q (findB q n) = true
  | 0, k, h, _ => absurd h (Nat.not_lt_zero k)
  | n + 1, k, h, hk => by
    unfold findB
    by_cases hn : q n = true
    · rw [if_pos hn]; exact ⟨Nat.lt_succ_self n, hn⟩
    · rw [if_neg hn]
      have hk2 : k < n := by
        rcases Nat.lt_or_ge k n with z | z
        · exact z
        · have e : k = n := by omega
          subst e; exact absurd hk hn
      obtain ⟨h1, h2⟩ := findB_yes hk2 hk
      exact ⟨Nat.lt_succ_of_lt h1, h2⟩
def ordO (N : Nat) (p : Nat → Nat) (i : Nat) : Nat := findB (fun l => decide (rankO N p l = i)) N
def dst (N : Nat) (p : Nat → Nat) : Prop := ∀ l, l < N → ∀ k, k < N → p l = p k → l = k
theorem rankO_lt {N : Nat} {p : Nat → Nat} {l : Nat} (h : l < N) : rankO N p l < N := by
  have h1 := fb_ct_le (fun k => decide (p k < p l)) N
  rcases Nat.lt_or_ge (rankO N p l) N with z | z
  · exact z
  · have e : fb_ct (fun k => decide (p k < p l)) N = N := Nat.le_antisymm h1 z
    have := fb_ct_all.mp e l h
    simp at this
theorem rankO_mono {N : Nat} {p : Nat → Nat} {l k : Nat} (hl : l < N) (h : p l < p k) : rankO N p l < rankO N p k := by
  have h1 : fb_ct (fun j => decide (p j < p k)) N = fb_ct (fun j => decide (p j < p l)) N + fb_ct (fun j => decide (p l ≤ p j ∧ p j < p k)) N := by
    rw [← fb_ct_or]
    · apply fb_ct_cong
      intro j _
      by_cases a : p j < p l <;> by_cases b : p j < p k <;> simp [a, b] <;> omega
    · intro j _ q
      simp at q
      omega
  have h2 : 0 < fb_ct (fun j => decide (p l ≤ p j ∧ p j < p k)) N := fb_ct_pos.mpr ⟨l, hl, by simp [h]⟩
  unfold rankO
  omega
theorem rankO_inj {N : Nat} {p : Nat → Nat} (hd : dst N p) {l k : Nat} (hl : l < N) (hk : k < N) (h : rankO N p l = rankO N p k) : l = k := by
  rcases Nat.lt_trichotomy (p l) (p k) with z | z | z
  · have := rankO_mono (N := N) hl z; omega
  · exact hd l hl k hk z
  · have := rankO_mono (N := N) hk z; omega
theorem ordO_ok {N : Nat} {p : Nat → Nat} (hd : dst N p) {i : Nat} (hi : i < N) : ordO N p i < N ∧ rankO N p (ordO N p i) = i := by
  obtain ⟨l, hl, he⟩ := fb_onto (n := N) (f := rankO N p) (fun l hl => rankO_lt hl) (fun a b hab hb e => by have := rankO_inj hd (by omega) hb e; omega) hi
  have h := findB_yes (q := fun l => decide (rankO N p l = i)) hl (by simp [he])
  exact ⟨h.1, of_decide_eq_true h.2⟩
theorem ordO_rank {N : Nat} {p : Nat → Nat} (hd : dst N p) {l : Nat} (hl : l < N) : ordO N p (rankO N p l) = l := by
  have h := ordO_ok hd (rankO_lt (p := p) hl)
  exact rankO_inj hd h.1 hl h.2
theorem rankO_cong {N : Nat} {p q : Nat → Nat} (h : ∀ l, l < N → p l = q l) {l : Nat} (hl : l < N) : rankO N p l = rankO N q l := by
  unfold rankO
  apply fb_ct_cong
  intro k hk
  rw [h k hk, h l hl]
theorem findB_cong {q q' : Nat → Bool} : ∀ {n : Nat}, (∀ k, k < n → q k = q' k) → findB q n = findB q' n
  | 0, _ => rfl
  | n + 1, h => by
    unfold findB
    rw [h n (Nat.lt_succ_self n), findB_cong (fun k hk => h k (Nat.lt_succ_of_lt hk))]
theorem ordO_cong {N : Nat} {p q : Nat → Nat} (h : ∀ l, l < N → p l = q l) (i : Nat) : ordO N p i = ordO N q i := by
  unfold ordO
  apply findB_cong
  intro k hk
  rw [rankO_cong h hk]
theorem dst_cong {N : Nat} {p q : Nat → Nat} (h : ∀ l, l < N → p l = q l) (hd : dst N p) : dst N q := fun l hl k hk e => hd l hl k hk (by rw [h l hl, h k hk]; exact e)
/-! ===== an hour ===== -/
def allG (t : Tp) (c m : Nat) (runs : Nat) (s : St) (l : Nat) : Nat := sD s l + setl (tK t l) c m + (if tK t l = 2 then 0 else runs)
def gstep (t : Tp) (c m : Nat) (g : Nat × St × (Nat → Nat)) (l : Nat) : Nat × St × (Nat → Nat) :=
  (allG t c m g.1 g.2.1 l - min (allG t c m g.1 g.2.1 l) (3 * tT t l), setL g.2.1 l (sP g.2.1 l) (min (allG t c m g.1 g.2.1 l) (3 * tT t l)) (if tK t l = 2 then sX g.2.1 l + g.1 else sX g.2.1 l) (sH g.2.1 l), nup g.2.2 l (allG t c m g.1 g.2.1 l - min (allG t c m g.1 g.2.1 l) (3 * tT t l)))
def gth (t : Tp) (c m : Nat) (ord : Nat → Nat) (s : St) : Nat → Nat × St × (Nat → Nat)
  | 0 => (0, s, fun _ => 0)
  | i + 1 => gstep t c m (gth t c m ord s i) (ord i)
def dryv (t : Tp) (s : St) (l : Nat) : Nat := if sH s l = 0 then sD s l - (if tK t l = 3 then 1 else 2) else sD s l
def dryS (t : Tp) (s : St) : St := mkS (sP s) (dryv t s) (sX s) (sH s) (sO s) (sR s)
def offS (s : St) (k : Nat) : St := mkS (sP s) (sD s) (sX s) (sH s) (sO s + k) (sR s)
def tick (s : St) : St := mkS (sP s) (sD s) (sX s) (sH s) (sO s) (sR s + 1)
def gatS (t : Tp) (c m : Nat) (s : St) : St := offS (gth t c m (ordO (tN t) (sP s)) s (tN t)).2.1 (gth t c m (ordO (tN t) (sP s)) s (tN t)).1
def ranS (t : Tp) (c m : Nat) (s : St) : Nat → Nat := (gth t c m (ordO (tN t) (sP s)) s (tN t)).2.2
def hourS (t : Tp) (sun c m : Nat) (s : St) : St := tick (if sR s < sun then gatS t c m s else dryS t s)
def okT (t : Tp) : Prop := tN t ≤ 6 ∧ ∀ l, l < tN t → tK t l ≤ 3 ∧ tT t l ≤ 18
def okS (t : Tp) (s : St) : Prop := (∀ l, l < tN t → sP s l ≤ 9 ∧ sD s l ≤ 3 * tT t l ∧ sH s l ≤ 1) ∧ dst (tN t) (sP s)
theorem gth_P (t : Tp) (c m : Nat) (ord : Nat → Nat) (s : St) : ∀ i, sP (gth t c m ord s i).2.1 = sP s
  | 0 => rfl
  | i + 1 => by
    show nup (sP (gth t c m ord s i).2.1) (ord i) (sP (gth t c m ord s i).2.1 (ord i)) = sP s
    rw [nup_self, gth_P]
theorem gth_H (t : Tp) (c m : Nat) (ord : Nat → Nat) (s : St) : ∀ i, sH (gth t c m ord s i).2.1 = sH s
  | 0 => rfl
  | i + 1 => by
    show nup (sH (gth t c m ord s i).2.1) (ord i) (sH (gth t c m ord s i).2.1 (ord i)) = sH s
    rw [nup_self, gth_H]
theorem gth_O (t : Tp) (c m : Nat) (ord : Nat → Nat) (s : St) : ∀ i, sO (gth t c m ord s i).2.1 = sO s
  | 0 => rfl
  | i + 1 => gth_O t c m ord s i
theorem gth_R (t : Tp) (c m : Nat) (ord : Nat → Nat) (s : St) : ∀ i, sR (gth t c m ord s i).2.1 = sR s
  | 0 => rfl
  | i + 1 => gth_R t c m ord s i
theorem gth_D {t : Tp} {c m : Nat} {ord : Nat → Nat} {s : St} {N : Nat} (hd : ∀ l, l < N → sD s l ≤ 3 * tT t l) : ∀ i, ∀ l, l < N → sD (gth t c m ord s i).2.1 l ≤ 3 * tT t l
  | 0, l, hl => hd l hl
  | i + 1, l, hl => by
    show nup (sD (gth t c m ord s i).2.1) (ord i) _ l ≤ _
    by_cases e : l = ord i
    · rw [e, nup_s]; exact Nat.min_le_right _ _
    · rw [nup_n e]; exact gth_D hd i l hl
theorem gth_runs {t : Tp} {c m : Nat} {ord : Nat → Nat} {s : St} (ht : okT t) (hc : c ≤ 9) (hd : ∀ l, l < tN t → sD s l ≤ 3 * tT t l) : ∀ i, i ≤ tN t → (∀ k, k < i → ord k < tN t) → (gth t c m ord s i).1 ≤ 100 * i
  | 0, _, _ => Nat.zero_le _
  | i + 1, hi, ho => by
    have h1 := gth_runs (c := c) (m := m) (ord := ord) ht hc hd i (by omega) (fun k hk => ho k (by omega))
    have h2 := gth_D (c := c) (m := m) (ord := ord) hd i (ord i) (ho i (Nat.lt_succ_self i))
    have h3 := setl_le (k := tK t (ord i)) (m := m) hc
    have h4 := (ht.2 (ord i) (ho i (Nat.lt_succ_self i))).2
    show allG t c m (gth t c m ord s i).1 (gth t c m ord s i).2.1 (ord i) - _ ≤ _
    unfold allG
    split <;> omega
theorem okS_gat {t : Tp} {c m : Nat} {s : St} (h : okS t s) : okS t (gatS t c m s) := by
  refine ⟨fun l hl => ⟨?_, ?_, ?_⟩, ?_⟩
  · show sP (gth _ _ _ _ _ _).2.1 l ≤ 9
    rw [gth_P]; exact (h.1 l hl).1
  · exact gth_D (fun k hk => (h.1 k hk).2.1) _ l hl
  · show sH (gth _ _ _ _ _ _).2.1 l ≤ 1
    rw [gth_H]; exact (h.1 l hl).2.2
  · show dst _ (sP (gth _ _ _ _ _ _).2.1)
    rw [gth_P]; exact h.2
theorem okS_dry {t : Tp} {s : St} (h : okS t s) : okS t (dryS t s) := by
  refine ⟨fun l hl => ⟨(h.1 l hl).1, ?_, (h.1 l hl).2.2⟩, h.2⟩
  show dryv t s l ≤ _
  have := (h.1 l hl).2.1
  unfold dryv
  split <;> omega
theorem okS_hour {t : Tp} {sun c m : Nat} {s : St} (h : okS t s) : okS t (hourS t sun c m s) := by
  unfold hourS
  split
  · exact okS_gat (c := c) (m := m) h
  · exact okS_dry h
theorem sR_hour (t : Tp) (sun c m : Nat) (s : St) : sR (hourS t sun c m s) = sR s + 1 := by
  unfold hourS
  split
  · show sR (gth _ _ _ _ _ _).2.1 + 1 = _
    rw [gth_R]
  · rfl
theorem sP_hour (t : Tp) (sun c m : Nat) (s : St) : sP (hourS t sun c m s) = sP s := by
  unfold hourS
  split
  · show sP (gth _ _ _ _ _ _).2.1 = _
    rw [gth_P]
  · rfl
/-! the night's hours -/
def ofH (g : Nt) (row : Nat → Nat) (h u : Nat) : Nat := if nH g = 0 then u else row (if h < nH g then h else nH g - 1)
def coldF (g : Nt) (h : Nat) : Nat := ofH g (nC g) h 4
def mistF (g : Nt) (h : Nat) : Nat := ofH g (nM g) h 0
def okN (g : Nt) : Prop := nH g ≤ 12 ∧ (∀ h, h < nH g → nC g h ≤ 9 ∧ nM g h ≤ 1) ∧ nS g ≤ 20 ∧ 1 ≤ nB g ∧ nB g ≤ 24 ∧ 1 ≤ nY g ∧ nY g ≤ 27
theorem cold_le {g : Nt} (h : okN g) (k : Nat) : coldF g k ≤ 9 := by
  unfold coldF ofH
  split
  · omega
  · refine (h.2.1 _ ?_).1
    split <;> omega
theorem mist_le {g : Nt} (h : okN g) (k : Nat) : mistF g k ≤ 1 := by
  unfold mistF ofH
  split
  · omega
  · refine (h.2.1 _ ?_).2
    split <;> omega
def oneS (t : Tp) (g : Nt) (s : St) : St := hourS t (nS g) (coldF g (sR s)) (mistF g (sR s)) s
def hrsS (t : Tp) (g : Nt) : Nat → St → St
  | 0, s => s
  | n + 1, s => hrsS t g n (oneS t g s)
theorem okS_hrs {t : Tp} {g : Nt} : ∀ {n : Nat} {s : St}, okS t s → okS t (hrsS t g n s)
  | 0, _, h => h
  | n + 1, s, h => okS_hrs (n := n) (s := oneS t g s) (okS_hour h)
theorem sR_hrs {t : Tp} {g : Nt} : ∀ (n : Nat) (s : St), sR (hrsS t g n s) = sR s + n
  | 0, _ => rfl
  | n + 1, s => by
    show sR (hrsS t g n (oneS t g s)) = _
    rw [sR_hrs n, oneS, sR_hour]; omega
