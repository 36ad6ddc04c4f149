/-! ===== the whole state; what each call answers ===== -/
noncomputable def onI {α : Type} (x : Int32) (lo hi : Nat) (f : Nat → α) (b : α) : α := @ite _ (inB x lo hi) (Classical.propDecidable _) (f x.toInt.toNat) b
theorem onI_y {α : Type} {j lo hi : Nat} {f : Nat → α} {b : α} (h1 : lo ≤ j) (h2 : j ≤ hi) (h3 : hi < 100000000) : onI (nI j) lo hi f b = f j := by
  unfold onI
  rw [if_pos ⟨j, h1, h2, rfl⟩, nI_toInt (by omega)]
  rfl
theorem onI_n {α : Type} {x : Int32} {lo hi : Nat} {f : Nat → α} {b : α} (h : ¬ inB x lo hi) : onI x lo hi f b = b := if_neg h
/-- text; what was told; how it stands; what was done; what is kept; what was seen -/
abbrev Sy : Type := (Nat × (Nat → Nat)) × (Tp × Nt) × St × (Nat × (Nat → St)) × (Nat × (Nat → St)) × Sg
def yM (S : Sy) : Nat := S.1.1
def yT (S : Sy) : Nat → Nat := S.1.2
def yt (S : Sy) : Tp := S.2.1.1
def yg (S : Sy) : Nt := S.2.1.2
def ys (S : Sy) : St := S.2.2.1
def yan (S : Sy) : Nat := S.2.2.2.1.1
def yav (S : Sy) : Nat → St := S.2.2.2.1.2
def ykn (S : Sy) : Nat := S.2.2.2.2.1.1
def ykv (S : Sy) : Nat → St := S.2.2.2.2.1.2
def yG (S : Sy) : Sg := S.2.2.2.2.2
def toS (S : Sy) (s : St) : Sy := (S.1, S.2.1, s, S.2.2.2)
def actS (S : Sy) (s : St) : Sy := (S.1, S.2.1, s, (pushN 8 (yan S), pushF 8 (yan S) (yav S) (ys S)), S.2.2.2.2)
def okP (t : Tp) (s : St) : Prop := okS t s ∧ sR s ≤ 99
def okY (S : Sy) : Prop := yM S ≤ 200 ∧ (∀ k, k < yM S → yT S k < 128) ∧ okT (yt S) ∧ okN (yg S) ∧ okP (yt S) (ys S) ∧ 1 ≤ tN (yt S) ∧ (∀ l, l < tN (yt S) → tT (yt S) l ≤ 9) ∧ yan S ≤ 8 ∧ (∀ i, i < yan S → okP (yt S) (yav S i)) ∧ ykn S ≤ 2 ∧ (∀ i, i < ykn S → okP (yt S) (ykv S i)) ∧ okG (tN (yt S)) (yG S)
noncomputable def A_write (S : Sy) (x : Int32) : Int32 × Sy := onI x 32 126 (fun c => if yM S = 200 then (-3, S) else (nI (yM S + 1), ((yM S + 1, nup (yT S) (yM S) c), S.2))) (-1, S)
def A_wipe (S : Sy) : Int32 × Sy := (nI (yM S), ((0, yT S), S.2))
def pl4 (x : Option Nat) : Int32 := match x with
  | none => -4
  | some p => nI p
noncomputable def rdF (S : Sy) : Option Nat × Ts := readF (yT S) (yM S) 200 0 (t00, s00, g00)
noncomputable def A_fault (S : Sy) : Int32 × Sy := (pl4 (rdF S).1, S)
noncomputable def layS (S : Sy) : Sy := (S.1, ((rdF S).2.1, (rdF S).2.2.2), (rdF S).2.2.1, (0, yav S), (0, ykv S), (0, (yG S).2))
noncomputable def A_lay (S : Sy) : Int32 × Sy := @ite _ ((rdF S).1 = none ∧ tN (rdF S).2.1 ≠ 0) (Classical.propDecidable _) (nI (tN (rdF S).2.1), layS S) (-2, S)
def tellV (S : Sy) (l w : Nat) : Int32 := if w = 0 then nI (tK (yt S) l) else if w = 1 then nI (sP (ys S) l) else if w = 2 then nI (tT (yt S) l) else if w = 3 then nI (sD (ys S) l) else if w = 4 then nI (sX (ys S) l) else nI (sH (ys S) l)
noncomputable def A_loom (S : Sy) (x y : Int32) : Int32 × Sy := onI x 0 (tN (yt S) - 1) (fun l => onI y 0 5 (fun w => (tellV S l w, S)) (-1, S)) (-1, S)
noncomputable def A_hour (S : Sy) (x y : Int32) : Int32 × Sy := onI x 0 99 (fun h => onI y 0 1 (fun w => (nI (if w = 0 then coldF (yg S) h else mistF (yg S) h), S)) (-1, S)) (-1, S)
def atF (N : Nat) (f : Nat → Nat) (p : Nat) : Int32 := if f (findB (fun l => decide (f l = p)) N) = p ∧ findB (fun l => decide (f l = p)) N < N then nI (findB (fun l => decide (f l = p)) N) else -4
theorem atF_y {N : Nat} {f : Nat → Nat} {p l : Nat} (hd : dst N f) (hl : l < N) (e : f l = p) : atF N f p = nI l := by
  have h := findB_yes (q := fun l => decide (f l = p)) hl (decide_eq_true e)
  have h2 : f (findB (fun l => decide (f l = p)) N) = p := of_decide_eq_true h.2
  have h3 := hd _ h.1 l hl (h2.trans e.symm)
  unfold atF
  rw [if_pos ⟨h2, h.1⟩, h3]
theorem atF_n {N : Nat} {f : Nat → Nat} {p : Nat} (h : ∀ l, l < N → f l ≠ p) : atF N f p = -4 := by
  unfold atF
  rw [if_neg (fun z => h _ z.2 z.1)]
noncomputable def A_at (S : Sy) (x : Int32) : Int32 × Sy := onI x 0 9 (fun p => (atF (tN (yt S)) (sP (ys S)) p, S)) (-1, S)
noncomputable def A_pass (S : Sy) (x : Int32) : Int32 × Sy := onI x 1 24 (fun n => if 99 < sR (ys S) + n then (-2, S) else (nI (sumF (sD (hrsS (yt S) (yg S) n (ys S))) (tN (yt S))), actS S (hrsS (yt S) (yg S) n (ys S)))) (-1, S)
noncomputable def A_shade (S : Sy) (x : Int32) : Int32 × Sy := onI x 0 (tN (yt S) - 1) (fun l => (nI (1 - sH (ys S) l), actS S (shaS (ys S) l))) (-1, S)
noncomputable def A_cow (S : Sy) (x : Int32) : Int32 × Sy := onI x 0 (tN (yt S) - 1) (fun l => if sD (ys S) l = 0 then (-2, S) else (nI (sD (ys S) l / 2), actS S (cowS (ys S) l))) (-1, S)
noncomputable def A_tears (S : Sy) (x : Int32) : Int32 × Sy := onI x 0 (tN (yt S) - 1) (fun l => if 3 * tT (yt S) l ≤ sD (ys S) l then (-2, S) else (nI (min (sD (ys S) l + tT (yt S) l) (3 * tT (yt S) l)), actS S (tearS (yt S) (ys S) l))) (-1, S)
noncomputable def A_set (S : Sy) (x y : Int32) : Int32 × Sy := onI x 0 (tN (yt S) - 1) (fun l => onI y 0 9 (fun p => @ite _ (∀ k, k < tN (yt S) → sP (ys S) k ≠ p) (Classical.propDecidable _) (nI (sP (ys S) l), actS S (putS (ys S) l p)) (-2, S)) (-1, S)) (-1, S)
def undoS (S : Sy) : Sy := (S.1, S.2.1, yav S (yan S - 1), (yan S - 1, yav S), S.2.2.2.2)
def A_undo (S : Sy) : Int32 × Sy := if yan S = 0 then (-2, S) else (nI (yan S - 1), undoS S)
noncomputable def A_behind (S : Sy) (x y z : Int32) : Int32 × Sy := onI x 0 24 (fun n => onI y 0 (tN (yt S) - 1) (fun l => onI z 0 1 (fun w => (nI (if w = 0 then sD (hrsS (yt S) (yg S) n (ys S)) l else sX (hrsS (yt S) (yg S) n (ys S)) l), S)) (-1, S)) (-1, S)) (-1, S)
def ydB (t : Tp) (g : Nt) (s : St) : Nat := bitF (fun l => decide (nY g ≤ sD s l)) (tN t)
def A_yards (S : Sy) : Int32 × Sy := (nI (ydB (yt S) (yg S) (selS (yt S) (yg S) (ys S))), S)
/-- the looms of a set shaded -/
def shdS (N : Nat) (s : St) (set : Nat) : St := mkS (sP s) (sD s) (sX s) (fun l => if l < N ∧ set / 2 ^ l % 2 = 1 then 1 else sH s l) (sO s) (sR s)
def canS (N : Nat) (s : St) (set : Nat) : Prop := ∀ l, l < N → set / 2 ^ l % 2 = 1 → sH s l = 0
def yShd (t : Tp) (g : Nt) (s : St) (set : Nat) : Nat := ones6 (ydB t g (selS t g (shdS (tN t) s set)))
noncomputable def shStep (t : Tp) (g : Nt) (s : St) (b : Nat × Nat) (set : Nat) : Nat × Nat := @ite _ (canS (tN t) s set ∧ (b.1 < yShd t g s set ∨ (yShd t g s set = b.1 ∧ ones6 set < ones6 b.2))) (Classical.propDecidable _) (yShd t g s set, set) b
noncomputable def shF (t : Tp) (g : Nt) (s : St) : Nat → Nat × Nat
  | 0 => (yShd t g s 0, 0)
  | k + 1 => shStep t g s (shF t g s k) (k + 1)
noncomputable def A_shading (S : Sy) (x : Int32) : Int32 × Sy := onI x 0 1 (fun w => (nI (if w = 0 then (shF (yt S) (yg S) (ys S) (2 ^ tN (yt S) - 1)).1 else (shF (yt S) (yg S) (ys S) (2 ^ tN (yt S) - 1)).2), S)) (-1, S)
def thrT (t : Tp) (l more : Nat) : Tp := (tN t, tK t, nup (tT t) l (tT t l + more))
def wantF (q : Nat → Bool) : Nat → Nat → Int32
  | 0, _ => -4
  | k + 1, m => if q m then nI m else wantF q k (m + 1)
def wantQ (t : Tp) (g : Nt) (s : St) (l more : Nat) : Bool := decide (nY g ≤ sD (selS (thrT t l more) g s) l)
noncomputable def A_wants (S : Sy) (x : Int32) : Int32 × Sy := onI x 0 (tN (yt S) - 1) (fun l => (wantF (wantQ (yt S) (yg S) (ys S) l) 10 0, S)) (-1, S)
noncomputable def A_drips (S : Sy) (x : Int32) : Int32 × Sy := onI x 0 (tN (yt S) - 1) (fun l => (drH (yt S) (nS (yg S)) (coldF (yg S) (sR (ys S))) (mistF (yg S) (sR (ys S))) (ys S) l, S)) (-1, S)
noncomputable def A_seen (S : Sy) (x y z : Int32) : Int32 × Sy := onI x 0 (tN (yt S) - 1) (fun l => onI y 0 27 (fun d => onI z 0 12 (fun h => if gn (yG S) = 6 then (-3, S) else (nI (gn (yG S) + 1), (S.1, S.2.1, S.2.2.1, S.2.2.2.1, S.2.2.2.2.1, addG (yG S) l d h))) (-1, S)) (-1, S)) (-1, S)
def A_forget (S : Sy) : Int32 × Sy := (nI (gn (yG S)), (S.1, S.2.1, S.2.2.1, S.2.2.2.1, S.2.2.2.2.1, (0, (yG S).2)))
/-- all that is seen is so, from the hour h on, by the cold c of the next hour -/
def soN (t : Tp) (g : Nt) (G : Sg) : Nat → Nat → Nat → St → Bool
  | 0, _, _, _ => true
  | k + 1, h, c, s => soB G s h (gn G) && soN t g G k (h + 1) (coldF g (sR s + 1)) (hourS t (nS g) c (mistF g (sR s)) s)
def soA (t : Tp) (g : Nt) (G : Sg) (c : Nat) (s : St) : Bool := soN t g G 13 0 c s
def A_cows (S : Sy) : Int32 × Sy := (nI ((if soA (yt S) (yg S) (yG S) (coldF (yg S) (sR (ys S))) (ys S) then 64 else 0) + bitF (fun l => soA (yt S) (yg S) (yG S) (coldF (yg S) (sR (ys S))) (cowS (ys S) l)) (tN (yt S))), S)
def A_colds (S : Sy) : Int32 × Sy := (nI (bitF (fun c => soA (yt S) (yg S) (yG S) c (ys S)) 10), S)
def mhS (t : Tp) (g : Nt) (s : St) (set : Nat) : Nat → St
  | 0 => s
  | i + 1 => hourS t (nS g) (coldF g (sR (mhS t g s set i))) (set / 2 ^ i % 2) (mhS t g s set i)
def prF (x set : Nat) : Nat → Nat
  | 0 => 1
  | i + 1 => prF x set i * (if set / 2 ^ i % 2 = 1 then x else 10 - x)
def abvF (t : Tp) (g : Nt) (s : St) (l n x : Nat) (k : Nat) : Nat := sumF (fun set => if nY g ≤ sD (mhS t g s set n) l then prF x set n else 0) k
def likF (t : Tp) (g : Nt) (s : St) (l n x w : Nat) : Nat := (if w = 0 then abvF t g s l n x (2 ^ n) else 10 ^ n) / Nat.gcd (abvF t g s l n x (2 ^ n)) (10 ^ n)
noncomputable def A_likely (S : Sy) (x y z u : Int32) : Int32 × Sy := onI x 0 (tN (yt S) - 1) (fun l => onI y 0 6 (fun n => onI z 0 10 (fun p => onI u 0 1 (fun w => (nI (likF (yt S) (yg S) (ys S) l n p w), S)) (-1, S)) (-1, S)) (-1, S)) (-1, S)
def drw (z i : Nat) : Nat := (7919 * z + 6151 * i + 1) * (7919 * z + 6151 * i + 1) % 65521 / 2
def turnS (t : Tp) (s : St) (d : Nat) : St := if d / 8 % 5 = 0 then cowS s (d % tN t) else if d / 8 % 5 = 1 then tearS t s (d % tN t) else if d / 8 % 5 = 2 then shaS s (d % tN t) else s
def yrS (t : Tp) (g : Nt) (z : Nat) (s : St) : Nat → St
  | 0 => s
  | i + 1 => oneS t g (turnS t (yrS t g z s i) (drw z i))
noncomputable def A_year (S : Sy) (x y z : Int32) : Int32 × Sy := onI x 0 9999 (fun a => onI y 1 40 (fun n => onI z 0 2 (fun w => (nI (if w = 0 then ones6 (ydB (yt S) (yg S) (yrS (yt S) (yg S) a (ys S) n)) else if w = 1 then sO (yrS (yt S) (yg S) a (ys S) n) else sumF (sX (yrS (yt S) (yg S) a (ys S) n)) (tN (yt S))), S)) (-1, S)) (-1, S)) (-1, S)
def A_keep (S : Sy) : Int32 × Sy := if ykn S = 2 then (-3, S) else (nI (ykn S + 1), (S.1, S.2.1, S.2.2.1, S.2.2.2.1, (ykn S + 1, nup (ykv S) (ykn S) (ys S)), S.2.2.2.2.2))
def A_back (S : Sy) : Int32 × Sy := if ykn S = 0 then (-2, S) else (nI (ykn S - 1), (S.1, S.2.1, ykv S (ykn S - 1), (0, yav S), (ykn S - 1, ykv S), S.2.2.2.2.2))
def cntV (S : Sy) (w : Nat) : Nat := if w = 0 then tN (yt S) else if w = 1 then sR (ys S) else if w = 2 then sumF (sD (ys S)) (tN (yt S)) else if w = 3 then sO (ys S) else if w = 4 then sumF (sX (ys S)) (tN (yt S)) else if w = 5 then sumF (sH (ys S)) (tN (yt S)) else if w = 6 then ones6 (ydB (yt S) (yg S) (ys S)) else if w = 7 then gn (yG S) else if w = 8 then yan S else if w = 9 then ykn S else yM S
noncomputable def A_count (S : Sy) (x : Int32) : Int32 × Sy := onI x 0 10 (fun w => (nI (cntV S w), S)) (-1, S)
/-! what is kept -/
theorem ydB_lt {t : Tp} {g : Nt} {s : St} (hn : tN t ≤ 6) : ydB t g s < 128 := bitF_le (k := 7) (by omega)
theorem okS_set {t : Tp} {s : St} {l d x h : Nat} (hk : okS t s) (hl : l < tN t) (hd : d ≤ 3 * tT t l) (hh : h ≤ 1) : okS t (setL s l (sP s l) d x h) := by
  refine ⟨fun k hk2 => ?_, ?_⟩
  · rw [setL_P, setL_D, setL_H, nup_self]
    by_cases e : k = l
    · subst e; rw [nup_s, nup_s]; exact ⟨(hk.1 k hk2).1, hd, hh⟩
    · rw [nup_n e, nup_n e]; exact hk.1 k hk2
  · rw [setL_P, nup_self]; exact hk.2
theorem okS_cow {t : Tp} {s : St} {l : Nat} (hk : okS t s) (hl : l < tN t) : okS t (cowS s l) := okS_set hk hl (by have := (hk.1 l hl).2.1; omega) (hk.1 l hl).2.2
theorem okS_tear {t : Tp} {s : St} {l : Nat} (hk : okS t s) (hl : l < tN t) : okS t (tearS t s l) := okS_set hk hl (Nat.min_le_right _ _) (hk.1 l hl).2.2
theorem okS_sha {t : Tp} {s : St} {l : Nat} (hk : okS t s) (hl : l < tN t) : okS t (shaS s l) := okS_set hk hl (hk.1 l hl).2.1 (by omega)
theorem okS_put {t : Tp} {s : St} {l p : Nat} (hk : okS t s) (hp : p ≤ 9) (hno : ∀ k, k < tN t → sP s k ≠ p) : okS t (putS s l p) := by
  refine ⟨fun k hk2 => ?_, fun i hi j hj e => ?_⟩
  · show nup (sP s) l p k ≤ 9 ∧ nup (sD s) l (sD s l) k ≤ _ ∧ nup (sH s) l (sH s l) k ≤ 1
    rw [nup_self, nup_self]
    refine ⟨?_, (hk.1 k hk2).2⟩
    by_cases e : k = l
    · subst e; rw [nup_s]; exact hp
    · rw [nup_n e]; exact (hk.1 k hk2).1
  · have e : nup (sP s) l p i = nup (sP s) l p j := e
    by_cases e1 : i = l <;> by_cases e2 : j = l
    · omega
    · subst e1; rw [nup_s, nup_n e2] at e; exact absurd e.symm (hno j hj)
    · subst e2; rw [nup_s, nup_n e1] at e; exact absurd e (hno i hi)
    · rw [nup_n e1, nup_n e2] at e; exact hk.2 i hi j hj e
theorem okS_shd {t : Tp} {s : St} {set : Nat} (hk : okS t s) : okS t (shdS (tN t) s set) := ⟨fun l hl => ⟨(hk.1 l hl).1, (hk.1 l hl).2.1, by
  show (if l < tN t ∧ set / 2 ^ l % 2 = 1 then 1 else sH s l) ≤ 1
  have := (hk.1 l hl).2.2
  split <;> omega⟩, hk.2⟩
theorem okS_sel {t : Tp} {g : Nt} {s : St} (hk : okS t s) : okS t (selS t g s) := okS_hrs hk
theorem okS_turn {t : Tp} {s : St} {d : Nat} (hk : okS t s) (h1 : 1 ≤ tN t) : okS t (turnS t s d) := by
  have hl : d % tN t < tN t := Nat.mod_lt _ h1
  unfold turnS
  split
  · exact okS_cow hk hl
  · split
    · exact okS_tear hk hl
    · split
      · exact okS_sha hk hl
      · exact hk
theorem sR_turn (t : Tp) (s : St) (d : Nat) : sR (turnS t s d) = sR s := by
  unfold turnS
  split
  · rfl
  · split
    · rfl
    · split <;> rfl
theorem okS_yr {t : Tp} {g : Nt} {z : Nat} {s : St} (hk : okS t s) (h1 : 1 ≤ tN t) : ∀ n, okS t (yrS t g z s n)
  | 0 => hk
  | n + 1 => okS_hour (okS_turn (okS_yr hk h1 n) h1)
theorem sR_yr (t : Tp) (g : Nt) (z : Nat) (s : St) : ∀ n, sR (yrS t g z s n) = sR s + n
  | 0 => rfl
  | n + 1 => by
    show sR (oneS t g (turnS t (yrS t g z s n) (drw z n))) = _
    rw [oneS, sR_hour, sR_turn, sR_yr t g z s n]
    omega
theorem okS_mh {t : Tp} {g : Nt} {s : St} {set : Nat} (hk : okS t s) : ∀ n, okS t (mhS t g s set n)
  | 0 => hk
  | n + 1 => okS_hour (okS_mh hk n)
theorem sR_mh (t : Tp) (g : Nt) (s : St) (set : Nat) : ∀ n, sR (mhS t g s set n) = sR s + n
  | 0 => rfl
  | n + 1 => by
    show sR (hourS t (nS g) _ _ (mhS t g s set n)) = _
    rw [sR_hour, sR_mh t g s set n]
    omega
theorem okT_thr {t : Tp} {l more : Nat} (ht : okT t) (h9 : ∀ l, l < tN t → tT t l ≤ 9) (hm : more ≤ 9) : okT (thrT t l more) := ⟨ht.1, fun k hk => ⟨(ht.2 k hk).1, by
  show nup (tT t) l (tT t l + more) k ≤ 18
  by_cases e : k = l
  · subst e; rw [nup_s]; have := h9 k hk; omega
  · rw [nup_n e]; exact (ht.2 k hk).2⟩⟩
theorem okS_thr {t : Tp} {s : St} {l more : Nat} (hk : okS t s) : okS (thrT t l more) s := ⟨fun k hk2 => ⟨(hk.1 k hk2).1, by
  show sD s k ≤ 3 * nup (tT t) l (tT t l + more) k
  have := (hk.1 k hk2).2.1
  by_cases e : k = l
  · subst e; rw [nup_s]; omega
  · rw [nup_n e]; exact this, (hk.1 k hk2).2.2⟩, hk.2⟩
theorem okY_toS {S : Sy} {s : St} (h : okY S) (hs : okP (yt S) s) : okY (toS S s) := by
  obtain ⟨y1, y2, y3, y4, y5, y6, y7, y8, y9, y10, y11, y12⟩ := h
  exact ⟨y1, y2, y3, y4, hs, y6, y7, y8, y9, y10, y11, y12⟩
theorem okY_act {S : Sy} {s : St} (h : okY S) (hs : okP (yt S) s) : okY (actS S s) := by
  obtain ⟨y1, y2, y3, y4, y5, y6, y7, y8, y9, y10, y11, y12⟩ := h
  refine ⟨y1, y2, y3, y4, hs, y6, y7, ?_, fun i hi => ?_, y10, y11, y12⟩
  · show pushN 8 (yan S) ≤ 8
    unfold pushN
    split <;> omega
  · have hi : i < pushN 8 (yan S) := hi
    show okP (yt S) (pushF 8 (yan S) (yav S) (ys S) i)
    unfold pushN at hi
    unfold pushF
    by_cases z : yan S = 8
    · rw [if_pos z] at hi ⊢
      by_cases z2 : i + 1 = 8
      · rw [if_pos z2]; exact y5
      · rw [if_neg z2]; exact y9 _ (by omega)
    · rw [if_neg z] at hi ⊢
      by_cases z2 : i = yan S
      · subst z2; rw [nup_s]; exact y5
      · rw [nup_n z2]; exact y9 _ (by omega)

