/-! ===== what is so of the state stays so ===== -/
theorem onI_ok {α : Type} {P : α → Prop} {x : Int32} {lo hi : Nat} {f : Nat → α} {b : α} (h1 : ∀ j, lo ≤ j → j ≤ hi → P (f j)) (h2 : P b) (hh : hi < 100000000) : P (onI x lo hi f b) := by
  by_cases z : inB x lo hi
  · obtain ⟨j, hj1, hj2, rfl⟩ := z
    rw [onI_y hj1 hj2 hh]
    exact h1 j hj1 hj2
  · rw [onI_n z]; exact h2
def okR (p : Int32 × Sy) : Prop := okY p.2
theorem k_write {S : Sy} (h : okY S) (x : Int32) : okY (A_write S x).2 := by
  refine onI_ok (P := okR) (fun c c1 c2 => ?_) h (by omega)
  show okY (if yM S = 200 then ((-3 : Int32), S) else (nI (yM S + 1), ((yM S + 1, nup (yT S) (yM S) c), S.2))).2
  split
  · exact h
  · next z =>
    obtain ⟨y1, y2, y3⟩ := h
    refine ⟨by show yM S + 1 ≤ 200; omega, fun k hk => ?_, y3⟩
    have hk : k < yM S + 1 := hk
    show nup (yT S) (yM S) c k < 128
    by_cases e : k = yM S
    · subst e; rw [nup_s]; omega
    · rw [nup_n e]; exact y2 k (by omega)
theorem k_wipe {S : Sy} (h : okY S) : okY (A_wipe S).2 := ⟨Nat.zero_le _, fun k hk => absurd hk (Nat.not_lt_zero k), h.2.2⟩
theorem k_fault {S : Sy} (h : okY S) : okY (A_fault S).2 := h
theorem okY_lay {S : Sy} (h : okY S) (hz : tN (rdF S).2.1 ≠ 0) : okY (layS S) := by
  have e : okU (rdF S).2 := okU_read (yT S) (yM S)
  obtain ⟨e1, e2, e3, e4, e5⟩ := e
  refine ⟨h.1, h.2.1, e1, e3, ⟨e2, ?_⟩, ?_, e5, Nat.zero_le _, fun i hi => absurd hi (Nat.not_lt_zero i), Nat.zero_le _, fun i hi => absurd hi (Nat.not_lt_zero i), ⟨Nat.zero_le _, fun i hi => absurd hi (Nat.not_lt_zero i)⟩⟩
  · show sR (rdF S).2.2.1 ≤ 99
    omega
  · show 1 ≤ tN (rdF S).2.1
    omega
theorem k_lay {S : Sy} (h : okY S) : okY (A_lay S).2 := by
  unfold A_lay
  by_cases z : (rdF S).1 = none ∧ tN (rdF S).2.1 ≠ 0
  · rw [if_pos z]; exact okY_lay h z.2
  · rw [if_neg z]; exact h
theorem okY_t6 {S : Sy} (h : okY S) : tN (yt S) ≤ 6 := h.2.2.1.1
theorem k_loom {S : Sy} (h : okY S) (x y : Int32) : okY (A_loom S x y).2 := by
  have t6 := okY_t6 h
  exact onI_ok (P := okR) (fun l _ _ => onI_ok (P := okR) (fun w _ _ => h) h (by omega)) h (by omega)
theorem k_hour {S : Sy} (h : okY S) (x y : Int32) : okY (A_hour S x y).2 := onI_ok (P := okR) (fun l _ _ => onI_ok (P := okR) (fun w _ _ => h) h (by omega)) h (by omega)
theorem k_at {S : Sy} (h : okY S) (x : Int32) : okY (A_at S x).2 := onI_ok (P := okR) (fun l _ _ => h) h (by omega)
theorem k_pass {S : Sy} (h : okY S) (x : Int32) : okY (A_pass S x).2 := by
  refine onI_ok (P := okR) (fun n n1 n2 => ?_) h (by omega)
  unfold okR
  split
  · exact h
  · exact okY_act h ⟨okS_hrs h.2.2.2.2.1.1, by rw [sR_hrs]; omega⟩
theorem k_shade {S : Sy} (h : okY S) (x : Int32) : okY (A_shade S x).2 := by
  have t6 := okY_t6 h
  have t1 : 1 ≤ tN (yt S) := h.2.2.2.2.2.1
  exact onI_ok (P := okR) (fun l _ l2 => okY_act h ⟨okS_sha h.2.2.2.2.1.1 (by omega), h.2.2.2.2.1.2⟩) h (by omega)
theorem k_cow {S : Sy} (h : okY S) (x : Int32) : okY (A_cow S x).2 := by
  have t6 := okY_t6 h
  have t1 : 1 ≤ tN (yt S) := h.2.2.2.2.2.1
  refine onI_ok (P := okR) (fun l _ l2 => ?_) h (by omega)
  unfold okR
  split
  · exact h
  · exact okY_act h ⟨okS_cow h.2.2.2.2.1.1 (by omega), h.2.2.2.2.1.2⟩
theorem k_tears {S : Sy} (h : okY S) (x : Int32) : okY (A_tears S x).2 := by
  have t6 := okY_t6 h
  have t1 : 1 ≤ tN (yt S) := h.2.2.2.2.2.1
  refine onI_ok (P := okR) (fun l _ l2 => ?_) h (by omega)
  unfold okR
  split
  · exact h
  · exact okY_act h ⟨okS_tear h.2.2.2.2.1.1 (by omega), h.2.2.2.2.1.2⟩
theorem k_set {S : Sy} (h : okY S) (x y : Int32) : okY (A_set S x y).2 := by
  have t6 := okY_t6 h
  refine onI_ok (P := okR) (fun l _ l2 => onI_ok (P := okR) (fun p _ p2 => ?_) h (by omega)) h (by omega)
  unfold okR
  by_cases z : ∀ k, k < tN (yt S) → sP (ys S) k ≠ p
  · rw [if_pos z]
    exact okY_act h ⟨okS_put h.2.2.2.2.1.1 p2 z, h.2.2.2.2.1.2⟩
  · rw [if_neg z]; exact h
theorem k_undo {S : Sy} (h : okY S) : okY (A_undo S).2 := by
  unfold A_undo
  split
  · exact h
  · next z =>
    obtain ⟨y1, y2, y3, y4, y5, y6, y7, y8, y9, y10, y11, y12⟩ := h
    exact ⟨y1, y2, y3, y4, y9 (yan S - 1) (by omega), y6, y7, by show yan S - 1 ≤ 8; omega, fun i hi => y9 i (by have hi : i < yan S - 1 := hi; omega), y10, y11, y12⟩
theorem k_behind {S : Sy} (h : okY S) (x y z : Int32) : okY (A_behind S x y z).2 := by
  have t6 := okY_t6 h
  exact onI_ok (P := okR) (fun n _ _ => onI_ok (P := okR) (fun w _ _ => onI_ok (P := okR) (fun w _ _ => h) h (by omega)) h (by omega)) h (by omega)
theorem k_yards {S : Sy} (h : okY S) : okY (A_yards S).2 := h
theorem k_shading {S : Sy} (h : okY S) (x : Int32) : okY (A_shading S x).2 := onI_ok (P := okR) (fun l _ _ => h) h (by omega)
theorem k_wants {S : Sy} (h : okY S) (x : Int32) : okY (A_wants S x).2 := by
  have t6 := okY_t6 h
  exact onI_ok (P := okR) (fun l _ _ => h) h (by omega)
theorem k_drips {S : Sy} (h : okY S) (x : Int32) : okY (A_drips S x).2 := by
  have t6 := okY_t6 h
  exact onI_ok (P := okR) (fun l _ _ => h) h (by omega)
theorem okG_add {N : Nat} {g : Sg} {l d h : Nat} (k : okG N g) (hn : gn g ≠ 6) (hl : l < N) (hd : d ≤ 27) (hh : h ≤ 12) : okG N (addG g l d h) := by
  refine ⟨by show gn g + 1 ≤ 6; have := k.1; omega, fun i hi => ?_⟩
  have hi : i < gn g + 1 := hi
  show nup (gL g) (gn g) l i < N ∧ nup (gD g) (gn g) d i ≤ 27 ∧ nup (gH g) (gn g) h i ≤ 12
  by_cases e : i = gn g
  · subst e; rw [nup_s, nup_s, nup_s]; exact ⟨hl, hd, hh⟩
  · rw [nup_n e, nup_n e, nup_n e]; exact k.2 i (by omega)
theorem k_seen {S : Sy} (h : okY S) (x y z : Int32) : okY (A_seen S x y z).2 := by
  have t6 := okY_t6 h
  have t1 : 1 ≤ tN (yt S) := h.2.2.2.2.2.1
  refine onI_ok (P := okR) (fun l _ l2 => onI_ok (P := okR) (fun d _ d2 => onI_ok (P := okR) (fun w _ w2 => ?_) h (by omega)) h (by omega)) h (by omega)
  unfold okR
  split
  · exact h
  · next e =>
    obtain ⟨y1, y2, y3, y4, y5, y6, y7, y8, y9, y10, y11, y12⟩ := h
    have hl : l < tN (yt S) := by omega
    exact ⟨y1, y2, y3, y4, y5, y6, y7, y8, y9, y10, y11, okG_add y12 e hl d2 w2⟩
theorem k_forget {S : Sy} (h : okY S) : okY (A_forget S).2 := by
  obtain ⟨y1, y2, y3, y4, y5, y6, y7, y8, y9, y10, y11, y12⟩ := h
  exact ⟨y1, y2, y3, y4, y5, y6, y7, y8, y9, y10, y11, ⟨Nat.zero_le _, fun i hi => absurd hi (Nat.not_lt_zero i)⟩⟩
theorem k_cows {S : Sy} (h : okY S) : okY (A_cows S).2 := h
theorem k_colds {S : Sy} (h : okY S) : okY (A_colds S).2 := h
theorem k_likely {S : Sy} (h : okY S) (x y z u : Int32) : okY (A_likely S x y z u).2 := by
  have t6 := okY_t6 h
  exact onI_ok (P := okR) (fun n _ _ => onI_ok (P := okR) (fun w _ _ => onI_ok (P := okR) (fun w _ _ => onI_ok (P := okR) (fun w _ _ => h) h (by omega)) h (by omega)) h (by omega)) h (by omega)
theorem k_year {S : Sy} (h : okY S) (x y z : Int32) : okY (A_year S x y z).2 := onI_ok (P := okR) (fun n _ _ => onI_ok (P := okR) (fun w _ _ => onI_ok (P := okR) (fun w _ _ => h) h (by omega)) h (by omega)) h (by omega)
theorem k_keep {S : Sy} (h : okY S) : okY (A_keep S).2 := by
  unfold A_keep
  split
  · exact h
  · next e =>
    obtain ⟨y1, y2, y3, y4, y5, y6, y7, y8, y9, y10, y11, y12⟩ := h
    refine ⟨y1, y2, y3, y4, y5, y6, y7, y8, y9, by show ykn S + 1 ≤ 2; omega, fun i hi => ?_, y12⟩
    have hi : i < ykn S + 1 := hi
    show okP (yt S) (nup (ykv S) (ykn S) (ys S) i)
    by_cases e : i = ykn S
    · subst e; rw [nup_s]; exact y5
    · rw [nup_n e]; exact y11 i (by omega)
theorem k_back {S : Sy} (h : okY S) : okY (A_back S).2 := by
  unfold A_back
  split
  · exact h
  · next e =>
    obtain ⟨y1, y2, y3, y4, y5, y6, y7, y8, y9, y10, y11, y12⟩ := h
    exact ⟨y1, y2, y3, y4, y11 (ykn S - 1) (by omega), y6, y7, Nat.zero_le _, fun i hi => absurd hi (Nat.not_lt_zero i), by show ykn S - 1 ≤ 2; omega, fun i hi => y11 i (by have hi : i < ykn S - 1 := hi; omega), y12⟩
theorem k_count {S : Sy} (h : okY S) (x : Int32) : okY (A_count S x).2 := onI_ok (P := okR) (fun l _ _ => h) h (by omega)
theorem k_setting {S : Sy} (h : okY S) (x : Int32) : okY (A_setting S x).2 := by
  have t6 := okY_t6 h
  unfold A_setting
  by_cases z : x = -1
  · rw [if_pos z]; exact h
  · rw [if_neg z]; exact onI_ok (P := okR) (fun l _ _ => h) h (by omega)
