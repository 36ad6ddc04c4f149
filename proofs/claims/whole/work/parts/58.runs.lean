/-! the two ways side by side: from code c and row E on, f codes -/
def runK (N : Nat) : Nat → Nat → Nat → Option (List Nat) → Option (Nat × Nat × Option (List Nat))
  | 0, c, k, E => some (c, k, E)
  | f + 1, c, k, E => if isPm N (dgs N c) then (match E with
      | none => none
      | some M => if eqL M (dgs N c) then runK N f (c + 1) (k + 1) (stepL N (dgs N c)) else none) else runK N f (c + 1) k E
def eqO : Option (List Nat) → Option (List Nat) → Bool
  | none, none => true
  | some L, some M => eqL L M
  | _, _ => false
theorem eqO_eq {a b : Option (List Nat)} (h : eqO a b = true) : a = b := by
  cases a with
  | none => cases b with
    | none => rfl
    | some M => cases h
  | some L => cases b with
    | none => cases h
    | some M => rw [eqL_eq h]
def chkK (N f c k : Nat) (E : Option (List Nat)) (c' k' : Nat) (E' : Option (List Nat)) : Bool := match runK N f c k E with
  | none => false
  | some x => Nat.beq x.1 c' && (Nat.beq x.2.1 k' && eqO x.2.2 E')
theorem chk_run {N f c k c' k' : Nat} {E E' : Option (List Nat)} (h : chkK N f c k E c' k' E' = true) : runK N f c k E = some (c', k', E') := by
  unfold chkK at h
  cases e : runK N f c k E with
  | none => rw [e] at h; cases h
  | some x =>
    rw [e] at h
    have h2 : (Nat.beq x.1 c' && (Nat.beq x.2.1 k' && eqO x.2.2 E')) = true := h
    rw [Bool.and_eq_true, Bool.and_eq_true] at h2
    rw [← Nat.eq_of_beq_eq_true h2.1, ← Nat.eq_of_beq_eq_true h2.2.1, ← eqO_eq h2.2.2]
def goodL (N : Nat) (L : List Nat) : Prop := (∀ i, i < N → L.getD i 0 < N) ∧ ∀ i, i < N → ∀ j, j < N → L.getD i 0 = L.getD j 0 → i = j
def stR {β : Type} (w : β → List Nat → β) (b0 : β) (N c k : Nat) (E : Option (List Nat)) : Prop := cF w b0 N k = (mF w b0 N c, E) ∧ ∀ j, j < k → ∃ L, (cF w b0 N j).2 = some L ∧ goodL N L
theorem run_ok {β : Type} {w : β → List Nat → β} {b0 : β} {N : Nat} (hN : 0 < N) : ∀ {f c k : Nat} {E : Option (List Nat)} {c' k' : Nat} {E' : Option (List Nat)}, runK N f c k E = some (c', k', E') → stR w b0 N c k E → stR w b0 N c' k' E'
  | 0, c, k, E, c', k', E', h, hs => by
    cases h
    exact hs
  | f + 1, c, k, E, c', k', E', h, hs => by
    unfold runK at h
    by_cases hp : isPm N (dgs N c) = true
    · rw [if_pos hp] at h
      cases E with
      | none => cases h
      | some M =>
        have h5 : (if eqL M (dgs N c) then runK N f (c + 1) (k + 1) (stepL N (dgs N c)) else none) = some (c', k', E') := h
        by_cases he : eqL M (dgs N c) = true
        · rw [if_pos he] at h5
          have hM := eqL_eq he
          subst hM
          refine run_ok hN h5 ⟨?_, fun j hj => ?_⟩
          · have e1 : cF w b0 N (k + 1) = (w (cF w b0 N k).1 (dgs N c), stepL N (dgs N c)) := by
              show (match (cF w b0 N k).2 with
                | none => cF w b0 N k
                | some L => (w (cF w b0 N k).1 L, stepL N L)) = _
              rw [hs.1]
            have e2 : mF w b0 N (c + 1) = w (mF w b0 N c) (dgs N c) := if_pos hp
            rw [e1, e2, hs.1]
          · by_cases z : j < k
            · exact hs.2 j z
            · have e : j = k := by omega
              subst e
              exact ⟨dgs N c, by rw [hs.1], (dgs_ok hN).2, pm_inj (dgs_ok hN).1 hp⟩
        · rw [if_neg he] at h5; cases h5
    · rw [if_neg hp] at h
      refine run_ok hN h ⟨?_, hs.2⟩
      have e2 : mF w b0 N (c + 1) = mF w b0 N c := if_neg hp
      rw [e2]
      exact hs.1
theorem st_0 {β : Type} (w : β → List Nat → β) (b0 : β) (N : Nat) : stR w b0 N 0 0 (some (tabN (fun i => i) N [])) := ⟨rfl, fun j hj => absurd hj (Nat.not_lt_zero j)⟩
theorem cF_none {β : Type} {w : β → List Nat → β} {b0 : β} {N k : Nat} (h : (cF w b0 N k).2 = none) : ∀ j, cF w b0 N (k + j) = cF w b0 N k
  | 0 => rfl
  | j + 1 => by
    have ih := cF_none h j
    show (match (cF w b0 N (k + j)).2 with
      | none => cF w b0 N (k + j)
      | some L => (w (cF w b0 N (k + j)).1 L, stepL N L)) = _
    rw [ih, h]
theorem st_end {β : Type} {w : β → List Nat → β} {b0 : β} {N c k : Nat} (hk : k ≤ 720) (h : stR w b0 N c k none) : mF w b0 N c = (cF w b0 N 720).1 ∧ ∀ j L, (cF w b0 N j).2 = some L → goodL N L := by
  have h2 : (cF w b0 N k).2 = none := by rw [h.1]
  refine ⟨?_, fun j L hj => ?_⟩
  · have e := cF_none h2 (720 - k)
    rw [show k + (720 - k) = 720 by omega] at e
    rw [e, h.1]
  · by_cases z : j < k
    · obtain ⟨M, hM, hg⟩ := h.2 j z
      rw [hM] at hj
      cases hj
      exact hg
    · have e := cF_none h2 (j - k)
      rw [show k + (j - k) = j by omega] at e
      rw [e, h2] at hj
      cases hj
theorem run_1_0 : chkK 1 1 0 0 (some [0]) 1 1 none = true := by decide +kernel
theorem run_2_0 : chkK 2 4 0 0 (some [0, 1]) 4 2 none = true := by decide +kernel
theorem run_3_0 : chkK 3 27 0 0 (some [0, 1, 2]) 27 6 none = true := by decide +kernel
theorem run_4_0 : chkK 4 256 0 0 (some [0, 1, 2, 3]) 256 24 none = true := by decide +kernel
theorem run_5_0 : chkK 5 648 0 0 (some [0, 1, 2, 3, 4]) 648 24 (some [1, 0, 2, 3, 4]) = true := by decide +kernel
theorem run_5_648 : chkK 5 648 648 24 (some [1, 0, 2, 3, 4]) 1296 49 (some [2, 0, 1, 4, 3]) = true := by decide +kernel
theorem run_5_1296 : chkK 5 648 1296 49 (some [2, 0, 1, 4, 3]) 1944 75 (some [3, 0, 2, 4, 1]) = true := by decide +kernel
theorem run_5_1944 : chkK 5 648 1944 75 (some [3, 0, 2, 4, 1]) 2592 102 (some [4, 1, 0, 2, 3]) = true := by decide +kernel
theorem run_5_2592 : chkK 5 533 2592 102 (some [4, 1, 0, 2, 3]) 3125 120 none = true := by decide +kernel
theorem run_6_0 : chkK 6 648 0 0 (some [0, 1, 2, 3, 4, 5]) 648 0 (some [0, 1, 2, 3, 4, 5]) = true := by decide +kernel
theorem run_6_648 : chkK 6 648 648 0 (some [0, 1, 2, 3, 4, 5]) 1296 0 (some [0, 1, 2, 3, 4, 5]) = true := by decide +kernel
theorem run_6_1296 : chkK 6 648 1296 0 (some [0, 1, 2, 3, 4, 5]) 1944 6 (some [0, 1, 3, 2, 4, 5]) = true := by decide +kernel
theorem run_6_1944 : chkK 6 648 1944 6 (some [0, 1, 3, 2, 4, 5]) 2592 24 (some [0, 2, 1, 3, 4, 5]) = true := by decide +kernel
theorem run_6_2592 : chkK 6 648 2592 24 (some [0, 2, 1, 3, 4, 5]) 3240 30 (some [0, 2, 3, 1, 4, 5]) = true := by decide +kernel
theorem run_6_3240 : chkK 6 648 3240 30 (some [0, 2, 3, 1, 4, 5]) 3888 48 (some [0, 3, 1, 2, 4, 5]) = true := by decide +kernel
theorem run_6_3888 : chkK 6 648 3888 48 (some [0, 3, 1, 2, 4, 5]) 4536 60 (some [0, 3, 4, 1, 2, 5]) = true := by decide +kernel
theorem run_6_4536 : chkK 6 648 4536 60 (some [0, 3, 4, 1, 2, 5]) 5184 72 (some [0, 4, 1, 2, 3, 5]) = true := by decide +kernel
theorem run_6_5184 : chkK 6 648 5184 72 (some [0, 4, 1, 2, 3, 5]) 5832 84 (some [0, 4, 3, 1, 2, 5]) = true := by decide +kernel
theorem run_6_5832 : chkK 6 648 5832 84 (some [0, 4, 3, 1, 2, 5]) 6480 96 (some [0, 5, 1, 2, 3, 4]) = true := by decide +kernel
theorem run_6_6480 : chkK 6 648 6480 96 (some [0, 5, 1, 2, 3, 4]) 7128 108 (some [0, 5, 3, 1, 2, 4]) = true := by decide +kernel
theorem run_6_7128 : chkK 6 648 7128 108 (some [0, 5, 3, 1, 2, 4]) 7776 120 (some [1, 0, 2, 3, 4, 5]) = true := by decide +kernel
theorem run_6_7776 : chkK 6 648 7776 120 (some [1, 0, 2, 3, 4, 5]) 8424 126 (some [1, 0, 3, 2, 4, 5]) = true := by decide +kernel
theorem run_6_8424 : chkK 6 648 8424 126 (some [1, 0, 3, 2, 4, 5]) 9072 144 (some [1, 2, 0, 3, 4, 5]) = true := by decide +kernel
theorem run_6_9072 : chkK 6 648 9072 144 (some [1, 2, 0, 3, 4, 5]) 9720 144 (some [1, 2, 0, 3, 4, 5]) = true := by decide +kernel
theorem run_6_9720 : chkK 6 648 9720 144 (some [1, 2, 0, 3, 4, 5]) 10368 144 (some [1, 2, 0, 3, 4, 5]) = true := by decide +kernel
theorem run_6_10368 : chkK 6 648 10368 144 (some [1, 2, 0, 3, 4, 5]) 11016 150 (some [1, 2, 3, 0, 4, 5]) = true := by decide +kernel
theorem run_6_11016 : chkK 6 648 11016 150 (some [1, 2, 3, 0, 4, 5]) 11664 168 (some [1, 3, 0, 2, 4, 5]) = true := by decide +kernel
theorem run_6_11664 : chkK 6 648 11664 168 (some [1, 3, 0, 2, 4, 5]) 12312 180 (some [1, 3, 4, 0, 2, 5]) = true := by decide +kernel
theorem run_6_12312 : chkK 6 648 12312 180 (some [1, 3, 4, 0, 2, 5]) 12960 192 (some [1, 4, 0, 2, 3, 5]) = true := by decide +kernel
theorem run_6_12960 : chkK 6 648 12960 192 (some [1, 4, 0, 2, 3, 5]) 13608 204 (some [1, 4, 3, 0, 2, 5]) = true := by decide +kernel
theorem run_6_13608 : chkK 6 648 13608 204 (some [1, 4, 3, 0, 2, 5]) 14256 216 (some [1, 5, 0, 2, 3, 4]) = true := by decide +kernel
theorem run_6_14256 : chkK 6 648 14256 216 (some [1, 5, 0, 2, 3, 4]) 14904 228 (some [1, 5, 3, 0, 2, 4]) = true := by decide +kernel
theorem run_6_14904 : chkK 6 648 14904 228 (some [1, 5, 3, 0, 2, 4]) 15552 240 (some [2, 0, 1, 3, 4, 5]) = true := by decide +kernel
theorem run_6_15552 : chkK 6 648 15552 240 (some [2, 0, 1, 3, 4, 5]) 16200 246 (some [2, 0, 3, 1, 4, 5]) = true := by decide +kernel
theorem run_6_16200 : chkK 6 648 16200 246 (some [2, 0, 3, 1, 4, 5]) 16848 264 (some [2, 1, 0, 3, 4, 5]) = true := by decide +kernel
theorem run_6_16848 : chkK 6 648 16848 264 (some [2, 1, 0, 3, 4, 5]) 17496 270 (some [2, 1, 3, 0, 4, 5]) = true := by decide +kernel
theorem run_6_17496 : chkK 6 648 17496 270 (some [2, 1, 3, 0, 4, 5]) 18144 288 (some [2, 3, 0, 1, 4, 5]) = true := by decide +kernel
theorem run_6_18144 : chkK 6 648 18144 288 (some [2, 3, 0, 1, 4, 5]) 18792 288 (some [2, 3, 0, 1, 4, 5]) = true := by decide +kernel
theorem run_6_18792 : chkK 6 648 18792 288 (some [2, 3, 0, 1, 4, 5]) 19440 288 (some [2, 3, 0, 1, 4, 5]) = true := by decide +kernel
theorem run_6_19440 : chkK 6 648 19440 288 (some [2, 3, 0, 1, 4, 5]) 20088 300 (some [2, 3, 4, 0, 1, 5]) = true := by decide +kernel
theorem run_6_20088 : chkK 6 648 20088 300 (some [2, 3, 4, 0, 1, 5]) 20736 312 (some [2, 4, 0, 1, 3, 5]) = true := by decide +kernel
theorem run_6_20736 : chkK 6 648 20736 312 (some [2, 4, 0, 1, 3, 5]) 21384 324 (some [2, 4, 3, 0, 1, 5]) = true := by decide +kernel
theorem run_6_21384 : chkK 6 648 21384 324 (some [2, 4, 3, 0, 1, 5]) 22032 336 (some [2, 5, 0, 1, 3, 4]) = true := by decide +kernel
theorem run_6_22032 : chkK 6 648 22032 336 (some [2, 5, 0, 1, 3, 4]) 22680 348 (some [2, 5, 3, 0, 1, 4]) = true := by decide +kernel
theorem run_6_22680 : chkK 6 648 22680 348 (some [2, 5, 3, 0, 1, 4]) 23328 360 (some [3, 0, 1, 2, 4, 5]) = true := by decide +kernel
theorem run_6_23328 : chkK 6 648 23328 360 (some [3, 0, 1, 2, 4, 5]) 23976 372 (some [3, 0, 4, 1, 2, 5]) = true := by decide +kernel
theorem run_6_23976 : chkK 6 648 23976 372 (some [3, 0, 4, 1, 2, 5]) 24624 384 (some [3, 1, 0, 2, 4, 5]) = true := by decide +kernel
theorem run_6_24624 : chkK 6 648 24624 384 (some [3, 1, 0, 2, 4, 5]) 25272 396 (some [3, 1, 4, 0, 2, 5]) = true := by decide +kernel
theorem run_6_25272 : chkK 6 648 25272 396 (some [3, 1, 4, 0, 2, 5]) 25920 408 (some [3, 2, 0, 1, 4, 5]) = true := by decide +kernel
theorem run_6_25920 : chkK 6 648 25920 408 (some [3, 2, 0, 1, 4, 5]) 26568 420 (some [3, 2, 4, 0, 1, 5]) = true := by decide +kernel
theorem run_6_26568 : chkK 6 648 26568 420 (some [3, 2, 4, 0, 1, 5]) 27216 432 (some [3, 4, 0, 1, 2, 5]) = true := by decide +kernel
theorem run_6_27216 : chkK 6 648 27216 432 (some [3, 4, 0, 1, 2, 5]) 27864 432 (some [3, 4, 0, 1, 2, 5]) = true := by decide +kernel
theorem run_6_27864 : chkK 6 648 27864 432 (some [3, 4, 0, 1, 2, 5]) 28512 432 (some [3, 4, 0, 1, 2, 5]) = true := by decide +kernel
theorem run_6_28512 : chkK 6 648 28512 432 (some [3, 4, 0, 1, 2, 5]) 29160 450 (some [3, 4, 5, 0, 1, 2]) = true := by decide +kernel
theorem run_6_29160 : chkK 6 648 29160 450 (some [3, 4, 5, 0, 1, 2]) 29808 456 (some [3, 5, 0, 1, 2, 4]) = true := by decide +kernel
theorem run_6_29808 : chkK 6 648 29808 456 (some [3, 5, 0, 1, 2, 4]) 30456 474 (some [3, 5, 4, 0, 1, 2]) = true := by decide +kernel
theorem run_6_30456 : chkK 6 648 30456 474 (some [3, 5, 4, 0, 1, 2]) 31104 480 (some [4, 0, 1, 2, 3, 5]) = true := by decide +kernel
theorem run_6_31104 : chkK 6 648 31104 480 (some [4, 0, 1, 2, 3, 5]) 31752 492 (some [4, 0, 3, 1, 2, 5]) = true := by decide +kernel
theorem run_6_31752 : chkK 6 648 31752 492 (some [4, 0, 3, 1, 2, 5]) 32400 504 (some [4, 1, 0, 2, 3, 5]) = true := by decide +kernel
theorem run_6_32400 : chkK 6 648 32400 504 (some [4, 1, 0, 2, 3, 5]) 33048 516 (some [4, 1, 3, 0, 2, 5]) = true := by decide +kernel
theorem run_6_33048 : chkK 6 648 33048 516 (some [4, 1, 3, 0, 2, 5]) 33696 528 (some [4, 2, 0, 1, 3, 5]) = true := by decide +kernel
theorem run_6_33696 : chkK 6 648 33696 528 (some [4, 2, 0, 1, 3, 5]) 34344 540 (some [4, 2, 3, 0, 1, 5]) = true := by decide +kernel
theorem run_6_34344 : chkK 6 648 34344 540 (some [4, 2, 3, 0, 1, 5]) 34992 552 (some [4, 3, 0, 1, 2, 5]) = true := by decide +kernel
theorem run_6_34992 : chkK 6 648 34992 552 (some [4, 3, 0, 1, 2, 5]) 35640 570 (some [4, 3, 5, 0, 1, 2]) = true := by decide +kernel
theorem run_6_35640 : chkK 6 648 35640 570 (some [4, 3, 5, 0, 1, 2]) 36288 576 (some [4, 5, 0, 1, 2, 3]) = true := by decide +kernel
theorem run_6_36288 : chkK 6 648 36288 576 (some [4, 5, 0, 1, 2, 3]) 36936 576 (some [4, 5, 0, 1, 2, 3]) = true := by decide +kernel
theorem run_6_36936 : chkK 6 648 36936 576 (some [4, 5, 0, 1, 2, 3]) 37584 576 (some [4, 5, 0, 1, 2, 3]) = true := by decide +kernel
theorem run_6_37584 : chkK 6 648 37584 576 (some [4, 5, 0, 1, 2, 3]) 38232 594 (some [4, 5, 3, 0, 1, 2]) = true := by decide +kernel
theorem run_6_38232 : chkK 6 648 38232 594 (some [4, 5, 3, 0, 1, 2]) 38880 600 (some [5, 0, 1, 2, 3, 4]) = true := by decide +kernel
theorem run_6_38880 : chkK 6 648 38880 600 (some [5, 0, 1, 2, 3, 4]) 39528 612 (some [5, 0, 3, 1, 2, 4]) = true := by decide +kernel
theorem run_6_39528 : chkK 6 648 39528 612 (some [5, 0, 3, 1, 2, 4]) 40176 624 (some [5, 1, 0, 2, 3, 4]) = true := by decide +kernel
theorem run_6_40176 : chkK 6 648 40176 624 (some [5, 1, 0, 2, 3, 4]) 40824 636 (some [5, 1, 3, 0, 2, 4]) = true := by decide +kernel
theorem run_6_40824 : chkK 6 648 40824 636 (some [5, 1, 3, 0, 2, 4]) 41472 648 (some [5, 2, 0, 1, 3, 4]) = true := by decide +kernel
theorem run_6_41472 : chkK 6 648 41472 648 (some [5, 2, 0, 1, 3, 4]) 42120 660 (some [5, 2, 3, 0, 1, 4]) = true := by decide +kernel
theorem run_6_42120 : chkK 6 648 42120 660 (some [5, 2, 3, 0, 1, 4]) 42768 672 (some [5, 3, 0, 1, 2, 4]) = true := by decide +kernel
theorem run_6_42768 : chkK 6 648 42768 672 (some [5, 3, 0, 1, 2, 4]) 43416 690 (some [5, 3, 4, 0, 1, 2]) = true := by decide +kernel
theorem run_6_43416 : chkK 6 648 43416 690 (some [5, 3, 4, 0, 1, 2]) 44064 696 (some [5, 4, 0, 1, 2, 3]) = true := by decide +kernel
theorem run_6_44064 : chkK 6 648 44064 696 (some [5, 4, 0, 1, 2, 3]) 44712 714 (some [5, 4, 3, 0, 1, 2]) = true := by decide +kernel
theorem run_6_44712 : chkK 6 648 44712 714 (some [5, 4, 3, 0, 1, 2]) 45360 720 none = true := by decide +kernel
theorem run_6_45360 : chkK 6 648 45360 720 none 46008 720 none = true := by decide +kernel
theorem run_6_46008 : chkK 6 648 46008 720 none 46656 720 none = true := by decide +kernel
theorem ways_1 {β : Type} (w : β → List Nat → β) (b0 : β) : mF w b0 1 (1 ^ 1) = (cF w b0 1 720).1 ∧ ∀ j L, (cF w b0 1 j).2 = some L → goodL 1 L := by
  have h0 := st_0 w b0 1
  have h1 := run_ok (by decide) (chk_run run_1_0) h0
  exact st_end (Nat.le_of_ble_eq_true rfl) h1
theorem ways_2 {β : Type} (w : β → List Nat → β) (b0 : β) : mF w b0 2 (2 ^ 2) = (cF w b0 2 720).1 ∧ ∀ j L, (cF w b0 2 j).2 = some L → goodL 2 L := by
  have h0 := st_0 w b0 2
  have h1 := run_ok (by decide) (chk_run run_2_0) h0
  exact st_end (Nat.le_of_ble_eq_true rfl) h1
theorem ways_3 {β : Type} (w : β → List Nat → β) (b0 : β) : mF w b0 3 (3 ^ 3) = (cF w b0 3 720).1 ∧ ∀ j L, (cF w b0 3 j).2 = some L → goodL 3 L := by
  have h0 := st_0 w b0 3
  have h1 := run_ok (by decide) (chk_run run_3_0) h0
  exact st_end (Nat.le_of_ble_eq_true rfl) h1
theorem ways_4 {β : Type} (w : β → List Nat → β) (b0 : β) : mF w b0 4 (4 ^ 4) = (cF w b0 4 720).1 ∧ ∀ j L, (cF w b0 4 j).2 = some L → goodL 4 L := by
  have h0 := st_0 w b0 4
  have h1 := run_ok (by decide) (chk_run run_4_0) h0
  exact st_end (Nat.le_of_ble_eq_true rfl) h1
theorem ways_5 {β : Type} (w : β → List Nat → β) (b0 : β) : mF w b0 5 (5 ^ 5) = (cF w b0 5 720).1 ∧ ∀ j L, (cF w b0 5 j).2 = some L → goodL 5 L := by
  have h0 := st_0 w b0 5
  have h1 := run_ok (by decide) (chk_run run_5_0) h0
  have h2 := run_ok (by decide) (chk_run run_5_648) h1
  have h3 := run_ok (by decide) (chk_run run_5_1296) h2
  have h4 := run_ok (by decide) (chk_run run_5_1944) h3
  have h5 := run_ok (by decide) (chk_run run_5_2592) h4
  exact st_end (Nat.le_of_ble_eq_true rfl) h5
theorem ways_6 {β : Type} (w : β → List Nat → β) (b0 : β) : mF w b0 6 (6 ^ 6) = (cF w b0 6 720).1 ∧ ∀ j L, (cF w b0 6 j).2 = some L → goodL 6 L := by
  have h0 := st_0 w b0 6
  have h1 := run_ok (by decide) (chk_run run_6_0) h0
  have h2 := run_ok (by decide) (chk_run run_6_648) h1
  have h3 := run_ok (by decide) (chk_run run_6_1296) h2
  have h4 := run_ok (by decide) (chk_run run_6_1944) h3
  have h5 := run_ok (by decide) (chk_run run_6_2592) h4
  have h6 := run_ok (by decide) (chk_run run_6_3240) h5
  have h7 := run_ok (by decide) (chk_run run_6_3888) h6
  have h8 := run_ok (by decide) (chk_run run_6_4536) h7
  have h9 := run_ok (by decide) (chk_run run_6_5184) h8
  have h10 := run_ok (by decide) (chk_run run_6_5832) h9
  have h11 := run_ok (by decide) (chk_run run_6_6480) h10
  have h12 := run_ok (by decide) (chk_run run_6_7128) h11
  have h13 := run_ok (by decide) (chk_run run_6_7776) h12
  have h14 := run_ok (by decide) (chk_run run_6_8424) h13
  have h15 := run_ok (by decide) (chk_run run_6_9072) h14
  have h16 := run_ok (by decide) (chk_run run_6_9720) h15
  have h17 := run_ok (by decide) (chk_run run_6_10368) h16
  have h18 := run_ok (by decide) (chk_run run_6_11016) h17
  have h19 := run_ok (by decide) (chk_run run_6_11664) h18
  have h20 := run_ok (by decide) (chk_run run_6_12312) h19
  have h21 := run_ok (by decide) (chk_run run_6_12960) h20
  have h22 := run_ok (by decide) (chk_run run_6_13608) h21
  have h23 := run_ok (by decide) (chk_run run_6_14256) h22
  have h24 := run_ok (by decide) (chk_run run_6_14904) h23
  have h25 := run_ok (by decide) (chk_run run_6_15552) h24
  have h26 := run_ok (by decide) (chk_run run_6_16200) h25
  have h27 := run_ok (by decide) (chk_run run_6_16848) h26
  have h28 := run_ok (by decide) (chk_run run_6_17496) h27
  have h29 := run_ok (by decide) (chk_run run_6_18144) h28
  have h30 := run_ok (by decide) (chk_run run_6_18792) h29
  have h31 := run_ok (by decide) (chk_run run_6_19440) h30
  have h32 := run_ok (by decide) (chk_run run_6_20088) h31
  have h33 := run_ok (by decide) (chk_run run_6_20736) h32
  have h34 := run_ok (by decide) (chk_run run_6_21384) h33
  have h35 := run_ok (by decide) (chk_run run_6_22032) h34
  have h36 := run_ok (by decide) (chk_run run_6_22680) h35
  have h37 := run_ok (by decide) (chk_run run_6_23328) h36
  have h38 := run_ok (by decide) (chk_run run_6_23976) h37
  have h39 := run_ok (by decide) (chk_run run_6_24624) h38
  have h40 := run_ok (by decide) (chk_run run_6_25272) h39
  have h41 := run_ok (by decide) (chk_run run_6_25920) h40
  have h42 := run_ok (by decide) (chk_run run_6_26568) h41
  have h43 := run_ok (by decide) (chk_run run_6_27216) h42
  have h44 := run_ok (by decide) (chk_run run_6_27864) h43
  have h45 := run_ok (by decide) (chk_run run_6_28512) h44
  have h46 := run_ok (by decide) (chk_run run_6_29160) h45
  have h47 := run_ok (by decide) (chk_run run_6_29808) h46
  have h48 := run_ok (by decide) (chk_run run_6_30456) h47
  have h49 := run_ok (by decide) (chk_run run_6_31104) h48
  have h50 := run_ok (by decide) (chk_run run_6_31752) h49
  have h51 := run_ok (by decide) (chk_run run_6_32400) h50
  have h52 := run_ok (by decide) (chk_run run_6_33048) h51
  have h53 := run_ok (by decide) (chk_run run_6_33696) h52
  have h54 := run_ok (by decide) (chk_run run_6_34344) h53
  have h55 := run_ok (by decide) (chk_run run_6_34992) h54
  have h56 := run_ok (by decide) (chk_run run_6_35640) h55
  have h57 := run_ok (by decide) (chk_run run_6_36288) h56
  have h58 := run_ok (by decide) (chk_run run_6_36936) h57
  have h59 := run_ok (by decide) (chk_run run_6_37584) h58
  have h60 := run_ok (by decide) (chk_run run_6_38232) h59
  have h61 := run_ok (by decide) (chk_run run_6_38880) h60
  have h62 := run_ok (by decide) (chk_run run_6_39528) h61
  have h63 := run_ok (by decide) (chk_run run_6_40176) h62
  have h64 := run_ok (by decide) (chk_run run_6_40824) h63
  have h65 := run_ok (by decide) (chk_run run_6_41472) h64
  have h66 := run_ok (by decide) (chk_run run_6_42120) h65
  have h67 := run_ok (by decide) (chk_run run_6_42768) h66
  have h68 := run_ok (by decide) (chk_run run_6_43416) h67
  have h69 := run_ok (by decide) (chk_run run_6_44064) h68
  have h70 := run_ok (by decide) (chk_run run_6_44712) h69
  have h71 := run_ok (by decide) (chk_run run_6_45360) h70
  have h72 := run_ok (by decide) (chk_run run_6_46008) h71
  exact st_end (Nat.le_of_ble_eq_true rfl) h72
theorem ways_all {β : Type} (w : β → List Nat → β) (b0 : β) {N : Nat} (h1 : 1 ≤ N) (h6 : N ≤ 6) : mF w b0 N (N ^ N) = (cF w b0 N 720).1 ∧ ∀ j L, (cF w b0 N j).2 = some L → goodL N L := by
  rcases (show N = 1 ∨ N = 2 ∨ N = 3 ∨ N = 4 ∨ N = 5 ∨ N = 6 by omega) with rfl | rfl | rfl | rfl | rfl | rfl
  · exact ways_1 w b0
  · exact ways_2 w b0
  · exact ways_3 w b0
  · exact ways_4 w b0
  · exact ways_5 w b0
  · exact ways_6 w b0
