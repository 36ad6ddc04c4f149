/-! ===== ways: rows of digits ===== -/
def memN (v : Nat) : List Nat → Bool
  | [] => false
  | x :: r => Nat.beq v x || memN v r
def allN (L : List Nat) : Nat → Bool
  | 0 => true
  | k + 1 => memN k L && allN L k
def isPm (N : Nat) (L : List Nat) : Bool := allN L N
def dgR (N : Nat) : Nat → Nat → List Nat → List Nat
  | 0, _, acc => acc
  | k + 1, c, acc => dgR N k (c / N) (c % N :: acc)
def dgs (N c : Nat) : List Nat := dgR N N c []
def eqL : List Nat → List Nat → Bool
  | [], [] => true
  | x :: r, y :: q => Nat.beq x y && eqL r q
  | _, _ => false
theorem eqL_eq : ∀ {L M : List Nat}, eqL L M = true → L = M
  | [], [], _ => rfl
  | [], _ :: _, h => by cases h
  | _ :: _, [], h => by cases h
  | x :: r, y :: q, h => by
    unfold eqL at h
    rw [Bool.and_eq_true] at h
    rw [Nat.eq_of_beq_eq_true h.1, eqL_eq h.2]
def tabN (f : Nat → Nat) : Nat → List Nat → List Nat
  | 0, acc => acc
  | k + 1, acc => tabN f k (f k :: acc)
theorem tab_get (f : Nat → Nat) : ∀ (k : Nat) (acc : List Nat) (i : Nat), (tabN f k acc).getD i 0 = if i < k then f i else acc.getD (i - k) 0
  | 0, acc, i => by rw [if_neg (Nat.not_lt_zero i)]; rfl
  | k + 1, acc, i => by
    show (tabN f k (f k :: acc)).getD i 0 = _
    rw [tab_get f k]
    by_cases h : i < k
    · rw [if_pos h, if_pos (by omega)]
    · by_cases h2 : i = k
      · subst h2
        rw [if_neg h, if_pos (Nat.lt_succ_self i), Nat.sub_self]
        rfl
      · rw [if_neg h, if_neg (by omega), show i - k = (i - (k + 1)) + 1 by omega]
        rfl
def stepL (N : Nat) (L : List Nat) : Option (List Nat) := match goF N (fun i => L.getD i 0) with
  | none => none
  | some f => some (tabN f N [])
/-- a step of the weighing: more yards, nothing more spoiled -/
def mstV (b : Option (Nat × List Nat)) : Int32 := match b with
  | none => -4
  | some x => nI x.1
def plcV (N : Nat) (p : Nat → Nat) (b : Option (Nat × List Nat)) (k : Nat) : Int32 := match b with
  | none => -4
  | some x => nI (srtF N p (x.2.getD k 0))
def wayS (t : Tp) (s : St) (L : List Nat) : St := plS s (fun l => srtF (tN t) (sP s) (L.getD l 0))
def wayU (t : Tp) (g : Nt) (s : St) (L : List Nat) : St := selS t g (wayS t s L)
noncomputable def wgS (t : Tp) (g : Nt) (s : St) (b : Option (Nat × List Nat)) (L : List Nat) : Option (Nat × List Nat) := @ite _ (nI (sumF (sX (wayU t g s L)) (tN t)) = nI (sumF (sX s) (tN t)) ∧ mstV b < nI (ones6 (ydB t g (wayU t g s L)))) (Classical.propDecidable _) (some (ones6 (ydB t g (wayU t g s L)), L)) b
/-- the reference's way: all codes -/
def mF {β : Type} (w : β → List Nat → β) (b0 : β) (N : Nat) : Nat → β
  | 0 => b0
  | c + 1 => if isPm N (dgs N c) then w (mF w b0 N c) (dgs N c) else mF w b0 N c
/-- the class's way: one behind the other -/
def cF {β : Type} (w : β → List Nat → β) (b0 : β) (N : Nat) : Nat → β × Option (List Nat)
  | 0 => (b0, some (tabN (fun i => i) N []))
  | k + 1 => match (cF w b0 N k).2 with
    | none => cF w b0 N k
    | some L => (w (cF w b0 N k).1 L, stepL N L)
noncomputable def setB (t : Tp) (g : Nt) (s : St) : Option (Nat × List Nat) := mF (wgS t g s) none (tN t) (tN t ^ tN t)
noncomputable def A_setting (S : Sy) (x : Int32) : Int32 × Sy := @ite _ (x = -1) (Classical.propDecidable _) (mstV (setB (yt S) (yg S) (ys S)), S) (onI x 0 (tN (yt S) - 1) (fun k => (plcV (tN (yt S)) (sP (ys S)) (setB (yt S) (yg S) (ys S)) k, S)) (-1, S))
theorem memN_iff {v : Nat} : ∀ {L : List Nat}, memN v L = true ↔ ∃ i, i < L.length ∧ L.getD i 0 = v
  | [] => ⟨fun h => (by cases h), fun h => by obtain ⟨i, hi, -⟩ := h; exact absurd hi (Nat.not_lt_zero i)⟩
  | x :: r => by
    unfold memN
    rw [Bool.or_eq_true, memN_iff (L := r)]
    constructor
    · rintro (h | ⟨i, hi, he⟩)
      · exact ⟨0, Nat.succ_pos _, (Nat.eq_of_beq_eq_true h).symm⟩
      · exact ⟨i + 1, Nat.succ_lt_succ hi, he⟩
    · rintro ⟨i, hi, he⟩
      cases i with
      | zero => exact Or.inl (by have e : x = v := he; rw [e]; exact Nat.beq_refl v)
      | succ i => exact Or.inr ⟨i, Nat.lt_of_succ_lt_succ hi, he⟩
theorem allN_iff {L : List Nat} : ∀ {k : Nat}, allN L k = true ↔ ∀ v, v < k → memN v L = true
  | 0 => ⟨fun _ v hv => absurd hv (Nat.not_lt_zero v), fun _ => rfl⟩
  | k + 1 => by
    unfold allN
    rw [Bool.and_eq_true, allN_iff (k := k)]
    constructor
    · rintro ⟨h1, h2⟩ v hv
      by_cases e : v = k
      · subst e; exact h1
      · exact h2 v (by omega)
    · exact fun h => ⟨h k (Nat.lt_succ_self k), fun v hv => h v (by omega)⟩
theorem dgR_len (N : Nat) : ∀ (k c : Nat) (acc : List Nat), (dgR N k c acc).length = k + acc.length
  | 0, _, acc => (Nat.zero_add _).symm
  | k + 1, c, acc => by
    show (dgR N k (c / N) (c % N :: acc)).length = _
    rw [dgR_len N k]
    show k + (acc.length + 1) = _
    omega
theorem dgR_lt {N : Nat} (hN : 0 < N) : ∀ (k c : Nat) (acc : List Nat), (∀ x ∈ acc, x < N) → ∀ x ∈ dgR N k c acc, x < N
  | 0, _, acc, h => h
  | k + 1, c, acc, h => dgR_lt hN k (c / N) (c % N :: acc) (fun x hx => by
    rcases List.mem_cons.mp hx with e | e
    · rw [e]; exact Nat.mod_lt _ hN
    · exact h x e)
theorem dgs_ok {N c : Nat} (hN : 0 < N) : (dgs N c).length = N ∧ ∀ i, i < N → (dgs N c).getD i 0 < N := by
  have h1 : (dgs N c).length = N := dgR_len N N c []
  refine ⟨h1, fun i hi => ?_⟩
  refine dgR_lt hN N c [] (fun x hx => by cases hx) _ ?_
  show (dgs N c).getD i 0 ∈ dgs N c
  rw [List.getD_eq_getElem?_getD, List.getElem?_eq_getElem (by omega)]
  exact List.getElem_mem _
/-- N values below N, all there: each once -/
theorem pm_inj {N : Nat} {L : List Nat} (hL : L.length = N) (h : isPm N L = true) : ∀ i, i < N → ∀ j, j < N → L.getD i 0 = L.getD j 0 → i = j := by
  have hm := allN_iff.mp h
  have hs : ∀ v, v < N → ∃ i, i < N ∧ L.getD i 0 = v := fun v hv => by
    obtain ⟨i, hi, he⟩ := memN_iff.mp (hm v hv)
    exact ⟨i, by omega, he⟩
  intro i hi j hj e
  by_cases hij : i = j
  · exact hij
  · exfalso
    have hc : ∀ v, ∃ k, v < N → k < N ∧ L.getD k 0 = v := fun v => by
      by_cases hv : v < N
      · obtain ⟨k, hk⟩ := hs v hv; exact ⟨k, fun _ => hk⟩
      · exact ⟨0, fun z => absurd z hv⟩
    have hsel : ∃ f : Nat → Nat, ∀ v, v < N → f v < N ∧ L.getD (f v) 0 = v := ⟨fun v => Classical.choose (hc v), fun v hv => Classical.choose_spec (hc v) hv⟩
    obtain ⟨f, hf⟩ := hsel
    have hinj : ∀ a b, a < b → b < N → f a ≠ f b := fun a b hab hb e2 => by
      have h1 := (hf a (by omega)).2
      have h2 := (hf b hb).2
      rw [e2] at h1
      omega
    obtain ⟨a, ha, ea⟩ := fb_onto (n := N) (f := f) (fun v hv => (hf v hv).1) hinj hi
    obtain ⟨b, hb, eb⟩ := fb_onto (n := N) (f := f) (fun v hv => (hf v hv).1) hinj hj
    have h1 := (hf a ha).2
    have h2 := (hf b hb).2
    rw [ea] at h1
    rw [eb] at h2
    have : a = b := by omega
    rw [this] at ea
    omega
theorem srt_lt {N : Nat} {p : Nat → Nat} (hd : dst N p) {i j : Nat} (hi : i < N) (hj : j < N) : srtF N p i < srtF N p j ↔ i < j := by
  have h1 := ordO_ok hd hi
  have h2 := ordO_ok hd hj
  unfold srtF
  constructor
  · intro h
    have := rankO_mono (N := N) h1.1 h
    omega
  · intro h
    rcases Nat.lt_trichotomy (p (ordO N p i)) (p (ordO N p j)) with z | z | z
    · exact z
    · have := hd _ h1.1 _ h2.1 z
      rw [← h1.2, ← h2.2, this] at h
      omega
    · have := rankO_mono (N := N) h2.1 z
      omega
theorem srt_inj {N : Nat} {p : Nat → Nat} (hd : dst N p) {i j : Nat} (hi : i < N) (hj : j < N) (e : srtF N p i = srtF N p j) : i = j := by
  have h1 := (srt_lt hd hi hj)
  have h2 := (srt_lt hd hj hi)
  omega
theorem srt_le {N : Nat} {p : Nat → Nat} (hd : dst N p) (h9 : ∀ l, l < N → p l ≤ 9) {i : Nat} (hi : i < N) : srtF N p i ≤ 9 := h9 _ (ordO_ok hd hi).1
theorem okS_way {t : Tp} {s : St} {L : List Nat} (hk : okS t s) (hL : ∀ i, i < tN t → L.getD i 0 < tN t) (hi : ∀ i, i < tN t → ∀ j, j < tN t → L.getD i 0 = L.getD j 0 → i = j) : okS t (wayS t s L) := by
  refine ⟨fun l hl => ⟨srt_le hk.2 (fun l hl => (hk.1 l hl).1) (hL l hl), (hk.1 l hl).2⟩, fun l hl k hk2 e => hi l hl k hk2 (srt_inj hk.2 (hL l hl) (hL k hk2) e)⟩
theorem sub0 {k c : Nat} (hk : k < 1000) (hc : c < 1000) : nI k - nI c = 0 ↔ k = c := by
  constructor
  · intro h
    have h1 := pk_sub_toInt (a := k) (b := c) (by omega) (by omega)
    rw [h] at h1
    have h0 : (0 : Int32).toInt = 0 := rfl
    omega
  · intro h; subst h; exact Int32.sub_self _
theorem sub1 (k c : Nat) : nI k - nI c - nI 1 = nI k - nI (c + 1) := by
  rw [← nI_add c 1, Int32.sub_eq_add_neg (nI k) (nI c + nI 1), Int32.neg_add, Int32.sub_eq_add_neg (nI k) (nI c), Int32.sub_eq_add_neg (nI k + -nI c) (nI 1), Int32.sub_eq_add_neg (-nI c) (nI 1), Int32.add_assoc]
theorem subz (x : Int32) : x - nI 0 = x := Int32.sub_zero x
set_option maxHeartbeats 4000000 in
theorem l_po_in {r : Ev} {n : Nat} {Q : MQ2} {F : Post} {I : MI} (a : Nat) (hb : MdB n Q a) (t : Tp) (hN : I (a + 2) 0 = nI (tN t)) (s : St) (hh : ∀ l, l < tN t → I (a + 10) l = nI (sP s l)) (hk : okS t s) (hn : tN t ≤ 6) (k0 p : Nat) (hp : p < 10) (left fd : Int32) (hx : ∀ (c : Nat) (w6 : Option Value), ((c = 1 ∧ ∃ l, l < tN t ∧ sP s l = p) ∨ (c = 0 ∧ ∀ l, l < tN t → sP s l ≠ p)) → X r 0 yX9_placeOf cX9_placeOf (7, (some .int)) (0, 0) 62 [some (.ref (evz r + a)), some (.int (nI (k0))), some (.int left), some (.int fd), some (.int (nI (p))), some (.int (nI (c))), w6] [] n I Q F) : ∀ (k : Nat) (i c : Nat), i ≤ tN t → i + k = tN t + 1 → ((c = 1 ∧ ∃ l, l < i ∧ sP s l = p) ∨ (c = 0 ∧ ∀ l, l < i → sP s l ≠ p)) → X r 0 yX9_placeOf cX9_placeOf (7, (some .int)) (0, 0) 21 [some (.ref (evz r + a)), some (.int (nI (k0))), some (.int left), some (.int fd), some (.int (nI (p))), some (.int (nI (c))), some (.int (nI (i)))] [] n I Q F := by
  intro k
  induction k with
  | zero => intros; omega
  | succ k ih =>
    intro i c hi0 hi hc
    obtain ⟨b0, bT, bO, bD, bB, bS, bP, bM, bN, bR, bH, qT, qO, qD, qB, qS, qP, qM, qN, qR, qH⟩ := id hb
    refine x_iload_6 dX9_placeOf_21 ?_
    refine x_aload_0 dX9_placeOf_23 ?_
    refine x_getr dX9_placeOf_24 f_X9_13 (by assumption) qO ?_
    refine x_const (c := 0) dX9_placeOf_27 rfl ?_
    refine x_ialdV dX9_placeOf_28 (by assumption) rfl (by omega) hN ?_
    refine x_icmp_geN dX9_placeOf_29 (by omega) (by omega) (fun c29 => ?_) (fun c29 => ?_)
    · have e9 : i = tN t := by omega
      subst e9
      exact hx _ _ hc
    · have hpi := (hk.1 i (by omega)).1
      have hc2 : c ≤ 1 := by omega
      refine x_iload_5 dX9_placeOf_32 ?_
      refine x_if_neN dX9_placeOf_34 (by omega) (fun c34 => ?_) (fun c34 => ?_)
      · refine x_const (c := 1) dX9_placeOf_49 rfl ?_
        refine x_goto dX9_placeOf_50 ?_
        refine x_istore_5 dX9_placeOf_54 rfl rfl ?_
        refine x_iinc_6 dX9_placeOf_56 (iinc1 _) rfl rfl ?_
        refine x_goto dX9_placeOf_59 ?_
        refine ih (i + 1) _ (by omega) (by omega) ?_
        exact hc.elim (fun z => Or.inl ⟨rfl, by obtain ⟨l, hl, he⟩ := z.2; exact ⟨l, by omega, he⟩⟩) (fun z => absurd z.1 (by omega))
      · refine x_aload_0 dX9_placeOf_37 ?_
        refine x_getr dX9_placeOf_38 f_X9_37 (by assumption) qH ?_
        refine x_iload_6 dX9_placeOf_41 ?_
        refine x_ialdV dX9_placeOf_43 (by assumption) rfl (by omega) (hh i (by omega)) ?_
        refine x_iload_4 dX9_placeOf_44 ?_
        refine x_icmp_neN dX9_placeOf_46 (by omega) (by omega) (fun c46 => ?_) (fun c46 => ?_)
        · refine x_const (c := 0) dX9_placeOf_53 rfl ?_
          refine x_istore_5 dX9_placeOf_54 rfl rfl ?_
          refine x_iinc_6 dX9_placeOf_56 (iinc1 _) rfl rfl ?_
          refine x_goto dX9_placeOf_59 ?_
          refine ih (i + 1) _ (by omega) (by omega) ?_
          exact hc.elim (fun z => absurd z.1 (by omega)) (fun z => Or.inr ⟨rfl, fun l hl => (Nat.lt_or_ge l i).elim (z.2 l) (fun y => by rw [show l = i by omega]; exact c46)⟩)
        · refine x_const (c := 1) dX9_placeOf_49 rfl ?_
          refine x_goto dX9_placeOf_50 ?_
          refine x_istore_5 dX9_placeOf_54 rfl rfl ?_
          refine x_iinc_6 dX9_placeOf_56 (iinc1 _) rfl rfl ?_
          refine x_goto dX9_placeOf_59 ?_
          refine ih (i + 1) _ (by omega) (by omega) ?_
          exact Or.inl ⟨rfl, i, Nat.lt_succ_self i, by omega⟩
set_option maxHeartbeats 4000000 in
theorem l_po {r : Ev} {n : Nat} {Q : MQ2} {F : Post} {I : MI} (a : Nat) (hb : MdB n Q a) (t : Tp) (hN : I (a + 2) 0 = nI (tN t)) (s : St) (hh : ∀ l, l < tN t → I (a + 10) l = nI (sP s l)) (hk : okS t s) (hn : tN t ≤ 6) (k0 : Nat) (hk0 : k0 < tN t) (hF : F (some (.int (nI (srtF (tN t) (sP s) k0)))) I Q) : ∀ (k : Nat) (p : Nat) (left fd : Int32) (w5 w6 : Option Value), p ≤ 10 → p + k = 10 + 1 → left = nI k0 - nI (cP (tN t) (sP s) p) → fd = (if k0 < cP (tN t) (sP s) p then nI (srtF (tN t) (sP s) k0) else -4) → X r 0 yX9_placeOf cX9_placeOf (7, (some .int)) (0, 0) 8 [some (.ref (evz r + a)), some (.int (nI (k0))), some (.int left), some (.int fd), some (.int (nI (p))), w5, w6] [] n I Q F := by
  intro k
  induction k with
  | zero => intros; omega
  | succ k ih =>
    intro p left fd w5 w6 hi0 hi hleft hfd
    obtain ⟨b0, bT, bO, bD, bB, bS, bP, bM, bN, bR, bH, qT, qO, qD, qB, qS, qP, qM, qN, qR, qH⟩ := id hb
    refine x_iload_4 dX9_placeOf_8 ?_
    refine x_bip (c := 10) dX9_placeOf_10 (by decide) ?_
    refine x_icmp_geN dX9_placeOf_12 (by omega) (by omega) (fun c12 => ?_) (fun c12 => ?_)
    · have e9 : p = 10 := by omega
      refine x_iload_3 dX9_placeOf_97 ?_
      exact x_iret (st := []) dX9_placeOf_98 rfl rfl (by
        rw [hfd, e9, cP_end (fun l hl => (hk.1 l hl).1), if_pos hk0]
        exact hF)
    · have hcp := cP_le (tN t) (sP s) p
      refine x_const (c := 0) dX9_placeOf_15 rfl ?_
      refine x_istore_5 dX9_placeOf_16 rfl rfl ?_
      refine x_const (c := 0) dX9_placeOf_18 rfl ?_
      refine x_istore_6 dX9_placeOf_19 rfl rfl ?_
      refine l_po_in a hb t hN s hh hk hn k0 p (by omega) _ _ (fun c w7 hc => ?_) (tN t + 1) 0 0 (by omega) (by omega) (Or.inr ⟨rfl, fun l hl => absurd hl (Nat.not_lt_zero l)⟩)
      have hc2 : c ≤ 1 := by omega
      refine x_iload_5 dX9_placeOf_62 ?_
      refine x_if_eqN dX9_placeOf_64 (by omega) (fun c64 => ?_) (fun c64 => ?_)
      · have hno : ∀ l, l < tN t → sP s l ≠ p := hc.elim (fun z => absurd z.1 (by omega)) (fun z => z.2)
        refine x_iload_3 dX9_placeOf_76 ?_
        refine x_istore_3 dX9_placeOf_77 rfl rfl ?_
        refine x_iload_2 dX9_placeOf_78 ?_
        refine x_iload_5 dX9_placeOf_79 ?_
        refine x_if_eqN dX9_placeOf_81 (by omega) (fun c81 => ?_) (fun c81 => ?_)
        · refine x_const (c := 0) dX9_placeOf_88 rfl ?_
          refine x_isub dX9_placeOf_89 ?_
          refine x_istore_2 dX9_placeOf_90 rfl rfl ?_
          refine x_iinc_4 dX9_placeOf_91 (iinc1 _) rfl rfl ?_
          refine x_goto dX9_placeOf_94 ?_
          refine ih (p + 1) _ _ _ _ (by omega) (by omega) ?_ ?_
          · rw [hleft, subz, cP_no hno]
          · rw [hfd, cP_no hno]
        · exfalso; omega
      · have hyes : ∃ l, l < tN t ∧ sP s l = p := hc.elim (fun z => z.2) (fun z => absurd z.1 (by omega))
        refine x_iload_2 dX9_placeOf_67 ?_
        refine x_if_ne dX9_placeOf_68 (fun c68 => ?_) (fun c68 => ?_)
        · have hk9 : ¬ k0 = cP (tN t) (sP s) p := fun z => c68 (by rw [hleft]; exact (sub0 (by omega) (by omega)).mpr z)
          refine x_iload_3 dX9_placeOf_76 ?_
          refine x_istore_3 dX9_placeOf_77 rfl rfl ?_
          refine x_iload_2 dX9_placeOf_78 ?_
          refine x_iload_5 dX9_placeOf_79 ?_
          refine x_if_eqN dX9_placeOf_81 (by omega) (fun c81 => ?_) (fun c81 => ?_)
          · exfalso; omega
          · refine x_const (c := 1) dX9_placeOf_84 rfl ?_
            refine x_goto dX9_placeOf_85 ?_
            refine x_isub dX9_placeOf_89 ?_
            refine x_istore_2 dX9_placeOf_90 rfl rfl ?_
            refine x_iinc_4 dX9_placeOf_91 (iinc1 _) rfl rfl ?_
            refine x_goto dX9_placeOf_94 ?_
            obtain ⟨l, hl, he⟩ := hyes
            refine ih (p + 1) _ _ _ _ (by omega) (by omega) ?_ ?_
            · rw [hleft, sub1, cP_yes hk.2 hl he]
            · rw [cP_yes hk.2 hl he]
              rw [hfd]
              by_cases y : k0 < cP (tN t) (sP s) p
              · rw [if_pos y, if_pos (by omega)]
              · rw [if_neg y, if_neg (by omega)]
        · have hk9 : k0 = cP (tN t) (sP s) p := (sub0 (by omega) (by omega)).mp (by rw [← hleft]; exact c68)
          refine x_iload_4 dX9_placeOf_71 ?_
          refine x_goto dX9_placeOf_73 ?_
          refine x_istore_3 dX9_placeOf_77 rfl rfl ?_
          refine x_iload_2 dX9_placeOf_78 ?_
          refine x_iload_5 dX9_placeOf_79 ?_
          refine x_if_eqN dX9_placeOf_81 (by omega) (fun c81 => ?_) (fun c81 => ?_)
          · exfalso; omega
          · refine x_const (c := 1) dX9_placeOf_84 rfl ?_
            refine x_goto dX9_placeOf_85 ?_
            refine x_isub dX9_placeOf_89 ?_
            refine x_istore_2 dX9_placeOf_90 rfl rfl ?_
            refine x_iinc_4 dX9_placeOf_91 (iinc1 _) rfl rfl ?_
            refine x_goto dX9_placeOf_94 ?_
            obtain ⟨l, hl, he⟩ := hyes
            refine ih (p + 1) _ _ _ _ (by omega) (by omega) ?_ ?_
            · rw [hleft, sub1, cP_yes hk.2 hl he]
            · rw [cP_yes hk.2 hl he]
              rw [if_pos (by omega)]
              congr 1
              unfold srtF
              rw [hk9, ← he, cP_rank, ordO_rank hk.2 hl]
set_option maxHeartbeats 4000000 in
theorem c_X9_placeOf {r : Ev} {n : Nat} {I : MI} {Q : MQ2} (a : Nat) (hb : MdB n Q a) (t : Tp) (hN : I (a + 2) 0 = nI (tN t)) (s : St) (hh : ∀ l, l < tN t → I (a + 10) l = nI (sP s l)) (hk : okS t s) (hn : tN t ≤ 6) (k0 : Nat) (hk0 : k0 < tN t) : CT r 0 yX9_placeOf cX9_placeOf (7, (some .int)) (0, 0) [.ref (evz r + a), .int (nI k0)] n I Q (ri Q (fun v J => J = I ∧ v = nI (srtF (tN t) (sP s) k0))) := by
  refine ct_of (lv := [some (.ref (evz r + a)), some (.int (nI k0)), none, none, none, none, none]) (by decide +kernel) rfl rfl rfl ?_
  refine x_iload_1 dX9_placeOf_0 ?_
  refine x_istore_2 dX9_placeOf_1 rfl rfl ?_
  refine x_bipush (v := -4) dX9_placeOf_2 (by decide) ?_
  refine x_istore_3 dX9_placeOf_4 rfl rfl ?_
  refine x_const (c := 0) dX9_placeOf_5 rfl ?_
  refine x_istore_4 dX9_placeOf_6 rfl rfl ?_
  exact l_po a hb t hN s hh hk hn k0 hk0 ⟨_, rfl, rfl, rfl, rfl⟩ 11 0 _ _ _ _ (by omega) (by omega) (by rw [cP_0]; exact (subz _).symm) (by rw [cP_0, if_neg (Nat.not_lt_zero k0)])
