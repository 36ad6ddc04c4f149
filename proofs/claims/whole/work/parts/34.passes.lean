/-! the looms by their places, one place after another -/
def cP (N : Nat) (f : Nat → Nat) (p : Nat) : Nat := fb_ct (fun k => decide (f k < p)) N
theorem cP_no {N : Nat} {f : Nat → Nat} {p : Nat} (h : ∀ l, l < N → f l ≠ p) : cP N f (p + 1) = cP N f p := fb_ct_cong (fun k hk => by
  have := h k hk
  by_cases z : f k < p
  · rw [decide_eq_true z, decide_eq_true (by omega)]
  · rw [decide_eq_false z, decide_eq_false (by omega)])
theorem cP_yes {N : Nat} {f : Nat → Nat} {p l : Nat} (hd : dst N f) (hl : l < N) (e : f l = p) : cP N f (p + 1) = cP N f p + 1 := by
  have h := fb_ct_upd (fun k => decide (f k < p)) true hl
  have h0 : decide (f l < p) = false := decide_eq_false (by omega)
  rw [if_pos rfl] at h
  have h1 : fb_ct (fun k => if k = l then true else decide (f k < p)) N = cP N f (p + 1) := fb_ct_cong (fun k hk => by
    by_cases z : k = l
    · subst z; rw [if_pos rfl, decide_eq_true (by omega)]
    · rw [if_neg z]
      have h2 : f k ≠ p := fun y => z (hd k hk l hl (y.trans e.symm))
      by_cases z2 : f k < p
      · rw [decide_eq_true z2, decide_eq_true (by omega)]
      · rw [decide_eq_false z2, decide_eq_false (by omega)])
  rw [h1] at h
  simp only [h0, Bool.false_eq_true, if_false, Nat.add_zero] at h
  exact h
theorem cP_rank {N : Nat} {f : Nat → Nat} {l : Nat} : cP N f (f l) = rankO N f l := rfl
theorem cP_end {N : Nat} {f : Nat → Nat} (h : ∀ l, l < N → f l ≤ 9) : cP N f 10 = N := fb_ct_all.mpr (fun k hk => decide_eq_true (by have := h k hk; omega))
theorem cP_0 (N : Nat) (f : Nat → Nat) : cP N f 0 = 0 := fb_ct_zero.mpr (fun k _ => decide_eq_false (Nat.not_lt_zero _))
theorem cP_le (N : Nat) (f : Nat → Nat) (p : Nat) : cP N f p ≤ N := fb_ct_le _ N
theorem stp_loom {I J : MI} {c : Nat} {t : Tp} {s : St} {l d x : Nat} (h : stp I c t s) (hn : tN t ≤ 6) (hl : l < tN t) (fr : ∀ j, j ≠ 6 + l → j ≠ 12 + l → J c j = I c j) (e1 : J c (6 + l) = nI d) (e2 : J c (12 + l) = nI x) : stp J c t (setL s l (sP s l) d x (sH s l)) := by
  obtain ⟨h0, h1, h2, h3, h4, h5⟩ := h
  refine ⟨fun k hk => ?_, fun k hk => ?_, fun k hk => ?_, fun k hk => ?_, (fr _ (by omega) (by omega)).trans h4, (fr _ (by omega) (by omega)).trans h5⟩
  · rw [setL_P, nup_self, fr _ (by omega) (by omega)]; exact h0 k hk
  · rw [setL_D]
    by_cases e : k = l
    · subst e; rw [nup_s]; exact e1
    · rw [nup_n e, fr _ (by omega) (by omega)]; exact h1 k hk
  · rw [setL_X]
    by_cases e : k = l
    · subst e; rw [nup_s]; exact e2
    · rw [nup_n e, fr _ (by omega) (by omega)]; exact h2 k hk
  · rw [setL_H, nup_self, fr _ (by omega) (by omega)]; exact h3 k hk
theorem all_y {t : Tp} {c m runs : Nat} {s : St} {l : Nat} (h : tK t l = 2) : sD s l + setl (tK t l) c m + 0 = allG t c m runs s l := by unfold allG; rw [if_pos h]
theorem all_n {t : Tp} {c m runs : Nat} {s : St} {l : Nat} (h : ¬ tK t l = 2) : sD s l + setl (tK t l) c m + runs = allG t c m runs s l := by unfold allG; rw [if_neg h]
def drI (runs : Nat) (v : Int32) : Int32 := if 0 < runs then v else -4
set_option maxHeartbeats 4000000 in
theorem l_pass_in {r : Ev} {n : Nat} {Q : MQ2} {F : Post} {I : MI} (a : Nat) (hb : MdB n Q a) (t : Tp) (g : Nt) (ho : tdp I (a + 2) t g) (ht : okT t) (cc0 mm : Nat) (hc : cc0 ≤ 9) (hm : mm ≤ 1) (s : St) (hs : stp I (a + 5) t s) (l runs p : Nat) (v4 : Int32) (hl : l < tN t) (hr : runs ≤ 1000) (hD : sD s l ≤ 3 * tT t l) (w7 w8 : Option Value) (hx : ∀ (J : MI) (w7 w8 : Option Value), FrS I J (fun x j => (x = a + 9 ∧ j = l) ∨ x = a + 5) → J (a + 9) l = drI runs v4 → stp J (a + 5) t (gstep t cc0 mm (runs, s, fun _ => 0) l).2.1 → X r 2 yX9_passes cX9_passes (9, none) (0, 0) 297 [some (.ref (evz r + a)), some (.int (nI (cc0))), some (.int (nI (mm))), some (.int (nI (((gstep t cc0 mm (runs, s, fun _ => 0) l).1)))), some (.int (nI l)), some (.int (nI (p))), some (.int (nI (l))), w7, w8] [] n J Q F) : X r 2 yX9_passes cX9_passes (9, none) (0, 0) 69 [some (.ref (evz r + a)), some (.int (nI (cc0))), some (.int (nI (mm))), some (.int (nI (runs))), some (.int v4), some (.int (nI (p))), some (.int (nI (l))), w7, w8] [] n I Q F := by
  obtain ⟨b0, bT, bO, bD, bB, bS, bP, bM, bN, bR, bH, qT, qO, qD, qB, qS, qP, qM, qN, qR, qH⟩ := id hb
  have hn6 := ht.1
  have hkl := (ht.2 l hl).1
  have hsl := setl_le (k := tK t l) (m := mm) hc
  have htl := (ht.2 l hl).2
  refine x_aload_0 dX9_passes_69 ?_
  refine x_getr dX9_passes_70 f_X9_34 (by assumption) qR ?_
  refine x_iload_6 dX9_passes_73 ?_
  refine x_iload_3 dX9_passes_75 ?_
  refine x_if_leN dX9_passes_76 (by omega) (fun c76 => ?_) (fun c76 => ?_)
  · refine x_bipush (v := -4) dX9_passes_84 (by decide) ?_
    refine x_iastA dX9_passes_86 (by assumption) rfl (by omega) (fun J86 fr86 e86 => ?_)
    refine x_aload_0 dX9_passes_87 ?_
    refine x_getr dX9_passes_88 f_X9_13 (by assumption) qO ?_
    refine x_const (c := 5) dX9_passes_91 rfl ?_
    refine x_iload_6 dX9_passes_92 ?_
    refine x_iaddN dX9_passes_94 ?_
    refine x_ialdV dX9_passes_95 (by assumption) rfl (by omega) ((fr86 _ _ (by omega)).trans (ho.2.2.2.2.2.1 l hl)) ?_
    refine x_const (c := 2) dX9_passes_96 rfl ?_
    refine x_icmp_neN dX9_passes_97 (by omega) (by omega) (fun c97 => ?_) (fun c97 => ?_)
    · have c97 : ¬ tK t l = 2 := by omega
      refine x_const (c := 0) dX9_passes_104 rfl ?_
      refine x_istore_7 dX9_passes_105 rfl rfl ?_
      refine x_aload_0 dX9_passes_107 ?_
      refine x_getr dX9_passes_108 f_X9_22 (by assumption) qS ?_
      refine x_bip (c := 12) dX9_passes_111 (by decide) ?_
      refine x_iload_6 dX9_passes_113 ?_
      refine x_iaddN dX9_passes_115 ?_
      refine x_dup2 dX9_passes_116 ?_
      refine x_ialdV dX9_passes_117 (by assumption) rfl (by omega) ((fr86 _ _ (by omega)).trans (hs.2.2.1 l hl)) ?_
      refine x_iload_7 dX9_passes_118 ?_
      refine x_if_eqN dX9_passes_120 (by omega) (fun c120 => ?_) (fun c120 => ?_)
      · refine x_const (c := 0) dX9_passes_127 rfl ?_
        refine x_iaddN dX9_passes_128 ?_
        refine x_iastA dX9_passes_129 (by assumption) rfl (by omega) (fun J129 fr129 e129 => ?_)
        have e86_p129 := (fr129 (a + 9) (l) (by omega)).trans e86
        refine x_aload_0 dX9_passes_130 ?_
        refine x_getr dX9_passes_131 f_X9_22 (by assumption) qS ?_
        refine x_bip (c := 6) dX9_passes_134 (by decide) ?_
        refine x_iload_6 dX9_passes_136 ?_
        refine x_iaddN dX9_passes_138 ?_
        refine x_ialdV dX9_passes_139 (by assumption) rfl (by omega) ((fr129 _ _ (by omega)).trans ((fr86 _ _ (by omega)).trans (hs.2.1 l hl))) ?_
        refine x_aload_0 dX9_passes_140 ?_
        refine x_iload_6 dX9_passes_141 ?_
        refine x_iload_1 dX9_passes_143 ?_
        refine x_iload_2 dX9_passes_144 ?_
        refine x_V3i dX9_passes_145 m_X9_115 (c_X9_settles a hb t g (tdp_fr ho (fun j => (fr129 _ _ (by omega)).trans (fr86 _ _ (by omega)))) hn6 l cc0 mm hl hkl hc hm) (by assumption) (fun x145 I145 h145 => ?_)
        obtain ⟨rfl, rfl⟩ := h145
        refine x_iaddN dX9_passes_148 ?_
        refine x_iload_7 dX9_passes_149 ?_
        refine x_if_eqN dX9_passes_151 (by omega) (fun c151 => ?_) (fun c151 => ?_)
        · refine x_iload_3 dX9_passes_158 ?_
          refine x_iaddN dX9_passes_159 ?_
          first | rw [all_y (runs := runs) c97] | rw [all_n (runs := runs) c97]
          refine x_istore_8 dX9_passes_160 rfl rfl ?_
          have hall : allG t cc0 mm runs s l ≤ 2000 := by unfold allG; split <;> omega
          refine x_aload_0 dX9_passes_162 ?_
          refine x_getr dX9_passes_163 f_X9_22 (by assumption) qS ?_
          refine x_bip (c := 6) dX9_passes_166 (by decide) ?_
          refine x_iload_6 dX9_passes_168 ?_
          refine x_iaddN dX9_passes_170 ?_
          refine x_iload_8 dX9_passes_171 ?_
          refine x_aload_0 dX9_passes_173 ?_
          refine x_iload_6 dX9_passes_174 ?_
          refine x_V1i dX9_passes_176 m_X9_118 (c_X9_holds a hb t g (tdp_fr ho (fun j => (fr129 _ _ (by omega)).trans (fr86 _ _ (by omega)))) hn6 l hl) (by assumption) (fun x176 I176 h176 => ?_)
          obtain ⟨rfl, rfl⟩ := h176
          refine x_icmp_leN dX9_passes_179 (by omega) (by omega) (fun c179 => ?_) (fun c179 => ?_)
          · refine x_iload_8 dX9_passes_191 ?_
            refine x_iastA dX9_passes_193 (by assumption) rfl (by omega) (fun J193 fr193 e193 => ?_)
            have e86_p193 := (fr193 (a + 9) (l) (by omega)).trans e86_p129
            have e129_p193 := (fr193 (a + 5) (12 + l) (by omega)).trans e129
            have e193b : _ = nI (min (allG t cc0 mm runs s l) (3 * tT t l)) := e193.trans (by congr 1; omega)
            refine x_iload_8 dX9_passes_194 ?_
            refine x_aload_0 dX9_passes_196 ?_
            refine x_getr dX9_passes_197 f_X9_22 (by assumption) qS ?_
            refine x_bip (c := 6) dX9_passes_200 (by decide) ?_
            refine x_iload_6 dX9_passes_202 ?_
            refine x_iaddN dX9_passes_204 ?_
            refine x_ialdV dX9_passes_205 (by assumption) rfl (by omega) e193b ?_
            refine x_isubN dX9_passes_206 (by omega) ?_
            refine x_istore_3 dX9_passes_207 rfl rfl ?_
            refine x_iload_6 dX9_passes_208 ?_
            refine x_istore_4 dX9_passes_210 rfl rfl ?_
            refine x_goto dX9_passes_212 ?_
            refine hx _ _ _ (fun x j hx => (fr193 _ _ (by omega)).trans ((fr129 _ _ (by omega)).trans (fr86 _ _ (by omega)))) ((fr193 _ _ (by omega)).trans ((fr129 _ _ (by omega)).trans (e86.trans (by unfold drI; first | rw [if_pos (by omega)] | rw [if_neg (by omega)])))) (stp_loom hs hn6 hl (fun j h1 h2 => (fr193 _ _ (by omega)).trans ((fr129 _ _ (by omega)).trans (fr86 _ _ (by omega)))) e193b ((fr193 _ _ (by omega)).trans (e129.trans ?_)))
            show _ = nI (if tK t l = 2 then sX s l + runs else sX s l)
            first | rw [if_pos c97] | (rw [if_neg c97]; congr 1)
          · refine x_aload_0 dX9_passes_182 ?_
            refine x_iload_6 dX9_passes_183 ?_
            refine x_V1i dX9_passes_185 m_X9_118 (c_X9_holds a hb t g (tdp_fr ho (fun j => (fr129 _ _ (by omega)).trans (fr86 _ _ (by omega)))) hn6 l hl) (by assumption) (fun x185 I185 h185 => ?_)
            obtain ⟨rfl, rfl⟩ := h185
            refine x_goto dX9_passes_188 ?_
            refine x_iastA dX9_passes_193 (by assumption) rfl (by omega) (fun J193 fr193 e193 => ?_)
            have e86_p193 := (fr193 (a + 9) (l) (by omega)).trans e86_p129
            have e129_p193 := (fr193 (a + 5) (12 + l) (by omega)).trans e129
            have e193b : _ = nI (min (allG t cc0 mm runs s l) (3 * tT t l)) := e193.trans (by congr 1; omega)
            refine x_iload_8 dX9_passes_194 ?_
            refine x_aload_0 dX9_passes_196 ?_
            refine x_getr dX9_passes_197 f_X9_22 (by assumption) qS ?_
            refine x_bip (c := 6) dX9_passes_200 (by decide) ?_
            refine x_iload_6 dX9_passes_202 ?_
            refine x_iaddN dX9_passes_204 ?_
            refine x_ialdV dX9_passes_205 (by assumption) rfl (by omega) e193b ?_
            refine x_isubN dX9_passes_206 (by omega) ?_
            refine x_istore_3 dX9_passes_207 rfl rfl ?_
            refine x_iload_6 dX9_passes_208 ?_
            refine x_istore_4 dX9_passes_210 rfl rfl ?_
            refine x_goto dX9_passes_212 ?_
            refine hx _ _ _ (fun x j hx => (fr193 _ _ (by omega)).trans ((fr129 _ _ (by omega)).trans (fr86 _ _ (by omega)))) ((fr193 _ _ (by omega)).trans ((fr129 _ _ (by omega)).trans (e86.trans (by unfold drI; first | rw [if_pos (by omega)] | rw [if_neg (by omega)])))) (stp_loom hs hn6 hl (fun j h1 h2 => (fr193 _ _ (by omega)).trans ((fr129 _ _ (by omega)).trans (fr86 _ _ (by omega)))) e193b ((fr193 _ _ (by omega)).trans (e129.trans ?_)))
            show _ = nI (if tK t l = 2 then sX s l + runs else sX s l)
            first | rw [if_pos c97] | (rw [if_neg c97]; congr 1)
        · exfalso; omega
      · exfalso; omega
    · have c97 : tK t l = 2 := by omega
      refine x_const (c := 1) dX9_passes_100 rfl ?_
      refine x_goto dX9_passes_101 ?_
      refine x_istore_7 dX9_passes_105 rfl rfl ?_
      refine x_aload_0 dX9_passes_107 ?_
      refine x_getr dX9_passes_108 f_X9_22 (by assumption) qS ?_
      refine x_bip (c := 12) dX9_passes_111 (by decide) ?_
      refine x_iload_6 dX9_passes_113 ?_
      refine x_iaddN dX9_passes_115 ?_
      refine x_dup2 dX9_passes_116 ?_
      refine x_ialdV dX9_passes_117 (by assumption) rfl (by omega) ((fr86 _ _ (by omega)).trans (hs.2.2.1 l hl)) ?_
      refine x_iload_7 dX9_passes_118 ?_
      refine x_if_eqN dX9_passes_120 (by omega) (fun c120 => ?_) (fun c120 => ?_)
      · exfalso; omega
      · refine x_iload_3 dX9_passes_123 ?_
        refine x_goto dX9_passes_124 ?_
        refine x_iaddN dX9_passes_128 ?_
        refine x_iastA dX9_passes_129 (by assumption) rfl (by omega) (fun J129 fr129 e129 => ?_)
        have e86_p129 := (fr129 (a + 9) (l) (by omega)).trans e86
        refine x_aload_0 dX9_passes_130 ?_
        refine x_getr dX9_passes_131 f_X9_22 (by assumption) qS ?_
        refine x_bip (c := 6) dX9_passes_134 (by decide) ?_
        refine x_iload_6 dX9_passes_136 ?_
        refine x_iaddN dX9_passes_138 ?_
        refine x_ialdV dX9_passes_139 (by assumption) rfl (by omega) ((fr129 _ _ (by omega)).trans ((fr86 _ _ (by omega)).trans (hs.2.1 l hl))) ?_
        refine x_aload_0 dX9_passes_140 ?_
        refine x_iload_6 dX9_passes_141 ?_
        refine x_iload_1 dX9_passes_143 ?_
        refine x_iload_2 dX9_passes_144 ?_
        refine x_V3i dX9_passes_145 m_X9_115 (c_X9_settles a hb t g (tdp_fr ho (fun j => (fr129 _ _ (by omega)).trans (fr86 _ _ (by omega)))) hn6 l cc0 mm hl hkl hc hm) (by assumption) (fun x145 I145 h145 => ?_)
        obtain ⟨rfl, rfl⟩ := h145
        refine x_iaddN dX9_passes_148 ?_
        refine x_iload_7 dX9_passes_149 ?_
        refine x_if_eqN dX9_passes_151 (by omega) (fun c151 => ?_) (fun c151 => ?_)
        · exfalso; omega
        · refine x_const (c := 0) dX9_passes_154 rfl ?_
          refine x_goto dX9_passes_155 ?_
          refine x_iaddN dX9_passes_159 ?_
          first | rw [all_y (runs := runs) c97] | rw [all_n (runs := runs) c97]
          refine x_istore_8 dX9_passes_160 rfl rfl ?_
          have hall : allG t cc0 mm runs s l ≤ 2000 := by unfold allG; split <;> omega
          refine x_aload_0 dX9_passes_162 ?_
          refine x_getr dX9_passes_163 f_X9_22 (by assumption) qS ?_
          refine x_bip (c := 6) dX9_passes_166 (by decide) ?_
          refine x_iload_6 dX9_passes_168 ?_
          refine x_iaddN dX9_passes_170 ?_
          refine x_iload_8 dX9_passes_171 ?_
          refine x_aload_0 dX9_passes_173 ?_
          refine x_iload_6 dX9_passes_174 ?_
          refine x_V1i dX9_passes_176 m_X9_118 (c_X9_holds a hb t g (tdp_fr ho (fun j => (fr129 _ _ (by omega)).trans (fr86 _ _ (by omega)))) hn6 l hl) (by assumption) (fun x176 I176 h176 => ?_)
          obtain ⟨rfl, rfl⟩ := h176
          refine x_icmp_leN dX9_passes_179 (by omega) (by omega) (fun c179 => ?_) (fun c179 => ?_)
          · refine x_iload_8 dX9_passes_191 ?_
            refine x_iastA dX9_passes_193 (by assumption) rfl (by omega) (fun J193 fr193 e193 => ?_)
            have e86_p193 := (fr193 (a + 9) (l) (by omega)).trans e86_p129
            have e129_p193 := (fr193 (a + 5) (12 + l) (by omega)).trans e129
            have e193b : _ = nI (min (allG t cc0 mm runs s l) (3 * tT t l)) := e193.trans (by congr 1; omega)
            refine x_iload_8 dX9_passes_194 ?_
            refine x_aload_0 dX9_passes_196 ?_
            refine x_getr dX9_passes_197 f_X9_22 (by assumption) qS ?_
            refine x_bip (c := 6) dX9_passes_200 (by decide) ?_
            refine x_iload_6 dX9_passes_202 ?_
            refine x_iaddN dX9_passes_204 ?_
            refine x_ialdV dX9_passes_205 (by assumption) rfl (by omega) e193b ?_
            refine x_isubN dX9_passes_206 (by omega) ?_
            refine x_istore_3 dX9_passes_207 rfl rfl ?_
            refine x_iload_6 dX9_passes_208 ?_
            refine x_istore_4 dX9_passes_210 rfl rfl ?_
            refine x_goto dX9_passes_212 ?_
            refine hx _ _ _ (fun x j hx => (fr193 _ _ (by omega)).trans ((fr129 _ _ (by omega)).trans (fr86 _ _ (by omega)))) ((fr193 _ _ (by omega)).trans ((fr129 _ _ (by omega)).trans (e86.trans (by unfold drI; first | rw [if_pos (by omega)] | rw [if_neg (by omega)])))) (stp_loom hs hn6 hl (fun j h1 h2 => (fr193 _ _ (by omega)).trans ((fr129 _ _ (by omega)).trans (fr86 _ _ (by omega)))) e193b ((fr193 _ _ (by omega)).trans (e129.trans ?_)))
            show _ = nI (if tK t l = 2 then sX s l + runs else sX s l)
            first | rw [if_pos c97] | (rw [if_neg c97]; congr 1)
          · refine x_aload_0 dX9_passes_182 ?_
            refine x_iload_6 dX9_passes_183 ?_
            refine x_V1i dX9_passes_185 m_X9_118 (c_X9_holds a hb t g (tdp_fr ho (fun j => (fr129 _ _ (by omega)).trans (fr86 _ _ (by omega)))) hn6 l hl) (by assumption) (fun x185 I185 h185 => ?_)
            obtain ⟨rfl, rfl⟩ := h185
            refine x_goto dX9_passes_188 ?_
            refine x_iastA dX9_passes_193 (by assumption) rfl (by omega) (fun J193 fr193 e193 => ?_)
            have e86_p193 := (fr193 (a + 9) (l) (by omega)).trans e86_p129
            have e129_p193 := (fr193 (a + 5) (12 + l) (by omega)).trans e129
            have e193b : _ = nI (min (allG t cc0 mm runs s l) (3 * tT t l)) := e193.trans (by congr 1; omega)
            refine x_iload_8 dX9_passes_194 ?_
            refine x_aload_0 dX9_passes_196 ?_
            refine x_getr dX9_passes_197 f_X9_22 (by assumption) qS ?_
            refine x_bip (c := 6) dX9_passes_200 (by decide) ?_
            refine x_iload_6 dX9_passes_202 ?_
            refine x_iaddN dX9_passes_204 ?_
            refine x_ialdV dX9_passes_205 (by assumption) rfl (by omega) e193b ?_
            refine x_isubN dX9_passes_206 (by omega) ?_
            refine x_istore_3 dX9_passes_207 rfl rfl ?_
            refine x_iload_6 dX9_passes_208 ?_
            refine x_istore_4 dX9_passes_210 rfl rfl ?_
            refine x_goto dX9_passes_212 ?_
            refine hx _ _ _ (fun x j hx => (fr193 _ _ (by omega)).trans ((fr129 _ _ (by omega)).trans (fr86 _ _ (by omega)))) ((fr193 _ _ (by omega)).trans ((fr129 _ _ (by omega)).trans (e86.trans (by unfold drI; first | rw [if_pos (by omega)] | rw [if_neg (by omega)])))) (stp_loom hs hn6 hl (fun j h1 h2 => (fr193 _ _ (by omega)).trans ((fr129 _ _ (by omega)).trans (fr86 _ _ (by omega)))) e193b ((fr193 _ _ (by omega)).trans (e129.trans ?_)))
            show _ = nI (if tK t l = 2 then sX s l + runs else sX s l)
            first | rw [if_pos c97] | (rw [if_neg c97]; congr 1)
  · refine x_iload_4 dX9_passes_79 ?_
    refine x_goto dX9_passes_81 ?_
    refine x_iastA dX9_passes_86 (by assumption) rfl (by omega) (fun J86 fr86 e86 => ?_)
    refine x_aload_0 dX9_passes_87 ?_
    refine x_getr dX9_passes_88 f_X9_13 (by assumption) qO ?_
    refine x_const (c := 5) dX9_passes_91 rfl ?_
    refine x_iload_6 dX9_passes_92 ?_
    refine x_iaddN dX9_passes_94 ?_
    refine x_ialdV dX9_passes_95 (by assumption) rfl (by omega) ((fr86 _ _ (by omega)).trans (ho.2.2.2.2.2.1 l hl)) ?_
    refine x_const (c := 2) dX9_passes_96 rfl ?_
    refine x_icmp_neN dX9_passes_97 (by omega) (by omega) (fun c97 => ?_) (fun c97 => ?_)
    · have c97 : ¬ tK t l = 2 := by omega
      refine x_const (c := 0) dX9_passes_104 rfl ?_
      refine x_istore_7 dX9_passes_105 rfl rfl ?_
      refine x_aload_0 dX9_passes_107 ?_
      refine x_getr dX9_passes_108 f_X9_22 (by assumption) qS ?_
      refine x_bip (c := 12) dX9_passes_111 (by decide) ?_
      refine x_iload_6 dX9_passes_113 ?_
      refine x_iaddN dX9_passes_115 ?_
      refine x_dup2 dX9_passes_116 ?_
      refine x_ialdV dX9_passes_117 (by assumption) rfl (by omega) ((fr86 _ _ (by omega)).trans (hs.2.2.1 l hl)) ?_
      refine x_iload_7 dX9_passes_118 ?_
      refine x_if_eqN dX9_passes_120 (by omega) (fun c120 => ?_) (fun c120 => ?_)
      · refine x_const (c := 0) dX9_passes_127 rfl ?_
        refine x_iaddN dX9_passes_128 ?_
        refine x_iastA dX9_passes_129 (by assumption) rfl (by omega) (fun J129 fr129 e129 => ?_)
        have e86_p129 := (fr129 (a + 9) (l) (by omega)).trans e86
        refine x_aload_0 dX9_passes_130 ?_
        refine x_getr dX9_passes_131 f_X9_22 (by assumption) qS ?_
        refine x_bip (c := 6) dX9_passes_134 (by decide) ?_
        refine x_iload_6 dX9_passes_136 ?_
        refine x_iaddN dX9_passes_138 ?_
        refine x_ialdV dX9_passes_139 (by assumption) rfl (by omega) ((fr129 _ _ (by omega)).trans ((fr86 _ _ (by omega)).trans (hs.2.1 l hl))) ?_
        refine x_aload_0 dX9_passes_140 ?_
        refine x_iload_6 dX9_passes_141 ?_
        refine x_iload_1 dX9_passes_143 ?_
        refine x_iload_2 dX9_passes_144 ?_
        refine x_V3i dX9_passes_145 m_X9_115 (c_X9_settles a hb t g (tdp_fr ho (fun j => (fr129 _ _ (by omega)).trans (fr86 _ _ (by omega)))) hn6 l cc0 mm hl hkl hc hm) (by assumption) (fun x145 I145 h145 => ?_)
        obtain ⟨rfl, rfl⟩ := h145
        refine x_iaddN dX9_passes_148 ?_
        refine x_iload_7 dX9_passes_149 ?_
        refine x_if_eqN dX9_passes_151 (by omega) (fun c151 => ?_) (fun c151 => ?_)
        · refine x_iload_3 dX9_passes_158 ?_
          refine x_iaddN dX9_passes_159 ?_
          first | rw [all_y (runs := runs) c97] | rw [all_n (runs := runs) c97]
          refine x_istore_8 dX9_passes_160 rfl rfl ?_
          have hall : allG t cc0 mm runs s l ≤ 2000 := by unfold allG; split <;> omega
          refine x_aload_0 dX9_passes_162 ?_
          refine x_getr dX9_passes_163 f_X9_22 (by assumption) qS ?_
          refine x_bip (c := 6) dX9_passes_166 (by decide) ?_
          refine x_iload_6 dX9_passes_168 ?_
          refine x_iaddN dX9_passes_170 ?_
          refine x_iload_8 dX9_passes_171 ?_
          refine x_aload_0 dX9_passes_173 ?_
          refine x_iload_6 dX9_passes_174 ?_
          refine x_V1i dX9_passes_176 m_X9_118 (c_X9_holds a hb t g (tdp_fr ho (fun j => (fr129 _ _ (by omega)).trans (fr86 _ _ (by omega)))) hn6 l hl) (by assumption) (fun x176 I176 h176 => ?_)
          obtain ⟨rfl, rfl⟩ := h176
          refine x_icmp_leN dX9_passes_179 (by omega) (by omega) (fun c179 => ?_) (fun c179 => ?_)
          · refine x_iload_8 dX9_passes_191 ?_
            refine x_iastA dX9_passes_193 (by assumption) rfl (by omega) (fun J193 fr193 e193 => ?_)
            have e86_p193 := (fr193 (a + 9) (l) (by omega)).trans e86_p129
            have e129_p193 := (fr193 (a + 5) (12 + l) (by omega)).trans e129
            have e193b : _ = nI (min (allG t cc0 mm runs s l) (3 * tT t l)) := e193.trans (by congr 1; omega)
            refine x_iload_8 dX9_passes_194 ?_
            refine x_aload_0 dX9_passes_196 ?_
            refine x_getr dX9_passes_197 f_X9_22 (by assumption) qS ?_
            refine x_bip (c := 6) dX9_passes_200 (by decide) ?_
            refine x_iload_6 dX9_passes_202 ?_
            refine x_iaddN dX9_passes_204 ?_
            refine x_ialdV dX9_passes_205 (by assumption) rfl (by omega) e193b ?_
            refine x_isubN dX9_passes_206 (by omega) ?_
            refine x_istore_3 dX9_passes_207 rfl rfl ?_
            refine x_iload_6 dX9_passes_208 ?_
            refine x_istore_4 dX9_passes_210 rfl rfl ?_
            refine x_goto dX9_passes_212 ?_
            refine hx _ _ _ (fun x j hx => (fr193 _ _ (by omega)).trans ((fr129 _ _ (by omega)).trans (fr86 _ _ (by omega)))) ((fr193 _ _ (by omega)).trans ((fr129 _ _ (by omega)).trans (e86.trans (by unfold drI; first | rw [if_pos (by omega)] | rw [if_neg (by omega)])))) (stp_loom hs hn6 hl (fun j h1 h2 => (fr193 _ _ (by omega)).trans ((fr129 _ _ (by omega)).trans (fr86 _ _ (by omega)))) e193b ((fr193 _ _ (by omega)).trans (e129.trans ?_)))
            show _ = nI (if tK t l = 2 then sX s l + runs else sX s l)
            first | rw [if_pos c97] | (rw [if_neg c97]; congr 1)
          · refine x_aload_0 dX9_passes_182 ?_
            refine x_iload_6 dX9_passes_183 ?_
            refine x_V1i dX9_passes_185 m_X9_118 (c_X9_holds a hb t g (tdp_fr ho (fun j => (fr129 _ _ (by omega)).trans (fr86 _ _ (by omega)))) hn6 l hl) (by assumption) (fun x185 I185 h185 => ?_)
            obtain ⟨rfl, rfl⟩ := h185
            refine x_goto dX9_passes_188 ?_
            refine x_iastA dX9_passes_193 (by assumption) rfl (by omega) (fun J193 fr193 e193 => ?_)
            have e86_p193 := (fr193 (a + 9) (l) (by omega)).trans e86_p129
            have e129_p193 := (fr193 (a + 5) (12 + l) (by omega)).trans e129
            have e193b : _ = nI (min (allG t cc0 mm runs s l) (3 * tT t l)) := e193.trans (by congr 1; omega)
            refine x_iload_8 dX9_passes_194 ?_
            refine x_aload_0 dX9_passes_196 ?_
            refine x_getr dX9_passes_197 f_X9_22 (by assumption) qS ?_
            refine x_bip (c := 6) dX9_passes_200 (by decide) ?_
            refine x_iload_6 dX9_passes_202 ?_
            refine x_iaddN dX9_passes_204 ?_
            refine x_ialdV dX9_passes_205 (by assumption) rfl (by omega) e193b ?_
            refine x_isubN dX9_passes_206 (by omega) ?_
            refine x_istore_3 dX9_passes_207 rfl rfl ?_
            refine x_iload_6 dX9_passes_208 ?_
            refine x_istore_4 dX9_passes_210 rfl rfl ?_
            refine x_goto dX9_passes_212 ?_
            refine hx _ _ _ (fun x j hx => (fr193 _ _ (by omega)).trans ((fr129 _ _ (by omega)).trans (fr86 _ _ (by omega)))) ((fr193 _ _ (by omega)).trans ((fr129 _ _ (by omega)).trans (e86.trans (by unfold drI; first | rw [if_pos (by omega)] | rw [if_neg (by omega)])))) (stp_loom hs hn6 hl (fun j h1 h2 => (fr193 _ _ (by omega)).trans ((fr129 _ _ (by omega)).trans (fr86 _ _ (by omega)))) e193b ((fr193 _ _ (by omega)).trans (e129.trans ?_)))
            show _ = nI (if tK t l = 2 then sX s l + runs else sX s l)
            first | rw [if_pos c97] | (rw [if_neg c97]; congr 1)
        · exfalso; omega
      · exfalso; omega
    · have c97 : tK t l = 2 := by omega
      refine x_const (c := 1) dX9_passes_100 rfl ?_
      refine x_goto dX9_passes_101 ?_
      refine x_istore_7 dX9_passes_105 rfl rfl ?_
      refine x_aload_0 dX9_passes_107 ?_
      refine x_getr dX9_passes_108 f_X9_22 (by assumption) qS ?_
      refine x_bip (c := 12) dX9_passes_111 (by decide) ?_
      refine x_iload_6 dX9_passes_113 ?_
      refine x_iaddN dX9_passes_115 ?_
      refine x_dup2 dX9_passes_116 ?_
      refine x_ialdV dX9_passes_117 (by assumption) rfl (by omega) ((fr86 _ _ (by omega)).trans (hs.2.2.1 l hl)) ?_
      refine x_iload_7 dX9_passes_118 ?_
      refine x_if_eqN dX9_passes_120 (by omega) (fun c120 => ?_) (fun c120 => ?_)
      · exfalso; omega
      · refine x_iload_3 dX9_passes_123 ?_
        refine x_goto dX9_passes_124 ?_
        refine x_iaddN dX9_passes_128 ?_
        refine x_iastA dX9_passes_129 (by assumption) rfl (by omega) (fun J129 fr129 e129 => ?_)
        have e86_p129 := (fr129 (a + 9) (l) (by omega)).trans e86
        refine x_aload_0 dX9_passes_130 ?_
        refine x_getr dX9_passes_131 f_X9_22 (by assumption) qS ?_
        refine x_bip (c := 6) dX9_passes_134 (by decide) ?_
        refine x_iload_6 dX9_passes_136 ?_
        refine x_iaddN dX9_passes_138 ?_
        refine x_ialdV dX9_passes_139 (by assumption) rfl (by omega) ((fr129 _ _ (by omega)).trans ((fr86 _ _ (by omega)).trans (hs.2.1 l hl))) ?_
        refine x_aload_0 dX9_passes_140 ?_
        refine x_iload_6 dX9_passes_141 ?_
        refine x_iload_1 dX9_passes_143 ?_
        refine x_iload_2 dX9_passes_144 ?_
        refine x_V3i dX9_passes_145 m_X9_115 (c_X9_settles a hb t g (tdp_fr ho (fun j => (fr129 _ _ (by omega)).trans (fr86 _ _ (by omega)))) hn6 l cc0 mm hl hkl hc hm) (by assumption) (fun x145 I145 h145 => ?_)
        obtain ⟨rfl, rfl⟩ := h145
        refine x_iaddN dX9_passes_148 ?_
        refine x_iload_7 dX9_passes_149 ?_
        refine x_if_eqN dX9_passes_151 (by omega) (fun c151 => ?_) (fun c151 => ?_)
        · exfalso; omega
        · refine x_const (c := 0) dX9_passes_154 rfl ?_
          refine x_goto dX9_passes_155 ?_
          refine x_iaddN dX9_passes_159 ?_
          first | rw [all_y (runs := runs) c97] | rw [all_n (runs := runs) c97]
          refine x_istore_8 dX9_passes_160 rfl rfl ?_
          have hall : allG t cc0 mm runs s l ≤ 2000 := by unfold allG; split <;> omega
          refine x_aload_0 dX9_passes_162 ?_
          refine x_getr dX9_passes_163 f_X9_22 (by assumption) qS ?_
          refine x_bip (c := 6) dX9_passes_166 (by decide) ?_
          refine x_iload_6 dX9_passes_168 ?_
          refine x_iaddN dX9_passes_170 ?_
          refine x_iload_8 dX9_passes_171 ?_
          refine x_aload_0 dX9_passes_173 ?_
          refine x_iload_6 dX9_passes_174 ?_
          refine x_V1i dX9_passes_176 m_X9_118 (c_X9_holds a hb t g (tdp_fr ho (fun j => (fr129 _ _ (by omega)).trans (fr86 _ _ (by omega)))) hn6 l hl) (by assumption) (fun x176 I176 h176 => ?_)
          obtain ⟨rfl, rfl⟩ := h176
          refine x_icmp_leN dX9_passes_179 (by omega) (by omega) (fun c179 => ?_) (fun c179 => ?_)
          · refine x_iload_8 dX9_passes_191 ?_
            refine x_iastA dX9_passes_193 (by assumption) rfl (by omega) (fun J193 fr193 e193 => ?_)
            have e86_p193 := (fr193 (a + 9) (l) (by omega)).trans e86_p129
            have e129_p193 := (fr193 (a + 5) (12 + l) (by omega)).trans e129
            have e193b : _ = nI (min (allG t cc0 mm runs s l) (3 * tT t l)) := e193.trans (by congr 1; omega)
            refine x_iload_8 dX9_passes_194 ?_
            refine x_aload_0 dX9_passes_196 ?_
            refine x_getr dX9_passes_197 f_X9_22 (by assumption) qS ?_
            refine x_bip (c := 6) dX9_passes_200 (by decide) ?_
            refine x_iload_6 dX9_passes_202 ?_
            refine x_iaddN dX9_passes_204 ?_
            refine x_ialdV dX9_passes_205 (by assumption) rfl (by omega) e193b ?_
            refine x_isubN dX9_passes_206 (by omega) ?_
            refine x_istore_3 dX9_passes_207 rfl rfl ?_
            refine x_iload_6 dX9_passes_208 ?_
            refine x_istore_4 dX9_passes_210 rfl rfl ?_
            refine x_goto dX9_passes_212 ?_
            refine hx _ _ _ (fun x j hx => (fr193 _ _ (by omega)).trans ((fr129 _ _ (by omega)).trans (fr86 _ _ (by omega)))) ((fr193 _ _ (by omega)).trans ((fr129 _ _ (by omega)).trans (e86.trans (by unfold drI; first | rw [if_pos (by omega)] | rw [if_neg (by omega)])))) (stp_loom hs hn6 hl (fun j h1 h2 => (fr193 _ _ (by omega)).trans ((fr129 _ _ (by omega)).trans (fr86 _ _ (by omega)))) e193b ((fr193 _ _ (by omega)).trans (e129.trans ?_)))
            show _ = nI (if tK t l = 2 then sX s l + runs else sX s l)
            first | rw [if_pos c97] | (rw [if_neg c97]; congr 1)
          · refine x_aload_0 dX9_passes_182 ?_
            refine x_iload_6 dX9_passes_183 ?_
            refine x_V1i dX9_passes_185 m_X9_118 (c_X9_holds a hb t g (tdp_fr ho (fun j => (fr129 _ _ (by omega)).trans (fr86 _ _ (by omega)))) hn6 l hl) (by assumption) (fun x185 I185 h185 => ?_)
            obtain ⟨rfl, rfl⟩ := h185
            refine x_goto dX9_passes_188 ?_
            refine x_iastA dX9_passes_193 (by assumption) rfl (by omega) (fun J193 fr193 e193 => ?_)
            have e86_p193 := (fr193 (a + 9) (l) (by omega)).trans e86_p129
            have e129_p193 := (fr193 (a + 5) (12 + l) (by omega)).trans e129
            have e193b : _ = nI (min (allG t cc0 mm runs s l) (3 * tT t l)) := e193.trans (by congr 1; omega)
            refine x_iload_8 dX9_passes_194 ?_
            refine x_aload_0 dX9_passes_196 ?_
            refine x_getr dX9_passes_197 f_X9_22 (by assumption) qS ?_
            refine x_bip (c := 6) dX9_passes_200 (by decide) ?_
            refine x_iload_6 dX9_passes_202 ?_
            refine x_iaddN dX9_passes_204 ?_
            refine x_ialdV dX9_passes_205 (by assumption) rfl (by omega) e193b ?_
            refine x_isubN dX9_passes_206 (by omega) ?_
            refine x_istore_3 dX9_passes_207 rfl rfl ?_
            refine x_iload_6 dX9_passes_208 ?_
            refine x_istore_4 dX9_passes_210 rfl rfl ?_
            refine x_goto dX9_passes_212 ?_
            refine hx _ _ _ (fun x j hx => (fr193 _ _ (by omega)).trans ((fr129 _ _ (by omega)).trans (fr86 _ _ (by omega)))) ((fr193 _ _ (by omega)).trans ((fr129 _ _ (by omega)).trans (e86.trans (by unfold drI; first | rw [if_pos (by omega)] | rw [if_neg (by omega)])))) (stp_loom hs hn6 hl (fun j h1 h2 => (fr193 _ _ (by omega)).trans ((fr129 _ _ (by omega)).trans (fr86 _ _ (by omega)))) e193b ((fr193 _ _ (by omega)).trans (e129.trans ?_)))
            show _ = nI (if tK t l = 2 then sX s l + runs else sX s l)
            first | rw [if_pos c97] | (rw [if_neg c97]; congr 1)
set_option maxHeartbeats 4000000 in
theorem l_pass_dr {r : Ev} {n : Nat} {Q : MQ2} {F : Post} {I0 : MI} (a : Nat) (hb : MdB n Q a) (x1 x2 : Int32) (w4 w5 w6 w7 w8 : Option Value) (hx : ∀ J, FrS I0 J (fun x _ => x = a + 9) → (∀ j, j < 6 → J (a + 9) j = -4) → X r 2 yX9_passes cX9_passes (9, none) (0, 0) 22 [some (.ref (evz r + a)), some (.int x1), some (.int x2), some (.int (nI 6)), w4, w5, w6, w7, w8] [] n J Q F) : ∀ (k : Nat) (i : Nat) (I : MI), i ≤ 6 → i + k = 6 + 1 → FrS I0 I (fun x _ => x = a + 9) → (∀ j, j < i → I (a + 9) j = -4) → X r 2 yX9_passes cX9_passes (9, none) (0, 0) 2 [some (.ref (evz r + a)), some (.int x1), some (.int x2), some (.int (nI i)), w4, w5, w6, w7, w8] [] n I Q F := by
  intro k
  induction k with
  | zero => intros; omega
  | succ k ih =>
    intro i I hi0 hi hfr hz
    obtain ⟨b0, bT, bO, bD, bB, bS, bP, bM, bN, bR, bH, qT, qO, qD, qB, qS, qP, qM, qN, qR, qH⟩ := id hb
    refine x_iload_3 dX9_passes_2 ?_
    refine x_bip (c := 6) dX9_passes_3 (by decide) ?_
    refine x_icmp_geN dX9_passes_5 (by omega) (by omega) (fun c5 => ?_) (fun c5 => ?_)
    · obtain rfl : i = 6 := (by omega)
      exact hx I hfr hz
    · refine x_aload_0 dX9_passes_8 ?_
      refine x_getr dX9_passes_9 f_X9_34 (by assumption) qR ?_
      refine x_iload_3 dX9_passes_12 ?_
      refine x_bipush (v := -4) dX9_passes_13 (by decide) ?_
      refine x_iastA dX9_passes_15 (by assumption) rfl (by omega) (fun J15 fr15 e15 => ?_)
      refine x_iinc_3 dX9_passes_16 (iinc1 _) rfl rfl ?_
      refine x_goto dX9_passes_19 ?_
      exact ih (i + 1) _ (by omega) (by omega) (fun x j hx => (fr15 x j (by omega)).trans (hfr x j hx)) (fun j hj => by
        by_cases e : j = i
        · subst e; exact e15
        · exact (fr15 _ _ (by omega)).trans (hz j (by omega)))
def abv (N : Nat) (p : Nat → Nat) (i : Nat) : Int32 := if i = 0 then -4 else nI (ordO N p (i - 1))
/-- who drips on the loom that stands at the i-th place from above -/
def drG (t : Tp) (c m : Nat) (s : St) (i : Nat) : Int32 := drI (gth t c m (ordO (tN t) (sP s)) s i).1 (abv (tN t) (sP s) i)
theorem abv_s {N : Nat} {p : Nat → Nat} {i l : Nat} (h : ordO N p i = l) : nI l = abv N p (i + 1) := by unfold abv; rw [if_neg (Nat.succ_ne_zero i), Nat.add_sub_cancel, h]
set_option maxHeartbeats 4000000 in
theorem l_pass_A {r : Ev} {n : Nat} {Q : MQ2} {F : Post} {I0 : MI} (a : Nat) (hb : MdB n Q a) (t : Tp) (g : Nt) (ho0 : tdp I0 (a + 2) t g) (ht : okT t) (cc0 mm : Nat) (hc : cc0 ≤ 9) (hm : mm ≤ 1) (s : St) (hk : okS t s) (hsun : sR s < nS g) (hR : sR s ≤ 10000) (hS : nS g ≤ 1000) (hx : ∀ (J : MI) (w6 w7 w8 : Option Value), FrS I0 J (fun x _ => x = a + 9 ∨ x = a + 5) → stp J (a + 5) t (gth t cc0 mm (ordO (tN t) (sP s)) s (tN t)).2.1 → (∀ l, l < tN t → J (a + 9) l = drG t cc0 mm s (rankO (tN t) (sP s) l)) → X r 2 yX9_passes cX9_passes (9, none) (0, 0) 303 [some (.ref (evz r + a)), some (.int (nI (cc0))), some (.int (nI (mm))), some (.int (nI (((gth t cc0 mm (ordO (tN t) (sP s)) s (tN t)).1)))), some (.int (abv (tN t) (sP s) (tN t))), some (.int (nI (10))), w6, w7, w8] [] n J Q F) : ∀ (k : Nat) (p i : Nat) (I : MI) (w6 w7 w8 : Option Value), p ≤ 10 → p + k = 10 + 1 → i = cP (tN t) (sP s) p → FrS I0 I (fun x _ => x = a + 9 ∨ x = a + 5) → stp I (a + 5) t (gth t cc0 mm (ordO (tN t) (sP s)) s i).2.1 → (∀ j, j < i → I (a + 9) (ordO (tN t) (sP s) j) = drG t cc0 mm s j) → X r 2 yX9_passes cX9_passes (9, none) (0, 0) 31 [some (.ref (evz r + a)), some (.int (nI (cc0))), some (.int (nI (mm))), some (.int (nI (((gth t cc0 mm (ordO (tN t) (sP s)) s i).1)))), some (.int (abv (tN t) (sP s) i)), some (.int (nI (p))), w6, w7, w8] [] n I Q F := by
  intro k
  induction k with
  | zero => intros; omega
  | succ k ih =>
    intro p i I w6 w7 w8 hp0 hp hi hfr hs hdr
    obtain ⟨b0, bT, bO, bD, bB, bS, bP, bM, bN, bR, bH, qT, qO, qD, qB, qS, qP, qM, qN, qR, qH⟩ := id hb
    refine x_iload_5 dX9_passes_31 ?_
    refine x_bip (c := 10) dX9_passes_33 (by decide) ?_
    refine x_icmp_geN dX9_passes_35 (by omega) (by omega) (fun c35 => ?_) (fun c35 => ?_)
    · obtain rfl : p = 10 := (by omega)
      have hiN : i = tN t := hi.trans (cP_end (fun l hl => (hk.1 l hl).1))
      subst hiN
      refine hx _ _ _ _ hfr hs (fun l hl => ?_)
      have h9 := hdr _ (rankO_lt (p := sP s) hl)
      rw [ordO_rank hk.2 hl] at h9
      exact h9
    · have ho : tdp I (a + 2) t g := tdp_fr ho0 (fun j => hfr _ _ (by omega))
      refine x_aload_0 dX9_passes_38 ?_
      refine x_iload_5 dX9_passes_39 ?_
      refine x_V1i dX9_passes_41 m_X9_112 (c_X9_loomAt a hb t g ho _ hs ht.1 p (by omega) (fun l hl => by rw [gth_P]; have := (hk.1 l hl).1; omega) (by rw [gth_P]; exact hk.2)) (by assumption) (fun x41 I41 h41 => ?_)
      obtain ⟨rfl, ⟨l, hl, he, rfl⟩ | ⟨rfl, h41⟩⟩ := h41
      · have hn6 := ht.1
        rw [gth_P] at he
        have hs59 := hs.2.2.2.2.2
        rw [gth_R] at hs59
        have hio : ordO (tN t) (sP s) i = l := by rw [hi, ← he, cP_rank]; exact ordO_rank hk.2 hl
        have hin : i < tN t := by rw [hi, ← he, cP_rank]; exact rankO_lt hl
        refine x_istore_6 dX9_passes_44 rfl rfl ?_
        refine x_iload_6 dX9_passes_46 ?_
        refine x_bipush (v := -4) dX9_passes_48 (by decide) ?_
        refine x_icmp_eq dX9_passes_50 (fun c50 => ?_) (fun c50 => ?_)
        · exact absurd c50 (nI_ne4 (by omega))
        · refine x_aload_0 dX9_passes_53 ?_
          refine x_getr dX9_passes_54 f_X9_22 (by assumption) qS ?_
          refine x_bip (c := 25) dX9_passes_57 (by decide) ?_
          refine x_ialdV dX9_passes_59 (by assumption) rfl (by omega) hs59 ?_
          refine x_aload_0 dX9_passes_60 ?_
          refine x_getr dX9_passes_61 f_X9_13 (by assumption) qO ?_
          refine x_const (c := 2) dX9_passes_64 rfl ?_
          refine x_ialdV dX9_passes_65 (by assumption) rfl (by omega) ho.2.2.1 ?_
          refine x_icmp_geN dX9_passes_66 (by omega) (by omega) (fun c66 => ?_) (fun c66 => ?_)
          · exfalso; omega
          · refine l_pass_in a hb t g ho ht cc0 mm hc hm _ hs l _ p _ hl (by have := gth_runs (m := mm) (ord := ordO (tN t) (sP s)) ht hc (fun l hl => (hk.1 l hl).2.1) i (by omega) (fun k hk2 => (ordO_ok hk.2 (show k < tN t by omega)).1); have := ht.1; omega) (gth_D (c := cc0) (m := mm) (ord := ordO (tN t) (sP s)) (fun l hl => (hk.1 l hl).2.1) i _ hl) _ _ (fun J w7 w8 q1 q2 q3 => ?_)
            refine x_iinc_5 dX9_passes_297 (iinc1 _) rfl rfl ?_
            refine x_goto dX9_passes_300 ?_
            have e1 : (gth t cc0 mm (ordO (tN t) (sP s)) s (i + 1)) = gstep t cc0 mm (gth t cc0 mm (ordO (tN t) (sP s)) s i) l := by rw [← hio]; rfl
            have e2 : (gth t cc0 mm (ordO (tN t) (sP s)) s (i + 1)).1 = (gstep t cc0 mm ((gth t cc0 mm (ordO (tN t) (sP s)) s i).1, (gth t cc0 mm (ordO (tN t) (sP s)) s i).2.1, fun _ => 0) l).1 := by rw [e1]; rfl
            have e3 : (gth t cc0 mm (ordO (tN t) (sP s)) s (i + 1)).2.1 = (gstep t cc0 mm ((gth t cc0 mm (ordO (tN t) (sP s)) s i).1, (gth t cc0 mm (ordO (tN t) (sP s)) s i).2.1, fun _ => 0) l).2.1 := by rw [e1]; rfl
            rw [← e2, abv_s hio]
            refine ih (p + 1) (i + 1) _ _ _ _ (by omega) (by omega) (by rw [cP_yes hk.2 hl he, ← hi]) (fun x j hx => (q1 x j (by omega)).trans (hfr x j hx)) (by rw [e3]; exact q3) (fun j hj => ?_)
            by_cases e : j = i
            · subst e; rw [hio]; exact q2
            · have h8 : ordO (tN t) (sP s) j ≠ l := fun z => e (by have h7 := (ordO_ok hk.2 (show j < tN t by omega)).2; have h6 := (ordO_ok hk.2 hin).2; rw [← h7, ← h6, z, hio])
              exact (q1 _ _ (by omega)).trans (hdr j (by omega))
      · have h41b : ∀ l, l < tN t → sP s l ≠ p := fun l hl => by have h9 := h41 l hl; rw [gth_P] at h9; exact h9
        refine x_istore_6 dX9_passes_44 rfl rfl ?_
        refine x_iload_6 dX9_passes_46 ?_
        refine x_bipush (v := -4) dX9_passes_48 (by decide) ?_
        refine x_icmp_eq dX9_passes_50 (fun c50 => ?_) (fun c50 => ?_)
        · refine x_iload_6 dX9_passes_215 ?_
          refine x_bipush (v := -4) dX9_passes_217 (by decide) ?_
          refine x_icmp_eq dX9_passes_219 (fun c219 => ?_) (fun c219 => ?_)
          · refine x_iinc_5 dX9_passes_297 (iinc1 _) rfl rfl ?_
            refine x_goto dX9_passes_300 ?_
            exact ih (p + 1) i _ _ _ _ (by omega) (by omega) (by rw [cP_no h41b]; exact hi) hfr hs hdr
          · exact absurd rfl c219
        · exact absurd rfl c50
theorem pdn_no {t : Tp} {s : St} {p j : Nat} (h : sP s j ≠ p) : (if sP s j < p then dryv t s j else sD s j) = (if sP s j < p + 1 then dryv t s j else sD s j) := by
  by_cases z : sP s j < p
  · rw [if_pos z, if_pos (by omega)]
  · rw [if_neg z, if_neg (by omega)]
theorem pdn_sh {t : Tp} {s : St} {p l j : Nat} (hd : dst (tN t) (sP s)) (hl : l < tN t) (he : sP s l = p) (hj : j < tN t) (hh : ¬ sH s l = 0) : (if sP s j < p then dryv t s j else sD s j) = (if sP s j < p + 1 then dryv t s j else sD s j) := by
  by_cases z : sP s j = p
  · have e : j = l := hd j hj l hl (z.trans he.symm)
    subst e
    rw [if_neg (by omega), if_pos (by omega)]
    unfold dryv
    rw [if_neg hh]
  · exact pdn_no z
theorem pass_dry {I J : MI} {c : Nat} {t : Tp} {s : St} {l p : Nat} (h : stp I c t (mkS (sP s) (fun j => if sP s j < p then dryv t s j else sD s j) (sX s) (sH s) (sO s) (sR s))) (hd : dst (tN t) (sP s)) (hn : tN t ≤ 6) (hl : l < tN t) (he : sP s l = p) (fr : Fr1 I J c (6 + l)) (e : J c (6 + l) = nI (dryv t s l)) : stp J c t (mkS (sP s) (fun j => if sP s j < p + 1 then dryv t s j else sD s j) (sX s) (sH s) (sO s) (sR s)) := by
  obtain ⟨h0, h1, h2, h3, h4, h5⟩ := h
  refine ⟨fun k hk => (fr _ _ (by omega)).trans (h0 k hk), fun k hk => ?_, fun k hk => (fr _ _ (by omega)).trans (h2 k hk), fun k hk => (fr _ _ (by omega)).trans (h3 k hk), (fr _ _ (by omega)).trans h4, (fr _ _ (by omega)).trans h5⟩
  show J c (6 + k) = nI (if sP s k < p + 1 then dryv t s k else sD s k)
  by_cases z : k = l
  · subst z; rw [if_pos (by omega)]; exact e
  · rw [fr _ _ (by omega), ← pdn_no (fun y => z (hd k hk l hl (y.trans he.symm)))]
    exact h1 k hk
set_option maxHeartbeats 4000000 in
theorem l_pass_B {r : Ev} {n : Nat} {Q : MQ2} {F : Post} {I0 : MI} (a : Nat) (hb : MdB n Q a) (t : Tp) (g : Nt) (ho0 : tdp I0 (a + 2) t g) (ht : okT t) (cc0 mm : Nat) (hc : cc0 ≤ 9) (hm : mm ≤ 1) (s : St) (hk : okS t s) (hsun : ¬ sR s < nS g) (hR : sR s ≤ 10000) (hS : nS g ≤ 1000) (hx : ∀ (J : MI) (w6 w7 w8 : Option Value), FrS I0 J (fun x _ => x = a + 5) → stp J (a + 5) t (dryS t s) → X r 2 yX9_passes cX9_passes (9, none) (0, 0) 303 [some (.ref (evz r + a)), some (.int (nI (cc0))), some (.int (nI (mm))), some (.int (nI (0))), some (.int (-4)), some (.int (nI (10))), w6, w7, w8] [] n J Q F) : ∀ (k : Nat) (p : Nat) (I : MI) (w6 w7 w8 : Option Value), p ≤ 10 → p + k = 10 + 1 → FrS I0 I (fun x _ => x = a + 5) → stp I (a + 5) t (mkS (sP s) (fun j => if sP s j < p then dryv t s j else sD s j) (sX s) (sH s) (sO s) (sR s)) → X r 2 yX9_passes cX9_passes (9, none) (0, 0) 31 [some (.ref (evz r + a)), some (.int (nI (cc0))), some (.int (nI (mm))), some (.int (nI (0))), some (.int (-4)), some (.int (nI (p))), w6, w7, w8] [] n I Q F := by
  intro k
  induction k with
  | zero => intros; omega
  | succ k ih =>
    intro p I w6 w7 w8 hp0 hp hfr hs
    obtain ⟨b0, bT, bO, bD, bB, bS, bP, bM, bN, bR, bH, qT, qO, qD, qB, qS, qP, qM, qN, qR, qH⟩ := id hb
    refine x_iload_5 dX9_passes_31 ?_
    refine x_bip (c := 10) dX9_passes_33 (by decide) ?_
    refine x_icmp_geN dX9_passes_35 (by omega) (by omega) (fun c35 => ?_) (fun c35 => ?_)
    · obtain rfl : p = 10 := (by omega)
      exact hx _ _ _ _ hfr (stp_cong hs ⟨fun j hj => ⟨rfl, (if_pos (by have := (hk.1 j hj).1; omega)), rfl, rfl⟩, rfl, rfl⟩)
    · have ho : tdp I (a + 2) t g := tdp_fr ho0 (fun j => hfr _ _ (by omega))
      refine x_aload_0 dX9_passes_38 ?_
      refine x_iload_5 dX9_passes_39 ?_
      refine x_V1i dX9_passes_41 m_X9_112 (c_X9_loomAt a hb t g ho _ hs ht.1 p (by omega) (fun l hl => by have := (hk.1 l hl).1; show sP s l < 1000; omega) hk.2) (by assumption) (fun x41 I41 h41 => ?_)
      obtain ⟨rfl, ⟨l, hl, he, rfl⟩ | ⟨rfl, h41⟩⟩ := h41
      · have he : sP s l = p := he
        have hsd := hs.2.1 l hl
        rw [show sD (mkS (sP s) (fun j => if sP s j < p then dryv t s j else sD s j) (sX s) (sH s) (sO s) (sR s)) l = sD s l from if_neg (by omega)] at hsd
        have hkl := (ht.2 l hl).1
        have htl := (ht.2 l hl).2
        have hDl := (hk.1 l hl).2.1
        have hHl := (hk.1 l hl).2.2
        have hn6 := ht.1
        refine x_istore_6 dX9_passes_44 rfl rfl ?_
        refine x_iload_6 dX9_passes_46 ?_
        refine x_bipush (v := -4) dX9_passes_48 (by decide) ?_
        refine x_icmp_eq dX9_passes_50 (fun c50 => ?_) (fun c50 => ?_)
        · exact absurd c50 (nI_ne4 (by omega))
        · refine x_aload_0 dX9_passes_53 ?_
          refine x_getr dX9_passes_54 f_X9_22 (by assumption) qS ?_
          refine x_bip (c := 25) dX9_passes_57 (by decide) ?_
          refine x_ialdV dX9_passes_59 (by assumption) rfl (by omega) hs.2.2.2.2.2 ?_
          refine x_aload_0 dX9_passes_60 ?_
          refine x_getr dX9_passes_61 f_X9_13 (by assumption) qO ?_
          refine x_const (c := 2) dX9_passes_64 rfl ?_
          refine x_ialdV dX9_passes_65 (by assumption) rfl (by omega) ho.2.2.1 ?_
          have hrr : sR (mkS (sP s) (fun j => if sP s j < p then dryv t s j else sD s j) (sX s) (sH s) (sO s) (sR s)) = sR s := rfl
          refine x_icmp_geN dX9_passes_66 (by omega) (by omega) (fun c66 => ?_) (fun c66 => ?_)
          · refine x_iload_6 dX9_passes_215 ?_
            refine x_bipush (v := -4) dX9_passes_217 (by decide) ?_
            refine x_icmp_eq dX9_passes_219 (fun c219 => ?_) (fun c219 => ?_)
            · exact absurd c219 (nI_ne4 (by omega))
            · refine x_aload_0 dX9_passes_222 ?_
              refine x_getr dX9_passes_223 f_X9_22 (by assumption) qS ?_
              refine x_bip (c := 18) dX9_passes_226 (by decide) ?_
              refine x_iload_6 dX9_passes_228 ?_
              refine x_iaddN dX9_passes_230 ?_
              refine x_ialdV dX9_passes_231 (by assumption) rfl (by omega) (hs.2.2.2.1 l hl) ?_
              have hhh : sH (mkS (sP s) (fun j => if sP s j < p then dryv t s j else sD s j) (sX s) (sH s) (sO s) (sR s)) l = sH s l := rfl
              refine x_if_neN dX9_passes_232 (by omega) (fun c232 => ?_) (fun c232 => ?_)
              · have c232 : ¬ sH s l = 0 := c232
                refine x_iinc_5 dX9_passes_297 (iinc1 _) rfl rfl ?_
                refine x_goto dX9_passes_300 ?_
                first
                  | exact ih (p + 1) _ _ _ _ (by omega) (by omega) hfr (stp_cong hs ⟨fun j hj => ⟨rfl, pdn_no (h41b j hj), rfl, rfl⟩, rfl, rfl⟩)
                  | exact ih (p + 1) _ _ _ _ (by omega) (by omega) hfr (stp_cong hs ⟨fun j hj => ⟨rfl, pdn_sh hk.2 hl he hj c232, rfl, rfl⟩, rfl, rfl⟩)
              · have c232 : sH s l = 0 := (show ¬ sH s l ≠ 0 from fun z => by have c9 : sH s l = 0 := c232; exact z c9) |> (fun z => by omega)
                refine x_aload_0 dX9_passes_235 ?_
                refine x_getr dX9_passes_236 f_X9_13 (by assumption) qO ?_
                refine x_const (c := 5) dX9_passes_239 rfl ?_
                refine x_iload_6 dX9_passes_240 ?_
                refine x_iaddN dX9_passes_242 ?_
                refine x_ialdV dX9_passes_243 (by assumption) rfl (by omega) (ho.2.2.2.2.2.1 l hl) ?_
                refine x_const (c := 3) dX9_passes_244 rfl ?_
                refine x_icmp_neN dX9_passes_245 (by omega) (by omega) (fun c245 => ?_) (fun c245 => ?_)
                · refine x_const (c := 2) dX9_passes_252 rfl ?_
                  refine x_istore_7 dX9_passes_253 rfl rfl ?_
                  refine x_aload_0 dX9_passes_255 ?_
                  refine x_getr dX9_passes_256 f_X9_22 (by assumption) qS ?_
                  refine x_bip (c := 6) dX9_passes_259 (by decide) ?_
                  refine x_iload_6 dX9_passes_261 ?_
                  refine x_iaddN dX9_passes_263 ?_
                  refine x_aload_0 dX9_passes_264 ?_
                  refine x_getr dX9_passes_265 f_X9_22 (by assumption) qS ?_
                  refine x_bip (c := 6) dX9_passes_268 (by decide) ?_
                  refine x_iload_6 dX9_passes_270 ?_
                  refine x_iaddN dX9_passes_272 ?_
                  refine x_ialdV dX9_passes_273 (by assumption) rfl (by omega) hsd ?_
                  refine x_iload_7 dX9_passes_274 ?_
                  refine x_icmp_leN dX9_passes_276 (by omega) (by omega) (fun c276 => ?_) (fun c276 => ?_)
                  · refine x_const (c := 0) dX9_passes_295 rfl ?_
                    refine x_iastA dX9_passes_296 (by assumption) rfl (by omega) (fun J296 fr296 e296 => ?_)
                    refine x_iinc_5 dX9_passes_297 (iinc1 _) rfl rfl ?_
                    refine x_goto dX9_passes_300 ?_
                    exact ih (p + 1) _ _ _ _ (by omega) (by omega) (fun x j hx => (fr296 x j (by omega)).trans (hfr x j hx)) (pass_dry hs hk.2 hn6 hl he fr296 (e296.trans (by congr 1; unfold dryv; rw [if_pos c232]; (first | rw [if_pos (by omega)] | rw [if_neg (by omega)]); try omega)))
                  · refine x_aload_0 dX9_passes_279 ?_
                    refine x_getr dX9_passes_280 f_X9_22 (by assumption) qS ?_
                    refine x_bip (c := 6) dX9_passes_283 (by decide) ?_
                    refine x_iload_6 dX9_passes_285 ?_
                    refine x_iaddN dX9_passes_287 ?_
                    refine x_ialdV dX9_passes_288 (by assumption) rfl (by omega) hsd ?_
                    refine x_iload_7 dX9_passes_289 ?_
                    refine x_isubN dX9_passes_291 (by omega) ?_
                    refine x_goto dX9_passes_292 ?_
                    refine x_iastA dX9_passes_296 (by assumption) rfl (by omega) (fun J296 fr296 e296 => ?_)
                    refine x_iinc_5 dX9_passes_297 (iinc1 _) rfl rfl ?_
                    refine x_goto dX9_passes_300 ?_
                    exact ih (p + 1) _ _ _ _ (by omega) (by omega) (fun x j hx => (fr296 x j (by omega)).trans (hfr x j hx)) (pass_dry hs hk.2 hn6 hl he fr296 (e296.trans (by congr 1; unfold dryv; rw [if_pos c232]; (first | rw [if_pos (by omega)] | rw [if_neg (by omega)]); try omega)))
                · refine x_const (c := 1) dX9_passes_248 rfl ?_
                  refine x_goto dX9_passes_249 ?_
                  refine x_istore_7 dX9_passes_253 rfl rfl ?_
                  refine x_aload_0 dX9_passes_255 ?_
                  refine x_getr dX9_passes_256 f_X9_22 (by assumption) qS ?_
                  refine x_bip (c := 6) dX9_passes_259 (by decide) ?_
                  refine x_iload_6 dX9_passes_261 ?_
                  refine x_iaddN dX9_passes_263 ?_
                  refine x_aload_0 dX9_passes_264 ?_
                  refine x_getr dX9_passes_265 f_X9_22 (by assumption) qS ?_
                  refine x_bip (c := 6) dX9_passes_268 (by decide) ?_
                  refine x_iload_6 dX9_passes_270 ?_
                  refine x_iaddN dX9_passes_272 ?_
                  refine x_ialdV dX9_passes_273 (by assumption) rfl (by omega) hsd ?_
                  refine x_iload_7 dX9_passes_274 ?_
                  refine x_icmp_leN dX9_passes_276 (by omega) (by omega) (fun c276 => ?_) (fun c276 => ?_)
                  · refine x_const (c := 0) dX9_passes_295 rfl ?_
                    refine x_iastA dX9_passes_296 (by assumption) rfl (by omega) (fun J296 fr296 e296 => ?_)
                    refine x_iinc_5 dX9_passes_297 (iinc1 _) rfl rfl ?_
                    refine x_goto dX9_passes_300 ?_
                    exact ih (p + 1) _ _ _ _ (by omega) (by omega) (fun x j hx => (fr296 x j (by omega)).trans (hfr x j hx)) (pass_dry hs hk.2 hn6 hl he fr296 (e296.trans (by congr 1; unfold dryv; rw [if_pos c232]; (first | rw [if_pos (by omega)] | rw [if_neg (by omega)]); try omega)))
                  · refine x_aload_0 dX9_passes_279 ?_
                    refine x_getr dX9_passes_280 f_X9_22 (by assumption) qS ?_
                    refine x_bip (c := 6) dX9_passes_283 (by decide) ?_
                    refine x_iload_6 dX9_passes_285 ?_
                    refine x_iaddN dX9_passes_287 ?_
                    refine x_ialdV dX9_passes_288 (by assumption) rfl (by omega) hsd ?_
                    refine x_iload_7 dX9_passes_289 ?_
                    refine x_isubN dX9_passes_291 (by omega) ?_
                    refine x_goto dX9_passes_292 ?_
                    refine x_iastA dX9_passes_296 (by assumption) rfl (by omega) (fun J296 fr296 e296 => ?_)
                    refine x_iinc_5 dX9_passes_297 (iinc1 _) rfl rfl ?_
                    refine x_goto dX9_passes_300 ?_
                    exact ih (p + 1) _ _ _ _ (by omega) (by omega) (fun x j hx => (fr296 x j (by omega)).trans (hfr x j hx)) (pass_dry hs hk.2 hn6 hl he fr296 (e296.trans (by congr 1; unfold dryv; rw [if_pos c232]; (first | rw [if_pos (by omega)] | rw [if_neg (by omega)]); try omega)))
          · exact absurd c66 (by rw [hrr] at *; omega)
      · have h41b : ∀ l, l < tN t → sP s l ≠ p := fun l hl => h41 l hl
        refine x_istore_6 dX9_passes_44 rfl rfl ?_
        refine x_iload_6 dX9_passes_46 ?_
        refine x_bipush (v := -4) dX9_passes_48 (by decide) ?_
        refine x_icmp_eq dX9_passes_50 (fun c50 => ?_) (fun c50 => ?_)
        · refine x_iload_6 dX9_passes_215 ?_
          refine x_bipush (v := -4) dX9_passes_217 (by decide) ?_
          refine x_icmp_eq dX9_passes_219 (fun c219 => ?_) (fun c219 => ?_)
          · refine x_iinc_5 dX9_passes_297 (iinc1 _) rfl rfl ?_
            refine x_goto dX9_passes_300 ?_
            first
              | exact ih (p + 1) _ _ _ _ (by omega) (by omega) hfr (stp_cong hs ⟨fun j hj => ⟨rfl, pdn_no (h41b j hj), rfl, rfl⟩, rfl, rfl⟩)
              | exact ih (p + 1) _ _ _ _ (by omega) (by omega) hfr (stp_cong hs ⟨fun j hj => ⟨rfl, pdn_sh hk.2 hl he hj c232, rfl, rfl⟩, rfl, rfl⟩)
          · exact absurd rfl c219
        · exact absurd rfl c50
def drH (t : Tp) (sun c m : Nat) (s : St) (l : Nat) : Int32 := if sR s < sun then drG t c m s (rankO (tN t) (sP s) l) else -4
theorem stp_tick {I J K : MI} {c : Nat} {t : Tp} {s : St} {k : Nat} (h : stp I c t s) (hn : tN t ≤ 6) (f1 : Fr1 I J c 24) (e1 : J c 24 = nI (sO s + k)) (f2 : Fr1 J K c 25) (e2 : K c 25 = nI (sR s + 1)) : stp K c t (tick (offS s k)) := by
  obtain ⟨h0, h1, h2, h3, h4, h5⟩ := h
  have f : ∀ j, j < 24 → K c j = I c j := fun j hj => (f2 _ _ (by omega)).trans (f1 _ _ (by omega))
  exact ⟨fun l hl => (f _ (by omega)).trans (h0 l hl), fun l hl => (f _ (by omega)).trans (h1 l hl), fun l hl => (f _ (by omega)).trans (h2 l hl), fun l hl => (f _ (by omega)).trans (h3 l hl), (f2 _ _ (by omega)).trans e1, e2⟩
def FtP9 (a x : Nat) : Prop := x = a + 5 ∨ x = a + 9
set_option maxHeartbeats 4000000 in
theorem l_pass_end {r : Ev} {n : Nat} {Q : MQ2} {F : Post} {I : MI} (a : Nat) (hb : MdB n Q a) (t : Tp) (S : St) (hs : stp I (a + 5) t S) (hn : tN t ≤ 6) (runs : Nat) (x1 x2 : Option Value) (w4 w5 w6 w7 w8 : Option Value) (hF : ∀ J, FrS I J (fun x _ => x = a + 5) → stp J (a + 5) t (tick (offS S runs)) → F none J Q) : X r 2 yX9_passes cX9_passes (9, none) (0, 0) 303 [some (.ref (evz r + a)), x1, x2, some (.int (nI (runs))), w4, w5, w6, w7, w8] [] n I Q F := by
  obtain ⟨b0, bT, bO, bD, bB, bS, bP, bM, bN, bR, bH, qT, qO, qD, qB, qS, qP, qM, qN, qR, qH⟩ := id hb
  refine x_aload_0 dX9_passes_303 ?_
  refine x_getr dX9_passes_304 f_X9_22 (by assumption) qS ?_
  refine x_bip (c := 24) dX9_passes_307 (by decide) ?_
  refine x_dup2 dX9_passes_309 ?_
  refine x_ialdV dX9_passes_310 (by assumption) rfl (by omega) hs.2.2.2.2.1 ?_
  refine x_iload_3 dX9_passes_311 ?_
  refine x_iaddN dX9_passes_312 ?_
  refine x_iastA dX9_passes_313 (by assumption) rfl (by omega) (fun J313 fr313 e313 => ?_)
  refine x_aload_0 dX9_passes_314 ?_
  refine x_getr dX9_passes_315 f_X9_22 (by assumption) qS ?_
  refine x_bip (c := 25) dX9_passes_318 (by decide) ?_
  refine x_dup2 dX9_passes_320 ?_
  refine x_ialdV dX9_passes_321 (by assumption) rfl (by omega) ((fr313 _ _ (by omega)).trans hs.2.2.2.2.2) ?_
  refine x_const (c := 1) dX9_passes_322 rfl ?_
  refine x_iaddN dX9_passes_323 ?_
  refine x_iastA dX9_passes_324 (by assumption) rfl (by omega) (fun J324 fr324 e324 => ?_)
  have e313_p324 := (fr324 (a + 5) (24) (by omega)).trans e313
  exact x_vret (st := []) dX9_passes_325 rfl (hF _ (fun x j hx => (fr324 x j (by omega)).trans (fr313 x j (by omega))) (stp_tick hs hn fr313 e313 fr324 e324))
set_option maxHeartbeats 4000000 in
theorem c_X9_passes {r : Ev} {n : Nat} {I : MI} {Q : MQ2} (a : Nat) (hb : MdB n Q a) (t : Tp) (g : Nt) (ho : tdp I (a + 2) t g) (ht : okT t) (cc0 mm : Nat) (hc : cc0 ≤ 9) (hm : mm ≤ 1) (s : St) (hk : okS t s) (hs : stp I (a + 5) t s) (hR : sR s ≤ 10000) (hS : nS g ≤ 1000) : CT r 2 yX9_passes cX9_passes (9, none) (0, 0) [.ref (evz r + a), .int (nI cc0), .int (nI mm)] n I Q (rv Q (fun J => FrS I J (fun x _ => FtP9 a x) ∧ stp J (a + 5) t (hourS t (nS g) cc0 mm s) ∧ ∀ l, l < tN t → J (a + 9) l = drH t (nS g) cc0 mm s l)) := by
  refine ct_of (lv := [some (.ref (evz r + a)), some (.int (nI cc0)), some (.int (nI mm)), none, none, none, none, none, none]) (by decide +kernel) rfl rfl rfl ?_
  obtain ⟨b0, bT, bO, bD, bB, bS, bP, bM, bN, bR, bH, qT, qO, qD, qB, qS, qP, qM, qN, qR, qH⟩ := id hb
  refine x_const (c := 0) dX9_passes_0 rfl ?_
  refine x_istore_3 dX9_passes_1 rfl rfl ?_
  refine l_pass_dr a hb _ _ _ _ _ _ _ (fun J0 f0 e0 => ?_) 7 0 _ (by omega) (by omega) (fun _ _ _ => rfl) (fun j hj => absurd hj (Nat.not_lt_zero j))
  refine x_const (c := 0) dX9_passes_22 rfl ?_
  refine x_istore_3 dX9_passes_23 rfl rfl ?_
  refine x_bipush (v := -4) dX9_passes_24 (by decide) ?_
  refine x_istore_4 dX9_passes_26 rfl rfl ?_
  refine x_const (c := 0) dX9_passes_28 rfl ?_
  refine x_istore_5 dX9_passes_29 rfl rfl ?_
  have ho0 : tdp J0 (a + 2) t g := tdp_fr ho (fun j => f0 _ _ (by omega))
  have hs0 : stp J0 (a + 5) t s := stp_to hs ht.1 (fun j _ => f0 _ _ (by omega))
  by_cases hsun : sR s < nS g
  · refine l_pass_A a hb t g ho0 ht cc0 mm hc hm s hk hsun hR hS (fun J w6 w7 w8 q1 q2 q3 => ?_) 11 0 0 _ _ _ _ (by omega) (by omega) (cP_0 _ _).symm (fun _ _ _ => rfl) hs0 (fun j hj => absurd hj (Nat.not_lt_zero j))
    refine l_pass_end a hb t _ q2 ht.1 _ _ _ _ _ _ _ _ (fun K r1 r2 => ⟨rfl, rfl, fun x j hx => (r1 x j (fun z => hx (Or.inl z))).trans ((q1 x j (fun z => hx z.symm)).trans (f0 x j (fun z => hx (Or.inr z)))), ?_, fun l hl => ?_⟩)
    · unfold hourS; rw [if_pos hsun]; exact r2
    · unfold drH; rw [if_pos hsun]; exact (r1 _ _ (by omega)).trans (q3 l hl)
  · refine l_pass_B a hb t g ho0 ht cc0 mm hc hm s hk hsun hR hS (fun J w6 w7 w8 q1 q2 => ?_) 11 0 _ _ _ _ (by omega) (by omega) (fun _ _ _ => rfl) (stp_cong hs0 ⟨fun j hj => ⟨rfl, (if_neg (t := dryv t s j) (Nat.not_lt_zero (sP s j))).symm, rfl, rfl⟩, rfl, rfl⟩)
    refine l_pass_end a hb t _ q2 ht.1 _ _ _ _ _ _ _ _ (fun K r1 r2 => ⟨rfl, rfl, fun x j hx => (r1 x j (fun z => hx (Or.inl z))).trans ((q1 x j (fun z => hx (Or.inl z))).trans (f0 x j (fun z => hx (Or.inr z)))), ?_, fun l hl => ?_⟩)
    · unfold hourS; rw [if_neg hsun]; exact r2
    · unfold drH; rw [if_neg hsun]; exact (r1 _ _ (by omega)).trans ((q1 _ _ (by omega)).trans (e0 l (by have := ht.1; omega)))
