/-! ===== the law ===== -/
def yLw : MethodName := ⟨RL, "law", "([I)Z"⟩
theorem CW.grow {n n' : Nat} {I J : MI} {Q Q' : MQ2} {S : Sy} (h : CW n I Q S) (hok : okY S) (hn : n ≤ n') (f : ∀ x, x < 148 → ∀ j, J x j = I x j) (g : ∀ x, x < 148 → Q' x = Q x) : CW n' J Q' S := by
  obtain ⟨na, nb, p1, p2, hB, ct, cs, ca, ck, cg, cn⟩ := h
  obtain ⟨y1, y2, y3, y4, y5, y6, y7, y8, y9, y10, y11, y12⟩ := hok
  obtain ⟨o0, oT, oR, oN, oL, oA, oK, oG, oW, oX, oD, hnn, hq⟩ := hB
  have ha : na ≤ 136 ∧ nb ≤ 136 := by omega
  refine ⟨na, nb, p1, p2, ⟨⟨o0.1, Nat.lt_of_lt_of_le o0.2 hn⟩, oT.up hn (fun x z1 z2 => g x (by omega)), oR.up hn (fun x z1 z2 => g x (by omega)), oN.up hn (fun x z1 z2 => g x (by omega)), oL.up hn (fun x z1 z2 => g x (by omega)), oA.up hn (fun x z1 z2 => g x (by omega)), oK.up hn (fun x z1 z2 => g x (by omega)), oG.up hn (fun x z1 z2 => g x (by omega)), oW.up hn (fun x z1 z2 => g x (by omega)), oX.up hn (fun x z1 z2 => g x (by omega)), oD.up hn (fun x z1 z2 => g x (by omega)), hnn, by rw [g 0 (by omega)]; exact hq⟩, ?_⟩
  exact ⟨txp_fr ct (fun x j hx => f x (by omega) j), cs.fr y3.1 (fun x j z1 z2 => f x (by omega) j), plp_fr ca y8 (fun i hi => (oA.2.2.2.1 i hi).1) y3.1 (fun x j z1 z2 => f x (by omega) j), plp_fr ck y10 (fun i hi => (oK.2.2.2.1 i hi).1) y3.1 (fun x j z1 z2 => f x (by omega) j), sgp_fr cg (fun x j z1 z2 => f x (by omega) j), ntp_fr cn (fun x j hx => f x (by omega) j)⟩
theorem MdI.fr {I J : MI} {a : Nat} {S : Sy} (h : MdI I a S) (e : ∀ x, a ≤ x → x < a + 11 → J x = I x) : MdI J a S := by
  have e0 := e a (by omega) (by omega)
  have e1 := e (a + 1) (by omega) (by omega)
  have e2 := e (a + 2) (by omega) (by omega)
  have e5 := e (a + 5) (by omega) (by omega)
  have e6 := e (a + 6) (by omega) (by omega)
  have e7 := e (a + 7) (by omega) (by omega)
  have e8 := e (a + 8) (by omega) (by omega)
  unfold MdI txm tdp stp plm stp at h ⊢
  simp only [e0, e1, e2, e5, e6, e7, e8]
  exact h
theorem MdB.fr {n : Nat} {Q Q' : MQ2} {a : Nat} (h : MdB n Q a) (e : Q' a = Q a) : MdB n Q' a := by
  unfold MdB at h ⊢
  rw [e]
  exact h
/-- both hold the same -/
def LI (I : MI) (Q : MQ2) (S : Sy) : Prop := CW 159 I Q S ∧ MdB 159 Q 148 ∧ MdI I 148 S ∧ okY S
theorem MdB.at {n : Nat} {Q : MQ2} {a : Nat} (h : MdB n Q a) : Ob n 9 a := h.1
theorem CW.at {n : Nat} {I : MI} {Q : MQ2} {S : Sy} (h : CW n I Q S) : Ob n 8 0 := by
  obtain ⟨na, nb, p1, p2, hB, -⟩ := h
  exact hB.1
/-- behind the class's call: the reference stands as it stood -/
theorem LI.mid {I J : MI} {Q Q' : MQ2} {S : Sy} (h : LI I Q S) (f : FrW I Q J Q') : MdB 159 Q' 148 ∧ MdI J 148 S := ⟨h.2.1.fr (funext fun j => (f 148 (by omega) j).2), h.2.2.1.fr (fun x x1 x2 => funext fun j => (f x (by omega) j).1)⟩
theorem LI.next {J K : MI} {Q' : MQ2} {S' : Sy} (h1 : CW 159 J Q' S') (hb : MdB 159 Q' 148) (f : FrS J K (FtMd 148)) (h2 : MdI K 148 S') (hok : okY S') : LI K Q' S' := ⟨h1.grow hok (Nat.le_refl _) (fun x hx j => f x j (fun z => absurd z.1 (by omega))) (fun x hx => rfl), hb, h2, hok⟩
theorem and31 (x : Int32) : ∃ c, c < 32 ∧ x &&& nI 31 = nI c := by
  refine ⟨(x &&& nI 31).toBitVec.toNat, ?_, ?_⟩
  · rw [Int32.toBitVec_and, BitVec.toNat_and]
    exact Nat.lt_of_le_of_lt Nat.and_le_right (by decide)
  · apply Int32.toBitVec_inj.mp
    show (x &&& nI 31).toBitVec = BitVec.ofNat 32 ((x &&& nI 31).toBitVec.toNat)
    rw [BitVec.ofNat_toNat, BitVec.setWidth_eq]
theorem sub5 : ∀ L, L ≤ 320 → (nI L - nI 5).toInt = (L : Int) - 5 := by decide +kernel
theorem gt5 {i L : Nat} (hL : L ≤ 320) (hi : i ≤ 1000) : nI L - nI 5 < nI i ↔ ¬ i + 5 ≤ L := by
  rw [Int32.lt_iff_toInt_lt, sub5 L hL, nI_toInt (by omega)]
  omega
set_option maxHeartbeats 4000000 in
theorem g_write {r : Ev} {F : Post} {i : Nat} {I : MI} {Q : MQ2} {S : Sy} (hL : LI I Q S) (hi : i + 5 ≤ evn r) (hn : evn r ≤ 320) (k : ∀ I' Q' S', LI I' Q' S' → X r 8 yLw cL_law (4, some .boolean) (0, 0) 824 [some (.ref (evb r)), some (.ref (evz r + 0)), some (.ref (evz r + 148)), some (.int (nI i))] [] 159 I' Q' F) : X r 8 yLw cL_law (4, some .boolean) (0, 0) 160 [some (.ref (evb r)), some (.ref (evz r + 0)), some (.ref (evz r + 148)), some (.int (nI i))] [] 159 I Q F := by
  refine x_aload_1 dL_law_160 ?_
  refine x_aload_0 dL_law_161 ?_
  refine x_iload_3 dL_law_162 ?_
  refine x_const (c := 1) dL_law_163 rfl ?_
  refine x_iaddN dL_law_164 ?_
  refine x_ialdB dL_law_165 (by omega) hn ?_
  refine x_V1i dL_law_166 m_L_13 (c_X8_write hL.1 hL.2.2.2 (evx r (i + 1))) hL.1.at (fun x8 I8 h8 => ?_)
  obtain ⟨f8, c8, e8⟩ := h8
  obtain ⟨b8, m8⟩ := hL.mid f8
  refine x_aload_2 dL_law_169 ?_
  refine x_aload_0 dL_law_170 ?_
  refine x_iload_3 dL_law_171 ?_
  refine x_const (c := 1) dL_law_172 rfl ?_
  refine x_iaddN dL_law_173 ?_
  refine x_ialdB dL_law_174 (by omega) hn ?_
  refine x_V1i dL_law_175 m_L_17 (c_X9_write 148 b8 S m8 hL.2.2.2 (evx r (i + 1))) b8.at (fun x9 I9 h9 => ?_)
  obtain ⟨f9, m9, e9⟩ := h9
  refine x_icmp_eq dL_law_178 (fun c => ?_) (fun c => ?_)
  · exact k I9 Q _ (LI.next c8 b8 f9 m9 (k_write hL.2.2.2 (evx r (i + 1))))
  · exact absurd (e8.trans e9.symm) c
set_option maxHeartbeats 4000000 in
theorem g_wipe {r : Ev} {F : Post} {i : Nat} {I : MI} {Q : MQ2} {S : Sy} (hL : LI I Q S) (hi : i + 5 ≤ evn r) (hn : evn r ≤ 320) (k : ∀ I' Q' S', LI I' Q' S' → X r 8 yLw cL_law (4, some .boolean) (0, 0) 824 [some (.ref (evb r)), some (.ref (evz r + 0)), some (.ref (evz r + 148)), some (.int (nI i))] [] 159 I' Q' F) : X r 8 yLw cL_law (4, some .boolean) (0, 0) 183 [some (.ref (evb r)), some (.ref (evz r + 0)), some (.ref (evz r + 148)), some (.int (nI i))] [] 159 I Q F := by
  refine x_aload_1 dL_law_183 ?_
  refine x_V0i dL_law_184 m_L_18 (c_X8_wipe hL.1 hL.2.2.2) hL.1.at (fun x8 I8 h8 => ?_)
  obtain ⟨f8, c8, e8⟩ := h8
  obtain ⟨b8, m8⟩ := hL.mid f8
  refine x_aload_2 dL_law_187 ?_
  refine x_V0i dL_law_188 m_L_22 (c_X9_wipe 148 b8 S m8 hL.2.2.2) b8.at (fun x9 I9 h9 => ?_)
  obtain ⟨f9, m9, e9⟩ := h9
  refine x_icmp_eq dL_law_191 (fun c => ?_) (fun c => ?_)
  · exact k I9 Q _ (LI.next c8 b8 f9 m9 (k_wipe hL.2.2.2))
  · exact absurd (e8.trans e9.symm) c
set_option maxHeartbeats 4000000 in
theorem g_fault {r : Ev} {F : Post} {i : Nat} {I : MI} {Q : MQ2} {S : Sy} (hL : LI I Q S) (hi : i + 5 ≤ evn r) (hn : evn r ≤ 320) (k : ∀ I' Q' S', LI I' Q' S' → X r 8 yLw cL_law (4, some .boolean) (0, 0) 824 [some (.ref (evb r)), some (.ref (evz r + 0)), some (.ref (evz r + 148)), some (.int (nI i))] [] 159 I' Q' F) : X r 8 yLw cL_law (4, some .boolean) (0, 0) 196 [some (.ref (evb r)), some (.ref (evz r + 0)), some (.ref (evz r + 148)), some (.int (nI i))] [] 159 I Q F := by
  refine x_aload_1 dL_law_196 ?_
  refine x_V0i dL_law_197 m_L_23 (c_X8_fault hL.1 hL.2.2.2) hL.1.at (fun x8 I8 h8 => ?_)
  obtain ⟨f8, c8, e8⟩ := h8
  obtain ⟨b8, m8⟩ := hL.mid f8
  refine x_aload_2 dL_law_200 ?_
  refine x_V0i dL_law_201 m_L_26 (c_X9_fault 148 b8 (yM S) (yT S) m8.1 hL.2.2.2.1 hL.2.2.2.2.1) b8.at (fun x9 I9 h9 => ?_)
  have h9 := p_fault m8 hL.2.2.2.2.2.1.1 h9
  obtain ⟨f9, m9, e9⟩ := h9
  refine x_icmp_eq dL_law_204 (fun c => ?_) (fun c => ?_)
  · exact k I9 Q _ (LI.next c8 b8 f9 m9 (k_fault hL.2.2.2))
  · exact absurd (e8.trans e9.symm) c
set_option maxHeartbeats 4000000 in
theorem g_lay {r : Ev} {F : Post} {i : Nat} {I : MI} {Q : MQ2} {S : Sy} (hL : LI I Q S) (hi : i + 5 ≤ evn r) (hn : evn r ≤ 320) (k : ∀ I' Q' S', LI I' Q' S' → X r 8 yLw cL_law (4, some .boolean) (0, 0) 824 [some (.ref (evb r)), some (.ref (evz r + 0)), some (.ref (evz r + 148)), some (.int (nI i))] [] 159 I' Q' F) : X r 8 yLw cL_law (4, some .boolean) (0, 0) 209 [some (.ref (evb r)), some (.ref (evz r + 0)), some (.ref (evz r + 148)), some (.int (nI i))] [] 159 I Q F := by
  refine x_aload_1 dL_law_209 ?_
  refine x_V0I dL_law_210 m_L_27 (c_X8_lay hL.1 hL.2.2.2) hL.1.at (fun x8 I8 Q8 h8 => ?_)
  obtain ⟨f8, c8, e8⟩ := h8
  obtain ⟨b8, m8⟩ := hL.mid f8
  refine x_aload_2 dL_law_213 ?_
  refine x_V0i dL_law_214 m_L_30 (c_X9_lay 148 b8 (yM S) (yT S) m8.1 hL.2.2.2.1 hL.2.2.2.2.1) b8.at (fun x9 I9 h9 => ?_)
  have h9 := p_lay m8 hL.2.2.2.2.2.1.1 h9
  obtain ⟨f9, m9, e9⟩ := h9
  refine x_icmp_eq dL_law_217 (fun c => ?_) (fun c => ?_)
  · exact k I9 Q8 _ (LI.next c8 b8 f9 m9 (k_lay hL.2.2.2))
  · exact absurd (e8.trans e9.symm) c
set_option maxHeartbeats 4000000 in
theorem g_loom {r : Ev} {F : Post} {i : Nat} {I : MI} {Q : MQ2} {S : Sy} (hL : LI I Q S) (hi : i + 5 ≤ evn r) (hn : evn r ≤ 320) (k : ∀ I' Q' S', LI I' Q' S' → X r 8 yLw cL_law (4, some .boolean) (0, 0) 824 [some (.ref (evb r)), some (.ref (evz r + 0)), some (.ref (evz r + 148)), some (.int (nI i))] [] 159 I' Q' F) : X r 8 yLw cL_law (4, some .boolean) (0, 0) 222 [some (.ref (evb r)), some (.ref (evz r + 0)), some (.ref (evz r + 148)), some (.int (nI i))] [] 159 I Q F := by
  refine x_aload_1 dL_law_222 ?_
  refine x_aload_0 dL_law_223 ?_
  refine x_iload_3 dL_law_224 ?_
  refine x_const (c := 1) dL_law_225 rfl ?_
  refine x_iaddN dL_law_226 ?_
  refine x_ialdB dL_law_227 (by omega) hn ?_
  refine x_aload_0 dL_law_228 ?_
  refine x_iload_3 dL_law_229 ?_
  refine x_const (c := 2) dL_law_230 rfl ?_
  refine x_iaddN dL_law_231 ?_
  refine x_ialdB dL_law_232 (by omega) hn ?_
  refine x_V2i dL_law_233 m_L_31 (c_X8_loom hL.1 hL.2.2.2 (evx r (i + 1)) (evx r (i + 2))) hL.1.at (fun x8 I8 h8 => ?_)
  obtain ⟨f8, c8, e8⟩ := h8
  obtain ⟨b8, m8⟩ := hL.mid f8
  refine x_aload_2 dL_law_236 ?_
  refine x_aload_0 dL_law_237 ?_
  refine x_iload_3 dL_law_238 ?_
  refine x_const (c := 1) dL_law_239 rfl ?_
  refine x_iaddN dL_law_240 ?_
  refine x_ialdB dL_law_241 (by omega) hn ?_
  refine x_aload_0 dL_law_242 ?_
  refine x_iload_3 dL_law_243 ?_
  refine x_const (c := 2) dL_law_244 rfl ?_
  refine x_iaddN dL_law_245 ?_
  refine x_ialdB dL_law_246 (by omega) hn ?_
  refine x_V2i dL_law_247 m_L_35 (c_X9_loom 148 b8 S m8 hL.2.2.2 (evx r (i + 1)) (evx r (i + 2))) b8.at (fun x9 I9 h9 => ?_)
  obtain ⟨f9, m9, e9⟩ := h9
  refine x_icmp_eq dL_law_250 (fun c => ?_) (fun c => ?_)
  · exact k I9 Q _ (LI.next c8 b8 f9 m9 (k_loom hL.2.2.2 (evx r (i + 1)) (evx r (i + 2))))
  · exact absurd (e8.trans e9.symm) c
set_option maxHeartbeats 4000000 in
theorem g_hour {r : Ev} {F : Post} {i : Nat} {I : MI} {Q : MQ2} {S : Sy} (hL : LI I Q S) (hi : i + 5 ≤ evn r) (hn : evn r ≤ 320) (k : ∀ I' Q' S', LI I' Q' S' → X r 8 yLw cL_law (4, some .boolean) (0, 0) 824 [some (.ref (evb r)), some (.ref (evz r + 0)), some (.ref (evz r + 148)), some (.int (nI i))] [] 159 I' Q' F) : X r 8 yLw cL_law (4, some .boolean) (0, 0) 255 [some (.ref (evb r)), some (.ref (evz r + 0)), some (.ref (evz r + 148)), some (.int (nI i))] [] 159 I Q F := by
  refine x_aload_1 dL_law_255 ?_
  refine x_aload_0 dL_law_256 ?_
  refine x_iload_3 dL_law_257 ?_
  refine x_const (c := 1) dL_law_258 rfl ?_
  refine x_iaddN dL_law_259 ?_
  refine x_ialdB dL_law_260 (by omega) hn ?_
  refine x_aload_0 dL_law_261 ?_
  refine x_iload_3 dL_law_262 ?_
  refine x_const (c := 2) dL_law_263 rfl ?_
  refine x_iaddN dL_law_264 ?_
  refine x_ialdB dL_law_265 (by omega) hn ?_
  refine x_V2i dL_law_266 m_L_36 (c_X8_hour hL.1 hL.2.2.2 (evx r (i + 1)) (evx r (i + 2))) hL.1.at (fun x8 I8 h8 => ?_)
  obtain ⟨f8, c8, e8⟩ := h8
  obtain ⟨b8, m8⟩ := hL.mid f8
  refine x_aload_2 dL_law_269 ?_
  refine x_aload_0 dL_law_270 ?_
  refine x_iload_3 dL_law_271 ?_
  refine x_const (c := 1) dL_law_272 rfl ?_
  refine x_iaddN dL_law_273 ?_
  refine x_ialdB dL_law_274 (by omega) hn ?_
  refine x_aload_0 dL_law_275 ?_
  refine x_iload_3 dL_law_276 ?_
  refine x_const (c := 2) dL_law_277 rfl ?_
  refine x_iaddN dL_law_278 ?_
  refine x_ialdB dL_law_279 (by omega) hn ?_
  refine x_V2i dL_law_280 m_L_39 (c_X9_hour 148 b8 S m8 hL.2.2.2 (evx r (i + 1)) (evx r (i + 2))) b8.at (fun x9 I9 h9 => ?_)
  obtain ⟨f9, m9, e9⟩ := h9
  refine x_icmp_eq dL_law_283 (fun c => ?_) (fun c => ?_)
  · exact k I9 Q _ (LI.next c8 b8 f9 m9 (k_hour hL.2.2.2 (evx r (i + 1)) (evx r (i + 2))))
  · exact absurd (e8.trans e9.symm) c
set_option maxHeartbeats 4000000 in
theorem g_at {r : Ev} {F : Post} {i : Nat} {I : MI} {Q : MQ2} {S : Sy} (hL : LI I Q S) (hi : i + 5 ≤ evn r) (hn : evn r ≤ 320) (k : ∀ I' Q' S', LI I' Q' S' → X r 8 yLw cL_law (4, some .boolean) (0, 0) 824 [some (.ref (evb r)), some (.ref (evz r + 0)), some (.ref (evz r + 148)), some (.int (nI i))] [] 159 I' Q' F) : X r 8 yLw cL_law (4, some .boolean) (0, 0) 288 [some (.ref (evb r)), some (.ref (evz r + 0)), some (.ref (evz r + 148)), some (.int (nI i))] [] 159 I Q F := by
  refine x_aload_1 dL_law_288 ?_
  refine x_aload_0 dL_law_289 ?_
  refine x_iload_3 dL_law_290 ?_
  refine x_const (c := 1) dL_law_291 rfl ?_
  refine x_iaddN dL_law_292 ?_
  refine x_ialdB dL_law_293 (by omega) hn ?_
  refine x_V1i dL_law_294 m_L_40 (c_X8_at hL.1 hL.2.2.2 (evx r (i + 1))) hL.1.at (fun x8 I8 h8 => ?_)
  obtain ⟨f8, c8, e8⟩ := h8
  obtain ⟨b8, m8⟩ := hL.mid f8
  refine x_aload_2 dL_law_297 ?_
  refine x_aload_0 dL_law_298 ?_
  refine x_iload_3 dL_law_299 ?_
  refine x_const (c := 1) dL_law_300 rfl ?_
  refine x_iaddN dL_law_301 ?_
  refine x_ialdB dL_law_302 (by omega) hn ?_
  refine x_V1i dL_law_303 m_L_43 (c_X9_at 148 b8 S m8 hL.2.2.2 (evx r (i + 1))) b8.at (fun x9 I9 h9 => ?_)
  obtain ⟨f9, m9, e9⟩ := h9
  refine x_icmp_eq dL_law_306 (fun c => ?_) (fun c => ?_)
  · exact k I9 Q _ (LI.next c8 b8 f9 m9 (k_at hL.2.2.2 (evx r (i + 1))))
  · exact absurd (e8.trans e9.symm) c
set_option maxHeartbeats 4000000 in
theorem g_pass {r : Ev} {F : Post} {i : Nat} {I : MI} {Q : MQ2} {S : Sy} (hL : LI I Q S) (hi : i + 5 ≤ evn r) (hn : evn r ≤ 320) (k : ∀ I' Q' S', LI I' Q' S' → X r 8 yLw cL_law (4, some .boolean) (0, 0) 824 [some (.ref (evb r)), some (.ref (evz r + 0)), some (.ref (evz r + 148)), some (.int (nI i))] [] 159 I' Q' F) : X r 8 yLw cL_law (4, some .boolean) (0, 0) 311 [some (.ref (evb r)), some (.ref (evz r + 0)), some (.ref (evz r + 148)), some (.int (nI i))] [] 159 I Q F := by
  refine x_aload_1 dL_law_311 ?_
  refine x_aload_0 dL_law_312 ?_
  refine x_iload_3 dL_law_313 ?_
  refine x_const (c := 1) dL_law_314 rfl ?_
  refine x_iaddN dL_law_315 ?_
  refine x_ialdB dL_law_316 (by omega) hn ?_
  refine x_V1I dL_law_317 m_L_44 (c_X8_pass hL.1 hL.2.2.2 (evx r (i + 1))) hL.1.at (fun x8 I8 Q8 h8 => ?_)
  obtain ⟨f8, c8, e8⟩ := h8
  obtain ⟨b8, m8⟩ := hL.mid f8
  refine x_aload_2 dL_law_320 ?_
  refine x_aload_0 dL_law_321 ?_
  refine x_iload_3 dL_law_322 ?_
  refine x_const (c := 1) dL_law_323 rfl ?_
  refine x_iaddN dL_law_324 ?_
  refine x_ialdB dL_law_325 (by omega) hn ?_
  refine x_V1i dL_law_326 m_L_47 (c_X9_pass 148 b8 S m8 hL.2.2.2 (evx r (i + 1))) b8.at (fun x9 I9 h9 => ?_)
  obtain ⟨f9, m9, e9⟩ := h9
  refine x_icmp_eq dL_law_329 (fun c => ?_) (fun c => ?_)
  · exact k I9 Q8 _ (LI.next c8 b8 f9 m9 (k_pass hL.2.2.2 (evx r (i + 1))))
  · exact absurd (e8.trans e9.symm) c
set_option maxHeartbeats 4000000 in
theorem g_shade {r : Ev} {F : Post} {i : Nat} {I : MI} {Q : MQ2} {S : Sy} (hL : LI I Q S) (hi : i + 5 ≤ evn r) (hn : evn r ≤ 320) (k : ∀ I' Q' S', LI I' Q' S' → X r 8 yLw cL_law (4, some .boolean) (0, 0) 824 [some (.ref (evb r)), some (.ref (evz r + 0)), some (.ref (evz r + 148)), some (.int (nI i))] [] 159 I' Q' F) : X r 8 yLw cL_law (4, some .boolean) (0, 0) 334 [some (.ref (evb r)), some (.ref (evz r + 0)), some (.ref (evz r + 148)), some (.int (nI i))] [] 159 I Q F := by
  refine x_aload_1 dL_law_334 ?_
  refine x_aload_0 dL_law_335 ?_
  refine x_iload_3 dL_law_336 ?_
  refine x_const (c := 1) dL_law_337 rfl ?_
  refine x_iaddN dL_law_338 ?_
  refine x_ialdB dL_law_339 (by omega) hn ?_
  refine x_V1I dL_law_340 m_L_48 (c_X8_shade hL.1 hL.2.2.2 (evx r (i + 1))) hL.1.at (fun x8 I8 Q8 h8 => ?_)
  obtain ⟨f8, c8, e8⟩ := h8
  obtain ⟨b8, m8⟩ := hL.mid f8
  refine x_aload_2 dL_law_343 ?_
  refine x_aload_0 dL_law_344 ?_
  refine x_iload_3 dL_law_345 ?_
  refine x_const (c := 1) dL_law_346 rfl ?_
  refine x_iaddN dL_law_347 ?_
  refine x_ialdB dL_law_348 (by omega) hn ?_
  refine x_V1i dL_law_349 m_L_51 (c_X9_shade 148 b8 S m8 hL.2.2.2 (evx r (i + 1))) b8.at (fun x9 I9 h9 => ?_)
  obtain ⟨f9, m9, e9⟩ := h9
  refine x_icmp_eq dL_law_352 (fun c => ?_) (fun c => ?_)
  · exact k I9 Q8 _ (LI.next c8 b8 f9 m9 (k_shade hL.2.2.2 (evx r (i + 1))))
  · exact absurd (e8.trans e9.symm) c
set_option maxHeartbeats 4000000 in
theorem g_cow {r : Ev} {F : Post} {i : Nat} {I : MI} {Q : MQ2} {S : Sy} (hL : LI I Q S) (hi : i + 5 ≤ evn r) (hn : evn r ≤ 320) (k : ∀ I' Q' S', LI I' Q' S' → X r 8 yLw cL_law (4, some .boolean) (0, 0) 824 [some (.ref (evb r)), some (.ref (evz r + 0)), some (.ref (evz r + 148)), some (.int (nI i))] [] 159 I' Q' F) : X r 8 yLw cL_law (4, some .boolean) (0, 0) 357 [some (.ref (evb r)), some (.ref (evz r + 0)), some (.ref (evz r + 148)), some (.int (nI i))] [] 159 I Q F := by
  refine x_aload_1 dL_law_357 ?_
  refine x_aload_0 dL_law_358 ?_
  refine x_iload_3 dL_law_359 ?_
  refine x_const (c := 1) dL_law_360 rfl ?_
  refine x_iaddN dL_law_361 ?_
  refine x_ialdB dL_law_362 (by omega) hn ?_
  refine x_V1I dL_law_363 m_L_52 (c_X8_cow hL.1 hL.2.2.2 (evx r (i + 1))) hL.1.at (fun x8 I8 Q8 h8 => ?_)
  obtain ⟨f8, c8, e8⟩ := h8
  obtain ⟨b8, m8⟩ := hL.mid f8
  refine x_aload_2 dL_law_366 ?_
  refine x_aload_0 dL_law_367 ?_
  refine x_iload_3 dL_law_368 ?_
  refine x_const (c := 1) dL_law_369 rfl ?_
  refine x_iaddN dL_law_370 ?_
  refine x_ialdB dL_law_371 (by omega) hn ?_
  refine x_V1i dL_law_372 m_L_55 (c_X9_cow 148 b8 S m8 hL.2.2.2 (evx r (i + 1))) b8.at (fun x9 I9 h9 => ?_)
  obtain ⟨f9, m9, e9⟩ := h9
  refine x_icmp_eq dL_law_375 (fun c => ?_) (fun c => ?_)
  · exact k I9 Q8 _ (LI.next c8 b8 f9 m9 (k_cow hL.2.2.2 (evx r (i + 1))))
  · exact absurd (e8.trans e9.symm) c
set_option maxHeartbeats 4000000 in
theorem g_tears {r : Ev} {F : Post} {i : Nat} {I : MI} {Q : MQ2} {S : Sy} (hL : LI I Q S) (hi : i + 5 ≤ evn r) (hn : evn r ≤ 320) (k : ∀ I' Q' S', LI I' Q' S' → X r 8 yLw cL_law (4, some .boolean) (0, 0) 824 [some (.ref (evb r)), some (.ref (evz r + 0)), some (.ref (evz r + 148)), some (.int (nI i))] [] 159 I' Q' F) : X r 8 yLw cL_law (4, some .boolean) (0, 0) 380 [some (.ref (evb r)), some (.ref (evz r + 0)), some (.ref (evz r + 148)), some (.int (nI i))] [] 159 I Q F := by
  refine x_aload_1 dL_law_380 ?_
  refine x_aload_0 dL_law_381 ?_
  refine x_iload_3 dL_law_382 ?_
  refine x_const (c := 1) dL_law_383 rfl ?_
  refine x_iaddN dL_law_384 ?_
  refine x_ialdB dL_law_385 (by omega) hn ?_
  refine x_V1I dL_law_386 m_L_56 (c_X8_tears hL.1 hL.2.2.2 (evx r (i + 1))) hL.1.at (fun x8 I8 Q8 h8 => ?_)
  obtain ⟨f8, c8, e8⟩ := h8
  obtain ⟨b8, m8⟩ := hL.mid f8
  refine x_aload_2 dL_law_389 ?_
  refine x_aload_0 dL_law_390 ?_
  refine x_iload_3 dL_law_391 ?_
  refine x_const (c := 1) dL_law_392 rfl ?_
  refine x_iaddN dL_law_393 ?_
  refine x_ialdB dL_law_394 (by omega) hn ?_
  refine x_V1i dL_law_395 m_L_59 (c_X9_tears 148 b8 S m8 hL.2.2.2 (evx r (i + 1))) b8.at (fun x9 I9 h9 => ?_)
  obtain ⟨f9, m9, e9⟩ := h9
  refine x_icmp_eq dL_law_398 (fun c => ?_) (fun c => ?_)
  · exact k I9 Q8 _ (LI.next c8 b8 f9 m9 (k_tears hL.2.2.2 (evx r (i + 1))))
  · exact absurd (e8.trans e9.symm) c
set_option maxHeartbeats 4000000 in
theorem g_set {r : Ev} {F : Post} {i : Nat} {I : MI} {Q : MQ2} {S : Sy} (hL : LI I Q S) (hi : i + 5 ≤ evn r) (hn : evn r ≤ 320) (k : ∀ I' Q' S', LI I' Q' S' → X r 8 yLw cL_law (4, some .boolean) (0, 0) 824 [some (.ref (evb r)), some (.ref (evz r + 0)), some (.ref (evz r + 148)), some (.int (nI i))] [] 159 I' Q' F) : X r 8 yLw cL_law (4, some .boolean) (0, 0) 403 [some (.ref (evb r)), some (.ref (evz r + 0)), some (.ref (evz r + 148)), some (.int (nI i))] [] 159 I Q F := by
  refine x_aload_1 dL_law_403 ?_
  refine x_aload_0 dL_law_404 ?_
  refine x_iload_3 dL_law_405 ?_
  refine x_const (c := 1) dL_law_406 rfl ?_
  refine x_iaddN dL_law_407 ?_
  refine x_ialdB dL_law_408 (by omega) hn ?_
  refine x_aload_0 dL_law_409 ?_
  refine x_iload_3 dL_law_410 ?_
  refine x_const (c := 2) dL_law_411 rfl ?_
  refine x_iaddN dL_law_412 ?_
  refine x_ialdB dL_law_413 (by omega) hn ?_
  refine x_V2I dL_law_414 m_L_60 (c_X8_set hL.1 hL.2.2.2 (evx r (i + 1)) (evx r (i + 2))) hL.1.at (fun x8 I8 Q8 h8 => ?_)
  obtain ⟨f8, c8, e8⟩ := h8
  obtain ⟨b8, m8⟩ := hL.mid f8
  refine x_aload_2 dL_law_417 ?_
  refine x_aload_0 dL_law_418 ?_
  refine x_iload_3 dL_law_419 ?_
  refine x_const (c := 1) dL_law_420 rfl ?_
  refine x_iaddN dL_law_421 ?_
  refine x_ialdB dL_law_422 (by omega) hn ?_
  refine x_aload_0 dL_law_423 ?_
  refine x_iload_3 dL_law_424 ?_
  refine x_const (c := 2) dL_law_425 rfl ?_
  refine x_iaddN dL_law_426 ?_
  refine x_ialdB dL_law_427 (by omega) hn ?_
  refine x_V2i dL_law_428 m_L_63 (c_X9_set 148 b8 S m8 hL.2.2.2 (evx r (i + 1)) (evx r (i + 2))) b8.at (fun x9 I9 h9 => ?_)
  obtain ⟨f9, m9, e9⟩ := h9
  refine x_icmp_eq dL_law_431 (fun c => ?_) (fun c => ?_)
  · exact k I9 Q8 _ (LI.next c8 b8 f9 m9 (k_set hL.2.2.2 (evx r (i + 1)) (evx r (i + 2))))
  · exact absurd (e8.trans e9.symm) c
set_option maxHeartbeats 4000000 in
theorem g_undo {r : Ev} {F : Post} {i : Nat} {I : MI} {Q : MQ2} {S : Sy} (hL : LI I Q S) (hi : i + 5 ≤ evn r) (hn : evn r ≤ 320) (k : ∀ I' Q' S', LI I' Q' S' → X r 8 yLw cL_law (4, some .boolean) (0, 0) 824 [some (.ref (evb r)), some (.ref (evz r + 0)), some (.ref (evz r + 148)), some (.int (nI i))] [] 159 I' Q' F) : X r 8 yLw cL_law (4, some .boolean) (0, 0) 436 [some (.ref (evb r)), some (.ref (evz r + 0)), some (.ref (evz r + 148)), some (.int (nI i))] [] 159 I Q F := by
  refine x_aload_1 dL_law_436 ?_
  refine x_V0i dL_law_437 m_L_64 (c_X8_undo hL.1 hL.2.2.2) hL.1.at (fun x8 I8 h8 => ?_)
  obtain ⟨f8, c8, e8⟩ := h8
  obtain ⟨b8, m8⟩ := hL.mid f8
  refine x_aload_2 dL_law_440 ?_
  refine x_V0i dL_law_441 m_L_67 (c_X9_undo 148 b8 (yt S) (yan S) (yav S) hL.2.2.2.2.2.1.1 m8.2.2.2.1.1 hL.2.2.2.2.2.2.2.2.2.2.1 m8.2.2.2.1.2) b8.at (fun x9 I9 h9 => ?_)
  have h9 := p_undo m8 hL.2.2.2.2.2.1.1 h9
  obtain ⟨f9, m9, e9⟩ := h9
  refine x_icmp_eq dL_law_444 (fun c => ?_) (fun c => ?_)
  · exact k I9 Q _ (LI.next c8 b8 f9 m9 (k_undo hL.2.2.2))
  · exact absurd (e8.trans e9.symm) c
set_option maxHeartbeats 4000000 in
theorem g_behind {r : Ev} {F : Post} {i : Nat} {I : MI} {Q : MQ2} {S : Sy} (hL : LI I Q S) (hi : i + 5 ≤ evn r) (hn : evn r ≤ 320) (k : ∀ I' Q' S', LI I' Q' S' → X r 8 yLw cL_law (4, some .boolean) (0, 0) 824 [some (.ref (evb r)), some (.ref (evz r + 0)), some (.ref (evz r + 148)), some (.int (nI i))] [] 159 I' Q' F) : X r 8 yLw cL_law (4, some .boolean) (0, 0) 449 [some (.ref (evb r)), some (.ref (evz r + 0)), some (.ref (evz r + 148)), some (.int (nI i))] [] 159 I Q F := by
  refine x_aload_1 dL_law_449 ?_
  refine x_aload_0 dL_law_450 ?_
  refine x_iload_3 dL_law_451 ?_
  refine x_const (c := 1) dL_law_452 rfl ?_
  refine x_iaddN dL_law_453 ?_
  refine x_ialdB dL_law_454 (by omega) hn ?_
  refine x_aload_0 dL_law_455 ?_
  refine x_iload_3 dL_law_456 ?_
  refine x_const (c := 2) dL_law_457 rfl ?_
  refine x_iaddN dL_law_458 ?_
  refine x_ialdB dL_law_459 (by omega) hn ?_
  refine x_aload_0 dL_law_460 ?_
  refine x_iload_3 dL_law_461 ?_
  refine x_const (c := 3) dL_law_462 rfl ?_
  refine x_iaddN dL_law_463 ?_
  refine x_ialdB dL_law_464 (by omega) hn ?_
  refine x_V3i dL_law_465 m_L_68 (c_X8_behind hL.1 hL.2.2.2 (evx r (i + 1)) (evx r (i + 2)) (evx r (i + 3))) hL.1.at (fun x8 I8 h8 => ?_)
  obtain ⟨f8, c8, e8⟩ := h8
  obtain ⟨b8, m8⟩ := hL.mid f8
  refine x_aload_2 dL_law_468 ?_
  refine x_aload_0 dL_law_469 ?_
  refine x_iload_3 dL_law_470 ?_
  refine x_const (c := 1) dL_law_471 rfl ?_
  refine x_iaddN dL_law_472 ?_
  refine x_ialdB dL_law_473 (by omega) hn ?_
  refine x_aload_0 dL_law_474 ?_
  refine x_iload_3 dL_law_475 ?_
  refine x_const (c := 2) dL_law_476 rfl ?_
  refine x_iaddN dL_law_477 ?_
  refine x_ialdB dL_law_478 (by omega) hn ?_
  refine x_aload_0 dL_law_479 ?_
  refine x_iload_3 dL_law_480 ?_
  refine x_const (c := 3) dL_law_481 rfl ?_
  refine x_iaddN dL_law_482 ?_
  refine x_ialdB dL_law_483 (by omega) hn ?_
  refine x_V3i dL_law_484 m_L_72 (c_X9_behind 148 b8 S m8 hL.2.2.2 (evx r (i + 1)) (evx r (i + 2)) (evx r (i + 3))) b8.at (fun x9 I9 h9 => ?_)
  obtain ⟨f9, m9, e9⟩ := h9
  refine x_icmp_eq dL_law_487 (fun c => ?_) (fun c => ?_)
  · exact k I9 Q _ (LI.next c8 b8 f9 m9 (k_behind hL.2.2.2 (evx r (i + 1)) (evx r (i + 2)) (evx r (i + 3))))
  · exact absurd (e8.trans e9.symm) c
set_option maxHeartbeats 4000000 in
theorem g_yards {r : Ev} {F : Post} {i : Nat} {I : MI} {Q : MQ2} {S : Sy} (hL : LI I Q S) (hi : i + 5 ≤ evn r) (hn : evn r ≤ 320) (k : ∀ I' Q' S', LI I' Q' S' → X r 8 yLw cL_law (4, some .boolean) (0, 0) 824 [some (.ref (evb r)), some (.ref (evz r + 0)), some (.ref (evz r + 148)), some (.int (nI i))] [] 159 I' Q' F) : X r 8 yLw cL_law (4, some .boolean) (0, 0) 492 [some (.ref (evb r)), some (.ref (evz r + 0)), some (.ref (evz r + 148)), some (.int (nI i))] [] 159 I Q F := by
  refine x_aload_1 dL_law_492 ?_
  refine x_V0i dL_law_493 m_L_73 (c_X8_yards hL.1 hL.2.2.2) hL.1.at (fun x8 I8 h8 => ?_)
  obtain ⟨f8, c8, e8⟩ := h8
  obtain ⟨b8, m8⟩ := hL.mid f8
  refine x_aload_2 dL_law_496 ?_
  refine x_V0i dL_law_497 m_L_76 (c_X9_yards 148 b8 S m8 hL.2.2.2) b8.at (fun x9 I9 h9 => ?_)
  obtain ⟨f9, m9, e9⟩ := h9
  refine x_icmp_eq dL_law_500 (fun c => ?_) (fun c => ?_)
  · exact k I9 Q _ (LI.next c8 b8 f9 m9 (k_yards hL.2.2.2))
  · exact absurd (e8.trans e9.symm) c
set_option maxHeartbeats 4000000 in
theorem g_setting {r : Ev} {F : Post} {i : Nat} {I : MI} {Q : MQ2} {S : Sy} (hL : LI I Q S) (hi : i + 5 ≤ evn r) (hn : evn r ≤ 320) (k : ∀ I' Q' S', LI I' Q' S' → X r 8 yLw cL_law (4, some .boolean) (0, 0) 824 [some (.ref (evb r)), some (.ref (evz r + 0)), some (.ref (evz r + 148)), some (.int (nI i))] [] 159 I' Q' F) : X r 8 yLw cL_law (4, some .boolean) (0, 0) 505 [some (.ref (evb r)), some (.ref (evz r + 0)), some (.ref (evz r + 148)), some (.int (nI i))] [] 159 I Q F := by
  refine x_aload_1 dL_law_505 ?_
  refine x_aload_0 dL_law_506 ?_
  refine x_iload_3 dL_law_507 ?_
  refine x_const (c := 1) dL_law_508 rfl ?_
  refine x_iaddN dL_law_509 ?_
  refine x_ialdB dL_law_510 (by omega) hn ?_
  refine x_V1i dL_law_511 m_L_77 (c_X8_setting hL.1 hL.2.2.2 (evx r (i + 1))) hL.1.at (fun x8 I8 h8 => ?_)
  obtain ⟨f8, c8, e8⟩ := h8
  obtain ⟨b8, m8⟩ := hL.mid f8
  refine x_aload_2 dL_law_514 ?_
  refine x_aload_0 dL_law_515 ?_
  refine x_iload_3 dL_law_516 ?_
  refine x_const (c := 1) dL_law_517 rfl ?_
  refine x_iaddN dL_law_518 ?_
  refine x_ialdB dL_law_519 (by omega) hn ?_
  refine x_V1i dL_law_520 m_L_80 (c_X9_setting 148 b8 S m8 hL.2.2.2 (evx r (i + 1))) b8.at (fun x9 I9 h9 => ?_)
  obtain ⟨f9, m9, e9⟩ := h9
  refine x_icmp_eq dL_law_523 (fun c => ?_) (fun c => ?_)
  · exact k I9 Q _ (LI.next c8 b8 f9 m9 (k_setting hL.2.2.2 (evx r (i + 1))))
  · exact absurd (e8.trans e9.symm) c
set_option maxHeartbeats 4000000 in
theorem g_shading {r : Ev} {F : Post} {i : Nat} {I : MI} {Q : MQ2} {S : Sy} (hL : LI I Q S) (hi : i + 5 ≤ evn r) (hn : evn r ≤ 320) (k : ∀ I' Q' S', LI I' Q' S' → X r 8 yLw cL_law (4, some .boolean) (0, 0) 824 [some (.ref (evb r)), some (.ref (evz r + 0)), some (.ref (evz r + 148)), some (.int (nI i))] [] 159 I' Q' F) : X r 8 yLw cL_law (4, some .boolean) (0, 0) 528 [some (.ref (evb r)), some (.ref (evz r + 0)), some (.ref (evz r + 148)), some (.int (nI i))] [] 159 I Q F := by
  refine x_aload_1 dL_law_528 ?_
  refine x_aload_0 dL_law_529 ?_
  refine x_iload_3 dL_law_530 ?_
  refine x_const (c := 1) dL_law_531 rfl ?_
  refine x_iaddN dL_law_532 ?_
  refine x_ialdB dL_law_533 (by omega) hn ?_
  refine x_V1i dL_law_534 m_L_81 (c_X8_shading hL.1 hL.2.2.2 (evx r (i + 1))) hL.1.at (fun x8 I8 h8 => ?_)
  obtain ⟨f8, c8, e8⟩ := h8
  obtain ⟨b8, m8⟩ := hL.mid f8
  refine x_aload_2 dL_law_537 ?_
  refine x_aload_0 dL_law_538 ?_
  refine x_iload_3 dL_law_539 ?_
  refine x_const (c := 1) dL_law_540 rfl ?_
  refine x_iaddN dL_law_541 ?_
  refine x_ialdB dL_law_542 (by omega) hn ?_
  refine x_V1i dL_law_543 m_L_84 (c_X9_shading 148 b8 S m8 hL.2.2.2 (evx r (i + 1))) b8.at (fun x9 I9 h9 => ?_)
  obtain ⟨f9, m9, e9⟩ := h9
  refine x_icmp_eq dL_law_546 (fun c => ?_) (fun c => ?_)
  · exact k I9 Q _ (LI.next c8 b8 f9 m9 (k_shading hL.2.2.2 (evx r (i + 1))))
  · exact absurd (e8.trans e9.symm) c
set_option maxHeartbeats 4000000 in
theorem g_wants {r : Ev} {F : Post} {i : Nat} {I : MI} {Q : MQ2} {S : Sy} (hL : LI I Q S) (hi : i + 5 ≤ evn r) (hn : evn r ≤ 320) (k : ∀ I' Q' S', LI I' Q' S' → X r 8 yLw cL_law (4, some .boolean) (0, 0) 824 [some (.ref (evb r)), some (.ref (evz r + 0)), some (.ref (evz r + 148)), some (.int (nI i))] [] 159 I' Q' F) : X r 8 yLw cL_law (4, some .boolean) (0, 0) 551 [some (.ref (evb r)), some (.ref (evz r + 0)), some (.ref (evz r + 148)), some (.int (nI i))] [] 159 I Q F := by
  refine x_aload_1 dL_law_551 ?_
  refine x_aload_0 dL_law_552 ?_
  refine x_iload_3 dL_law_553 ?_
  refine x_const (c := 1) dL_law_554 rfl ?_
  refine x_iaddN dL_law_555 ?_
  refine x_ialdB dL_law_556 (by omega) hn ?_
  refine x_V1i dL_law_557 m_L_85 (c_X8_wants hL.1 hL.2.2.2 (evx r (i + 1))) hL.1.at (fun x8 I8 h8 => ?_)
  obtain ⟨f8, c8, e8⟩ := h8
  obtain ⟨b8, m8⟩ := hL.mid f8
  refine x_aload_2 dL_law_560 ?_
  refine x_aload_0 dL_law_561 ?_
  refine x_iload_3 dL_law_562 ?_
  refine x_const (c := 1) dL_law_563 rfl ?_
  refine x_iaddN dL_law_564 ?_
  refine x_ialdB dL_law_565 (by omega) hn ?_
  refine x_V1i dL_law_566 m_L_88 (c_X9_wants 148 b8 S m8 hL.2.2.2 (evx r (i + 1))) b8.at (fun x9 I9 h9 => ?_)
  obtain ⟨f9, m9, e9⟩ := h9
  refine x_icmp_eq dL_law_569 (fun c => ?_) (fun c => ?_)
  · exact k I9 Q _ (LI.next c8 b8 f9 m9 (k_wants hL.2.2.2 (evx r (i + 1))))
  · exact absurd (e8.trans e9.symm) c
set_option maxHeartbeats 4000000 in
theorem g_drips {r : Ev} {F : Post} {i : Nat} {I : MI} {Q : MQ2} {S : Sy} (hL : LI I Q S) (hi : i + 5 ≤ evn r) (hn : evn r ≤ 320) (k : ∀ I' Q' S', LI I' Q' S' → X r 8 yLw cL_law (4, some .boolean) (0, 0) 824 [some (.ref (evb r)), some (.ref (evz r + 0)), some (.ref (evz r + 148)), some (.int (nI i))] [] 159 I' Q' F) : X r 8 yLw cL_law (4, some .boolean) (0, 0) 574 [some (.ref (evb r)), some (.ref (evz r + 0)), some (.ref (evz r + 148)), some (.int (nI i))] [] 159 I Q F := by
  refine x_aload_1 dL_law_574 ?_
  refine x_aload_0 dL_law_575 ?_
  refine x_iload_3 dL_law_576 ?_
  refine x_const (c := 1) dL_law_577 rfl ?_
  refine x_iaddN dL_law_578 ?_
  refine x_ialdB dL_law_579 (by omega) hn ?_
  refine x_V1i dL_law_580 m_L_89 (c_X8_drips hL.1 hL.2.2.2 (evx r (i + 1))) hL.1.at (fun x8 I8 h8 => ?_)
  obtain ⟨f8, c8, e8⟩ := h8
  obtain ⟨b8, m8⟩ := hL.mid f8
  refine x_aload_2 dL_law_583 ?_
  refine x_aload_0 dL_law_584 ?_
  refine x_iload_3 dL_law_585 ?_
  refine x_const (c := 1) dL_law_586 rfl ?_
  refine x_iaddN dL_law_587 ?_
  refine x_ialdB dL_law_588 (by omega) hn ?_
  refine x_V1i dL_law_589 m_L_92 (c_X9_drips 148 b8 S m8 hL.2.2.2 (evx r (i + 1))) b8.at (fun x9 I9 h9 => ?_)
  obtain ⟨f9, m9, e9⟩ := h9
  refine x_icmp_eq dL_law_592 (fun c => ?_) (fun c => ?_)
  · exact k I9 Q _ (LI.next c8 b8 f9 m9 (k_drips hL.2.2.2 (evx r (i + 1))))
  · exact absurd (e8.trans e9.symm) c
set_option maxHeartbeats 4000000 in
theorem g_seen {r : Ev} {F : Post} {i : Nat} {I : MI} {Q : MQ2} {S : Sy} (hL : LI I Q S) (hi : i + 5 ≤ evn r) (hn : evn r ≤ 320) (k : ∀ I' Q' S', LI I' Q' S' → X r 8 yLw cL_law (4, some .boolean) (0, 0) 824 [some (.ref (evb r)), some (.ref (evz r + 0)), some (.ref (evz r + 148)), some (.int (nI i))] [] 159 I' Q' F) : X r 8 yLw cL_law (4, some .boolean) (0, 0) 597 [some (.ref (evb r)), some (.ref (evz r + 0)), some (.ref (evz r + 148)), some (.int (nI i))] [] 159 I Q F := by
  refine x_aload_1 dL_law_597 ?_
  refine x_aload_0 dL_law_598 ?_
  refine x_iload_3 dL_law_599 ?_
  refine x_const (c := 1) dL_law_600 rfl ?_
  refine x_iaddN dL_law_601 ?_
  refine x_ialdB dL_law_602 (by omega) hn ?_
  refine x_aload_0 dL_law_603 ?_
  refine x_iload_3 dL_law_604 ?_
  refine x_const (c := 2) dL_law_605 rfl ?_
  refine x_iaddN dL_law_606 ?_
  refine x_ialdB dL_law_607 (by omega) hn ?_
  refine x_aload_0 dL_law_608 ?_
  refine x_iload_3 dL_law_609 ?_
  refine x_const (c := 3) dL_law_610 rfl ?_
  refine x_iaddN dL_law_611 ?_
  refine x_ialdB dL_law_612 (by omega) hn ?_
  refine x_V3i dL_law_613 m_L_93 (c_X8_seen hL.1 hL.2.2.2 (evx r (i + 1)) (evx r (i + 2)) (evx r (i + 3))) hL.1.at (fun x8 I8 h8 => ?_)
  obtain ⟨f8, c8, e8⟩ := h8
  obtain ⟨b8, m8⟩ := hL.mid f8
  refine x_aload_2 dL_law_616 ?_
  refine x_aload_0 dL_law_617 ?_
  refine x_iload_3 dL_law_618 ?_
  refine x_const (c := 1) dL_law_619 rfl ?_
  refine x_iaddN dL_law_620 ?_
  refine x_ialdB dL_law_621 (by omega) hn ?_
  refine x_aload_0 dL_law_622 ?_
  refine x_iload_3 dL_law_623 ?_
  refine x_const (c := 2) dL_law_624 rfl ?_
  refine x_iaddN dL_law_625 ?_
  refine x_ialdB dL_law_626 (by omega) hn ?_
  refine x_aload_0 dL_law_627 ?_
  refine x_iload_3 dL_law_628 ?_
  refine x_const (c := 3) dL_law_629 rfl ?_
  refine x_iaddN dL_law_630 ?_
  refine x_ialdB dL_law_631 (by omega) hn ?_
  refine x_V3i dL_law_632 m_L_96 (c_X9_seen 148 b8 S m8 hL.2.2.2 (evx r (i + 1)) (evx r (i + 2)) (evx r (i + 3))) b8.at (fun x9 I9 h9 => ?_)
  obtain ⟨f9, m9, e9⟩ := h9
  refine x_icmp_eq dL_law_635 (fun c => ?_) (fun c => ?_)
  · exact k I9 Q _ (LI.next c8 b8 f9 m9 (k_seen hL.2.2.2 (evx r (i + 1)) (evx r (i + 2)) (evx r (i + 3))))
  · exact absurd (e8.trans e9.symm) c
set_option maxHeartbeats 4000000 in
theorem g_forget {r : Ev} {F : Post} {i : Nat} {I : MI} {Q : MQ2} {S : Sy} (hL : LI I Q S) (hi : i + 5 ≤ evn r) (hn : evn r ≤ 320) (k : ∀ I' Q' S', LI I' Q' S' → X r 8 yLw cL_law (4, some .boolean) (0, 0) 824 [some (.ref (evb r)), some (.ref (evz r + 0)), some (.ref (evz r + 148)), some (.int (nI i))] [] 159 I' Q' F) : X r 8 yLw cL_law (4, some .boolean) (0, 0) 640 [some (.ref (evb r)), some (.ref (evz r + 0)), some (.ref (evz r + 148)), some (.int (nI i))] [] 159 I Q F := by
  refine x_aload_1 dL_law_640 ?_
  refine x_V0i dL_law_641 m_L_97 (c_X8_forget hL.1 hL.2.2.2) hL.1.at (fun x8 I8 h8 => ?_)
  obtain ⟨f8, c8, e8⟩ := h8
  obtain ⟨b8, m8⟩ := hL.mid f8
  refine x_aload_2 dL_law_644 ?_
  refine x_V0i dL_law_645 m_L_100 (c_X9_forget 148 b8 S m8 hL.2.2.2) b8.at (fun x9 I9 h9 => ?_)
  obtain ⟨f9, m9, e9⟩ := h9
  refine x_icmp_eq dL_law_648 (fun c => ?_) (fun c => ?_)
  · exact k I9 Q _ (LI.next c8 b8 f9 m9 (k_forget hL.2.2.2))
  · exact absurd (e8.trans e9.symm) c
set_option maxHeartbeats 4000000 in
theorem g_cows {r : Ev} {F : Post} {i : Nat} {I : MI} {Q : MQ2} {S : Sy} (hL : LI I Q S) (hi : i + 5 ≤ evn r) (hn : evn r ≤ 320) (k : ∀ I' Q' S', LI I' Q' S' → X r 8 yLw cL_law (4, some .boolean) (0, 0) 824 [some (.ref (evb r)), some (.ref (evz r + 0)), some (.ref (evz r + 148)), some (.int (nI i))] [] 159 I' Q' F) : X r 8 yLw cL_law (4, some .boolean) (0, 0) 653 [some (.ref (evb r)), some (.ref (evz r + 0)), some (.ref (evz r + 148)), some (.int (nI i))] [] 159 I Q F := by
  refine x_aload_1 dL_law_653 ?_
  refine x_V0i dL_law_654 m_L_101 (c_X8_cows hL.1 hL.2.2.2) hL.1.at (fun x8 I8 h8 => ?_)
  obtain ⟨f8, c8, e8⟩ := h8
  obtain ⟨b8, m8⟩ := hL.mid f8
  refine x_aload_2 dL_law_657 ?_
  refine x_V0i dL_law_658 m_L_104 (c_X9_cows 148 b8 S m8 hL.2.2.2) b8.at (fun x9 I9 h9 => ?_)
  obtain ⟨f9, m9, e9⟩ := h9
  refine x_icmp_eq dL_law_661 (fun c => ?_) (fun c => ?_)
  · exact k I9 Q _ (LI.next c8 b8 f9 m9 (k_cows hL.2.2.2))
  · exact absurd (e8.trans e9.symm) c
set_option maxHeartbeats 4000000 in
theorem g_colds {r : Ev} {F : Post} {i : Nat} {I : MI} {Q : MQ2} {S : Sy} (hL : LI I Q S) (hi : i + 5 ≤ evn r) (hn : evn r ≤ 320) (k : ∀ I' Q' S', LI I' Q' S' → X r 8 yLw cL_law (4, some .boolean) (0, 0) 824 [some (.ref (evb r)), some (.ref (evz r + 0)), some (.ref (evz r + 148)), some (.int (nI i))] [] 159 I' Q' F) : X r 8 yLw cL_law (4, some .boolean) (0, 0) 666 [some (.ref (evb r)), some (.ref (evz r + 0)), some (.ref (evz r + 148)), some (.int (nI i))] [] 159 I Q F := by
  refine x_aload_1 dL_law_666 ?_
  refine x_V0i dL_law_667 m_L_105 (c_X8_colds hL.1 hL.2.2.2) hL.1.at (fun x8 I8 h8 => ?_)
  obtain ⟨f8, c8, e8⟩ := h8
  obtain ⟨b8, m8⟩ := hL.mid f8
  refine x_aload_2 dL_law_670 ?_
  refine x_V0i dL_law_671 m_L_108 (c_X9_colds 148 b8 S m8 hL.2.2.2) b8.at (fun x9 I9 h9 => ?_)
  obtain ⟨f9, m9, e9⟩ := h9
  refine x_icmp_eq dL_law_674 (fun c => ?_) (fun c => ?_)
  · exact k I9 Q _ (LI.next c8 b8 f9 m9 (k_colds hL.2.2.2))
  · exact absurd (e8.trans e9.symm) c
set_option maxHeartbeats 4000000 in
theorem g_likely {r : Ev} {F : Post} {i : Nat} {I : MI} {Q : MQ2} {S : Sy} (hL : LI I Q S) (hi : i + 5 ≤ evn r) (hn : evn r ≤ 320) (k : ∀ I' Q' S', LI I' Q' S' → X r 8 yLw cL_law (4, some .boolean) (0, 0) 824 [some (.ref (evb r)), some (.ref (evz r + 0)), some (.ref (evz r + 148)), some (.int (nI i))] [] 159 I' Q' F) : X r 8 yLw cL_law (4, some .boolean) (0, 0) 679 [some (.ref (evb r)), some (.ref (evz r + 0)), some (.ref (evz r + 148)), some (.int (nI i))] [] 159 I Q F := by
  refine x_aload_1 dL_law_679 ?_
  refine x_aload_0 dL_law_680 ?_
  refine x_iload_3 dL_law_681 ?_
  refine x_const (c := 1) dL_law_682 rfl ?_
  refine x_iaddN dL_law_683 ?_
  refine x_ialdB dL_law_684 (by omega) hn ?_
  refine x_aload_0 dL_law_685 ?_
  refine x_iload_3 dL_law_686 ?_
  refine x_const (c := 2) dL_law_687 rfl ?_
  refine x_iaddN dL_law_688 ?_
  refine x_ialdB dL_law_689 (by omega) hn ?_
  refine x_aload_0 dL_law_690 ?_
  refine x_iload_3 dL_law_691 ?_
  refine x_const (c := 3) dL_law_692 rfl ?_
  refine x_iaddN dL_law_693 ?_
  refine x_ialdB dL_law_694 (by omega) hn ?_
  refine x_aload_0 dL_law_695 ?_
  refine x_iload_3 dL_law_696 ?_
  refine x_const (c := 4) dL_law_697 rfl ?_
  refine x_iaddN dL_law_698 ?_
  refine x_ialdB dL_law_699 (by omega) hn ?_
  refine x_V4i dL_law_700 m_L_109 (c_X8_likely hL.1 hL.2.2.2 (evx r (i + 1)) (evx r (i + 2)) (evx r (i + 3)) (evx r (i + 4))) hL.1.at (fun x8 I8 h8 => ?_)
  obtain ⟨f8, c8, e8⟩ := h8
  obtain ⟨b8, m8⟩ := hL.mid f8
  refine x_aload_2 dL_law_703 ?_
  refine x_aload_0 dL_law_704 ?_
  refine x_iload_3 dL_law_705 ?_
  refine x_const (c := 1) dL_law_706 rfl ?_
  refine x_iaddN dL_law_707 ?_
  refine x_ialdB dL_law_708 (by omega) hn ?_
  refine x_aload_0 dL_law_709 ?_
  refine x_iload_3 dL_law_710 ?_
  refine x_const (c := 2) dL_law_711 rfl ?_
  refine x_iaddN dL_law_712 ?_
  refine x_ialdB dL_law_713 (by omega) hn ?_
  refine x_aload_0 dL_law_714 ?_
  refine x_iload_3 dL_law_715 ?_
  refine x_const (c := 3) dL_law_716 rfl ?_
  refine x_iaddN dL_law_717 ?_
  refine x_ialdB dL_law_718 (by omega) hn ?_
  refine x_aload_0 dL_law_719 ?_
  refine x_iload_3 dL_law_720 ?_
  refine x_const (c := 4) dL_law_721 rfl ?_
  refine x_iaddN dL_law_722 ?_
  refine x_ialdB dL_law_723 (by omega) hn ?_
  refine x_V4i dL_law_724 m_L_113 (c_X9_likely 148 b8 S m8 hL.2.2.2 (evx r (i + 1)) (evx r (i + 2)) (evx r (i + 3)) (evx r (i + 4))) b8.at (fun x9 I9 h9 => ?_)
  obtain ⟨f9, m9, e9⟩ := h9
  refine x_icmp_eq dL_law_727 (fun c => ?_) (fun c => ?_)
  · exact k I9 Q _ (LI.next c8 b8 f9 m9 (k_likely hL.2.2.2 (evx r (i + 1)) (evx r (i + 2)) (evx r (i + 3)) (evx r (i + 4))))
  · exact absurd (e8.trans e9.symm) c
set_option maxHeartbeats 4000000 in
theorem g_year {r : Ev} {F : Post} {i : Nat} {I : MI} {Q : MQ2} {S : Sy} (hL : LI I Q S) (hi : i + 5 ≤ evn r) (hn : evn r ≤ 320) (k : ∀ I' Q' S', LI I' Q' S' → X r 8 yLw cL_law (4, some .boolean) (0, 0) 824 [some (.ref (evb r)), some (.ref (evz r + 0)), some (.ref (evz r + 148)), some (.int (nI i))] [] 159 I' Q' F) : X r 8 yLw cL_law (4, some .boolean) (0, 0) 732 [some (.ref (evb r)), some (.ref (evz r + 0)), some (.ref (evz r + 148)), some (.int (nI i))] [] 159 I Q F := by
  refine x_aload_1 dL_law_732 ?_
  refine x_aload_0 dL_law_733 ?_
  refine x_iload_3 dL_law_734 ?_
  refine x_const (c := 1) dL_law_735 rfl ?_
  refine x_iaddN dL_law_736 ?_
  refine x_ialdB dL_law_737 (by omega) hn ?_
  refine x_aload_0 dL_law_738 ?_
  refine x_iload_3 dL_law_739 ?_
  refine x_const (c := 2) dL_law_740 rfl ?_
  refine x_iaddN dL_law_741 ?_
  refine x_ialdB dL_law_742 (by omega) hn ?_
  refine x_aload_0 dL_law_743 ?_
  refine x_iload_3 dL_law_744 ?_
  refine x_const (c := 3) dL_law_745 rfl ?_
  refine x_iaddN dL_law_746 ?_
  refine x_ialdB dL_law_747 (by omega) hn ?_
  refine x_V3i dL_law_748 m_L_114 (c_X8_year hL.1 hL.2.2.2 (evx r (i + 1)) (evx r (i + 2)) (evx r (i + 3))) hL.1.at (fun x8 I8 h8 => ?_)
  obtain ⟨f8, c8, e8⟩ := h8
  obtain ⟨b8, m8⟩ := hL.mid f8
  refine x_aload_2 dL_law_751 ?_
  refine x_aload_0 dL_law_752 ?_
  refine x_iload_3 dL_law_753 ?_
  refine x_const (c := 1) dL_law_754 rfl ?_
  refine x_iaddN dL_law_755 ?_
  refine x_ialdB dL_law_756 (by omega) hn ?_
  refine x_aload_0 dL_law_757 ?_
  refine x_iload_3 dL_law_758 ?_
  refine x_const (c := 2) dL_law_759 rfl ?_
  refine x_iaddN dL_law_760 ?_
  refine x_ialdB dL_law_761 (by omega) hn ?_
  refine x_aload_0 dL_law_762 ?_
  refine x_iload_3 dL_law_763 ?_
  refine x_const (c := 3) dL_law_764 rfl ?_
  refine x_iaddN dL_law_765 ?_
  refine x_ialdB dL_law_766 (by omega) hn ?_
  refine x_V3i dL_law_767 m_L_117 (c_X9_year 148 b8 S m8 hL.2.2.2 (evx r (i + 1)) (evx r (i + 2)) (evx r (i + 3))) b8.at (fun x9 I9 h9 => ?_)
  obtain ⟨f9, m9, e9⟩ := h9
  refine x_icmp_eq dL_law_770 (fun c => ?_) (fun c => ?_)
  · exact k I9 Q _ (LI.next c8 b8 f9 m9 (k_year hL.2.2.2 (evx r (i + 1)) (evx r (i + 2)) (evx r (i + 3))))
  · exact absurd (e8.trans e9.symm) c
set_option maxHeartbeats 4000000 in
theorem g_keep {r : Ev} {F : Post} {i : Nat} {I : MI} {Q : MQ2} {S : Sy} (hL : LI I Q S) (hi : i + 5 ≤ evn r) (hn : evn r ≤ 320) (k : ∀ I' Q' S', LI I' Q' S' → X r 8 yLw cL_law (4, some .boolean) (0, 0) 824 [some (.ref (evb r)), some (.ref (evz r + 0)), some (.ref (evz r + 148)), some (.int (nI i))] [] 159 I' Q' F) : X r 8 yLw cL_law (4, some .boolean) (0, 0) 775 [some (.ref (evb r)), some (.ref (evz r + 0)), some (.ref (evz r + 148)), some (.int (nI i))] [] 159 I Q F := by
  refine x_aload_1 dL_law_775 ?_
  refine x_V0I dL_law_776 m_L_118 (c_X8_keep hL.1 hL.2.2.2) hL.1.at (fun x8 I8 Q8 h8 => ?_)
  obtain ⟨f8, c8, e8⟩ := h8
  obtain ⟨b8, m8⟩ := hL.mid f8
  refine x_aload_2 dL_law_779 ?_
  refine x_V0i dL_law_780 m_L_121 (c_X9_keep 148 b8 S m8 hL.2.2.2) b8.at (fun x9 I9 h9 => ?_)
  obtain ⟨f9, m9, e9⟩ := h9
  refine x_icmp_eq dL_law_783 (fun c => ?_) (fun c => ?_)
  · exact k I9 Q8 _ (LI.next c8 b8 f9 m9 (k_keep hL.2.2.2))
  · exact absurd (e8.trans e9.symm) c
set_option maxHeartbeats 4000000 in
theorem g_back {r : Ev} {F : Post} {i : Nat} {I : MI} {Q : MQ2} {S : Sy} (hL : LI I Q S) (hi : i + 5 ≤ evn r) (hn : evn r ≤ 320) (k : ∀ I' Q' S', LI I' Q' S' → X r 8 yLw cL_law (4, some .boolean) (0, 0) 824 [some (.ref (evb r)), some (.ref (evz r + 0)), some (.ref (evz r + 148)), some (.int (nI i))] [] 159 I' Q' F) : X r 8 yLw cL_law (4, some .boolean) (0, 0) 788 [some (.ref (evb r)), some (.ref (evz r + 0)), some (.ref (evz r + 148)), some (.int (nI i))] [] 159 I Q F := by
  refine x_aload_1 dL_law_788 ?_
  refine x_V0i dL_law_789 m_L_122 (c_X8_back hL.1 hL.2.2.2) hL.1.at (fun x8 I8 h8 => ?_)
  obtain ⟨f8, c8, e8⟩ := h8
  obtain ⟨b8, m8⟩ := hL.mid f8
  refine x_aload_2 dL_law_792 ?_
  refine x_V0i dL_law_793 m_L_125 (c_X9_back 148 b8 S m8 hL.2.2.2) b8.at (fun x9 I9 h9 => ?_)
  obtain ⟨f9, m9, e9⟩ := h9
  refine x_icmp_eq dL_law_796 (fun c => ?_) (fun c => ?_)
  · exact k I9 Q _ (LI.next c8 b8 f9 m9 (k_back hL.2.2.2))
  · exact absurd (e8.trans e9.symm) c
set_option maxHeartbeats 4000000 in
theorem g_count {r : Ev} {F : Post} {i : Nat} {I : MI} {Q : MQ2} {S : Sy} (hL : LI I Q S) (hi : i + 5 ≤ evn r) (hn : evn r ≤ 320) (k : ∀ I' Q' S', LI I' Q' S' → X r 8 yLw cL_law (4, some .boolean) (0, 0) 824 [some (.ref (evb r)), some (.ref (evz r + 0)), some (.ref (evz r + 148)), some (.int (nI i))] [] 159 I' Q' F) : X r 8 yLw cL_law (4, some .boolean) (0, 0) 801 [some (.ref (evb r)), some (.ref (evz r + 0)), some (.ref (evz r + 148)), some (.int (nI i))] [] 159 I Q F := by
  refine x_aload_1 dL_law_801 ?_
  refine x_aload_0 dL_law_802 ?_
  refine x_iload_3 dL_law_803 ?_
  refine x_const (c := 1) dL_law_804 rfl ?_
  refine x_iaddN dL_law_805 ?_
  refine x_ialdB dL_law_806 (by omega) hn ?_
  refine x_V1i dL_law_807 m_L_126 (c_X8_count hL.1 hL.2.2.2 (evx r (i + 1))) hL.1.at (fun x8 I8 h8 => ?_)
  obtain ⟨f8, c8, e8⟩ := h8
  obtain ⟨b8, m8⟩ := hL.mid f8
  refine x_aload_2 dL_law_810 ?_
  refine x_aload_0 dL_law_811 ?_
  refine x_iload_3 dL_law_812 ?_
  refine x_const (c := 1) dL_law_813 rfl ?_
  refine x_iaddN dL_law_814 ?_
  refine x_ialdB dL_law_815 (by omega) hn ?_
  refine x_V1i dL_law_816 m_L_129 (c_X9_count 148 b8 S m8 hL.2.2.2 (evx r (i + 1))) b8.at (fun x9 I9 h9 => ?_)
  obtain ⟨f9, m9, e9⟩ := h9
  refine x_icmp_eq dL_law_819 (fun c => ?_) (fun c => ?_)
  · exact k I9 Q _ (LI.next c8 b8 f9 m9 (k_count hL.2.2.2 (evx r (i + 1))))
  · exact absurd (e8.trans e9.symm) c
set_option maxHeartbeats 4000000 in
theorem l_law_case {r : Ev} {F : Post} {i : Nat} {I : MI} {Q : MQ2} {S : Sy} (hL : LI I Q S) (hi : i + 5 ≤ evn r) (hn : evn r ≤ 320) (k : ∀ I' Q' S', LI I' Q' S' → X r 8 yLw cL_law (4, some .boolean) (0, 0) 824 [some (.ref (evb r)), some (.ref (evz r + 0)), some (.ref (evz r + 148)), some (.int (nI i))] [] 159 I' Q' F) {c : Nat} (hc : c < 32) : X r 8 yLw cL_law (4, some .boolean) (0, 0) 32 [some (.ref (evb r)), some (.ref (evz r + 0)), some (.ref (evz r + 148)), some (.int (nI i))] [.int (nI c)] 159 I Q F := by
  rcases (show c = 0 ∨ c = 1 ∨ c = 2 ∨ c = 3 ∨ c = 4 ∨ c = 5 ∨ c = 6 ∨ c = 7 ∨ c = 8 ∨ c = 9 ∨ c = 10 ∨ c = 11 ∨ c = 12 ∨ c = 13 ∨ c = 14 ∨ c = 15 ∨ c = 16 ∨ c = 17 ∨ c = 18 ∨ c = 19 ∨ c = 20 ∨ c = 21 ∨ c = 22 ∨ c = 23 ∨ c = 24 ∨ c = 25 ∨ c = 26 ∨ c = 27 ∨ c = 28 ∨ c = 29 ∨ c = 30 ∨ c = 31 by omega) with rfl | rfl | rfl | rfl | rfl | rfl | rfl | rfl | rfl | rfl | rfl | rfl | rfl | rfl | rfl | rfl | rfl | rfl | rfl | rfl | rfl | rfl | rfl | rfl | rfl | rfl | rfl | rfl | rfl | rfl | rfl | rfl
  · exact x_tsIn (t := 160) dL_law_32 (by decide) (by decide) rfl (by decide) (g_write hL hi hn k)
  · exact x_tsIn (t := 183) dL_law_32 (by decide) (by decide) rfl (by decide) (g_wipe hL hi hn k)
  · exact x_tsIn (t := 196) dL_law_32 (by decide) (by decide) rfl (by decide) (g_fault hL hi hn k)
  · exact x_tsIn (t := 209) dL_law_32 (by decide) (by decide) rfl (by decide) (g_lay hL hi hn k)
  · exact x_tsIn (t := 222) dL_law_32 (by decide) (by decide) rfl (by decide) (g_loom hL hi hn k)
  · exact x_tsIn (t := 255) dL_law_32 (by decide) (by decide) rfl (by decide) (g_hour hL hi hn k)
  · exact x_tsIn (t := 288) dL_law_32 (by decide) (by decide) rfl (by decide) (g_at hL hi hn k)
  · exact x_tsIn (t := 311) dL_law_32 (by decide) (by decide) rfl (by decide) (g_pass hL hi hn k)
  · exact x_tsIn (t := 334) dL_law_32 (by decide) (by decide) rfl (by decide) (g_shade hL hi hn k)
  · exact x_tsIn (t := 357) dL_law_32 (by decide) (by decide) rfl (by decide) (g_cow hL hi hn k)
  · exact x_tsIn (t := 380) dL_law_32 (by decide) (by decide) rfl (by decide) (g_tears hL hi hn k)
  · exact x_tsIn (t := 403) dL_law_32 (by decide) (by decide) rfl (by decide) (g_set hL hi hn k)
  · exact x_tsIn (t := 436) dL_law_32 (by decide) (by decide) rfl (by decide) (g_undo hL hi hn k)
  · exact x_tsIn (t := 449) dL_law_32 (by decide) (by decide) rfl (by decide) (g_behind hL hi hn k)
  · exact x_tsIn (t := 492) dL_law_32 (by decide) (by decide) rfl (by decide) (g_yards hL hi hn k)
  · exact x_tsIn (t := 505) dL_law_32 (by decide) (by decide) rfl (by decide) (g_setting hL hi hn k)
  · exact x_tsIn (t := 528) dL_law_32 (by decide) (by decide) rfl (by decide) (g_shading hL hi hn k)
  · exact x_tsIn (t := 551) dL_law_32 (by decide) (by decide) rfl (by decide) (g_wants hL hi hn k)
  · exact x_tsIn (t := 574) dL_law_32 (by decide) (by decide) rfl (by decide) (g_drips hL hi hn k)
  · exact x_tsIn (t := 597) dL_law_32 (by decide) (by decide) rfl (by decide) (g_seen hL hi hn k)
  · exact x_tsIn (t := 640) dL_law_32 (by decide) (by decide) rfl (by decide) (g_forget hL hi hn k)
  · exact x_tsIn (t := 653) dL_law_32 (by decide) (by decide) rfl (by decide) (g_cows hL hi hn k)
  · exact x_tsIn (t := 666) dL_law_32 (by decide) (by decide) rfl (by decide) (g_colds hL hi hn k)
  · exact x_tsIn (t := 679) dL_law_32 (by decide) (by decide) rfl (by decide) (g_likely hL hi hn k)
  · exact x_tsIn (t := 732) dL_law_32 (by decide) (by decide) rfl (by decide) (g_year hL hi hn k)
  · exact x_tsIn (t := 775) dL_law_32 (by decide) (by decide) rfl (by decide) (g_keep hL hi hn k)
  · exact x_tsIn (t := 788) dL_law_32 (by decide) (by decide) rfl (by decide) (g_back hL hi hn k)
  · exact x_tsIn (t := 801) dL_law_32 (by decide) (by decide) rfl (by decide) (g_count hL hi hn k)
  · exact x_tsOut (t := 824) dL_law_32 (Or.inr (by decide)) (by decide) (k I Q S hL)
  · exact x_tsOut (t := 824) dL_law_32 (Or.inr (by decide)) (by decide) (k I Q S hL)
  · exact x_tsOut (t := 824) dL_law_32 (Or.inr (by decide)) (by decide) (k I Q S hL)
  · exact x_tsOut (t := 824) dL_law_32 (Or.inr (by decide)) (by decide) (k I Q S hL)
set_option maxHeartbeats 4000000 in
theorem l_law_loop {r : Ev} {F : Post} (hn : evn r ≤ 320) (hF : ∀ J Q', F (some (.int 1)) J Q') : ∀ (k i : Nat) (I : MI) (Q : MQ2) (S : Sy), evn r < i + k → i ≤ evn r → LI I Q S → X r 8 yLw cL_law (4, some .boolean) (0, 0) 18 [some (.ref (evb r)), some (.ref (evz r + 0)), some (.ref (evz r + 148)), some (.int (nI i))] [] 159 I Q F := by
  intro k
  induction k with
  | zero => intro i I Q S h1 h2 hL; exfalso; omega
  | succ k ih =>
    intro i I Q S h1 h2 hL
    refine x_iload_3 dL_law_18 ?_
    refine x_aload_0 dL_law_19 ?_
    refine x_lenB dL_law_20 ?_
    refine x_const (c := 5) dL_law_21 rfl ?_
    refine x_isub dL_law_22 ?_
    refine x_icmp_gt dL_law_23 (fun c => ?_) (fun c => ?_)
    · refine x_const (c := 1) dL_law_830 rfl ?_
      exact x_iret (st := []) dL_law_831 rfl rfl (hF I Q)
    · have hi : i + 5 ≤ evn r := by
        by_cases z : i + 5 ≤ evn r
        · exact z
        · exact absurd ((gt5 hn (by omega)).mpr z) c
      refine x_aload_0 dL_law_26 ?_
      refine x_iload_3 dL_law_27 ?_
      refine x_ialdB dL_law_28 (by omega) hn ?_
      refine x_bip (c := 31) dL_law_29 (by decide) ?_
      refine x_iand dL_law_31 ?_
      obtain ⟨c0, hc0, e0⟩ := and31 (evx r i)
      rw [e0]
      refine l_law_case hL hi hn (fun I' Q' S' hL' => ?_) hc0
      refine x_iinc_3 dL_law_824 (iinc5 _) rfl rfl ?_
      refine x_goto dL_law_827 ?_
      exact ih (i + 5) I' Q' S' (by omega) hi hL'
def slL : Nat := 1784
set_option maxHeartbeats 4000000 in
theorem l_law {r : Ev} {F : Post} (hn : evn r ≤ 320) (hF : ∀ J Q', F (some (.int 1)) J Q') (I : MI) (Q : MQ2) : X r 8 yLw cL_law (4, some .boolean) (159, 1784) 0 [some (.ref (evb r)), none, none, none] [] 0 I Q F := by
  refine x_new (158, 1774) dL_law_0 n_L_7 (by decide +kernel) ⟨rfl, rfl⟩ ?_
  refine x_dup_ref dL_law_3 ?_
  refine x_I0 (11, 627) dL_law_4 m_L_9 c_X8_init ⟨rfl, rfl⟩ (fun I4 Q4 h4 => ?_)
  refine x_n (n' := 148) rfl ?_
  refine x_astore_1 dL_law_7 rfl rfl ?_
  refine x_new (10, 612) dL_law_8 n_L_10 (by decide +kernel) ⟨rfl, rfl⟩ ?_
  refine x_dup_ref dL_law_11 ?_
  refine x_I0 (0, 0) dL_law_12 m_L_12 (c_X9_init (congrFun (setRow_same I4 148 (fun _ => 0)) 1)) ⟨rfl, rfl⟩ (fun I12 Q12 h12 => ?_)
  obtain ⟨⟨b12, m12⟩, f12⟩ := h12
  refine x_n (n' := 159) rfl ?_
  refine x_astore_2 dL_law_15 rfl rfl ?_
  refine x_const (c := 0) dL_law_16 rfl ?_
  refine x_istore_3 dL_law_17 rfl rfl ?_
  refine l_law_loop hn hF (evn r + 1) 0 I12 Q12 S0 (by omega) (Nat.zero_le _) ⟨h4.grow okY_S0 (by omega) (fun x hx j => (congrFun (f12 x hx).1 j).trans (congrFun (setRow_ne (by omega)) j)) (fun x hx => (f12 x hx).2.trans (setRow_ne (by omega))), b12, m12, okY_S0⟩
