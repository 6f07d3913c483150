/-! the law's cases -/
abbrev mLaw (nm : String) : MI := ((⟨"ShapedRowsLaw", nm, ""⟩ : MethodName), cL_law, 9, some .int)
def KL : KK := fun v _ _ _ _ _ => v = some (.int (iI 1))
abbrev LW (l : Launch) (G : GG) (nm : String) (pc : Nat) (L : List (Option Value)) (S : List Value) (σ τ : ST) (π : Nat → Option Nat) (ce sl : Nat) : Prop := WPL l G "ShapedRowsLaw" (mLaw nm) (10, 601024, 7293033) KL noX 0 pc L S 117 KD σ τ (RHO π) ce sl
abbrev L0 (i : Nat) : List (Option Value) := [some (.ref 1000), some (.ref 0), some (.ref 110), some (.ref 116), some (.int (iI (i : Int))), none, none, none, none]
theorem le_L0 {i : Nat} {a b c d : Option Value} : leL (L0 i) [some (.ref 1000), some (.ref 0), some (.ref 110), some (.ref 116), some (.int (iI (i : Int))), a, b, c, d] := leL_s (leL_s (leL_s (leL_s (leL_s (leL_n (leL_n (leL_n (leL_n leL_0))))))))
set_option maxRecDepth 100000 in
set_option maxHeartbeats 4000000 in
theorem tl {l : Launch} {G : GG} {nm : String} {σ τ : ST} {π : Nat → Option Nat} {ce sl i T : Nat} {off k v : Int}
    (d0 : decode cL_law T = .ok (.aload_n 2, 1)) (d1 : decode cL_law (T + 1) = .ok (.invokevirtual 99, 3)) (d4 : decode cL_law (T + 4) = .ok (.iload 5, 2)) (d6 : decode cL_law (T + 6) = .ok (.if_icmp .eq 5, 3)) (d11 : decode cL_law (T + 11) = .ok (.iload 5, 2)) (d13 : decode cL_law (T + 13) = .ok (.ifCond .ne 15, 3)) (d16 : decode cL_law (T + 16) = .ok (.aload_n 3, 1)) (d17 : decode cL_law (T + 17) = .ok (.iconst 0, 1)) (d18 : decode cL_law (T + 18) = .ok (.laload, 1)) (d19 : decode cL_law (T + 19) = .ok (.iload 6, 2)) (d21 : decode cL_law (T + 21) = .ok (.i2l, 1)) (d22 : decode cL_law (T + 22) = .ok (.lcmp, 1)) (d23 : decode cL_law (T + 23) = .ok (.ifCond .eq 5, 3)) (d28 : decode cL_law (T + 28) = .ok (.goto off, 3)) (ht : ((T + 28 : Nat) : Int) + off = ((1774 : Nat) : Int))
    (h1 : σ 110 0 = k) (hk : inR k) (h2 : k = 0 → τ 116 0 = wI v) (hc : ce ≤ 601024 ∧ sl ≤ 7293033) (kt : LW l G nm 1774 (L0 i) [] σ τ π ce sl) :
    LW l G nm T [some (.ref 1000), some (.ref 0), some (.ref 110), some (.ref 116), some (.int (iI (i : Int))), some (.int (iI k)), some (.int (iI v)), none, none] [] σ τ π ce sl := by
  refine rL_aload_n d0 rfl (by rfl) ?_
  refine rL_callV0 ct_X6_thrown fX6_thrown qL_99 d1 KD_110 ⟨Nat.le_of_ble_eq_true rfl, Nat.le_of_ble_eq_true rfl⟩ hc (Nat.le_of_ble_eq_true rfl) ?_
  refine rL_iload d4 (by rfl) ?_
  refine rL_icmp_eq (tgt := T + 11) d6 (by omega) (by rw [h1]; exact hk) hk (fun _ => ?_) (fun h => absurd h1 h)
  refine rL_iload d11 (by rfl) ?_
  refine rL_if_ne (tgt := T + 28) d13 (by omega) hk (fun _ => ?_) (fun h0 => ?_)
  · refine rL_goto d28 (tgt := 1774) ht ?_
    exact rL_wk le_L0 kt
  · refine rL_aload_n d16 rfl (by rfl) ?_
    refine rL_iconst d17 ?_
    refine rL_laload (k := 0) d18 KD_116 (by rfl) (by decide) (by decide) ?_
    refine rL_iload d19 (by rfl) ?_
    refine rL_i2lw d21 ?_
    refine rL_lcmp_e d22 (by rw [h2 (by omega)]) ?_
    refine rL_if_eq (tgt := T + 28) d23 (by omega) inR_0 (fun _ => ?_) (fun h => absurd rfl h)
    refine rL_goto d28 (tgt := 1774) ht ?_
    exact rL_wk le_L0 kt

set_option maxRecDepth 100000 in
set_option maxHeartbeats 4000000 in
theorem cs_0 {l : Launch} {G : GG} {nm : String} {σ τ : ST} {b : Nat → Nat} {ce sl i : Nat} (hl : l.stackTraces = false) (hi : i + 5 ≤ G.2.2.2.2.2.2.1) (hL : G.2.2.2.2.2.2.1 ≤ 2560) (hv : INV σ b) (hc : ce + 1 ≤ 601024 ∧ sl + 6 ≤ 7293033) (kt : ∀ (σ' τ' : ST) (b' : Nat → Nat), INV σ' b' → LW l G nm 1774 (L0 i) [] σ' τ' (PB b') (ce + 1) (sl + 6)) : LW l G nm 164 (L0 i) [] σ τ (PB b) ce sl := by
  refine rL_aload_n dL_law_164 rfl (by rfl) ?_
  refine rL_aload_n dL_law_165 rfl (by rfl) ?_
  refine rL_iload dL_law_166 (by rfl) ?_
  refine rL_iconst dL_law_168 ?_
  refine rL_iadd dL_law_169 ?_
  refine rL_sald (j := i + 1) dL_law_170 (by omega) (by omega) (by omega) ?_
  refine rL_aload_n dL_law_171 rfl (by rfl) ?_
  refine rL_iload dL_law_172 (by rfl) ?_
  refine rL_iconst dL_law_174 ?_
  refine rL_iadd dL_law_175 ?_
  refine rL_sald (j := i + 2) dL_law_176 (by omega) (by omega) (by omega) ?_
  refine rL_aload_n dL_law_177 rfl (by rfl) ?_
  refine rL_callH (As := [.ref 0, .int (iI (G.2.2.2.2.2.2.2 (i + 1)).toInt), .int (iI (G.2.2.2.2.2.2.2 (i + 2)).toInt), .ref 116]) (S := []) (w_addNumber (ct_X5_addNumber hl hv.1.ci b hv.2.2.1 hv.2.2.2.2.1 (WI_of hv.1.ci hv.1.li) ((G.2.2.2.2.2.2.2 (i + 1)).toInt) (inR_of _) ((G.2.2.2.2.2.2.2 (i + 2)).toInt) (inR_of _)) (by unfold er_addNumber; (repeat' split) <;> omega)) fL_addNumber rfl qL_93 dL_law_178 ⟨Nat.le_of_ble_eq_true rfl, Nat.le_of_ble_eq_true rfl⟩ hc (Nat.le_of_ble_eq_true rfl) (fun h0 f => ?_) (fun h0 => ?_)
  · refine rL_istore dL_law_181 (Nat.le_of_ble_eq_true rfl) (L' := [some (.ref 1000), some (.ref 0), some (.ref 110), some (.ref 116), some (.int (iI (i : Int))), some (.int (iI _)), none, none, none]) (by rfl) ?_
    have ho : ∀ p, 16 ≤ p → (exN (svF σ b) ((G.2.2.2.2.2.2.2 (i + 1)).toInt) ((G.2.2.2.2.2.2.2 (i + 2)).toInt)) p = svF σ b p := fun p hp => exN_off _ _ _ hp
    have he : er_addNumber (svF σ b) ((G.2.2.2.2.2.2.2 (i + 1)).toInt) ((G.2.2.2.2.2.2.2 (i + 2)).toInt) = 0 := (sve_addNumber hv _ _).trans h0
    obtain ⟨p1, p2, p3⟩ := ch_pre (f := f) hv ho
    refine rL_aload_n dL_law_183 rfl (by rfl) ?_
    refine rL_aload_n dL_law_184 rfl (by rfl) ?_
    refine rL_iload dL_law_185 (by rfl) ?_
    refine rL_iconst dL_law_187 ?_
    refine rL_iadd dL_law_188 ?_
    refine rL_sald (j := i + 1) dL_law_189 (by omega) (by omega) (by omega) ?_
    refine rL_aload_n dL_law_190 rfl (by rfl) ?_
    refine rL_iload dL_law_191 (by rfl) ?_
    refine rL_iconst dL_law_193 ?_
    refine rL_iadd dL_law_194 ?_
    refine rL_sald (j := i + 2) dL_law_195 (by omega) (by omega) (by omega) ?_
    refine rL_callG2 (ct_X6_addNumberR (svF σ b) p1 p2 p3 ((G.2.2.2.2.2.2.2 (i + 1)).toInt) (inR_of _) ((G.2.2.2.2.2.2.2 (i + 2)).toInt) (inR_of _)) fX6_addNumber qL_98 dL_law_196 KD_110 ⟨Nat.le_of_ble_eq_true rfl, Nat.le_of_ble_eq_true rfl⟩ hc (Nat.le_of_ble_eq_true rfl) (fun μ hμ => ?_)
    refine rL_istore dL_law_199 (Nat.le_of_ble_eq_true rfl) (L' := [some (.ref 1000), some (.ref 0), some (.ref 110), some (.ref 116), some (.int (iI (i : Int))), some (.int (iI _)), some (.int (iI _)), none, none]) (by rfl) ?_
    obtain ⟨hw, h1⟩ := ch_post hv ho (cE_z he) hμ
    exact tl (T := 201) dL_law_201 dL_law_202 dL_law_205 dL_law_207 dL_law_212 dL_law_214 dL_law_217 dL_law_218 dL_law_219 dL_law_220 dL_law_222 dL_law_223 dL_law_224 dL_law_229 (by rfl) (h1.trans (cE_z h0).symm) (cE_in _ _ _ _) (fun _ => by rw [if_pos he, up2_at]) hc (kt _ _ _ hw)
  · refine rL_istore dL_law_181 (Nat.le_of_ble_eq_true rfl) (L' := [some (.ref 1000), some (.ref 0), some (.ref 110), some (.ref 116), some (.int (iI (i : Int))), some (.int (iI _)), none, none, none]) (by rfl) ?_
    refine rL_aload_n dL_law_183 rfl (by rfl) ?_
    refine rL_aload_n dL_law_184 rfl (by rfl) ?_
    refine rL_iload dL_law_185 (by rfl) ?_
    refine rL_iconst dL_law_187 ?_
    refine rL_iadd dL_law_188 ?_
    refine rL_sald (j := i + 1) dL_law_189 (by omega) (by omega) (by omega) ?_
    refine rL_aload_n dL_law_190 rfl (by rfl) ?_
    refine rL_iload dL_law_191 (by rfl) ?_
    refine rL_iconst dL_law_193 ?_
    refine rL_iadd dL_law_194 ?_
    refine rL_sald (j := i + 2) dL_law_195 (by omega) (by omega) (by omega) ?_
    refine rL_callG2 (ct_X6_addNumberR σ hv.1 (by rw [hv.2.2.2.2.2.1]; exact hv.2.2.2.2.1.1) (by rw [hv.2.2.2.2.2.1]; exact hv.2.2.2.2.1.2) ((G.2.2.2.2.2.2.2 (i + 1)).toInt) (inR_of _) ((G.2.2.2.2.2.2.2 (i + 2)).toInt) (inR_of _)) fX6_addNumber qL_98 dL_law_196 KD_110 ⟨Nat.le_of_ble_eq_true rfl, Nat.le_of_ble_eq_true rfl⟩ hc (Nat.le_of_ble_eq_true rfl) (fun μ hμ => ?_)
    refine rL_istore dL_law_199 (Nat.le_of_ble_eq_true rfl) (L' := [some (.ref 1000), some (.ref 0), some (.ref 110), some (.ref 116), some (.int (iI (i : Int))), some (.int (iI _)), some (.int (iI _)), none, none]) (by rfl) ?_
    obtain ⟨hw, h1⟩ := no_post hv (cE_ne h0) hμ
    exact tl (T := 201) dL_law_201 dL_law_202 dL_law_205 dL_law_207 dL_law_212 dL_law_214 dL_law_217 dL_law_218 dL_law_219 dL_law_220 dL_law_222 dL_law_223 dL_law_224 dL_law_229 (by rfl) h1 (cE_in _ _ _ _) (fun z => absurd z (cE_ne h0)) hc (kt _ _ _ hw)
set_option maxRecDepth 100000 in
set_option maxHeartbeats 4000000 in
theorem cs_1 {l : Launch} {G : GG} {nm : String} {σ τ : ST} {b : Nat → Nat} {ce sl i : Nat} (hl : l.stackTraces = false) (hi : i + 5 ≤ G.2.2.2.2.2.2.1) (hL : G.2.2.2.2.2.2.1 ≤ 2560) (hv : INV σ b) (hc : ce + 1 ≤ 601024 ∧ sl + 6 ≤ 7293033) (kt : ∀ (σ' τ' : ST) (b' : Nat → Nat), INV σ' b' → LW l G nm 1774 (L0 i) [] σ' τ' (PB b') (ce + 1) (sl + 6)) : LW l G nm 232 (L0 i) [] σ τ (PB b) ce sl := by
  refine rL_aload_n dL_law_232 rfl (by rfl) ?_
  refine rL_aload_n dL_law_233 rfl (by rfl) ?_
  refine rL_iload dL_law_234 (by rfl) ?_
  refine rL_iconst dL_law_236 ?_
  refine rL_iadd dL_law_237 ?_
  refine rL_sald (j := i + 1) dL_law_238 (by omega) (by omega) (by omega) ?_
  refine rL_aload_n dL_law_239 rfl (by rfl) ?_
  refine rL_iload dL_law_240 (by rfl) ?_
  refine rL_iconst dL_law_242 ?_
  refine rL_iadd dL_law_243 ?_
  refine rL_sald (j := i + 2) dL_law_244 (by omega) (by omega) (by omega) ?_
  refine rL_aload_n dL_law_245 rfl (by rfl) ?_
  refine rL_iload dL_law_246 (by rfl) ?_
  refine rL_iconst dL_law_248 ?_
  refine rL_iadd dL_law_249 ?_
  refine rL_sald (j := i + 3) dL_law_250 (by omega) (by omega) (by omega) ?_
  refine rL_aload_n dL_law_251 rfl (by rfl) ?_
  refine rL_callH (As := [.ref 0, .int (iI (G.2.2.2.2.2.2.2 (i + 1)).toInt), .int (iI (G.2.2.2.2.2.2.2 (i + 2)).toInt), .int (iI (G.2.2.2.2.2.2.2 (i + 3)).toInt), .ref 116]) (S := []) (w_addCopy (ct_X5_addCopy hl hv.1.ci b hv.2.2.1 hv.2.2.2.2.1 (WI_of hv.1.ci hv.1.li) ((G.2.2.2.2.2.2.2 (i + 1)).toInt) (inR_of _) ((G.2.2.2.2.2.2.2 (i + 2)).toInt) (inR_of _) ((G.2.2.2.2.2.2.2 (i + 3)).toInt) (inR_of _)) (by unfold er_addCopy; (repeat' split) <;> omega)) fL_addCopy rfl qL_102 dL_law_252 ⟨Nat.le_of_ble_eq_true rfl, Nat.le_of_ble_eq_true rfl⟩ hc (Nat.le_of_ble_eq_true rfl) (fun h0 f => ?_) (fun h0 => ?_)
  · refine rL_istore dL_law_255 (Nat.le_of_ble_eq_true rfl) (L' := [some (.ref 1000), some (.ref 0), some (.ref 110), some (.ref 116), some (.int (iI (i : Int))), some (.int (iI _)), none, none, none]) (by rfl) ?_
    have ho : ∀ p, 16 ≤ p → (exC (svF σ b) ((G.2.2.2.2.2.2.2 (i + 1)).toInt) ((G.2.2.2.2.2.2.2 (i + 2)).toInt) ((G.2.2.2.2.2.2.2 (i + 3)).toInt)) p = svF σ b p := fun p hp => exC_off _ _ _ _ hp
    have he : er_addCopy (svF σ b) ((G.2.2.2.2.2.2.2 (i + 1)).toInt) ((G.2.2.2.2.2.2.2 (i + 2)).toInt) ((G.2.2.2.2.2.2.2 (i + 3)).toInt) = 0 := (sve_addCopy hv _ _ _).trans h0
    obtain ⟨p1, p2, p3⟩ := ch_pre (f := f) hv ho
    refine rL_aload_n dL_law_257 rfl (by rfl) ?_
    refine rL_aload_n dL_law_258 rfl (by rfl) ?_
    refine rL_iload dL_law_259 (by rfl) ?_
    refine rL_iconst dL_law_261 ?_
    refine rL_iadd dL_law_262 ?_
    refine rL_sald (j := i + 1) dL_law_263 (by omega) (by omega) (by omega) ?_
    refine rL_aload_n dL_law_264 rfl (by rfl) ?_
    refine rL_iload dL_law_265 (by rfl) ?_
    refine rL_iconst dL_law_267 ?_
    refine rL_iadd dL_law_268 ?_
    refine rL_sald (j := i + 2) dL_law_269 (by omega) (by omega) (by omega) ?_
    refine rL_aload_n dL_law_270 rfl (by rfl) ?_
    refine rL_iload dL_law_271 (by rfl) ?_
    refine rL_iconst dL_law_273 ?_
    refine rL_iadd dL_law_274 ?_
    refine rL_sald (j := i + 3) dL_law_275 (by omega) (by omega) (by omega) ?_
    refine rL_callG3 (ct_X6_addCopyR (svF σ b) p1 p2 p3 ((G.2.2.2.2.2.2.2 (i + 1)).toInt) (inR_of _) ((G.2.2.2.2.2.2.2 (i + 2)).toInt) (inR_of _) ((G.2.2.2.2.2.2.2 (i + 3)).toInt) (inR_of _)) fX6_addCopy qL_105 dL_law_276 KD_110 ⟨Nat.le_of_ble_eq_true rfl, Nat.le_of_ble_eq_true rfl⟩ hc (Nat.le_of_ble_eq_true rfl) (fun μ hμ => ?_)
    refine rL_istore dL_law_279 (Nat.le_of_ble_eq_true rfl) (L' := [some (.ref 1000), some (.ref 0), some (.ref 110), some (.ref 116), some (.int (iI (i : Int))), some (.int (iI _)), some (.int (iI _)), none, none]) (by rfl) ?_
    obtain ⟨hw, h1⟩ := ch_post hv ho (cE_z he) hμ
    exact tl (T := 281) dL_law_281 dL_law_282 dL_law_285 dL_law_287 dL_law_292 dL_law_294 dL_law_297 dL_law_298 dL_law_299 dL_law_300 dL_law_302 dL_law_303 dL_law_304 dL_law_309 (by rfl) (h1.trans (cE_z h0).symm) (cE_in _ _ _ _) (fun _ => by rw [if_pos he, up2_at]) hc (kt _ _ _ hw)
  · refine rL_istore dL_law_255 (Nat.le_of_ble_eq_true rfl) (L' := [some (.ref 1000), some (.ref 0), some (.ref 110), some (.ref 116), some (.int (iI (i : Int))), some (.int (iI _)), none, none, none]) (by rfl) ?_
    refine rL_aload_n dL_law_257 rfl (by rfl) ?_
    refine rL_aload_n dL_law_258 rfl (by rfl) ?_
    refine rL_iload dL_law_259 (by rfl) ?_
    refine rL_iconst dL_law_261 ?_
    refine rL_iadd dL_law_262 ?_
    refine rL_sald (j := i + 1) dL_law_263 (by omega) (by omega) (by omega) ?_
    refine rL_aload_n dL_law_264 rfl (by rfl) ?_
    refine rL_iload dL_law_265 (by rfl) ?_
    refine rL_iconst dL_law_267 ?_
    refine rL_iadd dL_law_268 ?_
    refine rL_sald (j := i + 2) dL_law_269 (by omega) (by omega) (by omega) ?_
    refine rL_aload_n dL_law_270 rfl (by rfl) ?_
    refine rL_iload dL_law_271 (by rfl) ?_
    refine rL_iconst dL_law_273 ?_
    refine rL_iadd dL_law_274 ?_
    refine rL_sald (j := i + 3) dL_law_275 (by omega) (by omega) (by omega) ?_
    refine rL_callG3 (ct_X6_addCopyR σ hv.1 (by rw [hv.2.2.2.2.2.1]; exact hv.2.2.2.2.1.1) (by rw [hv.2.2.2.2.2.1]; exact hv.2.2.2.2.1.2) ((G.2.2.2.2.2.2.2 (i + 1)).toInt) (inR_of _) ((G.2.2.2.2.2.2.2 (i + 2)).toInt) (inR_of _) ((G.2.2.2.2.2.2.2 (i + 3)).toInt) (inR_of _)) fX6_addCopy qL_105 dL_law_276 KD_110 ⟨Nat.le_of_ble_eq_true rfl, Nat.le_of_ble_eq_true rfl⟩ hc (Nat.le_of_ble_eq_true rfl) (fun μ hμ => ?_)
    refine rL_istore dL_law_279 (Nat.le_of_ble_eq_true rfl) (L' := [some (.ref 1000), some (.ref 0), some (.ref 110), some (.ref 116), some (.int (iI (i : Int))), some (.int (iI _)), some (.int (iI _)), none, none]) (by rfl) ?_
    obtain ⟨hw, h1⟩ := no_post hv (cE_ne h0) hμ
    exact tl (T := 281) dL_law_281 dL_law_282 dL_law_285 dL_law_287 dL_law_292 dL_law_294 dL_law_297 dL_law_298 dL_law_299 dL_law_300 dL_law_302 dL_law_303 dL_law_304 dL_law_309 (by rfl) h1 (cE_in _ _ _ _) (fun z => absurd z (cE_ne h0)) hc (kt _ _ _ hw)
set_option maxRecDepth 100000 in
set_option maxHeartbeats 4000000 in
theorem cs_2 {l : Launch} {G : GG} {nm : String} {σ τ : ST} {b : Nat → Nat} {ce sl i : Nat} (hl : l.stackTraces = false) (hi : i + 5 ≤ G.2.2.2.2.2.2.1) (hL : G.2.2.2.2.2.2.1 ≤ 2560) (hv : INV σ b) (hc : ce + 1 ≤ 601024 ∧ sl + 6 ≤ 7293033) (kt : ∀ (σ' τ' : ST) (b' : Nat → Nat), INV σ' b' → LW l G nm 1774 (L0 i) [] σ' τ' (PB b') (ce + 1) (sl + 6)) : LW l G nm 312 (L0 i) [] σ τ (PB b) ce sl := by
  refine rL_aload_n dL_law_312 rfl (by rfl) ?_
  refine rL_aload_n dL_law_313 rfl (by rfl) ?_
  refine rL_iload dL_law_314 (by rfl) ?_
  refine rL_iconst dL_law_316 ?_
  refine rL_iadd dL_law_317 ?_
  refine rL_sald (j := i + 1) dL_law_318 (by omega) (by omega) (by omega) ?_
  refine rL_aload_n dL_law_319 rfl (by rfl) ?_
  refine rL_iload dL_law_320 (by rfl) ?_
  refine rL_iconst dL_law_322 ?_
  refine rL_iadd dL_law_323 ?_
  refine rL_sald (j := i + 2) dL_law_324 (by omega) (by omega) (by omega) ?_
  refine rL_aload_n dL_law_325 rfl (by rfl) ?_
  refine rL_callH (As := [.ref 0, .int (iI (G.2.2.2.2.2.2.2 (i + 1)).toInt), .int (iI (G.2.2.2.2.2.2.2 (i + 2)).toInt), .ref 116]) (S := []) (w_drop (ct_X5_drop hl hv.1.ci b hv.2.2.1 hv.2.2.2.2.1 ((G.2.2.2.2.2.2.2 (i + 1)).toInt) (inR_of _) ((G.2.2.2.2.2.2.2 (i + 2)).toInt) (inR_of _)) (by unfold er_drop; (repeat' split) <;> omega)) fL_drop rfl qL_106 dL_law_326 ⟨Nat.le_of_ble_eq_true rfl, Nat.le_of_ble_eq_true rfl⟩ hc (Nat.le_of_ble_eq_true rfl) (fun h0 f => ?_) (fun h0 => ?_)
  · refine rL_istore dL_law_329 (Nat.le_of_ble_eq_true rfl) (L' := [some (.ref 1000), some (.ref 0), some (.ref 110), some (.ref 116), some (.int (iI (i : Int))), some (.int (iI _)), none, none, none]) (by rfl) ?_
    have ho : ∀ p, 16 ≤ p → (lvO (svF σ b) ((G.2.2.2.2.2.2.2 (i + 1)).toInt) ((G.2.2.2.2.2.2.2 (i + 2)).toInt)) p = svF σ b p := fun p hp => lvO_off _ _ _ hp
    have he : er_drop (svF σ b) ((G.2.2.2.2.2.2.2 (i + 1)).toInt) ((G.2.2.2.2.2.2.2 (i + 2)).toInt) = 0 := (sve_drop hv _ _).trans h0
    obtain ⟨p1, p2, p3⟩ := ch_pre (f := f) hv ho
    refine rL_aload_n dL_law_331 rfl (by rfl) ?_
    refine rL_aload_n dL_law_332 rfl (by rfl) ?_
    refine rL_iload dL_law_333 (by rfl) ?_
    refine rL_iconst dL_law_335 ?_
    refine rL_iadd dL_law_336 ?_
    refine rL_sald (j := i + 1) dL_law_337 (by omega) (by omega) (by omega) ?_
    refine rL_aload_n dL_law_338 rfl (by rfl) ?_
    refine rL_iload dL_law_339 (by rfl) ?_
    refine rL_iconst dL_law_341 ?_
    refine rL_iadd dL_law_342 ?_
    refine rL_sald (j := i + 2) dL_law_343 (by omega) (by omega) (by omega) ?_
    refine rL_callG2 (ct_X6_dropR (svF σ b) p1 p2 p3 ((G.2.2.2.2.2.2.2 (i + 1)).toInt) (inR_of _) ((G.2.2.2.2.2.2.2 (i + 2)).toInt) (inR_of _)) fX6_drop qL_108 dL_law_344 KD_110 ⟨Nat.le_of_ble_eq_true rfl, Nat.le_of_ble_eq_true rfl⟩ hc (Nat.le_of_ble_eq_true rfl) (fun μ hμ => ?_)
    refine rL_istore dL_law_347 (Nat.le_of_ble_eq_true rfl) (L' := [some (.ref 1000), some (.ref 0), some (.ref 110), some (.ref 116), some (.int (iI (i : Int))), some (.int (iI _)), some (.int (iI _)), none, none]) (by rfl) ?_
    obtain ⟨hw, h1⟩ := ch_post hv ho (cE_z he) hμ
    exact tl (T := 349) dL_law_349 dL_law_350 dL_law_353 dL_law_355 dL_law_360 dL_law_362 dL_law_365 dL_law_366 dL_law_367 dL_law_368 dL_law_370 dL_law_371 dL_law_372 dL_law_377 (by rfl) (h1.trans (cE_z h0).symm) (cE_in _ _ _ _) (fun _ => by rw [if_pos he, up2_at]) hc (kt _ _ _ hw)
  · refine rL_istore dL_law_329 (Nat.le_of_ble_eq_true rfl) (L' := [some (.ref 1000), some (.ref 0), some (.ref 110), some (.ref 116), some (.int (iI (i : Int))), some (.int (iI _)), none, none, none]) (by rfl) ?_
    refine rL_aload_n dL_law_331 rfl (by rfl) ?_
    refine rL_aload_n dL_law_332 rfl (by rfl) ?_
    refine rL_iload dL_law_333 (by rfl) ?_
    refine rL_iconst dL_law_335 ?_
    refine rL_iadd dL_law_336 ?_
    refine rL_sald (j := i + 1) dL_law_337 (by omega) (by omega) (by omega) ?_
    refine rL_aload_n dL_law_338 rfl (by rfl) ?_
    refine rL_iload dL_law_339 (by rfl) ?_
    refine rL_iconst dL_law_341 ?_
    refine rL_iadd dL_law_342 ?_
    refine rL_sald (j := i + 2) dL_law_343 (by omega) (by omega) (by omega) ?_
    refine rL_callG2 (ct_X6_dropR σ hv.1 (by rw [hv.2.2.2.2.2.1]; exact hv.2.2.2.2.1.1) (by rw [hv.2.2.2.2.2.1]; exact hv.2.2.2.2.1.2) ((G.2.2.2.2.2.2.2 (i + 1)).toInt) (inR_of _) ((G.2.2.2.2.2.2.2 (i + 2)).toInt) (inR_of _)) fX6_drop qL_108 dL_law_344 KD_110 ⟨Nat.le_of_ble_eq_true rfl, Nat.le_of_ble_eq_true rfl⟩ hc (Nat.le_of_ble_eq_true rfl) (fun μ hμ => ?_)
    refine rL_istore dL_law_347 (Nat.le_of_ble_eq_true rfl) (L' := [some (.ref 1000), some (.ref 0), some (.ref 110), some (.ref 116), some (.int (iI (i : Int))), some (.int (iI _)), some (.int (iI _)), none, none]) (by rfl) ?_
    obtain ⟨hw, h1⟩ := no_post hv (cE_ne h0) hμ
    exact tl (T := 349) dL_law_349 dL_law_350 dL_law_353 dL_law_355 dL_law_360 dL_law_362 dL_law_365 dL_law_366 dL_law_367 dL_law_368 dL_law_370 dL_law_371 dL_law_372 dL_law_377 (by rfl) h1 (cE_in _ _ _ _) (fun z => absurd z (cE_ne h0)) hc (kt _ _ _ hw)
set_option maxRecDepth 100000 in
set_option maxHeartbeats 4000000 in
theorem cs_3 {l : Launch} {G : GG} {nm : String} {σ τ : ST} {b : Nat → Nat} {ce sl i : Nat} (hl : l.stackTraces = false) (hi : i + 5 ≤ G.2.2.2.2.2.2.1) (hL : G.2.2.2.2.2.2.1 ≤ 2560) (hv : INV σ b) (hc : ce + 1 ≤ 601024 ∧ sl + 6 ≤ 7293033) (kt : ∀ (σ' τ' : ST) (b' : Nat → Nat), INV σ' b' → LW l G nm 1774 (L0 i) [] σ' τ' (PB b') (ce + 1) (sl + 6)) : LW l G nm 380 (L0 i) [] σ τ (PB b) ce sl := by
  refine rL_aload_n dL_law_380 rfl (by rfl) ?_
  refine rL_aload_n dL_law_381 rfl (by rfl) ?_
  refine rL_iload dL_law_382 (by rfl) ?_
  refine rL_iconst dL_law_384 ?_
  refine rL_iadd dL_law_385 ?_
  refine rL_sald (j := i + 1) dL_law_386 (by omega) (by omega) (by omega) ?_
  refine rL_aload_n dL_law_387 rfl (by rfl) ?_
  refine rL_iload dL_law_388 (by rfl) ?_
  refine rL_iconst dL_law_390 ?_
  refine rL_iadd dL_law_391 ?_
  refine rL_sald (j := i + 2) dL_law_392 (by omega) (by omega) (by omega) ?_
  refine rL_aload_n dL_law_393 rfl (by rfl) ?_
  refine rL_callH (As := [.ref 0, .int (iI (G.2.2.2.2.2.2.2 (i + 1)).toInt), .int (iI (G.2.2.2.2.2.2.2 (i + 2)).toInt), .ref 116]) (S := []) (w_rename (ct_X5_rename hl hv.1.ci b hv.2.2.1 hv.2.2.2.2.1 ((G.2.2.2.2.2.2.2 (i + 1)).toInt) (inR_of _) ((G.2.2.2.2.2.2.2 (i + 2)).toInt) (inR_of _)) (by unfold er_rename; (repeat' split) <;> omega)) fL_rename rfl qL_109 dL_law_394 ⟨Nat.le_of_ble_eq_true rfl, Nat.le_of_ble_eq_true rfl⟩ hc (Nat.le_of_ble_eq_true rfl) (fun h0 f => ?_) (fun h0 => ?_)
  · refine rL_istore dL_law_397 (Nat.le_of_ble_eq_true rfl) (L' := [some (.ref 1000), some (.ref 0), some (.ref 110), some (.ref 116), some (.int (iI (i : Int))), some (.int (iI _)), none, none, none]) (by rfl) ?_
    have ho : ∀ p, 16 ≤ p → (xcL (svF σ b) ((G.2.2.2.2.2.2.2 (i + 1)).toInt) ((G.2.2.2.2.2.2.2 (i + 2)).toInt)) p = svF σ b p := fun p hp => xcL_off _ _ _ hp
    have he : er_rename (svF σ b) ((G.2.2.2.2.2.2.2 (i + 1)).toInt) ((G.2.2.2.2.2.2.2 (i + 2)).toInt) = 0 := (sve_rename hv _ _).trans h0
    obtain ⟨p1, p2, p3⟩ := ch_pre (f := f) hv ho
    refine rL_aload_n dL_law_399 rfl (by rfl) ?_
    refine rL_aload_n dL_law_400 rfl (by rfl) ?_
    refine rL_iload dL_law_401 (by rfl) ?_
    refine rL_iconst dL_law_403 ?_
    refine rL_iadd dL_law_404 ?_
    refine rL_sald (j := i + 1) dL_law_405 (by omega) (by omega) (by omega) ?_
    refine rL_aload_n dL_law_406 rfl (by rfl) ?_
    refine rL_iload dL_law_407 (by rfl) ?_
    refine rL_iconst dL_law_409 ?_
    refine rL_iadd dL_law_410 ?_
    refine rL_sald (j := i + 2) dL_law_411 (by omega) (by omega) (by omega) ?_
    refine rL_callG2 (ct_X6_renameR (svF σ b) p1 p2 p3 ((G.2.2.2.2.2.2.2 (i + 1)).toInt) (inR_of _) ((G.2.2.2.2.2.2.2 (i + 2)).toInt) (inR_of _)) fX6_rename qL_111 dL_law_412 KD_110 ⟨Nat.le_of_ble_eq_true rfl, Nat.le_of_ble_eq_true rfl⟩ hc (Nat.le_of_ble_eq_true rfl) (fun μ hμ => ?_)
    refine rL_istore dL_law_415 (Nat.le_of_ble_eq_true rfl) (L' := [some (.ref 1000), some (.ref 0), some (.ref 110), some (.ref 116), some (.int (iI (i : Int))), some (.int (iI _)), some (.int (iI _)), none, none]) (by rfl) ?_
    obtain ⟨hw, h1⟩ := ch_post hv ho (cE_z he) hμ
    exact tl (T := 417) dL_law_417 dL_law_418 dL_law_421 dL_law_423 dL_law_428 dL_law_430 dL_law_433 dL_law_434 dL_law_435 dL_law_436 dL_law_438 dL_law_439 dL_law_440 dL_law_445 (by rfl) (h1.trans (cE_z h0).symm) (cE_in _ _ _ _) (fun _ => by rw [if_pos he, up2_at]) hc (kt _ _ _ hw)
  · refine rL_istore dL_law_397 (Nat.le_of_ble_eq_true rfl) (L' := [some (.ref 1000), some (.ref 0), some (.ref 110), some (.ref 116), some (.int (iI (i : Int))), some (.int (iI _)), none, none, none]) (by rfl) ?_
    refine rL_aload_n dL_law_399 rfl (by rfl) ?_
    refine rL_aload_n dL_law_400 rfl (by rfl) ?_
    refine rL_iload dL_law_401 (by rfl) ?_
    refine rL_iconst dL_law_403 ?_
    refine rL_iadd dL_law_404 ?_
    refine rL_sald (j := i + 1) dL_law_405 (by omega) (by omega) (by omega) ?_
    refine rL_aload_n dL_law_406 rfl (by rfl) ?_
    refine rL_iload dL_law_407 (by rfl) ?_
    refine rL_iconst dL_law_409 ?_
    refine rL_iadd dL_law_410 ?_
    refine rL_sald (j := i + 2) dL_law_411 (by omega) (by omega) (by omega) ?_
    refine rL_callG2 (ct_X6_renameR σ hv.1 (by rw [hv.2.2.2.2.2.1]; exact hv.2.2.2.2.1.1) (by rw [hv.2.2.2.2.2.1]; exact hv.2.2.2.2.1.2) ((G.2.2.2.2.2.2.2 (i + 1)).toInt) (inR_of _) ((G.2.2.2.2.2.2.2 (i + 2)).toInt) (inR_of _)) fX6_rename qL_111 dL_law_412 KD_110 ⟨Nat.le_of_ble_eq_true rfl, Nat.le_of_ble_eq_true rfl⟩ hc (Nat.le_of_ble_eq_true rfl) (fun μ hμ => ?_)
    refine rL_istore dL_law_415 (Nat.le_of_ble_eq_true rfl) (L' := [some (.ref 1000), some (.ref 0), some (.ref 110), some (.ref 116), some (.int (iI (i : Int))), some (.int (iI _)), some (.int (iI _)), none, none]) (by rfl) ?_
    obtain ⟨hw, h1⟩ := no_post hv (cE_ne h0) hμ
    exact tl (T := 417) dL_law_417 dL_law_418 dL_law_421 dL_law_423 dL_law_428 dL_law_430 dL_law_433 dL_law_434 dL_law_435 dL_law_436 dL_law_438 dL_law_439 dL_law_440 dL_law_445 (by rfl) h1 (cE_in _ _ _ _) (fun z => absurd z (cE_ne h0)) hc (kt _ _ _ hw)
set_option maxRecDepth 100000 in
set_option maxHeartbeats 4000000 in
theorem cs_4 {l : Launch} {G : GG} {nm : String} {σ τ : ST} {b : Nat → Nat} {ce sl i : Nat} (hl : l.stackTraces = false) (hi : i + 5 ≤ G.2.2.2.2.2.2.1) (hL : G.2.2.2.2.2.2.1 ≤ 2560) (hv : INV σ b) (hc : ce + 1 ≤ 601024 ∧ sl + 6 ≤ 7293033) (kt : ∀ (σ' τ' : ST) (b' : Nat → Nat), INV σ' b' → LW l G nm 1774 (L0 i) [] σ' τ' (PB b') (ce + 1) (sl + 6)) : LW l G nm 448 (L0 i) [] σ τ (PB b) ce sl := by
  refine rL_aload_n dL_law_448 rfl (by rfl) ?_
  refine rL_aload_n dL_law_449 rfl (by rfl) ?_
  refine rL_callH (As := [.ref 0, .ref 116]) (S := []) (w_insert (ct_X5_insert hl hv.1.ci b hv.2.2.1 hv.2.2.2.2.1) (by unfold er_insert; (repeat' split) <;> omega)) fL_insert rfl qL_112 dL_law_450 ⟨Nat.le_of_ble_eq_true rfl, Nat.le_of_ble_eq_true rfl⟩ hc (Nat.le_of_ble_eq_true rfl) (fun h0 f => ?_) (fun h0 => ?_)
  · refine rL_istore dL_law_453 (Nat.le_of_ble_eq_true rfl) (L' := [some (.ref 1000), some (.ref 0), some (.ref 110), some (.ref 116), some (.int (iI (i : Int))), some (.int (iI _)), none, none, none]) (by rfl) ?_
    have ho : ∀ p, 16 ≤ p → (adR (svF σ b) (svF σ b 2 0 - 1)) p = svF σ b p := fun p hp => adR_off _ _ hp
    have he : er_insert (svF σ b) = 0 := (sve_insert hv).trans h0
    obtain ⟨p1, p2, p3⟩ := ch_pre (f := f) hv ho
    refine rL_aload_n dL_law_455 rfl (by rfl) ?_
    refine rL_callG0 (ct_X6_insertR (svF σ b) p1 p2 p3) fX6_insert qL_115 dL_law_456 KD_110 ⟨Nat.le_of_ble_eq_true rfl, Nat.le_of_ble_eq_true rfl⟩ hc (Nat.le_of_ble_eq_true rfl) (fun μ hμ => ?_)
    refine rL_istore dL_law_459 (Nat.le_of_ble_eq_true rfl) (L' := [some (.ref 1000), some (.ref 0), some (.ref 110), some (.ref 116), some (.int (iI (i : Int))), some (.int (iI _)), some (.int (iI _)), none, none]) (by rfl) ?_
    obtain ⟨hw, h1⟩ := ch_post hv ho (cE_z he) hμ
    exact tl (T := 461) dL_law_461 dL_law_462 dL_law_465 dL_law_467 dL_law_472 dL_law_474 dL_law_477 dL_law_478 dL_law_479 dL_law_480 dL_law_482 dL_law_483 dL_law_484 dL_law_489 (by rfl) (h1.trans (cE_z h0).symm) (cE_in _ _ _ _) (fun _ => by rw [if_pos he, up2_at]) hc (kt _ _ _ hw)
  · refine rL_istore dL_law_453 (Nat.le_of_ble_eq_true rfl) (L' := [some (.ref 1000), some (.ref 0), some (.ref 110), some (.ref 116), some (.int (iI (i : Int))), some (.int (iI _)), none, none, none]) (by rfl) ?_
    refine rL_aload_n dL_law_455 rfl (by rfl) ?_
    refine rL_callG0 (ct_X6_insertR σ hv.1 (by rw [hv.2.2.2.2.2.1]; exact hv.2.2.2.2.1.1) (by rw [hv.2.2.2.2.2.1]; exact hv.2.2.2.2.1.2)) fX6_insert qL_115 dL_law_456 KD_110 ⟨Nat.le_of_ble_eq_true rfl, Nat.le_of_ble_eq_true rfl⟩ hc (Nat.le_of_ble_eq_true rfl) (fun μ hμ => ?_)
    refine rL_istore dL_law_459 (Nat.le_of_ble_eq_true rfl) (L' := [some (.ref 1000), some (.ref 0), some (.ref 110), some (.ref 116), some (.int (iI (i : Int))), some (.int (iI _)), some (.int (iI _)), none, none]) (by rfl) ?_
    obtain ⟨hw, h1⟩ := no_post hv (cE_ne h0) hμ
    exact tl (T := 461) dL_law_461 dL_law_462 dL_law_465 dL_law_467 dL_law_472 dL_law_474 dL_law_477 dL_law_478 dL_law_479 dL_law_480 dL_law_482 dL_law_483 dL_law_484 dL_law_489 (by rfl) h1 (cE_in _ _ _ _) (fun z => absurd z (cE_ne h0)) hc (kt _ _ _ hw)
set_option maxRecDepth 100000 in
set_option maxHeartbeats 4000000 in
theorem cs_5 {l : Launch} {G : GG} {nm : String} {σ τ : ST} {b : Nat → Nat} {ce sl i : Nat} (hl : l.stackTraces = false) (hi : i + 5 ≤ G.2.2.2.2.2.2.1) (hL : G.2.2.2.2.2.2.1 ≤ 2560) (hv : INV σ b) (hc : ce + 1 ≤ 601024 ∧ sl + 6 ≤ 7293033) (kt : ∀ (σ' τ' : ST) (b' : Nat → Nat), INV σ' b' → LW l G nm 1774 (L0 i) [] σ' τ' (PB b') (ce + 1) (sl + 6)) : LW l G nm 492 (L0 i) [] σ τ (PB b) ce sl := by
  refine rL_aload_n dL_law_492 rfl (by rfl) ?_
  refine rL_aload_n dL_law_493 rfl (by rfl) ?_
  refine rL_iload dL_law_494 (by rfl) ?_
  refine rL_iconst dL_law_496 ?_
  refine rL_iadd dL_law_497 ?_
  refine rL_sald (j := i + 1) dL_law_498 (by omega) (by omega) (by omega) ?_
  refine rL_aload_n dL_law_499 rfl (by rfl) ?_
  refine rL_callH (As := [.ref 0, .int (iI (G.2.2.2.2.2.2.2 (i + 1)).toInt), .ref 116]) (S := []) (w_insertBy (ct_X5_insertBy hl hv.1.ci b hv.2.2.1 hv.2.2.2.2.1 ((G.2.2.2.2.2.2.2 (i + 1)).toInt) (inR_of _)) (by unfold er_insertBy; (repeat' split) <;> omega)) fL_insertBy rfl qL_116 dL_law_500 ⟨Nat.le_of_ble_eq_true rfl, Nat.le_of_ble_eq_true rfl⟩ hc (Nat.le_of_ble_eq_true rfl) (fun h0 f => ?_) (fun h0 => ?_)
  · refine rL_istore dL_law_503 (Nat.le_of_ble_eq_true rfl) (L' := [some (.ref 1000), some (.ref 0), some (.ref 110), some (.ref 116), some (.int (iI (i : Int))), some (.int (iI _)), none, none, none]) (by rfl) ?_
    have ho : ∀ p, 16 ≤ p → (adR (svF σ b) ((G.2.2.2.2.2.2.2 (i + 1)).toInt)) p = svF σ b p := fun p hp => adR_off _ _ hp
    have he : er_insertBy (svF σ b) ((G.2.2.2.2.2.2.2 (i + 1)).toInt) = 0 := (sve_insertBy hv _).trans h0
    obtain ⟨p1, p2, p3⟩ := ch_pre (f := f) hv ho
    refine rL_aload_n dL_law_505 rfl (by rfl) ?_
    refine rL_aload_n dL_law_506 rfl (by rfl) ?_
    refine rL_iload dL_law_507 (by rfl) ?_
    refine rL_iconst dL_law_509 ?_
    refine rL_iadd dL_law_510 ?_
    refine rL_sald (j := i + 1) dL_law_511 (by omega) (by omega) (by omega) ?_
    refine rL_callG1 (ct_X6_insertByR (svF σ b) p1 p2 p3 ((G.2.2.2.2.2.2.2 (i + 1)).toInt) (inR_of _)) fX6_insertBy qL_119 dL_law_512 KD_110 ⟨Nat.le_of_ble_eq_true rfl, Nat.le_of_ble_eq_true rfl⟩ hc (Nat.le_of_ble_eq_true rfl) (fun μ hμ => ?_)
    refine rL_istore dL_law_515 (Nat.le_of_ble_eq_true rfl) (L' := [some (.ref 1000), some (.ref 0), some (.ref 110), some (.ref 116), some (.int (iI (i : Int))), some (.int (iI _)), some (.int (iI _)), none, none]) (by rfl) ?_
    obtain ⟨hw, h1⟩ := ch_post hv ho (cE_z he) hμ
    exact tl (T := 517) dL_law_517 dL_law_518 dL_law_521 dL_law_523 dL_law_528 dL_law_530 dL_law_533 dL_law_534 dL_law_535 dL_law_536 dL_law_538 dL_law_539 dL_law_540 dL_law_545 (by rfl) (h1.trans (cE_z h0).symm) (cE_in _ _ _ _) (fun _ => by rw [if_pos he, up2_at]) hc (kt _ _ _ hw)
  · refine rL_istore dL_law_503 (Nat.le_of_ble_eq_true rfl) (L' := [some (.ref 1000), some (.ref 0), some (.ref 110), some (.ref 116), some (.int (iI (i : Int))), some (.int (iI _)), none, none, none]) (by rfl) ?_
    refine rL_aload_n dL_law_505 rfl (by rfl) ?_
    refine rL_aload_n dL_law_506 rfl (by rfl) ?_
    refine rL_iload dL_law_507 (by rfl) ?_
    refine rL_iconst dL_law_509 ?_
    refine rL_iadd dL_law_510 ?_
    refine rL_sald (j := i + 1) dL_law_511 (by omega) (by omega) (by omega) ?_
    refine rL_callG1 (ct_X6_insertByR σ hv.1 (by rw [hv.2.2.2.2.2.1]; exact hv.2.2.2.2.1.1) (by rw [hv.2.2.2.2.2.1]; exact hv.2.2.2.2.1.2) ((G.2.2.2.2.2.2.2 (i + 1)).toInt) (inR_of _)) fX6_insertBy qL_119 dL_law_512 KD_110 ⟨Nat.le_of_ble_eq_true rfl, Nat.le_of_ble_eq_true rfl⟩ hc (Nat.le_of_ble_eq_true rfl) (fun μ hμ => ?_)
    refine rL_istore dL_law_515 (Nat.le_of_ble_eq_true rfl) (L' := [some (.ref 1000), some (.ref 0), some (.ref 110), some (.ref 116), some (.int (iI (i : Int))), some (.int (iI _)), some (.int (iI _)), none, none]) (by rfl) ?_
    obtain ⟨hw, h1⟩ := no_post hv (cE_ne h0) hμ
    exact tl (T := 517) dL_law_517 dL_law_518 dL_law_521 dL_law_523 dL_law_528 dL_law_530 dL_law_533 dL_law_534 dL_law_535 dL_law_536 dL_law_538 dL_law_539 dL_law_540 dL_law_545 (by rfl) h1 (cE_in _ _ _ _) (fun z => absurd z (cE_ne h0)) hc (kt _ _ _ hw)
set_option maxRecDepth 100000 in
set_option maxHeartbeats 4000000 in
theorem cs_6 {l : Launch} {G : GG} {nm : String} {σ τ : ST} {b : Nat → Nat} {ce sl i : Nat} (hl : l.stackTraces = false) (hi : i + 5 ≤ G.2.2.2.2.2.2.1) (hL : G.2.2.2.2.2.2.1 ≤ 2560) (hv : INV σ b) (hc : ce + 1 ≤ 601024 ∧ sl + 6 ≤ 7293033) (kt : ∀ (σ' τ' : ST) (b' : Nat → Nat), INV σ' b' → LW l G nm 1774 (L0 i) [] σ' τ' (PB b') (ce + 1) (sl + 6)) : LW l G nm 548 (L0 i) [] σ τ (PB b) ce sl := by
  refine rL_aload_n dL_law_548 rfl (by rfl) ?_
  refine rL_aload_n dL_law_549 rfl (by rfl) ?_
  refine rL_iload dL_law_550 (by rfl) ?_
  refine rL_iconst dL_law_552 ?_
  refine rL_iadd dL_law_553 ?_
  refine rL_sald (j := i + 1) dL_law_554 (by omega) (by omega) (by omega) ?_
  refine rL_aload_n dL_law_555 rfl (by rfl) ?_
  refine rL_iload dL_law_556 (by rfl) ?_
  refine rL_iconst dL_law_558 ?_
  refine rL_iadd dL_law_559 ?_
  refine rL_sald (j := i + 2) dL_law_560 (by omega) (by omega) (by omega) ?_
  refine rL_aload_n dL_law_561 rfl (by rfl) ?_
  refine rL_iload dL_law_562 (by rfl) ?_
  refine rL_iconst dL_law_564 ?_
  refine rL_iadd dL_law_565 ?_
  refine rL_sald (j := i + 3) dL_law_566 (by omega) (by omega) (by omega) ?_
  refine rL_aload_n dL_law_567 rfl (by rfl) ?_
  refine rL_iload dL_law_568 (by rfl) ?_
  refine rL_iconst dL_law_570 ?_
  refine rL_iadd dL_law_571 ?_
  refine rL_sald (j := i + 4) dL_law_572 (by omega) (by omega) (by omega) ?_
  refine rL_aload_n dL_law_573 rfl (by rfl) ?_
  refine rL_callH (As := [.ref 0, .int (iI (G.2.2.2.2.2.2.2 (i + 1)).toInt), .int (iI (G.2.2.2.2.2.2.2 (i + 2)).toInt), .int (iI (G.2.2.2.2.2.2.2 (i + 3)).toInt), .int (iI (G.2.2.2.2.2.2.2 (i + 4)).toInt), .ref 116]) (S := []) (w_write (ct_X5_write hl hv.1.ci b hv.2.2.1 hv.2.2.2.2.1 ((G.2.2.2.2.2.2.2 (i + 1)).toInt) (inR_of _) ((G.2.2.2.2.2.2.2 (i + 2)).toInt) (inR_of _) ((G.2.2.2.2.2.2.2 (i + 3)).toInt) (inR_of _) ((G.2.2.2.2.2.2.2 (i + 4)).toInt) (inR_of _)) (by unfold er_write; (repeat' split) <;> omega)) fL_write rfl qL_120 dL_law_574 ⟨Nat.le_of_ble_eq_true rfl, Nat.le_of_ble_eq_true rfl⟩ hc (Nat.le_of_ble_eq_true rfl) (fun h0 f => ?_) (fun h0 => ?_)
  · refine rL_istore dL_law_577 (Nat.le_of_ble_eq_true rfl) (L' := [some (.ref 1000), some (.ref 0), some (.ref 110), some (.ref 116), some (.int (iI (i : Int))), some (.int (iI _)), none, none, none]) (by rfl) ?_
    have ho : ∀ p, 16 ≤ p → (wrV (svF σ b) ((G.2.2.2.2.2.2.2 (i + 1)).toInt) ((G.2.2.2.2.2.2.2 (i + 2)).toInt) ((G.2.2.2.2.2.2.2 (i + 3)).toInt) ((G.2.2.2.2.2.2.2 (i + 4)).toInt)) p = svF σ b p := fun p hp => wrV_off _ _ _ _ _ hp
    have he : er_write (svF σ b) ((G.2.2.2.2.2.2.2 (i + 1)).toInt) ((G.2.2.2.2.2.2.2 (i + 2)).toInt) ((G.2.2.2.2.2.2.2 (i + 3)).toInt) ((G.2.2.2.2.2.2.2 (i + 4)).toInt) = 0 := (sve_write hv _ _ _ _).trans h0
    obtain ⟨p1, p2, p3⟩ := ch_pre (f := f) hv ho
    refine rL_aload_n dL_law_579 rfl (by rfl) ?_
    refine rL_aload_n dL_law_580 rfl (by rfl) ?_
    refine rL_iload dL_law_581 (by rfl) ?_
    refine rL_iconst dL_law_583 ?_
    refine rL_iadd dL_law_584 ?_
    refine rL_sald (j := i + 1) dL_law_585 (by omega) (by omega) (by omega) ?_
    refine rL_aload_n dL_law_586 rfl (by rfl) ?_
    refine rL_iload dL_law_587 (by rfl) ?_
    refine rL_iconst dL_law_589 ?_
    refine rL_iadd dL_law_590 ?_
    refine rL_sald (j := i + 2) dL_law_591 (by omega) (by omega) (by omega) ?_
    refine rL_aload_n dL_law_592 rfl (by rfl) ?_
    refine rL_iload dL_law_593 (by rfl) ?_
    refine rL_iconst dL_law_595 ?_
    refine rL_iadd dL_law_596 ?_
    refine rL_sald (j := i + 3) dL_law_597 (by omega) (by omega) (by omega) ?_
    refine rL_aload_n dL_law_598 rfl (by rfl) ?_
    refine rL_iload dL_law_599 (by rfl) ?_
    refine rL_iconst dL_law_601 ?_
    refine rL_iadd dL_law_602 ?_
    refine rL_sald (j := i + 4) dL_law_603 (by omega) (by omega) (by omega) ?_
    refine rL_callG4 (ct_X6_writeR (svF σ b) p1 p2 p3 ((G.2.2.2.2.2.2.2 (i + 1)).toInt) (inR_of _) ((G.2.2.2.2.2.2.2 (i + 2)).toInt) (inR_of _) ((G.2.2.2.2.2.2.2 (i + 3)).toInt) (inR_of _) ((G.2.2.2.2.2.2.2 (i + 4)).toInt) (inR_of _)) fX6_write qL_123 dL_law_604 KD_110 ⟨Nat.le_of_ble_eq_true rfl, Nat.le_of_ble_eq_true rfl⟩ hc (Nat.le_of_ble_eq_true rfl) (fun μ hμ => ?_)
    refine rL_istore dL_law_607 (Nat.le_of_ble_eq_true rfl) (L' := [some (.ref 1000), some (.ref 0), some (.ref 110), some (.ref 116), some (.int (iI (i : Int))), some (.int (iI _)), some (.int (iI _)), none, none]) (by rfl) ?_
    obtain ⟨hw, h1⟩ := ch_post hv ho (cE_z he) hμ
    exact tl (T := 609) dL_law_609 dL_law_610 dL_law_613 dL_law_615 dL_law_620 dL_law_622 dL_law_625 dL_law_626 dL_law_627 dL_law_628 dL_law_630 dL_law_631 dL_law_632 dL_law_637 (by rfl) (h1.trans (cE_z h0).symm) (cE_in _ _ _ _) (fun _ => by rw [if_pos he, up2_at]) hc (kt _ _ _ hw)
  · refine rL_istore dL_law_577 (Nat.le_of_ble_eq_true rfl) (L' := [some (.ref 1000), some (.ref 0), some (.ref 110), some (.ref 116), some (.int (iI (i : Int))), some (.int (iI _)), none, none, none]) (by rfl) ?_
    refine rL_aload_n dL_law_579 rfl (by rfl) ?_
    refine rL_aload_n dL_law_580 rfl (by rfl) ?_
    refine rL_iload dL_law_581 (by rfl) ?_
    refine rL_iconst dL_law_583 ?_
    refine rL_iadd dL_law_584 ?_
    refine rL_sald (j := i + 1) dL_law_585 (by omega) (by omega) (by omega) ?_
    refine rL_aload_n dL_law_586 rfl (by rfl) ?_
    refine rL_iload dL_law_587 (by rfl) ?_
    refine rL_iconst dL_law_589 ?_
    refine rL_iadd dL_law_590 ?_
    refine rL_sald (j := i + 2) dL_law_591 (by omega) (by omega) (by omega) ?_
    refine rL_aload_n dL_law_592 rfl (by rfl) ?_
    refine rL_iload dL_law_593 (by rfl) ?_
    refine rL_iconst dL_law_595 ?_
    refine rL_iadd dL_law_596 ?_
    refine rL_sald (j := i + 3) dL_law_597 (by omega) (by omega) (by omega) ?_
    refine rL_aload_n dL_law_598 rfl (by rfl) ?_
    refine rL_iload dL_law_599 (by rfl) ?_
    refine rL_iconst dL_law_601 ?_
    refine rL_iadd dL_law_602 ?_
    refine rL_sald (j := i + 4) dL_law_603 (by omega) (by omega) (by omega) ?_
    refine rL_callG4 (ct_X6_writeR σ hv.1 (by rw [hv.2.2.2.2.2.1]; exact hv.2.2.2.2.1.1) (by rw [hv.2.2.2.2.2.1]; exact hv.2.2.2.2.1.2) ((G.2.2.2.2.2.2.2 (i + 1)).toInt) (inR_of _) ((G.2.2.2.2.2.2.2 (i + 2)).toInt) (inR_of _) ((G.2.2.2.2.2.2.2 (i + 3)).toInt) (inR_of _) ((G.2.2.2.2.2.2.2 (i + 4)).toInt) (inR_of _)) fX6_write qL_123 dL_law_604 KD_110 ⟨Nat.le_of_ble_eq_true rfl, Nat.le_of_ble_eq_true rfl⟩ hc (Nat.le_of_ble_eq_true rfl) (fun μ hμ => ?_)
    refine rL_istore dL_law_607 (Nat.le_of_ble_eq_true rfl) (L' := [some (.ref 1000), some (.ref 0), some (.ref 110), some (.ref 116), some (.int (iI (i : Int))), some (.int (iI _)), some (.int (iI _)), none, none]) (by rfl) ?_
    obtain ⟨hw, h1⟩ := no_post hv (cE_ne h0) hμ
    exact tl (T := 609) dL_law_609 dL_law_610 dL_law_613 dL_law_615 dL_law_620 dL_law_622 dL_law_625 dL_law_626 dL_law_627 dL_law_628 dL_law_630 dL_law_631 dL_law_632 dL_law_637 (by rfl) h1 (cE_in _ _ _ _) (fun z => absurd z (cE_ne h0)) hc (kt _ _ _ hw)
set_option maxRecDepth 100000 in
set_option maxHeartbeats 4000000 in
theorem cs_7 {l : Launch} {G : GG} {nm : String} {σ τ : ST} {b : Nat → Nat} {ce sl i : Nat} (hl : l.stackTraces = false) (hi : i + 5 ≤ G.2.2.2.2.2.2.1) (hL : G.2.2.2.2.2.2.1 ≤ 2560) (hv : INV σ b) (hc : ce + 1 ≤ 601024 ∧ sl + 6 ≤ 7293033) (kt : ∀ (σ' τ' : ST) (b' : Nat → Nat), INV σ' b' → LW l G nm 1774 (L0 i) [] σ' τ' (PB b') (ce + 1) (sl + 6)) : LW l G nm 640 (L0 i) [] σ τ (PB b) ce sl := by
  refine rL_aload_n dL_law_640 rfl (by rfl) ?_
  refine rL_aload_n dL_law_641 rfl (by rfl) ?_
  refine rL_iload dL_law_642 (by rfl) ?_
  refine rL_iconst dL_law_644 ?_
  refine rL_iadd dL_law_645 ?_
  refine rL_sald (j := i + 1) dL_law_646 (by omega) (by omega) (by omega) ?_
  refine rL_aload_n dL_law_647 rfl (by rfl) ?_
  refine rL_callH (As := [.ref 0, .int (iI (G.2.2.2.2.2.2.2 (i + 1)).toInt), .ref 116]) (S := []) (w_remove (ct_X5_remove hl hv.1.ci b hv.2.2.1 hv.2.2.2.2.1 ((G.2.2.2.2.2.2.2 (i + 1)).toInt) (inR_of _)) (by unfold er_remove; (repeat' split) <;> omega)) fL_remove rfl qL_124 dL_law_648 ⟨Nat.le_of_ble_eq_true rfl, Nat.le_of_ble_eq_true rfl⟩ hc (Nat.le_of_ble_eq_true rfl) (fun h0 f => ?_) (fun h0 => ?_)
  · refine rL_istore dL_law_651 (Nat.le_of_ble_eq_true rfl) (L' := [some (.ref 1000), some (.ref 0), some (.ref 110), some (.ref 116), some (.int (iI (i : Int))), some (.int (iI _)), none, none, none]) (by rfl) ?_
    have ho : ∀ p, 16 ≤ p → (tkF (svF σ b) ((G.2.2.2.2.2.2.2 (i + 1)).toInt)) p = svF σ b p := fun p hp => tkF_off _ _ hp
    have he : er_remove (svF σ b) ((G.2.2.2.2.2.2.2 (i + 1)).toInt) = 0 := (sve_remove hv _).trans h0
    obtain ⟨p1, p2, p3⟩ := ch_pre (f := f) hv ho
    refine rL_aload_n dL_law_653 rfl (by rfl) ?_
    refine rL_aload_n dL_law_654 rfl (by rfl) ?_
    refine rL_iload dL_law_655 (by rfl) ?_
    refine rL_iconst dL_law_657 ?_
    refine rL_iadd dL_law_658 ?_
    refine rL_sald (j := i + 1) dL_law_659 (by omega) (by omega) (by omega) ?_
    refine rL_callG1 (ct_X6_removeR (svF σ b) p1 p2 p3 ((G.2.2.2.2.2.2.2 (i + 1)).toInt) (inR_of _)) fX6_remove qL_126 dL_law_660 KD_110 ⟨Nat.le_of_ble_eq_true rfl, Nat.le_of_ble_eq_true rfl⟩ hc (Nat.le_of_ble_eq_true rfl) (fun μ hμ => ?_)
    refine rL_istore dL_law_663 (Nat.le_of_ble_eq_true rfl) (L' := [some (.ref 1000), some (.ref 0), some (.ref 110), some (.ref 116), some (.int (iI (i : Int))), some (.int (iI _)), some (.int (iI _)), none, none]) (by rfl) ?_
    obtain ⟨hw, h1⟩ := ch_post hv ho (cE_z he) hμ
    exact tl (T := 665) dL_law_665 dL_law_666 dL_law_669 dL_law_671 dL_law_676 dL_law_678 dL_law_681 dL_law_682 dL_law_683 dL_law_684 dL_law_686 dL_law_687 dL_law_688 dL_law_693 (by rfl) (h1.trans (cE_z h0).symm) (cE_in _ _ _ _) (fun _ => by rw [if_pos he, up2_at]) hc (kt _ _ _ hw)
  · refine rL_istore dL_law_651 (Nat.le_of_ble_eq_true rfl) (L' := [some (.ref 1000), some (.ref 0), some (.ref 110), some (.ref 116), some (.int (iI (i : Int))), some (.int (iI _)), none, none, none]) (by rfl) ?_
    refine rL_aload_n dL_law_653 rfl (by rfl) ?_
    refine rL_aload_n dL_law_654 rfl (by rfl) ?_
    refine rL_iload dL_law_655 (by rfl) ?_
    refine rL_iconst dL_law_657 ?_
    refine rL_iadd dL_law_658 ?_
    refine rL_sald (j := i + 1) dL_law_659 (by omega) (by omega) (by omega) ?_
    refine rL_callG1 (ct_X6_removeR σ hv.1 (by rw [hv.2.2.2.2.2.1]; exact hv.2.2.2.2.1.1) (by rw [hv.2.2.2.2.2.1]; exact hv.2.2.2.2.1.2) ((G.2.2.2.2.2.2.2 (i + 1)).toInt) (inR_of _)) fX6_remove qL_126 dL_law_660 KD_110 ⟨Nat.le_of_ble_eq_true rfl, Nat.le_of_ble_eq_true rfl⟩ hc (Nat.le_of_ble_eq_true rfl) (fun μ hμ => ?_)
    refine rL_istore dL_law_663 (Nat.le_of_ble_eq_true rfl) (L' := [some (.ref 1000), some (.ref 0), some (.ref 110), some (.ref 116), some (.int (iI (i : Int))), some (.int (iI _)), some (.int (iI _)), none, none]) (by rfl) ?_
    obtain ⟨hw, h1⟩ := no_post hv (cE_ne h0) hμ
    exact tl (T := 665) dL_law_665 dL_law_666 dL_law_669 dL_law_671 dL_law_676 dL_law_678 dL_law_681 dL_law_682 dL_law_683 dL_law_684 dL_law_686 dL_law_687 dL_law_688 dL_law_693 (by rfl) h1 (cE_in _ _ _ _) (fun z => absurd z (cE_ne h0)) hc (kt _ _ _ hw)
set_option maxRecDepth 100000 in
set_option maxHeartbeats 4000000 in
theorem cs_8 {l : Launch} {G : GG} {nm : String} {σ τ : ST} {b : Nat → Nat} {ce sl i : Nat} (hl : l.stackTraces = false) (hi : i + 5 ≤ G.2.2.2.2.2.2.1) (hL : G.2.2.2.2.2.2.1 ≤ 2560) (hv : INV σ b) (hc : ce + 1 ≤ 601024 ∧ sl + 6 ≤ 7293033) (kt : ∀ (σ' τ' : ST) (b' : Nat → Nat), INV σ' b' → LW l G nm 1774 (L0 i) [] σ' τ' (PB b') (ce + 1) (sl + 6)) : LW l G nm 696 (L0 i) [] σ τ (PB b) ce sl := by
  refine rL_aload_n dL_law_696 rfl (by rfl) ?_
  refine rL_aload_n dL_law_697 rfl (by rfl) ?_
  refine rL_iload dL_law_698 (by rfl) ?_
  refine rL_iconst dL_law_700 ?_
  refine rL_iadd dL_law_701 ?_
  refine rL_sald (j := i + 1) dL_law_702 (by omega) (by omega) (by omega) ?_
  refine rL_aload_n dL_law_703 rfl (by rfl) ?_
  refine rL_callH (As := [.ref 0, .int (iI (G.2.2.2.2.2.2.2 (i + 1)).toInt), .ref 116]) (S := []) (w_goOn (ct_X5_goOn hl hv.1.ci b hv.2.2.1 hv.2.2.2.2.1 ((G.2.2.2.2.2.2.2 (i + 1)).toInt) (inR_of _)) (by unfold er_goOn; (repeat' split) <;> omega)) fL_goOn rfl qL_127 dL_law_704 ⟨Nat.le_of_ble_eq_true rfl, Nat.le_of_ble_eq_true rfl⟩ hc (Nat.le_of_ble_eq_true rfl) (fun h0 f => ?_) (fun h0 => ?_)
  · refine rL_istore dL_law_707 (Nat.le_of_ble_eq_true rfl) (L' := [some (.ref 1000), some (.ref 0), some (.ref 110), some (.ref 116), some (.int (iI (i : Int))), some (.int (iI _)), none, none, none]) (by rfl) ?_
    have ho : ∀ p, 16 ≤ p → (itS (svF σ b) (((G.2.2.2.2.2.2.2 (i + 1)).toInt)).toNat) p = svF σ b p := fun p hp => itS_off _ hp _
    have he : er_goOn (svF σ b) ((G.2.2.2.2.2.2.2 (i + 1)).toInt) = 0 := (sve_goOn hv _).trans h0
    obtain ⟨p1, p2, p3⟩ := ch_pre (f := f) hv ho
    refine rL_aload_n dL_law_709 rfl (by rfl) ?_
    refine rL_aload_n dL_law_710 rfl (by rfl) ?_
    refine rL_iload dL_law_711 (by rfl) ?_
    refine rL_iconst dL_law_713 ?_
    refine rL_iadd dL_law_714 ?_
    refine rL_sald (j := i + 1) dL_law_715 (by omega) (by omega) (by omega) ?_
    refine rL_callG1 (ct_X6_goOnR (svF σ b) p1 p2 p3 ((G.2.2.2.2.2.2.2 (i + 1)).toInt) (inR_of _)) fX6_goOn qL_129 dL_law_716 KD_110 ⟨Nat.le_of_ble_eq_true rfl, Nat.le_of_ble_eq_true rfl⟩ hc (Nat.le_of_ble_eq_true rfl) (fun μ hμ => ?_)
    refine rL_istore dL_law_719 (Nat.le_of_ble_eq_true rfl) (L' := [some (.ref 1000), some (.ref 0), some (.ref 110), some (.ref 116), some (.int (iI (i : Int))), some (.int (iI _)), some (.int (iI _)), none, none]) (by rfl) ?_
    obtain ⟨hw, h1⟩ := ch_post hv ho (cE_z he) hμ
    exact tl (T := 721) dL_law_721 dL_law_722 dL_law_725 dL_law_727 dL_law_732 dL_law_734 dL_law_737 dL_law_738 dL_law_739 dL_law_740 dL_law_742 dL_law_743 dL_law_744 dL_law_749 (by rfl) (h1.trans (cE_z h0).symm) (cE_in _ _ _ _) (fun _ => by rw [if_pos he, up2_at]) hc (kt _ _ _ hw)
  · refine rL_istore dL_law_707 (Nat.le_of_ble_eq_true rfl) (L' := [some (.ref 1000), some (.ref 0), some (.ref 110), some (.ref 116), some (.int (iI (i : Int))), some (.int (iI _)), none, none, none]) (by rfl) ?_
    refine rL_aload_n dL_law_709 rfl (by rfl) ?_
    refine rL_aload_n dL_law_710 rfl (by rfl) ?_
    refine rL_iload dL_law_711 (by rfl) ?_
    refine rL_iconst dL_law_713 ?_
    refine rL_iadd dL_law_714 ?_
    refine rL_sald (j := i + 1) dL_law_715 (by omega) (by omega) (by omega) ?_
    refine rL_callG1 (ct_X6_goOnR σ hv.1 (by rw [hv.2.2.2.2.2.1]; exact hv.2.2.2.2.1.1) (by rw [hv.2.2.2.2.2.1]; exact hv.2.2.2.2.1.2) ((G.2.2.2.2.2.2.2 (i + 1)).toInt) (inR_of _)) fX6_goOn qL_129 dL_law_716 KD_110 ⟨Nat.le_of_ble_eq_true rfl, Nat.le_of_ble_eq_true rfl⟩ hc (Nat.le_of_ble_eq_true rfl) (fun μ hμ => ?_)
    refine rL_istore dL_law_719 (Nat.le_of_ble_eq_true rfl) (L' := [some (.ref 1000), some (.ref 0), some (.ref 110), some (.ref 116), some (.int (iI (i : Int))), some (.int (iI _)), some (.int (iI _)), none, none]) (by rfl) ?_
    obtain ⟨hw, h1⟩ := no_post hv (cE_ne h0) hμ
    exact tl (T := 721) dL_law_721 dL_law_722 dL_law_725 dL_law_727 dL_law_732 dL_law_734 dL_law_737 dL_law_738 dL_law_739 dL_law_740 dL_law_742 dL_law_743 dL_law_744 dL_law_749 (by rfl) h1 (cE_in _ _ _ _) (fun z => absurd z (cE_ne h0)) hc (kt _ _ _ hw)
set_option maxRecDepth 100000 in
set_option maxHeartbeats 4000000 in
theorem cs_9 {l : Launch} {G : GG} {nm : String} {σ τ : ST} {b : Nat → Nat} {ce sl i : Nat} (hl : l.stackTraces = false) (hi : i + 5 ≤ G.2.2.2.2.2.2.1) (hL : G.2.2.2.2.2.2.1 ≤ 2560) (hv : INV σ b) (hc : ce + 1 ≤ 601024 ∧ sl + 6 ≤ 7293033) (kt : ∀ (σ' τ' : ST) (b' : Nat → Nat), INV σ' b' → LW l G nm 1774 (L0 i) [] σ' τ' (PB b') (ce + 1) (sl + 6)) : LW l G nm 752 (L0 i) [] σ τ (PB b) ce sl := by
  refine rL_aload_n dL_law_752 rfl (by rfl) ?_
  refine rL_aload_n dL_law_753 rfl (by rfl) ?_
  refine rL_iload dL_law_754 (by rfl) ?_
  refine rL_iconst dL_law_756 ?_
  refine rL_iadd dL_law_757 ?_
  refine rL_sald (j := i + 1) dL_law_758 (by omega) (by omega) (by omega) ?_
  refine rL_aload_n dL_law_759 rfl (by rfl) ?_
  refine rL_iload dL_law_760 (by rfl) ?_
  refine rL_iconst dL_law_762 ?_
  refine rL_iadd dL_law_763 ?_
  refine rL_sald (j := i + 2) dL_law_764 (by omega) (by omega) (by omega) ?_
  refine rL_aload_n dL_law_765 rfl (by rfl) ?_
  refine rL_callH (As := [.ref 0, .int (iI (G.2.2.2.2.2.2.2 (i + 1)).toInt), .int (iI (G.2.2.2.2.2.2.2 (i + 2)).toInt), .ref 116]) (S := []) (w_hold (ct_X5_hold hl hv.1.ci b hv.2.2.1 hv.2.2.2.2.1 ((G.2.2.2.2.2.2.2 (i + 1)).toInt) (inR_of _) ((G.2.2.2.2.2.2.2 (i + 2)).toInt) (inR_of _)) (by unfold er_hold; (repeat' split) <;> omega)) fL_hold rfl qL_130 dL_law_766 ⟨Nat.le_of_ble_eq_true rfl, Nat.le_of_ble_eq_true rfl⟩ hc (Nat.le_of_ble_eq_true rfl) (fun h0 f => ?_) (fun h0 => ?_)
  · refine rL_istore dL_law_769 (Nat.le_of_ble_eq_true rfl) (L' := [some (.ref 1000), some (.ref 0), some (.ref 110), some (.ref 116), some (.int (iI (i : Int))), some (.int (iI _)), none, none, none]) (by rfl) ?_
    have ho : ∀ p, 16 ≤ p → (up2 (svF σ b) 14 (((G.2.2.2.2.2.2.2 (i + 1)).toInt)).toNat ((G.2.2.2.2.2.2.2 (i + 2)).toInt)) p = svF σ b p := fun p hp => up2_off _ (by omega)
    have he : er_hold (svF σ b) ((G.2.2.2.2.2.2.2 (i + 1)).toInt) ((G.2.2.2.2.2.2.2 (i + 2)).toInt) = 0 := (sve_hold hv _ _).trans h0
    obtain ⟨p1, p2, p3⟩ := ch_pre (f := f) hv ho
    refine rL_aload_n dL_law_771 rfl (by rfl) ?_
    refine rL_aload_n dL_law_772 rfl (by rfl) ?_
    refine rL_iload dL_law_773 (by rfl) ?_
    refine rL_iconst dL_law_775 ?_
    refine rL_iadd dL_law_776 ?_
    refine rL_sald (j := i + 1) dL_law_777 (by omega) (by omega) (by omega) ?_
    refine rL_aload_n dL_law_778 rfl (by rfl) ?_
    refine rL_iload dL_law_779 (by rfl) ?_
    refine rL_iconst dL_law_781 ?_
    refine rL_iadd dL_law_782 ?_
    refine rL_sald (j := i + 2) dL_law_783 (by omega) (by omega) (by omega) ?_
    refine rL_callG2 (ct_X6_holdR (svF σ b) p1 p2 p3 ((G.2.2.2.2.2.2.2 (i + 1)).toInt) (inR_of _) ((G.2.2.2.2.2.2.2 (i + 2)).toInt) (inR_of _)) fX6_hold qL_132 dL_law_784 KD_110 ⟨Nat.le_of_ble_eq_true rfl, Nat.le_of_ble_eq_true rfl⟩ hc (Nat.le_of_ble_eq_true rfl) (fun μ hμ => ?_)
    refine rL_istore dL_law_787 (Nat.le_of_ble_eq_true rfl) (L' := [some (.ref 1000), some (.ref 0), some (.ref 110), some (.ref 116), some (.int (iI (i : Int))), some (.int (iI _)), some (.int (iI _)), none, none]) (by rfl) ?_
    obtain ⟨hw, h1⟩ := ch_post hv ho (cE_z he) hμ
    exact tl (T := 789) dL_law_789 dL_law_790 dL_law_793 dL_law_795 dL_law_800 dL_law_802 dL_law_805 dL_law_806 dL_law_807 dL_law_808 dL_law_810 dL_law_811 dL_law_812 dL_law_817 (by rfl) (h1.trans (cE_z h0).symm) (cE_in _ _ _ _) (fun _ => by rw [if_pos he, up2_at]) hc (kt _ _ _ hw)
  · refine rL_istore dL_law_769 (Nat.le_of_ble_eq_true rfl) (L' := [some (.ref 1000), some (.ref 0), some (.ref 110), some (.ref 116), some (.int (iI (i : Int))), some (.int (iI _)), none, none, none]) (by rfl) ?_
    refine rL_aload_n dL_law_771 rfl (by rfl) ?_
    refine rL_aload_n dL_law_772 rfl (by rfl) ?_
    refine rL_iload dL_law_773 (by rfl) ?_
    refine rL_iconst dL_law_775 ?_
    refine rL_iadd dL_law_776 ?_
    refine rL_sald (j := i + 1) dL_law_777 (by omega) (by omega) (by omega) ?_
    refine rL_aload_n dL_law_778 rfl (by rfl) ?_
    refine rL_iload dL_law_779 (by rfl) ?_
    refine rL_iconst dL_law_781 ?_
    refine rL_iadd dL_law_782 ?_
    refine rL_sald (j := i + 2) dL_law_783 (by omega) (by omega) (by omega) ?_
    refine rL_callG2 (ct_X6_holdR σ hv.1 (by rw [hv.2.2.2.2.2.1]; exact hv.2.2.2.2.1.1) (by rw [hv.2.2.2.2.2.1]; exact hv.2.2.2.2.1.2) ((G.2.2.2.2.2.2.2 (i + 1)).toInt) (inR_of _) ((G.2.2.2.2.2.2.2 (i + 2)).toInt) (inR_of _)) fX6_hold qL_132 dL_law_784 KD_110 ⟨Nat.le_of_ble_eq_true rfl, Nat.le_of_ble_eq_true rfl⟩ hc (Nat.le_of_ble_eq_true rfl) (fun μ hμ => ?_)
    refine rL_istore dL_law_787 (Nat.le_of_ble_eq_true rfl) (L' := [some (.ref 1000), some (.ref 0), some (.ref 110), some (.ref 116), some (.int (iI (i : Int))), some (.int (iI _)), some (.int (iI _)), none, none]) (by rfl) ?_
    obtain ⟨hw, h1⟩ := no_post hv (cE_ne h0) hμ
    exact tl (T := 789) dL_law_789 dL_law_790 dL_law_793 dL_law_795 dL_law_800 dL_law_802 dL_law_805 dL_law_806 dL_law_807 dL_law_808 dL_law_810 dL_law_811 dL_law_812 dL_law_817 (by rfl) h1 (cE_in _ _ _ _) (fun z => absurd z (cE_ne h0)) hc (kt _ _ _ hw)
set_option maxRecDepth 100000 in
set_option maxHeartbeats 4000000 in
theorem cs_10 {l : Launch} {G : GG} {nm : String} {σ τ : ST} {b : Nat → Nat} {ce sl i : Nat} (hl : l.stackTraces = false) (hi : i + 5 ≤ G.2.2.2.2.2.2.1) (hL : G.2.2.2.2.2.2.1 ≤ 2560) (hv : INV σ b) (hc : ce + 1 ≤ 601024 ∧ sl + 6 ≤ 7293033) (kt : ∀ (σ' τ' : ST) (b' : Nat → Nat), INV σ' b' → LW l G nm 1774 (L0 i) [] σ' τ' (PB b') (ce + 1) (sl + 6)) : LW l G nm 820 (L0 i) [] σ τ (PB b) ce sl := by
  refine rL_aload_n dL_law_820 rfl (by rfl) ?_
  refine rL_aload_n dL_law_821 rfl (by rfl) ?_
  refine rL_iload dL_law_822 (by rfl) ?_
  refine rL_iconst dL_law_824 ?_
  refine rL_iadd dL_law_825 ?_
  refine rL_sald (j := i + 1) dL_law_826 (by omega) (by omega) (by omega) ?_
  refine rL_aload_n dL_law_827 rfl (by rfl) ?_
  refine rL_callH (As := [.ref 0, .int (iI (G.2.2.2.2.2.2.2 (i + 1)).toInt), .ref 116]) (S := []) (w_retire (ct_X5_retire hl hv.1.ci b hv.2.2.1 hv.2.2.2.2.1 ((G.2.2.2.2.2.2.2 (i + 1)).toInt) (inR_of _)) (by unfold er_retire; (repeat' split) <;> omega)) fL_retire rfl qL_133 dL_law_828 ⟨Nat.le_of_ble_eq_true rfl, Nat.le_of_ble_eq_true rfl⟩ hc (Nat.le_of_ble_eq_true rfl) (fun h0 f => ?_) (fun h0 => ?_)
  · refine rL_istore dL_law_831 (Nat.le_of_ble_eq_true rfl) (L' := [some (.ref 1000), some (.ref 0), some (.ref 110), some (.ref 116), some (.int (iI (i : Int))), some (.int (iI _)), none, none, none]) (by rfl) ?_
    have ho : ∀ p, 16 ≤ p → (up2 (svF σ b) 2 1 ((G.2.2.2.2.2.2.2 (i + 1)).toInt)) p = svF σ b p := fun p hp => up2_off _ (by omega)
    have he : er_retire (svF σ b) ((G.2.2.2.2.2.2.2 (i + 1)).toInt) = 0 := (sve_retire hv _).trans h0
    obtain ⟨p1, p2, p3⟩ := ch_pre (f := f) hv ho
    refine rL_aload_n dL_law_833 rfl (by rfl) ?_
    refine rL_aload_n dL_law_834 rfl (by rfl) ?_
    refine rL_iload dL_law_835 (by rfl) ?_
    refine rL_iconst dL_law_837 ?_
    refine rL_iadd dL_law_838 ?_
    refine rL_sald (j := i + 1) dL_law_839 (by omega) (by omega) (by omega) ?_
    refine rL_callG1 (ct_X6_retireR (svF σ b) p1 p2 p3 ((G.2.2.2.2.2.2.2 (i + 1)).toInt) (inR_of _)) fX6_retire qL_135 dL_law_840 KD_110 ⟨Nat.le_of_ble_eq_true rfl, Nat.le_of_ble_eq_true rfl⟩ hc (Nat.le_of_ble_eq_true rfl) (fun μ hμ => ?_)
    refine rL_istore dL_law_843 (Nat.le_of_ble_eq_true rfl) (L' := [some (.ref 1000), some (.ref 0), some (.ref 110), some (.ref 116), some (.int (iI (i : Int))), some (.int (iI _)), some (.int (iI _)), none, none]) (by rfl) ?_
    obtain ⟨hw, h1⟩ := ch_post hv ho (cE_z he) hμ
    exact tl (T := 845) dL_law_845 dL_law_846 dL_law_849 dL_law_851 dL_law_856 dL_law_858 dL_law_861 dL_law_862 dL_law_863 dL_law_864 dL_law_866 dL_law_867 dL_law_868 dL_law_873 (by rfl) (h1.trans (cE_z h0).symm) (cE_in _ _ _ _) (fun _ => by rw [if_pos he, up2_at]) hc (kt _ _ _ hw)
  · refine rL_istore dL_law_831 (Nat.le_of_ble_eq_true rfl) (L' := [some (.ref 1000), some (.ref 0), some (.ref 110), some (.ref 116), some (.int (iI (i : Int))), some (.int (iI _)), none, none, none]) (by rfl) ?_
    refine rL_aload_n dL_law_833 rfl (by rfl) ?_
    refine rL_aload_n dL_law_834 rfl (by rfl) ?_
    refine rL_iload dL_law_835 (by rfl) ?_
    refine rL_iconst dL_law_837 ?_
    refine rL_iadd dL_law_838 ?_
    refine rL_sald (j := i + 1) dL_law_839 (by omega) (by omega) (by omega) ?_
    refine rL_callG1 (ct_X6_retireR σ hv.1 (by rw [hv.2.2.2.2.2.1]; exact hv.2.2.2.2.1.1) (by rw [hv.2.2.2.2.2.1]; exact hv.2.2.2.2.1.2) ((G.2.2.2.2.2.2.2 (i + 1)).toInt) (inR_of _)) fX6_retire qL_135 dL_law_840 KD_110 ⟨Nat.le_of_ble_eq_true rfl, Nat.le_of_ble_eq_true rfl⟩ hc (Nat.le_of_ble_eq_true rfl) (fun μ hμ => ?_)
    refine rL_istore dL_law_843 (Nat.le_of_ble_eq_true rfl) (L' := [some (.ref 1000), some (.ref 0), some (.ref 110), some (.ref 116), some (.int (iI (i : Int))), some (.int (iI _)), some (.int (iI _)), none, none]) (by rfl) ?_
    obtain ⟨hw, h1⟩ := no_post hv (cE_ne h0) hμ
    exact tl (T := 845) dL_law_845 dL_law_846 dL_law_849 dL_law_851 dL_law_856 dL_law_858 dL_law_861 dL_law_862 dL_law_863 dL_law_864 dL_law_866 dL_law_867 dL_law_868 dL_law_873 (by rfl) h1 (cE_in _ _ _ _) (fun z => absurd z (cE_ne h0)) hc (kt _ _ _ hw)
