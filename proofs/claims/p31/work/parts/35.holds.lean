/-! p31: the law's holds -/
set_option maxRecDepth 100000 in
set_option maxHeartbeats 4000000 in
theorem ct_L_holds {l : Launch} {G : GG} {π : Nat → Option Nat} {σ τ : ST} (hK : KI σ) (hbd : σ 10 2 ≤ 1000) : Ct l G mL_holds (6, 0, 0) [.ref 0] 110 KD σ τ (RHO π) (KSP (some (.int (iI 1))) σ τ π (fun _ => True)) := by
  have hI := hK.1
  have hS := hK.2.1
  have hR := hK.2.2
  have hz := hI.sz
  have hm := hI.mk
  have hro := hI.ro
  have hmk := hR.mk
  have h70 := hS.w0.1
  have h30 := hS.w0.2
  have hsu := hR.su
  have ho1 := (oldF_le hI).1
  have ho2 := oldF_ge hI hR
  have fr := fr_eq hI hR
  refine ct_intro (own := "ShapedRowsLaw") rfl (by decide +kernel) (Nat.le_of_ble_eq_true rfl) (L := _) rfl ?_
  have cut_230 : ∀ (N : Nat) (r a : Int) (f : Nat → Int), (0 ≤ r) → (r < σ 10 0) → (0 ≤ a) → (a ≤ 8) → (∀ g : Nat → Int, WP l G "ShapedRowsLaw" mL_holds (6, 0, 0) (KSP (some (.int (iI 1))) σ τ π (fun _ => True)) noX 110 214 [some (.ref 0), some (.int (iI (σ 10 0))), some (.int (iI 4)), some (.int (iI (oldC σ (r + 1).toNat))), some (.int (iI (sm12 σ (r + 1).toNat))), some (.int (iI (σ 2 0 - 1))), some (.int (iI (r + 1))), none, none, none] [] 110 KD (sr σ 15 g) τ (RHO π) 0 0) → 8 - a < (N : Int) → WP l G "ShapedRowsLaw" mL_holds (6, 0, 0) (KSP (some (.int (iI 1))) σ τ π (fun _ => True)) noX 110 230 [some (.ref 0), some (.int (iI (σ 10 0))), some (.int (iI 4)), some (.int (iI (oldC σ r.toNat))), some (.int (iI (sm12 σ r.toNat))), some (.int (iI (σ 2 0 - 1))), some (.int (iI r)), some (.int (iI (sumL σ r.toNat (σ 2 0 - 1).toNat a.toNat))), some (.int (iI a)), none] [] 110 KD (sr σ 15 f) τ (RHO π) 0 0 := by
    intro N
    induction N with
    | zero => intro r a f r0 r1 a0 a1 hk hm; exact absurd hm (by omega)
    | succ N ih =>
      intro r a f r0 r1 a0 a1 hk hm
      have er : ((r.toNat : Nat) : Int) = r := by omega
      have hq := hR.ro r.toNat (by omega)
      have hsr := sumL_rng hI r.toNat (σ 2 0 - 1).toNat a.toNat
      have hvr := vRd_rng hI r.toNat (σ 2 0 - 1).toNat a
      have hs8 : a = 8 → sumL σ r.toNat (σ 2 0 - 1).toNat a.toNat = sumL σ r.toNat (σ 2 0 - 1).toNat 8 := fun z => by rw [z]; rfl
      have hsr8 := sumL_rng hI r.toNat (σ 2 0 - 1).toNat 8
      refine r_iload dL_holds_230 (by rfl) ?_
      refine r_bipush dL_holds_232 (by decide) ?_
      refine r_icmp_ge (tgt := 271) dL_holds_234 (by decide) (by unfold inR; omega) (by unfold inR; omega) (fun h234 => ?_) (fun h234 => ?_)
      · refine r_iload_n dL_holds_271 rfl (by rfl) ?_
        refine r_aload_n dL_holds_272 rfl (by rfl) ?_
        refine r_iload dL_holds_273 (by rfl) ?_
        refine r_iconst dL_holds_275 ?_
        refine r_callZ2 (cz_row hI r 2 (σ 2 0 - 1 - σ 11 r.toNat) (by omega) (by omega) (rfl)) fX5_row qL_58 dL_holds_276 KD_0 (by decide) ⟨Nat.zero_le _, Nat.zero_le _⟩ (Nat.le_of_ble_eq_true rfl) (fun f_1 _ => ?_)
        refine r_if_le (tgt := 286) dL_holds_279 (by decide) (by unfold inR; omega) (fun h279 => ?_) (fun h279 => ?_)
        · refine r_iconst dL_holds_286 ?_
          refine r_iadd dL_holds_287 ?_
          rw [show oldC σ r.toNat + _ = oldC σ (r + 1).toNat from by
              rw [show (r + 1).toNat = r.toNat + 1 by omega]
              show _ = oldC _ _ + (if 0 < σ 2 0 - 1 - σ 11 r.toNat then 1 else 0)
              first | rw [if_pos h279] | rw [if_neg (by omega)]]
          refine r_istore_n dL_holds_288 rfl (Nat.le_of_ble_eq_true rfl) (L' := [_, _, _, _, _, _, _, _, _, _]) (by rfl) ?_
          refine r_iload dL_holds_289 (by rfl) ?_
          refine r_aload_n dL_holds_291 rfl (by rfl) ?_
          refine r_iload dL_holds_292 (by rfl) ?_
          refine r_iconst dL_holds_294 ?_
          refine r_callZ2 (cz_row hI r 3 (σ 12 r.toNat) (by omega) (by omega) (rfl)) fX5_row qL_58 dL_holds_295 KD_0 (by decide) ⟨Nat.zero_le _, Nat.zero_le _⟩ (Nat.le_of_ble_eq_true rfl) (fun f_2 _ => ?_)
          refine r_iadd dL_holds_298 ?_
          rw [show sm12 σ r.toNat + σ 12 r.toNat = sm12 σ (r + 1).toNat from by rw [show (r + 1).toNat = r.toNat + 1 by omega]; rfl]
          refine r_istore dL_holds_299 (Nat.le_of_ble_eq_true rfl) (L' := [_, _, _, _, _, _, _, _, _, _]) (by rfl) ?_
          refine r_iload dL_holds_301 (by rfl) ?_
          refine r_aload_n dL_holds_303 rfl (by rfl) ?_
          refine r_iload dL_holds_304 (by rfl) ?_
          refine r_iconst dL_holds_306 ?_
          refine r_callZ2 (cz_row hI r 5 (sumL σ r.toNat (σ 2 0 - 1).toNat 8) (by omega) (by omega) (by rw [sumL_eq hI hS r.toNat (by omega)]; rfl)) fX5_row qL_58 dL_holds_307 KD_0 (by decide) ⟨Nat.zero_le _, Nat.zero_le _⟩ (Nat.le_of_ble_eq_true rfl) (fun f_3 _ => ?_)
          refine r_icmp_ne (tgt := 364) dL_holds_310 (by decide) (by unfold inR; omega) (by unfold inR; omega) (fun h310 => ?_) (fun h310 => ?_)
          · exact absurd (hs8 (by omega)) h310
          · refine r_aload_n dL_holds_313 rfl (by rfl) ?_
            refine r_iload dL_holds_314 (by rfl) ?_
            refine r_iconst dL_holds_316 ?_
            refine r_callZ2 (cz_row hI r 0 (σ 11 r.toNat) (by omega) (by omega) (rfl)) fX5_row qL_58 dL_holds_317 KD_0 (by decide) ⟨Nat.zero_le _, Nat.zero_le _⟩ (Nat.le_of_ble_eq_true rfl) (fun f_4 _ => ?_)
            refine r_aload_n dL_holds_320 rfl (by rfl) ?_
            refine r_iconst dL_holds_321 ?_
            refine r_callZ1 (cz_count hI 1 (σ 2 1) (by omega) rfl) fX5_count qL_8 dL_holds_322 KD_0 (by decide) ⟨Nat.zero_le _, Nat.zero_le _⟩ (Nat.le_of_ble_eq_true rfl) (fun f_5 _ => ?_)
            refine r_icmp_lt (tgt := 364) dL_holds_325 (by decide) (by unfold inR; omega) (by unfold inR; omega) (fun h325 => ?_) (fun h325 => ?_)
            · exfalso
              omega
            · refine r_aload_n dL_holds_328 rfl (by rfl) ?_
              refine r_iload dL_holds_329 (by rfl) ?_
              refine r_iconst dL_holds_331 ?_
              refine r_callZ2 (cz_row hI r 2 (σ 2 0 - 1 - σ 11 r.toNat) (by omega) (by omega) (rfl)) fX5_row qL_58 dL_holds_332 KD_0 (by decide) ⟨Nat.zero_le _, Nat.zero_le _⟩ (Nat.le_of_ble_eq_true rfl) (fun f_6 _ => ?_)
              refine r_iload dL_holds_335 (by rfl) ?_
              refine r_aload_n dL_holds_337 rfl (by rfl) ?_
              refine r_iload dL_holds_338 (by rfl) ?_
              refine r_iconst dL_holds_340 ?_
              refine r_callZ2 (cz_row hI r 0 (σ 11 r.toNat) (by omega) (by omega) (rfl)) fX5_row qL_58 dL_holds_341 KD_0 (by decide) ⟨Nat.zero_le _, Nat.zero_le _⟩ (Nat.le_of_ble_eq_true rfl) (fun f_7 _ => ?_)
              refine r_isub dL_holds_344 ?_
              refine r_icmp_ne (tgt := 364) dL_holds_345 (by decide) (by unfold inR; omega) (by unfold inR; omega) (fun h345 => ?_) (fun h345 => ?_)
              · exact absurd rfl h345
              · refine r_aload_n dL_holds_348 rfl (by rfl) ?_
                refine r_iload dL_holds_349 (by rfl) ?_
                refine r_aload_n dL_holds_351 rfl (by rfl) ?_
                refine r_iload dL_holds_352 (by rfl) ?_
                refine r_iconst dL_holds_354 ?_
                refine r_callZ2 (cz_row hI r 0 (σ 11 r.toNat) (by omega) (by omega) (rfl)) fX5_row qL_58 dL_holds_355 KD_0 (by decide) ⟨Nat.zero_le _, Nat.zero_le _⟩ (Nat.le_of_ble_eq_true rfl) (fun f_8 _ => ?_)
                refine r_callZ2 (cz_lost hI r (σ 11 r.toNat) 0 (by omega) (by omega) (lost_0 _ _)) fX5_lost qL_71 dL_holds_358 KD_0 (by decide) ⟨Nat.zero_le _, Nat.zero_le _⟩ (Nat.le_of_ble_eq_true rfl) (fun f_9 _ => ?_)
                refine r_if_eq (tgt := 366) dL_holds_361 (by decide) (by unfold inR; omega) (fun h361 => ?_) (fun h361 => ?_)
                · refine r_iinc dL_holds_366 (by rfl) (Nat.le_of_ble_eq_true rfl) (L' := [_, _, _, _, _, _, _, _, _, _]) (by rfl) ?_
                  refine r_goto (tgt := 214) dL_holds_369 (by decide) ?_
                  refine WP.wk (L' := [_, _, _, _, _, _, _, none, none, none]) (leL_s (leL_s (leL_s (leL_s (leL_s (leL_s (leL_s (leL_n (leL_n (leL_n leL_0)))))))))) ?_
                  first | exact hk _ | exact cut_214 13 0 _ (by omega) (by omega) (by omega)
                · exact absurd rfl h361
        · refine r_iconst dL_holds_282 ?_
          refine r_goto (tgt := 287) dL_holds_283 (by decide) ?_
          refine r_iadd dL_holds_287 ?_
          rw [show oldC σ r.toNat + _ = oldC σ (r + 1).toNat from by
              rw [show (r + 1).toNat = r.toNat + 1 by omega]
              show _ = oldC _ _ + (if 0 < σ 2 0 - 1 - σ 11 r.toNat then 1 else 0)
              first | rw [if_pos h279] | rw [if_neg (by omega)]]
          refine r_istore_n dL_holds_288 rfl (Nat.le_of_ble_eq_true rfl) (L' := [_, _, _, _, _, _, _, _, _, _]) (by rfl) ?_
          refine r_iload dL_holds_289 (by rfl) ?_
          refine r_aload_n dL_holds_291 rfl (by rfl) ?_
          refine r_iload dL_holds_292 (by rfl) ?_
          refine r_iconst dL_holds_294 ?_
          refine r_callZ2 (cz_row hI r 3 (σ 12 r.toNat) (by omega) (by omega) (rfl)) fX5_row qL_58 dL_holds_295 KD_0 (by decide) ⟨Nat.zero_le _, Nat.zero_le _⟩ (Nat.le_of_ble_eq_true rfl) (fun f_10 _ => ?_)
          refine r_iadd dL_holds_298 ?_
          rw [show sm12 σ r.toNat + σ 12 r.toNat = sm12 σ (r + 1).toNat from by rw [show (r + 1).toNat = r.toNat + 1 by omega]; rfl]
          refine r_istore dL_holds_299 (Nat.le_of_ble_eq_true rfl) (L' := [_, _, _, _, _, _, _, _, _, _]) (by rfl) ?_
          refine r_iload dL_holds_301 (by rfl) ?_
          refine r_aload_n dL_holds_303 rfl (by rfl) ?_
          refine r_iload dL_holds_304 (by rfl) ?_
          refine r_iconst dL_holds_306 ?_
          refine r_callZ2 (cz_row hI r 5 (sumL σ r.toNat (σ 2 0 - 1).toNat 8) (by omega) (by omega) (by rw [sumL_eq hI hS r.toNat (by omega)]; rfl)) fX5_row qL_58 dL_holds_307 KD_0 (by decide) ⟨Nat.zero_le _, Nat.zero_le _⟩ (Nat.le_of_ble_eq_true rfl) (fun f_11 _ => ?_)
          refine r_icmp_ne (tgt := 364) dL_holds_310 (by decide) (by unfold inR; omega) (by unfold inR; omega) (fun h310 => ?_) (fun h310 => ?_)
          · exact absurd (hs8 (by omega)) h310
          · refine r_aload_n dL_holds_313 rfl (by rfl) ?_
            refine r_iload dL_holds_314 (by rfl) ?_
            refine r_iconst dL_holds_316 ?_
            refine r_callZ2 (cz_row hI r 0 (σ 11 r.toNat) (by omega) (by omega) (rfl)) fX5_row qL_58 dL_holds_317 KD_0 (by decide) ⟨Nat.zero_le _, Nat.zero_le _⟩ (Nat.le_of_ble_eq_true rfl) (fun f_12 _ => ?_)
            refine r_aload_n dL_holds_320 rfl (by rfl) ?_
            refine r_iconst dL_holds_321 ?_
            refine r_callZ1 (cz_count hI 1 (σ 2 1) (by omega) rfl) fX5_count qL_8 dL_holds_322 KD_0 (by decide) ⟨Nat.zero_le _, Nat.zero_le _⟩ (Nat.le_of_ble_eq_true rfl) (fun f_13 _ => ?_)
            refine r_icmp_lt (tgt := 364) dL_holds_325 (by decide) (by unfold inR; omega) (by unfold inR; omega) (fun h325 => ?_) (fun h325 => ?_)
            · exfalso
              omega
            · refine r_aload_n dL_holds_328 rfl (by rfl) ?_
              refine r_iload dL_holds_329 (by rfl) ?_
              refine r_iconst dL_holds_331 ?_
              refine r_callZ2 (cz_row hI r 2 (σ 2 0 - 1 - σ 11 r.toNat) (by omega) (by omega) (rfl)) fX5_row qL_58 dL_holds_332 KD_0 (by decide) ⟨Nat.zero_le _, Nat.zero_le _⟩ (Nat.le_of_ble_eq_true rfl) (fun f_14 _ => ?_)
              refine r_iload dL_holds_335 (by rfl) ?_
              refine r_aload_n dL_holds_337 rfl (by rfl) ?_
              refine r_iload dL_holds_338 (by rfl) ?_
              refine r_iconst dL_holds_340 ?_
              refine r_callZ2 (cz_row hI r 0 (σ 11 r.toNat) (by omega) (by omega) (rfl)) fX5_row qL_58 dL_holds_341 KD_0 (by decide) ⟨Nat.zero_le _, Nat.zero_le _⟩ (Nat.le_of_ble_eq_true rfl) (fun f_15 _ => ?_)
              refine r_isub dL_holds_344 ?_
              refine r_icmp_ne (tgt := 364) dL_holds_345 (by decide) (by unfold inR; omega) (by unfold inR; omega) (fun h345 => ?_) (fun h345 => ?_)
              · exact absurd rfl h345
              · refine r_aload_n dL_holds_348 rfl (by rfl) ?_
                refine r_iload dL_holds_349 (by rfl) ?_
                refine r_aload_n dL_holds_351 rfl (by rfl) ?_
                refine r_iload dL_holds_352 (by rfl) ?_
                refine r_iconst dL_holds_354 ?_
                refine r_callZ2 (cz_row hI r 0 (σ 11 r.toNat) (by omega) (by omega) (rfl)) fX5_row qL_58 dL_holds_355 KD_0 (by decide) ⟨Nat.zero_le _, Nat.zero_le _⟩ (Nat.le_of_ble_eq_true rfl) (fun f_16 _ => ?_)
                refine r_callZ2 (cz_lost hI r (σ 11 r.toNat) 0 (by omega) (by omega) (lost_0 _ _)) fX5_lost qL_71 dL_holds_358 KD_0 (by decide) ⟨Nat.zero_le _, Nat.zero_le _⟩ (Nat.le_of_ble_eq_true rfl) (fun f_17 _ => ?_)
                refine r_if_eq (tgt := 366) dL_holds_361 (by decide) (by unfold inR; omega) (fun h361 => ?_) (fun h361 => ?_)
                · refine r_iinc dL_holds_366 (by rfl) (Nat.le_of_ble_eq_true rfl) (L' := [_, _, _, _, _, _, _, _, _, _]) (by rfl) ?_
                  refine r_goto (tgt := 214) dL_holds_369 (by decide) ?_
                  refine WP.wk (L' := [_, _, _, _, _, _, _, none, none, none]) (leL_s (leL_s (leL_s (leL_s (leL_s (leL_s (leL_s (leL_n (leL_n (leL_n leL_0)))))))))) ?_
                  first | exact hk _ | exact cut_214 13 0 _ (by omega) (by omega) (by omega)
                · exact absurd rfl h361
      · refine r_aload_n dL_holds_237 rfl (by rfl) ?_
        refine r_iload dL_holds_238 (by rfl) ?_
        refine r_iload dL_holds_240 (by rfl) ?_
        refine r_iload dL_holds_242 (by rfl) ?_
        refine r_callZ3 (cz_read hI r (σ 2 0 - 1) a (vRd σ r.toNat (σ 2 0 - 1).toNat a) (by omega) (by omega) (by omega) rfl) fX5_read qL_65 dL_holds_244 KD_0 (by decide) ⟨Nat.zero_le _, Nat.zero_le _⟩ (Nat.le_of_ble_eq_true rfl) (fun f_18 _ => ?_)
        refine r_istore dL_holds_247 (Nat.le_of_ble_eq_true rfl) (L' := [_, _, _, _, _, _, _, _, _, _]) (by rfl) ?_
        refine r_iload dL_holds_249 (by rfl) ?_
        refine r_iload dL_holds_251 (by rfl) ?_
        refine r_if_ge (tgt := 260) dL_holds_253 (by decide) (by unfold inR; omega) (fun h253 => ?_) (fun h253 => ?_)
        · refine r_iload dL_holds_260 (by rfl) ?_
          refine r_iadd dL_holds_262 ?_
          rw [show sumL σ r.toNat (σ 2 0 - 1).toNat a.toNat + _ = sumL σ r.toNat (σ 2 0 - 1).toNat (a + 1).toNat from by
              rw [show (a + 1).toNat = a.toNat + 1 by omega]
              show _ = sumL _ _ _ _ + (if vRd σ r.toNat (σ 2 0 - 1).toNat ((a.toNat : Nat) : Int) < 0 then 0 else vRd σ r.toNat (σ 2 0 - 1).toNat ((a.toNat : Nat) : Int))
              rw [show ((a.toNat : Nat) : Int) = a by omega]
              first | rw [if_pos h253] | rw [if_neg (by omega)]]
          refine r_istore dL_holds_263 (Nat.le_of_ble_eq_true rfl) (L' := [_, _, _, _, _, _, _, _, _, _]) (by rfl) ?_
          refine r_iinc dL_holds_265 (by rfl) (Nat.le_of_ble_eq_true rfl) (L' := [_, _, _, _, _, _, _, _, _, _]) (by rfl) ?_
          refine r_goto (tgt := 230) dL_holds_268 (by decide) ?_
          refine WP.wk (L' := [_, _, _, _, _, _, _, _, _, none]) (leL_s (leL_s (leL_s (leL_s (leL_s (leL_s (leL_s (leL_s (leL_s (leL_n leL_0)))))))))) ?_
          exact ih r (a + 1) _ r0 r1 (by omega) (by omega) hk (by omega)
        · refine r_iconst dL_holds_256 ?_
          refine r_goto (tgt := 262) dL_holds_257 (by decide) ?_
          refine r_iadd dL_holds_262 ?_
          rw [show sumL σ r.toNat (σ 2 0 - 1).toNat a.toNat + _ = sumL σ r.toNat (σ 2 0 - 1).toNat (a + 1).toNat from by
              rw [show (a + 1).toNat = a.toNat + 1 by omega]
              show _ = sumL _ _ _ _ + (if vRd σ r.toNat (σ 2 0 - 1).toNat ((a.toNat : Nat) : Int) < 0 then 0 else vRd σ r.toNat (σ 2 0 - 1).toNat ((a.toNat : Nat) : Int))
              rw [show ((a.toNat : Nat) : Int) = a by omega]
              first | rw [if_pos h253] | rw [if_neg (by omega)]]
          refine r_istore dL_holds_263 (Nat.le_of_ble_eq_true rfl) (L' := [_, _, _, _, _, _, _, _, _, _]) (by rfl) ?_
          refine r_iinc dL_holds_265 (by rfl) (Nat.le_of_ble_eq_true rfl) (L' := [_, _, _, _, _, _, _, _, _, _]) (by rfl) ?_
          refine r_goto (tgt := 230) dL_holds_268 (by decide) ?_
          refine WP.wk (L' := [_, _, _, _, _, _, _, _, _, none]) (leL_s (leL_s (leL_s (leL_s (leL_s (leL_s (leL_s (leL_s (leL_s (leL_n leL_0)))))))))) ?_
          exact ih r (a + 1) _ r0 r1 (by omega) (by omega) hk (by omega)
  have cut_214 : ∀ (N : Nat) (r : Int) (f : Nat → Int), (0 ≤ r) → (r ≤ σ 10 0) → σ 10 0 - r < (N : Int) → WP l G "ShapedRowsLaw" mL_holds (6, 0, 0) (KSP (some (.int (iI 1))) σ τ π (fun _ => True)) noX 110 214 [some (.ref 0), some (.int (iI (σ 10 0))), some (.int (iI 4)), some (.int (iI (oldC σ r.toNat))), some (.int (iI (sm12 σ r.toNat))), some (.int (iI (σ 2 0 - 1))), some (.int (iI r)), none, none, none] [] 110 KD (sr σ 15 f) τ (RHO π) 0 0 := by
    intro N
    induction N with
    | zero => intro r f r0 r1 hm; exact absurd hm (by omega)
    | succ N ih =>
      intro r f r0 r1 hm
      have hoc := oldC_rng σ r.toNat
      have hoe := oldC_eq (σ := σ) r.toNat (fun k hk => (hR.ro k (by omega)).2.1)
      have hsm := sm12_mono (σ := σ) (m := (σ 10 0).toNat) (fun k hk => (hR.ro k (by omega)).2.2) r.toNat (by omega)
      have hcn := cntR_rng σ (σ 2 0 - 1) (σ 10 0).toNat
      refine r_iload dL_holds_214 (by rfl) ?_
      refine r_aload_n dL_holds_216 rfl (by rfl) ?_
      refine r_iconst dL_holds_217 ?_
      refine r_callZ1 (cz_count hI 2 (σ 10 0) (by omega) rfl) fX5_count qL_8 dL_holds_218 KD_0 (by decide) ⟨Nat.zero_le _, Nat.zero_le _⟩ (Nat.le_of_ble_eq_true rfl) (fun f_19 _ => ?_)
      refine r_icmp_ge (tgt := 372) dL_holds_221 (by decide) (by unfold inR; omega) (by unfold inR; omega) (fun h221 => ?_) (fun h221 => ?_)
      · have er9 : r = σ 10 0 := by omega
        subst er9
        refine r_iload_n dL_holds_372 rfl (by rfl) ?_
        refine r_aload_n dL_holds_373 rfl (by rfl) ?_
        refine r_iconst dL_holds_374 ?_
        refine r_callZ1 (cz_count hI 2 (σ 10 0) (by omega) rfl) fX5_count qL_8 dL_holds_375 KD_0 (by decide) ⟨Nat.zero_le _, Nat.zero_le _⟩ (Nat.le_of_ble_eq_true rfl) (fun f_20 _ => ?_)
        refine r_icmp_ne (tgt := 449) dL_holds_378 (by decide) (by unfold inR; omega) (by unfold inR; omega) (fun h378 => ?_) (fun h378 => ?_)
        · exact absurd rfl h378
        · refine r_iload_n dL_holds_381 rfl (by rfl) ?_
          refine r_iconst dL_holds_382 ?_
          refine r_icmp_ne (tgt := 449) dL_holds_383 (by decide) (by unfold inR; omega) (by unfold inR; omega) (fun h383 => ?_) (fun h383 => ?_)
          · exact absurd rfl h383
          · refine r_iload_n dL_holds_386 rfl (by rfl) ?_
            refine r_aload_n dL_holds_387 rfl (by rfl) ?_
            refine r_iconst dL_holds_388 ?_
            refine r_callZ1 (cz_count hI 3 (σ 10 0 - cntR σ (σ 2 0 - 1) (σ 10 0).toNat) (by omega) rfl) fX5_count qL_8 dL_holds_389 KD_0 (by decide) ⟨Nat.zero_le _, Nat.zero_le _⟩ (Nat.le_of_ble_eq_true rfl) (fun f_21 _ => ?_)
            refine r_icmp_ne (tgt := 449) dL_holds_392 (by decide) (by unfold inR; omega) (by unfold inR; omega) (fun h392 => ?_) (fun h392 => ?_)
            · exfalso
              omega
            · refine r_iload dL_holds_395 (by rfl) ?_
              refine r_aload_n dL_holds_397 rfl (by rfl) ?_
              refine r_iconst dL_holds_398 ?_
              refine r_callZ1 (cz_count hI 5 (σ 10 2) (by omega) rfl) fX5_count qL_8 dL_holds_399 KD_0 (by decide) ⟨Nat.zero_le _, Nat.zero_le _⟩ (Nat.le_of_ble_eq_true rfl) (fun f_22 _ => ?_)
              refine r_icmp_gt (tgt := 449) dL_holds_402 (by decide) (by unfold inR; omega) (by unfold inR; omega) (fun h402 => ?_) (fun h402 => ?_)
              · exfalso
                omega
              · refine r_aload_n dL_holds_405 rfl (by rfl) ?_
                refine r_bipush dL_holds_406 (by decide) ?_
                refine r_callZ1 (cz_count hI 8 (oldF σ) (by omega) rfl) fX5_count qL_8 dL_holds_408 KD_0 (by decide) ⟨Nat.zero_le _, Nat.zero_le _⟩ (Nat.le_of_ble_eq_true rfl) (fun f_23 _ => ?_)
                refine r_aload_n dL_holds_411 rfl (by rfl) ?_
                refine r_iconst dL_holds_412 ?_
                refine r_callZ1 (cz_count hI 1 (σ 2 1) (by omega) rfl) fX5_count qL_8 dL_holds_413 KD_0 (by decide) ⟨Nat.zero_le _, Nat.zero_le _⟩ (Nat.le_of_ble_eq_true rfl) (fun f_24 _ => ?_)
                refine r_icmp_lt (tgt := 449) dL_holds_416 (by decide) (by unfold inR; omega) (by unfold inR; omega) (fun h416 => ?_) (fun h416 => ?_)
                · exfalso
                  omega
                · refine r_aload_n dL_holds_419 rfl (by rfl) ?_
                  refine r_callZ0 (cz_freshShare hI) fX5_freshShare qL_74 dL_holds_420 KD_0 (by decide) ⟨Nat.zero_le _, Nat.zero_le _⟩ (Nat.le_of_ble_eq_true rfl) (fun f_25 _ => ?_)
                  refine r_dconst1 dL_holds_423 ?_
                  refine r_dcmp dL_holds_424 ?_
                  refine r_if_ne (tgt := 432) dL_holds_425 (by decide) (inR_of _) (fun h425 => ?_) (fun h425 => ?_)
                  · refine r_iconst dL_holds_432 ?_
                    refine r_iload_n dL_holds_433 rfl (by rfl) ?_
                    refine r_if_ne (tgt := 441) dL_holds_434 (by decide) (by unfold inR; omega) (fun h434 => ?_) (fun h434 => ?_)
                    · refine r_iconst dL_holds_441 ?_
                      refine r_icmp_ne (tgt := 449) dL_holds_442 (by decide) (by unfold inR; omega) (by unfold inR; omega) (fun h442 => ?_) (fun h442 => ?_)
                      · exfalso
                        first | exact h442 rfl | exact h425 (fr.mpr h434) | exact h434 (fr.mp h425)
                      · refine r_iconst dL_holds_445 ?_
                        refine r_goto (tgt := 450) dL_holds_446 (by decide) ?_
                        exact r_retK dL_holds_450 rfl ⟨Nat.zero_le _, Nat.zero_le _⟩ (by first | exact Or.inl rfl | exact Or.inr rfl) (by exact ⟨rfl, rfl, rfl, ⟨_, trivial, rfl⟩, rfl, rfl⟩)
                    · refine r_iconst dL_holds_437 ?_
                      refine r_goto (tgt := 442) dL_holds_438 (by decide) ?_
                      refine r_icmp_ne (tgt := 449) dL_holds_442 (by decide) (by unfold inR; omega) (by unfold inR; omega) (fun h442 => ?_) (fun h442 => ?_)
                      · exfalso
                        first | exact h442 rfl | exact h425 (fr.mpr h434) | exact h434 (fr.mp h425)
                      · refine r_iconst dL_holds_445 ?_
                        refine r_goto (tgt := 450) dL_holds_446 (by decide) ?_
                        exact r_retK dL_holds_450 rfl ⟨Nat.zero_le _, Nat.zero_le _⟩ (by first | exact Or.inl rfl | exact Or.inr rfl) (by exact ⟨rfl, rfl, rfl, ⟨_, trivial, rfl⟩, rfl, rfl⟩)
                  · refine r_iconst dL_holds_428 ?_
                    refine r_goto (tgt := 433) dL_holds_429 (by decide) ?_
                    refine r_iload_n dL_holds_433 rfl (by rfl) ?_
                    refine r_if_ne (tgt := 441) dL_holds_434 (by decide) (by unfold inR; omega) (fun h434 => ?_) (fun h434 => ?_)
                    · refine r_iconst dL_holds_441 ?_
                      refine r_icmp_ne (tgt := 449) dL_holds_442 (by decide) (by unfold inR; omega) (by unfold inR; omega) (fun h442 => ?_) (fun h442 => ?_)
                      · exfalso
                        first | exact h442 rfl | exact h425 (fr.mpr h434) | exact h434 (fr.mp h425)
                      · refine r_iconst dL_holds_445 ?_
                        refine r_goto (tgt := 450) dL_holds_446 (by decide) ?_
                        exact r_retK dL_holds_450 rfl ⟨Nat.zero_le _, Nat.zero_le _⟩ (by first | exact Or.inl rfl | exact Or.inr rfl) (by exact ⟨rfl, rfl, rfl, ⟨_, trivial, rfl⟩, rfl, rfl⟩)
                    · refine r_iconst dL_holds_437 ?_
                      refine r_goto (tgt := 442) dL_holds_438 (by decide) ?_
                      refine r_icmp_ne (tgt := 449) dL_holds_442 (by decide) (by unfold inR; omega) (by unfold inR; omega) (fun h442 => ?_) (fun h442 => ?_)
                      · exfalso
                        first | exact h442 rfl | exact h425 (fr.mpr h434) | exact h434 (fr.mp h425)
                      · refine r_iconst dL_holds_445 ?_
                        refine r_goto (tgt := 450) dL_holds_446 (by decide) ?_
                        exact r_retK dL_holds_450 rfl ⟨Nat.zero_le _, Nat.zero_le _⟩ (by first | exact Or.inl rfl | exact Or.inr rfl) (by exact ⟨rfl, rfl, rfl, ⟨_, trivial, rfl⟩, rfl, rfl⟩)
      · refine r_iconst dL_holds_224 ?_
        refine r_istore dL_holds_225 (Nat.le_of_ble_eq_true rfl) (L' := [_, _, _, _, _, _, _, _, _, _]) (by rfl) ?_
        refine r_iconst dL_holds_227 ?_
        refine r_istore dL_holds_228 (Nat.le_of_ble_eq_true rfl) (L' := [_, _, _, _, _, _, _, _, _, _]) (by rfl) ?_
        exact cut_230 9 r 0 _ r0 h221 (by omega) (by omega) (fun g => ih (r + 1) g (by omega) (by omega) (by omega)) (by omega)
  have cut_143 : ∀ (s : Int) (f : Nat → Int), (0 ≤ s) → (s < σ 2 0) → (∀ g : Nat → Int, WP l G "ShapedRowsLaw" mL_holds (6, 0, 0) (KSP (some (.int (iI 1))) σ τ π (fun _ => True)) noX 110 21 [some (.ref 0), some (.int (iI (totG (σ 11) (σ 10 0).toNat (s + 1).toNat))), some (.int (iI (totG (σ 14) 4 (s + 1).toNat))), some (.int (iI 0)), some (.int (iI 0)), some (.int (iI (σ 2 0 - 1))), some (.int (iI (s + 1))), none, none, none] [] 110 KD (sr σ 15 g) τ (RHO π) 0 0) → WP l G "ShapedRowsLaw" mL_holds (6, 0, 0) (KSP (some (.int (iI 1))) σ τ π (fun _ => True)) noX 110 143 [some (.ref 0), some (.int (iI (totG (σ 11) (σ 10 0).toNat (s + 1).toNat))), some (.int (iI (totG (σ 14) 4 (s + 1).toNat))), some (.int (iI 0)), some (.int (iI 0)), some (.int (iI (σ 2 0 - 1))), some (.int (iI s)), none, none, none] [.int (iI 1)] 110 KD (sr σ 15 f) τ (RHO π) 0 0 := by
    intro s f s0 s1 hk
    have es : ((s.toNat : Nat) : Int) = s := by omega
    have hc2 : s < σ 2 1 → cntG (σ 11) s (σ 10 0).toNat = 0 := fun z => cntG_0 _ (fun k hk => by have q := hR.ro k (by omega); omega)
    have hc3 : s < σ 2 1 → cntG (σ 14) s 4 = 0 := fun z => cntG_0 _ (fun k hk => by have q := hR.he k hk; omega)
    refine r_istore dL_holds_143 (Nat.le_of_ble_eq_true rfl) (L' := [_, _, _, _, _, _, _, _, _, _]) (by rfl) ?_
    refine r_iload dL_holds_145 (by rfl) ?_
    refine r_if_eq (tgt := 203) dL_holds_147 (by decide) (by unfold inR; omega) (fun h147 => ?_) (fun h147 => ?_)
    · exact absurd h147 (by decide)
    · refine r_aload_n dL_holds_150 rfl (by rfl) ?_
      refine r_iload dL_holds_151 (by rfl) ?_
      refine r_iconst dL_holds_153 ?_
      refine r_callZ2 (cz_shape hI s 4 (if s < σ 2 1 then 1 else 0) (by omega) (by omega) (by show (if ((s.toNat : Nat) : Int) < σ 2 1 then (1 : Int) else 0) = _; rw [es])) fX5_shape qL_14 dL_holds_154 KD_0 (by decide) ⟨Nat.zero_le _, Nat.zero_le _⟩ (Nat.le_of_ble_eq_true rfl) (fun f_26 _ => ?_)
      refine r_iload dL_holds_157 (by rfl) ?_
      refine r_aload_n dL_holds_159 rfl (by rfl) ?_
      refine r_iconst dL_holds_160 ?_
      refine r_callZ1 (cz_count hI 1 (σ 2 1) (by omega) rfl) fX5_count qL_8 dL_holds_161 KD_0 (by decide) ⟨Nat.zero_le _, Nat.zero_le _⟩ (Nat.le_of_ble_eq_true rfl) (fun f_27 _ => ?_)
      refine r_icmp_ge (tgt := 171) dL_holds_164 (by decide) (by unfold inR; omega) (by unfold inR; omega) (fun h164 => ?_) (fun h164 => ?_)
      · refine r_iconst dL_holds_171 ?_
        refine r_icmp_ne (tgt := 203) dL_holds_172 (by decide) (by unfold inR; split <;> omega) (by unfold inR; omega) (fun h172 => ?_) (fun h172 => ?_)
        · exfalso
          first | (rw [if_pos (by omega)] at h172; omega) | (rw [if_neg (by omega)] at h172; omega)
        · refine r_iload dL_holds_175 (by rfl) ?_
          refine r_aload_n dL_holds_177 rfl (by rfl) ?_
          refine r_iconst dL_holds_178 ?_
          refine r_callZ1 (cz_count hI 1 (σ 2 1) (by omega) rfl) fX5_count qL_8 dL_holds_179 KD_0 (by decide) ⟨Nat.zero_le _, Nat.zero_le _⟩ (Nat.le_of_ble_eq_true rfl) (fun f_28 _ => ?_)
          refine r_icmp_ge (tgt := 205) dL_holds_182 (by decide) (by unfold inR; omega) (by unfold inR; omega) (fun h182 => ?_) (fun h182 => ?_)
          · refine r_iinc dL_holds_205 (by rfl) (Nat.le_of_ble_eq_true rfl) (L' := [_, _, _, _, _, _, _, _, _, _]) (by rfl) ?_
            refine r_goto (tgt := 21) dL_holds_208 (by decide) ?_
            refine WP.wk (L' := [_, _, _, _, _, _, _, none, none, none]) (leL_s (leL_s (leL_s (leL_s (leL_s (leL_s (leL_s (leL_n (leL_n (leL_n leL_0)))))))))) ?_
            first | exact hk _ | exact cut_21 14 0 _ (by omega) (by omega) (by omega)
          · refine r_aload_n dL_holds_185 rfl (by rfl) ?_
            refine r_iload dL_holds_186 (by rfl) ?_
            refine r_iconst dL_holds_188 ?_
            refine r_callZ2 (cz_shape hI s 2 (cntG (σ 11) s (σ 10 0).toNat) (by omega) (by omega) (by show cntR σ _ _ = _; rw [cntR_G, es])) fX5_shape qL_14 dL_holds_189 KD_0 (by decide) ⟨Nat.zero_le _, Nat.zero_le _⟩ (Nat.le_of_ble_eq_true rfl) (fun f_29 _ => ?_)
            refine r_aload_n dL_holds_192 rfl (by rfl) ?_
            refine r_iload dL_holds_193 (by rfl) ?_
            refine r_iconst dL_holds_195 ?_
            refine r_callZ2 (cz_shape hI s 3 (cntG (σ 14) s 4) (by omega) (by omega) (by show cntH σ _ _ = _; rw [cntH_G, es])) fX5_shape qL_14 dL_holds_196 KD_0 (by decide) ⟨Nat.zero_le _, Nat.zero_le _⟩ (Nat.le_of_ble_eq_true rfl) (fun f_30 _ => ?_)
            refine r_iadd dL_holds_199 ?_
            refine r_if_le (tgt := 205) dL_holds_200 (by decide) (by rw [hc2 (by omega), hc3 (by omega)]; unfold inR; omega) (fun h200 => ?_) (fun h200 => ?_)
            · refine r_iinc dL_holds_205 (by rfl) (Nat.le_of_ble_eq_true rfl) (L' := [_, _, _, _, _, _, _, _, _, _]) (by rfl) ?_
              refine r_goto (tgt := 21) dL_holds_208 (by decide) ?_
              refine WP.wk (L' := [_, _, _, _, _, _, _, none, none, none]) (leL_s (leL_s (leL_s (leL_s (leL_s (leL_s (leL_s (leL_n (leL_n (leL_n leL_0)))))))))) ?_
              first | exact hk _ | exact cut_21 14 0 _ (by omega) (by omega) (by omega)
            · exfalso
              rw [hc2 (by omega), hc3 (by omega)] at h200
              omega
      · refine r_iconst dL_holds_167 ?_
        refine r_goto (tgt := 172) dL_holds_168 (by decide) ?_
        refine r_icmp_ne (tgt := 203) dL_holds_172 (by decide) (by unfold inR; split <;> omega) (by unfold inR; omega) (fun h172 => ?_) (fun h172 => ?_)
        · exfalso
          first | (rw [if_pos (by omega)] at h172; omega) | (rw [if_neg (by omega)] at h172; omega)
        · refine r_iload dL_holds_175 (by rfl) ?_
          refine r_aload_n dL_holds_177 rfl (by rfl) ?_
          refine r_iconst dL_holds_178 ?_
          refine r_callZ1 (cz_count hI 1 (σ 2 1) (by omega) rfl) fX5_count qL_8 dL_holds_179 KD_0 (by decide) ⟨Nat.zero_le _, Nat.zero_le _⟩ (Nat.le_of_ble_eq_true rfl) (fun f_31 _ => ?_)
          refine r_icmp_ge (tgt := 205) dL_holds_182 (by decide) (by unfold inR; omega) (by unfold inR; omega) (fun h182 => ?_) (fun h182 => ?_)
          · refine r_iinc dL_holds_205 (by rfl) (Nat.le_of_ble_eq_true rfl) (L' := [_, _, _, _, _, _, _, _, _, _]) (by rfl) ?_
            refine r_goto (tgt := 21) dL_holds_208 (by decide) ?_
            refine WP.wk (L' := [_, _, _, _, _, _, _, none, none, none]) (leL_s (leL_s (leL_s (leL_s (leL_s (leL_s (leL_s (leL_n (leL_n (leL_n leL_0)))))))))) ?_
            first | exact hk _ | exact cut_21 14 0 _ (by omega) (by omega) (by omega)
          · refine r_aload_n dL_holds_185 rfl (by rfl) ?_
            refine r_iload dL_holds_186 (by rfl) ?_
            refine r_iconst dL_holds_188 ?_
            refine r_callZ2 (cz_shape hI s 2 (cntG (σ 11) s (σ 10 0).toNat) (by omega) (by omega) (by show cntR σ _ _ = _; rw [cntR_G, es])) fX5_shape qL_14 dL_holds_189 KD_0 (by decide) ⟨Nat.zero_le _, Nat.zero_le _⟩ (Nat.le_of_ble_eq_true rfl) (fun f_32 _ => ?_)
            refine r_aload_n dL_holds_192 rfl (by rfl) ?_
            refine r_iload dL_holds_193 (by rfl) ?_
            refine r_iconst dL_holds_195 ?_
            refine r_callZ2 (cz_shape hI s 3 (cntG (σ 14) s 4) (by omega) (by omega) (by show cntH σ _ _ = _; rw [cntH_G, es])) fX5_shape qL_14 dL_holds_196 KD_0 (by decide) ⟨Nat.zero_le _, Nat.zero_le _⟩ (Nat.le_of_ble_eq_true rfl) (fun f_33 _ => ?_)
            refine r_iadd dL_holds_199 ?_
            refine r_if_le (tgt := 205) dL_holds_200 (by decide) (by rw [hc2 (by omega), hc3 (by omega)]; unfold inR; omega) (fun h200 => ?_) (fun h200 => ?_)
            · refine r_iinc dL_holds_205 (by rfl) (Nat.le_of_ble_eq_true rfl) (L' := [_, _, _, _, _, _, _, _, _, _]) (by rfl) ?_
              refine r_goto (tgt := 21) dL_holds_208 (by decide) ?_
              refine WP.wk (L' := [_, _, _, _, _, _, _, none, none, none]) (leL_s (leL_s (leL_s (leL_s (leL_s (leL_s (leL_s (leL_n (leL_n (leL_n leL_0)))))))))) ?_
              first | exact hk _ | exact cut_21 14 0 _ (by omega) (by omega) (by omega)
            · exfalso
              rw [hc2 (by omega), hc3 (by omega)] at h200
              omega
  have cut_21 : ∀ (N : Nat) (s : Int) (f : Nat → Int), (0 ≤ s) → (s ≤ σ 2 0) → σ 2 0 - s < (N : Int) → WP l G "ShapedRowsLaw" mL_holds (6, 0, 0) (KSP (some (.int (iI 1))) σ τ π (fun _ => True)) noX 110 21 [some (.ref 0), some (.int (iI (totG (σ 11) (σ 10 0).toNat s.toNat))), some (.int (iI (totG (σ 14) 4 s.toNat))), some (.int (iI 0)), some (.int (iI 0)), some (.int (iI (σ 2 0 - 1))), some (.int (iI s)), none, none, none] [] 110 KD (sr σ 15 f) τ (RHO π) 0 0 := by
    intro N
    induction N with
    | zero => intro s f s0 s1 hm; exact absurd hm (by omega)
    | succ N ih =>
      intro s f s0 s1 hm
      have es : ((s.toNat : Nat) : Int) = s := by omega
      have w1 := hI.wd s.toNat
      have w2 := hI.wd (s - 1).toNat
      have w3 := hI.ch s.toNat
      have hst : (s = 0 ∧ σ 3 s.toNat = 0) ∨ (s ≠ 0 ∧ (s < σ 2 0 → (σ 3 s.toNat < 4 ∧ σ 7 s.toNat - σ 7 (s - 1).toNat = 1) ∨ (σ 3 s.toNat = 4 ∧ σ 7 s.toNat - σ 7 (s - 1).toNat = -1) ∨ (4 < σ 3 s.toNat ∧ σ 7 s.toNat - σ 7 (s - 1).toNat = 0))) := by
        by_cases z : s = 0
        · left
          rw [z]
          exact ⟨rfl, h30⟩
        · right
          refine ⟨z, fun z2 => ?_⟩
          have q := hS.st (s - 1).toNat (by omega)
          rw [show (s - 1).toNat + 1 = s.toNat by omega] at q
          obtain ⟨q1, q2⟩ := q
          split at q2
          · exact Or.inl ⟨by omega, q2⟩
          · split at q2
            · exact Or.inr (Or.inl ⟨by omega, q2⟩)
            · exact Or.inr (Or.inr ⟨by omega, q2⟩)
      refine r_iload dL_holds_21 (by rfl) ?_
      refine r_iload dL_holds_23 (by rfl) ?_
      refine r_icmp_gt (tgt := 211) dL_holds_25 (by decide) (by unfold inR; omega) (by unfold inR; omega) (fun h25 => ?_) (fun h25 => ?_)
      · have es : s = σ 2 0 := by omega
        subst es
        rw [totG_all (n := (σ 2 0).toNat) (σ 10 0).toNat (fun k hk => by have q := hR.ro k (by omega); omega), totG_all (n := (σ 2 0).toNat) 4 (fun k hk => by have q := hR.he k hk; omega), show (((σ 10 0).toNat : Nat) : Int) = σ 10 0 by omega]
        refine r_iconst dL_holds_211 ?_
        refine r_istore dL_holds_212 (Nat.le_of_ble_eq_true rfl) (L' := [_, _, _, _, _, _, _, _, _, _]) (by rfl) ?_
        first | exact hk _ | exact cut_214 13 0 _ (by omega) (by omega) (by omega)
      · refine r_iload_n dL_holds_28 rfl (by rfl) ?_
        refine r_aload_n dL_holds_29 rfl (by rfl) ?_
        refine r_iload dL_holds_30 (by rfl) ?_
        refine r_iconst dL_holds_32 ?_
        refine r_callZ2 (cz_shape hI s 2 (cntG (σ 11) s (σ 10 0).toNat) (by omega) (by omega) (by show cntR σ _ _ = _; rw [cntR_G, es])) fX5_shape qL_14 dL_holds_33 KD_0 (by decide) ⟨Nat.zero_le _, Nat.zero_le _⟩ (Nat.le_of_ble_eq_true rfl) (fun f_34 _ => ?_)
        refine r_iadd dL_holds_36 ?_
        rw [show totG (σ 11) (σ 10 0).toNat s.toNat + cntG (σ 11) s (σ 10 0).toNat = totG (σ 11) (σ 10 0).toNat (s + 1).toNat from by rw [show (s + 1).toNat = s.toNat + 1 by omega]; show _ = totG _ _ _ + cntG _ ((s.toNat : Nat) : Int) _; rw [es]]
        refine r_istore_n dL_holds_37 rfl (Nat.le_of_ble_eq_true rfl) (L' := [_, _, _, _, _, _, _, _, _, _]) (by rfl) ?_
        refine r_iload_n dL_holds_38 rfl (by rfl) ?_
        refine r_aload_n dL_holds_39 rfl (by rfl) ?_
        refine r_iload dL_holds_40 (by rfl) ?_
        refine r_iconst dL_holds_42 ?_
        refine r_callZ2 (cz_shape hI s 3 (cntG (σ 14) s 4) (by omega) (by omega) (by show cntH σ _ _ = _; rw [cntH_G, es])) fX5_shape qL_14 dL_holds_43 KD_0 (by decide) ⟨Nat.zero_le _, Nat.zero_le _⟩ (Nat.le_of_ble_eq_true rfl) (fun f_35 _ => ?_)
        refine r_iadd dL_holds_46 ?_
        rw [show totG (σ 14) 4 s.toNat + cntG (σ 14) s 4 = totG (σ 14) 4 (s + 1).toNat from by rw [show (s + 1).toNat = s.toNat + 1 by omega]; show _ = totG _ _ _ + cntG _ ((s.toNat : Nat) : Int) _; rw [es]]
        refine r_istore_n dL_holds_47 rfl (Nat.le_of_ble_eq_true rfl) (L' := [_, _, _, _, _, _, _, _, _, _]) (by rfl) ?_
        refine r_aload_n dL_holds_48 rfl (by rfl) ?_
        refine r_iload dL_holds_49 (by rfl) ?_
        refine r_iconst dL_holds_51 ?_
        refine r_callZ2 (cz_shape hI s 1 (σ 3 s.toNat) (by omega) (by omega) (rfl)) fX5_shape qL_14 dL_holds_52 KD_0 (by decide) ⟨Nat.zero_le _, Nat.zero_le _⟩ (Nat.le_of_ble_eq_true rfl) (fun f_36 _ => ?_)
        refine r_istore dL_holds_55 (Nat.le_of_ble_eq_true rfl) (L' := [_, _, _, _, _, _, _, _, _, _]) (by rfl) ?_
        refine r_iload dL_holds_57 (by rfl) ?_
        refine r_if_ne (tgt := 66) dL_holds_59 (by decide) (by unfold inR; omega) (fun h59 => ?_) (fun h59 => ?_)
        · refine r_aload_n dL_holds_66 rfl (by rfl) ?_
          refine r_iload dL_holds_67 (by rfl) ?_
          refine r_iconst dL_holds_69 ?_
          refine r_callZ2 (cz_shape hI s 0 (σ 7 s.toNat) (by omega) (by omega) (rfl)) fX5_shape qL_14 dL_holds_70 KD_0 (by decide) ⟨Nat.zero_le _, Nat.zero_le _⟩ (Nat.le_of_ble_eq_true rfl) (fun f_37 _ => ?_)
          refine r_aload_n dL_holds_73 rfl (by rfl) ?_
          refine r_iload dL_holds_74 (by rfl) ?_
          refine r_iconst dL_holds_76 ?_
          refine r_isub dL_holds_77 ?_
          refine r_iconst dL_holds_78 ?_
          refine r_callZ2 (cz_shape hI (s - 1) 0 (σ 7 (s - 1).toNat) (by omega) (by omega) (rfl)) fX5_shape qL_14 dL_holds_79 KD_0 (by decide) ⟨Nat.zero_le _, Nat.zero_le _⟩ (Nat.le_of_ble_eq_true rfl) (fun f_38 _ => ?_)
          refine r_isub dL_holds_82 ?_
          refine r_istore dL_holds_83 (Nat.le_of_ble_eq_true rfl) (L' := [_, _, _, _, _, _, _, _, _, _]) (by rfl) ?_
          refine r_iload dL_holds_85 (by rfl) ?_
          refine r_if_ne (tgt := 112) dL_holds_87 (by decide) (by unfold inR; omega) (fun h87 => ?_) (fun h87 => ?_)
          · refine r_iload dL_holds_112 (by rfl) ?_
            refine r_iload dL_holds_114 (by rfl) ?_
            refine r_iconst dL_holds_116 ?_
            refine r_icmp_ge (tgt := 124) dL_holds_117 (by decide) (by unfold inR; omega) (by unfold inR; omega) (fun h117 => ?_) (fun h117 => ?_)
            · refine r_iload dL_holds_124 (by rfl) ?_
              refine r_iconst dL_holds_126 ?_
              refine r_icmp_ne (tgt := 134) dL_holds_127 (by decide) (by unfold inR; omega) (by unfold inR; omega) (fun h127 => ?_) (fun h127 => ?_)
              · refine r_iconst dL_holds_134 ?_
                refine r_icmp_ne (tgt := 142) dL_holds_135 (by decide) (by unfold inR; omega) (by unfold inR; omega) (fun h135 => ?_) (fun h135 => ?_)
                · exfalso
                  omega
                · refine r_iconst dL_holds_138 ?_
                  refine r_goto (tgt := 143) dL_holds_139 (by decide) ?_
                  refine WP.wk (L' := [_, _, _, _, _, _, _, none, none, none]) (leL_s (leL_s (leL_s (leL_s (leL_s (leL_s (leL_s (leL_n (leL_n (leL_n leL_0)))))))))) ?_
                  exact cut_143 s _ s0 (by omega) (fun g => ih (s + 1) g (by omega) (by omega) (by omega))
              · refine r_iconst dL_holds_130 ?_
                refine r_goto (tgt := 135) dL_holds_131 (by decide) ?_
                refine r_icmp_ne (tgt := 142) dL_holds_135 (by decide) (by unfold inR; omega) (by unfold inR; omega) (fun h135 => ?_) (fun h135 => ?_)
                · exfalso
                  omega
                · refine r_iconst dL_holds_138 ?_
                  refine r_goto (tgt := 143) dL_holds_139 (by decide) ?_
                  refine WP.wk (L' := [_, _, _, _, _, _, _, none, none, none]) (leL_s (leL_s (leL_s (leL_s (leL_s (leL_s (leL_s (leL_n (leL_n (leL_n leL_0)))))))))) ?_
                  exact cut_143 s _ s0 (by omega) (fun g => ih (s + 1) g (by omega) (by omega) (by omega))
            · refine r_iconst dL_holds_120 ?_
              refine r_goto (tgt := 135) dL_holds_121 (by decide) ?_
              refine r_icmp_ne (tgt := 142) dL_holds_135 (by decide) (by unfold inR; omega) (by unfold inR; omega) (fun h135 => ?_) (fun h135 => ?_)
              · exfalso
                omega
              · refine r_iconst dL_holds_138 ?_
                refine r_goto (tgt := 143) dL_holds_139 (by decide) ?_
                refine WP.wk (L' := [_, _, _, _, _, _, _, none, none, none]) (leL_s (leL_s (leL_s (leL_s (leL_s (leL_s (leL_s (leL_n (leL_n (leL_n leL_0)))))))))) ?_
                exact cut_143 s _ s0 (by omega) (fun g => ih (s + 1) g (by omega) (by omega) (by omega))
          · refine r_iload dL_holds_90 (by rfl) ?_
            refine r_if_ne (tgt := 108) dL_holds_92 (by decide) (by unfold inR; omega) (fun h92 => ?_) (fun h92 => ?_)
            · exfalso
              omega
            · refine r_aload_n dL_holds_95 rfl (by rfl) ?_
              refine r_iconst dL_holds_96 ?_
              refine r_iconst dL_holds_97 ?_
              refine r_callZ2 (cz_shape hI 0 0 (σ 7 0) (by omega) (by omega) rfl) fX5_shape qL_14 dL_holds_98 KD_0 (by decide) ⟨Nat.zero_le _, Nat.zero_le _⟩ (Nat.le_of_ble_eq_true rfl) (fun f_39 _ => ?_)
              refine r_if_ne (tgt := 108) dL_holds_101 (by decide) (by unfold inR; omega) (fun h101 => ?_) (fun h101 => ?_)
              · exfalso
                omega
              · refine r_iconst dL_holds_104 ?_
                refine r_goto (tgt := 143) dL_holds_105 (by decide) ?_
                refine WP.wk (L' := [_, _, _, _, _, _, _, none, none, none]) (leL_s (leL_s (leL_s (leL_s (leL_s (leL_s (leL_s (leL_n (leL_n (leL_n leL_0)))))))))) ?_
                exact cut_143 s _ s0 (by omega) (fun g => ih (s + 1) g (by omega) (by omega) (by omega))
        · refine r_iconst dL_holds_62 ?_
          refine r_goto (tgt := 83) dL_holds_63 (by decide) ?_
          refine r_istore dL_holds_83 (Nat.le_of_ble_eq_true rfl) (L' := [_, _, _, _, _, _, _, _, _, _]) (by rfl) ?_
          refine r_iload dL_holds_85 (by rfl) ?_
          refine r_if_ne (tgt := 112) dL_holds_87 (by decide) (by unfold inR; omega) (fun h87 => ?_) (fun h87 => ?_)
          · refine r_iload dL_holds_112 (by rfl) ?_
            refine r_iload dL_holds_114 (by rfl) ?_
            refine r_iconst dL_holds_116 ?_
            refine r_icmp_ge (tgt := 124) dL_holds_117 (by decide) (by unfold inR; omega) (by unfold inR; omega) (fun h117 => ?_) (fun h117 => ?_)
            · refine r_iload dL_holds_124 (by rfl) ?_
              refine r_iconst dL_holds_126 ?_
              refine r_icmp_ne (tgt := 134) dL_holds_127 (by decide) (by unfold inR; omega) (by unfold inR; omega) (fun h127 => ?_) (fun h127 => ?_)
              · refine r_iconst dL_holds_134 ?_
                refine r_icmp_ne (tgt := 142) dL_holds_135 (by decide) (by unfold inR; omega) (by unfold inR; omega) (fun h135 => ?_) (fun h135 => ?_)
                · exfalso
                  omega
                · refine r_iconst dL_holds_138 ?_
                  refine r_goto (tgt := 143) dL_holds_139 (by decide) ?_
                  refine WP.wk (L' := [_, _, _, _, _, _, _, none, none, none]) (leL_s (leL_s (leL_s (leL_s (leL_s (leL_s (leL_s (leL_n (leL_n (leL_n leL_0)))))))))) ?_
                  exact cut_143 s _ s0 (by omega) (fun g => ih (s + 1) g (by omega) (by omega) (by omega))
              · refine r_iconst dL_holds_130 ?_
                refine r_goto (tgt := 135) dL_holds_131 (by decide) ?_
                refine r_icmp_ne (tgt := 142) dL_holds_135 (by decide) (by unfold inR; omega) (by unfold inR; omega) (fun h135 => ?_) (fun h135 => ?_)
                · exfalso
                  omega
                · refine r_iconst dL_holds_138 ?_
                  refine r_goto (tgt := 143) dL_holds_139 (by decide) ?_
                  refine WP.wk (L' := [_, _, _, _, _, _, _, none, none, none]) (leL_s (leL_s (leL_s (leL_s (leL_s (leL_s (leL_s (leL_n (leL_n (leL_n leL_0)))))))))) ?_
                  exact cut_143 s _ s0 (by omega) (fun g => ih (s + 1) g (by omega) (by omega) (by omega))
            · refine r_iconst dL_holds_120 ?_
              refine r_goto (tgt := 135) dL_holds_121 (by decide) ?_
              refine r_icmp_ne (tgt := 142) dL_holds_135 (by decide) (by unfold inR; omega) (by unfold inR; omega) (fun h135 => ?_) (fun h135 => ?_)
              · exfalso
                omega
              · refine r_iconst dL_holds_138 ?_
                refine r_goto (tgt := 143) dL_holds_139 (by decide) ?_
                refine WP.wk (L' := [_, _, _, _, _, _, _, none, none, none]) (leL_s (leL_s (leL_s (leL_s (leL_s (leL_s (leL_s (leL_n (leL_n (leL_n leL_0)))))))))) ?_
                exact cut_143 s _ s0 (by omega) (fun g => ih (s + 1) g (by omega) (by omega) (by omega))
          · refine r_iload dL_holds_90 (by rfl) ?_
            refine r_if_ne (tgt := 108) dL_holds_92 (by decide) (by unfold inR; omega) (fun h92 => ?_) (fun h92 => ?_)
            · exfalso
              omega
            · refine r_aload_n dL_holds_95 rfl (by rfl) ?_
              refine r_iconst dL_holds_96 ?_
              refine r_iconst dL_holds_97 ?_
              refine r_callZ2 (cz_shape hI 0 0 (σ 7 0) (by omega) (by omega) rfl) fX5_shape qL_14 dL_holds_98 KD_0 (by decide) ⟨Nat.zero_le _, Nat.zero_le _⟩ (Nat.le_of_ble_eq_true rfl) (fun f_40 _ => ?_)
              refine r_if_ne (tgt := 108) dL_holds_101 (by decide) (by unfold inR; omega) (fun h101 => ?_) (fun h101 => ?_)
              · exfalso
                omega
              · refine r_iconst dL_holds_104 ?_
                refine r_goto (tgt := 143) dL_holds_105 (by decide) ?_
                refine WP.wk (L' := [_, _, _, _, _, _, _, none, none, none]) (leL_s (leL_s (leL_s (leL_s (leL_s (leL_s (leL_s (leL_n (leL_n (leL_n leL_0)))))))))) ?_
                exact cut_143 s _ s0 (by omega) (fun g => ih (s + 1) g (by omega) (by omega) (by omega))
  refine WP.mem (σ' := sr σ 15 (σ 15)) (sr_self σ 15).symm ?_
  refine r_iconst dL_holds_0 ?_
  refine r_istore_n dL_holds_1 rfl (Nat.le_of_ble_eq_true rfl) (L' := [_, _, _, _, _, _, _, _, _, _]) (by rfl) ?_
  refine r_iconst dL_holds_2 ?_
  refine r_istore_n dL_holds_3 rfl (Nat.le_of_ble_eq_true rfl) (L' := [_, _, _, _, _, _, _, _, _, _]) (by rfl) ?_
  refine r_iconst dL_holds_4 ?_
  refine r_istore_n dL_holds_5 rfl (Nat.le_of_ble_eq_true rfl) (L' := [_, _, _, _, _, _, _, _, _, _]) (by rfl) ?_
  refine r_iconst dL_holds_6 ?_
  refine r_istore dL_holds_7 (Nat.le_of_ble_eq_true rfl) (L' := [_, _, _, _, _, _, _, _, _, _]) (by rfl) ?_
  refine r_aload_n dL_holds_9 rfl (by rfl) ?_
  refine r_iconst dL_holds_10 ?_
  refine r_callZ1 (cz_count hI 0 (σ 2 0) (by omega) rfl) fX5_count qL_8 dL_holds_11 KD_0 (by decide) ⟨Nat.zero_le _, Nat.zero_le _⟩ (Nat.le_of_ble_eq_true rfl) (fun f_41 _ => ?_)
  refine r_iconst dL_holds_14 ?_
  refine r_isub dL_holds_15 ?_
  refine r_istore dL_holds_16 (Nat.le_of_ble_eq_true rfl) (L' := [_, _, _, _, _, _, _, _, _, _]) (by rfl) ?_
  refine r_iconst dL_holds_18 ?_
  refine r_istore dL_holds_19 (Nat.le_of_ble_eq_true rfl) (L' := [_, _, _, _, _, _, _, _, _, _]) (by rfl) ?_
  first | exact hk _ | exact cut_21 14 0 _ (by omega) (by omega) (by omega)
