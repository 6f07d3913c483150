/-! p31: the law's acts -/
theorem aP_0 {σ : ST} {v w : Int} : aP σ v w 0 = (σ 2 0 < 12 ∧ plc σ (σ 2 0 - 1).toNat (wA w) = -1) := rfl
theorem aP_1 {σ : ST} {v w : Int} : aP σ v w 1 = ((σ 2 0 < 12 ∧ plc σ (σ 2 0 - 1).toNat (wA w) = -1) ∧ plc σ (σ 2 0 - 1).toNat (wB w) ≠ -1) := rfl
theorem aP_2 {σ : ST} {v w : Int} : aP σ v w 2 = (σ 2 0 < 12 ∧ plc σ (σ 2 0 - 1).toNat (wA w) ≠ -1) := rfl
theorem aP_3 {σ : ST} {v w : Int} : aP σ v w 3 = ((σ 2 0 < 12 ∧ plc σ (σ 2 0 - 1).toNat (wA w) ≠ -1) ∧ plc σ (σ 2 0 - 1).toNat (wB w) = -1) := rfl
theorem aP_4 {σ : ST} {v w : Int} : aP σ v w 4 = (σ 10 0 < 12) := rfl
theorem aP_6 {σ : ST} {v w : Int} : aP σ v w 6 = (0 < σ 10 0) := rfl
theorem aP_9 {σ : ST} {v w : Int} : aP σ v w 9 = (σ 10 0 ≠ 0 ∧ refu σ (rowF σ v).toNat (shF σ v).toNat (wA w) = 0) := rfl
def KA (σ τ : ST) (b : Nat → Nat) (v w : Int) : KK := fun x n kd σ' τ' ρ' => n = 110 ∧ kd = KD ∧ τ' = τ ∧
  ((¬ aP σ v w (kOp (andI v 15)) ∧ x = some (.int (iI 0)) ∧ ρ' = RHO (PB b) ∧ ∃ f, σ' = sr σ 15 f) ∨
   (aP σ v w (kOp (andI v 15)) ∧ x = some (.int (iI 1)) ∧ ρ' = RHO (PB (svB σ b)) ∧ ∃ f g, σ' = sr (aO (svF (sr σ 15 f) b) v w (kOp (andI v 15))) 15 g))
theorem KA_no {σ τ : ST} {b : Nat → Nat} {v w : Int} {k : Nat} (hk : kOp (andI v 15) = k) (f : Nat → Int) (h : ¬ aP σ v w k) : KA σ τ b v w (some (.int (iI 0))) 110 KD (sr σ 15 f) τ (RHO (PB b)) :=
  ⟨rfl, rfl, rfl, Or.inl ⟨by rw [hk]; exact h, rfl, rfl, f, rfl⟩⟩
theorem KA_ys {σ τ : ST} {b : Nat → Nat} {v w : Int} {k : Nat} (hk : kOp (andI v 15) = k) (f g : Nat → Int) (h : aP σ v w k) : KA σ τ b v w (some (.int (iI 1))) 110 KD (sr (aO (svF (sr σ 15 f) b) v w k) 15 g) τ (RHO (PB (svB (sr σ 15 f) b))) :=
  ⟨rfl, rfl, rfl, Or.inr ⟨by rw [hk]; exact h, rfl, by rw [svB_sr], f, g, by rw [hk]⟩⟩
theorem KA_y1 {σ τ : ST} {b : Nat → Nat} {v w : Int} (hk : kOp (andI v 15) = 1) (f g : Nat → Int) (h : aP σ v w 1) {e : Int} (he : (if andI (shrI w 6) 1 = 0 then (-1 : Int) else wB w) = e) : KA σ τ b v w (some (.int (iI 1))) 110 KD (sr (exC (svF (sr σ 15 f) b) (wA w) (wB w) e) 15 g) τ (RHO (PB (svB (sr σ 15 f) b))) := by
  subst he
  exact KA_ys hk f g h
section Sv
variable {σ : ST} {b : Nat → Nat}
theorem row_v (hB : okB b) (hN : 0 ≤ σ 16 1 ∧ σ 16 1 ≤ 6) (f : Nat → Int) (v : Int) : rowF (svF (sr σ 15 f) b) v = rowF σ v := by
  unfold rowF
  rw [svF_rw hB (by rw [sr_16]; exact hN) (by omega), sr_10]
theorem sh_v (hB : okB b) (hN : 0 ≤ σ 16 1 ∧ σ 16 1 ≤ 6) (f : Nat → Int) (v : Int) : shF (svF (sr σ 15 f) b) v = shF σ v := by
  unfold shF
  rw [svF_rw hB (by rw [sr_16]; exact hN) (by omega), sr_2]
theorem old_v (hB : okB b) (hN : 0 ≤ σ 16 1 ∧ σ 16 1 ≤ 6) (f : Nat → Int) : oldF (svF (sr σ 15 f) b) = oldF σ := by
  have hN2 : 0 ≤ sr σ 15 f 16 1 ∧ sr σ 15 f 16 1 ≤ 6 := by rw [sr_16]; exact hN
  unfold oldF
  rw [svF_rw hB hN2 (by omega), svF_rw hB hN2 (by omega), svF_rw hB hN2 (by omega), svF_rw hB hN2 (by omega), sr_2, sr_10, sr_11, sr_14]
theorem KA_y4 {τ : ST} (hB : okB b) (hN : 0 ≤ σ 16 1 ∧ σ 16 1 ≤ 6) {v w : Int} (hk : kOp (andI v 15) = 4) (f g : Nat → Int) (h : aP σ v w 4) : KA σ τ b v w (some (.int (iI 1))) 110 KD (sr (adR (svF (sr σ 15 f) b) (shF σ v)) 15 g) τ (RHO (PB (svB (sr σ 15 f) b))) := by
  have q := KA_ys (τ := τ) (b := b) hk f g h
  have e : aO (svF (sr σ 15 f) b) v w 4 = adR (svF (sr σ 15 f) b) (shF (svF (sr σ 15 f) b) v) := rfl
  rw [e, sh_v hB hN] at q
  exact q
theorem KA_y6 {τ : ST} (hB : okB b) (hN : 0 ≤ σ 16 1 ∧ σ 16 1 ≤ 6) {v w : Int} (hk : kOp (andI v 15) = 6) (f g : Nat → Int) (h : aP σ v w 6) : KA σ τ b v w (some (.int (iI 1))) 110 KD (sr (tkF (svF (sr σ 15 f) b) (rowF σ v)) 15 g) τ (RHO (PB (svB (sr σ 15 f) b))) := by
  have q := KA_ys (τ := τ) (b := b) hk f g h
  have e : aO (svF (sr σ 15 f) b) v w 6 = tkF (svF (sr σ 15 f) b) (rowF (svF (sr σ 15 f) b) v) := rfl
  rw [e, row_v hB hN] at q
  exact q
theorem KA_y7 {τ : ST} (hB : okB b) (hN : 0 ≤ σ 16 1 ∧ σ 16 1 ≤ 6) {v w : Int} (hk : kOp (andI v 15) = 7) (f g : Nat → Int) : KA σ τ b v w (some (.int (iI 1))) 110 KD (sr (up2 (svF (sr σ 15 f) b) 14 (andI w 3).toNat (shF σ v)) 15 g) τ (RHO (PB (svB (sr σ 15 f) b))) := by
  have q := KA_ys (σ := σ) (τ := τ) (b := b) (w := w) hk f g trivial
  have e : aO (svF (sr σ 15 f) b) v w 7 = up2 (svF (sr σ 15 f) b) 14 (andI w 3).toNat (shF (svF (sr σ 15 f) b) v) := rfl
  rw [e, sh_v hB hN] at q
  exact q
theorem KA_y8 {τ : ST} (hB : okB b) (hN : 0 ≤ σ 16 1 ∧ σ 16 1 ≤ 6) {v w : Int} (hk : kOp (andI v 15) = 8) (f g : Nat → Int) : KA σ τ b v w (some (.int (iI 1))) 110 KD (sr (up2 (svF (sr σ 15 f) b) 2 1 (oldF σ)) 15 g) τ (RHO (PB (svB (sr σ 15 f) b))) := by
  have q := KA_ys (σ := σ) (τ := τ) (b := b) (w := w) hk f g trivial
  have e : aO (svF (sr σ 15 f) b) v w 8 = up2 (svF (sr σ 15 f) b) 2 1 (oldF (svF (sr σ 15 f) b)) := rfl
  rw [e, old_v hB hN] at q
  exact q
theorem KA_y9 {τ : ST} (hB : okB b) (hN : 0 ≤ σ 16 1 ∧ σ 16 1 ≤ 6) {v w : Int} (hk : kOp (andI v 15) = 9) (f g : Nat → Int) (h : aP σ v w 9) : KA σ τ b v w (some (.int (iI 1))) 110 KD (sr (wrV (svF (sr σ 15 f) b) (rowF σ v) (shF σ v) (wA w) (lowI (shrI w 6) 1000)) 15 g) τ (RHO (PB (svB (sr σ 15 f) b))) := by
  have q := KA_ys (τ := τ) (b := b) hk f g h
  have e : aO (svF (sr σ 15 f) b) v w 9 = wrV (svF (sr σ 15 f) b) (rowF (svF (sr σ 15 f) b) v) (shF (svF (sr σ 15 f) b) v) (wA w) (lowI (shrI w 6) 1000) := rfl
  rw [e, row_v hB hN, sh_v hB hN] at q
  exact q
end Sv
theorem b01 {P : Prop} [Decidable P] (h : (if P then (1 : Int) else 0) ≠ 1) : (0 : Int) = if P then 1 else 0 := by
  by_cases g : P
  · rw [if_pos g] at h; exact absurd rfl h
  · rw [if_neg g]

set_option maxRecDepth 100000 in
set_option maxHeartbeats 4000000 in
theorem ct_L_acts {l : Launch} {G : GG} {σ τ : ST} (b : Nat → Nat) (hB : okB b) (hN : 0 ≤ σ 16 1 ∧ σ 16 1 ≤ 6) (hK : KI σ) (v w : Int) : Ct l G mL_acts (8, 0, 0) [.ref 0, .int (iI v), .int (iI w)] 110 KD σ τ (RHO (PB b)) (KA σ τ b v w) := by
  have hI := hK.1
  have hz := hI.sz
  have hm := hI.mk
  have hro := hI.ro
  have hmk := hK.2.2.mk
  have hsh := shF_rng hK.2.2 v
  have hwa := wA_rng w
  have hwb := wB_rng w
  have hl6 := lowI_rng (shrI w 6) (n := 100) (by omega)
  have hl12 := lowI_rng w (n := 12) (by omega)
  have ho1 := oldF_le hI
  have ho2 := oldF_ge hI hK.2.2
  refine ct_intro (own := "ShapedRowsLaw") rfl (by decide +kernel) (Nat.le_of_ble_eq_true rfl) (L := _) rfl ?_
  have cut_129 : ∀ (f : Nat → Int), True → WP l G "ShapedRowsLaw" mL_acts (8, 0, 0) (KA σ τ b v w) noX 110 129 [some (.ref 0), some (.int (iI v)), some (.int (iI w)), some (.int (iI (σ 2 0 - 1))), some (.int (iI (lmask σ (σ 2 0 - 1).toNat 8))), some (.int (iI (wA w))), some (.int (iI (wB w))), some (.int (iI (if plc σ (σ 2 0 - 1).toNat (wA w) ≠ -1 then 1 else 0))), some (.int (iI (if plc σ (σ 2 0 - 1).toNat (wB w) ≠ -1 then 1 else 0))), some (.int (iI (if σ 2 0 - 1 < 11 then 1 else 0))), some (.int (iI (σ 10 0))), some (.int (iI (rowF σ v))), some (.int (iI (shF σ v)))] [] 110 KD (sr σ 15 f) τ (RHO (PB b)) 0 0 := by
    intro f _
    have hI2 : CI (sr σ 15 f) := CI_sr hI
    have hN2 : 0 ≤ sr σ 15 f 16 1 ∧ sr σ 15 f 16 1 ≤ 6 := by rw [sr_16]; exact hN
    have hW2 : WI (sr σ 15 f) := WI_of hI2 ((SH_E (E_sr σ f).sy hK.2.1).li hI2)
    refine r_iload_n dL_acts_129 rfl (by rfl) ?_
    refine r_bipush dL_acts_130 (by decide) ?_
    refine r_iand dL_acts_132 ?_
    obtain ⟨k, hk⟩ : ∃ k, k = andI v 15 := ⟨_, rfl⟩
    rw [← hk]
    have k15 := and_15 v
    rw [← hk] at k15
    rcases (show k = 0 ∨ k = 1 ∨ k = 2 ∨ k = 3 ∨ k = 4 ∨ k = 5 ∨ k = 6 ∨ k = 7 ∨ k = 8 ∨ k = 9 ∨ k = 10 ∨ (k < 0 ∨ 10 < k) by omega) with t_1 | t_1 | t_1 | t_1 | t_1 | t_1 | t_1 | t_1 | t_1 | t_1 | t_1 | t_1
    · refine r_tsw (tgt := 192) (a := k) dL_acts_133 (by unfold inR; omega) (by omega) (by omega) (by rw [t_1]; rfl) (by decide) ?_
      have hO : kOp (andI v 15) = 0 := by rw [← hk, t_1]; rfl
      refine r_iload dL_acts_192 (by rfl) ?_
      refine r_ifeq_b (tgt := 220) dL_acts_194 (by decide) (fun c_2 => ?_) (fun c_2 => ?_)
      · refine r_iconst dL_acts_220 ?_
        exact r_retK dL_acts_221 rfl ⟨Nat.zero_le _, Nat.zero_le _⟩ (by first | exact Or.inl rfl | exact Or.inr rfl) (by exact KA_no hO _ (by rw [aP_0]; omega))
      · refine r_iload dL_acts_197 (by rfl) ?_
        refine r_ifne_b (tgt := 220) dL_acts_199 (by decide) (fun c_3 => ?_) (fun c_3 => ?_)
        · refine r_iconst dL_acts_220 ?_
          exact r_retK dL_acts_221 rfl ⟨Nat.zero_le _, Nat.zero_le _⟩ (by first | exact Or.inl rfl | exact Or.inr rfl) (by exact KA_no hO _ (by rw [aP_0]; omega))
        · refine r_aload_n dL_acts_202 rfl (by rfl) ?_
          refine r_iload dL_acts_203 (by rfl) ?_
          refine r_iload_n dL_acts_205 rfl (by rfl) ?_
          refine r_bipush dL_acts_206 (by decide) ?_
          refine r_ishr dL_acts_208 ?_
          refine r_bipush dL_acts_209 (by decide) ?_
          refine r_callS2 (ct_L_low (shrI w 6) 100 (by omega) (by omega)) fL_low qL_18 dL_acts_211 (by decide) ⟨Nat.zero_le _, Nat.zero_le _⟩ (Nat.le_of_ble_eq_true rfl) ?_
          refine r_callZ2 (ct_X5_addNumber (σ := sr σ 15 f) hI2 b hB hN2 hW2 (wA w) (lowI (shrI w 6) 100) (by omega) (by rw [sr_2, plc_sr]; omega)) fX5_addNumber qL_23 dL_acts_214 KD_0 (by decide) ⟨Nat.zero_le _, Nat.zero_le _⟩ (Nat.le_of_ble_eq_true rfl) (fun g _ => ?_)
          refine r_pop dL_acts_217 rfl ?_
          refine r_iconst dL_acts_218 ?_
          exact r_retK dL_acts_219 rfl ⟨Nat.zero_le _, Nat.zero_le _⟩ (by first | exact Or.inl rfl | exact Or.inr rfl) (by exact KA_ys hO f g (by rw [aP_0]; omega))
    · refine r_tsw (tgt := 192) (a := k) dL_acts_133 (by unfold inR; omega) (by omega) (by omega) (by rw [t_1]; rfl) (by decide) ?_
      have hO : kOp (andI v 15) = 0 := by rw [← hk, t_1]; rfl
      refine r_iload dL_acts_192 (by rfl) ?_
      refine r_ifeq_b (tgt := 220) dL_acts_194 (by decide) (fun c_4 => ?_) (fun c_4 => ?_)
      · refine r_iconst dL_acts_220 ?_
        exact r_retK dL_acts_221 rfl ⟨Nat.zero_le _, Nat.zero_le _⟩ (by first | exact Or.inl rfl | exact Or.inr rfl) (by exact KA_no hO _ (by rw [aP_0]; omega))
      · refine r_iload dL_acts_197 (by rfl) ?_
        refine r_ifne_b (tgt := 220) dL_acts_199 (by decide) (fun c_5 => ?_) (fun c_5 => ?_)
        · refine r_iconst dL_acts_220 ?_
          exact r_retK dL_acts_221 rfl ⟨Nat.zero_le _, Nat.zero_le _⟩ (by first | exact Or.inl rfl | exact Or.inr rfl) (by exact KA_no hO _ (by rw [aP_0]; omega))
        · refine r_aload_n dL_acts_202 rfl (by rfl) ?_
          refine r_iload dL_acts_203 (by rfl) ?_
          refine r_iload_n dL_acts_205 rfl (by rfl) ?_
          refine r_bipush dL_acts_206 (by decide) ?_
          refine r_ishr dL_acts_208 ?_
          refine r_bipush dL_acts_209 (by decide) ?_
          refine r_callS2 (ct_L_low (shrI w 6) 100 (by omega) (by omega)) fL_low qL_18 dL_acts_211 (by decide) ⟨Nat.zero_le _, Nat.zero_le _⟩ (Nat.le_of_ble_eq_true rfl) ?_
          refine r_callZ2 (ct_X5_addNumber (σ := sr σ 15 f) hI2 b hB hN2 hW2 (wA w) (lowI (shrI w 6) 100) (by omega) (by rw [sr_2, plc_sr]; omega)) fX5_addNumber qL_23 dL_acts_214 KD_0 (by decide) ⟨Nat.zero_le _, Nat.zero_le _⟩ (Nat.le_of_ble_eq_true rfl) (fun g _ => ?_)
          refine r_pop dL_acts_217 rfl ?_
          refine r_iconst dL_acts_218 ?_
          exact r_retK dL_acts_219 rfl ⟨Nat.zero_le _, Nat.zero_le _⟩ (by first | exact Or.inl rfl | exact Or.inr rfl) (by exact KA_ys hO f g (by rw [aP_0]; omega))
    · refine r_tsw (tgt := 222) (a := k) dL_acts_133 (by unfold inR; omega) (by omega) (by omega) (by rw [t_1]; rfl) (by decide) ?_
      have hO : kOp (andI v 15) = 1 := by rw [← hk, t_1]; rfl
      refine r_iload dL_acts_222 (by rfl) ?_
      refine r_ifeq_b (tgt := 263) dL_acts_224 (by decide) (fun c_6 => ?_) (fun c_6 => ?_)
      · refine r_iconst dL_acts_263 ?_
        exact r_retK dL_acts_264 rfl ⟨Nat.zero_le _, Nat.zero_le _⟩ (by first | exact Or.inl rfl | exact Or.inr rfl) (by exact KA_no hO _ (by rw [aP_1]; omega))
      · refine r_iload dL_acts_227 (by rfl) ?_
        refine r_ifne_b (tgt := 263) dL_acts_229 (by decide) (fun c_7 => ?_) (fun c_7 => ?_)
        · refine r_iconst dL_acts_263 ?_
          exact r_retK dL_acts_264 rfl ⟨Nat.zero_le _, Nat.zero_le _⟩ (by first | exact Or.inl rfl | exact Or.inr rfl) (by exact KA_no hO _ (by rw [aP_1]; omega))
        · refine r_iload dL_acts_232 (by rfl) ?_
          refine r_ifeq_b (tgt := 263) dL_acts_234 (by decide) (fun c_8 => ?_) (fun c_8 => ?_)
          · refine r_iconst dL_acts_263 ?_
            exact r_retK dL_acts_264 rfl ⟨Nat.zero_le _, Nat.zero_le _⟩ (by first | exact Or.inl rfl | exact Or.inr rfl) (by exact KA_no hO _ (by rw [aP_1]; omega))
          · refine r_aload_n dL_acts_237 rfl (by rfl) ?_
            refine r_iload dL_acts_238 (by rfl) ?_
            refine r_iload dL_acts_240 (by rfl) ?_
            refine r_iload_n dL_acts_242 rfl (by rfl) ?_
            refine r_bipush dL_acts_243 (by decide) ?_
            refine r_ishr dL_acts_245 ?_
            refine r_iconst dL_acts_246 ?_
            refine r_iand dL_acts_247 ?_
            refine r_if_ne (tgt := 255) dL_acts_248 (by decide) (by have q := and_1 (shrI w 6); unfold inR; omega) (fun h248 => ?_) (fun h248 => ?_)
            · refine r_iload dL_acts_255 (by rfl) ?_
              refine r_callZ3 (ct_X5_addCopy (σ := sr σ 15 f) hI2 b hB hN2 hW2 (wA w) (wB w) _ (by omega) (by rw [sr_2, plc_sr, plc_sr]; first | exact ⟨by omega, by omega, by omega, Or.inl rfl⟩ | exact ⟨by omega, by omega, by omega, Or.inr (by first | exact c_8 | (rw [plc_sr]; exact c_8))⟩)) fX5_addCopy qL_26 dL_acts_257 KD_0 (by decide) ⟨Nat.zero_le _, Nat.zero_le _⟩ (Nat.le_of_ble_eq_true rfl) (fun g _ => ?_)
              refine r_pop dL_acts_260 rfl ?_
              refine r_iconst dL_acts_261 ?_
              exact r_retK dL_acts_262 rfl ⟨Nat.zero_le _, Nat.zero_le _⟩ (by first | exact Or.inl rfl | exact Or.inr rfl) (by first | exact KA_y1 hO f g (by rw [aP_1]; omega) (if_pos h248) | exact KA_y1 hO f g (by rw [aP_1]; omega) (if_neg h248))
            · refine r_iconst dL_acts_251 ?_
              refine r_goto (tgt := 257) dL_acts_252 (by decide) ?_
              refine r_callZ3 (ct_X5_addCopy (σ := sr σ 15 f) hI2 b hB hN2 hW2 (wA w) (wB w) _ (by omega) (by rw [sr_2, plc_sr, plc_sr]; first | exact ⟨by omega, by omega, by omega, Or.inl rfl⟩ | exact ⟨by omega, by omega, by omega, Or.inr (by first | exact c_8 | (rw [plc_sr]; exact c_8))⟩)) fX5_addCopy qL_26 dL_acts_257 KD_0 (by decide) ⟨Nat.zero_le _, Nat.zero_le _⟩ (Nat.le_of_ble_eq_true rfl) (fun g _ => ?_)
              refine r_pop dL_acts_260 rfl ?_
              refine r_iconst dL_acts_261 ?_
              exact r_retK dL_acts_262 rfl ⟨Nat.zero_le _, Nat.zero_le _⟩ (by first | exact Or.inl rfl | exact Or.inr rfl) (by first | exact KA_y1 hO f g (by rw [aP_1]; omega) (if_pos h248) | exact KA_y1 hO f g (by rw [aP_1]; omega) (if_neg h248))
    · refine r_tsw (tgt := 265) (a := k) dL_acts_133 (by unfold inR; omega) (by omega) (by omega) (by rw [t_1]; rfl) (by decide) ?_
      have hO : kOp (andI v 15) = 2 := by rw [← hk, t_1]; rfl
      refine r_iload dL_acts_265 (by rfl) ?_
      refine r_ifeq_b (tgt := 293) dL_acts_267 (by decide) (fun c_9 => ?_) (fun c_9 => ?_)
      · refine r_iconst dL_acts_293 ?_
        exact r_retK dL_acts_294 rfl ⟨Nat.zero_le _, Nat.zero_le _⟩ (by first | exact Or.inl rfl | exact Or.inr rfl) (by exact KA_no hO _ (by rw [aP_2]; omega))
      · refine r_iload dL_acts_270 (by rfl) ?_
        refine r_ifeq_b (tgt := 293) dL_acts_272 (by decide) (fun c_10 => ?_) (fun c_10 => ?_)
        · refine r_iconst dL_acts_293 ?_
          exact r_retK dL_acts_294 rfl ⟨Nat.zero_le _, Nat.zero_le _⟩ (by first | exact Or.inl rfl | exact Or.inr rfl) (by exact KA_no hO _ (by rw [aP_2]; omega))
        · refine r_aload_n dL_acts_275 rfl (by rfl) ?_
          refine r_iload dL_acts_276 (by rfl) ?_
          refine r_iload_n dL_acts_278 rfl (by rfl) ?_
          refine r_bipush dL_acts_279 (by decide) ?_
          refine r_ishr dL_acts_281 ?_
          refine r_bipush dL_acts_282 (by decide) ?_
          refine r_callS2 (ct_L_low (shrI w 6) 100 (by omega) (by omega)) fL_low qL_18 dL_acts_284 (by decide) ⟨Nat.zero_le _, Nat.zero_le _⟩ (Nat.le_of_ble_eq_true rfl) ?_
          refine r_callZ2 (ct_X5_drop (σ := sr σ 15 f) hI2 b hB hN2 (wA w) (lowI (shrI w 6) 100) (by omega) (by rw [sr_2, plc_sr]; omega)) fX5_drop qL_30 dL_acts_287 KD_0 (by decide) ⟨Nat.zero_le _, Nat.zero_le _⟩ (Nat.le_of_ble_eq_true rfl) (fun g _ => ?_)
          refine r_pop dL_acts_290 rfl ?_
          refine r_iconst dL_acts_291 ?_
          exact r_retK dL_acts_292 rfl ⟨Nat.zero_le _, Nat.zero_le _⟩ (by first | exact Or.inl rfl | exact Or.inr rfl) (by exact KA_ys hO f g (by rw [aP_2]; omega))
    · refine r_tsw (tgt := 295) (a := k) dL_acts_133 (by unfold inR; omega) (by omega) (by omega) (by rw [t_1]; rfl) (by decide) ?_
      have hO : kOp (andI v 15) = 3 := by rw [← hk, t_1]; rfl
      refine r_iload dL_acts_295 (by rfl) ?_
      refine r_ifeq_b (tgt := 321) dL_acts_297 (by decide) (fun c_11 => ?_) (fun c_11 => ?_)
      · refine r_iconst dL_acts_321 ?_
        exact r_retK dL_acts_322 rfl ⟨Nat.zero_le _, Nat.zero_le _⟩ (by first | exact Or.inl rfl | exact Or.inr rfl) (by exact KA_no hO _ (by rw [aP_3]; omega))
      · refine r_iload dL_acts_300 (by rfl) ?_
        refine r_ifeq_b (tgt := 321) dL_acts_302 (by decide) (fun c_12 => ?_) (fun c_12 => ?_)
        · refine r_iconst dL_acts_321 ?_
          exact r_retK dL_acts_322 rfl ⟨Nat.zero_le _, Nat.zero_le _⟩ (by first | exact Or.inl rfl | exact Or.inr rfl) (by exact KA_no hO _ (by rw [aP_3]; omega))
        · refine r_iload dL_acts_305 (by rfl) ?_
          refine r_ifne_b (tgt := 321) dL_acts_307 (by decide) (fun c_13 => ?_) (fun c_13 => ?_)
          · refine r_iconst dL_acts_321 ?_
            exact r_retK dL_acts_322 rfl ⟨Nat.zero_le _, Nat.zero_le _⟩ (by first | exact Or.inl rfl | exact Or.inr rfl) (by exact KA_no hO _ (by rw [aP_3]; omega))
          · refine r_aload_n dL_acts_310 rfl (by rfl) ?_
            refine r_iload dL_acts_311 (by rfl) ?_
            refine r_iload dL_acts_313 (by rfl) ?_
            refine r_callZ2 (ct_X5_rename (σ := sr σ 15 f) hI2 b hB hN2 (wA w) (wB w) (by omega) (by rw [sr_2]; simp only [plc_sr]; omega)) fX5_rename qL_33 dL_acts_315 KD_0 (by decide) ⟨Nat.zero_le _, Nat.zero_le _⟩ (Nat.le_of_ble_eq_true rfl) (fun g _ => ?_)
            refine r_pop dL_acts_318 rfl ?_
            refine r_iconst dL_acts_319 ?_
            exact r_retK dL_acts_320 rfl ⟨Nat.zero_le _, Nat.zero_le _⟩ (by first | exact Or.inl rfl | exact Or.inr rfl) (by exact KA_ys hO f g (by rw [aP_3]; omega))
    · refine r_tsw (tgt := 323) (a := k) dL_acts_133 (by unfold inR; omega) (by omega) (by omega) (by rw [t_1]; rfl) (by decide) ?_
      have hO : kOp (andI v 15) = 4 := by rw [← hk, t_1]; rfl
      refine r_iload dL_acts_323 (by rfl) ?_
      refine r_bipush dL_acts_325 (by decide) ?_
      refine r_icmp_ge (tgt := 339) dL_acts_327 (by decide) (by unfold inR; omega) (by unfold inR; omega) (fun c_14 => ?_) (fun c_14 => ?_)
      · refine r_iconst dL_acts_339 ?_
        exact r_retK dL_acts_340 rfl ⟨Nat.zero_le _, Nat.zero_le _⟩ (by first | exact Or.inl rfl | exact Or.inr rfl) (by exact KA_no hO _ (by rw [aP_4]; omega))
      · refine r_aload_n dL_acts_330 rfl (by rfl) ?_
        refine r_iload dL_acts_331 (by rfl) ?_
        refine r_callZ1 (ct_X5_insertBy (σ := sr σ 15 f) hI2 b hB hN2 (shF σ v) (by rw [sr_2]; exact hsh) (by rw [sr_10]; omega)) fX5_insertBy qL_36 dL_acts_333 KD_0 (by decide) ⟨Nat.zero_le _, Nat.zero_le _⟩ (Nat.le_of_ble_eq_true rfl) (fun g _ => ?_)
        refine r_pop dL_acts_336 rfl ?_
        refine r_iconst dL_acts_337 ?_
        exact r_retK dL_acts_338 rfl ⟨Nat.zero_le _, Nat.zero_le _⟩ (by first | exact Or.inl rfl | exact Or.inr rfl) (by exact KA_y4 hB hN hO f g (by rw [aP_4]; omega))
    · refine r_tsw (tgt := 323) (a := k) dL_acts_133 (by unfold inR; omega) (by omega) (by omega) (by rw [t_1]; rfl) (by decide) ?_
      have hO : kOp (andI v 15) = 4 := by rw [← hk, t_1]; rfl
      refine r_iload dL_acts_323 (by rfl) ?_
      refine r_bipush dL_acts_325 (by decide) ?_
      refine r_icmp_ge (tgt := 339) dL_acts_327 (by decide) (by unfold inR; omega) (by unfold inR; omega) (fun c_15 => ?_) (fun c_15 => ?_)
      · refine r_iconst dL_acts_339 ?_
        exact r_retK dL_acts_340 rfl ⟨Nat.zero_le _, Nat.zero_le _⟩ (by first | exact Or.inl rfl | exact Or.inr rfl) (by exact KA_no hO _ (by rw [aP_4]; omega))
      · refine r_aload_n dL_acts_330 rfl (by rfl) ?_
        refine r_iload dL_acts_331 (by rfl) ?_
        refine r_callZ1 (ct_X5_insertBy (σ := sr σ 15 f) hI2 b hB hN2 (shF σ v) (by rw [sr_2]; exact hsh) (by rw [sr_10]; omega)) fX5_insertBy qL_36 dL_acts_333 KD_0 (by decide) ⟨Nat.zero_le _, Nat.zero_le _⟩ (Nat.le_of_ble_eq_true rfl) (fun g _ => ?_)
        refine r_pop dL_acts_336 rfl ?_
        refine r_iconst dL_acts_337 ?_
        exact r_retK dL_acts_338 rfl ⟨Nat.zero_le _, Nat.zero_le _⟩ (by first | exact Or.inl rfl | exact Or.inr rfl) (by exact KA_y4 hB hN hO f g (by rw [aP_4]; omega))
    · refine r_tsw (tgt := 341) (a := k) dL_acts_133 (by unfold inR; omega) (by omega) (by omega) (by rw [t_1]; rfl) (by decide) ?_
      have hO : kOp (andI v 15) = 5 := by rw [← hk, t_1]; rfl
      refine r_aload_n dL_acts_341 rfl (by rfl) ?_
      refine r_iconst dL_acts_342 ?_
      refine r_iload_n dL_acts_343 rfl (by rfl) ?_
      refine r_bipush dL_acts_344 (by decide) ?_
      refine r_callS2 (ct_L_low w 12 (by omega) (by omega)) fL_low qL_18 dL_acts_346 (by decide) ⟨Nat.zero_le _, Nat.zero_le _⟩ (Nat.le_of_ble_eq_true rfl) ?_
      refine r_iadd dL_acts_349 ?_
      refine r_callZ1 (ct_X5_goOn (σ := sr σ 15 f) hI2 b hB hN2 (1 + lowI w 12) (by omega)) fX5_goOn qL_39 dL_acts_350 KD_0 (by decide) ⟨Nat.zero_le _, Nat.zero_le _⟩ (Nat.le_of_ble_eq_true rfl) (fun g _ => ?_)
      refine r_pop dL_acts_353 rfl ?_
      refine r_iconst dL_acts_354 ?_
      exact r_retK dL_acts_355 rfl ⟨Nat.zero_le _, Nat.zero_le _⟩ (by first | exact Or.inl rfl | exact Or.inr rfl) (by exact KA_ys hO f g trivial)
    · refine r_tsw (tgt := 356) (a := k) dL_acts_133 (by unfold inR; omega) (by omega) (by omega) (by rw [t_1]; rfl) (by decide) ?_
      have hO : kOp (andI v 15) = 6 := by rw [← hk, t_1]; rfl
      refine r_iload dL_acts_356 (by rfl) ?_
      refine r_if_le (tgt := 370) dL_acts_358 (by decide) (by unfold inR; omega) (fun c_16 => ?_) (fun c_16 => ?_)
      · refine r_iconst dL_acts_370 ?_
        exact r_retK dL_acts_371 rfl ⟨Nat.zero_le _, Nat.zero_le _⟩ (by first | exact Or.inl rfl | exact Or.inr rfl) (by exact KA_no hO _ (by rw [aP_6]; omega))
      · refine r_aload_n dL_acts_361 rfl (by rfl) ?_
        refine r_iload dL_acts_362 (by rfl) ?_
        refine r_callZ1 (ct_X5_remove (σ := sr σ 15 f) hI2 b hB hN2 (rowF σ v) (by rw [sr_10]; exact rowF_rng hI v (by omega))) fX5_remove qL_42 dL_acts_364 KD_0 (by decide) ⟨Nat.zero_le _, Nat.zero_le _⟩ (Nat.le_of_ble_eq_true rfl) (fun g _ => ?_)
        refine r_pop dL_acts_367 rfl ?_
        refine r_iconst dL_acts_368 ?_
        exact r_retK dL_acts_369 rfl ⟨Nat.zero_le _, Nat.zero_le _⟩ (by first | exact Or.inl rfl | exact Or.inr rfl) (by exact KA_y6 hB hN hO f g (by rw [aP_6]; omega))
    · refine r_tsw (tgt := 372) (a := k) dL_acts_133 (by unfold inR; omega) (by omega) (by omega) (by rw [t_1]; rfl) (by decide) ?_
      have hO : kOp (andI v 15) = 7 := by rw [← hk, t_1]; rfl
      refine r_aload_n dL_acts_372 rfl (by rfl) ?_
      refine r_iload_n dL_acts_373 rfl (by rfl) ?_
      refine r_iconst dL_acts_374 ?_
      refine r_iand dL_acts_375 ?_
      refine r_iload dL_acts_376 (by rfl) ?_
      refine r_callZ2 (ct_X5_hold (σ := sr σ 15 f) hI2 b hB hN2 (andI w 3) (shF σ v) (and_3 w) (by rw [sr_2]; exact hsh)) fX5_hold qL_45 dL_acts_378 KD_0 (by decide) ⟨Nat.zero_le _, Nat.zero_le _⟩ (Nat.le_of_ble_eq_true rfl) (fun g _ => ?_)
      refine r_pop dL_acts_381 rfl ?_
      refine r_iconst dL_acts_382 ?_
      exact r_retK dL_acts_383 rfl ⟨Nat.zero_le _, Nat.zero_le _⟩ (by first | exact Or.inl rfl | exact Or.inr rfl) (by exact KA_y7 hB hN hO f g)
    · refine r_tsw (tgt := 384) (a := k) dL_acts_133 (by unfold inR; omega) (by omega) (by omega) (by rw [t_1]; rfl) (by decide) ?_
      have hO : kOp (andI v 15) = 8 := by rw [← hk, t_1]; rfl
      refine r_aload_n dL_acts_384 rfl (by rfl) ?_
      refine r_aload_n dL_acts_385 rfl (by rfl) ?_
      refine r_bipush dL_acts_386 (by decide) ?_
      refine r_callZ1 (cz_count hI 8 (oldF σ) (by omega) rfl) fX5_count qL_8 dL_acts_388 KD_0 (by decide) ⟨Nat.zero_le _, Nat.zero_le _⟩ (Nat.le_of_ble_eq_true rfl) (fun f9 _ => ?_)
      refine r_callZ1 (ct_X5_retire (σ := sr σ 15 f9) (CI_sr hI) b hB (by rw [sr_16]; exact hN) (oldF σ) (by rw [sr_2]; omega) (by rw [oldF_E (E_sr σ f9)]; exact Int.le_refl _)) fX5_retire qL_48 dL_acts_391 KD_0 (by decide) ⟨Nat.zero_le _, Nat.zero_le _⟩ (Nat.le_of_ble_eq_true rfl) (fun g _ => ?_)
      refine r_pop dL_acts_394 rfl ?_
      refine r_iconst dL_acts_395 ?_
      exact r_retK dL_acts_396 rfl ⟨Nat.zero_le _, Nat.zero_le _⟩ (by first | exact Or.inl rfl | exact Or.inr rfl) (by exact KA_y8 hB hN hO f9 g)
    · refine r_tsd (tgt := 397) (a := k) dL_acts_133 (by unfold inR; omega) t_1 (by decide) ?_
      have hO : kOp (andI v 15) = 9 := by
        rw [← hk]
        unfold kOp
        repeat rw [if_neg (by omega)]
      refine r_aload_n dL_acts_397 rfl (by rfl) ?_
      refine r_iload dL_acts_398 (by rfl) ?_
      refine r_iload dL_acts_400 (by rfl) ?_
      refine r_iload dL_acts_402 (by rfl) ?_
      refine r_iload_n dL_acts_404 rfl (by rfl) ?_
      refine r_bipush dL_acts_405 (by decide) ?_
      refine r_ishr dL_acts_407 ?_
      refine r_callK5 (ct_L_writes (σ := sr σ 15 f) b hB hN2 (KI_E (E_sr σ f).sy hK) (rowF σ v) (shF σ v) (wA w) (shrI w 6) (by rw [sr_10]; exact rowF_rng hI v) (by rw [sr_2]; exact hsh) (wA_rng w)) fL_writes qL_51 dL_acts_408 (by decide) ⟨Nat.zero_le _, Nat.zero_le _⟩ (Nat.le_of_ble_eq_true rfl) (fun _ _ _ _ _ _ h => ⟨h.1, h.2.1⟩) (fun x σ' τ' ρ' hw => ?_)
      obtain ⟨-, -, rfl, ⟨q, rfl, rfl, f2, rfl⟩ | ⟨q, rfl, rfl, f2, g2, rfl⟩⟩ := hw
      · rw [sr_10, refu_E (E_sr σ f)] at q
        rw [sr_sr]
        exact r_retK dL_acts_411 rfl ⟨Nat.zero_le _, Nat.zero_le _⟩ (Or.inl rfl) (KA_no hO f2 (by rw [aP_9]; exact q))
      · rw [sr_10, refu_E (E_sr σ f)] at q
        simp only [sr_sr]
        rw [svB_sr]
        have z := KA_y9 (τ := τ') hB hN hO f2 g2 (by rw [aP_9]; exact q)
        rw [svB_sr] at z
        exact r_retK dL_acts_411 rfl ⟨Nat.zero_le _, Nat.zero_le _⟩ (Or.inr rfl) z
  have cut_103 : ∀ (f : Nat → Int) (x : Int), (x = rowF σ v) → WP l G "ShapedRowsLaw" mL_acts (8, 0, 0) (KA σ τ b v w) noX 110 103 [some (.ref 0), some (.int (iI v)), some (.int (iI w)), some (.int (iI (σ 2 0 - 1))), some (.int (iI (lmask σ (σ 2 0 - 1).toNat 8))), some (.int (iI (wA w))), some (.int (iI (wB w))), some (.int (iI (if plc σ (σ 2 0 - 1).toNat (wA w) ≠ -1 then 1 else 0))), some (.int (iI (if plc σ (σ 2 0 - 1).toNat (wB w) ≠ -1 then 1 else 0))), some (.int (iI (if σ 2 0 - 1 < 11 then 1 else 0))), some (.int (iI (σ 10 0))), none, none] [.int (iI x)] 110 KD (sr σ 15 f) τ (RHO (PB b)) 0 0 := by
    intro f x hx
    subst hx
    refine r_istore dL_acts_103 (Nat.le_of_ble_eq_true rfl) (L' := [_, _, _, _, _, _, _, _, _, _, _, _, _]) (by rfl) ?_
    refine r_aload_n dL_acts_105 rfl (by rfl) ?_
    refine r_iconst dL_acts_106 ?_
    refine r_callZ1 (cz_count hI 1 (σ 2 1) (by omega) rfl) fX5_count qL_8 dL_acts_107 KD_0 (by decide) ⟨Nat.zero_le _, Nat.zero_le _⟩ (Nat.le_of_ble_eq_true rfl) (fun f_17 _ => ?_)
    refine r_iload_n dL_acts_110 rfl (by rfl) ?_
    refine r_bipush dL_acts_111 (by decide) ?_
    refine r_ishr dL_acts_113 ?_
    refine r_iload_n dL_acts_114 rfl (by rfl) ?_
    refine r_iconst dL_acts_115 ?_
    refine r_iadd dL_acts_116 ?_
    refine r_aload_n dL_acts_117 rfl (by rfl) ?_
    refine r_iconst dL_acts_118 ?_
    refine r_callZ1 (cz_count hI 1 (σ 2 1) (by omega) rfl) fX5_count qL_8 dL_acts_119 KD_0 (by decide) ⟨Nat.zero_le _, Nat.zero_le _⟩ (Nat.le_of_ble_eq_true rfl) (fun f_18 _ => ?_)
    refine r_isub dL_acts_122 ?_
    refine r_callS2 (ct_L_low (shrI v 8) (σ 2 0 - 1 + 1 - σ 2 1) (by omega) (by omega)) fL_low qL_18 dL_acts_123 (by decide) ⟨Nat.zero_le _, Nat.zero_le _⟩ (Nat.le_of_ble_eq_true rfl) ?_
    refine r_iadd dL_acts_126 ?_
    rw [show σ 2 1 + lowI (shrI v 8) (σ 2 0 - 1 + 1 - σ 2 1) = shF σ v from by unfold shF; rw [show σ 2 0 - 1 + 1 - σ 2 1 = σ 2 0 - σ 2 1 by omega]]
    refine r_istore dL_acts_127 (Nat.le_of_ble_eq_true rfl) (L' := [_, _, _, _, _, _, _, _, _, _, _, _, _]) (by rfl) ?_
    exact cut_129 _ trivial
  have cut_77 : ∀ (f : Nat → Int) (x : Int), (x = if σ 2 0 - 1 < 11 then 1 else 0) → WP l G "ShapedRowsLaw" mL_acts (8, 0, 0) (KA σ τ b v w) noX 110 77 [some (.ref 0), some (.int (iI v)), some (.int (iI w)), some (.int (iI (σ 2 0 - 1))), some (.int (iI (lmask σ (σ 2 0 - 1).toNat 8))), some (.int (iI (wA w))), some (.int (iI (wB w))), some (.int (iI (if plc σ (σ 2 0 - 1).toNat (wA w) ≠ -1 then 1 else 0))), some (.int (iI (if plc σ (σ 2 0 - 1).toNat (wB w) ≠ -1 then 1 else 0))), none, none, none, none] [.int (iI x)] 110 KD (sr σ 15 f) τ (RHO (PB b)) 0 0 := by
    intro f x hx
    subst hx
    refine r_istore dL_acts_77 (Nat.le_of_ble_eq_true rfl) (L' := [_, _, _, _, _, _, _, _, _, _, _, _, _]) (by rfl) ?_
    refine r_aload_n dL_acts_79 rfl (by rfl) ?_
    refine r_iconst dL_acts_80 ?_
    refine r_callZ1 (cz_count hI 2 (σ 10 0) (by omega) rfl) fX5_count qL_8 dL_acts_81 KD_0 (by decide) ⟨Nat.zero_le _, Nat.zero_le _⟩ (Nat.le_of_ble_eq_true rfl) (fun f_19 _ => ?_)
    refine r_istore dL_acts_84 (Nat.le_of_ble_eq_true rfl) (L' := [_, _, _, _, _, _, _, _, _, _, _, _, _]) (by rfl) ?_
    refine r_iload dL_acts_86 (by rfl) ?_
    refine r_if_ne (tgt := 95) dL_acts_88 (by decide) (by unfold inR; omega) (fun c103 => ?_) (fun c103 => ?_)
    · refine r_iload_n dL_acts_95 rfl (by rfl) ?_
      refine r_iconst dL_acts_96 ?_
      refine r_ishr dL_acts_97 ?_
      refine r_iload dL_acts_98 (by rfl) ?_
      refine r_callS2 (ct_L_low (shrI v 4) (σ 10 0) (by omega) (by omega)) fL_low qL_18 dL_acts_100 (by decide) ⟨Nat.zero_le _, Nat.zero_le _⟩ (Nat.le_of_ble_eq_true rfl) ?_
      exact cut_103 _ _ (by unfold rowF; first | rw [if_pos c103] | rw [if_neg c103])
    · refine r_iconst dL_acts_91 ?_
      refine r_goto (tgt := 103) dL_acts_92 (by decide) ?_
      exact cut_103 _ _ (by unfold rowF; first | rw [if_pos c103] | rw [if_neg c103])
  have cut_64 : ∀ (f : Nat → Int) (x : Int), (x = if plc σ (σ 2 0 - 1).toNat (wB w) ≠ -1 then 1 else 0) → WP l G "ShapedRowsLaw" mL_acts (8, 0, 0) (KA σ τ b v w) noX 110 64 [some (.ref 0), some (.int (iI v)), some (.int (iI w)), some (.int (iI (σ 2 0 - 1))), some (.int (iI (lmask σ (σ 2 0 - 1).toNat 8))), some (.int (iI (wA w))), some (.int (iI (wB w))), some (.int (iI (if plc σ (σ 2 0 - 1).toNat (wA w) ≠ -1 then 1 else 0))), none, none, none, none, none] [.int (iI x)] 110 KD (sr σ 15 f) τ (RHO (PB b)) 0 0 := by
    intro f x hx
    subst hx
    refine r_istore dL_acts_64 (Nat.le_of_ble_eq_true rfl) (L' := [_, _, _, _, _, _, _, _, _, _, _, _, _]) (by rfl) ?_
    refine r_iload_n dL_acts_66 rfl (by rfl) ?_
    refine r_bipush dL_acts_67 (by decide) ?_
    refine r_icmp_ge (tgt := 76) dL_acts_69 (by decide) (by unfold inR; omega) (by unfold inR; omega) (fun c77 => ?_) (fun c77 => ?_)
    · refine r_iconst dL_acts_76 ?_
      exact cut_77 _ _ (by first | rw [if_pos (by omega)]; done | rw [if_neg (by omega)])
    · refine r_iconst dL_acts_72 ?_
      refine r_goto (tgt := 77) dL_acts_73 (by decide) ?_
      exact cut_77 _ _ (by first | rw [if_pos (by omega)]; done | rw [if_neg (by omega)])
  have cut_46 : ∀ (f : Nat → Int) (x : Int), (x = if plc σ (σ 2 0 - 1).toNat (wA w) ≠ -1 then 1 else 0) → WP l G "ShapedRowsLaw" mL_acts (8, 0, 0) (KA σ τ b v w) noX 110 46 [some (.ref 0), some (.int (iI v)), some (.int (iI w)), some (.int (iI (σ 2 0 - 1))), some (.int (iI (lmask σ (σ 2 0 - 1).toNat 8))), some (.int (iI (wA w))), some (.int (iI (wB w))), none, none, none, none, none, none] [.int (iI x)] 110 KD (sr σ 15 f) τ (RHO (PB b)) 0 0 := by
    intro f x hx
    subst hx
    refine r_istore dL_acts_46 (Nat.le_of_ble_eq_true rfl) (L' := [_, _, _, _, _, _, _, _, _, _, _, _, _]) (by rfl) ?_
    refine r_iload dL_acts_48 (by rfl) ?_
    refine r_iload dL_acts_50 (by rfl) ?_
    refine r_ishr dL_acts_52 ?_
    refine r_iconst dL_acts_53 ?_
    refine r_iand dL_acts_54 ?_
    refine r_iconst dL_acts_55 ?_
    rw [show andI (shrI (lmask σ (σ 2 0 - 1).toNat 8) (wB w)) 1 = (if plc σ (σ 2 0 - 1).toNat (wB w) ≠ -1 then 1 else 0) from has_l σ _ (wB_rng w).1 (wB_rng w).2]
    refine r_icmp_ne (tgt := 63) dL_acts_56 (by decide) (by unfold inR; split <;> omega) (by unfold inR; omega) (fun c64 => ?_) (fun c64 => ?_)
    · refine r_iconst dL_acts_63 ?_
      exact cut_64 _ _ (by first | exact c64.symm | exact b01 c64)
    · refine r_iconst dL_acts_59 ?_
      refine r_goto (tgt := 64) dL_acts_60 (by decide) ?_
      exact cut_64 _ _ (by first | exact c64.symm | exact b01 c64)
  refine WP.mem (σ' := sr σ 15 (σ 15)) (sr_self σ 15).symm ?_
  refine r_aload_n dL_acts_0 rfl (by rfl) ?_
  refine r_iconst dL_acts_1 ?_
  refine r_callZ1 (cz_count hI 0 (σ 2 0) (by omega) rfl) fX5_count qL_8 dL_acts_2 KD_0 (by decide) ⟨Nat.zero_le _, Nat.zero_le _⟩ (Nat.le_of_ble_eq_true rfl) (fun f_20 _ => ?_)
  refine r_iconst dL_acts_5 ?_
  refine r_isub dL_acts_6 ?_
  refine r_istore_n dL_acts_7 rfl (Nat.le_of_ble_eq_true rfl) (L' := [_, _, _, _, _, _, _, _, _, _, _, _, _]) (by rfl) ?_
  refine r_aload_n dL_acts_8 rfl (by rfl) ?_
  refine r_iload_n dL_acts_9 rfl (by rfl) ?_
  refine r_iconst dL_acts_10 ?_
  refine r_callZ2 (cz_shape hI (σ 2 0 - 1) 5 (lmask σ (σ 2 0 - 1).toNat 8) (by omega) (by omega) rfl) fX5_shape qL_14 dL_acts_11 KD_0 (by decide) ⟨Nat.zero_le _, Nat.zero_le _⟩ (Nat.le_of_ble_eq_true rfl) (fun f_21 _ => ?_)
  refine r_istore dL_acts_14 (Nat.le_of_ble_eq_true rfl) (L' := [_, _, _, _, _, _, _, _, _, _, _, _, _]) (by rfl) ?_
  refine r_iload_n dL_acts_16 rfl (by rfl) ?_
  refine r_bipush dL_acts_17 (by decide) ?_
  refine r_iand dL_acts_19 ?_
  refine r_istore dL_acts_20 (Nat.le_of_ble_eq_true rfl) (L' := [_, _, _, _, _, _, _, _, _, _, _, _, _]) (by rfl) ?_
  refine r_iload_n dL_acts_22 rfl (by rfl) ?_
  refine r_iconst dL_acts_23 ?_
  refine r_ishr dL_acts_24 ?_
  refine r_bipush dL_acts_25 (by decide) ?_
  refine r_iand dL_acts_27 ?_
  refine r_istore dL_acts_28 (Nat.le_of_ble_eq_true rfl) (L' := [_, _, _, _, _, _, _, _, _, _, _, _, _]) (by rfl) ?_
  refine r_iload dL_acts_30 (by rfl) ?_
  refine r_iload dL_acts_32 (by rfl) ?_
  refine r_ishr dL_acts_34 ?_
  refine r_iconst dL_acts_35 ?_
  refine r_iand dL_acts_36 ?_
  refine r_iconst dL_acts_37 ?_
  rw [show andI (shrI (lmask σ (σ 2 0 - 1).toNat 8) (andI w 7)) 1 = (if plc σ (σ 2 0 - 1).toNat (wA w) ≠ -1 then 1 else 0) from has_l σ _ (wA_rng w).1 (wA_rng w).2]
  refine r_icmp_ne (tgt := 45) dL_acts_38 (by decide) (by unfold inR; split <;> omega) (by unfold inR; omega) (fun c46 => ?_) (fun c46 => ?_)
  · refine r_iconst dL_acts_45 ?_
    exact cut_46 _ _ (by first | exact c46.symm | exact b01 c46)
  · refine r_iconst dL_acts_41 ?_
    refine r_goto (tgt := 46) dL_acts_42 (by decide) ?_
    exact cut_46 _ _ (by first | exact c46.symm | exact b01 c46)
