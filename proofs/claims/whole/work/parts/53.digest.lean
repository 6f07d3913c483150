/-! the model: the digest -/
def dC (c : ST) (s : Nat) (h : Int) (k : Nat) : Int := foldM (digC c s h (k / 3)) (fun w => csP c s ((k / 3 : Nat) : Int) (w : Int)) (k % 3)
theorem dC_s (c : ST) (s : Nat) (h : Int) (k : Nat) : dC c s h (k + 1) = 31 * dC c s h k + wI (csP c s ((k / 3 : Nat) : Int) ((k % 3 : Nat) : Int)) := by
  unfold dC
  rcases (show k % 3 < 2 ∨ k % 3 = 2 by omega) with g | g
  · rw [show (k + 1) / 3 = k / 3 by omega, show (k + 1) % 3 = k % 3 + 1 by omega]
    rfl
  · rw [show (k + 1) / 3 = k / 3 + 1 by omega, show (k + 1) % 3 = 0 by omega, g]
    rfl
theorem dC_e (c : ST) (s : Nat) (h : Int) (w : Nat) : dC c s h (3 * w) = digC c s h w := by
  unfold dC
  rw [show 3 * w / 3 = w by omega, show 3 * w % 3 = 0 by omega]
  rfl
theorem LK_2 {σ : ST} (q : Int × (Nat → Int)) : LK σ 0 (up2 (up2 (scM σ q) 110 0 0) 110 0 0) :=
  ⟨fun p h1 h2 => by rw [up2_off _ h1, up2_off _ h1, sc_o _ _ ⟨h1, h2⟩], up2_at _ _ _ _, fun k h1 h2 => by rw [up2_el _ _ _ h1, up2_el _ _ _ h1, sc_110 _ _ h2]⟩

set_option maxRecDepth 100000 in
set_option maxHeartbeats 4000000 in
theorem ct_X6_digestR {l : Launch} {G : GG} {π : Nat → Option Nat} {σ τ : ST} (c : ST) (hR : Rel c σ) (h9 : σ 110 3 = c 16 1) (hT : TI c) (h5 : σ 110 5 = c 108 1) (hC : ∀ k : Nat, (k : Int) < c 108 1 → σ 113 k = c 109 k) : Ct l G mX6_digest (7, 0, 0) [.ref 110] 117 KD σ τ (RHO π) (KG (some (.long (jJ (digF c)))) (LK σ 0) (hsT τ (digF c)) π) := by
  have hn := hR.nm
  have hsz := hR.ci.sz
  have hrw := hR.ci.ro
  have hcu := hR.ci.cu
  have hmk := hR.ci.mk
  have hlt := hT.1
  obtain ⟨D0, hD0⟩ : ∃ x, x = foldM 2699 (fun w => ctP c (w : Int)) 10 := ⟨_, rfl⟩
  obtain ⟨D1, hD1⟩ : ∃ x, x = digS c D0 (c 2 0).toNat := ⟨_, rfl⟩
  obtain ⟨D2, hD2⟩ : ∃ x, x = digW c D1 (c 10 0).toNat := ⟨_, rfl⟩
  obtain ⟨D3, hD3⟩ : ∃ x, x = 31 * (31 * (31 * foldM D2 (fun k => c 14 k) 4 + wI (slF c (c 10 0).toNat)) + wI (mskF c (c 2 0 - 1).toNat 0 5 (c 10 0).toNat)) + (frS c).toInt64.toInt := ⟨_, rfl⟩
  have hF : digF c = digT c D3 := by unfold digF; rw [← hD0, ← hD1, ← hD2, ← hD3]
  refine ct_intro (own := "ShapedRowsModel") rfl (by decide +kernel) (Nat.le_of_ble_eq_true rfl) (L := _) rfl ?_
  have cut_206 : ∀ (N : Nat) (q : Int × (Nat → Int)) (k y : Int), (0 ≤ k) → (k ≤ c 108 1) → (y = foldM (31 * D3 + wI (c 108 1)) (fun j => cdF c (j : Int)) k.toNat) → c 108 1 - k < (N : Int) → WP l G "ShapedRowsModel" mX6_digest (7, 0, 0) (KG (some (.long (jJ (digF c)))) (LK σ 0) (hsT τ (digF c)) π) noX 117 206 [some (.ref 110), some (.int (iI k)), none] [] 117 KD (up2 (scM σ q) 110 0 0) (hsT τ y) (RHO π) 0 0 := by
    intro N
    induction N with
    | zero => intro q k y k0 k1 hy hm; exact absurd hm (by omega)
    | succ N ih =>
      intro q k y k0 k1 hy hm
      have e5 : up2 (scM σ q) 110 0 0 110 5 = c 108 1 := by rw [up2_el _ _ _ (by decide), sc_110 _ _ (by decide), h5]
      have e13 : k < c 108 1 → up2 (scM σ q) 110 0 0 113 k.toNat = cdF c k := fun hh => by
        rw [up2_off _ (by decide), sc_113, hC _ (by omega)]
        unfold cdF
        rw [if_pos hh]
      refine r_iload_n dX6_digest_206 rfl (by rfl) ?_
      refine r_aload_n dX6_digest_207 rfl (by rfl) ?_
      refine r_get_i kX6_151 dX6_digest_208 KD_110 ?_
      rw [e5]
      refine r_icmp_ge (tgt := 231) dX6_digest_211 (by decide) (by unfold inR; omega) (by unfold inR; omega) (fun c_1 => ?_) (fun c_1 => ?_)
      · refine r_aload_n dX6_digest_231 rfl (by rfl) ?_
        refine r_iconst dX6_digest_232 ?_
        refine r_put_i kX6_25 dX6_digest_233 KD_110 ?_
        refine r_aload_n dX6_digest_236 rfl (by rfl) ?_
        refine r_get_l kX6_230 dX6_digest_237 KD_110 ?_
        exact r_ret_lg dX6_digest_240 rfl ⟨Nat.zero_le _, Nat.zero_le _⟩ (by rw [hF, hy, show k.toNat = (c 108 1).toNat by omega]; unfold hsT; rw [up2_at]; rfl) (by exact LK_2 q) (by rw [hF, hy, show k.toNat = (c 108 1).toNat by omega]; rfl)
      · refine r_aload_n dX6_digest_214 rfl (by rfl) ?_
        refine r_aload_n dX6_digest_215 rfl (by rfl) ?_
        refine r_get_r kX6_16 dX6_digest_216 KD_110 (RHO_110_4 _) ?_
        refine r_iload_n dX6_digest_219 rfl (by rfl) ?_
        refine r_iald dX6_digest_220 KD_113 (by omega) (by omega) (by first | decide | omega) ?_
        rw [e13 (by omega)]
        refine r_i2lw dX6_digest_221 ?_
        refine r_callV1 (ct_X6_hashes _) fX6_hashes qX6_234 dX6_digest_222 KD_110 (by decide) ⟨Nat.zero_le _, Nat.zero_le _⟩ (Nat.le_of_ble_eq_true rfl) ?_
        rw [hs_n]
        refine r_iinc dX6_digest_225 (by rfl) (Nat.le_of_ble_eq_true rfl) (L' := [_, _, _]) (by rfl) ?_
        refine r_goto (tgt := 206) dX6_digest_228 (by decide) ?_
        exact ih q (k + 1) _ (by omega) (by omega) (by
          rw [show (k + 1).toNat = k.toNat + 1 by omega]
          unfold foldM
          rw [← hy, show ((k.toNat : Nat) : Int) = k by omega]) (by omega)
  have cut_135 : ∀ (N : Nat) (q : Int × (Nat → Int)) (k y : Int), (0 ≤ k) → (k ≤ 4) → (y = foldM D2 (fun j => c 14 j) k.toNat) → 4 - k < (N : Int) → WP l G "ShapedRowsModel" mX6_digest (7, 0, 0) (KG (some (.long (jJ (digF c)))) (LK σ 0) (hsT τ (digF c)) π) noX 117 135 [some (.ref 110), some (.int (iI k)), none] [] 117 KD (scM σ q) (hsT τ y) (RHO π) 0 0 := by
    intro N
    induction N with
    | zero => intro q k y k0 k1 hy hm; exact absurd hm (by omega)
    | succ N ih =>
      intro q k y k0 k1 hy hm
      have he : k < 4 → scM σ q 111 (6 + k).toNat = c 14 k.toNat := fun hh => by
        rw [sc_111, show (6 + k).toNat = 6 + k.toNat by omega]
        exact hR.he k.toNat (by omega)
      refine r_iload_n dX6_digest_135 rfl (by rfl) ?_
      refine r_iconst dX6_digest_136 ?_
      refine r_icmp_ge (tgt := 160) dX6_digest_137 (by decide) (by unfold inR; omega) (by unfold inR; omega) (fun c_2 => ?_) (fun c_2 => ?_)
      · refine r_aload_n dX6_digest_160 rfl (by rfl) ?_
        refine r_aload_n dX6_digest_161 rfl (by rfl) ?_
        refine r_callV0 (ct_X6_steps _ (by first | exact hR | exact Rel_cg (sc_111 _ _) hR | exact hR.mj | exact MJ_cg (sc_111 _ _) hR.mj | exact inR_0 | omega | (rw [sc_111]; omega) | (unfold inR; omega))) fX6_steps qX6_222 dX6_digest_162 KD_110 (by decide) ⟨Nat.zero_le _, Nat.zero_le _⟩ (Nat.le_of_ble_eq_true rfl) ?_
        refine r_i2lw dX6_digest_165 ?_
        refine r_callV1 (ct_X6_hashes _) fX6_hashes qX6_234 dX6_digest_166 KD_110 (by decide) ⟨Nat.zero_le _, Nat.zero_le _⟩ (Nat.le_of_ble_eq_true rfl) ?_
        rw [hs_n]
        refine r_aload_n dX6_digest_169 rfl (by rfl) ?_
        refine r_aload_n dX6_digest_170 rfl (by rfl) ?_
        refine r_aload_n dX6_digest_171 rfl (by rfl) ?_
        refine r_callV0 ct_X6_newest fX6_newest qX6_44 dX6_digest_172 KD_110 (by decide) ⟨Nat.zero_le _, Nat.zero_le _⟩ (Nat.le_of_ble_eq_true rfl) ?_
        rw [sc_111, hn.1]
        refine r_iconst dX6_digest_175 ?_
        refine r_iconst dX6_digest_176 ?_
        refine r_callG3 (ct_X6_found _ (by first | exact hR | exact Rel_cg (sc_111 _ _) hR | exact hR.mj | exact MJ_cg (sc_111 _ _) hR.mj | exact inR_0 | omega | (rw [sc_111]; omega) | (unfold inR; omega)) _ (by first | exact hR | exact Rel_cg (sc_111 _ _) hR | exact hR.mj | exact MJ_cg (sc_111 _ _) hR.mj | exact inR_0 | omega | (rw [sc_111]; omega) | (unfold inR; omega)) (by first | exact hR | exact Rel_cg (sc_111 _ _) hR | exact hR.mj | exact MJ_cg (sc_111 _ _) hR.mj | exact inR_0 | omega | (rw [sc_111]; omega) | (unfold inR; omega)) _ (by first | exact hR | exact Rel_cg (sc_111 _ _) hR | exact hR.mj | exact MJ_cg (sc_111 _ _) hR.mj | exact inR_0 | omega | (rw [sc_111]; omega) | (unfold inR; omega)) _ (by first | exact hR | exact Rel_cg (sc_111 _ _) hR | exact hR.mj | exact MJ_cg (sc_111 _ _) hR.mj | exact inR_0 | omega | (rw [sc_111]; omega) | (unfold inR; omega))) fX6_found qX6_225 dX6_digest_177 KD_110 (by decide) ⟨Nat.zero_le _, Nat.zero_le _⟩ (Nat.le_of_ble_eq_true rfl) (fun μ2 hμ2 => ?_)
        obtain ⟨qμ2, pμ2, rfl⟩ := hμ2
        rw [sc_sc]
        refine r_i2lw dX6_digest_180 ?_
        refine r_callV1 (ct_X6_hashes _) fX6_hashes qX6_234 dX6_digest_181 KD_110 (by decide) ⟨Nat.zero_le _, Nat.zero_le _⟩ (Nat.le_of_ble_eq_true rfl) ?_
        rw [hs_n]
        refine r_aload_n dX6_digest_184 rfl (by rfl) ?_
        refine r_aload_n dX6_digest_185 rfl (by rfl) ?_
        refine r_callV0 (ct_X6_freshShareR _ (by first | exact hR | exact Rel_cg (sc_111 _ _) hR | exact hR.mj | exact MJ_cg (sc_111 _ _) hR.mj | exact inR_0 | omega | (rw [sc_111]; omega) | (unfold inR; omega))) fX6_freshShare qX6_243 dX6_digest_186 KD_110 (by decide) ⟨Nat.zero_le _, Nat.zero_le _⟩ (Nat.le_of_ble_eq_true rfl) ?_
        refine r_callS1 (ct_Jd_toLong (frS c) (frS_nn hR.ci)) fJd_toLong qX6_247d dX6_digest_189 (by decide) ⟨Nat.zero_le _, Nat.zero_le _⟩ (Nat.le_of_ble_eq_true rfl) ?_
        refine r_callV1 (ct_X6_hashes _) fX6_hashes qX6_234 dX6_digest_192 KD_110 (by decide) ⟨Nat.zero_le _, Nat.zero_le _⟩ (Nat.le_of_ble_eq_true rfl) ?_
        rw [hs_n]
        refine r_aload_n dX6_digest_195 rfl (by rfl) ?_
        refine r_aload_n dX6_digest_196 rfl (by rfl) ?_
        refine r_get_i kX6_151 dX6_digest_197 KD_110 ?_
        rw [up2_el _ _ _ (by decide), sc_110 _ _ (by decide), h5]
        refine r_i2lw dX6_digest_200 ?_
        refine r_callV1 (ct_X6_hashes _) fX6_hashes qX6_234 dX6_digest_201 KD_110 (by decide) ⟨Nat.zero_le _, Nat.zero_le _⟩ (Nat.le_of_ble_eq_true rfl) ?_
        rw [hs_n]
        refine r_iconst dX6_digest_204 ?_
        refine r_istore_n dX6_digest_205 rfl (Nat.le_of_ble_eq_true rfl) (L' := [_, _, _]) (by rfl) ?_
        exact cut_206 70 _ 0 _ (by omega) (by omega) (by show _ = 31 * D3 + wI (c 108 1); rw [hD3, hy, show k.toNat = 4 by omega]) (by omega)
      · refine r_aload_n dX6_digest_140 rfl (by rfl) ?_
        refine r_aload_n dX6_digest_141 rfl (by rfl) ?_
        refine r_get_r kX6_7 dX6_digest_142 KD_110 (RHO_110_1 _) ?_
        refine r_bipush dX6_digest_145 (by decide) ?_
        refine r_iload_n dX6_digest_147 rfl (by rfl) ?_
        refine r_iadd dX6_digest_148 ?_
        refine r_iald dX6_digest_149 KD_111 (by omega) (by omega) (by first | decide | omega) ?_
        rw [he (by omega)]
        refine r_i2lw dX6_digest_150 ?_
        refine r_callV1 (ct_X6_hashes _) fX6_hashes qX6_234 dX6_digest_151 KD_110 (by decide) ⟨Nat.zero_le _, Nat.zero_le _⟩ (Nat.le_of_ble_eq_true rfl) ?_
        rw [hs_n]
        refine r_iinc dX6_digest_154 (by rfl) (Nat.le_of_ble_eq_true rfl) (L' := [_, _, _]) (by rfl) ?_
        refine r_goto (tgt := 135) dX6_digest_157 (by decide) ?_
        exact ih q (k + 1) _ (by omega) (by omega) (by
          rw [show (k + 1).toNat = k.toNat + 1 by omega]
          unfold foldM
          rw [← hy]) (by omega)
  have cut_112 : ∀ (N : Nat) (q : Int × (Nat → Int)) (k y : Int), (0 ≤ k) → (k ≤ c 10 0) → (y = digW c D1 k.toNat) → c 10 0 - k < (N : Int) → WP l G "ShapedRowsModel" mX6_digest (7, 0, 0) (KG (some (.long (jJ (digF c)))) (LK σ 0) (hsT τ (digF c)) π) noX 117 112 [some (.ref 110), some (.int (iI k)), none] [] 117 KD (scM σ q) (hsT τ y) (RHO π) 0 0 := by
    intro N
    induction N with
    | zero => intro q k y k0 k1 hy hm; exact absurd hm (by omega)
    | succ N ih =>
      intro q k y k0 k1 hy hm
      refine r_iload_n dX6_digest_112 rfl (by rfl) ?_
      refine r_aload_n dX6_digest_113 rfl (by rfl) ?_
      refine r_get_r kX6_7 dX6_digest_114 KD_110 (RHO_110_1 _) ?_
      refine r_iconst dX6_digest_117 ?_
      refine r_iaload (k := 2) dX6_digest_118 KD_111 (by omega) (by omega) (by decide) ?_
      rw [sc_111, hn.2.2.1]
      refine r_icmp_ge (tgt := 133) dX6_digest_119 (by decide) (by unfold inR; omega) (by unfold inR; omega) (fun c_3 => ?_) (fun c_3 => ?_)
      · refine r_iconst dX6_digest_133 ?_
        refine r_istore_n dX6_digest_134 rfl (Nat.le_of_ble_eq_true rfl) (L' := [_, _, _]) (by rfl) ?_
        exact cut_135 9 _ 0 _ (by omega) (by omega) (by show _ = D2; rw [hD2, hy, show k.toNat = (c 10 0).toNat by omega]) (by omega)
      · refine r_aload_n dX6_digest_122 rfl (by rfl) ?_
        refine r_iload_n dX6_digest_123 rfl (by rfl) ?_
        refine r_callG1 (ct_X6_hashesRow _ (by first | exact hR | exact Rel_cg (sc_111 _ _) hR | exact hR.mj | exact MJ_cg (sc_111 _ _) hR.mj | exact inR_0 | omega | (rw [sc_111]; omega) | (unfold inR; omega)) _ _ (by first | exact hR | exact Rel_cg (sc_111 _ _) hR | exact hR.mj | exact MJ_cg (sc_111 _ _) hR.mj | exact inR_0 | omega | (rw [sc_111]; omega) | (unfold inR; omega)) (by first | exact hR | exact Rel_cg (sc_111 _ _) hR | exact hR.mj | exact MJ_cg (sc_111 _ _) hR.mj | exact inR_0 | omega | (rw [sc_111]; omega) | (unfold inR; omega))) fX6_hashesRow qX6_240 dX6_digest_124 KD_110 (by decide) ⟨Nat.zero_le _, Nat.zero_le _⟩ (Nat.le_of_ble_eq_true rfl) (fun μ1 hμ1 => ?_)
        obtain ⟨qμ1, pμ1, rfl⟩ := hμ1
        rw [sc_sc]
        refine r_iinc dX6_digest_127 (by rfl) (Nat.le_of_ble_eq_true rfl) (L' := [_, _, _]) (by rfl) ?_
        refine r_goto (tgt := 112) dX6_digest_130 (by decide) ?_
        exact ih _ (k + 1) _ (by omega) (by omega) (by
          rw [show (k + 1).toNat = k.toNat + 1 by omega]
          unfold digW
          rw [← hy]) (by omega)
  have cut_70 : ∀ (N : Nat) (s k y xs : Int), (0 ≤ s) → (s < c 2 0) → (0 ≤ k) → (k ≤ 3 * c 7 s.toNat) → (y = dC c s.toNat xs k.toNat) → (WP l G "ShapedRowsModel" mX6_digest (7, 0, 0) (KG (some (.long (jJ (digF c)))) (LK σ 0) (hsT τ (digF c)) π) noX 117 33 [some (.ref 110), some (.int (iI (s + 1))), none] [] 117 KD σ (hsT τ (digC c s.toNat xs (c 7 s.toNat).toNat)) (RHO π) 0 0) → 3 * c 7 s.toNat - k < (N : Int) → WP l G "ShapedRowsModel" mX6_digest (7, 0, 0) (KG (some (.long (jJ (digF c)))) (LK σ 0) (hsT τ (digF c)) π) noX 117 70 [some (.ref 110), some (.int (iI s)), some (.int (iI k))] [] 117 KD σ (hsT τ y) (RHO π) 0 0 := by
    intro N
    induction N with
    | zero => intro s k y xs s0 s1 k0 k1 hy kont hm; exact absurd hm (by omega)
    | succ N ih =>
      intro s k y xs s0 s1 k0 k1 hy kont hm
      have hwd := hR.ci.wd s.toNat
      have ew := (wd_eq hR s0 s1).1
      refine r_iload_n dX6_digest_70 rfl (by rfl) ?_
      refine r_iconst dX6_digest_71 ?_
      refine r_aload_n dX6_digest_72 rfl (by rfl) ?_
      refine r_iload_n dX6_digest_73 rfl (by rfl) ?_
      refine r_iconst dX6_digest_74 ?_
      refine r_callV2 (ct_X6_get _ _ (by first | exact hR | exact Rel_cg (sc_111 _ _) hR | exact hR.mj | exact MJ_cg (sc_111 _ _) hR.mj | exact inR_0 | omega | (rw [sc_111]; omega) | (unfold inR; omega)) (by first | exact hR | exact Rel_cg (sc_111 _ _) hR | exact hR.mj | exact MJ_cg (sc_111 _ _) hR.mj | exact inR_0 | omega | (rw [sc_111]; omega) | (unfold inR; omega))) fX6_get qX6_36 dX6_digest_75 KD_110 (by decide) ⟨Nat.zero_le _, Nat.zero_le _⟩ (Nat.le_of_ble_eq_true rfl) ?_
      rw [ew]
      refine r_imul dX6_digest_78 ?_
      refine r_icmp_ge (tgt := 104) dX6_digest_79 (by decide) (by unfold inR; omega) (by unfold inR; omega) (fun c_4 => ?_) (fun c_4 => ?_)
      · refine r_iinc dX6_digest_104 (by rfl) (Nat.le_of_ble_eq_true rfl) (L' := [_, _, _]) (by rfl) ?_
        refine r_goto (tgt := 33) dX6_digest_107 (by decide) ?_
        refine WP.wk (L' := [_, _, none]) (leL_s (leL_s (leL_n leL_0))) ?_
        first | (exact cut_33 15 0 _ (by omega) (by omega) (by rw [hy, show k.toNat = 10 by omega, ← hD0]; rfl) (by omega)) | (rw [hy, show k.toNat = 3 * (c 7 s.toNat).toNat by omega, dC_e]; exact kont)
      · refine r_aload_n dX6_digest_82 rfl (by rfl) ?_
        refine r_aload_n dX6_digest_83 rfl (by rfl) ?_
        refine r_iload_n dX6_digest_84 rfl (by rfl) ?_
        refine r_iload_n dX6_digest_85 rfl (by rfl) ?_
        refine r_iconst dX6_digest_86 ?_
        refine r_idiv dX6_digest_87 (m := k.toNat) (d := 3) (by omega) (by rfl) (by omega) (by decide) (by decide) ?_
        refine r_iload_n dX6_digest_88 rfl (by rfl) ?_
        refine r_iconst dX6_digest_89 ?_
        refine r_irem dX6_digest_90 (m := k.toNat) (d := 3) (by omega) (by rfl) (by omega) (by decide) (by decide) ?_
        refine r_callV3 (ct_X6_columnOf (by first | exact hR | exact Rel_cg (sc_111 _ _) hR | exact hR.mj | exact MJ_cg (sc_111 _ _) hR.mj | exact inR_0 | omega | (rw [sc_111]; omega) | (unfold inR; omega)) _ (by first | exact hR | exact Rel_cg (sc_111 _ _) hR | exact hR.mj | exact MJ_cg (sc_111 _ _) hR.mj | exact inR_0 | omega | (rw [sc_111]; omega) | (unfold inR; omega)) (by first | exact hR | exact Rel_cg (sc_111 _ _) hR | exact hR.mj | exact MJ_cg (sc_111 _ _) hR.mj | exact inR_0 | omega | (rw [sc_111]; omega) | (unfold inR; omega)) _ (by first | exact hR | exact Rel_cg (sc_111 _ _) hR | exact hR.mj | exact MJ_cg (sc_111 _ _) hR.mj | exact inR_0 | omega | (rw [sc_111]; omega) | (unfold inR; omega)) (by first | exact hR | exact Rel_cg (sc_111 _ _) hR | exact hR.mj | exact MJ_cg (sc_111 _ _) hR.mj | exact inR_0 | omega | (rw [sc_111]; omega) | (unfold inR; omega)) _ (by first | exact hR | exact Rel_cg (sc_111 _ _) hR | exact hR.mj | exact MJ_cg (sc_111 _ _) hR.mj | exact inR_0 | omega | (rw [sc_111]; omega) | (unfold inR; omega)) (by first | exact hR | exact Rel_cg (sc_111 _ _) hR | exact hR.mj | exact MJ_cg (sc_111 _ _) hR.mj | exact inR_0 | omega | (rw [sc_111]; omega) | (unfold inR; omega))) fX6_columnOf qX6_198 dX6_digest_91 KD_110 (by decide) ⟨Nat.zero_le _, Nat.zero_le _⟩ (Nat.le_of_ble_eq_true rfl) ?_
        rw [co_eq hR s0 s1 (by omega)]
        refine r_i2lw dX6_digest_94 ?_
        refine r_callV1 (ct_X6_hashes _) fX6_hashes qX6_234 dX6_digest_95 KD_110 (by decide) ⟨Nat.zero_le _, Nat.zero_le _⟩ (Nat.le_of_ble_eq_true rfl) ?_
        rw [hs_n]
        refine r_iinc dX6_digest_98 (by rfl) (Nat.le_of_ble_eq_true rfl) (L' := [_, _, _]) (by rfl) ?_
        refine r_goto (tgt := 70) dX6_digest_101 (by decide) ?_
        exact ih s (k + 1) _ xs s0 s1 (by omega) (by omega) (by
          rw [show (k + 1).toNat = k.toNat + 1 by omega, dC_s, ← hy]) kont (by omega)
  have cut_45 : ∀ (N : Nat) (s k y hs : Int), (0 ≤ s) → (s < c 2 0) → (0 ≤ k) → (k ≤ 6) → (y = foldM hs (fun w => shP c s.toNat (w : Int)) k.toNat) → (WP l G "ShapedRowsModel" mX6_digest (7, 0, 0) (KG (some (.long (jJ (digF c)))) (LK σ 0) (hsT τ (digF c)) π) noX 117 33 [some (.ref 110), some (.int (iI (s + 1))), none] [] 117 KD σ (hsT τ (digC c s.toNat (foldM hs (fun w => shP c s.toNat (w : Int)) 6) (c 7 s.toNat).toNat)) (RHO π) 0 0) → 6 - k < (N : Int) → WP l G "ShapedRowsModel" mX6_digest (7, 0, 0) (KG (some (.long (jJ (digF c)))) (LK σ 0) (hsT τ (digF c)) π) noX 117 45 [some (.ref 110), some (.int (iI s)), some (.int (iI k))] [] 117 KD σ (hsT τ y) (RHO π) 0 0 := by
    intro N
    induction N with
    | zero => intro s k y hs s0 s1 k0 k1 hy kont hm; exact absurd hm (by omega)
    | succ N ih =>
      intro s k y hs s0 s1 k0 k1 hy kont hm
      refine r_iload_n dX6_digest_45 rfl (by rfl) ?_
      refine r_bipush dX6_digest_46 (by decide) ?_
      refine r_icmp_ge (tgt := 68) dX6_digest_48 (by decide) (by unfold inR; omega) (by unfold inR; omega) (fun c_5 => ?_) (fun c_5 => ?_)
      · refine r_iconst dX6_digest_68 ?_
        refine r_istore_n dX6_digest_69 rfl (Nat.le_of_ble_eq_true rfl) (L' := [_, _, _]) (by rfl) ?_
        exact cut_70 30 s 0 y y s0 s1 (by omega) (by have := hR.ci.wd s.toNat; omega) (dC_e c s.toNat y 0).symm (by rw [hy, show k.toNat = 6 by omega]; exact kont) (by have := hR.ci.wd s.toNat; omega)
      · refine r_aload_n dX6_digest_51 rfl (by rfl) ?_
        refine r_aload_n dX6_digest_52 rfl (by rfl) ?_
        refine r_iload_n dX6_digest_53 rfl (by rfl) ?_
        refine r_iload_n dX6_digest_54 rfl (by rfl) ?_
        refine r_callV2 (ct_X6_shapeOf (by first | exact hR | exact Rel_cg (sc_111 _ _) hR | exact hR.mj | exact MJ_cg (sc_111 _ _) hR.mj | exact inR_0 | omega | (rw [sc_111]; omega) | (unfold inR; omega)) _ (by first | exact hR | exact Rel_cg (sc_111 _ _) hR | exact hR.mj | exact MJ_cg (sc_111 _ _) hR.mj | exact inR_0 | omega | (rw [sc_111]; omega) | (unfold inR; omega)) (by first | exact hR | exact Rel_cg (sc_111 _ _) hR | exact hR.mj | exact MJ_cg (sc_111 _ _) hR.mj | exact inR_0 | omega | (rw [sc_111]; omega) | (unfold inR; omega)) _ (by first | exact hR | exact Rel_cg (sc_111 _ _) hR | exact hR.mj | exact MJ_cg (sc_111 _ _) hR.mj | exact inR_0 | omega | (rw [sc_111]; omega) | (unfold inR; omega)) (by first | exact hR | exact Rel_cg (sc_111 _ _) hR | exact hR.mj | exact MJ_cg (sc_111 _ _) hR.mj | exact inR_0 | omega | (rw [sc_111]; omega) | (unfold inR; omega))) fX6_shapeOf qX6_207 dX6_digest_55 KD_110 (by decide) ⟨Nat.zero_le _, Nat.zero_le _⟩ (Nat.le_of_ble_eq_true rfl) ?_
        rw [ts_eq hR s0 s1]
        refine r_i2lw dX6_digest_58 ?_
        refine r_callV1 (ct_X6_hashes _) fX6_hashes qX6_234 dX6_digest_59 KD_110 (by decide) ⟨Nat.zero_le _, Nat.zero_le _⟩ (Nat.le_of_ble_eq_true rfl) ?_
        rw [hs_n]
        refine r_iinc dX6_digest_62 (by rfl) (Nat.le_of_ble_eq_true rfl) (L' := [_, _, _]) (by rfl) ?_
        refine r_goto (tgt := 45) dX6_digest_65 (by decide) ?_
        exact ih s (k + 1) _ hs s0 s1 (by omega) (by omega) (by
          rw [show (k + 1).toNat = k.toNat + 1 by omega]
          unfold foldM
          rw [← hy, show ((k.toNat : Nat) : Int) = k by omega]) kont (by omega)
  have cut_33 : ∀ (N : Nat) (s y : Int), (0 ≤ s) → (s ≤ c 2 0) → (y = digS c D0 s.toNat) → c 2 0 - s < (N : Int) → WP l G "ShapedRowsModel" mX6_digest (7, 0, 0) (KG (some (.long (jJ (digF c)))) (LK σ 0) (hsT τ (digF c)) π) noX 117 33 [some (.ref 110), some (.int (iI s)), none] [] 117 KD σ (hsT τ y) (RHO π) 0 0 := by
    intro N
    induction N with
    | zero => intro s y s0 s1 hy hm; exact absurd hm (by omega)
    | succ N ih =>
      intro s y s0 s1 hy hm
      refine r_iload_n dX6_digest_33 rfl (by rfl) ?_
      refine r_aload_n dX6_digest_34 rfl (by rfl) ?_
      refine r_get_r kX6_7 dX6_digest_35 KD_110 (RHO_110_1 _) ?_
      refine r_iconst dX6_digest_38 ?_
      refine r_iaload (k := 0) dX6_digest_39 KD_111 (by omega) (by omega) (by decide) ?_
      rw [hn.1]
      refine r_icmp_ge (tgt := 110) dX6_digest_40 (by decide) (by unfold inR; omega) (by unfold inR; omega) (fun c_6 => ?_) (fun c_6 => ?_)
      · refine r_iconst dX6_digest_110 ?_
        refine r_istore_n dX6_digest_111 rfl (Nat.le_of_ble_eq_true rfl) (L' := [_, _, _]) (by rfl) ?_
        refine WP.mem (sc_self σ) ?_
        exact cut_112 15 _ 0 _ (by omega) (by omega) (by show _ = D1; rw [hD1, hy, show s.toNat = (c 2 0).toNat by omega]) (by omega)
      · refine r_iconst dX6_digest_43 ?_
        refine r_istore_n dX6_digest_44 rfl (Nat.le_of_ble_eq_true rfl) (L' := [_, _, _]) (by rfl) ?_
        refine cut_45 9 s 0 _ y s0 (by omega) (by omega) (by omega) rfl ?_ (by omega)
        have e := ih (s + 1) (digS c D0 (s + 1).toNat) (by omega) (by omega) rfl (by omega)
        rw [show (s + 1).toNat = s.toNat + 1 by omega] at e
        unfold digS at e
        rw [← hy] at e
        exact e
  have cut_9 : ∀ (N : Nat) (k y : Int), (0 ≤ k) → (k ≤ 10) → (y = foldM 2699 (fun w => ctP c (w : Int)) k.toNat) → 10 - k < (N : Int) → WP l G "ShapedRowsModel" mX6_digest (7, 0, 0) (KG (some (.long (jJ (digF c)))) (LK σ 0) (hsT τ (digF c)) π) noX 117 9 [some (.ref 110), some (.int (iI k)), none] [] 117 KD σ (hsT τ y) (RHO π) 0 0 := by
    intro N
    induction N with
    | zero => intro k y k0 k1 hy hm; exact absurd hm (by omega)
    | succ N ih =>
      intro k y k0 k1 hy hm
      refine r_iload_n dX6_digest_9 rfl (by rfl) ?_
      refine r_bipush dX6_digest_10 (by decide) ?_
      refine r_icmp_ge (tgt := 31) dX6_digest_12 (by decide) (by unfold inR; omega) (by unfold inR; omega) (fun c_7 => ?_) (fun c_7 => ?_)
      · refine r_iconst dX6_digest_31 ?_
        refine r_istore_n dX6_digest_32 rfl (Nat.le_of_ble_eq_true rfl) (L' := [_, _, _]) (by rfl) ?_
        first | (exact cut_33 15 0 _ (by omega) (by omega) (by rw [hy, show k.toNat = 10 by omega, ← hD0]; rfl) (by omega)) | (rw [hy, show k.toNat = 3 * (c 7 s.toNat).toNat by omega, dC_e]; exact kont)
      · refine r_aload_n dX6_digest_15 rfl (by rfl) ?_
        refine r_aload_n dX6_digest_16 rfl (by rfl) ?_
        refine r_iload_n dX6_digest_17 rfl (by rfl) ?_
        refine r_callV1 (ct_X6_counts (by first | exact hR | exact Rel_cg (sc_111 _ _) hR | exact hR.mj | exact MJ_cg (sc_111 _ _) hR.mj | exact inR_0 | omega | (rw [sc_111]; omega) | (unfold inR; omega)) _ (by first | exact hR | exact Rel_cg (sc_111 _ _) hR | exact hR.mj | exact MJ_cg (sc_111 _ _) hR.mj | exact inR_0 | omega | (rw [sc_111]; omega) | (unfold inR; omega)) (by first | exact hR | exact Rel_cg (sc_111 _ _) hR | exact hR.mj | exact MJ_cg (sc_111 _ _) hR.mj | exact inR_0 | omega | (rw [sc_111]; omega) | (unfold inR; omega))) fX6_counts qX6_216 dX6_digest_18 KD_110 (by decide) ⟨Nat.zero_le _, Nat.zero_le _⟩ (Nat.le_of_ble_eq_true rfl) ?_
        rw [cn_eq hR h9]
        refine r_i2lw dX6_digest_21 ?_
        refine r_callV1 (ct_X6_hashes _) fX6_hashes qX6_234 dX6_digest_22 KD_110 (by decide) ⟨Nat.zero_le _, Nat.zero_le _⟩ (Nat.le_of_ble_eq_true rfl) ?_
        rw [hs_n]
        refine r_iinc dX6_digest_25 (by rfl) (Nat.le_of_ble_eq_true rfl) (L' := [_, _, _]) (by rfl) ?_
        refine r_goto (tgt := 9) dX6_digest_28 (by decide) ?_
        exact ih (k + 1) _ (by omega) (by omega) (by
          rw [show (k + 1).toNat = k.toNat + 1 by omega]
          unfold foldM
          rw [← hy, show ((k.toNat : Nat) : Int) = k by omega]) (by omega)
  refine r_aload_n dX6_digest_0 rfl (by rfl) ?_
  refine r_ldc2 (a := 2699) ql_X6_238 (by decide) dX6_digest_1 ?_
  refine r_put_l kX6_230 dX6_digest_4 KD_110 ?_
  refine r_iconst dX6_digest_7 ?_
  refine r_istore_n dX6_digest_8 rfl (Nat.le_of_ble_eq_true rfl) (L' := [_, _, _]) (by rfl) ?_
  exact cut_9 12 0 _ (by omega) (by omega) rfl (by omega)
