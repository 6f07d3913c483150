/-! the bits of a double; the model's digest -/
abbrev cJd_isNaN : ByteArray := prog_9_method_6_code
def yJd_isNaN : MethodName := ⟨"java/lang/Double", "isNaN", "(D)Z"⟩
abbrev cJd_toLong : ByteArray := prog_9_method_23_code
def yJd_toLong : MethodName := ⟨"java/lang/Double", "doubleToLongBits", "(D)J"⟩
def yJd_raw : MethodName := ⟨"java/lang/Double", "doubleToRawLongBits", "(D)J"⟩
abbrev mJd_isNaN : MI := (yJd_isNaN, cJd_isNaN, 2, some .boolean)
abbrev mJd_toLong : MI := (yJd_toLong, cJd_toLong, 2, some .long)
theorem dJd_isNaN_0 : decode cJd_isNaN 0 = .ok (.dload_n 0, 1) := by decide +kernel
theorem dJd_isNaN_1 : decode cJd_isNaN 1 = .ok (.dload_n 0, 1) := by decide +kernel
theorem dJd_isNaN_2 : decode cJd_isNaN 2 = .ok (.dcmp .l, 1) := by decide +kernel
theorem dJd_isNaN_3 : decode cJd_isNaN 3 = .ok (.ifCond .eq 7, 3) := by decide +kernel
theorem dJd_isNaN_10 : decode cJd_isNaN 10 = .ok (.iconst 0, 1) := by decide +kernel
theorem dJd_isNaN_11 : decode cJd_isNaN 11 = .ok (.ireturn, 1) := by decide +kernel
theorem dJd_toLong_0 : decode cJd_toLong 0 = .ok (.dload_n 0, 1) := by decide +kernel
theorem dJd_toLong_1 : decode cJd_toLong 1 = .ok (.invokestatic 122, 3) := by decide +kernel
theorem dJd_toLong_4 : decode cJd_toLong 4 = .ok (.ifCond .ne 8, 3) := by decide +kernel
theorem dJd_toLong_7 : decode cJd_toLong 7 = .ok (.dload_n 0, 1) := by decide +kernel
theorem dJd_toLong_8 : decode cJd_toLong 8 = .ok (.invokestatic 134, 3) := by decide +kernel
theorem dJd_toLong_11 : decode cJd_toLong 11 = .ok (.lreturn, 1) := by decide +kernel
set_option maxRecDepth 20000 in
theorem iniJd : Cond.initialized "java/lang/Double" ∈ TBg := tb_in 98 (by decide +kernel) rfl
set_option maxRecDepth 20000 in
theorem fJd_isNaN : MFS mJd_isNaN 1 := ⟨tb_in 1406 (by decide +kernel) rfl, iniJd, tb_in 1407 (by decide +kernel) rfl, ⟨by decide +kernel, by decide +kernel, by decide +kernel⟩⟩
set_option maxRecDepth 20000 in
theorem fJd_toLong : MFS mJd_toLong 1 := ⟨tb_in 1403 (by decide +kernel) rfl, iniJd, tb_in 1404 (by decide +kernel) rfl, ⟨by decide +kernel, by decide +kernel, by decide +kernel⟩⟩
set_option maxRecDepth 20000 in
theorem qJd_122 : Cond.methodLink "java/lang/Double" 122 yJd_isNaN ∈ TBg := tb_in 1405 (by decide +kernel) rfl
set_option maxRecDepth 20000 in
theorem qJd_134 : Cond.methodLink "java/lang/Double" 134 yJd_raw ∈ TBg := tb_in 1408 (by decide +kernel) rfl
set_option maxRecDepth 20000 in
theorem nJd_raw : Cond.native yJd_raw ∈ TBg := tb_in 1410 (by decide +kernel) rfl
set_option maxRecDepth 20000 in
theorem sJd_raw : Cond.static yJd_raw ∈ TBg := tb_in 1409 (by decide +kernel) rfl
set_option maxRecDepth 20000 in
theorem qX6_247d : Cond.methodLink "ShapedRowsModel" 247 yJd_toLong ∈ TBg := tb_in 1402 (by decide +kernel) rfl
section Rows52
variable {l : Launch} {G : GG} {own : String} {X : MI} {dm : Nat × Nat × Nat} {K : KK} {KE : KX} {n0 pc : Nat} {L : List (Option Value)} {S : List Value} {n : Nat} {kd : KT} {σ τ : ST} {ρ : RT} {ce sl : Nat}
theorem r_raw {x : UInt64} {idx : Nat} (hl : Cond.methodLink own idx yJd_raw ∈ TBg) (hd : decode X.2.1 pc = .ok (.invokestatic idx, 3)) (hf : 1 ≤ dm.1) (hrest : (S.map (fun v => v.category)).sum ≤ 8) (k : WP l G own X dm K KE n0 (pc + 3) L (.long (jJ x.toInt64.toInt) :: S) n kd σ τ ρ ce sl) : WP l G own X dm K KE n0 pc L (.double x :: S) n kd σ τ ρ ce sl := by
  intro ad0 ad p e R s m args below meth c H locs ls Z C ha hH hS hL
  obtain ⟨hx, hb, hml, hown, hts, hlk, henv, hR, -⟩ := id C
  have h8 := cats_tr (ad := ad) hrest
  rw [jJ_of] at k
  exact vn_d2l hx hb (hml.trans hL.1.symm) hown (hts _ hl) (hts _ nJd_raw) (hts _ sJd_raw) (hts _ iniJd) (Nat.le_trans hf hR.1) (by omega) hd (k ad0 ad p e R s m args below meth c H locs ls Z C ha hH hS hL)
end Rows52
set_option maxRecDepth 100000 in
theorem ct_Jd_isNaN {l : Launch} {G : GG} {π : Nat → Option Nat} {σ τ : ST} (x : UInt64) (hx : (Op.cmpValue (FP.dcmp x x) .l).toInt = 0) : Ct l G mJd_isNaN (0, 0, 0) [.double x] 117 KD σ τ (RHO π) (KQ (some (.int (iI 0))) 117 KD σ τ (RHO π)) := by
  refine ct_intro (own := "java/lang/Double") rfl (by decide +kernel) (Nat.le_of_ble_eq_true rfl) (L := _) rfl ?_
  refine r_dload_n dJd_isNaN_0 rfl (by rfl) ?_
  refine r_dload_n dJd_isNaN_1 rfl (by rfl) ?_
  refine r_dcmp dJd_isNaN_2 ?_
  refine r_if_eq (tgt := 10) dJd_isNaN_3 (by decide) (by rw [hx]; exact inR_0) (fun c => ?_) (fun c => ?_)
  · refine r_iconst dJd_isNaN_10 ?_
    exact r_ret_z dJd_isNaN_11 rfl ⟨Nat.zero_le _, Nat.zero_le _⟩ (Or.inl rfl) (by rfl) ⟨rfl, rfl, rfl, rfl, rfl⟩
  · exact absurd hx c
set_option maxRecDepth 100000 in
theorem ct_Jd_toLong {l : Launch} {G : GG} {π : Nat → Option Nat} {σ τ : ST} (x : UInt64) (hx : (Op.cmpValue (FP.dcmp x x) .l).toInt = 0) : Ct l G mJd_toLong (1, 0, 0) [.double x] 117 KD σ τ (RHO π) (KQ (some (.long (jJ x.toInt64.toInt))) 117 KD σ τ (RHO π)) := by
  refine ct_intro (own := "java/lang/Double") rfl (by decide +kernel) (Nat.le_of_ble_eq_true rfl) (L := _) rfl ?_
  refine r_dload_n dJd_toLong_0 rfl (by rfl) ?_
  refine r_callS1 (ct_Jd_isNaN x hx) fJd_isNaN qJd_122 dJd_toLong_1 (by decide) ⟨Nat.zero_le _, Nat.zero_le _⟩ (Nat.le_of_ble_eq_true rfl) ?_
  refine r_if_ne (tgt := 12) dJd_toLong_4 (by decide) (by unfold inR; omega) (fun c => ?_) (fun c => ?_)
  · exact absurd rfl c
  · refine r_dload_n dJd_toLong_7 rfl (by rfl) ?_
    refine r_raw qJd_134 dJd_toLong_8 (by decide) (Nat.le_of_ble_eq_true rfl) ?_
    exact r_ret_l dJd_toLong_11 rfl ⟨Nat.zero_le _, Nat.zero_le _⟩ (by rfl) ⟨rfl, rfl, rfl, rfl, rfl⟩
/-- no share is a NaN -/
theorem nn_all : ∀ n : Nat, n < 13 → 0 < n → ∀ k : Nat, k < 13 → k ≤ n → (Op.cmpValue (FP.dcmp (frQ (k : Int) (n : Int)) (frQ (k : Int) (n : Int))) .l).toInt = 0 := by decide +kernel
theorem frS_nn {σ : ST} (hI : CI σ) : (Op.cmpValue (FP.dcmp (frS σ) (frS σ)) .l).toInt = 0 := by
  have hr := hI.ro
  have hc := cntR_rng σ (σ 2 0 - 1) (σ 10 0).toNat
  unfold frS
  split
  · decide +kernel
  · have h := nn_all (σ 10 0).toNat (by omega) (by omega) (σ 10 0 - (σ 10 0 - cntR σ (σ 2 0 - 1) (σ 10 0).toNat)).toNat (by omega) (by omega)
    rw [show (((σ 10 0).toNat : Nat) : Int) = σ 10 0 by omega, show (((σ 10 0 - (σ 10 0 - cntR σ (σ 2 0 - 1) (σ 10 0).toNat)).toNat : Nat) : Int) = σ 10 0 - (σ 10 0 - cntR σ (σ 2 0 - 1) (σ 10 0).toNat) by omega] at h
    exact h
/-- the hash -/
def hsT (τ : ST) (x : Int) : ST := up2 τ 110 12 x
theorem hs_n (τ : ST) (x v : Int) : up2 (hsT τ x) 110 12 (31 * hsT τ x 110 12 + v) = hsT τ (31 * x + v) := by
  unfold hsT
  rw [up2_at]
  funext a b
  unfold up2
  by_cases h : a = 110 ∧ b = 12
  · rw [if_pos h, if_pos h]
  · rw [if_neg h, if_neg h, if_neg h]

set_option maxRecDepth 100000 in
set_option maxHeartbeats 4000000 in
theorem ct_X6_hashes {l : Launch} {G : GG} {π : Nat → Option Nat} {σ τ : ST} (v : Int) : Ct l G mX6_hashes (0, 0, 0) [.ref 110, .long (jJ v)] 117 KD σ τ (RHO π) (KQ none 117 KD σ (up2 τ 110 12 (31 * τ 110 12 + v)) (RHO π)) := by
  refine ct_intro (own := "ShapedRowsModel") rfl (by decide +kernel) (Nat.le_of_ble_eq_true rfl) (L := _) rfl ?_
  refine r_aload_n dX6_hashes_0 rfl (by rfl) ?_
  refine r_ldc2 (a := 31) ql_X6_228 (by decide) dX6_hashes_1 ?_
  refine r_aload_n dX6_hashes_4 rfl (by rfl) ?_
  refine r_get_l kX6_230 dX6_hashes_5 KD_110 ?_
  refine r_lmul dX6_hashes_8 ?_
  refine r_lload_n dX6_hashes_9 rfl (by rfl) ?_
  refine r_ladd dX6_hashes_10 ?_
  refine r_put_l kX6_230 dX6_hashes_11 KD_110 ?_
  exact r_ret_v dX6_hashes_14 rfl ⟨Nat.zero_le _, Nat.zero_le _⟩ ⟨rfl, rfl, (by first | rfl | omega), rfl, rfl⟩

set_option maxRecDepth 100000 in
set_option maxHeartbeats 4000000 in
theorem ct_X6_hashesRow {l : Launch} {G : GG} {π : Nat → Option Nat} {σ τ : ST} (c : ST) (hR : Rel c σ) (r x : Int) (r0 : 0 ≤ r) (r1 : r < c 10 0) : Ct l G mX6_hashesRow (6, 0, 0) [.ref 110, .int (iI r)] 117 KD σ (hsT τ x) (RHO π) (KG none (fun σ' => ∃ q, True ∧ σ' = scM σ q) (hsT τ (digR c r.toNat x (c 2 0 - c 2 1).toNat)) π) := by
  have hn := hR.nm
  have hsz := hR.ci.sz
  have hrw := hR.ci.ro
  have hcu := hR.ci.cu
  have hmk := hR.ci.mk
  refine ct_intro (own := "ShapedRowsModel") rfl (by decide +kernel) (Nat.le_of_ble_eq_true rfl) (L := _) rfl ?_
  have cut_50 : ∀ (N : Nat) (q : Int × (Nat → Int)) (s k y xs : Int), (PV c s (vR c r.toNat s.toNat) q) → (c 2 1 ≤ s) → (s < c 2 0) → (0 ≤ k) → (k ≤ c 7 s.toNat) → (y = foldM xs (fun j => vR c r.toNat s.toNat (c 8 (8 * s.toNat + j)).toNat) k.toNat) → (∀ g : Int × (Nat → Int), WP l G "ShapedRowsModel" mX6_hashesRow (6, 0, 0) (KG none (fun σ' => ∃ q, True ∧ σ' = scM σ q) (hsT τ (digR c r.toNat x (c 2 0 - c 2 1).toNat)) π) noX 117 32 [some (.ref 110), some (.int (iI r)), some (.int (iI (s + 1))), none] [] 117 KD (scM σ g) (hsT τ (31 * foldM xs (fun j => vR c r.toNat s.toNat (c 8 (8 * s.toNat + j)).toNat) (c 7 s.toNat).toNat + wI (lsC c (lsV c r.toNat s.toNat) r.toNat (c 7 (c 11 r.toNat).toNat).toNat))) (RHO π) 0 0) → c 7 s.toNat - k < (N : Int) → WP l G "ShapedRowsModel" mX6_hashesRow (6, 0, 0) (KG none (fun σ' => ∃ q, True ∧ σ' = scM σ q) (hsT τ (digR c r.toNat x (c 2 0 - c 2 1).toNat)) π) noX 117 50 [some (.ref 110), some (.int (iI r)), some (.int (iI s)), some (.int (iI k))] [] 117 KD (scM σ q) (hsT τ y) (RHO π) 0 0 := by
    intro N
    induction N with
    | zero => intro q s k y xs hq s0 s1 k0 k1 hy kont hm; exact absurd hm (by omega)
    | succ N ih =>
      intro q s k y xs hq s0 s1 k0 k1 hy kont hm
      have hwd := hR.ci.wd s.toNat
      have q7 := sc_7 σ q
      have q14 := sc_114 σ q
      have qk : k < c 7 s.toNat → q.2 k.toNat = vR c r.toNat s.toNat (c 8 (8 * s.toNat + k.toNat)).toNat := fun hh => hq.2 k.toNat (by omega)
      refine r_iload_n dX6_hashesRow_50 rfl (by rfl) ?_
      refine r_aload_n dX6_hashesRow_51 rfl (by rfl) ?_
      refine r_get_i kX6_98 dX6_hashesRow_52 KD_110 ?_
      rw [q7, hq.1]
      refine r_icmp_ge (tgt := 75) dX6_hashesRow_55 (by decide) (by unfold inR; omega) (by unfold inR; omega) (fun c_1 => ?_) (fun c_1 => ?_)
      · refine r_aload_n dX6_hashesRow_75 rfl (by rfl) ?_
        refine r_aload_n dX6_hashesRow_76 rfl (by rfl) ?_
        refine r_iload_n dX6_hashesRow_77 rfl (by rfl) ?_
        refine r_iload_n dX6_hashesRow_78 rfl (by rfl) ?_
        refine r_callG2 (ct_X6_losses _ (by first | exact hR | exact Rel_cg (sc_111 _ _) hR | exact hR.mj | exact MJ_cg (sc_111 _ _) hR.mj | omega | (rw [sc_111]; omega) | (unfold inR; omega)) _ _ (by first | exact hR | exact Rel_cg (sc_111 _ _) hR | exact hR.mj | exact MJ_cg (sc_111 _ _) hR.mj | omega | (rw [sc_111]; omega) | (unfold inR; omega)) (by first | exact hR | exact Rel_cg (sc_111 _ _) hR | exact hR.mj | exact MJ_cg (sc_111 _ _) hR.mj | omega | (rw [sc_111]; omega) | (unfold inR; omega)) (by first | exact hR | exact Rel_cg (sc_111 _ _) hR | exact hR.mj | exact MJ_cg (sc_111 _ _) hR.mj | omega | (rw [sc_111]; omega) | (unfold inR; omega)) (by first | exact hR | exact Rel_cg (sc_111 _ _) hR | exact hR.mj | exact MJ_cg (sc_111 _ _) hR.mj | omega | (rw [sc_111]; omega) | (unfold inR; omega))) fX6_losses qX6_219 dX6_hashesRow_79 KD_110 (by decide) ⟨Nat.zero_le _, Nat.zero_le _⟩ (Nat.le_of_ble_eq_true rfl) (fun μ3 hμ3 => ?_)
        obtain ⟨qμ3, pμ3, rfl⟩ := hμ3
        rw [sc_sc]
        refine r_i2lw dX6_hashesRow_82 ?_
        refine r_callV1 (ct_X6_hashes _) fX6_hashes qX6_234 dX6_hashesRow_83 KD_110 (by decide) ⟨Nat.zero_le _, Nat.zero_le _⟩ (Nat.le_of_ble_eq_true rfl) ?_
        rw [hs_n]
        refine r_iinc dX6_hashesRow_86 (by rfl) (Nat.le_of_ble_eq_true rfl) (L' := [_, _, _, _]) (by rfl) ?_
        refine r_goto (tgt := 32) dX6_hashesRow_89 (by decide) ?_
        refine WP.wk (L' := [_, _, _, none]) (leL_s (leL_s (leL_s (leL_n leL_0)))) ?_
        first | (exact cut_32 40 _ _ _ (by omega) (by omega) (by rw [show (c 2 1 - c 2 1).toNat = 0 by omega]; unfold digR; rw [hx, show k.toNat = 6 by omega]) (by omega)) | (rw [hy, show k.toNat = (c 7 s.toNat).toNat by omega]; exact kont _)
      · refine r_aload_n dX6_hashesRow_58 rfl (by rfl) ?_
        refine r_aload_n dX6_hashesRow_59 rfl (by rfl) ?_
        refine r_get_r kX6_19 dX6_hashesRow_60 KD_110 (RHO_110_6 _) ?_
        refine r_iload_n dX6_hashesRow_63 rfl (by rfl) ?_
        refine r_iald dX6_hashesRow_64 KD_114 (by omega) (by omega) (by first | decide | omega) ?_
        rw [q14, qk (by omega)]
        refine r_i2lw dX6_hashesRow_65 ?_
        refine r_callV1 (ct_X6_hashes _) fX6_hashes qX6_234 dX6_hashesRow_66 KD_110 (by decide) ⟨Nat.zero_le _, Nat.zero_le _⟩ (Nat.le_of_ble_eq_true rfl) ?_
        rw [hs_n]
        refine r_iinc dX6_hashesRow_69 (by rfl) (Nat.le_of_ble_eq_true rfl) (L' := [_, _, _, _]) (by rfl) ?_
        refine r_goto (tgt := 50) dX6_hashesRow_72 (by decide) ?_
        exact ih q s (k + 1) _ xs hq s0 s1 (by omega) (by omega) (by
          rw [show (k + 1).toNat = k.toNat + 1 by omega]
          unfold foldM
          rw [← hy]) kont (by omega)
  have cut_32 : ∀ (N : Nat) (q : Int × (Nat → Int)) (s x1 : Int), (c 2 1 ≤ s) → (s ≤ c 2 0 ∨ s = c 2 1) → (x1 = digR c r.toNat x (s - c 2 1).toNat) → c 2 0 - s + 13 < (N : Int) → WP l G "ShapedRowsModel" mX6_hashesRow (6, 0, 0) (KG none (fun σ' => ∃ q, True ∧ σ' = scM σ q) (hsT τ (digR c r.toNat x (c 2 0 - c 2 1).toNat)) π) noX 117 32 [some (.ref 110), some (.int (iI r)), some (.int (iI s)), none] [] 117 KD (scM σ q) (hsT τ x1) (RHO π) 0 0 := by
    intro N
    induction N with
    | zero => intro q s x1 s0 s1 hx hm; exact absurd hm (by omega)
    | succ N ih =>
      intro q s x1 s0 s1 hx hm
      refine r_iload_n dX6_hashesRow_32 rfl (by rfl) ?_
      refine r_aload_n dX6_hashesRow_33 rfl (by rfl) ?_
      refine r_get_r kX6_7 dX6_hashesRow_34 KD_110 (RHO_110_1 _) ?_
      refine r_iconst dX6_hashesRow_37 ?_
      refine r_iaload (k := 0) dX6_hashesRow_38 KD_111 (by omega) (by omega) (by decide) ?_
      rw [sc_111, hn.1]
      refine r_icmp_ge (tgt := 92) dX6_hashesRow_39 (by decide) (by unfold inR; omega) (by unfold inR; omega) (fun c_2 => ?_) (fun c_2 => ?_)
      · exact r_ret_vg dX6_hashesRow_92 rfl ⟨Nat.zero_le _, Nat.zero_le _⟩ (by exact ⟨q, trivial, rfl⟩) (by rw [hx, show (s - c 2 1).toNat = (c 2 0 - c 2 1).toNat by omega])
      · refine r_aload_n dX6_hashesRow_42 rfl (by rfl) ?_
        refine r_iload_n dX6_hashesRow_43 rfl (by rfl) ?_
        refine r_iload_n dX6_hashesRow_44 rfl (by rfl) ?_
        refine r_callG2 (ct_X6_readsR _ (by first | exact hR | exact Rel_cg (sc_111 _ _) hR | exact hR.mj | exact MJ_cg (sc_111 _ _) hR.mj | omega | (rw [sc_111]; omega) | (unfold inR; omega)) _ _ (by first | exact hR | exact Rel_cg (sc_111 _ _) hR | exact hR.mj | exact MJ_cg (sc_111 _ _) hR.mj | omega | (rw [sc_111]; omega) | (unfold inR; omega)) (by first | exact hR | exact Rel_cg (sc_111 _ _) hR | exact hR.mj | exact MJ_cg (sc_111 _ _) hR.mj | omega | (rw [sc_111]; omega) | (unfold inR; omega)) (by first | exact hR | exact Rel_cg (sc_111 _ _) hR | exact hR.mj | exact MJ_cg (sc_111 _ _) hR.mj | omega | (rw [sc_111]; omega) | (unfold inR; omega)) (by first | exact hR | exact Rel_cg (sc_111 _ _) hR | exact hR.mj | exact MJ_cg (sc_111 _ _) hR.mj | omega | (rw [sc_111]; omega) | (unfold inR; omega))) fX6_reads qX6_114 dX6_hashesRow_45 KD_110 (by decide) ⟨Nat.zero_le _, Nat.zero_le _⟩ (Nat.le_of_ble_eq_true rfl) (fun μ2 hμ2 => ?_)
        obtain ⟨qμ2, pμ2, rfl⟩ := hμ2
        rw [sc_sc]
        refine r_iconst dX6_hashesRow_48 ?_
        refine r_istore_n dX6_hashesRow_49 rfl (Nat.le_of_ble_eq_true rfl) (L' := [_, _, _, _]) (by rfl) ?_
        refine cut_50 9 _ s 0 _ x1 pμ2 s0 (by omega) (by omega) (by have := hR.ci.wd s.toNat; omega) rfl (fun g => ?_) (by have := hR.ci.wd s.toNat; omega)
        have e := ih g (s + 1) (digR c r.toNat x (s + 1 - c 2 1).toNat) (by omega) (by omega) rfl (by omega)
        rw [show (s + 1 - c 2 1).toNat = (s - c 2 1).toNat + 1 by omega, show digR c r.toNat x ((s - c 2 1).toNat + 1) = 31 * foldM (digR c r.toNat x (s - c 2 1).toNat) (fun q => vR c r.toNat ((c 2 1).toNat + (s - c 2 1).toNat) (c 8 (8 * ((c 2 1).toNat + (s - c 2 1).toNat) + q)).toNat) (c 7 ((c 2 1).toNat + (s - c 2 1).toNat)).toNat + wI (lsC c (lsV c r.toNat ((c 2 1).toNat + (s - c 2 1).toNat)) r.toNat (c 7 (c 11 r.toNat).toNat).toNat) from rfl, ← hx, show (c 2 1).toNat + (s - c 2 1).toNat = s.toNat by omega] at e
        exact e
  have cut_2 : ∀ (N : Nat) (q : Int × (Nat → Int)) (k x1 : Int), (0 ≤ k) → (k ≤ 6) → (x1 = foldM x (fun w => roP c r.toNat (w : Int)) k.toNat) → 6 - k < (N : Int) → WP l G "ShapedRowsModel" mX6_hashesRow (6, 0, 0) (KG none (fun σ' => ∃ q, True ∧ σ' = scM σ q) (hsT τ (digR c r.toNat x (c 2 0 - c 2 1).toNat)) π) noX 117 2 [some (.ref 110), some (.int (iI r)), some (.int (iI k)), none] [] 117 KD (scM σ q) (hsT τ x1) (RHO π) 0 0 := by
    intro N
    induction N with
    | zero => intro q k x1 k0 k1 hx hm; exact absurd hm (by omega)
    | succ N ih =>
      intro q k x1 k0 k1 hx hm
      refine r_iload_n dX6_hashesRow_2 rfl (by rfl) ?_
      refine r_bipush dX6_hashesRow_3 (by decide) ?_
      refine r_icmp_ge (tgt := 25) dX6_hashesRow_5 (by decide) (by unfold inR; omega) (by unfold inR; omega) (fun c_3 => ?_) (fun c_3 => ?_)
      · refine r_aload_n dX6_hashesRow_25 rfl (by rfl) ?_
        refine r_get_r kX6_7 dX6_hashesRow_26 KD_110 (RHO_110_1 _) ?_
        refine r_iconst dX6_hashesRow_29 ?_
        refine r_iaload (k := 1) dX6_hashesRow_30 KD_111 (by omega) (by omega) (by decide) ?_
        rw [sc_111, hn.2.1]
        refine r_istore_n dX6_hashesRow_31 rfl (Nat.le_of_ble_eq_true rfl) (L' := [_, _, _, _]) (by rfl) ?_
        first | (exact cut_32 40 _ _ _ (by omega) (by omega) (by rw [show (c 2 1 - c 2 1).toNat = 0 by omega]; unfold digR; rw [hx, show k.toNat = 6 by omega]) (by omega)) | (rw [hy, show k.toNat = (c 7 s.toNat).toNat by omega]; exact kont _)
      · refine r_aload_n dX6_hashesRow_8 rfl (by rfl) ?_
        refine r_aload_n dX6_hashesRow_9 rfl (by rfl) ?_
        refine r_iload_n dX6_hashesRow_10 rfl (by rfl) ?_
        refine r_iload_n dX6_hashesRow_11 rfl (by rfl) ?_
        refine r_callG2 (ct_X6_tellsRowR _ (by first | exact hR | exact Rel_cg (sc_111 _ _) hR | exact hR.mj | exact MJ_cg (sc_111 _ _) hR.mj | omega | (rw [sc_111]; omega) | (unfold inR; omega)) _ (by first | exact hR | exact Rel_cg (sc_111 _ _) hR | exact hR.mj | exact MJ_cg (sc_111 _ _) hR.mj | omega | (rw [sc_111]; omega) | (unfold inR; omega)) (by first | exact hR | exact Rel_cg (sc_111 _ _) hR | exact hR.mj | exact MJ_cg (sc_111 _ _) hR.mj | omega | (rw [sc_111]; omega) | (unfold inR; omega)) _ (by first | exact hR | exact Rel_cg (sc_111 _ _) hR | exact hR.mj | exact MJ_cg (sc_111 _ _) hR.mj | omega | (rw [sc_111]; omega) | (unfold inR; omega)) (by first | exact hR | exact Rel_cg (sc_111 _ _) hR | exact hR.mj | exact MJ_cg (sc_111 _ _) hR.mj | omega | (rw [sc_111]; omega) | (unfold inR; omega))) fX6_tellsRow qX6_213 dX6_hashesRow_12 KD_110 (by decide) ⟨Nat.zero_le _, Nat.zero_le _⟩ (Nat.le_of_ble_eq_true rfl) (fun μ1 hμ1 => ?_)
        obtain ⟨qμ1, pμ1, rfl⟩ := hμ1
        rw [sc_sc]
        refine r_i2lw dX6_hashesRow_15 ?_
        refine r_callV1 (ct_X6_hashes _) fX6_hashes qX6_234 dX6_hashesRow_16 KD_110 (by decide) ⟨Nat.zero_le _, Nat.zero_le _⟩ (Nat.le_of_ble_eq_true rfl) ?_
        rw [hs_n]
        refine r_iinc dX6_hashesRow_19 (by rfl) (Nat.le_of_ble_eq_true rfl) (L' := [_, _, _, _]) (by rfl) ?_
        refine r_goto (tgt := 2) dX6_hashesRow_22 (by decide) ?_
        exact ih _ (k + 1) _ (by omega) (by omega) (by
          rw [show (k + 1).toNat = k.toNat + 1 by omega]
          unfold foldM
          rw [← hx, show ((k.toNat : Nat) : Int) = k by omega]) (by omega)
  refine r_iconst dX6_hashesRow_0 ?_
  refine r_istore_n dX6_hashesRow_1 rfl (Nat.le_of_ble_eq_true rfl) (L' := [_, _, _, _]) (by rfl) ?_
  refine WP.mem (sc_self σ) ?_
  exact cut_2 9 _ 0 _ (by omega) (by omega) rfl (by omega)
