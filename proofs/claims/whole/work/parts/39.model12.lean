/-! the model: values go from shape to shape -/
def gvM (σ : ST) (s : Int) : ST := if gM σ s 17 = 1 then up2 (up2 σ 114 (σ 110 7).toNat (gM σ s 18)) 110 7 (σ 110 7 + 1) else if gM σ s 17 = 2 then up2 (up2 σ 114 (σ 110 7).toNat (σ 114 (gM σ s 18).toNat)) 110 7 (σ 110 7 + 1) else if gM σ s 17 = 3 then up2 (up2 σ 114 (σ 110 7).toNat (mn9 (σ 114 (gM σ s 18).toNat + σ 114 (gM σ s 19).toNat))) 110 7 (σ 110 7 + 1) else if gM σ s 17 = 4 then up2 (cpR σ 114 (gM σ s 18).toNat (σ 110 7 - 1 - gM σ s 18).toNat (fun j => σ 114 ((gM σ s 18).toNat + j + 1))) 110 7 (σ 110 7 - 1) else σ
/-- what a change asks of the values at hand -/
def okV (σ : ST) (s : Int) : Prop := (0 ≤ σ 110 7 ∧ σ 110 7 ≤ 10) ∧ ((1 ≤ gM σ s 17 ∧ gM σ s 17 ≤ 3) → σ 110 7 < 10) ∧ ((gM σ s 17 = 2 ∨ gM σ s 17 = 3) → gM σ s 18 < 10) ∧ (gM σ s 17 = 3 → gM σ s 19 < 10 ∧ (0 ≤ σ 114 (gM σ s 18).toNat ∧ σ 114 (gM σ s 18).toNat ≤ 99999) ∧ (0 ≤ σ 114 (gM σ s 19).toNat ∧ σ 114 (gM σ s 19).toNat ≤ 99999)) ∧ (gM σ s 17 = 4 → gM σ s 18 < σ 110 7)

set_option maxRecDepth 100000 in
set_option maxHeartbeats 4000000 in
theorem ct_X6_goesOver {l : Launch} {G : GG} {π : Nat → Option Nat} {σ τ : ST} (hJ : MJ σ) (s : Int) (s0 : 0 ≤ s) (s1 : s < σ 111 0) (hV : okV σ s) : Ct l G mX6_goesOver (1, 0, 0) [.ref 110, .int (iI s)] 117 KD σ τ (RHO π) (KQ none 117 KD (gvM σ s) τ (RHO π)) := by
  have hz := hJ.sz
  have hmk := hJ.mk
  have hro := hJ.ro
  have hch := hJ.ch s s0 s1
  obtain ⟨v1, v2, v3, v4, v5⟩ := hV
  refine ct_intro (own := "ShapedRowsModel") rfl (by decide +kernel) (Nat.le_of_ble_eq_true rfl) (L := _) rfl ?_
  have cut_164 : ∀ (N : Nat) (k : Int), (gM σ s 17 = 4) → (gM σ s 18 ≤ k) → (k ≤ σ 110 7 - 1) → σ 110 7 - 1 - k < (N : Int) → WP l G "ShapedRowsModel" mX6_goesOver (1, 0, 0) (KQ none 117 KD (gvM σ s) τ (RHO π)) noX 117 164 [some (.ref 110), some (.int (iI s)), some (.int (iI (gM σ s 18))), some (.int (iI (gM σ s 19))), some (.int (iI k))] [] 117 KD (cpR σ 114 (gM σ s 18).toNat (k - gM σ s 18).toNat (fun j => σ 114 ((gM σ s 18).toNat + j + 1))) τ (RHO π) 0 0 := by
    intro N
    induction N with
    | zero => intro k h4 k0 k1 hm; exact absurd hm (by omega)
    | succ N ih =>
      intro k h4 k0 k1 hm
      have e3 : cpR σ 114 (gM σ s 18).toNat (k - gM σ s 18).toNat (fun j => σ 114 ((gM σ s 18).toNat + j + 1)) 110 = σ 110 := cpR_off _ _ _ _ (by decide)
      have v6 := v5 h4
      refine r_iload dX6_goesOver_164 (by rfl) ?_
      refine r_aload_n dX6_goesOver_166 rfl (by rfl) ?_
      refine r_get_i kX6_98 dX6_goesOver_167 KD_110 ?_
      rw [e3]
      refine r_iconst dX6_goesOver_170 ?_
      refine r_isub dX6_goesOver_171 ?_
      refine r_icmp_ge (tgt := 197) dX6_goesOver_172 (by decide) (by unfold inR; omega) (by unfold inR; omega) (fun c_1 => ?_) (fun c_1 => ?_)
      · refine r_aload_n dX6_goesOver_197 rfl (by rfl) ?_
        refine r_dup dX6_goesOver_198 rfl ?_
        refine r_get_i kX6_98 dX6_goesOver_199 KD_110 ?_
        rw [e3]
        refine r_iconst dX6_goesOver_202 ?_
        refine r_isub dX6_goesOver_203 ?_
        refine r_put_i kX6_98 dX6_goesOver_204 KD_110 ?_
        refine r_goto (tgt := 210) dX6_goesOver_207 (by decide) ?_
        exact r_ret_v dX6_goesOver_210 rfl ⟨Nat.zero_le _, Nat.zero_le _⟩ ⟨rfl, rfl, (by unfold gvM; first | (rw [if_pos (show gM σ s 17 = 1 by omega)]; done) | (rw [if_neg (show ¬ gM σ s 17 = 1 by omega), if_pos (show gM σ s 17 = 2 by omega)]; done) | (rw [if_neg (show ¬ gM σ s 17 = 1 by omega), if_neg (show ¬ gM σ s 17 = 2 by omega), if_pos (show gM σ s 17 = 3 by omega)]; unfold mn9; first | (rw [if_pos (by omega)]; done) | (rw [if_neg (by omega)]; done)) | (rw [if_neg (show ¬ gM σ s 17 = 1 by omega), if_neg (show ¬ gM σ s 17 = 2 by omega), if_neg (show ¬ gM σ s 17 = 3 by omega), if_pos (show gM σ s 17 = 4 by omega)]; rw [show (k - gM σ s 18).toNat = (σ 110 7 - 1 - gM σ s 18).toNat by omega]; done) | (rw [if_neg (show ¬ gM σ s 17 = 1 by omega), if_neg (show ¬ gM σ s 17 = 2 by omega), if_neg (show ¬ gM σ s 17 = 3 by omega), if_neg (show ¬ gM σ s 17 = 4 by omega)]; done)), rfl, rfl⟩
      · refine r_aload_n dX6_goesOver_175 rfl (by rfl) ?_
        refine r_get_r kX6_19 dX6_goesOver_176 KD_110 (RHO_110_6 _) ?_
        refine r_iload dX6_goesOver_179 (by rfl) ?_
        refine r_aload_n dX6_goesOver_181 rfl (by rfl) ?_
        refine r_get_r kX6_19 dX6_goesOver_182 KD_110 (RHO_110_6 _) ?_
        refine r_iload dX6_goesOver_185 (by rfl) ?_
        refine r_iconst dX6_goesOver_187 ?_
        refine r_iadd dX6_goesOver_188 ?_
        refine r_iald dX6_goesOver_189 KD_114 (by omega) (by omega) (by first | decide | omega) ?_
        refine r_iast dX6_goesOver_190 KD_114 (by omega) (by omega) (by first | decide | omega) ?_
        refine r_iinc dX6_goesOver_191 (by rfl) (Nat.le_of_ble_eq_true rfl) (L' := [_, _, _, _, _]) (by rfl) ?_
        refine r_goto (tgt := 164) dX6_goesOver_194 (by decide) ?_
        refine WP.mem (σ' := cpR σ 114 (gM σ s 18).toNat (k + 1 - gM σ s 18).toNat (fun j => σ 114 ((gM σ s 18).toNat + j + 1))) ?_ (ih (k + 1) h4 (by omega) (by omega) (by omega))
        rw [show (k + 1 - gM σ s 18).toNat = (k - gM σ s 18).toNat + 1 by omega, cpR_out _ _ _ _ (by omega), show (k + 1).toNat = (gM σ s 18).toNat + (k - gM σ s 18).toNat + 1 by omega, show k.toNat = (gM σ s 18).toNat + (k - gM σ s 18).toNat by omega]
        exact cpR_up σ 114 _ _ (fun j => σ 114 ((gM σ s 18).toNat + j + 1))
  refine r_aload_n dX6_goesOver_0 rfl (by rfl) ?_
  refine r_iload_n dX6_goesOver_1 rfl (by rfl) ?_
  refine r_bipush dX6_goesOver_2 (by decide) ?_
  refine r_callV2 (ct_X6_get _ _ (by first | omega | (unfold inR; omega)) (by first | omega | (unfold inR; omega))) fX6_get qX6_36 dX6_goesOver_4 KD_110 (by decide) ⟨Nat.zero_le _, Nat.zero_le _⟩ (Nat.le_of_ble_eq_true rfl) ?_
  refine r_istore_n dX6_goesOver_7 rfl (Nat.le_of_ble_eq_true rfl) (L' := [_, _, _, _, _]) (by rfl) ?_
  refine r_aload_n dX6_goesOver_8 rfl (by rfl) ?_
  refine r_iload_n dX6_goesOver_9 rfl (by rfl) ?_
  refine r_bipush dX6_goesOver_10 (by decide) ?_
  refine r_callV2 (ct_X6_get _ _ (by first | omega | (unfold inR; omega)) (by first | omega | (unfold inR; omega))) fX6_get qX6_36 dX6_goesOver_12 KD_110 (by decide) ⟨Nat.zero_le _, Nat.zero_le _⟩ (Nat.le_of_ble_eq_true rfl) ?_
  refine r_istore_n dX6_goesOver_15 rfl (Nat.le_of_ble_eq_true rfl) (L' := [_, _, _, _, _]) (by rfl) ?_
  refine r_aload_n dX6_goesOver_16 rfl (by rfl) ?_
  refine r_iload_n dX6_goesOver_17 rfl (by rfl) ?_
  refine r_bipush dX6_goesOver_18 (by decide) ?_
  refine r_callV2 (ct_X6_get _ _ (by first | omega | (unfold inR; omega)) (by first | omega | (unfold inR; omega))) fX6_get qX6_36 dX6_goesOver_20 KD_110 (by decide) ⟨Nat.zero_le _, Nat.zero_le _⟩ (Nat.le_of_ble_eq_true rfl) ?_
  rcases (show (gM σ s 17) = 1 ∨ (gM σ s 17) = 2 ∨ (gM σ s 17) = 3 ∨ (gM σ s 17) = 4 ∨ ((gM σ s 17) < 1 ∨ 4 < (gM σ s 17)) by omega) with t_2 | t_2 | t_2 | t_2 | t_2
  · refine r_tsw (tgt := 52) (a := (gM σ s 17)) dX6_goesOver_23 (by unfold inR; omega) (by omega) (by omega) (by rw [t_2]; rfl) (by decide) ?_
    refine r_aload_n dX6_goesOver_52 rfl (by rfl) ?_
    refine r_get_r kX6_19 dX6_goesOver_53 KD_110 (RHO_110_6 _) ?_
    refine r_aload_n dX6_goesOver_56 rfl (by rfl) ?_
    refine r_get_i kX6_98 dX6_goesOver_57 KD_110 ?_
    refine r_iload_n dX6_goesOver_60 rfl (by rfl) ?_
    refine r_iast dX6_goesOver_61 KD_114 (by omega) (by omega) (by first | decide | omega) ?_
    refine r_aload_n dX6_goesOver_62 rfl (by rfl) ?_
    refine r_dup dX6_goesOver_63 rfl ?_
    refine r_get_i kX6_98 dX6_goesOver_64 KD_110 ?_
    rw [up2_ne _ _ _ _ (by decide)]
    refine r_iconst dX6_goesOver_67 ?_
    refine r_iadd dX6_goesOver_68 ?_
    refine r_put_i kX6_98 dX6_goesOver_69 KD_110 ?_
    refine r_goto (tgt := 210) dX6_goesOver_72 (by decide) ?_
    exact r_ret_v dX6_goesOver_210 rfl ⟨Nat.zero_le _, Nat.zero_le _⟩ ⟨rfl, rfl, (by unfold gvM; first | (rw [if_pos (show gM σ s 17 = 1 by omega)]; done) | (rw [if_neg (show ¬ gM σ s 17 = 1 by omega), if_pos (show gM σ s 17 = 2 by omega)]; done) | (rw [if_neg (show ¬ gM σ s 17 = 1 by omega), if_neg (show ¬ gM σ s 17 = 2 by omega), if_pos (show gM σ s 17 = 3 by omega)]; unfold mn9; first | (rw [if_pos (by omega)]; done) | (rw [if_neg (by omega)]; done)) | (rw [if_neg (show ¬ gM σ s 17 = 1 by omega), if_neg (show ¬ gM σ s 17 = 2 by omega), if_neg (show ¬ gM σ s 17 = 3 by omega), if_pos (show gM σ s 17 = 4 by omega)]; rw [show (k - gM σ s 18).toNat = (σ 110 7 - 1 - gM σ s 18).toNat by omega]; done) | (rw [if_neg (show ¬ gM σ s 17 = 1 by omega), if_neg (show ¬ gM σ s 17 = 2 by omega), if_neg (show ¬ gM σ s 17 = 3 by omega), if_neg (show ¬ gM σ s 17 = 4 by omega)]; done)), rfl, rfl⟩
  · refine r_tsw (tgt := 75) (a := (gM σ s 17)) dX6_goesOver_23 (by unfold inR; omega) (by omega) (by omega) (by rw [t_2]; rfl) (by decide) ?_
    refine r_aload_n dX6_goesOver_75 rfl (by rfl) ?_
    refine r_get_r kX6_19 dX6_goesOver_76 KD_110 (RHO_110_6 _) ?_
    refine r_aload_n dX6_goesOver_79 rfl (by rfl) ?_
    refine r_get_i kX6_98 dX6_goesOver_80 KD_110 ?_
    refine r_aload_n dX6_goesOver_83 rfl (by rfl) ?_
    refine r_get_r kX6_19 dX6_goesOver_84 KD_110 (RHO_110_6 _) ?_
    refine r_iload_n dX6_goesOver_87 rfl (by rfl) ?_
    refine r_iald dX6_goesOver_88 KD_114 (by omega) (by omega) (by first | decide | omega) ?_
    refine r_iast dX6_goesOver_89 KD_114 (by omega) (by omega) (by first | decide | omega) ?_
    refine r_aload_n dX6_goesOver_90 rfl (by rfl) ?_
    refine r_dup dX6_goesOver_91 rfl ?_
    refine r_get_i kX6_98 dX6_goesOver_92 KD_110 ?_
    rw [up2_ne _ _ _ _ (by decide)]
    refine r_iconst dX6_goesOver_95 ?_
    refine r_iadd dX6_goesOver_96 ?_
    refine r_put_i kX6_98 dX6_goesOver_97 KD_110 ?_
    refine r_goto (tgt := 210) dX6_goesOver_100 (by decide) ?_
    exact r_ret_v dX6_goesOver_210 rfl ⟨Nat.zero_le _, Nat.zero_le _⟩ ⟨rfl, rfl, (by unfold gvM; first | (rw [if_pos (show gM σ s 17 = 1 by omega)]; done) | (rw [if_neg (show ¬ gM σ s 17 = 1 by omega), if_pos (show gM σ s 17 = 2 by omega)]; done) | (rw [if_neg (show ¬ gM σ s 17 = 1 by omega), if_neg (show ¬ gM σ s 17 = 2 by omega), if_pos (show gM σ s 17 = 3 by omega)]; unfold mn9; first | (rw [if_pos (by omega)]; done) | (rw [if_neg (by omega)]; done)) | (rw [if_neg (show ¬ gM σ s 17 = 1 by omega), if_neg (show ¬ gM σ s 17 = 2 by omega), if_neg (show ¬ gM σ s 17 = 3 by omega), if_pos (show gM σ s 17 = 4 by omega)]; rw [show (k - gM σ s 18).toNat = (σ 110 7 - 1 - gM σ s 18).toNat by omega]; done) | (rw [if_neg (show ¬ gM σ s 17 = 1 by omega), if_neg (show ¬ gM σ s 17 = 2 by omega), if_neg (show ¬ gM σ s 17 = 3 by omega), if_neg (show ¬ gM σ s 17 = 4 by omega)]; done)), rfl, rfl⟩
  · refine r_tsw (tgt := 103) (a := (gM σ s 17)) dX6_goesOver_23 (by unfold inR; omega) (by omega) (by omega) (by rw [t_2]; rfl) (by decide) ?_
    refine r_aload_n dX6_goesOver_103 rfl (by rfl) ?_
    refine r_get_r kX6_19 dX6_goesOver_104 KD_110 (RHO_110_6 _) ?_
    refine r_aload_n dX6_goesOver_107 rfl (by rfl) ?_
    refine r_get_i kX6_98 dX6_goesOver_108 KD_110 ?_
    refine r_aload_n dX6_goesOver_111 rfl (by rfl) ?_
    refine r_get_r kX6_19 dX6_goesOver_112 KD_110 (RHO_110_6 _) ?_
    refine r_iload_n dX6_goesOver_115 rfl (by rfl) ?_
    refine r_iald dX6_goesOver_116 KD_114 (by omega) (by omega) (by first | decide | omega) ?_
    refine r_aload_n dX6_goesOver_117 rfl (by rfl) ?_
    refine r_get_r kX6_19 dX6_goesOver_118 KD_110 (RHO_110_6 _) ?_
    refine r_iload_n dX6_goesOver_121 rfl (by rfl) ?_
    refine r_iald dX6_goesOver_122 KD_114 (by omega) (by omega) (by first | decide | omega) ?_
    refine r_iadd dX6_goesOver_123 ?_
    refine r_ldc (a := 99999) qc_X6_101 (by decide) dX6_goesOver_124 ?_
    refine r_icmp_le (tgt := 134) dX6_goesOver_126 (by decide) (by unfold inR; omega) (by unfold inR; omega) (fun c_3 => ?_) (fun c_3 => ?_)
    · refine r_aload_n dX6_goesOver_134 rfl (by rfl) ?_
      refine r_get_r kX6_19 dX6_goesOver_135 KD_110 (RHO_110_6 _) ?_
      refine r_iload_n dX6_goesOver_138 rfl (by rfl) ?_
      refine r_iald dX6_goesOver_139 KD_114 (by omega) (by omega) (by first | decide | omega) ?_
      refine r_aload_n dX6_goesOver_140 rfl (by rfl) ?_
      refine r_get_r kX6_19 dX6_goesOver_141 KD_110 (RHO_110_6 _) ?_
      refine r_iload_n dX6_goesOver_144 rfl (by rfl) ?_
      refine r_iald dX6_goesOver_145 KD_114 (by omega) (by omega) (by first | decide | omega) ?_
      refine r_iadd dX6_goesOver_146 ?_
      refine r_iast dX6_goesOver_147 KD_114 (by omega) (by omega) (by first | decide | omega) ?_
      refine r_aload_n dX6_goesOver_148 rfl (by rfl) ?_
      refine r_dup dX6_goesOver_149 rfl ?_
      refine r_get_i kX6_98 dX6_goesOver_150 KD_110 ?_
      rw [up2_ne _ _ _ _ (by decide)]
      refine r_iconst dX6_goesOver_153 ?_
      refine r_iadd dX6_goesOver_154 ?_
      refine r_put_i kX6_98 dX6_goesOver_155 KD_110 ?_
      refine r_goto (tgt := 210) dX6_goesOver_158 (by decide) ?_
      exact r_ret_v dX6_goesOver_210 rfl ⟨Nat.zero_le _, Nat.zero_le _⟩ ⟨rfl, rfl, (by unfold gvM; first | (rw [if_pos (show gM σ s 17 = 1 by omega)]; done) | (rw [if_neg (show ¬ gM σ s 17 = 1 by omega), if_pos (show gM σ s 17 = 2 by omega)]; done) | (rw [if_neg (show ¬ gM σ s 17 = 1 by omega), if_neg (show ¬ gM σ s 17 = 2 by omega), if_pos (show gM σ s 17 = 3 by omega)]; unfold mn9; first | (rw [if_pos (by omega)]; done) | (rw [if_neg (by omega)]; done)) | (rw [if_neg (show ¬ gM σ s 17 = 1 by omega), if_neg (show ¬ gM σ s 17 = 2 by omega), if_neg (show ¬ gM σ s 17 = 3 by omega), if_pos (show gM σ s 17 = 4 by omega)]; rw [show (k - gM σ s 18).toNat = (σ 110 7 - 1 - gM σ s 18).toNat by omega]; done) | (rw [if_neg (show ¬ gM σ s 17 = 1 by omega), if_neg (show ¬ gM σ s 17 = 2 by omega), if_neg (show ¬ gM σ s 17 = 3 by omega), if_neg (show ¬ gM σ s 17 = 4 by omega)]; done)), rfl, rfl⟩
    · refine r_ldc (a := 99999) qc_X6_101 (by decide) dX6_goesOver_129 ?_
      refine r_goto (tgt := 147) dX6_goesOver_131 (by decide) ?_
      refine r_iast dX6_goesOver_147 KD_114 (by omega) (by omega) (by first | decide | omega) ?_
      refine r_aload_n dX6_goesOver_148 rfl (by rfl) ?_
      refine r_dup dX6_goesOver_149 rfl ?_
      refine r_get_i kX6_98 dX6_goesOver_150 KD_110 ?_
      rw [up2_ne _ _ _ _ (by decide)]
      refine r_iconst dX6_goesOver_153 ?_
      refine r_iadd dX6_goesOver_154 ?_
      refine r_put_i kX6_98 dX6_goesOver_155 KD_110 ?_
      refine r_goto (tgt := 210) dX6_goesOver_158 (by decide) ?_
      exact r_ret_v dX6_goesOver_210 rfl ⟨Nat.zero_le _, Nat.zero_le _⟩ ⟨rfl, rfl, (by unfold gvM; first | (rw [if_pos (show gM σ s 17 = 1 by omega)]; done) | (rw [if_neg (show ¬ gM σ s 17 = 1 by omega), if_pos (show gM σ s 17 = 2 by omega)]; done) | (rw [if_neg (show ¬ gM σ s 17 = 1 by omega), if_neg (show ¬ gM σ s 17 = 2 by omega), if_pos (show gM σ s 17 = 3 by omega)]; unfold mn9; first | (rw [if_pos (by omega)]; done) | (rw [if_neg (by omega)]; done)) | (rw [if_neg (show ¬ gM σ s 17 = 1 by omega), if_neg (show ¬ gM σ s 17 = 2 by omega), if_neg (show ¬ gM σ s 17 = 3 by omega), if_pos (show gM σ s 17 = 4 by omega)]; rw [show (k - gM σ s 18).toNat = (σ 110 7 - 1 - gM σ s 18).toNat by omega]; done) | (rw [if_neg (show ¬ gM σ s 17 = 1 by omega), if_neg (show ¬ gM σ s 17 = 2 by omega), if_neg (show ¬ gM σ s 17 = 3 by omega), if_neg (show ¬ gM σ s 17 = 4 by omega)]; done)), rfl, rfl⟩
  · refine r_tsw (tgt := 161) (a := (gM σ s 17)) dX6_goesOver_23 (by unfold inR; omega) (by omega) (by omega) (by rw [t_2]; rfl) (by decide) ?_
    refine r_iload_n dX6_goesOver_161 rfl (by rfl) ?_
    refine r_istore dX6_goesOver_162 (Nat.le_of_ble_eq_true rfl) (L' := [_, _, _, _, _]) (by rfl) ?_
    refine WP.mem (σ' := cpR σ 114 (gM σ s 18).toNat (gM σ s 18 - gM σ s 18).toNat (fun j => σ 114 ((gM σ s 18).toNat + j + 1))) ?_ (cut_164 11 _ (by omega) (by omega) (by omega) (by omega))
    rw [show (gM σ s 18 - gM σ s 18).toNat = 0 by omega, cpR_0]
  · refine r_tsd (tgt := 210) (a := (gM σ s 17)) dX6_goesOver_23 (by unfold inR; omega) t_2 (by decide) ?_
    exact r_ret_v dX6_goesOver_210 rfl ⟨Nat.zero_le _, Nat.zero_le _⟩ ⟨rfl, rfl, (by unfold gvM; first | (rw [if_pos (show gM σ s 17 = 1 by omega)]; done) | (rw [if_neg (show ¬ gM σ s 17 = 1 by omega), if_pos (show gM σ s 17 = 2 by omega)]; done) | (rw [if_neg (show ¬ gM σ s 17 = 1 by omega), if_neg (show ¬ gM σ s 17 = 2 by omega), if_pos (show gM σ s 17 = 3 by omega)]; unfold mn9; first | (rw [if_pos (by omega)]; done) | (rw [if_neg (by omega)]; done)) | (rw [if_neg (show ¬ gM σ s 17 = 1 by omega), if_neg (show ¬ gM σ s 17 = 2 by omega), if_neg (show ¬ gM σ s 17 = 3 by omega), if_pos (show gM σ s 17 = 4 by omega)]; rw [show (k - gM σ s 18).toNat = (σ 110 7 - 1 - gM σ s 18).toNat by omega]; done) | (rw [if_neg (show ¬ gM σ s 17 = 1 by omega), if_neg (show ¬ gM σ s 17 = 2 by omega), if_neg (show ¬ gM σ s 17 = 3 by omega), if_neg (show ¬ gM σ s 17 = 4 by omega)]; done)), rfl, rfl⟩
