/-! the model: values go back -/
def bkR (σ : ST) (m : Int) (k : Int) : ST := cpR σ 114 (k + 1).toNat (m - k).toNat (fun j => σ 114 (k.toNat + j))
theorem bkR_s {σ : ST} {m k : Int} (h0 : 0 < k) (h1 : k ≤ m) : up2 (bkR σ m k) 114 k.toNat (σ 114 (k - 1).toNat) = bkR σ m (k - 1) := by
  funext a b
  show (if a = 114 ∧ b = k.toNat then σ 114 (k - 1).toNat else if a = 114 ∧ (k + 1).toNat ≤ b ∧ b < (k + 1).toNat + (m - k).toNat then σ 114 (k.toNat + (b - (k + 1).toNat)) else σ a b) = (if a = 114 ∧ (k - 1 + 1).toNat ≤ b ∧ b < (k - 1 + 1).toNat + (m - (k - 1)).toNat then σ 114 ((k - 1).toNat + (b - (k - 1 + 1).toNat)) else σ a b)
  by_cases q1 : a = 114 ∧ b = k.toNat
  · rw [if_pos q1, if_pos (by omega), show (k - 1).toNat + (b - (k - 1 + 1).toNat) = (k - 1).toNat by omega]
  · rw [if_neg q1]
    by_cases q2 : a = 114 ∧ (k + 1).toNat ≤ b ∧ b < (k + 1).toNat + (m - k).toNat
    · rw [if_pos q2, if_pos (by omega), show (k - 1).toNat + (b - (k - 1 + 1).toNat) = k.toNat + (b - (k + 1).toNat) by omega]
    · rw [if_neg q2, if_neg (by omega)]
def gbM (σ : ST) (s : Int) : ST := if gM σ s 17 < 4 then up2 σ 110 7 (σ 110 7 - 1) else if gM σ s 17 = 4 then up2 (up2 (bkR σ (σ 110 7) (gM σ s 18)) 114 (gM σ s 18).toNat (gM σ s 19)) 110 7 (σ 110 7 + 1) else σ

set_option maxRecDepth 100000 in
set_option maxHeartbeats 4000000 in
theorem ct_X6_goesBack {l : Launch} {G : GG} {π : Nat → Option Nat} {σ τ : ST} (hJ : MJ σ) (s : Int) (s0 : 0 ≤ s) (s1 : s < σ 111 0) (v1 : 0 ≤ σ 110 7) (v2 : gM σ s 17 = 4 → σ 110 7 < 10 ∧ gM σ s 18 ≤ σ 110 7) : Ct l G mX6_goesBack (1, 0, 0) [.ref 110, .int (iI s)] 117 KD σ τ (RHO π) (KQ none 117 KD (gbM σ s) τ (RHO π)) := by
  have hz := hJ.sz
  have hmk := hJ.mk
  have hro := hJ.ro
  have hch := hJ.ch s s0 s1
  refine ct_intro (own := "ShapedRowsModel") rfl (by decide +kernel) (Nat.le_of_ble_eq_true rfl) (L := _) rfl ?_
  have cut_36 : ∀ (N : Nat) (k : Int), (gM σ s 17 = 4) → (gM σ s 18 ≤ k) → (k ≤ σ 110 7) → k < (N : Int) → WP l G "ShapedRowsModel" mX6_goesBack (1, 0, 0) (KQ none 117 KD (gbM σ s) τ (RHO π)) noX 117 36 [some (.ref 110), some (.int (iI s)), some (.int (iI (gM σ s 17))), some (.int (iI k))] [] 117 KD (bkR σ (σ 110 7) k) τ (RHO π) 0 0 := by
    intro N
    induction N with
    | zero => intro k h4 k0 k1 hm; exact absurd hm (by omega)
    | succ N ih =>
      intro k h4 k0 k1 hm
      have e3 : bkR σ (σ 110 7) k 110 = σ 110 := cpR_off _ _ _ _ (by decide)
      have e1 : bkR σ (σ 110 7) k 111 = σ 111 := cpR_off _ _ _ _ (by decide)
      have v6 := v2 h4
      have g18 : gM (bkR σ (σ 110 7) k) s 18 = gM σ s 18 := gM_cg e1 s 18
      have g19 : gM (bkR σ (σ 110 7) k) s 19 = gM σ s 19 := gM_cg e1 s 19
      refine r_iload_n dX6_goesBack_36 rfl (by rfl) ?_
      refine r_aload_n dX6_goesBack_37 rfl (by rfl) ?_
      refine r_iload_n dX6_goesBack_38 rfl (by rfl) ?_
      refine r_bipush dX6_goesBack_39 (by decide) ?_
      refine r_callV2 (ct_X6_get _ _ (by first | omega | (unfold inR; omega)) (by first | omega | (unfold inR; omega))) fX6_get qX6_36 dX6_goesBack_41 KD_110 (by decide) ⟨Nat.zero_le _, Nat.zero_le _⟩ (Nat.le_of_ble_eq_true rfl) ?_
      rw [g18]
      refine r_icmp_le (tgt := 67) dX6_goesBack_44 (by decide) (by first | exact inR_of _ | (unfold inR; omega)) (by first | exact inR_of _ | (unfold inR; omega)) (fun c_1 => ?_) (fun c_1 => ?_)
      · refine r_aload_n dX6_goesBack_67 rfl (by rfl) ?_
        refine r_get_r kX6_19 dX6_goesBack_68 KD_110 (RHO_110_6 _) ?_
        refine r_aload_n dX6_goesBack_71 rfl (by rfl) ?_
        refine r_iload_n dX6_goesBack_72 rfl (by rfl) ?_
        refine r_bipush dX6_goesBack_73 (by decide) ?_
        refine r_callV2 (ct_X6_get _ _ (by first | omega | (unfold inR; omega)) (by first | omega | (unfold inR; omega))) fX6_get qX6_36 dX6_goesBack_75 KD_110 (by decide) ⟨Nat.zero_le _, Nat.zero_le _⟩ (Nat.le_of_ble_eq_true rfl) ?_
        rw [g18]
        refine r_aload_n dX6_goesBack_78 rfl (by rfl) ?_
        refine r_iload_n dX6_goesBack_79 rfl (by rfl) ?_
        refine r_bipush dX6_goesBack_80 (by decide) ?_
        refine r_callV2 (ct_X6_get _ _ (by first | omega | (unfold inR; omega)) (by first | omega | (unfold inR; omega))) fX6_get qX6_36 dX6_goesBack_82 KD_110 (by decide) ⟨Nat.zero_le _, Nat.zero_le _⟩ (Nat.le_of_ble_eq_true rfl) ?_
        rw [g19]
        refine r_iast dX6_goesBack_85 KD_114 (by omega) (by omega) (by first | decide | omega) ?_
        refine r_aload_n dX6_goesBack_86 rfl (by rfl) ?_
        refine r_dup dX6_goesBack_87 rfl ?_
        refine r_get_i kX6_98 dX6_goesBack_88 KD_110 ?_
        rw [up2_ne _ _ _ _ (by decide), e3]
        refine r_iconst dX6_goesBack_91 ?_
        refine r_iadd dX6_goesBack_92 ?_
        refine r_put_i kX6_98 dX6_goesBack_93 KD_110 ?_
        exact r_ret_v dX6_goesBack_96 rfl ⟨Nat.zero_le _, Nat.zero_le _⟩ ⟨rfl, rfl, (by unfold gbM; first | (rw [if_pos (by omega)]; done) | (rw [if_neg (by omega), if_pos (by omega)]; rw [show k = gM σ s 18 by omega]; done) | (rw [if_neg (by omega), if_neg (by omega)]; done)), rfl, rfl⟩
      · refine r_aload_n dX6_goesBack_47 rfl (by rfl) ?_
        refine r_get_r kX6_19 dX6_goesBack_48 KD_110 (RHO_110_6 _) ?_
        refine r_iload_n dX6_goesBack_51 rfl (by rfl) ?_
        refine r_aload_n dX6_goesBack_52 rfl (by rfl) ?_
        refine r_get_r kX6_19 dX6_goesBack_53 KD_110 (RHO_110_6 _) ?_
        refine r_iload_n dX6_goesBack_56 rfl (by rfl) ?_
        refine r_iconst dX6_goesBack_57 ?_
        refine r_isub dX6_goesBack_58 ?_
        refine r_iald dX6_goesBack_59 KD_114 (by omega) (by omega) (by first | decide | omega) ?_
        refine r_iast dX6_goesBack_60 KD_114 (by omega) (by omega) (by first | decide | omega) ?_
        refine r_iinc dX6_goesBack_61 (by rfl) (Nat.le_of_ble_eq_true rfl) (L' := [_, _, _, _]) (by rfl) ?_
        refine r_goto (tgt := 36) dX6_goesBack_64 (by decide) ?_
        refine WP.mem (σ' := bkR σ (σ 110 7) (k + -1)) ?_ (ih (k + -1) h4 (by omega) (by omega) (by omega))
        rw [show bkR σ (σ 110 7) k 114 (k - 1).toNat = σ 114 (k - 1).toNat by unfold bkR; rw [cpR_out _ _ _ _ (by omega)], show k + -1 = k - 1 by omega]
        exact bkR_s (by omega) (by omega)
  refine r_aload_n dX6_goesBack_0 rfl (by rfl) ?_
  refine r_iload_n dX6_goesBack_1 rfl (by rfl) ?_
  refine r_bipush dX6_goesBack_2 (by decide) ?_
  refine r_callV2 (ct_X6_get _ _ (by first | omega | (unfold inR; omega)) (by first | omega | (unfold inR; omega))) fX6_get qX6_36 dX6_goesBack_4 KD_110 (by decide) ⟨Nat.zero_le _, Nat.zero_le _⟩ (Nat.le_of_ble_eq_true rfl) ?_
  refine r_istore_n dX6_goesBack_7 rfl (Nat.le_of_ble_eq_true rfl) (L' := [_, _, _, _]) (by rfl) ?_
  refine r_iload_n dX6_goesBack_8 rfl (by rfl) ?_
  refine r_iconst dX6_goesBack_9 ?_
  refine r_icmp_ge (tgt := 26) dX6_goesBack_10 (by decide) (by first | exact inR_of _ | (unfold inR; omega)) (by first | exact inR_of _ | (unfold inR; omega)) (fun c_2 => ?_) (fun c_2 => ?_)
  · refine r_iload_n dX6_goesBack_26 rfl (by rfl) ?_
    refine r_iconst dX6_goesBack_27 ?_
    refine r_icmp_ne (tgt := 96) dX6_goesBack_28 (by decide) (by first | exact inR_of _ | (unfold inR; omega)) (by first | exact inR_of _ | (unfold inR; omega)) (fun c_3 => ?_) (fun c_3 => ?_)
    · exact r_ret_v dX6_goesBack_96 rfl ⟨Nat.zero_le _, Nat.zero_le _⟩ ⟨rfl, rfl, (by unfold gbM; first | (rw [if_pos (by omega)]; done) | (rw [if_neg (by omega), if_pos (by omega)]; rw [show k = gM σ s 18 by omega]; done) | (rw [if_neg (by omega), if_neg (by omega)]; done)), rfl, rfl⟩
    · refine r_aload_n dX6_goesBack_31 rfl (by rfl) ?_
      refine r_get_i kX6_98 dX6_goesBack_32 KD_110 ?_
      refine r_istore_n dX6_goesBack_35 rfl (Nat.le_of_ble_eq_true rfl) (L' := [_, _, _, _]) (by rfl) ?_
      refine WP.mem (σ' := bkR σ (σ 110 7) (σ 110 7)) ?_ (cut_36 11 _ (by omega) (by omega) (by omega) (by omega))
      unfold bkR
      rw [show (σ 110 7 - σ 110 7).toNat = 0 by omega, cpR_0]
  · refine r_aload_n dX6_goesBack_13 rfl (by rfl) ?_
    refine r_dup dX6_goesBack_14 rfl ?_
    refine r_get_i kX6_98 dX6_goesBack_15 KD_110 ?_
    refine r_iconst dX6_goesBack_18 ?_
    refine r_isub dX6_goesBack_19 ?_
    refine r_put_i kX6_98 dX6_goesBack_20 KD_110 ?_
    refine r_goto (tgt := 96) dX6_goesBack_23 (by decide) ?_
    exact r_ret_v dX6_goesBack_96 rfl ⟨Nat.zero_le _, Nat.zero_le _⟩ ⟨rfl, rfl, (by unfold gbM; first | (rw [if_pos (by omega)]; done) | (rw [if_neg (by omega), if_pos (by omega)]; rw [show k = gM σ s 18 by omega]; done) | (rw [if_neg (by omega), if_neg (by omega)]; done)), rfl, rfl⟩
