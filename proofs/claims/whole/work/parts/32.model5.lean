/-! the model: what is saved -/
def svN (μ : ST) : ST := up2 (cpR μ 112 (370 * μ 110 3).toNat 370 (fun j => μ 111 j)) 110 3 (μ 110 3 + 1)
def shN (σ : ST) (k : Nat) : ST := cpR σ 112 0 k (fun j => σ 112 (370 + j))
def svM (σ : ST) : ST := if σ 110 3 = 6 then svN (up2 (shN σ 1850) 110 3 (σ 110 3 - 1)) else svN σ
theorem shN_s (σ : ST) (k : Nat) : up2 (shN σ k) 112 k (σ 112 (370 + k)) = shN σ (k + 1) := by
  have e := cpR_up σ 112 0 k (fun j => σ 112 (370 + j))
  rw [Nat.zero_add] at e
  exact e
theorem cmM_0 (σ : ST) (c x y : Int) : cmM σ c x y 111 0 = σ 111 0 + 1 := by unfold cmM; rw [up2_at]
theorem lyM_g (σ : ST) (s w v t u : Int) (h : 0 ≤ 10 + 20 * s + w) (h2 : 0 ≤ 10 + 20 * t + u) (hn : 10 + 20 * s + w ≠ 10 + 20 * t + u) : gM (lyM σ s w v) t u = gM σ t u := by
  unfold gM lyM
  rw [up2_el _ _ _ (by omega)]
theorem cyM_c {σ : ST} (h : 1 ≤ σ 111 0) {w : Int} (w0 : 0 ≤ w) (w1 : w < 20) : gM (cyM σ 20) (σ 111 0) w = gM σ (σ 111 0 - 1) w := by
  unfold gM cyM cpR
  rw [if_pos ⟨rfl, by omega, by omega⟩]
  show σ 111 ((10 + 20 * (σ 111 0 - 1)).toNat + ((10 + 20 * σ 111 0 + w).toNat - (10 + 20 * σ 111 0).toNat)) = _
  rw [show (10 + 20 * (σ 111 0 - 1)).toNat + ((10 + 20 * σ 111 0 + w).toNat - (10 + 20 * σ 111 0).toNat) = (10 + 20 * (σ 111 0 - 1) + w).toNat by omega]
theorem cmM_c {σ : ST} (h : 1 ≤ σ 111 0) (c x y : Int) {w : Int} (w0 : 0 ≤ w) (w1 : w < 17) : gM (cmM σ c x y) (σ 111 0) w = gM σ (σ 111 0 - 1) w := by
  have e : ∀ (μ : ST) (v : Int), gM (up2 μ 111 0 v) (σ 111 0) w = gM μ (σ 111 0) w := fun μ v => by
    unfold gM; rw [up2_el _ _ _ (by omega)]
  unfold cmM
  rw [e, lyM_g _ _ _ _ _ _ (by omega) (by omega) (by omega), lyM_g _ _ _ _ _ _ (by omega) (by omega) (by omega), lyM_g _ _ _ _ _ _ (by omega) (by omega) (by omega), cyM_c h w0 (by omega)]

set_option maxRecDepth 100000 in
set_option maxHeartbeats 4000000 in
theorem ct_X6_saves {l : Launch} {G : GG} {π : Nat → Option Nat} {σ τ : ST} (h0 : 0 ≤ σ 110 3) (h1 : σ 110 3 ≤ 6) : Ct l G mX6_saves (0, 0, 0) [.ref 110] 117 KD σ τ (RHO π) (KQ none 117 KD (svM σ) τ (RHO π)) := by
  refine ct_intro (own := "ShapedRowsModel") rfl (by decide +kernel) (Nat.le_of_ble_eq_true rfl) (L := _) rfl ?_
  have cut_52 : ∀ (N : Nat) (μ : ST) (k : Int), (0 ≤ μ 110 3) → (μ 110 3 ≤ 5) → (svN μ = svM σ) → (0 ≤ k) → (k ≤ 370) → 370 - k < (N : Int) → WP l G "ShapedRowsModel" mX6_saves (0, 0, 0) (KQ none 117 KD (svM σ) τ (RHO π)) noX 117 52 [some (.ref 110), some (.int (iI k))] [] 117 KD (cpR μ 112 (370 * μ 110 3).toNat k.toNat (fun j => μ 111 j)) τ (RHO π) 0 0 := by
    intro N
    induction N with
    | zero => intro μ k m0 m1 hm9 k0 k1 hm; exact absurd hm (by omega)
    | succ N ih =>
      intro μ k m0 m1 hm9 k0 k1 hm
      have e3 : cpR μ 112 (370 * μ 110 3).toNat k.toNat (fun j => μ 111 j) 110 = μ 110 := cpR_off _ _ _ _ (by decide)
      have e1 : cpR μ 112 (370 * μ 110 3).toNat k.toNat (fun j => μ 111 j) 111 = μ 111 := cpR_off _ _ _ _ (by decide)
      refine r_iload_n dX6_saves_52 rfl (by rfl) ?_
      refine r_sipush dX6_saves_53 (by decide) ?_
      refine r_icmp_ge (tgt := 86) dX6_saves_56 (by decide) (by unfold inR; omega) (by unfold inR; omega) (fun c_1 => ?_) (fun c_1 => ?_)
      · refine r_aload_n dX6_saves_86 rfl (by rfl) ?_
        refine r_dup dX6_saves_87 rfl ?_
        refine r_get_i kX6_29 dX6_saves_88 KD_110 ?_
        refine r_iconst dX6_saves_91 ?_
        refine r_iadd dX6_saves_92 ?_
        rw [e3]
        refine r_put_i kX6_29 dX6_saves_93 KD_110 ?_
        exact r_ret_v dX6_saves_96 rfl ⟨Nat.zero_le _, Nat.zero_le _⟩ ⟨rfl, rfl, (by rw [← hm9]; unfold svN; rw [show k.toNat = 370 by omega]), rfl, rfl⟩
      · refine r_aload_n dX6_saves_59 rfl (by rfl) ?_
        refine r_get_r kX6_13 dX6_saves_60 KD_110 (RHO_110_2 _) ?_
        refine r_sipush dX6_saves_63 (by decide) ?_
        refine r_aload_n dX6_saves_66 rfl (by rfl) ?_
        refine r_get_i kX6_29 dX6_saves_67 KD_110 ?_
        rw [e3]
        refine r_imul dX6_saves_70 ?_
        refine r_iload_n dX6_saves_71 rfl (by rfl) ?_
        refine r_iadd dX6_saves_72 ?_
        refine r_aload_n dX6_saves_73 rfl (by rfl) ?_
        refine r_get_r kX6_7 dX6_saves_74 KD_110 (RHO_110_1 _) ?_
        refine r_iload_n dX6_saves_77 rfl (by rfl) ?_
        refine r_iald dX6_saves_78 KD_111 (by omega) (by omega) (by first | decide | omega) ?_
        rw [e1]
        refine r_iast dX6_saves_79 KD_112 (by omega) (by omega) (by first | decide | omega) ?_
        refine r_iinc dX6_saves_80 (by rfl) (Nat.le_of_ble_eq_true rfl) (L' := [_, _]) (by rfl) ?_
        refine r_goto (tgt := 52) dX6_saves_83 (by decide) ?_
        refine WP.mem (σ' := cpR μ 112 (370 * μ 110 3).toNat (k + 1).toNat (fun j => μ 111 j)) ?_ (ih μ (k + 1) m0 m1 hm9 (by omega) (by omega) (by omega))
        rw [show (370 * μ 110 3 + k).toNat = (370 * μ 110 3).toNat + k.toNat by omega, show (k + 1).toNat = k.toNat + 1 by omega]
        exact cpR_up μ 112 _ _ (fun j => μ 111 j)
  have cut_11 : ∀ (N : Nat) (k : Int), (σ 110 3 = 6) → (0 ≤ k) → (k ≤ 1850) → 1850 - k < (N : Int) → WP l G "ShapedRowsModel" mX6_saves (0, 0, 0) (KQ none 117 KD (svM σ) τ (RHO π)) noX 117 11 [some (.ref 110), some (.int (iI k))] [] 117 KD (shN σ k.toNat) τ (RHO π) 0 0 := by
    intro N
    induction N with
    | zero => intro k h6 k0 k1 hm; exact absurd hm (by omega)
    | succ N ih =>
      intro k h6 k0 k1 hm
      have e3 : shN σ k.toNat 110 = σ 110 := cpR_off _ _ _ _ (by decide)
      refine r_iload_n dX6_saves_11 rfl (by rfl) ?_
      refine r_sipush dX6_saves_12 (by decide) ?_
      refine r_icmp_ge (tgt := 40) dX6_saves_15 (by decide) (by unfold inR; omega) (by unfold inR; omega) (fun c_2 => ?_) (fun c_2 => ?_)
      · refine r_aload_n dX6_saves_40 rfl (by rfl) ?_
        refine r_dup dX6_saves_41 rfl ?_
        refine r_get_i kX6_29 dX6_saves_42 KD_110 ?_
        refine r_iconst dX6_saves_45 ?_
        refine r_isub dX6_saves_46 ?_
        rw [e3]
        refine r_put_i kX6_29 dX6_saves_47 KD_110 ?_
        refine r_iconst dX6_saves_50 ?_
        refine r_istore_n dX6_saves_51 rfl (Nat.le_of_ble_eq_true rfl) (L' := [_, _]) (by rfl) ?_
        first | (refine WP.mem (σ' := cpR (up2 (shN σ k.toNat) 110 3 (σ 110 3 - 1)) 112 (370 * (up2 (shN σ k.toNat) 110 3 (σ 110 3 - 1)) 110 3).toNat (0 : Int).toNat (fun j => (up2 (shN σ k.toNat) 110 3 (σ 110 3 - 1)) 111 j)) ?_ (cut_52 371 _ 0 (by rw [up2_at]; omega) (by rw [up2_at]; omega) (by unfold svM; rw [if_pos (by omega), show k.toNat = 1850 by omega]) (by omega) (by omega) (by omega)); rw [show (0 : Int).toNat = 0 from rfl, cpR_0]) | (refine WP.mem (σ' := cpR σ 112 (370 * σ 110 3).toNat (0 : Int).toNat (fun j => σ 111 j)) ?_ (cut_52 371 _ 0 (by omega) (by omega) (by unfold svM; rw [if_neg (by omega)]) (by omega) (by omega) (by omega)); rw [show (0 : Int).toNat = 0 from rfl, cpR_0])
      · refine r_aload_n dX6_saves_18 rfl (by rfl) ?_
        refine r_get_r kX6_13 dX6_saves_19 KD_110 (RHO_110_2 _) ?_
        refine r_iload_n dX6_saves_22 rfl (by rfl) ?_
        refine r_aload_n dX6_saves_23 rfl (by rfl) ?_
        refine r_get_r kX6_13 dX6_saves_24 KD_110 (RHO_110_2 _) ?_
        refine r_iload_n dX6_saves_27 rfl (by rfl) ?_
        refine r_sipush dX6_saves_28 (by decide) ?_
        refine r_iadd dX6_saves_31 ?_
        refine r_iald dX6_saves_32 KD_112 (by omega) (by omega) (by first | decide | omega) ?_
        refine r_iast dX6_saves_33 KD_112 (by omega) (by omega) (by first | decide | omega) ?_
        refine r_iinc dX6_saves_34 (by rfl) (Nat.le_of_ble_eq_true rfl) (L' := [_, _]) (by rfl) ?_
        refine r_goto (tgt := 11) dX6_saves_37 (by decide) ?_
        refine WP.mem (σ' := shN σ (k + 1).toNat) ?_ (ih (k + 1) h6 (by omega) (by omega) (by omega))
        rw [show (k + 1).toNat = k.toNat + 1 by omega, show shN σ k.toNat 112 (k + 370).toNat = σ 112 (370 + k.toNat) by unfold shN; rw [cpR_out _ _ _ _ (by omega), show (k + 370).toNat = 370 + k.toNat by omega], shN_s]
  refine r_aload_n dX6_saves_0 rfl (by rfl) ?_
  refine r_get_i kX6_29 dX6_saves_1 KD_110 ?_
  refine r_bipush dX6_saves_4 (by decide) ?_
  refine r_icmp_ne (tgt := 50) dX6_saves_6 (by decide) (by unfold inR; omega) (by unfold inR; omega) (fun c_3 => ?_) (fun c_3 => ?_)
  · refine r_iconst dX6_saves_50 ?_
    refine r_istore_n dX6_saves_51 rfl (Nat.le_of_ble_eq_true rfl) (L' := [_, _]) (by rfl) ?_
    first | (refine WP.mem (σ' := cpR (up2 (shN σ k.toNat) 110 3 (σ 110 3 - 1)) 112 (370 * (up2 (shN σ k.toNat) 110 3 (σ 110 3 - 1)) 110 3).toNat (0 : Int).toNat (fun j => (up2 (shN σ k.toNat) 110 3 (σ 110 3 - 1)) 111 j)) ?_ (cut_52 371 _ 0 (by rw [up2_at]; omega) (by rw [up2_at]; omega) (by unfold svM; rw [if_pos (by omega), show k.toNat = 1850 by omega]) (by omega) (by omega) (by omega)); rw [show (0 : Int).toNat = 0 from rfl, cpR_0]) | (refine WP.mem (σ' := cpR σ 112 (370 * σ 110 3).toNat (0 : Int).toNat (fun j => σ 111 j)) ?_ (cut_52 371 _ 0 (by omega) (by omega) (by unfold svM; rw [if_neg (by omega)]) (by omega) (by omega) (by omega)); rw [show (0 : Int).toNat = 0 from rfl, cpR_0])
  · refine r_iconst dX6_saves_9 ?_
    refine r_istore_n dX6_saves_10 rfl (Nat.le_of_ble_eq_true rfl) (L' := [_, _]) (by rfl) ?_
    refine WP.mem (σ' := shN σ (0 : Int).toNat) ?_ (cut_11 1851 0 (by omega) (by omega) (by omega) (by omega))
    unfold shN
    rw [show (0 : Int).toNat = 0 from rfl, cpR_0]
