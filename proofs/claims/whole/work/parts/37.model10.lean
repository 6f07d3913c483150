/-! the model: the oldest shape that is needed -/
def olM (σ : ST) : Int := mnF (fun j => oM σ (j : Int) 0) (mnF (fun j => σ 111 (6 + (j : Int)).toNat) (σ 111 6) 4) (σ 111 2).toNat

set_option maxRecDepth 100000 in
set_option maxHeartbeats 4000000 in
theorem ct_X6_oldest {l : Launch} {G : GG} {π : Nat → Option Nat} {σ τ : ST} (hJ : MJ σ)  : Ct l G mX6_oldest (1, 0, 0) [.ref 110] 117 KD σ τ (RHO π) (KQ (some (.int (iI (olM σ)))) 117 KD σ τ (RHO π)) := by
  have hz := hJ.sz
  have hmk := hJ.mk
  have hro := hJ.ro
  have h6 := hJ.he 0 (by omega) (by omega)
  have h60 : σ 111 (6 + (0 : Int)).toNat = σ 111 6 := rfl
  rw [h60] at h6
  refine ct_intro (own := "ShapedRowsModel") rfl (by decide +kernel) (Nat.le_of_ble_eq_true rfl) (L := _) rfl ?_
  have cut_50 : ∀ (N : Nat) (k m : Int), (0 ≤ k) → (k ≤ σ 111 2) → (0 ≤ m) → (m < 12) → (m = mnF (fun j => oM σ (j : Int) 0) (mnF (fun j => σ 111 (6 + (j : Int)).toNat) (σ 111 6) 4) k.toNat) → σ 111 2 - k < (N : Int) → WP l G "ShapedRowsModel" mX6_oldest (1, 0, 0) (KQ (some (.int (iI (olM σ)))) 117 KD σ τ (RHO π)) noX 117 50 [some (.ref 110), some (.int (iI m)), some (.int (iI k))] [] 117 KD σ τ (RHO π) 0 0 := by
    intro N
    induction N with
    | zero => intro k m k0 k1 m0 m1 hm0 hm; exact absurd hm (by omega)
    | succ N ih =>
      intro k m k0 k1 m0 m1 hm0 hm
      have hv := hJ.rs k k0
      have ek : ((k.toNat : Nat) : Int) = k := by omega
      refine r_iload_n dX6_oldest_50 rfl (by rfl) ?_
      refine r_aload_n dX6_oldest_51 rfl (by rfl) ?_
      refine r_get_r kX6_7 dX6_oldest_52 KD_110 (RHO_110_1 _) ?_
      refine r_iconst dX6_oldest_55 ?_
      refine r_iaload (k := 2) dX6_oldest_56 KD_111 (by omega) (by omega) (by decide) ?_
      refine r_icmp_ge (tgt := 87) dX6_oldest_57 (by decide) (by unfold inR; omega) (by unfold inR; omega) (fun c_1 => ?_) (fun c_1 => ?_)
      · refine r_iload_n dX6_oldest_87 rfl (by rfl) ?_
        exact r_ret_i dX6_oldest_88 rfl ⟨Nat.zero_le _, Nat.zero_le _⟩ (by rw [hm0, show k.toNat = (σ 111 2).toNat by omega]; rfl) ⟨rfl, rfl, (by first | rfl | omega), rfl, rfl⟩
      · refine r_aload_n dX6_oldest_60 rfl (by rfl) ?_
        refine r_iload_n dX6_oldest_61 rfl (by rfl) ?_
        refine r_iconst dX6_oldest_62 ?_
        refine r_callV2 (ct_X6_rowOf _ _ (by first | omega | (unfold inR; omega)) (by first | omega | (unfold inR; omega))) fX6_rowOf qX6_108 dX6_oldest_63 KD_110 (by decide) ⟨Nat.zero_le _, Nat.zero_le _⟩ (Nat.le_of_ble_eq_true rfl) ?_
        refine r_iload_n dX6_oldest_66 rfl (by rfl) ?_
        have hv1 := hv (by omega)
        refine r_icmp_ge (tgt := 79) dX6_oldest_67 (by decide) (by unfold inR; omega) (by unfold inR; omega) (fun hc => ?_) (fun hc => ?_)
        · skip
          refine r_iload_n dX6_oldest_79 rfl (by rfl) ?_
          refine r_istore_n dX6_oldest_80 rfl (Nat.le_of_ble_eq_true rfl) (L' := [_, _, _]) (by rfl) ?_
          refine r_iinc dX6_oldest_81 (by rfl) (Nat.le_of_ble_eq_true rfl) (L' := [_, _, _]) (by rfl) ?_
          refine r_goto (tgt := 50) dX6_oldest_84 (by decide) ?_
          exact ih (k + 1) _ (by omega) (by omega) (by omega) (by omega) (by
            rw [show (k + 1).toNat = k.toNat + 1 by omega]
            unfold mnF
            rw [← hm0, ek]
            first | (rw [if_pos hc]; done) | (rw [if_neg (by omega)]; done)) (by omega)
        · skip
          refine r_aload_n dX6_oldest_70 rfl (by rfl) ?_
          refine r_iload_n dX6_oldest_71 rfl (by rfl) ?_
          refine r_iconst dX6_oldest_72 ?_
          refine r_callV2 (ct_X6_rowOf _ _ (by first | omega | (unfold inR; omega)) (by first | omega | (unfold inR; omega))) fX6_rowOf qX6_108 dX6_oldest_73 KD_110 (by decide) ⟨Nat.zero_le _, Nat.zero_le _⟩ (Nat.le_of_ble_eq_true rfl) ?_
          refine r_goto (tgt := 80) dX6_oldest_76 (by decide) ?_
          refine r_istore_n dX6_oldest_80 rfl (Nat.le_of_ble_eq_true rfl) (L' := [_, _, _]) (by rfl) ?_
          refine r_iinc dX6_oldest_81 (by rfl) (Nat.le_of_ble_eq_true rfl) (L' := [_, _, _]) (by rfl) ?_
          refine r_goto (tgt := 50) dX6_oldest_84 (by decide) ?_
          exact ih (k + 1) _ (by omega) (by omega) (by omega) (by omega) (by
            rw [show (k + 1).toNat = k.toNat + 1 by omega]
            unfold mnF
            rw [← hm0, ek]
            first | (rw [if_pos hc]; done) | (rw [if_neg (by omega)]; done)) (by omega)
  have cut_10 : ∀ (N : Nat) (k m : Int), (0 ≤ k) → (k ≤ 4) → (0 ≤ m) → (m < 12) → (m = mnF (fun j => σ 111 (6 + (j : Int)).toNat) (σ 111 6) k.toNat) → 4 - k < (N : Int) → WP l G "ShapedRowsModel" mX6_oldest (1, 0, 0) (KQ (some (.int (iI (olM σ)))) 117 KD σ τ (RHO π)) noX 117 10 [some (.ref 110), some (.int (iI m)), some (.int (iI k))] [] 117 KD σ τ (RHO π) 0 0 := by
    intro N
    induction N with
    | zero => intro k m k0 k1 m0 m1 hm0 hm; exact absurd hm (by omega)
    | succ N ih =>
      intro k m k0 k1 m0 m1 hm0 hm
      have hv := hJ.he k k0
      have ek : ((k.toNat : Nat) : Int) = k := by omega
      refine r_iload_n dX6_oldest_10 rfl (by rfl) ?_
      refine r_iconst dX6_oldest_11 ?_
      refine r_icmp_ge (tgt := 48) dX6_oldest_12 (by decide) (by unfold inR; omega) (by unfold inR; omega) (fun c_2 => ?_) (fun c_2 => ?_)
      · refine r_iconst dX6_oldest_48 ?_
        refine r_istore_n dX6_oldest_49 rfl (Nat.le_of_ble_eq_true rfl) (L' := [_, _, _]) (by rfl) ?_
        exact cut_50 20 0 m (by omega) (by omega) m0 m1 (by rw [hm0, show k.toNat = 4 by omega]; rfl) (by omega)
      · refine r_aload_n dX6_oldest_15 rfl (by rfl) ?_
        refine r_get_r kX6_7 dX6_oldest_16 KD_110 (RHO_110_1 _) ?_
        refine r_bipush dX6_oldest_19 (by decide) ?_
        refine r_iload_n dX6_oldest_21 rfl (by rfl) ?_
        refine r_iadd dX6_oldest_22 ?_
        refine r_iald dX6_oldest_23 KD_111 (by omega) (by omega) (by first | decide | omega) ?_
        refine r_iload_n dX6_oldest_24 rfl (by rfl) ?_
        have hv1 := hv (by omega)
        refine r_icmp_ge (tgt := 40) dX6_oldest_25 (by decide) (by unfold inR; omega) (by unfold inR; omega) (fun hc => ?_) (fun hc => ?_)
        · skip
          refine r_iload_n dX6_oldest_40 rfl (by rfl) ?_
          refine r_istore_n dX6_oldest_41 rfl (Nat.le_of_ble_eq_true rfl) (L' := [_, _, _]) (by rfl) ?_
          refine r_iinc dX6_oldest_42 (by rfl) (Nat.le_of_ble_eq_true rfl) (L' := [_, _, _]) (by rfl) ?_
          refine r_goto (tgt := 10) dX6_oldest_45 (by decide) ?_
          exact ih (k + 1) _ (by omega) (by omega) (by omega) (by omega) (by
            rw [show (k + 1).toNat = k.toNat + 1 by omega]
            unfold mnF
            rw [← hm0, ek]
            first | (rw [if_pos hc]; done) | (rw [if_neg (by omega)]; done)) (by omega)
        · skip
          refine r_aload_n dX6_oldest_28 rfl (by rfl) ?_
          refine r_get_r kX6_7 dX6_oldest_29 KD_110 (RHO_110_1 _) ?_
          refine r_bipush dX6_oldest_32 (by decide) ?_
          refine r_iload_n dX6_oldest_34 rfl (by rfl) ?_
          refine r_iadd dX6_oldest_35 ?_
          refine r_iald dX6_oldest_36 KD_111 (by omega) (by omega) (by first | decide | omega) ?_
          refine r_goto (tgt := 41) dX6_oldest_37 (by decide) ?_
          refine r_istore_n dX6_oldest_41 rfl (Nat.le_of_ble_eq_true rfl) (L' := [_, _, _]) (by rfl) ?_
          refine r_iinc dX6_oldest_42 (by rfl) (Nat.le_of_ble_eq_true rfl) (L' := [_, _, _]) (by rfl) ?_
          refine r_goto (tgt := 10) dX6_oldest_45 (by decide) ?_
          exact ih (k + 1) _ (by omega) (by omega) (by omega) (by omega) (by
            rw [show (k + 1).toNat = k.toNat + 1 by omega]
            unfold mnF
            rw [← hm0, ek]
            first | (rw [if_pos hc]; done) | (rw [if_neg (by omega)]; done)) (by omega)
  refine r_aload_n dX6_oldest_0 rfl (by rfl) ?_
  refine r_get_r kX6_7 dX6_oldest_1 KD_110 (RHO_110_1 _) ?_
  refine r_bipush dX6_oldest_4 (by decide) ?_
  refine r_iaload (k := 6) dX6_oldest_6 KD_111 (by omega) (by omega) (by decide) ?_
  refine r_istore_n dX6_oldest_7 rfl (Nat.le_of_ble_eq_true rfl) (L' := [_, _, _]) (by rfl) ?_
  refine r_iconst dX6_oldest_8 ?_
  refine r_istore_n dX6_oldest_9 rfl (Nat.le_of_ble_eq_true rfl) (L' := [_, _, _]) (by rfl) ?_
  exact cut_10 9 0 _ (by omega) (by omega) (by omega) (by omega) rfl (by omega)

theorem mnF_b {f : Nat → Int} {z : Int} {n : Nat} (hz : 0 ≤ z ∧ z < 12) (hf : ∀ k, k < n → 0 ≤ f k ∧ f k < 12) : ∀ m, m ≤ n → 0 ≤ mnF f z m ∧ mnF f z m < 12
  | 0, _ => hz
  | m + 1, h => by have h1 := mnF_b hz hf m (by omega); have h2 := hf m (by omega); unfold mnF; split <;> omega
theorem olM_rng {σ : ST} (hJ : MJ σ) : 0 ≤ olM σ ∧ olM σ < 12 := by
  have hz := hJ.sz
  have hro := hJ.ro
  have h6 := hJ.he 0 (by omega) (by omega)
  have h60 : σ 111 (6 + (0 : Int)).toNat = σ 111 6 := rfl
  rw [h60] at h6
  unfold olM
  exact mnF_b (n := (σ 111 2).toNat) (mnF_b (n := 4) (by omega) (fun k hk => by have := hJ.he (k : Int) (by omega) (by omega); omega) 4 (by omega)) (fun k hk => by have := hJ.rs (k : Int) (by omega) (by omega); omega) _ (Nat.le_refl _)
set_option maxRecDepth 100000 in
set_option maxHeartbeats 4000000 in
theorem ct_X6_retire {l : Launch} {G : GG} {π : Nat → Option Nat} {σ τ : ST} (hJ : MJ σ) (hn0 : 0 ≤ σ 110 3) (hn1 : σ 110 3 ≤ 6) (s : Int) (hs : inR s) : Ct l G mX6_retire (2, 0, 0) [.ref 110, .int (iI s)] 117 KD σ τ (RHO π) (KQ (some (.int (iI (if ¬ (σ 111 1 ≤ s ∧ s ≤ σ 111 0 - 1) then 0 else if olM σ < s then 0 else σ 111 0 - s)))) 117 KD (if ¬ (σ 111 1 ≤ s ∧ s ≤ σ 111 0 - 1) then up2 (up2 σ 110 0 0) 110 0 1 else if olM σ < s then up2 (up2 σ 110 0 0) 110 0 2 else up2 (svM (up2 σ 110 0 0)) 111 1 s) τ (RHO π)) := by
  have hz := hJ.sz
  have hmk := hJ.mk
  have hro := hJ.ro
  have u3 : ∀ e, up2 σ 110 0 e 110 3 = σ 110 3 := fun e => up2_el _ _ _ (by decide)
  have s1 := fun e => sv1 σ e
  have sJ := fun e => MJ_cg (sv1 σ e) hJ
  have sg := fun e => gM_cg (sv1 σ e)
  have sp := fun e => plM_cg (sv1 σ e)
  have z1 : up2 σ 110 0 0 111 = σ 111 := up2_off _ (by decide)
  have z5 : up2 σ 110 0 0 110 5 = σ 110 5 := up2_el _ _ _ (by decide)
  have za : up2 σ 110 0 0 111 0 = σ 111 0 := by rw [z1]
  have zb : up2 σ 110 0 0 111 1 = σ 111 1 := by rw [z1]
  have zc : up2 σ 110 0 0 111 2 = σ 111 2 := by rw [z1]
  have zol : olM (up2 σ 110 0 0) = olM σ := by unfold olM oM; rw [z1]
  have hob : 0 ≤ olM σ ∧ olM σ < 12 := olM_rng hJ
  have rs := hs
  unfold inR at rs
  refine ct_intro (own := "ShapedRowsModel") rfl (by decide +kernel) (Nat.le_of_ble_eq_true rfl) (L := _) rfl ?_
  refine r_aload_n dX6_retire_0 rfl (by rfl) ?_
  refine r_iconst dX6_retire_1 ?_
  refine r_put_i kX6_25 dX6_retire_2 KD_110 ?_
  refine r_aload_n dX6_retire_5 rfl (by rfl) ?_
  refine r_iload_n dX6_retire_6 rfl (by rfl) ?_
  refine r_callV1 (ct_X6_isInUse (by first | exact hJ | exact sJ _ | omega | (unfold inR; omega) | (rw [u3]; omega) | (simp only [s1, sg, sp]; omega) | (rw [s1]; omega) | exact MJ_cg z1 hJ | (simp only [z1]; omega) | exact hs) _ (by first | exact hJ | exact sJ _ | omega | (unfold inR; omega) | (rw [u3]; omega) | (simp only [s1, sg, sp]; omega) | (rw [s1]; omega) | exact MJ_cg z1 hJ | (simp only [z1]; omega) | exact hs)) fX6_isInUse qX6_127 dX6_retire_7 KD_110 (by decide) ⟨Nat.zero_le _, Nat.zero_le _⟩ (Nat.le_of_ble_eq_true rfl) ?_
  refine r_ifne_b (tgt := 19) dX6_retire_10 (by decide) (fun c_1 => ?_) (fun c_1 => ?_)
  · refine r_aload_n dX6_retire_19 rfl (by rfl) ?_
    refine r_callV0 (ct_X6_oldest (by first | exact hJ | exact sJ _ | omega | (unfold inR; omega) | (rw [u3]; omega) | (simp only [s1, sg, sp]; omega) | (rw [s1]; omega) | exact MJ_cg z1 hJ | (simp only [z1]; omega) | exact hs)) fX6_oldest qX6_148 dX6_retire_20 KD_110 (by decide) ⟨Nat.zero_le _, Nat.zero_le _⟩ (Nat.le_of_ble_eq_true rfl) ?_
    rw [zol]
    refine r_iload_n dX6_retire_23 rfl (by rfl) ?_
    refine r_icmp_ge (tgt := 33) dX6_retire_24 (by decide) (by unfold inR; omega) (by unfold inR; omega) (fun c_2 => ?_) (fun c_2 => ?_)
    · refine r_aload_n dX6_retire_33 rfl (by rfl) ?_
      refine r_callV0 (ct_X6_saves (by first | exact hJ | exact sJ _ | omega | (unfold inR; omega) | (rw [u3]; omega) | (simp only [s1, sg, sp]; omega) | (rw [s1]; omega) | exact MJ_cg z1 hJ | (simp only [z1]; omega) | exact hs) (by first | exact hJ | exact sJ _ | omega | (unfold inR; omega) | (rw [u3]; omega) | (simp only [s1, sg, sp]; omega) | (rw [s1]; omega) | exact MJ_cg z1 hJ | (simp only [z1]; omega) | exact hs)) fX6_saves qX6_72 dX6_retire_34 KD_110 (by decide) ⟨Nat.zero_le _, Nat.zero_le _⟩ (Nat.le_of_ble_eq_true rfl) ?_
      refine r_aload_n dX6_retire_37 rfl (by rfl) ?_
      refine r_get_r kX6_7 dX6_retire_38 KD_110 (RHO_110_1 _) ?_
      refine r_iconst dX6_retire_41 ?_
      refine r_iload_n dX6_retire_42 rfl (by rfl) ?_
      refine r_iastore (k := 1) dX6_retire_43 KD_111 (by omega) (by omega) (by decide) ?_
      refine r_aload_n dX6_retire_44 rfl (by rfl) ?_
      refine r_get_r kX6_7 dX6_retire_45 KD_110 (RHO_110_1 _) ?_
      refine r_iconst dX6_retire_48 ?_
      skip
      refine r_iaload (k := 0) dX6_retire_49 KD_111 (by omega) (by omega) (by decide) ?_
      refine r_iload_n dX6_retire_50 rfl (by rfl) ?_
      rw [up2_el _ _ _ (by decide), s1]
      refine r_isub dX6_retire_51 ?_
      exact r_ret_i dX6_retire_52 rfl ⟨Nat.zero_le _, Nat.zero_le _⟩ (by first | (rw [if_pos (by omega)]; done) | (rw [if_neg (by omega), if_pos (by omega)]; done) | (rw [if_neg (by omega), if_neg (by omega)]; done)) ⟨rfl, rfl, (by first | (rw [if_pos (by omega)]; done) | (rw [if_neg (by omega), if_pos (by omega)]; done) | (rw [if_neg (by omega), if_neg (by omega)]; done)), rfl, rfl⟩
    · refine r_aload_n dX6_retire_27 rfl (by rfl) ?_
      refine r_iconst dX6_retire_28 ?_
      refine r_callV1 (ct_X6_fails _) fX6_fails qX6_120 dX6_retire_29 KD_110 (by decide) ⟨Nat.zero_le _, Nat.zero_le _⟩ (Nat.le_of_ble_eq_true rfl) ?_
      exact r_ret_i dX6_retire_32 rfl ⟨Nat.zero_le _, Nat.zero_le _⟩ (by first | (rw [if_pos (by omega)]; done) | (rw [if_neg (by omega), if_pos (by omega)]; done) | (rw [if_neg (by omega), if_neg (by omega)]; done)) ⟨rfl, rfl, (by first | (rw [if_pos (by omega)]; done) | (rw [if_neg (by omega), if_pos (by omega)]; done) | (rw [if_neg (by omega), if_neg (by omega)]; done)), rfl, rfl⟩
  · refine r_aload_n dX6_retire_13 rfl (by rfl) ?_
    refine r_iconst dX6_retire_14 ?_
    refine r_callV1 (ct_X6_fails _) fX6_fails qX6_120 dX6_retire_15 KD_110 (by decide) ⟨Nat.zero_le _, Nat.zero_le _⟩ (Nat.le_of_ble_eq_true rfl) ?_
    exact r_ret_i dX6_retire_18 rfl ⟨Nat.zero_le _, Nat.zero_le _⟩ (by first | (rw [if_pos (by omega)]; done) | (rw [if_neg (by omega), if_pos (by omega)]; done) | (rw [if_neg (by omega), if_neg (by omega)]; done)) ⟨rfl, rfl, (by first | (rw [if_pos (by omega)]; done) | (rw [if_neg (by omega), if_pos (by omega)]; done) | (rw [if_neg (by omega), if_neg (by omega)]; done)), rfl, rfl⟩
