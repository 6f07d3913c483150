/-! the model: counting, columns, refusals -/
def rwC (σ : ST) (s : Int) : Nat → Int
  | 0 => 0
  | k + 1 => rwC σ s k + (if oM σ (k : Int) 0 = s then 1 else 0)
theorem rwC_rng (σ : ST) (s : Int) : ∀ n : Nat, 0 ≤ rwC σ s n ∧ rwC σ s n ≤ (n : Int)
  | 0 => by unfold rwC; omega
  | n + 1 => by have h1 := rwC_rng σ s n; unfold rwC; split <;> omega
def rdC (σ : ST) (s : Int) : Nat → Int
  | 0 => 0
  | k + 1 => rdC σ s k + (if σ 111 (6 + (k : Int)).toNat = s then 1 else 0)
def coM (σ : ST) (s p w : Int) : Int := if p < gM σ s 0 then (if w = 0 then gM σ s (9 + p) else if w = 1 then gM σ s (1 + p) else pcM σ (σ 111 0 - 1) (gM σ s (1 + p))) else -1
def agM (σ : ST) (r s a : Int) : Int := if plM σ s a = -1 then 1 else if pcM σ (oM σ r 0) (gM σ s (1 + plM σ s a)) ≠ -1 ∨ oM σ r 0 < s then 0 else 2

set_option maxRecDepth 100000 in
set_option maxHeartbeats 4000000 in
theorem ct_X6_rowsWith {l : Launch} {G : GG} {π : Nat → Option Nat} {σ τ : ST} (hJ : MJ σ) (s : Int) (hs : inR s) : Ct l G mX6_rowsWith (1, 0, 0) [.ref 110, .int (iI s)] 117 KD σ τ (RHO π) (KQ (some (.int (iI (rwC σ s (σ 111 2).toNat)))) 117 KD σ τ (RHO π)) := by
  have hz := hJ.sz
  have hmk := hJ.mk
  have hro := hJ.ro
  have rs := hs
  unfold inR at rs
  refine ct_intro (own := "ShapedRowsModel") rfl (by decide +kernel) (Nat.le_of_ble_eq_true rfl) (L := _) rfl ?_
  have cut_4 : ∀ (N : Nat) (k m : Int), (0 ≤ k) → (k ≤ σ 111 2) → (m = rwC σ s k.toNat) → σ 111 2 - k < (N : Int) → WP l G "ShapedRowsModel" mX6_rowsWith (1, 0, 0) (KQ (some (.int (iI (rwC σ s (σ 111 2).toNat)))) 117 KD σ τ (RHO π)) noX 117 4 [some (.ref 110), some (.int (iI s)), some (.int (iI m)), some (.int (iI k))] [] 117 KD σ τ (RHO π) 0 0 := by
    intro N
    induction N with
    | zero => intro k m k0 k1 hm0 hm; exact absurd hm (by omega)
    | succ N ih =>
      intro k m k0 k1 hm0 hm
      have hv := hJ.rs k k0
      refine r_iload_n dX6_rowsWith_4 rfl (by rfl) ?_
      refine r_aload_n dX6_rowsWith_5 rfl (by rfl) ?_
      refine r_get_r kX6_7 dX6_rowsWith_6 KD_110 (RHO_110_1 _) ?_
      refine r_iconst dX6_rowsWith_9 ?_
      refine r_iaload (k := 2) dX6_rowsWith_10 KD_111 (by omega) (by omega) (by decide) ?_
      refine r_icmp_ge (tgt := 38) dX6_rowsWith_11 (by decide) (by unfold inR; omega) (by unfold inR; omega) (fun c_1 => ?_) (fun c_1 => ?_)
      · refine r_iload_n dX6_rowsWith_38 rfl (by rfl) ?_
        exact r_ret_i dX6_rowsWith_39 rfl ⟨Nat.zero_le _, Nat.zero_le _⟩ (by rw [hm0, show k.toNat = (σ 111 2).toNat by omega]) ⟨rfl, rfl, (by first | rfl | omega), rfl, rfl⟩
      · refine r_iload_n dX6_rowsWith_14 rfl (by rfl) ?_
        refine r_aload_n dX6_rowsWith_15 rfl (by rfl) ?_
        refine r_iload_n dX6_rowsWith_16 rfl (by rfl) ?_
        refine r_iconst dX6_rowsWith_17 ?_
        refine r_callV2 (ct_X6_rowOf _ _ (by first | exact hJ | exact sJ _ | omega | (unfold inR; omega) | (rw [u3]; omega) | (simp only [s1, sg, sp]; omega)) (by first | exact hJ | exact sJ _ | omega | (unfold inR; omega) | (rw [u3]; omega) | (simp only [s1, sg, sp]; omega))) fX6_rowOf qX6_108 dX6_rowsWith_18 KD_110 (by decide) ⟨Nat.zero_le _, Nat.zero_le _⟩ (Nat.le_of_ble_eq_true rfl) ?_
        refine r_iload_n dX6_rowsWith_21 rfl (by rfl) ?_
        have hv1 := hv (by omega)
        refine r_icmp_ne (tgt := 29) dX6_rowsWith_22 (by decide) (by unfold inR; omega) (by unfold inR; omega) (fun hc => ?_) (fun hc => ?_)
        · refine r_iconst dX6_rowsWith_29 ?_
          refine r_iadd dX6_rowsWith_30 ?_
          refine r_istore_n dX6_rowsWith_31 rfl (Nat.le_of_ble_eq_true rfl) (L' := [_, _, _, _]) (by rfl) ?_
          refine r_iinc dX6_rowsWith_32 (by rfl) (Nat.le_of_ble_eq_true rfl) (L' := [_, _, _, _]) (by rfl) ?_
          refine r_goto (tgt := 4) dX6_rowsWith_35 (by decide) ?_
          exact ih (k + 1) _ (by omega) (by omega) (by
            rw [show (k + 1).toNat = k.toNat + 1 by omega]
            unfold rwC
            rw [← hm0, show ((k.toNat : Nat) : Int) = k by omega]
            first | (rw [if_pos hc]; done) | (rw [if_neg hc]; done)) (by omega)
        · refine r_iconst dX6_rowsWith_25 ?_
          refine r_goto (tgt := 30) dX6_rowsWith_26 (by decide) ?_
          refine r_iadd dX6_rowsWith_30 ?_
          refine r_istore_n dX6_rowsWith_31 rfl (Nat.le_of_ble_eq_true rfl) (L' := [_, _, _, _]) (by rfl) ?_
          refine r_iinc dX6_rowsWith_32 (by rfl) (Nat.le_of_ble_eq_true rfl) (L' := [_, _, _, _]) (by rfl) ?_
          refine r_goto (tgt := 4) dX6_rowsWith_35 (by decide) ?_
          exact ih (k + 1) _ (by omega) (by omega) (by
            rw [show (k + 1).toNat = k.toNat + 1 by omega]
            unfold rwC
            rw [← hm0, show ((k.toNat : Nat) : Int) = k by omega]
            first | (rw [if_pos hc]; done) | (rw [if_neg hc]; done)) (by omega)
  refine r_iconst dX6_rowsWith_0 ?_
  refine r_istore_n dX6_rowsWith_1 rfl (Nat.le_of_ble_eq_true rfl) (L' := [_, _, _, _]) (by rfl) ?_
  refine r_iconst dX6_rowsWith_2 ?_
  refine r_istore_n dX6_rowsWith_3 rfl (Nat.le_of_ble_eq_true rfl) (L' := [_, _, _, _]) (by rfl) ?_
  exact cut_4 20 0 0 (by omega) (by omega) rfl (by omega)

set_option maxRecDepth 100000 in
set_option maxHeartbeats 4000000 in
theorem ct_X6_readersWith {l : Launch} {G : GG} {π : Nat → Option Nat} {σ τ : ST} (hJ : MJ σ) (s : Int) (hs : inR s) : Ct l G mX6_readersWith (0, 0, 0) [.ref 110, .int (iI s)] 117 KD σ τ (RHO π) (KQ (some (.int (iI (rdC σ s 4)))) 117 KD σ τ (RHO π)) := by
  have hz := hJ.sz
  have hmk := hJ.mk
  have hro := hJ.ro
  have rs := hs
  unfold inR at rs
  refine ct_intro (own := "ShapedRowsModel") rfl (by decide +kernel) (Nat.le_of_ble_eq_true rfl) (L := _) rfl ?_
  have cut_4 : ∀ (N : Nat) (k m : Int), (0 ≤ k) → (k ≤ 4) → (m = rdC σ s k.toNat) → 4 - k < (N : Int) → WP l G "ShapedRowsModel" mX6_readersWith (0, 0, 0) (KQ (some (.int (iI (rdC σ s 4)))) 117 KD σ τ (RHO π)) noX 117 4 [some (.ref 110), some (.int (iI s)), some (.int (iI m)), some (.int (iI k))] [] 117 KD σ τ (RHO π) 0 0 := by
    intro N
    induction N with
    | zero => intro k m k0 k1 hm0 hm; exact absurd hm (by omega)
    | succ N ih =>
      intro k m k0 k1 hm0 hm
      have hv := hJ.he k k0
      refine r_iload_n dX6_readersWith_4 rfl (by rfl) ?_
      refine r_iconst dX6_readersWith_5 ?_
      refine r_icmp_ge (tgt := 36) dX6_readersWith_6 (by decide) (by unfold inR; omega) (by unfold inR; omega) (fun c_1 => ?_) (fun c_1 => ?_)
      · refine r_iload_n dX6_readersWith_36 rfl (by rfl) ?_
        exact r_ret_i dX6_readersWith_37 rfl ⟨Nat.zero_le _, Nat.zero_le _⟩ (by rw [hm0, show k.toNat = 4 by omega]) ⟨rfl, rfl, (by first | rfl | omega), rfl, rfl⟩
      · refine r_iload_n dX6_readersWith_9 rfl (by rfl) ?_
        refine r_aload_n dX6_readersWith_10 rfl (by rfl) ?_
        refine r_get_r kX6_7 dX6_readersWith_11 KD_110 (RHO_110_1 _) ?_
        refine r_bipush dX6_readersWith_14 (by decide) ?_
        refine r_iload_n dX6_readersWith_16 rfl (by rfl) ?_
        refine r_iadd dX6_readersWith_17 ?_
        refine r_iald dX6_readersWith_18 KD_111 (by omega) (by omega) (by first | decide | omega) ?_
        refine r_iload_n dX6_readersWith_19 rfl (by rfl) ?_
        have hv1 := hv (by omega)
        refine r_icmp_ne (tgt := 27) dX6_readersWith_20 (by decide) (by unfold inR; omega) (by unfold inR; omega) (fun hc => ?_) (fun hc => ?_)
        · refine r_iconst dX6_readersWith_27 ?_
          refine r_iadd dX6_readersWith_28 ?_
          refine r_istore_n dX6_readersWith_29 rfl (Nat.le_of_ble_eq_true rfl) (L' := [_, _, _, _]) (by rfl) ?_
          refine r_iinc dX6_readersWith_30 (by rfl) (Nat.le_of_ble_eq_true rfl) (L' := [_, _, _, _]) (by rfl) ?_
          refine r_goto (tgt := 4) dX6_readersWith_33 (by decide) ?_
          exact ih (k + 1) _ (by omega) (by omega) (by
            rw [show (k + 1).toNat = k.toNat + 1 by omega]
            unfold rdC
            rw [← hm0, show ((k.toNat : Nat) : Int) = k by omega]
            first | (rw [if_pos hc]; done) | (rw [if_neg hc]; done)) (by omega)
        · refine r_iconst dX6_readersWith_23 ?_
          refine r_goto (tgt := 28) dX6_readersWith_24 (by decide) ?_
          refine r_iadd dX6_readersWith_28 ?_
          refine r_istore_n dX6_readersWith_29 rfl (Nat.le_of_ble_eq_true rfl) (L' := [_, _, _, _]) (by rfl) ?_
          refine r_iinc dX6_readersWith_30 (by rfl) (Nat.le_of_ble_eq_true rfl) (L' := [_, _, _, _]) (by rfl) ?_
          refine r_goto (tgt := 4) dX6_readersWith_33 (by decide) ?_
          exact ih (k + 1) _ (by omega) (by omega) (by
            rw [show (k + 1).toNat = k.toNat + 1 by omega]
            unfold rdC
            rw [← hm0, show ((k.toNat : Nat) : Int) = k by omega]
            first | (rw [if_pos hc]; done) | (rw [if_neg hc]; done)) (by omega)
  refine r_iconst dX6_readersWith_0 ?_
  refine r_istore_n dX6_readersWith_1 rfl (Nat.le_of_ble_eq_true rfl) (L' := [_, _, _, _]) (by rfl) ?_
  refine r_iconst dX6_readersWith_2 ?_
  refine r_istore_n dX6_readersWith_3 rfl (Nat.le_of_ble_eq_true rfl) (L' := [_, _, _, _]) (by rfl) ?_
  exact cut_4 20 0 0 (by omega) (by omega) rfl (by omega)

set_option maxRecDepth 100000 in
set_option maxHeartbeats 4000000 in
theorem ct_X6_columnOf {l : Launch} {G : GG} {π : Nat → Option Nat} {σ τ : ST} (hJ : MJ σ) (s : Int) (s0 : 0 ≤ s) (s1 : s < σ 111 0) (p : Int) (p0 : 0 ≤ p) (hp : inR p) (w : Int) (w0 : 0 ≤ w) (w1 : w ≤ 2) : Ct l G mX6_columnOf (2, 0, 0) [.ref 110, .int (iI s), .int (iI p), .int (iI w)] 117 KD σ τ (RHO π) (KQ (some (.int (iI (coM σ s p w)))) 117 KD σ τ (RHO π)) := by
  have hz := hJ.sz
  have hmk := hJ.mk
  have hro := hJ.ro
  have hw := hJ.wd s s0 s1
  have rp := hp
  unfold inR at rp
  refine ct_intro (own := "ShapedRowsModel") rfl (by decide +kernel) (Nat.le_of_ble_eq_true rfl) (L := _) rfl ?_
  refine r_iload_n dX6_columnOf_0 rfl (by rfl) ?_
  refine r_aload_n dX6_columnOf_1 rfl (by rfl) ?_
  refine r_iload_n dX6_columnOf_2 rfl (by rfl) ?_
  refine r_iconst dX6_columnOf_3 ?_
  refine r_callV2 (ct_X6_get _ _ (by first | exact hJ | exact sJ _ | omega | (unfold inR; omega) | (rw [u3]; omega) | (simp only [s1, sg, sp]; omega)) (by first | exact hJ | exact sJ _ | omega | (unfold inR; omega) | (rw [u3]; omega) | (simp only [s1, sg, sp]; omega))) fX6_get qX6_36 dX6_columnOf_4 KD_110 (by decide) ⟨Nat.zero_le _, Nat.zero_le _⟩ (Nat.le_of_ble_eq_true rfl) ?_
  refine r_icmp_lt (tgt := 12) dX6_columnOf_7 (by decide) (by unfold inR; omega) (by unfold inR; omega) (fun c_1 => ?_) (fun c_1 => ?_)
  · refine r_aload_n dX6_columnOf_12 rfl (by rfl) ?_
    refine r_iload_n dX6_columnOf_13 rfl (by rfl) ?_
    refine r_iconst dX6_columnOf_14 ?_
    refine r_iload_n dX6_columnOf_15 rfl (by rfl) ?_
    refine r_iadd dX6_columnOf_16 ?_
    refine r_callV2 (ct_X6_get _ _ (by first | exact hJ | exact sJ _ | omega | (unfold inR; omega) | (rw [u3]; omega) | (simp only [s1, sg, sp]; omega)) (by first | exact hJ | exact sJ _ | omega | (unfold inR; omega) | (rw [u3]; omega) | (simp only [s1, sg, sp]; omega))) fX6_get qX6_36 dX6_columnOf_17 KD_110 (by decide) ⟨Nat.zero_le _, Nat.zero_le _⟩ (Nat.le_of_ble_eq_true rfl) ?_
    have hcl := hJ.cl s p s0 s1 p0 (by omega)
    refine r_istore dX6_columnOf_20 (Nat.le_of_ble_eq_true rfl) (L' := [_, _, _, _, _]) (by rfl) ?_
    refine r_iload_n dX6_columnOf_22 rfl (by rfl) ?_
    refine r_if_ne (tgt := 38) dX6_columnOf_23 (by decide) (by unfold inR; omega) (fun c_2 => ?_) (fun c_2 => ?_)
    · refine r_iload_n dX6_columnOf_38 rfl (by rfl) ?_
      refine r_iconst dX6_columnOf_39 ?_
      refine r_icmp_ne (tgt := 48) dX6_columnOf_40 (by decide) (by unfold inR; omega) (by unfold inR; omega) (fun c_3 => ?_) (fun c_3 => ?_)
      · refine r_aload_n dX6_columnOf_48 rfl (by rfl) ?_
        refine r_aload_n dX6_columnOf_49 rfl (by rfl) ?_
        refine r_callV0 ct_X6_newest fX6_newest qX6_44 dX6_columnOf_50 KD_110 (by decide) ⟨Nat.zero_le _, Nat.zero_le _⟩ (Nat.le_of_ble_eq_true rfl) ?_
        refine r_iload dX6_columnOf_53 (by rfl) ?_
        refine r_callV2 (ct_X6_placeOfColumn (by first | exact hJ | exact sJ _ | omega | (unfold inR; omega) | (rw [u3]; omega) | (simp only [s1, sg, sp]; omega)) _ (by first | exact hJ | exact sJ _ | omega | (unfold inR; omega) | (rw [u3]; omega) | (simp only [s1, sg, sp]; omega)) (by first | exact hJ | exact sJ _ | omega | (unfold inR; omega) | (rw [u3]; omega) | (simp only [s1, sg, sp]; omega)) _ (by first | exact hJ | exact sJ _ | omega | (unfold inR; omega) | (rw [u3]; omega) | (simp only [s1, sg, sp]; omega))) fX6_placeOfColumn qX6_130 dX6_columnOf_55 KD_110 (by decide) ⟨Nat.zero_le _, Nat.zero_le _⟩ (Nat.le_of_ble_eq_true rfl) ?_
        exact r_ret_i dX6_columnOf_58 rfl ⟨Nat.zero_le _, Nat.zero_le _⟩ (by unfold coM; rw [if_pos (by omega)]; first | (rw [if_pos (by omega)]; done) | (rw [if_neg (by omega), if_pos (by omega)]; done) | (rw [if_neg (by omega), if_neg (by omega)]; done)) ⟨rfl, rfl, (by first | rfl | omega), rfl, rfl⟩
      · refine r_iload dX6_columnOf_43 (by rfl) ?_
        refine r_goto (tgt := 58) dX6_columnOf_45 (by decide) ?_
        exact r_ret_i dX6_columnOf_58 rfl ⟨Nat.zero_le _, Nat.zero_le _⟩ (by unfold coM; rw [if_pos (by omega)]; first | (rw [if_pos (by omega)]; done) | (rw [if_neg (by omega), if_pos (by omega)]; done) | (rw [if_neg (by omega), if_neg (by omega)]; done)) ⟨rfl, rfl, (by first | rfl | omega), rfl, rfl⟩
    · refine r_aload_n dX6_columnOf_26 rfl (by rfl) ?_
      refine r_iload_n dX6_columnOf_27 rfl (by rfl) ?_
      refine r_bipush dX6_columnOf_28 (by decide) ?_
      refine r_iload_n dX6_columnOf_30 rfl (by rfl) ?_
      refine r_iadd dX6_columnOf_31 ?_
      refine r_callV2 (ct_X6_get _ _ (by first | exact hJ | exact sJ _ | omega | (unfold inR; omega) | (rw [u3]; omega) | (simp only [s1, sg, sp]; omega)) (by first | exact hJ | exact sJ _ | omega | (unfold inR; omega) | (rw [u3]; omega) | (simp only [s1, sg, sp]; omega))) fX6_get qX6_36 dX6_columnOf_32 KD_110 (by decide) ⟨Nat.zero_le _, Nat.zero_le _⟩ (Nat.le_of_ble_eq_true rfl) ?_
      refine r_goto (tgt := 58) dX6_columnOf_35 (by decide) ?_
      exact r_ret_i dX6_columnOf_58 rfl ⟨Nat.zero_le _, Nat.zero_le _⟩ (by unfold coM; rw [if_pos (by omega)]; first | (rw [if_pos (by omega)]; done) | (rw [if_neg (by omega), if_pos (by omega)]; done) | (rw [if_neg (by omega), if_neg (by omega)]; done)) ⟨rfl, rfl, (by first | rfl | omega), rfl, rfl⟩
  · refine r_iconst dX6_columnOf_10 ?_
    exact r_ret_i dX6_columnOf_11 rfl ⟨Nat.zero_le _, Nat.zero_le _⟩ (by unfold coM; rw [if_neg (by omega)]) ⟨rfl, rfl, (by first | rfl | omega), rfl, rfl⟩

set_option maxRecDepth 100000 in
set_option maxHeartbeats 4000000 in
theorem ct_X6_isAgainst {l : Launch} {G : GG} {π : Nat → Option Nat} {σ τ : ST} (hJ : MJ σ) (r : Int) (r0 : 0 ≤ r) (r1 : r < σ 111 2) (s : Int) (s0 : 0 ≤ s) (s1 : s < σ 111 0) (a : Int) (ha : inR a) : Ct l G mX6_isAgainst (2, 0, 0) [.ref 110, .int (iI r), .int (iI s), .int (iI a)] 117 KD σ τ (RHO π) (KQ (some (.int (iI (agM σ r s a)))) 117 KD σ τ (RHO π)) := by
  have hz := hJ.sz
  have hmk := hJ.mk
  have hro := hJ.ro
  have hpl := plM_rng hJ s a s0 s1
  have hrs := hJ.rs r r0 r1
  have hw := hJ.wd s s0 s1
  have hpc := pcM_rng hJ (oM σ r 0) (gM σ s (1 + plM σ s a)) hrs.1 hrs.2
  have hcl := fun q => hJ.cl s (plM σ s a) s0 s1 q hpl.2.1
  have ra := ha
  unfold inR at ra
  refine ct_intro (own := "ShapedRowsModel") rfl (by decide +kernel) (Nat.le_of_ble_eq_true rfl) (L := _) rfl ?_
  refine r_aload_n dX6_isAgainst_0 rfl (by rfl) ?_
  refine r_iload_n dX6_isAgainst_1 rfl (by rfl) ?_
  refine r_iload_n dX6_isAgainst_2 rfl (by rfl) ?_
  refine r_callV2 (ct_X6_placeOf (by first | exact hJ | exact sJ _ | omega | (unfold inR; omega) | (rw [u3]; omega) | (simp only [s1, sg, sp]; omega) | exact ha) _ (by first | exact hJ | exact sJ _ | omega | (unfold inR; omega) | (rw [u3]; omega) | (simp only [s1, sg, sp]; omega) | exact ha) (by first | exact hJ | exact sJ _ | omega | (unfold inR; omega) | (rw [u3]; omega) | (simp only [s1, sg, sp]; omega) | exact ha) _ (by first | exact hJ | exact sJ _ | omega | (unfold inR; omega) | (rw [u3]; omega) | (simp only [s1, sg, sp]; omega) | exact ha)) fX6_placeOf qX6_48 dX6_isAgainst_3 KD_110 (by decide) ⟨Nat.zero_le _, Nat.zero_le _⟩ (Nat.le_of_ble_eq_true rfl) ?_
  refine r_istore dX6_isAgainst_6 (Nat.le_of_ble_eq_true rfl) (L' := [_, _, _, _, _, _, _]) (by rfl) ?_
  refine r_iload dX6_isAgainst_8 (by rfl) ?_
  refine r_iconst dX6_isAgainst_10 ?_
  refine r_icmp_ne (tgt := 16) dX6_isAgainst_11 (by decide) (by unfold inR; omega) (by unfold inR; omega) (fun c_1 => ?_) (fun c_1 => ?_)
  · refine r_aload_n dX6_isAgainst_16 rfl (by rfl) ?_
    refine r_iload_n dX6_isAgainst_17 rfl (by rfl) ?_
    refine r_iconst dX6_isAgainst_18 ?_
    refine r_callV2 (ct_X6_rowOf _ _ (by first | exact hJ | exact sJ _ | omega | (unfold inR; omega) | (rw [u3]; omega) | (simp only [s1, sg, sp]; omega) | exact ha) (by first | exact hJ | exact sJ _ | omega | (unfold inR; omega) | (rw [u3]; omega) | (simp only [s1, sg, sp]; omega) | exact ha)) fX6_rowOf qX6_108 dX6_isAgainst_19 KD_110 (by decide) ⟨Nat.zero_le _, Nat.zero_le _⟩ (Nat.le_of_ble_eq_true rfl) ?_
    refine r_istore dX6_isAgainst_22 (Nat.le_of_ble_eq_true rfl) (L' := [_, _, _, _, _, _, _]) (by rfl) ?_
    refine r_aload_n dX6_isAgainst_24 rfl (by rfl) ?_
    refine r_iload dX6_isAgainst_25 (by rfl) ?_
    refine r_aload_n dX6_isAgainst_27 rfl (by rfl) ?_
    refine r_iload_n dX6_isAgainst_28 rfl (by rfl) ?_
    refine r_iconst dX6_isAgainst_29 ?_
    refine r_iload dX6_isAgainst_30 (by rfl) ?_
    refine r_iadd dX6_isAgainst_32 ?_
    have hcl1 := hcl (by omega)
    refine r_callV2 (ct_X6_get _ _ (by first | exact hJ | exact sJ _ | omega | (unfold inR; omega) | (rw [u3]; omega) | (simp only [s1, sg, sp]; omega) | exact ha) (by first | exact hJ | exact sJ _ | omega | (unfold inR; omega) | (rw [u3]; omega) | (simp only [s1, sg, sp]; omega) | exact ha)) fX6_get qX6_36 dX6_isAgainst_33 KD_110 (by decide) ⟨Nat.zero_le _, Nat.zero_le _⟩ (Nat.le_of_ble_eq_true rfl) ?_
    refine r_callV2 (ct_X6_placeOfColumn (by first | exact hJ | exact sJ _ | omega | (unfold inR; omega) | (rw [u3]; omega) | (simp only [s1, sg, sp]; omega) | exact ha) _ (by first | exact hJ | exact sJ _ | omega | (unfold inR; omega) | (rw [u3]; omega) | (simp only [s1, sg, sp]; omega) | exact ha) (by first | exact hJ | exact sJ _ | omega | (unfold inR; omega) | (rw [u3]; omega) | (simp only [s1, sg, sp]; omega) | exact ha) _ (by first | exact hJ | exact sJ _ | omega | (unfold inR; omega) | (rw [u3]; omega) | (simp only [s1, sg, sp]; omega) | exact ha)) fX6_placeOfColumn qX6_130 dX6_isAgainst_36 KD_110 (by decide) ⟨Nat.zero_le _, Nat.zero_le _⟩ (Nat.le_of_ble_eq_true rfl) ?_
    refine r_iconst dX6_isAgainst_39 ?_
    refine r_icmp_eq (tgt := 47) dX6_isAgainst_40 (by decide) (by unfold inR; omega) (by unfold inR; omega) (fun c_2 => ?_) (fun c_2 => ?_)
    · refine r_iconst dX6_isAgainst_47 ?_
      refine r_istore dX6_isAgainst_48 (Nat.le_of_ble_eq_true rfl) (L' := [_, _, _, _, _, _, _]) (by rfl) ?_
      refine r_iload dX6_isAgainst_50 (by rfl) ?_
      refine r_if_ne (tgt := 61) dX6_isAgainst_52 (by decide) (by unfold inR; omega) (fun c_3 => ?_) (fun c_3 => ?_)
      · refine r_iconst dX6_isAgainst_61 ?_
        refine r_goto (tgt := 66) dX6_isAgainst_62 (by decide) ?_
        exact r_ret_i dX6_isAgainst_66 rfl ⟨Nat.zero_le _, Nat.zero_le _⟩ (by unfold agM; (repeat' split) <;> omega) ⟨rfl, rfl, (by first | rfl | omega), rfl, rfl⟩
      · refine r_iload dX6_isAgainst_55 (by rfl) ?_
        refine r_iload_n dX6_isAgainst_57 rfl (by rfl) ?_
        refine r_icmp_ge (tgt := 65) dX6_isAgainst_58 (by decide) (by unfold inR; omega) (by unfold inR; omega) (fun c_4 => ?_) (fun c_4 => ?_)
        · refine r_iconst dX6_isAgainst_65 ?_
          exact r_ret_i dX6_isAgainst_66 rfl ⟨Nat.zero_le _, Nat.zero_le _⟩ (by unfold agM; (repeat' split) <;> omega) ⟨rfl, rfl, (by first | rfl | omega), rfl, rfl⟩
        · refine r_iconst dX6_isAgainst_61 ?_
          refine r_goto (tgt := 66) dX6_isAgainst_62 (by decide) ?_
          exact r_ret_i dX6_isAgainst_66 rfl ⟨Nat.zero_le _, Nat.zero_le _⟩ (by unfold agM; (repeat' split) <;> omega) ⟨rfl, rfl, (by first | rfl | omega), rfl, rfl⟩
    · refine r_iconst dX6_isAgainst_43 ?_
      refine r_goto (tgt := 48) dX6_isAgainst_44 (by decide) ?_
      refine r_istore dX6_isAgainst_48 (Nat.le_of_ble_eq_true rfl) (L' := [_, _, _, _, _, _, _]) (by rfl) ?_
      refine r_iload dX6_isAgainst_50 (by rfl) ?_
      refine r_if_ne (tgt := 61) dX6_isAgainst_52 (by decide) (by unfold inR; omega) (fun c_5 => ?_) (fun c_5 => ?_)
      · refine r_iconst dX6_isAgainst_61 ?_
        refine r_goto (tgt := 66) dX6_isAgainst_62 (by decide) ?_
        exact r_ret_i dX6_isAgainst_66 rfl ⟨Nat.zero_le _, Nat.zero_le _⟩ (by unfold agM; (repeat' split) <;> omega) ⟨rfl, rfl, (by first | rfl | omega), rfl, rfl⟩
      · refine r_iload dX6_isAgainst_55 (by rfl) ?_
        refine r_iload_n dX6_isAgainst_57 rfl (by rfl) ?_
        refine r_icmp_ge (tgt := 65) dX6_isAgainst_58 (by decide) (by unfold inR; omega) (by unfold inR; omega) (fun c_6 => ?_) (fun c_6 => ?_)
        · refine r_iconst dX6_isAgainst_65 ?_
          exact r_ret_i dX6_isAgainst_66 rfl ⟨Nat.zero_le _, Nat.zero_le _⟩ (by unfold agM; (repeat' split) <;> omega) ⟨rfl, rfl, (by first | rfl | omega), rfl, rfl⟩
        · refine r_iconst dX6_isAgainst_61 ?_
          refine r_goto (tgt := 66) dX6_isAgainst_62 (by decide) ?_
          exact r_ret_i dX6_isAgainst_66 rfl ⟨Nat.zero_le _, Nat.zero_le _⟩ (by unfold agM; (repeat' split) <;> omega) ⟨rfl, rfl, (by first | rfl | omega), rfl, rfl⟩
  · refine r_iconst dX6_isAgainst_14 ?_
    exact r_ret_i dX6_isAgainst_15 rfl ⟨Nat.zero_le _, Nat.zero_le _⟩ (by unfold agM; (repeat' split) <;> omega) ⟨rfl, rfl, (by first | rfl | omega), rfl, rfl⟩

set_option maxRecDepth 100000 in
set_option maxHeartbeats 4000000 in
theorem ct_X6_clearBuffer {l : Launch} {G : GG} {π : Nat → Option Nat} {σ τ : ST}  : Ct l G mX6_clearBuffer (0, 0, 0) [.ref 110] 117 KD σ τ (RHO π) (KQ (some (.int (iI (σ 110 5)))) 117 KD (up2 (up2 σ 110 0 0) 110 5 0) τ (RHO π)) := by
  refine ct_intro (own := "ShapedRowsModel") rfl (by decide +kernel) (Nat.le_of_ble_eq_true rfl) (L := _) rfl ?_
  refine r_aload_n dX6_clearBuffer_0 rfl (by rfl) ?_
  refine r_iconst dX6_clearBuffer_1 ?_
  refine r_put_i kX6_25 dX6_clearBuffer_2 KD_110 ?_
  refine r_aload_n dX6_clearBuffer_5 rfl (by rfl) ?_
  refine r_get_i kX6_151 dX6_clearBuffer_6 KD_110 ?_
  refine r_istore_n dX6_clearBuffer_9 rfl (Nat.le_of_ble_eq_true rfl) (L' := [_, _]) (by rfl) ?_
  refine r_aload_n dX6_clearBuffer_10 rfl (by rfl) ?_
  refine r_iconst dX6_clearBuffer_11 ?_
  refine r_put_i kX6_151 dX6_clearBuffer_12 KD_110 ?_
  refine r_iload_n dX6_clearBuffer_15 rfl (by rfl) ?_
  exact r_ret_i dX6_clearBuffer_16 rfl ⟨Nat.zero_le _, Nat.zero_le _⟩ (by rw [up2_el _ _ _ (by decide)]) ⟨rfl, rfl, (by first | rfl | omega), rfl, rfl⟩
