/-! the model: the values of a row, read by a shape -/
def rdK (σ : ST) (r : Int) (k : Nat) : ST := cpR (up2 σ 110 7 (gM σ (oM σ r 0) 0)) 114 0 k (fun j => oM σ r (2 + (j : Int)))
def rdB (σ : ST) (r : Int) : ST := rdK σ r (gM σ (oM σ r 0) 0).toNat
theorem rdK_1 (σ : ST) (r : Int) (k : Nat) : rdK σ r k 111 = σ 111 := by unfold rdK; rw [cpR_off _ _ _ _ (by decide), up2_off _ (by decide)]
theorem rdK_7 (σ : ST) (r : Int) (k : Nat) : rdK σ r k 110 7 = gM σ (oM σ r 0) 0 := by unfold rdK; rw [cpR_off _ _ _ _ (by decide), up2_at]
theorem rdK_s (σ : ST) (r : Int) (k : Nat) : up2 (rdK σ r k) 114 k (oM σ r (2 + (k : Int))) = rdK σ r (k + 1) := by
  have e := cpR_up (up2 σ 110 7 (gM σ (oM σ r 0) 0)) 114 0 k (fun j => oM σ r (2 + (j : Int)))
  rw [Nat.zero_add] at e
  exact e
theorem oM_cg {σ σ' : ST} (h : σ' 111 = σ 111) (r w : Int) : oM σ' r w = oM σ r w := by unfold oM; rw [h]

set_option maxRecDepth 100000 in
set_option maxHeartbeats 4000000 in
theorem ct_X6_reads {l : Launch} {G : GG} {π : Nat → Option Nat} {σ τ : ST} (hJ : MJ σ) (r s : Int) (r0 : 0 ≤ r) (r1 : r < σ 111 2) (s0 : 0 ≤ s) (s1 : s < σ 111 0) (hV : ∀ n : Nat, (n : Int) < s - oM σ r 0 → okV (gvI (rdB σ r) (oM σ r 0) n) (oM σ r 0 + (n : Int) + 1)) (hW : ∀ n : Nat, (n : Int) < oM σ r 0 - s → okW (gbI (gvI (rdB σ r) (oM σ r 0) (s - oM σ r 0).toNat) (oM σ r 0) n) (oM σ r 0 - (n : Int))) : Ct l G mX6_reads (3, 0, 0) [.ref 110, .int (iI r), .int (iI s)] 117 KD σ τ (RHO π) (KQ none 117 KD (goM (rdB σ r) (oM σ r 0) s) τ (RHO π)) := by
  have hz := hJ.sz
  have hmk := hJ.mk
  have hro := hJ.ro
  have hrs := hJ.rs r r0 r1
  have hw := hJ.wd (oM σ r 0) hrs.1 hrs.2
  have b1 : rdB σ r 111 = σ 111 := rdK_1 σ r _
  have bJ : MJ (rdB σ r) := MJ_cg b1 hJ
  refine ct_intro (own := "ShapedRowsModel") rfl (by decide +kernel) (Nat.le_of_ble_eq_true rfl) (L := _) rfl ?_
  have cut_17 : ∀ (N : Nat) (k : Int), (0 ≤ k) → (k ≤ gM σ (oM σ r 0) 0) → gM σ (oM σ r 0) 0 - k < (N : Int) → WP l G "ShapedRowsModel" mX6_reads (3, 0, 0) (KQ none 117 KD (goM (rdB σ r) (oM σ r 0) s) τ (RHO π)) noX 117 17 [some (.ref 110), some (.int (iI r)), some (.int (iI s)), some (.int (iI k))] [] 117 KD (rdK σ r k.toNat) τ (RHO π) 0 0 := by
    intro N
    induction N with
    | zero => intro k k0 k1 hm; exact absurd hm (by omega)
    | succ N ih =>
      intro k k0 k1 hm
      have i7 := rdK_7 σ r k.toNat
      have i1 := rdK_1 σ r k.toNat
      refine r_iload_n dX6_reads_17 rfl (by rfl) ?_
      refine r_aload_n dX6_reads_18 rfl (by rfl) ?_
      refine r_get_i kX6_98 dX6_reads_19 KD_110 ?_
      rw [i7]
      refine r_icmp_ge (tgt := 45) dX6_reads_22 (by decide) (by unfold inR; omega) (by unfold inR; omega) (fun c_1 => ?_) (fun c_1 => ?_)
      · refine WP.mem (show rdK σ r k.toNat = rdB σ r by unfold rdB; rw [show k = gM σ (oM σ r 0) 0 by omega]) ?_
        refine r_aload_n dX6_reads_45 rfl (by rfl) ?_
        refine r_aload_n dX6_reads_46 rfl (by rfl) ?_
        refine r_iload_n dX6_reads_47 rfl (by rfl) ?_
        refine r_iconst dX6_reads_48 ?_
        refine r_callV2 (ct_X6_rowOf _ _ (by first | exact bJ | exact hV | exact hW | (rw [b1]; omega) | omega | (unfold inR; omega)) (by first | exact bJ | exact hV | exact hW | (rw [b1]; omega) | omega | (unfold inR; omega))) fX6_rowOf qX6_108 dX6_reads_49 KD_110 (by decide) ⟨Nat.zero_le _, Nat.zero_le _⟩ (Nat.le_of_ble_eq_true rfl) ?_
        rw [oM_cg b1]
        refine r_iload_n dX6_reads_52 rfl (by rfl) ?_
        refine r_callV2 (ct_X6_goes (by first | exact bJ | exact hV | exact hW | (rw [b1]; omega) | omega | (unfold inR; omega)) _ _ (by first | exact bJ | exact hV | exact hW | (rw [b1]; omega) | omega | (unfold inR; omega)) (by first | exact bJ | exact hV | exact hW | (rw [b1]; omega) | omega | (unfold inR; omega)) (by first | exact bJ | exact hV | exact hW | (rw [b1]; omega) | omega | (unfold inR; omega)) (by first | exact bJ | exact hV | exact hW | (rw [b1]; omega) | omega | (unfold inR; omega)) (by first | exact bJ | exact hV | exact hW | (rw [b1]; omega) | omega | (unfold inR; omega)) (by first | exact bJ | exact hV | exact hW | (rw [b1]; omega) | omega | (unfold inR; omega))) fX6_goes qX6_111 dX6_reads_53 KD_110 (by decide) ⟨Nat.zero_le _, Nat.zero_le _⟩ (Nat.le_of_ble_eq_true rfl) ?_
        exact r_ret_v dX6_reads_56 rfl ⟨Nat.zero_le _, Nat.zero_le _⟩ ⟨rfl, rfl, (by first | rfl | omega), rfl, rfl⟩
      · refine r_aload_n dX6_reads_25 rfl (by rfl) ?_
        refine r_get_r kX6_19 dX6_reads_26 KD_110 (RHO_110_6 _) ?_
        refine r_iload_n dX6_reads_29 rfl (by rfl) ?_
        refine r_aload_n dX6_reads_30 rfl (by rfl) ?_
        refine r_iload_n dX6_reads_31 rfl (by rfl) ?_
        refine r_iconst dX6_reads_32 ?_
        refine r_iload_n dX6_reads_33 rfl (by rfl) ?_
        refine r_iadd dX6_reads_34 ?_
        refine r_callV2 (ct_X6_rowOf _ _ (by first | exact bJ | exact hV | exact hW | (rw [b1]; omega) | omega | (unfold inR; omega)) (by first | exact bJ | exact hV | exact hW | (rw [b1]; omega) | omega | (unfold inR; omega))) fX6_rowOf qX6_108 dX6_reads_35 KD_110 (by decide) ⟨Nat.zero_le _, Nat.zero_le _⟩ (Nat.le_of_ble_eq_true rfl) ?_
        refine r_iast dX6_reads_38 KD_114 (by omega) (by omega) (by first | decide | omega) ?_
        refine r_iinc dX6_reads_39 (by rfl) (Nat.le_of_ble_eq_true rfl) (L' := [_, _, _, _]) (by rfl) ?_
        refine r_goto (tgt := 17) dX6_reads_42 (by decide) ?_
        refine WP.mem (σ' := rdK σ r (k + 1).toNat) ?_ (ih (k + 1) (by omega) (by omega) (by omega))
        rw [show (k + 1).toNat = k.toNat + 1 by omega, ← rdK_s, oM_cg i1, show ((k.toNat : Nat) : Int) = k by omega]
  refine r_aload_n dX6_reads_0 rfl (by rfl) ?_
  refine r_aload_n dX6_reads_1 rfl (by rfl) ?_
  refine r_aload_n dX6_reads_2 rfl (by rfl) ?_
  refine r_iload_n dX6_reads_3 rfl (by rfl) ?_
  refine r_iconst dX6_reads_4 ?_
  refine r_callV2 (ct_X6_rowOf _ _ (by first | exact bJ | exact hV | exact hW | (rw [b1]; omega) | omega | (unfold inR; omega)) (by first | exact bJ | exact hV | exact hW | (rw [b1]; omega) | omega | (unfold inR; omega))) fX6_rowOf qX6_108 dX6_reads_5 KD_110 (by decide) ⟨Nat.zero_le _, Nat.zero_le _⟩ (Nat.le_of_ble_eq_true rfl) ?_
  refine r_iconst dX6_reads_8 ?_
  refine r_callV2 (ct_X6_get _ _ (by first | exact bJ | exact hV | exact hW | (rw [b1]; omega) | omega | (unfold inR; omega)) (by first | exact bJ | exact hV | exact hW | (rw [b1]; omega) | omega | (unfold inR; omega))) fX6_get qX6_36 dX6_reads_9 KD_110 (by decide) ⟨Nat.zero_le _, Nat.zero_le _⟩ (Nat.le_of_ble_eq_true rfl) ?_
  refine r_put_i kX6_98 dX6_reads_12 KD_110 ?_
  refine r_iconst dX6_reads_15 ?_
  refine r_istore_n dX6_reads_16 rfl (Nat.le_of_ble_eq_true rfl) (L' := [_, _, _, _]) (by rfl) ?_
  refine WP.mem (σ' := rdK σ r (0 : Int).toNat) ?_ (cut_17 9 0 (by omega) (by omega) (by omega))
  unfold rdK
  rw [show (0 : Int).toNat = 0 from rfl, cpR_0]
