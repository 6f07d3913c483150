/-! the model: an order carried out -/
theorem cE_rng (x y z e : Int) : 0 ≤ cE x y z e ∧ cE x y z e ≤ 4 := by
  unfold cE
  (repeat' split) <;> omega
set_option maxRecDepth 100000 in
set_option maxHeartbeats 4000000 in
theorem ct_X6_doesR {l : Launch} {G : GG} {π : Nat → Option Nat} {σ τ : ST} (d : ST) (hD : Rel d σ) (hT : TI d) (n : Nat) (hn6 : n < 64) (f e : Int) (hO : OD d σ n f e) : Ct l G mX6_does (6, 0, 0) [.ref 110, .int (iI (n : Int))] 117 KD σ τ (RHO π) (KG (some (.int (iI (exA d f e)))) (fun σ' => Rel (exO d f e) σ' ∧ GM σ σ') τ π) := by
  have hP := hO.ok hT
  have ho := hO.1
  unfold ORd at ho
  have hn := hD.nm
  have hsz := hD.ci.sz
  have hro := hD.ci.ro
  have hwi := hD.wi
  have i0 : σ 115 (4 * (n : Int)).toNat = σ 115 (4 * n) := by congr 1
  have i1 : σ 115 (4 * (n : Int) + 1).toNat = σ 115 (4 * n + 1) := by congr 1
  have i2 : σ 115 (4 * (n : Int) + 2).toNat = σ 115 (4 * n + 2) := by congr 1
  have i3 : σ 115 (4 * (n : Int) + 3).toNat = σ 115 (4 * n + 3) := by congr 1
  refine ct_intro (own := "ShapedRowsModel") rfl (by decide +kernel) (Nat.le_of_ble_eq_true rfl) (L := _) rfl ?_
  refine r_aload_n dX6_does_0 rfl (by rfl) ?_
  refine r_get_r kX6_22 dX6_does_1 KD_110 (RHO_110_10 _) ?_
  refine r_iconst dX6_does_4 ?_
  refine r_iload_n dX6_does_5 rfl (by rfl) ?_
  refine r_imul dX6_does_6 ?_
  refine r_iconst dX6_does_7 ?_
  refine r_iadd dX6_does_8 ?_
  refine r_iald dX6_does_9 KD_115 (by omega) (by omega) (by first | decide | omega) ?_
  rw [i1]
  refine r_istore_n dX6_does_10 rfl (Nat.le_of_ble_eq_true rfl) (L' := [_, _, _, _, _]) (by rfl) ?_
  refine r_aload_n dX6_does_11 rfl (by rfl) ?_
  refine r_get_r kX6_22 dX6_does_12 KD_110 (RHO_110_10 _) ?_
  refine r_iconst dX6_does_15 ?_
  refine r_iload_n dX6_does_16 rfl (by rfl) ?_
  refine r_imul dX6_does_17 ?_
  refine r_iconst dX6_does_18 ?_
  refine r_iadd dX6_does_19 ?_
  refine r_iald dX6_does_20 KD_115 (by omega) (by omega) (by first | decide | omega) ?_
  rw [i2]
  refine r_istore_n dX6_does_21 rfl (Nat.le_of_ble_eq_true rfl) (L' := [_, _, _, _, _]) (by rfl) ?_
  refine r_aload_n dX6_does_22 rfl (by rfl) ?_
  refine r_get_r kX6_22 dX6_does_23 KD_110 (RHO_110_10 _) ?_
  refine r_iconst dX6_does_26 ?_
  refine r_iload_n dX6_does_27 rfl (by rfl) ?_
  refine r_imul dX6_does_28 ?_
  refine r_iconst dX6_does_29 ?_
  refine r_iadd dX6_does_30 ?_
  refine r_iald dX6_does_31 KD_115 (by omega) (by omega) (by first | decide | omega) ?_
  rw [i3]
  refine r_istore dX6_does_32 (Nat.le_of_ble_eq_true rfl) (L' := [_, _, _, _, _]) (by rfl) ?_
  refine r_aload_n dX6_does_34 rfl (by rfl) ?_
  refine r_get_r kX6_22 dX6_does_35 KD_110 (RHO_110_10 _) ?_
  refine r_iconst dX6_does_38 ?_
  refine r_iload_n dX6_does_39 rfl (by rfl) ?_
  refine r_imul dX6_does_40 ?_
  refine r_iald dX6_does_41 KD_115 (by omega) (by omega) (by first | decide | omega) ?_
  rw [i0]
  rcases (show (σ 115 (4 * n)) = 1 ∨ (σ 115 (4 * n)) = 2 ∨ (σ 115 (4 * n)) = 3 ∨ (σ 115 (4 * n)) = 4 ∨ (σ 115 (4 * n)) = 5 ∨ (σ 115 (4 * n)) = 6 ∨ ((σ 115 (4 * n)) < 1 ∨ 6 < (σ 115 (4 * n))) by omega) with t_1 | t_1 | t_1 | t_1 | t_1 | t_1 | t_1
  · refine r_tsw (tgt := 80) (a := (σ 115 (4 * n))) dX6_does_42 (by unfold inR; omega) (by omega) (by omega) (by rw [t_1]; rfl) (by decide) ?_
    obtain ⟨f43, f61, hx, hy⟩ : cdF d f = 43 ∧ cdF d (f + 2) = 61 ∧ σ 115 (4 * n + 1) = letF d (f + 1) ∧ σ 115 (4 * n + 2) = nbF d (f + 3) (e - (f + 3)).toNat := by
      rcases ho with q | q | q | q | q | q
      all_goals first | exact q.2 | (exfalso; omega)
    have hl1 := hP.1.2.2.2.1 (Or.inl f43)
    have hnb := hP.2.1 (Or.inr ⟨f43, f61⟩)
    have hA : exA d f e = if d 2 0 < 12 ∧ plc d (d 2 0 - 1).toNat (letF d (f + 1)) = -1 then 1 else 0 := by
      unfold exA
      rw [if_pos f43, if_pos f61]
    have hX : exO d f e = if d 2 0 < 12 ∧ plc d (d 2 0 - 1).toNat (letF d (f + 1)) = -1 then exN d (letF d (f + 1)) (nbF d (f + 3) (e - (f + 3)).toNat) else d := by
      unfold exO
      rw [if_pos f43, if_pos f61]
    rw [hx, hy]
    refine r_aload_n dX6_does_80 rfl (by rfl) ?_
    refine r_iload_n dX6_does_81 rfl (by rfl) ?_
    refine r_iload_n dX6_does_82 rfl (by rfl) ?_
    refine r_callV2 (ct_X6_refusesNumber (by first | exact hD.mj | exact hwi _ hl1.1 hl1.2 (by rw [hn.1, pl_eq hD (by omega) (by omega)]; exact C.2) | exact hwi _ hl1.1 hl1.2 (by rw [hn.1, pl_eq hD (by omega) (by omega)]; exact C.2.1) | (rw [hn.1, pl_eq hD (by omega) (by omega)]; exact C.2) | (rw [hn.1, pl_eq hD (by omega) (by omega)]; exact C.2.1) | omega | (unfold inR; omega)) _ (by first | exact hD.mj | exact hwi _ hl1.1 hl1.2 (by rw [hn.1, pl_eq hD (by omega) (by omega)]; exact C.2) | exact hwi _ hl1.1 hl1.2 (by rw [hn.1, pl_eq hD (by omega) (by omega)]; exact C.2.1) | (rw [hn.1, pl_eq hD (by omega) (by omega)]; exact C.2) | (rw [hn.1, pl_eq hD (by omega) (by omega)]; exact C.2.1) | omega | (unfold inR; omega)) _ (by first | exact hD.mj | exact hwi _ hl1.1 hl1.2 (by rw [hn.1, pl_eq hD (by omega) (by omega)]; exact C.2) | exact hwi _ hl1.1 hl1.2 (by rw [hn.1, pl_eq hD (by omega) (by omega)]; exact C.2.1) | (rw [hn.1, pl_eq hD (by omega) (by omega)]; exact C.2) | (rw [hn.1, pl_eq hD (by omega) (by omega)]; exact C.2.1) | omega | (unfold inR; omega))) fX6_refusesNumber qX6_69 dX6_does_83 KD_110 (by decide) ⟨Nat.zero_le _, Nat.zero_le _⟩ (Nat.le_of_ble_eq_true rfl) ?_
    rw [rfN hD]
    have hce := cE_rng 1 2 9 (er_addNumber d (letF d (f + 1)) (nbF d (f + 3) (e - (f + 3)).toNat))
    refine r_if_eq (tgt := 91) dX6_does_86 (by decide) (by unfold inR; omega) (fun hq => ?_) (fun hq => ?_)
    · have C : d 2 0 < 12 ∧ plc d (d 2 0 - 1).toNat (letF d (f + 1)) = -1 := by
        have q := cE_0.mp hq
        unfold er_addNumber at q
        (repeat' split at q) <;> omega
      refine r_aload_n dX6_does_91 rfl (by rfl) ?_
      refine r_iload_n dX6_does_92 rfl (by rfl) ?_
      refine r_iload_n dX6_does_93 rfl (by rfl) ?_
      refine r_callV2 (ct_X6_addsNumber (by first | exact hD.mj | exact hwi _ hl1.1 hl1.2 (by rw [hn.1, pl_eq hD (by omega) (by omega)]; exact C.2) | exact hwi _ hl1.1 hl1.2 (by rw [hn.1, pl_eq hD (by omega) (by omega)]; exact C.2.1) | (rw [hn.1, pl_eq hD (by omega) (by omega)]; exact C.2) | (rw [hn.1, pl_eq hD (by omega) (by omega)]; exact C.2.1) | omega | (unfold inR; omega)) (by first | exact hD.mj | exact hwi _ hl1.1 hl1.2 (by rw [hn.1, pl_eq hD (by omega) (by omega)]; exact C.2) | exact hwi _ hl1.1 hl1.2 (by rw [hn.1, pl_eq hD (by omega) (by omega)]; exact C.2.1) | (rw [hn.1, pl_eq hD (by omega) (by omega)]; exact C.2) | (rw [hn.1, pl_eq hD (by omega) (by omega)]; exact C.2.1) | omega | (unfold inR; omega)) (by first | exact hD.mj | exact hwi _ hl1.1 hl1.2 (by rw [hn.1, pl_eq hD (by omega) (by omega)]; exact C.2) | exact hwi _ hl1.1 hl1.2 (by rw [hn.1, pl_eq hD (by omega) (by omega)]; exact C.2.1) | (rw [hn.1, pl_eq hD (by omega) (by omega)]; exact C.2) | (rw [hn.1, pl_eq hD (by omega) (by omega)]; exact C.2.1) | omega | (unfold inR; omega)) _ _) fX6_addsNumber qX6_75 dX6_does_94 KD_110 (by decide) ⟨Nat.zero_le _, Nat.zero_le _⟩ (Nat.le_of_ble_eq_true rfl) ?_
      refine r_iconst dX6_does_97 ?_
      exact r_ret_zg dX6_does_98 rfl ⟨Nat.zero_le _, Nat.zero_le _⟩ (Or.inr rfl) (by rw [hA, if_pos C]) (by exact ⟨by rw [hX, if_pos C]; exact Rel_exN hD C.1 (by omega) (by omega) C.2, GM_m (fun p hp => an_r _ _ _ hp)⟩)
    · have C : ¬ (d 2 0 < 12 ∧ plc d (d 2 0 - 1).toNat (letF d (f + 1)) = -1) := fun z => hq (cE_0.mpr (by
        have i1 := fun a => plc_in hD.ci (s := (d 2 0 - 1).toNat) (a := a)
        unfold er_addNumber
        rw [if_pos (by omega), if_pos z]))
      refine r_iconst dX6_does_89 ?_
      exact r_ret_zg dX6_does_90 rfl ⟨Nat.zero_le _, Nat.zero_le _⟩ (Or.inl rfl) (by rw [hA, if_neg C]) (by exact ⟨by rw [hX, if_neg C]; exact hD, GM.rf σ⟩)
  · refine r_tsw (tgt := 99) (a := (σ 115 (4 * n))) dX6_does_42 (by unfold inR; omega) (by omega) (by omega) (by rw [t_1]; rfl) (by decide) ?_
    obtain ⟨f43, f61, hx, hy, hz⟩ : cdF d f = 43 ∧ cdF d (f + 2) ≠ 61 ∧ σ 115 (4 * n + 1) = letF d (f + 1) ∧ σ 115 (4 * n + 2) = letF d (f + 3) ∧ σ 115 (4 * n + 3) = afW d f e := by
      rcases ho with q | q | q | q | q | q
      all_goals first | exact q.2 | (exfalso; omega)
    have hl1 := hP.1.2.2.2.1 (Or.inl f43)
    have hl3 : -98 ≤ letF d (f + 3) ∧ letF d (f + 3) ≤ 30 := by
      have := cdF_rng hT (f + 3)
      unfold letF
      omega
    have hlw : -98 ≤ afW d f e ∧ afW d f e ≤ 30 := by
      have := cdF_rng hT (f + 5)
      unfold afW letF
      split <;> omega
    have hA : exA d f e = if d 2 0 < 12 ∧ plc d (d 2 0 - 1).toNat (letF d (f + 1)) = -1 ∧ plc d (d 2 0 - 1).toNat (letF d (f + 3)) ≠ -1 ∧ (afW d f e = -1 ∨ plc d (d 2 0 - 1).toNat (afW d f e) ≠ -1) then 1 else 0 := by
      unfold exA
      rw [if_pos f43, if_neg f61]
    have hX : exO d f e = if d 2 0 < 12 ∧ plc d (d 2 0 - 1).toNat (letF d (f + 1)) = -1 ∧ plc d (d 2 0 - 1).toNat (letF d (f + 3)) ≠ -1 ∧ (afW d f e = -1 ∨ plc d (d 2 0 - 1).toNat (afW d f e) ≠ -1) then exC d (letF d (f + 1)) (letF d (f + 3)) (afW d f e) else d := by
      unfold exO
      rw [if_pos f43, if_neg f61]
    rw [hx, hy, hz]
    refine r_aload_n dX6_does_99 rfl (by rfl) ?_
    refine r_iload_n dX6_does_100 rfl (by rfl) ?_
    refine r_iload_n dX6_does_101 rfl (by rfl) ?_
    refine r_iload dX6_does_102 (by rfl) ?_
    refine r_callV3 (ct_X6_refusesCopy (by first | exact hD.mj | exact hwi _ hl1.1 hl1.2 (by rw [hn.1, pl_eq hD (by omega) (by omega)]; exact C.2) | exact hwi _ hl1.1 hl1.2 (by rw [hn.1, pl_eq hD (by omega) (by omega)]; exact C.2.1) | (rw [hn.1, pl_eq hD (by omega) (by omega)]; exact C.2) | (rw [hn.1, pl_eq hD (by omega) (by omega)]; exact C.2.1) | omega | (unfold inR; omega)) _ (by first | exact hD.mj | exact hwi _ hl1.1 hl1.2 (by rw [hn.1, pl_eq hD (by omega) (by omega)]; exact C.2) | exact hwi _ hl1.1 hl1.2 (by rw [hn.1, pl_eq hD (by omega) (by omega)]; exact C.2.1) | (rw [hn.1, pl_eq hD (by omega) (by omega)]; exact C.2) | (rw [hn.1, pl_eq hD (by omega) (by omega)]; exact C.2.1) | omega | (unfold inR; omega)) _ (by first | exact hD.mj | exact hwi _ hl1.1 hl1.2 (by rw [hn.1, pl_eq hD (by omega) (by omega)]; exact C.2) | exact hwi _ hl1.1 hl1.2 (by rw [hn.1, pl_eq hD (by omega) (by omega)]; exact C.2.1) | (rw [hn.1, pl_eq hD (by omega) (by omega)]; exact C.2) | (rw [hn.1, pl_eq hD (by omega) (by omega)]; exact C.2.1) | omega | (unfold inR; omega)) _ (by first | exact hD.mj | exact hwi _ hl1.1 hl1.2 (by rw [hn.1, pl_eq hD (by omega) (by omega)]; exact C.2) | exact hwi _ hl1.1 hl1.2 (by rw [hn.1, pl_eq hD (by omega) (by omega)]; exact C.2.1) | (rw [hn.1, pl_eq hD (by omega) (by omega)]; exact C.2) | (rw [hn.1, pl_eq hD (by omega) (by omega)]; exact C.2.1) | omega | (unfold inR; omega))) fX6_refusesCopy qX6_79 dX6_does_104 KD_110 (by decide) ⟨Nat.zero_le _, Nat.zero_le _⟩ (Nat.le_of_ble_eq_true rfl) ?_
    rw [rfC hD]
    have hce := cE_rng 1 2 9 (er_addCopy d (letF d (f + 1)) (letF d (f + 3)) (afW d f e))
    refine r_if_eq (tgt := 112) dX6_does_107 (by decide) (by unfold inR; omega) (fun hq => ?_) (fun hq => ?_)
    · have C : d 2 0 < 12 ∧ plc d (d 2 0 - 1).toNat (letF d (f + 1)) = -1 ∧ plc d (d 2 0 - 1).toNat (letF d (f + 3)) ≠ -1 ∧ (afW d f e = -1 ∨ plc d (d 2 0 - 1).toNat (afW d f e) ≠ -1) := by
        have q := cE_0.mp hq
        unfold er_addCopy at q
        (repeat' split at q) <;> omega
      refine r_aload_n dX6_does_112 rfl (by rfl) ?_
      refine r_iload_n dX6_does_113 rfl (by rfl) ?_
      refine r_iload_n dX6_does_114 rfl (by rfl) ?_
      refine r_iload dX6_does_115 (by rfl) ?_
      refine r_callV3 (ct_X6_addsCopy (by first | exact hD.mj | exact hwi _ hl1.1 hl1.2 (by rw [hn.1, pl_eq hD (by omega) (by omega)]; exact C.2) | exact hwi _ hl1.1 hl1.2 (by rw [hn.1, pl_eq hD (by omega) (by omega)]; exact C.2.1) | (rw [hn.1, pl_eq hD (by omega) (by omega)]; exact C.2) | (rw [hn.1, pl_eq hD (by omega) (by omega)]; exact C.2.1) | omega | (unfold inR; omega)) (by first | exact hD.mj | exact hwi _ hl1.1 hl1.2 (by rw [hn.1, pl_eq hD (by omega) (by omega)]; exact C.2) | exact hwi _ hl1.1 hl1.2 (by rw [hn.1, pl_eq hD (by omega) (by omega)]; exact C.2.1) | (rw [hn.1, pl_eq hD (by omega) (by omega)]; exact C.2) | (rw [hn.1, pl_eq hD (by omega) (by omega)]; exact C.2.1) | omega | (unfold inR; omega)) (by first | exact hD.mj | exact hwi _ hl1.1 hl1.2 (by rw [hn.1, pl_eq hD (by omega) (by omega)]; exact C.2) | exact hwi _ hl1.1 hl1.2 (by rw [hn.1, pl_eq hD (by omega) (by omega)]; exact C.2.1) | (rw [hn.1, pl_eq hD (by omega) (by omega)]; exact C.2) | (rw [hn.1, pl_eq hD (by omega) (by omega)]; exact C.2.1) | omega | (unfold inR; omega)) _ (by first | exact hD.mj | exact hwi _ hl1.1 hl1.2 (by rw [hn.1, pl_eq hD (by omega) (by omega)]; exact C.2) | exact hwi _ hl1.1 hl1.2 (by rw [hn.1, pl_eq hD (by omega) (by omega)]; exact C.2.1) | (rw [hn.1, pl_eq hD (by omega) (by omega)]; exact C.2) | (rw [hn.1, pl_eq hD (by omega) (by omega)]; exact C.2.1) | omega | (unfold inR; omega)) _ (by first | exact hD.mj | exact hwi _ hl1.1 hl1.2 (by rw [hn.1, pl_eq hD (by omega) (by omega)]; exact C.2) | exact hwi _ hl1.1 hl1.2 (by rw [hn.1, pl_eq hD (by omega) (by omega)]; exact C.2.1) | (rw [hn.1, pl_eq hD (by omega) (by omega)]; exact C.2) | (rw [hn.1, pl_eq hD (by omega) (by omega)]; exact C.2.1) | omega | (unfold inR; omega)) _ (by first | exact hD.mj | exact hwi _ hl1.1 hl1.2 (by rw [hn.1, pl_eq hD (by omega) (by omega)]; exact C.2) | exact hwi _ hl1.1 hl1.2 (by rw [hn.1, pl_eq hD (by omega) (by omega)]; exact C.2.1) | (rw [hn.1, pl_eq hD (by omega) (by omega)]; exact C.2) | (rw [hn.1, pl_eq hD (by omega) (by omega)]; exact C.2.1) | omega | (unfold inR; omega))) fX6_addsCopy qX6_83 dX6_does_117 KD_110 (by decide) ⟨Nat.zero_le _, Nat.zero_le _⟩ (Nat.le_of_ble_eq_true rfl) ?_
      refine r_iconst dX6_does_120 ?_
      exact r_ret_zg dX6_does_121 rfl ⟨Nat.zero_le _, Nat.zero_le _⟩ (Or.inr rfl) (by rw [hA, if_pos C]) (by exact ⟨by rw [hX, if_pos C]; exact Rel_exC hD C.1 (by omega) C.2.1 C.2.2.1 C.2.2.2 (by have i1 := fun a => plc_in hD.ci (s := (d 2 0 - 1).toNat) (a := a); have i5 : afW d f e = -1 ∨ (0 ≤ afW d f e ∧ afW d f e < 8) := C.2.2.2.elim Or.inl (fun y => Or.inr (i1 _ y)); omega), GM_m (fun p hp => ac_r _ _ _ _ hp)⟩)
    · have C : ¬ (d 2 0 < 12 ∧ plc d (d 2 0 - 1).toNat (letF d (f + 1)) = -1 ∧ plc d (d 2 0 - 1).toNat (letF d (f + 3)) ≠ -1 ∧ (afW d f e = -1 ∨ plc d (d 2 0 - 1).toNat (afW d f e) ≠ -1)) := fun z => hq (cE_0.mpr (by
        have i1 := fun a => plc_in hD.ci (s := (d 2 0 - 1).toNat) (a := a)
        unfold er_addCopy
        have i3 := i1 _ z.2.2.1
        have i5 : afW d f e = -1 ∨ (0 ≤ afW d f e ∧ afW d f e < 8) := z.2.2.2.elim Or.inl (fun y => Or.inr (i1 _ y))
        rw [if_pos (by omega), if_pos z]))
      refine r_iconst dX6_does_110 ?_
      exact r_ret_zg dX6_does_111 rfl ⟨Nat.zero_le _, Nat.zero_le _⟩ (Or.inl rfl) (by rw [hA, if_neg C]) (by exact ⟨by rw [hX, if_neg C]; exact hD, GM.rf σ⟩)
  · refine r_tsw (tgt := 183) (a := (σ 115 (4 * n))) dX6_does_42 (by unfold inR; omega) (by omega) (by omega) (by rw [t_1]; rfl) (by decide) ?_
    obtain ⟨f42, hx⟩ : cdF d f = 42 ∧ σ 115 (4 * n + 1) = nbF d (f + 1) (e - (f + 1)).toNat := by
      rcases ho with q | q | q | q | q | q
      all_goals first | exact q.2 | (exfalso; omega)
    have hnb := hP.1.2.2.2.2.2.2 (by omega)
    have f43 : ¬ cdF d f = 43 := by omega
    have f45 : ¬ cdF d f = 45 := by omega
    have f62 : ¬ cdF d f = 62 := by omega
    have f110 : ¬ cdF d f = 110 := by omega
    have hA : exA d f e = 1 := by
      unfold exA
      rw [if_neg f43, if_neg f45, if_neg f62, if_neg f110]
    have hX : exO d f e = itS d (nbF d (f + 1) (e - (f + 1)).toNat).toNat := by
      unfold exO
      rw [if_neg f43, if_neg f45, if_neg f62, if_neg f110]
    rw [hx]
    refine r_aload_n dX6_does_183 rfl (by rfl) ?_
    refine r_iload_n dX6_does_184 rfl (by rfl) ?_
    refine r_callG1 (ct_X6_goesOnR d hD (nbF d (f + 1) (e - (f + 1)).toNat) (by omega) (by omega)) fX6_goesOn qX6_142 dX6_does_185 KD_110 (by decide) ⟨Nat.zero_le _, Nat.zero_le _⟩ (Nat.le_of_ble_eq_true rfl) (fun μ1 hμ1 => ?_)
    refine r_pop dX6_does_188 rfl ?_
    refine r_iconst dX6_does_189 ?_
    exact r_ret_zg dX6_does_190 rfl ⟨Nat.zero_le _, Nat.zero_le _⟩ (Or.inr rfl) (by rw [hA]) (by exact ⟨by rw [hX]; exact hμ1.1, hμ1.2⟩)
  · refine r_tsw (tgt := 122) (a := (σ 115 (4 * n))) dX6_does_42 (by unfold inR; omega) (by omega) (by omega) (by rw [t_1]; rfl) (by decide) ?_
    obtain ⟨f45, hx, hy⟩ : cdF d f = 45 ∧ σ 115 (4 * n + 1) = letF d (f + 1) ∧ σ 115 (4 * n + 2) = nbF d (f + 3) (e - (f + 3)).toNat := by
      rcases ho with q | q | q | q | q | q
      all_goals first | exact q.2 | (exfalso; omega)
    have hl1 := hP.1.2.2.2.1 (Or.inr (Or.inl f45))
    have hnb := hP.2.1 (Or.inl f45)
    have f43 : ¬ cdF d f = 43 := by omega
    have hA : exA d f e = if d 2 0 < 12 ∧ plc d (d 2 0 - 1).toNat (letF d (f + 1)) ≠ -1 then 1 else 0 := by
      unfold exA
      rw [if_neg f43, if_pos f45]
    have hX : exO d f e = if d 2 0 < 12 ∧ plc d (d 2 0 - 1).toNat (letF d (f + 1)) ≠ -1 then lvO d (letF d (f + 1)) (nbF d (f + 3) (e - (f + 3)).toNat) else d := by
      unfold exO
      rw [if_neg f43, if_pos f45]
    rw [hx, hy]
    refine r_aload_n dX6_does_122 rfl (by rfl) ?_
    refine r_iload_n dX6_does_123 rfl (by rfl) ?_
    refine r_iload_n dX6_does_124 rfl (by rfl) ?_
    refine r_callV2 (ct_X6_refusesDrop (by first | exact hD.mj | exact hwi _ hl1.1 hl1.2 (by rw [hn.1, pl_eq hD (by omega) (by omega)]; exact C.2) | exact hwi _ hl1.1 hl1.2 (by rw [hn.1, pl_eq hD (by omega) (by omega)]; exact C.2.1) | (rw [hn.1, pl_eq hD (by omega) (by omega)]; exact C.2) | (rw [hn.1, pl_eq hD (by omega) (by omega)]; exact C.2.1) | omega | (unfold inR; omega)) _ (by first | exact hD.mj | exact hwi _ hl1.1 hl1.2 (by rw [hn.1, pl_eq hD (by omega) (by omega)]; exact C.2) | exact hwi _ hl1.1 hl1.2 (by rw [hn.1, pl_eq hD (by omega) (by omega)]; exact C.2.1) | (rw [hn.1, pl_eq hD (by omega) (by omega)]; exact C.2) | (rw [hn.1, pl_eq hD (by omega) (by omega)]; exact C.2.1) | omega | (unfold inR; omega)) _ (by first | exact hD.mj | exact hwi _ hl1.1 hl1.2 (by rw [hn.1, pl_eq hD (by omega) (by omega)]; exact C.2) | exact hwi _ hl1.1 hl1.2 (by rw [hn.1, pl_eq hD (by omega) (by omega)]; exact C.2.1) | (rw [hn.1, pl_eq hD (by omega) (by omega)]; exact C.2) | (rw [hn.1, pl_eq hD (by omega) (by omega)]; exact C.2.1) | omega | (unfold inR; omega))) fX6_refusesDrop qX6_86 dX6_does_125 KD_110 (by decide) ⟨Nat.zero_le _, Nat.zero_le _⟩ (Nat.le_of_ble_eq_true rfl) ?_
    rw [rfD hD]
    have hce := cE_rng 1 2 9 (er_drop d (letF d (f + 1)) (nbF d (f + 3) (e - (f + 3)).toNat))
    refine r_if_eq (tgt := 133) dX6_does_128 (by decide) (by unfold inR; omega) (fun hq => ?_) (fun hq => ?_)
    · have C : d 2 0 < 12 ∧ plc d (d 2 0 - 1).toNat (letF d (f + 1)) ≠ -1 := by
        have q := cE_0.mp hq
        unfold er_drop at q
        (repeat' split at q) <;> omega
      refine r_aload_n dX6_does_133 rfl (by rfl) ?_
      refine r_iload_n dX6_does_134 rfl (by rfl) ?_
      refine r_iload_n dX6_does_135 rfl (by rfl) ?_
      refine r_callV2 (ct_X6_drops (by first | exact hD.mj | exact hwi _ hl1.1 hl1.2 (by rw [hn.1, pl_eq hD (by omega) (by omega)]; exact C.2) | exact hwi _ hl1.1 hl1.2 (by rw [hn.1, pl_eq hD (by omega) (by omega)]; exact C.2.1) | (rw [hn.1, pl_eq hD (by omega) (by omega)]; exact C.2) | (rw [hn.1, pl_eq hD (by omega) (by omega)]; exact C.2.1) | omega | (unfold inR; omega)) (by first | exact hD.mj | exact hwi _ hl1.1 hl1.2 (by rw [hn.1, pl_eq hD (by omega) (by omega)]; exact C.2) | exact hwi _ hl1.1 hl1.2 (by rw [hn.1, pl_eq hD (by omega) (by omega)]; exact C.2.1) | (rw [hn.1, pl_eq hD (by omega) (by omega)]; exact C.2) | (rw [hn.1, pl_eq hD (by omega) (by omega)]; exact C.2.1) | omega | (unfold inR; omega)) _ (by first | exact hD.mj | exact hwi _ hl1.1 hl1.2 (by rw [hn.1, pl_eq hD (by omega) (by omega)]; exact C.2) | exact hwi _ hl1.1 hl1.2 (by rw [hn.1, pl_eq hD (by omega) (by omega)]; exact C.2.1) | (rw [hn.1, pl_eq hD (by omega) (by omega)]; exact C.2) | (rw [hn.1, pl_eq hD (by omega) (by omega)]; exact C.2.1) | omega | (unfold inR; omega)) _ (by first | exact hD.mj | exact hwi _ hl1.1 hl1.2 (by rw [hn.1, pl_eq hD (by omega) (by omega)]; exact C.2) | exact hwi _ hl1.1 hl1.2 (by rw [hn.1, pl_eq hD (by omega) (by omega)]; exact C.2.1) | (rw [hn.1, pl_eq hD (by omega) (by omega)]; exact C.2) | (rw [hn.1, pl_eq hD (by omega) (by omega)]; exact C.2.1) | omega | (unfold inR; omega))) fX6_drops qX6_89 dX6_does_136 KD_110 (by decide) ⟨Nat.zero_le _, Nat.zero_le _⟩ (Nat.le_of_ble_eq_true rfl) ?_
      refine r_iconst dX6_does_139 ?_
      exact r_ret_zg dX6_does_140 rfl ⟨Nat.zero_le _, Nat.zero_le _⟩ (Or.inr rfl) (by rw [hA, if_pos C]) (by exact ⟨by rw [hX, if_pos C]; exact Rel_lvO hD C.1 (by omega) C.2, GM_m (fun p hp => dp_r _ _ _ hp)⟩)
    · have C : ¬ (d 2 0 < 12 ∧ plc d (d 2 0 - 1).toNat (letF d (f + 1)) ≠ -1) := fun z => hq (cE_0.mpr (by
        have i1 := fun a => plc_in hD.ci (s := (d 2 0 - 1).toNat) (a := a)
        unfold er_drop
        rw [if_pos (by omega), if_pos z]))
      refine r_iconst dX6_does_131 ?_
      exact r_ret_zg dX6_does_132 rfl ⟨Nat.zero_le _, Nat.zero_le _⟩ (Or.inl rfl) (by rw [hA, if_neg C]) (by exact ⟨by rw [hX, if_neg C]; exact hD, GM.rf σ⟩)
  · refine r_tsw (tgt := 141) (a := (σ 115 (4 * n))) dX6_does_42 (by unfold inR; omega) (by omega) (by omega) (by rw [t_1]; rfl) (by decide) ?_
    obtain ⟨f62, hx, hy⟩ : cdF d f = 62 ∧ σ 115 (4 * n + 1) = letF d (f + 1) ∧ σ 115 (4 * n + 2) = letF d (f + 2) := by
      rcases ho with q | q | q | q | q | q
      all_goals first | exact q.2 | (exfalso; omega)
    have hl1 := hP.1.2.2.2.1 (Or.inr (Or.inr f62))
    have hl2 := hP.2.2 f62
    have f43 : ¬ cdF d f = 43 := by omega
    have f45 : ¬ cdF d f = 45 := by omega
    have hA : exA d f e = if d 2 0 < 12 ∧ plc d (d 2 0 - 1).toNat (letF d (f + 1)) ≠ -1 ∧ plc d (d 2 0 - 1).toNat (letF d (f + 2)) = -1 then 1 else 0 := by
      unfold exA
      rw [if_neg f43, if_neg f45, if_pos f62]
    have hX : exO d f e = if d 2 0 < 12 ∧ plc d (d 2 0 - 1).toNat (letF d (f + 1)) ≠ -1 ∧ plc d (d 2 0 - 1).toNat (letF d (f + 2)) = -1 then xcL d (letF d (f + 1)) (letF d (f + 2)) else d := by
      unfold exO
      rw [if_neg f43, if_neg f45, if_pos f62]
    rw [hx, hy]
    refine r_aload_n dX6_does_141 rfl (by rfl) ?_
    refine r_iload_n dX6_does_142 rfl (by rfl) ?_
    refine r_iload_n dX6_does_143 rfl (by rfl) ?_
    refine r_callV2 (ct_X6_refusesRename (by first | exact hD.mj | exact hwi _ hl1.1 hl1.2 (by rw [hn.1, pl_eq hD (by omega) (by omega)]; exact C.2) | exact hwi _ hl1.1 hl1.2 (by rw [hn.1, pl_eq hD (by omega) (by omega)]; exact C.2.1) | (rw [hn.1, pl_eq hD (by omega) (by omega)]; exact C.2) | (rw [hn.1, pl_eq hD (by omega) (by omega)]; exact C.2.1) | omega | (unfold inR; omega)) _ (by first | exact hD.mj | exact hwi _ hl1.1 hl1.2 (by rw [hn.1, pl_eq hD (by omega) (by omega)]; exact C.2) | exact hwi _ hl1.1 hl1.2 (by rw [hn.1, pl_eq hD (by omega) (by omega)]; exact C.2.1) | (rw [hn.1, pl_eq hD (by omega) (by omega)]; exact C.2) | (rw [hn.1, pl_eq hD (by omega) (by omega)]; exact C.2.1) | omega | (unfold inR; omega)) _ (by first | exact hD.mj | exact hwi _ hl1.1 hl1.2 (by rw [hn.1, pl_eq hD (by omega) (by omega)]; exact C.2) | exact hwi _ hl1.1 hl1.2 (by rw [hn.1, pl_eq hD (by omega) (by omega)]; exact C.2.1) | (rw [hn.1, pl_eq hD (by omega) (by omega)]; exact C.2) | (rw [hn.1, pl_eq hD (by omega) (by omega)]; exact C.2.1) | omega | (unfold inR; omega))) fX6_refusesRename qX6_92 dX6_does_144 KD_110 (by decide) ⟨Nat.zero_le _, Nat.zero_le _⟩ (Nat.le_of_ble_eq_true rfl) ?_
    rw [rfR hD]
    have hce := cE_rng 1 2 9 (er_rename d (letF d (f + 1)) (letF d (f + 2)))
    refine r_if_eq (tgt := 152) dX6_does_147 (by decide) (by unfold inR; omega) (fun hq => ?_) (fun hq => ?_)
    · have C : d 2 0 < 12 ∧ plc d (d 2 0 - 1).toNat (letF d (f + 1)) ≠ -1 ∧ plc d (d 2 0 - 1).toNat (letF d (f + 2)) = -1 := by
        have q := cE_0.mp hq
        unfold er_rename at q
        (repeat' split at q) <;> omega
      refine r_aload_n dX6_does_152 rfl (by rfl) ?_
      refine r_iload_n dX6_does_153 rfl (by rfl) ?_
      refine r_iload_n dX6_does_154 rfl (by rfl) ?_
      refine r_callV2 (ct_X6_renames (by first | exact hD.mj | exact hwi _ hl1.1 hl1.2 (by rw [hn.1, pl_eq hD (by omega) (by omega)]; exact C.2) | exact hwi _ hl1.1 hl1.2 (by rw [hn.1, pl_eq hD (by omega) (by omega)]; exact C.2.1) | (rw [hn.1, pl_eq hD (by omega) (by omega)]; exact C.2) | (rw [hn.1, pl_eq hD (by omega) (by omega)]; exact C.2.1) | omega | (unfold inR; omega)) (by first | exact hD.mj | exact hwi _ hl1.1 hl1.2 (by rw [hn.1, pl_eq hD (by omega) (by omega)]; exact C.2) | exact hwi _ hl1.1 hl1.2 (by rw [hn.1, pl_eq hD (by omega) (by omega)]; exact C.2.1) | (rw [hn.1, pl_eq hD (by omega) (by omega)]; exact C.2) | (rw [hn.1, pl_eq hD (by omega) (by omega)]; exact C.2.1) | omega | (unfold inR; omega)) _ (by first | exact hD.mj | exact hwi _ hl1.1 hl1.2 (by rw [hn.1, pl_eq hD (by omega) (by omega)]; exact C.2) | exact hwi _ hl1.1 hl1.2 (by rw [hn.1, pl_eq hD (by omega) (by omega)]; exact C.2.1) | (rw [hn.1, pl_eq hD (by omega) (by omega)]; exact C.2) | (rw [hn.1, pl_eq hD (by omega) (by omega)]; exact C.2.1) | omega | (unfold inR; omega)) _ (by first | exact hD.mj | exact hwi _ hl1.1 hl1.2 (by rw [hn.1, pl_eq hD (by omega) (by omega)]; exact C.2) | exact hwi _ hl1.1 hl1.2 (by rw [hn.1, pl_eq hD (by omega) (by omega)]; exact C.2.1) | (rw [hn.1, pl_eq hD (by omega) (by omega)]; exact C.2) | (rw [hn.1, pl_eq hD (by omega) (by omega)]; exact C.2.1) | omega | (unfold inR; omega)) (by first | exact hD.mj | exact hwi _ hl1.1 hl1.2 (by rw [hn.1, pl_eq hD (by omega) (by omega)]; exact C.2) | exact hwi _ hl1.1 hl1.2 (by rw [hn.1, pl_eq hD (by omega) (by omega)]; exact C.2.1) | (rw [hn.1, pl_eq hD (by omega) (by omega)]; exact C.2) | (rw [hn.1, pl_eq hD (by omega) (by omega)]; exact C.2.1) | omega | (unfold inR; omega))) fX6_renames qX6_95 dX6_does_155 KD_110 (by decide) ⟨Nat.zero_le _, Nat.zero_le _⟩ (Nat.le_of_ble_eq_true rfl) ?_
      refine r_iconst dX6_does_158 ?_
      exact r_ret_zg dX6_does_159 rfl ⟨Nat.zero_le _, Nat.zero_le _⟩ (Or.inr rfl) (by rw [hA, if_pos C]) (by exact ⟨by rw [hX, if_pos C]; exact Rel_xcL hD C.1 (by omega) C.2.1 C.2.2, GM_m (fun p hp => rn_r _ _ _ hp)⟩)
    · have C : ¬ (d 2 0 < 12 ∧ plc d (d 2 0 - 1).toNat (letF d (f + 1)) ≠ -1 ∧ plc d (d 2 0 - 1).toNat (letF d (f + 2)) = -1) := fun z => hq (cE_0.mpr (by
        have i1 := fun a => plc_in hD.ci (s := (d 2 0 - 1).toNat) (a := a)
        unfold er_rename
        rw [if_pos (by omega), if_pos z]))
      refine r_iconst dX6_does_150 ?_
      exact r_ret_zg dX6_does_151 rfl ⟨Nat.zero_le _, Nat.zero_le _⟩ (Or.inl rfl) (by rw [hA, if_neg C]) (by exact ⟨by rw [hX, if_neg C]; exact hD, GM.rf σ⟩)
  · refine r_tsw (tgt := 160) (a := (σ 115 (4 * n))) dX6_does_42 (by unfold inR; omega) (by omega) (by omega) (by rw [t_1]; rfl) (by decide) ?_
    have f110 : cdF d f = 110 := by
      rcases ho with q | q | q | q | q | q
      all_goals first | exact q.2 | (exfalso; omega)
    have f43 : ¬ cdF d f = 43 := by omega
    have f45 : ¬ cdF d f = 45 := by omega
    have f62 : ¬ cdF d f = 62 := by omega
    have hA : exA d f e = if d 10 0 < 12 then 1 else 0 := by
      unfold exA
      rw [if_neg f43, if_neg f45, if_neg f62, if_pos f110]
    have hX : exO d f e = if d 10 0 < 12 then adR d (d 2 0 - 1) else d := by
      unfold exO
      rw [if_neg f43, if_neg f45, if_neg f62, if_pos f110]
    refine r_aload_n dX6_does_160 rfl (by rfl) ?_
    refine r_get_r kX6_7 dX6_does_161 KD_110 (RHO_110_1 _) ?_
    refine r_iconst dX6_does_164 ?_
    refine r_iaload (k := 2) dX6_does_165 KD_111 (by omega) (by omega) (by decide) ?_
    rw [hn.2.2.1]
    refine r_bipush dX6_does_166 (by decide) ?_
    refine r_icmp_ne (tgt := 173) dX6_does_168 (by decide) (by unfold inR; omega) (by unfold inR; omega) (fun hq => ?_) (fun hq => ?_)
    · have C : d 10 0 < 12 := by omega
      refine r_aload_n dX6_does_173 rfl (by rfl) ?_
      refine r_aload_n dX6_does_174 rfl (by rfl) ?_
      refine r_callV0 ct_X6_newest fX6_newest qX6_44 dX6_does_175 KD_110 (by decide) ⟨Nat.zero_le _, Nat.zero_le _⟩ (Nat.le_of_ble_eq_true rfl) ?_
      rw [hn.1]
      refine r_callV1 (ct_X6_inserts (by first | exact hD.mj | exact hwi _ hl1.1 hl1.2 (by rw [hn.1, pl_eq hD (by omega) (by omega)]; exact C.2) | exact hwi _ hl1.1 hl1.2 (by rw [hn.1, pl_eq hD (by omega) (by omega)]; exact C.2.1) | (rw [hn.1, pl_eq hD (by omega) (by omega)]; exact C.2) | (rw [hn.1, pl_eq hD (by omega) (by omega)]; exact C.2.1) | omega | (unfold inR; omega)) (by first | exact hD.mj | exact hwi _ hl1.1 hl1.2 (by rw [hn.1, pl_eq hD (by omega) (by omega)]; exact C.2) | exact hwi _ hl1.1 hl1.2 (by rw [hn.1, pl_eq hD (by omega) (by omega)]; exact C.2.1) | (rw [hn.1, pl_eq hD (by omega) (by omega)]; exact C.2) | (rw [hn.1, pl_eq hD (by omega) (by omega)]; exact C.2.1) | omega | (unfold inR; omega)) _) fX6_inserts qX6_124 dX6_does_178 KD_110 (by decide) ⟨Nat.zero_le _, Nat.zero_le _⟩ (Nat.le_of_ble_eq_true rfl) ?_
      refine r_iconst dX6_does_181 ?_
      exact r_ret_zg dX6_does_182 rfl ⟨Nat.zero_le _, Nat.zero_le _⟩ (Or.inr rfl) (by rw [hA, if_pos C]) (by exact ⟨by rw [hX, if_pos C]; exact Rel_ins hD C (by omega) (by omega), GM_m (fun p hp => in_r _ _ hp)⟩)
    · have C : ¬ d 10 0 < 12 := by omega
      refine r_iconst dX6_does_171 ?_
      exact r_ret_zg dX6_does_172 rfl ⟨Nat.zero_le _, Nat.zero_le _⟩ (Or.inl rfl) (by rw [hA, if_neg C]) (by exact ⟨by rw [hX, if_neg C]; exact hD, GM.rf σ⟩)
  · refine r_tsd (tgt := 183) (a := (σ 115 (4 * n))) dX6_does_42 (by unfold inR; omega) t_1 (by decide) ?_
    obtain ⟨f42, hx⟩ : cdF d f = 42 ∧ σ 115 (4 * n + 1) = nbF d (f + 1) (e - (f + 1)).toNat := by
      rcases ho with q | q | q | q | q | q
      all_goals first | exact q.2 | (exfalso; omega)
    have hnb := hP.1.2.2.2.2.2.2 (by omega)
    have f43 : ¬ cdF d f = 43 := by omega
    have f45 : ¬ cdF d f = 45 := by omega
    have f62 : ¬ cdF d f = 62 := by omega
    have f110 : ¬ cdF d f = 110 := by omega
    have hA : exA d f e = 1 := by
      unfold exA
      rw [if_neg f43, if_neg f45, if_neg f62, if_neg f110]
    have hX : exO d f e = itS d (nbF d (f + 1) (e - (f + 1)).toNat).toNat := by
      unfold exO
      rw [if_neg f43, if_neg f45, if_neg f62, if_neg f110]
    rw [hx]
    refine r_aload_n dX6_does_183 rfl (by rfl) ?_
    refine r_iload_n dX6_does_184 rfl (by rfl) ?_
    refine r_callG1 (ct_X6_goesOnR d hD (nbF d (f + 1) (e - (f + 1)).toNat) (by omega) (by omega)) fX6_goesOn qX6_142 dX6_does_185 KD_110 (by decide) ⟨Nat.zero_le _, Nat.zero_le _⟩ (Nat.le_of_ble_eq_true rfl) (fun μ1 hμ1 => ?_)
    refine r_pop dX6_does_188 rfl ?_
    refine r_iconst dX6_does_189 ?_
    exact r_ret_zg dX6_does_190 rfl ⟨Nat.zero_le _, Nat.zero_le _⟩ (Or.inr rfl) (by rw [hA]) (by exact ⟨by rw [hX]; exact hμ1.1, hμ1.2⟩)
