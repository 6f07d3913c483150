/-! p31: the law's writes -/
theorem svB_sr (σ : ST) (f : Nat → Int) (b : Nat → Nat) : svB (sr σ 15 f) b = svB σ b := by unfold svB; rw [sr_16]
def KW (σ τ : ST) (b : Nat → Nat) (r s a y : Int) : KK := fun v n kd σ' τ' ρ' => n = 110 ∧ kd = KD ∧ τ' = τ ∧
  ((¬ (σ 10 0 ≠ 0 ∧ refu σ r.toNat s.toNat a = 0) ∧ v = some (.int (iI 0)) ∧ ρ' = RHO (PB b) ∧ ∃ f, σ' = sr σ 15 f) ∨
   ((σ 10 0 ≠ 0 ∧ refu σ r.toNat s.toNat a = 0) ∧ v = some (.int (iI 1)) ∧ ρ' = RHO (PB (svB σ b)) ∧ ∃ f g, σ' = sr (wrV (svF (sr σ 15 f) b) r s a y) 15 g))
theorem KW_no {σ τ : ST} {b : Nat → Nat} {r s a y : Int} {f : Nat → Int} (h : ¬ (σ 10 0 ≠ 0 ∧ refu σ r.toNat s.toNat a = 0)) : KW σ τ b r s a y (some (.int (iI 0))) 110 KD (sr σ 15 f) τ (RHO (PB b)) :=
  ⟨rfl, rfl, rfl, Or.inl ⟨h, rfl, rfl, f, rfl⟩⟩
theorem KW_ys {σ τ : ST} {b : Nat → Nat} {r s a y : Int} (f g : Nat → Int) (h : σ 10 0 ≠ 0 ∧ refu σ r.toNat s.toNat a = 0) : KW σ τ b r s a y (some (.int (iI 1))) 110 KD (sr (wrV (svF (sr σ 15 f) b) r s a y) 15 g) τ (RHO (PB (svB (sr σ 15 f) b))) :=
  ⟨rfl, rfl, rfl, Or.inr ⟨h, rfl, by rw [svB_sr], f, g, rfl⟩⟩
theorem refu_rng (σ : ST) (r s : Nat) (a : Int) : 0 ≤ refu σ r s a ∧ refu σ r s a ≤ 2 := by unfold refu; (repeat' split) <;> omega

set_option maxRecDepth 100000 in
set_option maxHeartbeats 4000000 in
theorem ct_L_writes {l : Launch} {G : GG} {σ τ : ST} (b : Nat → Nat) (hB : okB b) (hN : 0 ≤ σ 16 1 ∧ σ 16 1 ≤ 6) (hK : KI σ) (r s a x : Int) (hr : σ 10 0 ≠ 0 → 0 ≤ r ∧ r < σ 10 0) (hs : σ 2 1 ≤ s ∧ s < σ 2 0) (ha : 0 ≤ a ∧ a < 8) : Ct l G mL_writes (7, 0, 0) [.ref 0, .int (iI r), .int (iI s), .int (iI a), .int (iI x)] 110 KD σ τ (RHO (PB b)) (KW σ τ b r s a (lowI x 1000)) := by
  have hI := hK.1
  have hz := hI.sz
  have hm := hI.mk
  have hro := hI.ro
  have o0 := hI.rs r.toNat
  have hy := lowI_rng x (n := 1000) (by omega)
  have hrf := refu_rng σ r.toNat s.toNat a
  have hq1 := and_1 (shrI 0 0)
  refine ct_intro (own := "ShapedRowsLaw") rfl (by decide +kernel) (Nat.le_of_ble_eq_true rfl) (L := _) rfl ?_
  refine WP.mem (σ' := sr σ 15 (σ 15)) (sr_self σ 15).symm ?_
  refine r_aload_n dL_writes_0 rfl (by rfl) ?_
  refine r_iconst dL_writes_1 ?_
  refine r_callZ1 (cz_count hI 2 (σ 10 0) (by omega) rfl) fX5_count qL_8 dL_writes_2 KD_0 (by decide) ⟨Nat.zero_le _, Nat.zero_le _⟩ (Nat.le_of_ble_eq_true rfl) (fun f_1 _ => ?_)
  refine r_if_eq (tgt := 18) dL_writes_5 (by decide) (by unfold inR; omega) (fun h0 => ?_) (fun h0 => ?_)
  · refine r_iconst dL_writes_18 ?_
    exact r_retK dL_writes_19 rfl ⟨Nat.zero_le _, Nat.zero_le _⟩ (by first | exact Or.inl rfl | exact Or.inr rfl) (by first | exact KW_no (fun z => absurd h0 z.1) | exact KW_no (fun z => absurd z.2 h1))
  · refine r_aload_n dL_writes_8 rfl (by rfl) ?_
    refine r_iload_n dL_writes_9 rfl (by rfl) ?_
    refine r_iload_n dL_writes_10 rfl (by rfl) ?_
    refine r_iload_n dL_writes_11 rfl (by rfl) ?_
    refine r_callZ3 (cz_against hI r s a _ (hr h0) hs ha rfl) fX5_against qL_55 dL_writes_12 KD_0 (by decide) ⟨Nat.zero_le _, Nat.zero_le _⟩ (Nat.le_of_ble_eq_true rfl) (fun f_2 _ => ?_)
    refine r_if_eq (tgt := 20) dL_writes_15 (by decide) (by unfold inR; omega) (fun h1 => ?_) (fun h1 => ?_)
    · refine r_iload dL_writes_20 (by rfl) ?_
      refine r_sipush dL_writes_22 (by decide) ?_
      refine r_callS2 (ct_L_low x 1000 (by omega) (by omega)) fL_low qL_18 dL_writes_25 (by decide) ⟨Nat.zero_le _, Nat.zero_le _⟩ (Nat.le_of_ble_eq_true rfl) ?_
      refine r_istore dL_writes_28 (Nat.le_of_ble_eq_true rfl) (L' := [_, _, _, _, _, _, _, _]) (by rfl) ?_
      refine r_aload_n dL_writes_30 rfl (by rfl) ?_
      refine r_iload_n dL_writes_31 rfl (by rfl) ?_
      refine r_iconst dL_writes_32 ?_
      refine r_callZ2 (cz_row hI r 0 (σ 11 r.toNat) (hr h0) (by omega) rfl) fX5_row qL_58 dL_writes_33 KD_0 (by decide) ⟨Nat.zero_le _, Nat.zero_le _⟩ (Nat.le_of_ble_eq_true rfl) (fun f3 _ => ?_)
      refine r_istore dL_writes_36 (Nat.le_of_ble_eq_true rfl) (L' := [_, _, _, _, _, _, _, _]) (by rfl) ?_
      refine r_aload_n dL_writes_38 rfl (by rfl) ?_
      refine r_iload_n dL_writes_39 rfl (by rfl) ?_
      refine r_iload_n dL_writes_40 rfl (by rfl) ?_
      refine r_iload_n dL_writes_41 rfl (by rfl) ?_
      refine r_iload dL_writes_42 (by rfl) ?_
      refine r_callZ4 (ct_X5_write (σ := sr σ 15 f3) (CI_sr hI) b hB (by rw [sr_16]; exact hN) r s a (lowI x 1000) (by rw [sr_10]; exact hr h0) (by rw [sr_2]; exact hs) ⟨ha.1, ha.2, by omega, by omega⟩ (by rw [refu_E (E_sr σ f3)]; exact h1)) fX5_write qL_61 dL_writes_44 KD_0 (by decide) ⟨Nat.zero_le _, Nat.zero_le _⟩ (Nat.le_of_ble_eq_true rfl) (fun f4 _ => ?_)
      obtain ⟨ζ, hζ⟩ : ∃ ζ, ζ = svF (sr σ 15 f3) b := ⟨_, rfl⟩
      rw [← hζ]
      have hN2 : 0 ≤ sr σ 15 f3 16 1 ∧ sr σ 15 f3 16 1 ≤ 6 := by rw [sr_16]; exact hN
      have eζ : ∀ p, p < 15 → ζ p = σ p := fun p hp => by rw [hζ, svF_rw hB hN2 (by omega), sr_off _ _ (by omega)]
      have kζ : KI ζ := by rw [hζ]; exact KI_sv hB hN2 (KI_E (E_sr σ f3).sy hK)
      have rζ : refu ζ r.toNat s.toNat a = 0 := by
        have q : refu ζ r.toNat s.toNat a = refu σ r.toNat s.toNat a := by
          unfold refu colL plc pcl
          rw [eζ 7 (by omega), eζ 8 (by omega), eζ 9 (by omega), eζ 11 (by omega)]
        rw [q]; exact h1
      have hsζ : ζ 2 1 ≤ s ∧ s < ζ 2 0 := by rw [eζ 2 (by omega)]; exact hs
      have hrζ : 0 ≤ r ∧ r < ζ 10 0 := by rw [eζ 10 (by omega)]; exact hr h0
      obtain ⟨w1, w2⟩ := wr_rd (x := lowI x 1000) kζ hrζ.1 hrζ.2 hsζ.1 hsζ.2 rζ
      have cμ : CI (wrV ζ r s a (lowI x 1000)) := CI_wrV kζ.1 r s a (by omega) (by omega)
      have e100 : wrV ζ r s a (lowI x 1000) 10 0 = ζ 10 0 := by
        unfold wrV rwV
        (try simp only [])
        rw [up2_no _ (by omega), up2_no _ (by omega)]
        split
        · rfl
        · rw [up2_no _ (by omega), up2_no _ (by omega), up2_no _ (by omega), cpR_no _ (by omega)]
      have e2 : wrV ζ r s a (lowI x 1000) 2 = ζ 2 := wrV_r (by omega)
      obtain ⟨μ, hμ⟩ : ∃ μ, μ = wrV ζ r s a (lowI x 1000) := ⟨_, rfl⟩
      rw [← hμ]
      rw [← hμ] at w1 w2 cμ e100 e2
      rw [eζ 11 (by omega)] at w2
      have hsμ : μ 2 1 ≤ s ∧ s < μ 2 0 := by rw [e2]; exact hsζ
      have hrμ : 0 ≤ r ∧ r < μ 10 0 := by rw [e100]; exact hrζ
      have bit : andI (shrI (mskF μ s.toNat a (lowI x 1000) (μ 10 0).toNat) r) 1 = 1 := by
        have q := cμ.ro
        rw [bit_and _ hrμ.1 (by omega), bit_msk μ s.toNat a _ (by omega) _ (by omega), w1]
        simp
        omega
      have o1 := cμ.rs r.toNat
      refine r_istore dL_writes_47 (Nat.le_of_ble_eq_true rfl) (L' := [_, _, _, _, _, _, _, _]) (by rfl) ?_
      refine r_aload_n dL_writes_49 rfl (by rfl) ?_
      refine r_iload_n dL_writes_50 rfl (by rfl) ?_
      refine r_iload_n dL_writes_51 rfl (by rfl) ?_
      refine r_iload_n dL_writes_52 rfl (by rfl) ?_
      refine r_callZ3 (cz_read cμ r s a (lowI x 1000) hrμ hsμ ha w1) fX5_read qL_65 dL_writes_53 KD_0 (by decide) ⟨Nat.zero_le _, Nat.zero_le _⟩ (Nat.le_of_ble_eq_true rfl) (fun f5 _ => ?_)
      refine r_iload dL_writes_56 (by rfl) ?_
      refine r_icmp_ne (tgt := 94) dL_writes_58 (by decide) (by unfold inR; omega) (by unfold inR; omega) (fun h2 => ?_) (fun h2 => ?_)
      · exact absurd rfl h2
      · refine r_iload dL_writes_61 (by rfl) ?_
        refine r_iload dL_writes_63 (by rfl) ?_
        refine r_icmp_eq (tgt := 74) dL_writes_65 (by decide) (by unfold inR; omega) (by unfold inR; omega) (fun h3 => ?_) (fun h3 => ?_)
        · refine r_aload_n dL_writes_74 rfl (by rfl) ?_
          refine r_iload_n dL_writes_75 rfl (by rfl) ?_
          refine r_iload_n dL_writes_76 rfl (by rfl) ?_
          refine r_iload dL_writes_77 (by rfl) ?_
          refine r_callZ3 (cz_find cμ s a (lowI x 1000) _ hsμ ha (by omega) rfl) fX5_find qL_68 dL_writes_79 KD_0 (by decide) ⟨Nat.zero_le _, Nat.zero_le _⟩ (Nat.le_of_ble_eq_true rfl) (fun f6 _ => ?_)
          refine r_iload_n dL_writes_82 rfl (by rfl) ?_
          refine r_ishr dL_writes_83 ?_
          refine r_iconst dL_writes_84 ?_
          refine r_iand dL_writes_85 ?_
          refine r_iconst dL_writes_86 ?_
          refine r_icmp_ne (tgt := 94) dL_writes_87 (by decide) (by rw [bit]; unfold inR; omega) (by unfold inR; omega) (fun h5 => ?_) (fun h5 => ?_)
          · exact absurd bit h5
          · refine r_iconst dL_writes_90 ?_
            refine r_goto (tgt := 95) dL_writes_91 (by decide) ?_
            exact r_retK dL_writes_95 rfl ⟨Nat.zero_le _, Nat.zero_le _⟩ (by first | exact Or.inl rfl | exact Or.inr rfl) (by rw [hμ, hζ]; exact KW_ys f3 _ ⟨h0, h1⟩)
        · refine r_iload dL_writes_68 (by rfl) ?_
          refine r_iload_n dL_writes_70 rfl (by rfl) ?_
          refine r_icmp_ne (tgt := 94) dL_writes_71 (by decide) (by unfold inR; omega) (by unfold inR; omega) (fun h4 => ?_) (fun h4 => ?_)
          · exfalso
            rcases w2 with q | q
            · exact h3 q
            · exact h4 q
          · refine r_aload_n dL_writes_74 rfl (by rfl) ?_
            refine r_iload_n dL_writes_75 rfl (by rfl) ?_
            refine r_iload_n dL_writes_76 rfl (by rfl) ?_
            refine r_iload dL_writes_77 (by rfl) ?_
            refine r_callZ3 (cz_find cμ s a (lowI x 1000) _ hsμ ha (by omega) rfl) fX5_find qL_68 dL_writes_79 KD_0 (by decide) ⟨Nat.zero_le _, Nat.zero_le _⟩ (Nat.le_of_ble_eq_true rfl) (fun f6 _ => ?_)
            refine r_iload_n dL_writes_82 rfl (by rfl) ?_
            refine r_ishr dL_writes_83 ?_
            refine r_iconst dL_writes_84 ?_
            refine r_iand dL_writes_85 ?_
            refine r_iconst dL_writes_86 ?_
            refine r_icmp_ne (tgt := 94) dL_writes_87 (by decide) (by rw [bit]; unfold inR; omega) (by unfold inR; omega) (fun h5 => ?_) (fun h5 => ?_)
            · exact absurd bit h5
            · refine r_iconst dL_writes_90 ?_
              refine r_goto (tgt := 95) dL_writes_91 (by decide) ?_
              exact r_retK dL_writes_95 rfl ⟨Nat.zero_le _, Nat.zero_le _⟩ (by first | exact Or.inl rfl | exact Or.inr rfl) (by rw [hμ, hζ]; exact KW_ys f3 _ ⟨h0, h1⟩)
    · refine r_iconst dL_writes_18 ?_
      exact r_retK dL_writes_19 rfl ⟨Nat.zero_le _, Nat.zero_le _⟩ (by first | exact Or.inl rfl | exact Or.inr rfl) (by first | exact KW_no (fun z => absurd h0 z.1) | exact KW_no (fun z => absurd z.2 h1))
