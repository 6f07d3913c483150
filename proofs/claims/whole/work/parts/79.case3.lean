theorem un_hi {σ σa : ST} {b : Nat → Nat} {f : Nat → Int} (hv : INV σ b) (hn : σ 16 1 ≠ 0) (ea : σa = sr (up2 (tkSt σ (b (σ 16 1 - 1).toNat) 1) 16 1 (σ 16 1 - 1)) 15 f) : ∀ q, 108 ≤ q → σa q = σ q := fun q hq => by
  have h := hv.2.2.2.2.1
  rw [ea, sr_off _ _ (by omega), up2_off _ (by omega), tkSt_off _ (hv.2.2.1 _ (by omega)).1 (Or.inl rfl) _ (Or.inr (by omega))]
theorem epF_in {σ : ST} (hT : TI σ) : inR (epF σ) := by
  have h := hT.1
  have g := fnd_rng (fun k => dfR (σ 109) (k + 1)) (-1) (σ 108 1).toNat
  unfold epF inR
  split <;> omega
theorem slF_in {σ : ST} (hI : CI σ) : inR (slF σ (σ 10 0).toNat) := by
  have h := hI.ro
  have g := slF_rng σ (σ 10 0).toNat
  unfold inR
  omega
set_option maxRecDepth 100000 in
set_option maxHeartbeats 4000000 in
theorem cs_11 {l : Launch} {G : GG} {nm : String} {σ τ : ST} {b : Nat → Nat} {ce sl i : Nat} (hl : l.stackTraces = false) (hi : i + 5 ≤ G.2.2.2.2.2.2.1) (hL : G.2.2.2.2.2.2.1 ≤ 2560) (hv : INV σ b) (hc : ce + 1 ≤ 601024 ∧ sl + 6 ≤ 7293033) (kt : ∀ (σ' τ' : ST) (b' : Nat → Nat), INV σ' b' → LW l G nm 1774 (L0 i) [] σ' τ' (PB b') (ce + 1) (sl + 6)) : LW l G nm 876 (L0 i) [] σ τ (PB b) ce sl := by
  refine rL_aload_n dL_law_876 rfl (by rfl) ?_
  refine rL_aload_n dL_law_877 rfl (by rfl) ?_
  refine rL_iload dL_law_878 (by rfl) ?_
  refine rL_iconst dL_law_880 ?_
  refine rL_iadd dL_law_881 ?_
  refine rL_sald (j := i + 1) dL_law_882 (by omega) (by omega) (by omega) ?_
  refine rL_aload_n dL_law_883 rfl (by rfl) ?_
  refine rL_callH (As := [.ref 0, .int (iI (G.2.2.2.2.2.2.2 (i + 1)).toInt), .ref 116]) (S := []) (w_append (ct_X5_append hl hv.2.1.1 ((G.2.2.2.2.2.2.2 (i + 1)).toInt) (inR_of _)) (by unfold er_append; (repeat' split) <;> omega)) fL_append rfl qL_136 dL_law_884 ⟨Nat.le_of_ble_eq_true rfl, Nat.le_of_ble_eq_true rfl⟩ hc (Nat.le_of_ble_eq_true rfl) (fun h0 f => ?_) (fun h0 => ?_)
  · have hc1 : (33 ≤ ((G.2.2.2.2.2.2.2 (i + 1)).toInt) ∧ ((G.2.2.2.2.2.2.2 (i + 1)).toInt) ≤ 126) ∧ σ 108 1 < 60 := by
      unfold er_append at h0
      by_cases z : 33 ≤ ((G.2.2.2.2.2.2.2 (i + 1)).toInt) ∧ ((G.2.2.2.2.2.2.2 (i + 1)).toInt) ≤ 126
      · rw [if_pos z] at h0
        by_cases z2 : σ 108 1 < 60
        · exact ⟨z, z2⟩
        · rw [if_neg z2] at h0; omega
      · rw [if_neg z] at h0; omega
    obtain ⟨σa, ea⟩ : ∃ σa, σa = sr (up2 (up2 σ 109 (σ 108 1).toNat ((G.2.2.2.2.2.2.2 (i + 1)).toInt)) 108 1 (σ 108 1 + 1)) 15 f := ⟨_, rfl⟩
    rw [← ea]
    have a5 : σa 110 5 = σ 108 1 := by rw [ea, sr_off _ _ (by omega), up2_off _ (by omega), up2_off _ (by omega)]; exact hv.2.1.2.1
    have t0 := hv.2.1.1.1
    refine rL_istore dL_law_887 (Nat.le_of_ble_eq_true rfl) (L' := [some (.ref 1000), some (.ref 0), some (.ref 110), some (.ref 116), some (.int (iI (i : Int))), some (.int (iI _)), none, none, none]) (by rfl) ?_
    refine rL_aload_n dL_law_889 rfl (by rfl) ?_
    refine rL_aload_n dL_law_890 rfl (by rfl) ?_
    refine rL_iload dL_law_891 (by rfl) ?_
    refine rL_iconst dL_law_893 ?_
    refine rL_iadd dL_law_894 ?_
    refine rL_sald (j := i + 1) dL_law_895 (by omega) (by omega) (by omega) ?_
    refine rL_callV1 (ct_X6_append (by omega) (by omega) ((G.2.2.2.2.2.2.2 (i + 1)).toInt) (inR_of _)) fX6_append qL_138 dL_law_896 KD_110 ⟨Nat.le_of_ble_eq_true rfl, Nat.le_of_ble_eq_true rfl⟩ hc (Nat.le_of_ble_eq_true rfl) ?_
    refine rL_istore dL_law_899 (Nat.le_of_ble_eq_true rfl) (L' := [some (.ref 1000), some (.ref 0), some (.ref 110), some (.ref 116), some (.int (iI (i : Int))), some (.int (iI _)), some (.int (iI _)), none, none]) (by rfl) ?_
    have z1 : ¬ ¬ (33 ≤ ((G.2.2.2.2.2.2.2 (i + 1)).toInt) ∧ ((G.2.2.2.2.2.2.2 (i + 1)).toInt) ≤ 126) := fun q => q hc1.1
    have z2 : ¬ σa 110 5 = 60 := by omega
    rw [if_neg z1, if_neg z2, if_neg z1, if_neg z2]
    obtain ⟨hw, h1⟩ := ap_post hv hc1.1 hc1.2 ea rfl
    exact tl (T := 901) dL_law_901 dL_law_902 dL_law_905 dL_law_907 dL_law_912 dL_law_914 dL_law_917 dL_law_918 dL_law_919 dL_law_920 dL_law_922 dL_law_923 dL_law_924 dL_law_929 (by rfl) (h1.trans (cE_z h0).symm) (cE_in _ _ _ _) (fun _ => by rw [up2_at, a5]) hc (kt _ _ _ hw)
  · have t0 := hv.2.1.1.1
    have a5 : σ 110 5 = σ 108 1 := hv.2.1.2.1
    refine rL_istore dL_law_887 (Nat.le_of_ble_eq_true rfl) (L' := [some (.ref 1000), some (.ref 0), some (.ref 110), some (.ref 116), some (.int (iI (i : Int))), some (.int (iI _)), none, none, none]) (by rfl) ?_
    refine rL_aload_n dL_law_889 rfl (by rfl) ?_
    refine rL_aload_n dL_law_890 rfl (by rfl) ?_
    refine rL_iload dL_law_891 (by rfl) ?_
    refine rL_iconst dL_law_893 ?_
    refine rL_iadd dL_law_894 ?_
    refine rL_sald (j := i + 1) dL_law_895 (by omega) (by omega) (by omega) ?_
    refine rL_callV1 (ct_X6_append (by omega) (by omega) ((G.2.2.2.2.2.2.2 (i + 1)).toInt) (inR_of _)) fX6_append qL_138 dL_law_896 KD_110 ⟨Nat.le_of_ble_eq_true rfl, Nat.le_of_ble_eq_true rfl⟩ hc (Nat.le_of_ble_eq_true rfl) ?_
    refine rL_istore dL_law_899 (Nat.le_of_ble_eq_true rfl) (L' := [some (.ref 1000), some (.ref 0), some (.ref 110), some (.ref 116), some (.int (iI (i : Int))), some (.int (iI _)), some (.int (iI _)), none, none]) (by rfl) ?_
    by_cases z1 : 33 ≤ ((G.2.2.2.2.2.2.2 (i + 1)).toInt) ∧ ((G.2.2.2.2.2.2.2 (i + 1)).toInt) ≤ 126
    · have z2 : σ 110 5 = 60 := by
        unfold er_append at h0
        rw [if_pos z1] at h0
        by_cases z2 : σ 108 1 < 60
        · rw [if_pos z2] at h0; omega
        · omega
      have e2 : er_append σ ((G.2.2.2.2.2.2.2 (i + 1)).toInt) = 2 := by unfold er_append; rw [if_pos z1, if_neg (by omega)]
      rw [if_neg (fun q => q z1), if_pos z2, if_neg (fun q => q z1), if_pos z2]
      exact tl (T := 901) dL_law_901 dL_law_902 dL_law_905 dL_law_907 dL_law_912 dL_law_914 dL_law_917 dL_law_918 dL_law_919 dL_law_920 dL_law_922 dL_law_923 dL_law_924 dL_law_929 (by rfl) (by rw [up2_at, e2]; rfl) (cE_in _ _ _ _) (fun z => absurd z (cE_ne h0)) hc (kt _ _ _ (th_post _ hv))
    · have e2 : er_append σ ((G.2.2.2.2.2.2.2 (i + 1)).toInt) = 1 := by unfold er_append; rw [if_neg z1]
      rw [if_pos z1, if_pos z1]
      exact tl (T := 901) dL_law_901 dL_law_902 dL_law_905 dL_law_907 dL_law_912 dL_law_914 dL_law_917 dL_law_918 dL_law_919 dL_law_920 dL_law_922 dL_law_923 dL_law_924 dL_law_929 (by rfl) (by rw [up2_at, e2]; rfl) (cE_in _ _ _ _) (fun z => absurd z (cE_ne h0)) hc (kt _ _ _ (th_post _ hv))
set_option maxRecDepth 100000 in
set_option maxHeartbeats 4000000 in
theorem cs_14 {l : Launch} {G : GG} {nm : String} {σ τ : ST} {b : Nat → Nat} {ce sl i : Nat} (hl : l.stackTraces = false) (hi : i + 5 ≤ G.2.2.2.2.2.2.1) (hL : G.2.2.2.2.2.2.1 ≤ 2560) (hv : INV σ b) (hc : ce + 1 ≤ 601024 ∧ sl + 6 ≤ 7293033) (kt : ∀ (σ' τ' : ST) (b' : Nat → Nat), INV σ' b' → LW l G nm 1774 (L0 i) [] σ' τ' (PB b') (ce + 1) (sl + 6)) : LW l G nm 958 (L0 i) [] σ τ (PB b) ce sl := by
  refine rL_aload_n dL_law_958 rfl (by rfl) ?_
  refine rL_aload_n dL_law_959 rfl (by rfl) ?_
  refine rL_callH (As := [.ref 0, .ref 116]) (S := []) (w_run (ct_X5_run hl hv.1.ci hv.1.li hv.2.1.1 b hv.2.2.1 hv.2.2.2.2.1) (by unfold er_run; (repeat' split) <;> omega)) fL_run rfl qL_147 dL_law_960 ⟨Nat.le_of_ble_eq_true rfl, Nat.le_of_ble_eq_true rfl⟩ hc (Nat.le_of_ble_eq_true rfl) (fun h0 f => ?_) (fun h0 => ?_)
  · obtain ⟨σa, ea⟩ : ∃ σa, σa = sr (up2 (rnS (svF σ b)) 108 1 0) 15 f := ⟨_, rfl⟩
    rw [← ea]
    obtain ⟨ho, hx, hR⟩ := ru_a hv h0 ea
    have he := (sve_run hv).trans h0
    have i5 := hv.2.2.2.2.1
    have i6 := hv.2.2.2.2.2.1
    have e3 : σa 110 3 = σ 16 1 := by rw [hx 110 (by omega)]; exact i6
    refine rL_istore dL_law_963 (Nat.le_of_ble_eq_true rfl) (L' := [some (.ref 1000), some (.ref 0), some (.ref 110), some (.ref 116), some (.int (iI (i : Int))), some (.int (iI _)), none, none, none]) (by rfl) ?_
    refine rL_aload_n dL_law_965 rfl (by rfl) ?_
    refine rL_callG0 (ct_X6_runR (svF σ b) hR (sv_TX hv (hx 113 (by omega)) (by rw [hx 110 (by omega)])) (by omega) (by omega)) fX6_run qL_149 dL_law_966 KD_110 ⟨Nat.le_of_ble_eq_true rfl, Nat.le_of_ble_eq_true rfl⟩ hc (Nat.le_of_ble_eq_true rfl) (fun μ hμ => ?_)
    refine rL_istore dL_law_969 (Nat.le_of_ble_eq_true rfl) (L' := [some (.ref 1000), some (.ref 0), some (.ref 110), some (.ref 116), some (.int (iI (i : Int))), some (.int (iI _)), some (.int (iI _)), none, none]) (by rfl) ?_
    obtain ⟨hw, h1⟩ := ru_post hv h0 ea hμ
    exact tl (T := 971) dL_law_971 dL_law_972 dL_law_975 dL_law_977 dL_law_982 dL_law_984 dL_law_987 dL_law_988 dL_law_989 dL_law_990 dL_law_992 dL_law_993 dL_law_994 dL_law_999 (by rfl) (h1.trans (cE_z h0).symm) (cE_in _ _ _ _) (fun _ => by rw [if_pos he, up2_at]) hc (kt _ _ _ hw)
  · refine rL_istore dL_law_963 (Nat.le_of_ble_eq_true rfl) (L' := [some (.ref 1000), some (.ref 0), some (.ref 110), some (.ref 116), some (.int (iI (i : Int))), some (.int (iI _)), none, none, none]) (by rfl) ?_
    refine rL_aload_n dL_law_965 rfl (by rfl) ?_
    refine rL_callG0 (ct_X6_runR σ hv.1 hv.2.1 (by rw [hv.2.2.2.2.2.1]; exact hv.2.2.2.2.1.1) (by rw [hv.2.2.2.2.2.1]; exact hv.2.2.2.2.1.2)) fX6_run qL_149 dL_law_966 KD_110 ⟨Nat.le_of_ble_eq_true rfl, Nat.le_of_ble_eq_true rfl⟩ hc (Nat.le_of_ble_eq_true rfl) (fun μ hμ => ?_)
    refine rL_istore dL_law_969 (Nat.le_of_ble_eq_true rfl) (L' := [some (.ref 1000), some (.ref 0), some (.ref 110), some (.ref 116), some (.int (iI (i : Int))), some (.int (iI _)), some (.int (iI _)), none, none]) (by rfl) ?_
    obtain ⟨hw, h1⟩ := ru_no hv h0 hμ
    exact tl (T := 971) dL_law_971 dL_law_972 dL_law_975 dL_law_977 dL_law_982 dL_law_984 dL_law_987 dL_law_988 dL_law_989 dL_law_990 dL_law_992 dL_law_993 dL_law_994 dL_law_999 (by rfl) h1 (cE_in _ _ _ _) (fun z => absurd z (cE_ne h0)) hc (kt _ _ _ hw)
set_option maxRecDepth 100000 in
set_option maxHeartbeats 4000000 in
theorem cs_15 {l : Launch} {G : GG} {nm : String} {σ τ : ST} {b : Nat → Nat} {ce sl i : Nat} (hl : l.stackTraces = false) (hi : i + 5 ≤ G.2.2.2.2.2.2.1) (hL : G.2.2.2.2.2.2.1 ≤ 2560) (hv : INV σ b) (hc : ce + 1 ≤ 601024 ∧ sl + 6 ≤ 7293033) (kt : ∀ (σ' τ' : ST) (b' : Nat → Nat), INV σ' b' → LW l G nm 1774 (L0 i) [] σ' τ' (PB b') (ce + 1) (sl + 6)) : LW l G nm 1002 (L0 i) [] σ τ (PB b) ce sl := by
  refine rL_aload_n dL_law_1002 rfl (by rfl) ?_
  refine rL_aload_n dL_law_1003 rfl (by rfl) ?_
  refine rL_callH (As := [.ref 0, .ref 116]) (S := []) (w_undo (ct_X5_undo hl b hv.2.2.1 hv.2.2.2.2.1) (by unfold er_undo; (repeat' split) <;> omega)) fL_undo rfl qL_150 dL_law_1004 ⟨Nat.le_of_ble_eq_true rfl, Nat.le_of_ble_eq_true rfl⟩ hc (Nat.le_of_ble_eq_true rfl) (fun h0 f => ?_) (fun h0 => ?_)
  · have hn : σ 16 1 ≠ 0 := by
      unfold er_undo at h0
      intro z
      rw [if_neg (fun q => q z)] at h0
      omega
    obtain ⟨σa, ea⟩ : ∃ σa, σa = sr (up2 (tkSt σ (b (σ 16 1 - 1).toNat) 1) 16 1 (σ 16 1 - 1)) 15 f := ⟨_, rfl⟩
    rw [← ea]
    have hx := un_hi hv hn ea
    have i5 := hv.2.2.2.2.1
    have i6 := hv.2.2.2.2.2.1
    have e3 : σa 110 3 = σ 16 1 := by rw [hx 110 (by omega)]; exact i6
    refine rL_istore dL_law_1007 (Nat.le_of_ble_eq_true rfl) (L' := [some (.ref 1000), some (.ref 0), some (.ref 110), some (.ref 116), some (.int (iI (i : Int))), some (.int (iI _)), none, none, none]) (by rfl) ?_
    refine rL_aload_n dL_law_1009 rfl (by rfl) ?_
    refine rL_callV0 (ct_X6_undo (by omega) (by omega)) fX6_undo qL_152 dL_law_1010 KD_110 ⟨Nat.le_of_ble_eq_true rfl, Nat.le_of_ble_eq_true rfl⟩ hc (Nat.le_of_ble_eq_true rfl) ?_
    refine rL_istore dL_law_1013 (Nat.le_of_ble_eq_true rfl) (L' := [some (.ref 1000), some (.ref 0), some (.ref 110), some (.ref 116), some (.int (iI (i : Int))), some (.int (iI _)), some (.int (iI _)), none, none]) (by rfl) ?_
    have z : ¬ σa 110 3 = 0 := by omega
    rw [if_neg z, if_neg z]
    obtain ⟨hw, h1⟩ := un_post hv hn ea hx
    exact tl (T := 1015) dL_law_1015 dL_law_1016 dL_law_1019 dL_law_1021 dL_law_1026 dL_law_1028 dL_law_1031 dL_law_1032 dL_law_1033 dL_law_1034 dL_law_1036 dL_law_1037 dL_law_1038 dL_law_1043 (by rfl) (h1.trans (cE_z h0).symm) (cE_in _ _ _ _) (fun _ => by rw [up2_at, e3]) hc (kt _ _ _ hw)
  · have hn : σ 16 1 = 0 := by
      unfold er_undo at h0
      by_cases z : σ 16 1 = 0
      · exact z
      · rw [if_pos z] at h0; omega
    have e2 : er_undo σ = 2 := by unfold er_undo; rw [if_neg (fun q => q hn)]
    have i6 := hv.2.2.2.2.2.1
    have e3 : σ 110 3 = 0 := by omega
    refine rL_istore dL_law_1007 (Nat.le_of_ble_eq_true rfl) (L' := [some (.ref 1000), some (.ref 0), some (.ref 110), some (.ref 116), some (.int (iI (i : Int))), some (.int (iI _)), none, none, none]) (by rfl) ?_
    refine rL_aload_n dL_law_1009 rfl (by rfl) ?_
    refine rL_callV0 (ct_X6_undo (by omega) (by omega)) fX6_undo qL_152 dL_law_1010 KD_110 ⟨Nat.le_of_ble_eq_true rfl, Nat.le_of_ble_eq_true rfl⟩ hc (Nat.le_of_ble_eq_true rfl) ?_
    refine rL_istore dL_law_1013 (Nat.le_of_ble_eq_true rfl) (L' := [some (.ref 1000), some (.ref 0), some (.ref 110), some (.ref 116), some (.int (iI (i : Int))), some (.int (iI _)), some (.int (iI _)), none, none]) (by rfl) ?_
    rw [if_pos e3, if_pos e3]
    exact tl (T := 1015) dL_law_1015 dL_law_1016 dL_law_1019 dL_law_1021 dL_law_1026 dL_law_1028 dL_law_1031 dL_law_1032 dL_law_1033 dL_law_1034 dL_law_1036 dL_law_1037 dL_law_1038 dL_law_1043 (by rfl) (by rw [up2_at, e2]; rfl) (cE_in _ _ _ _) (fun z => absurd z (cE_ne h0)) hc (kt _ _ _ (th_post _ hv))
set_option maxRecDepth 100000 in
set_option maxHeartbeats 4000000 in
theorem cs_12 {l : Launch} {G : GG} {nm : String} {σ τ : ST} {b : Nat → Nat} {ce sl i : Nat} (hl : l.stackTraces = false) (hi : i + 5 ≤ G.2.2.2.2.2.2.1) (hL : G.2.2.2.2.2.2.1 ≤ 2560) (hv : INV σ b) (hc : ce + 1 ≤ 601024 ∧ sl + 6 ≤ 7293033) (kt : ∀ (σ' τ' : ST) (b' : Nat → Nat), INV σ' b' → LW l G nm 1774 (L0 i) [] σ' τ' (PB b') (ce + 1) (sl + 6)) : LW l G nm 932 (L0 i) [] σ τ (PB b) ce sl := by
  have t0 := hv.2.1.1.1
  have e5 : σ 108 1 = up2 σ 108 1 0 110 5 := by rw [up2_off _ (by omega)]; exact hv.2.1.2.1.symm
  refine rL_wide (c' := ce + 1) (s' := sl + 6) ⟨by omega, by omega⟩ ?_
  refine rL_aload_n dL_law_932 rfl (by rfl) ?_
  refine rL_callV0 ct_X5_clearBuffer fX5_clearBuffer qL_139 dL_law_933 KD_0 ⟨Nat.le_of_ble_eq_true rfl, Nat.le_of_ble_eq_true rfl⟩ hc (Nat.le_of_ble_eq_true rfl) ?_
  refine rL_aload_n dL_law_936 rfl (by rfl) ?_
  refine rL_callV0 ct_X6_clearBuffer fX6_clearBuffer qL_142 dL_law_937 KD_110 ⟨Nat.le_of_ble_eq_true rfl, Nat.le_of_ble_eq_true rfl⟩ hc (Nat.le_of_ble_eq_true rfl) ?_
  refine rL_icmp_eq (tgt := 1774) dL_law_940 (by rfl) (by unfold inR; omega) (by unfold inR; omega) (fun _ => ?_) (fun h => absurd e5 h)
  exact kt _ _ _ (cb_post hv rfl)
set_option maxRecDepth 100000 in
set_option maxHeartbeats 4000000 in
theorem cs_13 {l : Launch} {G : GG} {nm : String} {σ τ : ST} {b : Nat → Nat} {ce sl i : Nat} (hl : l.stackTraces = false) (hi : i + 5 ≤ G.2.2.2.2.2.2.1) (hL : G.2.2.2.2.2.2.1 ≤ 2560) (hv : INV σ b) (hc : ce + 1 ≤ 601024 ∧ sl + 6 ≤ 7293033) (kt : ∀ (σ' τ' : ST) (b' : Nat → Nat), INV σ' b' → LW l G nm 1774 (L0 i) [] σ' τ' (PB b') (ce + 1) (sl + 6)) : LW l G nm 945 (L0 i) [] σ τ (PB b) ce sl := by
  refine rL_wide (c' := ce + 1) (s' := sl + 6) ⟨by omega, by omega⟩ ?_
  refine rL_aload_n dL_law_945 rfl (by rfl) ?_
  refine rL_callV0 (ct_X5_firstError hv.2.1.1) fX5_firstError qL_143 dL_law_946 KD_0 ⟨Nat.le_of_ble_eq_true rfl, Nat.le_of_ble_eq_true rfl⟩ hc (Nat.le_of_ble_eq_true rfl) ?_
  refine rL_aload_n dL_law_949 rfl (by rfl) ?_
  refine rL_callG0 (ct_X6_firstErrorR σ hv.2.1) fX6_firstError qL_146 dL_law_950 KD_110 ⟨Nat.le_of_ble_eq_true rfl, Nat.le_of_ble_eq_true rfl⟩ hc (Nat.le_of_ble_eq_true rfl) (fun μ hμ => ?_)
  refine rL_icmp_eq (tgt := 1774) dL_law_953 (by rfl) (epF_in hv.2.1.1) (epF_in hv.2.1.1) (fun _ => ?_) (fun h => absurd rfl h)
  exact kt _ _ _ (INV_cg hv (fun q _ q4 q0 => hμ.1 q q0 (by omega)) (hμ.2.2 3 (by omega) (by omega) (by omega) (by omega)) (hμ.2.2 5 (by omega) (by omega) (by omega) (by omega)))
set_option maxRecDepth 100000 in
set_option maxHeartbeats 4000000 in
theorem cs_24 {l : Launch} {G : GG} {nm : String} {σ τ : ST} {b : Nat → Nat} {ce sl i : Nat} (hl : l.stackTraces = false) (hi : i + 5 ≤ G.2.2.2.2.2.2.1) (hL : G.2.2.2.2.2.2.1 ≤ 2560) (hv : INV σ b) (hc : ce + 1 ≤ 601024 ∧ sl + 6 ≤ 7293033) (kt : ∀ (σ' τ' : ST) (b' : Nat → Nat), INV σ' b' → LW l G nm 1774 (L0 i) [] σ' τ' (PB b') (ce + 1) (sl + 6)) : LW l G nm 1626 (L0 i) [] σ τ (PB b) ce sl := by
  refine rL_wide (c' := ce + 1) (s' := sl + 6) ⟨by omega, by omega⟩ ?_
  refine rL_aload_n dL_law_1626 rfl (by rfl) ?_
  refine rL_callV0 (ct_X5_toGo hv.1.ci) fX5_toGo qL_177 dL_law_1627 KD_0 ⟨Nat.le_of_ble_eq_true rfl, Nat.le_of_ble_eq_true rfl⟩ hc (Nat.le_of_ble_eq_true rfl) ?_
  refine rL_aload_n dL_law_1630 rfl (by rfl) ?_
  refine rL_callV0 (ct_X6_toGoR σ hv.1) fX6_toGo qL_180 dL_law_1631 KD_110 ⟨Nat.le_of_ble_eq_true rfl, Nat.le_of_ble_eq_true rfl⟩ hc (Nat.le_of_ble_eq_true rfl) ?_
  refine rL_icmp_eq (tgt := 1774) dL_law_1634 (by rfl) (slF_in hv.1.ci) (slF_in hv.1.ci) (fun _ => ?_) (fun h => absurd rfl h)
  exact kt _ _ _ (th0_post hv)
set_option maxRecDepth 100000 in
set_option maxHeartbeats 4000000 in
theorem cs_26 {l : Launch} {G : GG} {nm : String} {σ τ : ST} {b : Nat → Nat} {ce sl i : Nat} (hl : l.stackTraces = false) (hi : i + 5 ≤ G.2.2.2.2.2.2.1) (hL : G.2.2.2.2.2.2.1 ≤ 2560) (hv : INV σ b) (hc : ce + 1 ≤ 601024 ∧ sl + 6 ≤ 7293033) (kt : ∀ (σ' τ' : ST) (b' : Nat → Nat), INV σ' b' → LW l G nm 1774 (L0 i) [] σ' τ' (PB b') (ce + 1) (sl + 6)) : LW l G nm 1719 (L0 i) [] σ τ (PB b) ce sl := by
  refine rL_wide (c' := ce + 1) (s' := sl + 6) ⟨by omega, by omega⟩ ?_
  refine rL_aload_n dL_law_1719 rfl (by rfl) ?_
  refine rL_callV0 (ct_X5_freshShare hv.1.ci) fX5_freshShare qL_184 dL_law_1720 KD_0 ⟨Nat.le_of_ble_eq_true rfl, Nat.le_of_ble_eq_true rfl⟩ hc (Nat.le_of_ble_eq_true rfl) ?_
  refine rL_dstore dL_law_1723 (Nat.le_of_ble_eq_true rfl) (Nat.le_of_ble_eq_true rfl) (L' := [some (.ref 1000), some (.ref 0), some (.ref 110), some (.ref 116), some (.int (iI (i : Int))), some (.double (frS σ)), none, none, none]) (by rfl) ?_
  refine rL_aload_n dL_law_1725 rfl (by rfl) ?_
  refine rL_callV0 (ct_X6_freshShareR σ hv.1) fX6_freshShare qL_188 dL_law_1726 KD_110 ⟨Nat.le_of_ble_eq_true rfl, Nat.le_of_ble_eq_true rfl⟩ hc (Nat.le_of_ble_eq_true rfl) ?_
  refine rL_dstore dL_law_1729 (Nat.le_of_ble_eq_true rfl) (Nat.le_of_ble_eq_true rfl) (L' := [some (.ref 1000), some (.ref 0), some (.ref 110), some (.ref 116), some (.int (iI (i : Int))), some (.double (frS σ)), none, some (.double (frS σ)), none]) (by rfl) ?_
  have fin : LW l G nm 1757 [some (.ref 1000), some (.ref 0), some (.ref 110), some (.ref 116), some (.int (iI (i : Int))), some (.double (frS σ)), none, some (.double (frS σ)), none] [] (up2 σ 110 0 0) τ (PB b) (ce + 1) (sl + 6) := by
    refine rL_goto dL_law_1757 (tgt := 1774) (by rfl) ?_
    exact rL_wk le_L0 (kt _ _ _ (th0_post hv))
  refine rL_dload dL_law_1731 (by rfl) ?_
  refine rL_dload dL_law_1733 (by rfl) ?_
  refine rL_dcmp dL_law_1735 ?_
  refine rL_if_eq (tgt := 1757) dL_law_1736 (by rfl) (inR_of _) (fun _ => fin) (fun h => ?_)
  refine rL_dload dL_law_1739 (by rfl) ?_
  refine rL_dload dL_law_1741 (by rfl) ?_
  refine rL_dcmp dL_law_1743 ?_
  refine rL_if_eq (tgt := 1755) dL_law_1744 (by rfl) (inR_of _) (fun z => absurd z h) (fun _ => ?_)
  refine rL_dload dL_law_1747 (by rfl) ?_
  refine rL_dload dL_law_1749 (by rfl) ?_
  refine rL_dcmp dL_law_1751 ?_
  exact rL_if_ne (tgt := 1757) dL_law_1752 (by rfl) (inR_of _) (fun _ => fin) (fun z => absurd z h)
set_option maxRecDepth 100000 in
set_option maxHeartbeats 4000000 in
theorem cs_27 {l : Launch} {G : GG} {nm : String} {σ τ : ST} {b : Nat → Nat} {ce sl i : Nat} (hl : l.stackTraces = false) (hi : i + 5 ≤ G.2.2.2.2.2.2.1) (hL : G.2.2.2.2.2.2.1 ≤ 2560) (hv : INV σ b) (hc : ce + 1 ≤ 601024 ∧ sl + 6 ≤ 7293033) (kt : ∀ (σ' τ' : ST) (b' : Nat → Nat), INV σ' b' → LW l G nm 1774 (L0 i) [] σ' τ' (PB b') (ce + 1) (sl + 6)) : LW l G nm 1760 (L0 i) [] σ τ (PB b) ce sl := by
  refine rL_wide (c' := ce + 1) (s' := sl + 6) ⟨by omega, by omega⟩ ?_
  refine rL_aload_n dL_law_1760 rfl (by rfl) ?_
  refine rL_callY0 (ct_X5_digest hv.1.ci hv.2.1.1) fX5_digest qL_189 dL_law_1761 KD_0 ⟨Nat.le_of_ble_eq_true rfl, Nat.le_of_ble_eq_true rfl⟩ hc (Nat.le_of_ble_eq_true rfl) (fun f hf => ?_)
  refine rL_aload_n dL_law_1764 rfl (by rfl) ?_
  have ha : ∀ q, q ≠ 15 → sr σ 15 f q = σ q := fun q hq => sr_off _ _ hq
  refine rL_callG0 (ct_X6_digestR σ (lk_pre hv ha) (by rw [ha 110 (by omega)]; exact hv.2.2.2.2.2.1) hv.2.1.1 (by rw [ha 110 (by omega)]; exact hv.2.1.2.1) (fun k hk => by rw [ha 113 (by omega)]; exact hv.2.1.2.2.1 k hk)) fX6_digest qL_193 dL_law_1765 KD_110 ⟨Nat.le_of_ble_eq_true rfl, Nat.le_of_ble_eq_true rfl⟩ hc (Nat.le_of_ble_eq_true rfl) (fun μ hμ => ?_)
  refine rL_lcmp_e dL_law_1768 rfl ?_
  refine rL_if_eq (tgt := 1774) dL_law_1769 (by rfl) inR_0 (fun _ => ?_) (fun h => absurd rfl h)
  exact kt _ _ _ (lk_post hv ha hμ).1
