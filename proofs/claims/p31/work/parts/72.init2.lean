theorem okS_i {n : Nat} {x : Int32} {S : List Value} (k : okS n S = true) : okS n (.int x :: S) = true := by
  unfold okS at k ⊢
  rw [List.all_cons, k]
  rfl
theorem okL_i {n : Nat} {x : Int32} {S : List (Option Value)} (k : okL n S = true) : okL n (some (.int x) :: S) = true := by
  unfold okL at k ⊢
  rw [List.all_cons, k]
  rfl
def hR (ρ : RT) : Nat → RT
  | 0 => upR ρ 16 0 (some 17)
  | i + 1 => upR (sR3 (hR ρ i) (18 + 15 * i)) 17 i (some (18 + 15 * i))
def hZ (σ : ST) : Nat → ST
  | 0 => σ
  | i + 1 => up2 (hZ σ i) (18 + 15 * i + 1) 0 1
theorem hR_hi {ρ : RT} {p : Nat} : ∀ i : Nat, 18 + 15 * i ≤ p → hR ρ i p = ρ p
  | 0, h => upR_off _ (by omega)
  | i + 1, h => by
    show upR (sR3 (hR ρ i) (18 + 15 * i)) 17 i (some (18 + 15 * i)) p = ρ p
    rw [upR_off _ (by omega), sR3_off (Or.inr (by omega)), hR_hi i (by omega)]
theorem hR_16 {ρ : RT} : ∀ i : Nat, hR ρ i 16 0 = some 17
  | 0 => by show upR ρ 16 0 (some 17) 16 0 = _; unfold upR; exact if_pos ⟨rfl, rfl⟩
  | i + 1 => by
    show upR (sR3 (hR ρ i) (18 + 15 * i)) 17 i (some (18 + 15 * i)) 16 0 = _
    rw [upR_off _ (by omega), sR3_off (Or.inl (by omega)), hR_16 i]
theorem hR_lo {ρ : RT} {p : Nat} (h : p < 16) : ∀ i : Nat, hR ρ i p = ρ p
  | 0 => upR_off _ (by omega)
  | i + 1 => by
    show upR (sR3 (hR ρ i) (18 + 15 * i)) 17 i (some (18 + 15 * i)) p = ρ p
    rw [upR_off _ (by omega), sR3_off (Or.inl (by omega)), hR_lo h i]
theorem hZ_hi {σ : ST} {p : Nat} : ∀ i : Nat, 18 + 15 * i ≤ p → hZ σ i p = σ p
  | 0, h => rfl
  | i + 1, h => by
    show up2 (hZ σ i) (18 + 15 * i + 1) 0 1 p = σ p
    rw [up2_off _ (by omega), hZ_hi i (by omega)]
theorem kB3_1 : kB3 1 := ⟨rfl, ⟨rfl, rfl, rfl, rfl, rfl, rfl, rfl, rfl⟩, ⟨rfl, rfl, rfl, rfl⟩, rfl, rfl⟩
theorem kB3_i (i : Nat) (h : i < 6) : kB3 (18 + 15 * i) := by
  have e : i = 0 ∨ i = 1 ∨ i = 2 ∨ i = 3 ∨ i = 4 ∨ i = 5 := by omega
  rcases e with rfl | rfl | rfl | rfl | rfl | rfl <;> exact ⟨rfl, ⟨rfl, rfl, rfl, rfl, rfl, rfl, rfl, rfl⟩, ⟨rfl, rfl, rfl, rfl⟩, rfl, rfl⟩

set_option maxRecDepth 100000 in
set_option maxHeartbeats 4000000 in
theorem cs_X0 {l : Launch} {G : GG} {σ τ : ST} {ρ : RT} {K : KK} (hσ : ∀ p, 16 ≤ p → σ p = fun _ => 0) (hτ : ∀ p, 16 ≤ p → τ p = fun _ => 0) (hρ : ∀ p, 16 ≤ p → ρ p = fun _ => none) (i : Nat) (hi : i < 6)
    (k : WP l G "ShapedRows$History" mX0_init (3, 91, 2742) K noX 17 20 [some (.ref 16), some (.int (iI ((i : Int) + 1)))] [] (18 + 15 * i + 15) (kdN (18 + 15 * i + 15)) (hZ σ (i + 1)) τ (hR ρ (i + 1)) (1 + 15 * i + 15) (6 + 456 * i + 456)) :
    WP l G "ShapedRows$History" mX0_init (3, 91, 2742) K noX 17 20 [some (.ref 16), some (.int (iI (i : Int)))] [] (18 + 15 * i) (kdN (18 + 15 * i)) (hZ σ i) τ (hR ρ i) (1 + 15 * i) (6 + 456 * i) := by
  have h3 := kB3_i i hi
  refine r_iload_n dX0_init_20 rfl (by rfl) ?_
  refine r_aload_n dX0_init_21 rfl (by rfl) ?_
  refine r_get_r kX0_11 dX0_init_22 ((kdN_in (by omega)).trans KD_16) (hR_16 i) ?_
  refine r_alen (by decide) dX0_init_25 ((kdN_in (by omega)).trans KD_17) ?_
  refine r_icmp_ge (tgt := 48) dX0_init_26 (by decide) (by unfold inR; omega) (by unfold inR; omega) (fun h => absurd h (by omega)) (fun _ => ?_)
  refine r_aload_n dX0_init_29 rfl (by rfl) ?_
  refine r_get_r kX0_11 dX0_init_30 ((kdN_in (by omega)).trans KD_16) (hR_16 i) ?_
  refine r_iload_n dX0_init_33 rfl (by rfl) ?_
  refine r_new cl_3 nl_0_9 dX0_init_34 h3.1 (by omega) (by rw [hZ_hi i (by omega)]; exact hσ _ (by omega)) (hτ _ (by omega)) (by rw [hR_hi i (by omega)]; exact hρ _ (by omega)) (okS_i (okS_c (by omega) rfl)) (okL_c (by omega) (okL_i rfl)) ⟨by show 1 + 15 * i + 1 ≤ 91; omega, by show 6 + 456 * i + 4 ≤ 2742; omega⟩ ?_
  refine r_dup dX0_init_37 rfl ?_
  refine r_callIN (ci_X3 (18 + 15 * i) h3 (fun p hp => by rw [hZ_hi i (by omega)]; exact hσ _ (by omega)) (fun p hp => hτ p (by omega)) (fun p hp => by rw [hR_hi i (by omega)]; exact hρ _ (by omega))) fX3_init qX0_21 dX0_init_38 (by omega) (by omega) (okS_c (by omega) (okS_i (okS_c (by omega) rfl))) (okL_c (by omega) (okL_i rfl)) ⟨Nat.le_of_ble_eq_true rfl, Nat.le_of_ble_eq_true rfl⟩ ⟨by show 1 + 15 * i + 1 + 14 ≤ 91; omega, by show 6 + 456 * i + 4 + 452 ≤ 2742; omega⟩ (Nat.le_of_ble_eq_true rfl) ?_
  refine r_aastore (k := i) dX0_init_41 ((kdN_in (by omega)).trans KD_17) (by rfl) hi (by decide) ((kdN_in (by omega)).trans h3.1) ?_
  refine r_iinc dX0_init_42 (by rfl) (Nat.le_of_ble_eq_true rfl) (L' := [some (.ref 16), some (.int (iI ((i : Int) + 1)))]) (by rfl) ?_
  refine r_goto dX0_init_45 (tgt := 20) (by decide) ?_
  exact k

set_option maxRecDepth 100000 in
set_option maxHeartbeats 4000000 in
theorem ci_X0 {l : Launch} {G : GG} {σ τ : ST} {ρ : RT} (hσ : ∀ p, 16 ≤ p → σ p = fun _ => 0) (hτ : ∀ p, 16 ≤ p → τ p = fun _ => 0) (hρ : ∀ p, 16 ≤ p → ρ p = fun _ => none) : CtA l G mX0_init (3, 91, 2742) [.ref 16] 17 (kdN 17) σ τ ρ (KQ none 108 (kdN 108) (hZ σ 6) τ (hR ρ 6)) := by
  refine ctA_intro (own := "ShapedRows$History") rfl (by decide +kernel) (Nat.le_of_ble_eq_true rfl) (L := [some (.ref 16), none]) rfl ?_
  refine rA_aload_n dX0_init_0 rfl (by rfl) ?_
  refine rA_objInit oi_0 dX0_init_1 (Nat.le_of_ble_eq_true rfl) (Nat.zero_le _) ?_
  refine rA_aload_n dX0_init_4 rfl (by rfl) ?_
  refine rA_bipush dX0_init_5 (by decide) ?_
  refine rA_newQ (len := 6) nl_0_9 dX0_init_7 KD_17 (by decide) (by omega) (hρ _ (by omega)) (okS_c (by omega) rfl) (okL_c (by omega) rfl) ⟨Nat.le_of_ble_eq_true rfl, Nat.le_of_ble_eq_true rfl⟩ ?_
  refine WPA.of ?_
  refine r_put_rF (Or.inr ⟨_, rfl⟩) rfl rfl (by omega) kX0_11 dX0_init_10 ((kdN_in (by omega)).trans KD_16) ?_
  refine r_aload_n dX0_init_13 rfl (by rfl) ?_
  refine r_iconst dX0_init_14 ?_
  refine r_put_i kX0_17 dX0_init_15 ((kdN_in (by omega)).trans KD_16) ?_
  rw [up2_id (show σ 16 1 = 0 from congrFun (hσ 16 (Nat.le_refl _)) 1)]
  refine r_iconst dX0_init_18 ?_
  refine r_istore_n dX0_init_19 rfl (Nat.le_of_ble_eq_true rfl) (L' := [some (.ref 16), some (.int (iI 0))]) (by rfl) ?_
  refine cs_X0 (σ := σ) (ρ := ρ) hσ hτ hρ 0 (by omega) ?_
  refine cs_X0 (σ := σ) (ρ := ρ) hσ hτ hρ 1 (by omega) ?_
  refine cs_X0 (σ := σ) (ρ := ρ) hσ hτ hρ 2 (by omega) ?_
  refine cs_X0 (σ := σ) (ρ := ρ) hσ hτ hρ 3 (by omega) ?_
  refine cs_X0 (σ := σ) (ρ := ρ) hσ hτ hρ 4 (by omega) ?_
  refine cs_X0 (σ := σ) (ρ := ρ) hσ hτ hρ 5 (by omega) ?_
  refine r_iload_n dX0_init_20 rfl (by rfl) ?_
  refine r_aload_n dX0_init_21 rfl (by rfl) ?_
  refine r_get_r kX0_11 dX0_init_22 ((kdN_in (by omega)).trans KD_16) (hR_16 6) ?_
  refine r_alen (by decide) dX0_init_25 ((kdN_in (by omega)).trans KD_17) ?_
  refine r_icmp_ge (tgt := 48) dX0_init_26 (by decide) (by unfold inR; omega) (by unfold inR; omega) (fun _ => ?_) (fun h => absurd h (by decide))
  exact r_ret_v dX0_init_48 rfl ⟨Nat.le_of_ble_eq_true rfl, Nat.le_of_ble_eq_true rfl⟩ ⟨rfl, rfl, rfl, rfl, rfl⟩

def Z0 : ST := fun _ _ => 0
def R0 : RT := fun _ _ => none
def z5 : ST := hZ (up2 Z0 2 0 1) 6
def r5 : RT := upR (upR (upR (hR (upR (sR3 R0 1) 0 0 (some 1)) 6) 0 1 (some 16)) 108 0 (some 109)) 0 2 (some 108)
theorem z5_hi {p : Nat} (h : 108 ≤ p) : z5 p = fun _ => 0 := by
  unfold z5
  rw [hZ_hi 6 (by omega), up2_off _ (by omega)]
  rfl
theorem r5_hi {p : Nat} (h : 109 ≤ p) : r5 p = fun _ => none := by
  unfold r5
  rw [upR_off _ (by omega), upR_off _ (by omega), upR_off _ (by omega), hR_hi 6 (by omega), upR_off _ (by omega), sR3_off (Or.inr (by omega))]
  rfl

set_option maxRecDepth 100000 in
set_option maxHeartbeats 4000000 in
theorem ci_X5 {l : Launch} {G : GG} : CtA l G mX5_init (4, 109, 3262) [.ref 0] 1 (kdN 1) Z0 Z0 R0 (KQ none 110 (kdN 110) z5 Z0 r5) := by
  refine ctA_intro (own := "ShapedRows") rfl (by decide +kernel) (Nat.le_of_ble_eq_true rfl) (L := [some (.ref 0)]) rfl ?_
  refine rA_aload_n dX5_init_0 rfl (by rfl) ?_
  refine rA_objInit oi_5 dX5_init_1 (Nat.le_of_ble_eq_true rfl) (Nat.zero_le _) ?_
  refine rA_aload_n dX5_init_4 rfl (by rfl) ?_
  refine rA_new cl_3 nl_5_7 dX5_init_5 KD_1 (by omega) rfl rfl rfl (okS_c (by omega) rfl) (okL_c (by omega) rfl) ⟨Nat.le_of_ble_eq_true rfl, Nat.le_of_ble_eq_true rfl⟩ ?_
  refine rA_dup dX5_init_8 rfl ?_
  refine rA_callIN (ci_X3 1 kB3_1 (fun p hp => rfl) (fun p hp => rfl) (fun p hp => rfl)) fX3_init qX5_9 dX5_init_9 (by omega) (by omega) (okS_c (by omega) (okS_c (by omega) rfl)) (okL_c (by omega) rfl) ⟨Nat.le_of_ble_eq_true rfl, Nat.le_of_ble_eq_true rfl⟩ ⟨Nat.le_of_ble_eq_true rfl, Nat.le_of_ble_eq_true rfl⟩ (Nat.le_of_ble_eq_true rfl) ?_
  refine rA_put_rF (Or.inl ⟨_, rfl⟩) rfl rfl (by omega) kX5_10 dX5_init_12 ((kdN_in (by omega)).trans KD_0) ?_
  refine rA_aload_n dX5_init_15 rfl (by rfl) ?_
  refine rA_new cl_0 nl_5_16 dX5_init_16 KD_16 (by omega) (up2_off _ (by omega)) rfl (by rw [upR_off _ (by omega), sR3_off (Or.inr (by omega))]; rfl) (okS_c (by omega) rfl) (okL_c (by omega) rfl) ⟨Nat.le_of_ble_eq_true rfl, Nat.le_of_ble_eq_true rfl⟩ ?_
  refine rA_dup dX5_init_19 rfl ?_
  refine rA_callA (ci_X0 (fun p hp => (up2_off _ (by omega))) (fun p hp => rfl) (fun p hp => by rw [upR_off _ (by omega), sR3_off (Or.inr (by omega))]; rfl)) fX0_init qX5_18 dX5_init_20 (by omega) (by omega) (okS_c (by omega) (okS_c (by omega) rfl)) (okL_c (by omega) rfl) ⟨Nat.le_of_ble_eq_true rfl, Nat.le_of_ble_eq_true rfl⟩ ⟨Nat.le_of_ble_eq_true rfl, Nat.le_of_ble_eq_true rfl⟩ (Nat.le_of_ble_eq_true rfl) ?_
  refine WPA.of ?_
  refine r_put_rF (Or.inl ⟨_, rfl⟩) rfl rfl (by omega) kX5_19 dX5_init_23 ((kdN_in (by omega)).trans KD_0) ?_
  refine r_aload_n dX5_init_26 rfl (by rfl) ?_
  refine r_new cl_4 nl_5_23 dX5_init_27 KD_108 (by omega) (z5_hi (by omega)) rfl (by rw [upR_off _ (by omega), hR_hi 6 (by omega), upR_off _ (by omega), sR3_off (Or.inr (by omega))]; rfl) (okS_c (by omega) rfl) (okL_c (by omega) rfl) ⟨Nat.le_of_ble_eq_true rfl, Nat.le_of_ble_eq_true rfl⟩ ?_
  refine r_dup dX5_init_30 rfl ?_
  refine r_callIN (ci_X4 (fun p hp => z5_hi hp) (fun p hp => by rw [upR_off _ (by omega), hR_hi 6 (by omega), upR_off _ (by omega), sR3_off (Or.inr (by omega))]; rfl)) fX4_init qX5_25 dX5_init_31 (by omega) (by omega) (okS_c (by omega) (okS_c (by omega) rfl)) (okL_c (by omega) rfl) ⟨Nat.le_of_ble_eq_true rfl, Nat.le_of_ble_eq_true rfl⟩ ⟨Nat.le_of_ble_eq_true rfl, Nat.le_of_ble_eq_true rfl⟩ (Nat.le_of_ble_eq_true rfl) ?_
  refine r_put_rF (Or.inl ⟨_, rfl⟩) rfl rfl (by omega) kX5_26 dX5_init_34 ((kdN_in (by omega)).trans KD_0) ?_
  exact r_ret_v dX5_init_37 rfl ⟨Nat.le_of_ble_eq_true rfl, Nat.le_of_ble_eq_true rfl⟩ ⟨rfl, rfl, rfl, rfl, rfl⟩

