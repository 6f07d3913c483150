/-- a whole row of the memory is another; a stretch of a row is laid anew -/
def sr (σ : ST) (p : Nat) (f : Nat → Int) : ST := fun a b => if a = p then f b else σ a b
theorem sr_row (σ : ST) (p : Nat) (f : Nat → Int) : sr σ p f p = f := by funext b; unfold sr; rw [if_pos rfl]
theorem sr_off (σ : ST) {p a : Nat} (f : Nat → Int) (h : a ≠ p) : sr σ p f a = σ a := by funext b; unfold sr; rw [if_neg h]
theorem sr_sr (σ : ST) (p : Nat) (f g : Nat → Int) : sr (sr σ p f) p g = sr σ p g := by funext a b; unfold sr; by_cases h : a = p <;> simp [h]
theorem up2_sr (σ : ST) (p k : Nat) (f : Nat → Int) (v : Int) : up2 (sr σ p f) p k v = sr σ p (fun j => if j = k then v else f j) := by
  funext a b; unfold up2 sr; by_cases h : a = p <;> simp [h]
theorem up2_is_sr (σ : ST) (p k : Nat) (v : Int) : up2 σ p k v = sr σ p (fun j => if j = k then v else σ p j) := by
  funext a b; unfold up2 sr
  by_cases h : a = p
  · subst h; simp
  · simp [h]
theorem sr_self (σ : ST) (p : Nat) : sr σ p (σ p) = σ := by
  funext a b; unfold sr
  by_cases h : a = p
  · subst h; simp
  · simp [h]
def cpR (σ : ST) (p lo n : Nat) (f : Nat → Int) : ST := fun a b => if a = p ∧ lo ≤ b ∧ b < lo + n then f (b - lo) else σ a b
theorem cpR_0 (σ : ST) (p lo : Nat) (f : Nat → Int) : cpR σ p lo 0 f = σ := by funext a b; unfold cpR; rw [if_neg (by omega)]
theorem cpR_off (σ : ST) {p a : Nat} (lo n : Nat) (f : Nat → Int) (h : a ≠ p) : cpR σ p lo n f a = σ a := by funext b; unfold cpR; rw [if_neg (fun q => h q.1)]
theorem cpR_out (σ : ST) {p b : Nat} (lo n : Nat) (f : Nat → Int) (h : b < lo ∨ lo + n ≤ b) : cpR σ p lo n f p b = σ p b := by unfold cpR; rw [if_neg (by omega)]
theorem cpR_up (σ : ST) (p lo k : Nat) (f : Nat → Int) : up2 (cpR σ p lo k f) p (lo + k) (f k) = cpR σ p lo (k + 1) f := by
  funext a b; unfold up2 cpR
  by_cases h : a = p
  · by_cases e : b = lo + k
    · subst e; subst h
      rw [if_pos ⟨rfl, rfl⟩, if_pos ⟨rfl, by omega, by omega⟩]
      congr 1; omega
    · rw [if_neg (fun q => e q.2)]
      by_cases g : lo ≤ b ∧ b < lo + k
      · rw [if_pos ⟨h, g⟩, if_pos ⟨h, g.1, by omega⟩]
      · rw [if_neg (fun q => g q.2), if_neg (fun q => g ⟨q.2.1, by omega⟩)]
  · rw [if_neg (fun q => h q.1), if_neg (fun q => h q.1), if_neg (fun q => h q.1)]
theorem cpR_ne (σ : ST) {p q : Nat} (lo n i : Nat) (f : Nat → Int) (v : Int) (h : p ≠ q) : up2 (cpR σ q lo n f) p i v = cpR (up2 σ p i v) q lo n f := by
  funext a b
  show (if a = p ∧ b = i then v else if a = q ∧ lo ≤ b ∧ b < lo + n then f (b - lo) else σ a b) = (if a = q ∧ lo ≤ b ∧ b < lo + n then f (b - lo) else if a = p ∧ b = i then v else σ a b)
  by_cases h1 : a = p ∧ b = i
  · rw [if_pos h1, if_neg (fun z => h (h1.1.symm.trans z.1)), if_pos h1]
  · rw [if_neg h1]
    by_cases h2 : a = q ∧ lo ≤ b ∧ b < lo + n
    · rw [if_pos h2, if_pos h2]
    · rw [if_neg h2, if_neg h2, if_neg h1]
theorem up2_ne (σ : ST) {p a : Nat} (k b : Nat) (v : Int) (h : a ≠ p) : up2 σ p k v a b = σ a b := by rw [up2_off σ h]
theorem up2_at (σ : ST) (p k : Nat) (v : Int) : up2 σ p k v p k = v := by unfold up2; rw [if_pos ⟨rfl, rfl⟩]
theorem up2_el (σ : ST) (p : Nat) {k b : Nat} (v : Int) (h : b ≠ k) : up2 σ p k v p b = σ p b := by unfold up2; rw [if_neg (fun q => h q.2)]
theorem WP.mem {l : Launch} {G : GG} {own : String} {X : MI} {dm : Nat × Nat × Nat} {K : KK} {KE : KX} {n0 pc : Nat} {L : List (Option Value)} {S : List Value} {n : Nat} {kd : KT} {σ σ' τ : ST} {ρ : RT} {ce sl : Nat} (h : σ = σ') (k : WP l G own X dm K KE n0 pc L S n kd σ' τ ρ ce sl) : WP l G own X dm K KE n0 pc L S n kd σ τ ρ ce sl := h ▸ k

set_option maxRecDepth 100000 in
set_option maxHeartbeats 4000000 in
theorem ct_X2_placeOfLetter {l : Launch} {G : GG} {π : Nat → Option Nat} {σ τ : ST} (hI : CI σ) (s : Int) (h0 : 0 ≤ s) (h1 : s < 12) (a : Int) (ha : inR a) : Ct l G mX2_placeOfLetter (1, 0, 0) [.ref 2, .int (iI s), .int (iI a)] 110 KD σ τ (RHO π) (KQ (some (.int (iI (plc σ s.toNat a)))) 110 KD σ τ (RHO π)) := by
  have hw := hI.wd s.toNat
  have ha0 := ha
  unfold inR at ha0
  refine ct_intro (own := "ShapedRows$Shapes") rfl (by decide +kernel) (Nat.le_of_ble_eq_true rfl) (L := _) rfl ?_
  have cut_12 : ∀ (N : Nat) (k : Int), (0 ≤ k) → (k ≤ σ 7 s.toNat) → (∀ j, j < k.toNat → σ 9 (8 * s.toNat + j) ≠ a) → σ 7 s.toNat - k < (N : Int) → WP l G "ShapedRows$Shapes" mX2_placeOfLetter (1, 0, 0) (KQ (some (.int (iI (plc σ s.toNat a)))) 110 KD σ τ (RHO π)) noX 110 12 [some (.ref 2), some (.int (iI s)), some (.int (iI a)), some (.int (iI (σ 7 s.toNat))), some (.int (iI k))] [] 110 KD σ τ (RHO π) 0 0 := by
    intro N
    induction N with
    | zero => intro k k0 k1 hne hm; exact absurd hm (by omega)
    | succ N ih =>
      intro k k0 k1 hne hm
      refine r_iload dX2_placeOfLetter_12 (by rfl) ?_
      refine r_iload_n dX2_placeOfLetter_14 rfl (by rfl) ?_
      refine r_icmp_ge (tgt := 45) dX2_placeOfLetter_15 (by decide) (by unfold inR; omega) (by unfold inR; omega) (fun c_1 => ?_) (fun c_1 => ?_)
      · refine r_iconst dX2_placeOfLetter_45 ?_
        exact r_ret_i dX2_placeOfLetter_46 rfl ⟨Nat.zero_le _, Nat.zero_le _⟩ (by have e := fnd_no (f := fun j => σ 9 (8 * s.toNat + j)) (a := a) (n := (σ 7 s.toNat).toNat) (fun j hj => hne j (by omega)); unfold plc; omega) ⟨rfl, rfl, (by first | rfl | omega), rfl, rfl⟩
      · refine r_aload_n dX2_placeOfLetter_18 rfl (by rfl) ?_
        refine r_get_r kX2_37 dX2_placeOfLetter_19 KD_2 (RHO_2_8 _) ?_
        refine r_iload_n dX2_placeOfLetter_22 rfl (by rfl) ?_
        refine r_bipush dX2_placeOfLetter_23 (by decide) ?_
        refine r_imul dX2_placeOfLetter_25 ?_
        refine r_iload dX2_placeOfLetter_26 (by rfl) ?_
        refine r_iadd dX2_placeOfLetter_28 ?_
        refine r_callN2 (ct_X5_at KD_9 (by decide) _ (by omega) (by omega)) fX5_at qX2_47 dX2_placeOfLetter_29 (by decide) ⟨Nat.zero_le _, Nat.zero_le _⟩ (Nat.le_of_ble_eq_true rfl) ?_
        refine r_iload_n dX2_placeOfLetter_32 rfl (by rfl) ?_
        have hl := hI.le (s * 8 + k).toNat
        refine r_icmp_ne (tgt := 39) dX2_placeOfLetter_33 (by decide) (by unfold inR; omega) (by unfold inR; omega) (fun hc => ?_) (fun hc => ?_)
        · rw [show (s * 8 + k).toNat = 8 * s.toNat + k.toNat by omega] at hc
          refine r_iinc dX2_placeOfLetter_39 (by rfl) (Nat.le_of_ble_eq_true rfl) (L' := [_, _, _, _, _]) (by rfl) ?_
          refine r_goto (tgt := 12) dX2_placeOfLetter_42 (by decide) ?_
          exact ih (k + 1) (by omega) (by omega) (fun j hj => by
            by_cases e : j = k.toNat
            · rw [e]; exact hc
            · exact hne j (by omega)) (by omega)
        · rw [show (s * 8 + k).toNat = 8 * s.toNat + k.toNat by omega] at hc
          refine r_iload dX2_placeOfLetter_36 (by rfl) ?_
          exact r_ret_i dX2_placeOfLetter_38 rfl ⟨Nat.zero_le _, Nat.zero_le _⟩ (by have e := fnd_at (f := fun j => σ 9 (8 * s.toNat + j)) (k := k.toNat) hc hne (n := (σ 7 s.toNat).toNat) (by omega); unfold plc; omega) ⟨rfl, rfl, (by first | rfl | omega), rfl, rfl⟩
  refine r_aload_n dX2_placeOfLetter_0 rfl (by rfl) ?_
  refine r_get_r kX2_31 dX2_placeOfLetter_1 KD_2 (RHO_2_6 _) ?_
  refine r_iload_n dX2_placeOfLetter_4 rfl (by rfl) ?_
  refine r_callN2 (ct_X5_at KD_7 (by decide) _ (by omega) (by omega)) fX5_at qX2_47 dX2_placeOfLetter_5 (by decide) ⟨Nat.zero_le _, Nat.zero_le _⟩ (Nat.le_of_ble_eq_true rfl) ?_
  refine r_istore_n dX2_placeOfLetter_8 rfl (Nat.le_of_ble_eq_true rfl) (L' := [_, _, _, _, _]) (by rfl) ?_
  refine r_iconst dX2_placeOfLetter_9 ?_
  refine r_istore dX2_placeOfLetter_10 (Nat.le_of_ble_eq_true rfl) (L' := [_, _, _, _, _]) (by rfl) ?_
  exact cut_12 ((σ 7 s.toNat).toNat + 1) 0 (by omega) (by omega) (fun j hj => by omega) (by omega)

set_option maxRecDepth 100000 in
set_option maxHeartbeats 4000000 in
theorem ct_X2_placeOfColumn {l : Launch} {G : GG} {π : Nat → Option Nat} {σ τ : ST} (hI : CI σ) (s : Int) (h0 : 0 ≤ s) (h1 : s < 12) (a : Int) (ha : inR a) : Ct l G mX2_placeOfColumn (1, 0, 0) [.ref 2, .int (iI s), .int (iI a)] 110 KD σ τ (RHO π) (KQ (some (.int (iI (pcl σ s.toNat a)))) 110 KD σ τ (RHO π)) := by
  have hw := hI.wd s.toNat
  have ha0 := ha
  unfold inR at ha0
  refine ct_intro (own := "ShapedRows$Shapes") rfl (by decide +kernel) (Nat.le_of_ble_eq_true rfl) (L := _) rfl ?_
  have cut_12 : ∀ (N : Nat) (k : Int), (0 ≤ k) → (k ≤ σ 7 s.toNat) → (∀ j, j < k.toNat → σ 8 (8 * s.toNat + j) ≠ a) → σ 7 s.toNat - k < (N : Int) → WP l G "ShapedRows$Shapes" mX2_placeOfColumn (1, 0, 0) (KQ (some (.int (iI (pcl σ s.toNat a)))) 110 KD σ τ (RHO π)) noX 110 12 [some (.ref 2), some (.int (iI s)), some (.int (iI a)), some (.int (iI (σ 7 s.toNat))), some (.int (iI k))] [] 110 KD σ τ (RHO π) 0 0 := by
    intro N
    induction N with
    | zero => intro k k0 k1 hne hm; exact absurd hm (by omega)
    | succ N ih =>
      intro k k0 k1 hne hm
      refine r_iload dX2_placeOfColumn_12 (by rfl) ?_
      refine r_iload_n dX2_placeOfColumn_14 rfl (by rfl) ?_
      refine r_icmp_ge (tgt := 45) dX2_placeOfColumn_15 (by decide) (by unfold inR; omega) (by unfold inR; omega) (fun c_1 => ?_) (fun c_1 => ?_)
      · refine r_iconst dX2_placeOfColumn_45 ?_
        exact r_ret_i dX2_placeOfColumn_46 rfl ⟨Nat.zero_le _, Nat.zero_le _⟩ (by have e := fnd_no (f := fun j => σ 8 (8 * s.toNat + j)) (a := a) (n := (σ 7 s.toNat).toNat) (fun j hj => hne j (by omega)); unfold pcl; omega) ⟨rfl, rfl, (by first | rfl | omega), rfl, rfl⟩
      · refine r_aload_n dX2_placeOfColumn_18 rfl (by rfl) ?_
        refine r_get_r kX2_34 dX2_placeOfColumn_19 KD_2 (RHO_2_7 _) ?_
        refine r_iload_n dX2_placeOfColumn_22 rfl (by rfl) ?_
        refine r_bipush dX2_placeOfColumn_23 (by decide) ?_
        refine r_imul dX2_placeOfColumn_25 ?_
        refine r_iload dX2_placeOfColumn_26 (by rfl) ?_
        refine r_iadd dX2_placeOfColumn_28 ?_
        refine r_callN2 (ct_X5_at KD_8 (by decide) _ (by omega) (by omega)) fX5_at qX2_47 dX2_placeOfColumn_29 (by decide) ⟨Nat.zero_le _, Nat.zero_le _⟩ (Nat.le_of_ble_eq_true rfl) ?_
        refine r_iload_n dX2_placeOfColumn_32 rfl (by rfl) ?_
        have hl := hI.co (s * 8 + k).toNat
        refine r_icmp_ne (tgt := 39) dX2_placeOfColumn_33 (by decide) (by unfold inR; omega) (by unfold inR; omega) (fun hc => ?_) (fun hc => ?_)
        · rw [show (s * 8 + k).toNat = 8 * s.toNat + k.toNat by omega] at hc
          refine r_iinc dX2_placeOfColumn_39 (by rfl) (Nat.le_of_ble_eq_true rfl) (L' := [_, _, _, _, _]) (by rfl) ?_
          refine r_goto (tgt := 12) dX2_placeOfColumn_42 (by decide) ?_
          exact ih (k + 1) (by omega) (by omega) (fun j hj => by
            by_cases e : j = k.toNat
            · rw [e]; exact hc
            · exact hne j (by omega)) (by omega)
        · rw [show (s * 8 + k).toNat = 8 * s.toNat + k.toNat by omega] at hc
          refine r_iload dX2_placeOfColumn_36 (by rfl) ?_
          exact r_ret_i dX2_placeOfColumn_38 rfl ⟨Nat.zero_le _, Nat.zero_le _⟩ (by have e := fnd_at (f := fun j => σ 8 (8 * s.toNat + j)) (k := k.toNat) hc hne (n := (σ 7 s.toNat).toNat) (by omega); unfold pcl; omega) ⟨rfl, rfl, (by first | rfl | omega), rfl, rfl⟩
  refine r_aload_n dX2_placeOfColumn_0 rfl (by rfl) ?_
  refine r_get_r kX2_31 dX2_placeOfColumn_1 KD_2 (RHO_2_6 _) ?_
  refine r_iload_n dX2_placeOfColumn_4 rfl (by rfl) ?_
  refine r_callN2 (ct_X5_at KD_7 (by decide) _ (by omega) (by omega)) fX5_at qX2_47 dX2_placeOfColumn_5 (by decide) ⟨Nat.zero_le _, Nat.zero_le _⟩ (Nat.le_of_ble_eq_true rfl) ?_
  refine r_istore_n dX2_placeOfColumn_8 rfl (Nat.le_of_ble_eq_true rfl) (L' := [_, _, _, _, _]) (by rfl) ?_
  refine r_iconst dX2_placeOfColumn_9 ?_
  refine r_istore dX2_placeOfColumn_10 (Nat.le_of_ble_eq_true rfl) (L' := [_, _, _, _, _]) (by rfl) ?_
  exact cut_12 ((σ 7 s.toNat).toNat + 1) 0 (by omega) (by omega) (fun j hj => by omega) (by omega)

def colL (σ : ST) (s : Nat) (a : Int) : Int := if plc σ s a = -1 then -1 else σ 8 (8 * s + (plc σ s a).toNat)
theorem colL_rng {σ : ST} (hI : CI σ) (s : Nat) (a : Int) : -1 ≤ colL σ s a ∧ colL σ s a < 12 := by
  unfold colL
  split
  · omega
  · have := hI.co (8 * s + (plc σ s a).toNat); omega
def lmask (σ : ST) (s : Nat) : Nat → Int
  | 0 => 0
  | k + 1 => if plc σ s (k : Int) = -1 then lmask σ s k else orI (lmask σ s k) (shlI 1 (k : Int))

set_option maxRecDepth 100000 in
set_option maxHeartbeats 4000000 in
theorem ct_X2_columnOfLetter {l : Launch} {G : GG} {π : Nat → Option Nat} {σ τ : ST} (hI : CI σ) (s : Int) (h0 : 0 ≤ s) (h1 : s < 12) (a : Int) (ha : inR a) : Ct l G mX2_columnOfLetter (2, 0, 0) [.ref 2, .int (iI s), .int (iI a)] 110 KD σ τ (RHO π) (KQ (some (.int (iI (colL σ s.toNat a)))) 110 KD σ τ (RHO π)) := by
  have hp := plc_rng hI s.toNat a
  have hw := hI.wd s.toNat
  have ha0 := ha
  unfold inR at ha0
  refine ct_intro (own := "ShapedRows$Shapes") rfl (by decide +kernel) (Nat.le_of_ble_eq_true rfl) (L := _) rfl ?_
  refine r_aload_n dX2_columnOfLetter_0 rfl (by rfl) ?_
  refine r_iload_n dX2_columnOfLetter_1 rfl (by rfl) ?_
  refine r_iload_n dX2_columnOfLetter_2 rfl (by rfl) ?_
  refine r_callV2 (ct_X2_placeOfLetter hI _ (by first | exact ha | omega) (by first | exact ha | omega) _ (by first | exact ha | omega)) fX2_placeOfLetter qX2_51 dX2_columnOfLetter_3 KD_2 (by decide) ⟨Nat.zero_le _, Nat.zero_le _⟩ (Nat.le_of_ble_eq_true rfl) ?_
  refine r_istore_n dX2_columnOfLetter_6 rfl (Nat.le_of_ble_eq_true rfl) (L' := [_, _, _, _]) (by rfl) ?_
  refine r_iload_n dX2_columnOfLetter_7 rfl (by rfl) ?_
  refine r_iconst dX2_columnOfLetter_8 ?_
  refine r_icmp_ne (tgt := 16) dX2_columnOfLetter_9 (by decide) (by unfold inR; omega) (by unfold inR; omega) (fun c_1 => ?_) (fun c_1 => ?_)
  · refine r_aload_n dX2_columnOfLetter_16 rfl (by rfl) ?_
    refine r_iload_n dX2_columnOfLetter_17 rfl (by rfl) ?_
    refine r_iload_n dX2_columnOfLetter_18 rfl (by rfl) ?_
    refine r_callV2 (ct_X2_columnAt _ (by first | exact ha | omega) (by first | exact ha | omega) _ (by first | exact ha | omega) (by first | exact ha | omega)) fX2_columnAt qX2_55 dX2_columnOfLetter_19 KD_2 (by decide) ⟨Nat.zero_le _, Nat.zero_le _⟩ (Nat.le_of_ble_eq_true rfl) ?_
    exact r_ret_i dX2_columnOfLetter_22 rfl ⟨Nat.zero_le _, Nat.zero_le _⟩ (by first | (unfold colL; rw [if_neg (by omega)]; done) | (unfold colL; rw [if_pos (by omega)]; done)) ⟨rfl, rfl, (by first | rfl | omega), rfl, rfl⟩
  · refine r_iconst dX2_columnOfLetter_12 ?_
    refine r_goto (tgt := 22) dX2_columnOfLetter_13 (by decide) ?_
    exact r_ret_i dX2_columnOfLetter_22 rfl ⟨Nat.zero_le _, Nat.zero_le _⟩ (by first | (unfold colL; rw [if_neg (by omega)]; done) | (unfold colL; rw [if_pos (by omega)]; done)) ⟨rfl, rfl, (by first | rfl | omega), rfl, rfl⟩

set_option maxRecDepth 100000 in
set_option maxHeartbeats 4000000 in
theorem ct_X2_hasColumn {l : Launch} {G : GG} {π : Nat → Option Nat} {σ τ : ST} (hI : CI σ) (s : Int) (h0 : 0 ≤ s) (h1 : s < 12) (a : Int) (ha : inR a) : Ct l G mX2_hasColumn (2, 0, 0) [.ref 2, .int (iI s), .int (iI a)] 110 KD σ τ (RHO π) (KQ (some (.int (iI (if pcl σ s.toNat a ≠ -1 then 1 else 0)))) 110 KD σ τ (RHO π)) := by
  have hp := pcl_rng hI s.toNat a
  refine ct_intro (own := "ShapedRows$Shapes") rfl (by decide +kernel) (Nat.le_of_ble_eq_true rfl) (L := _) rfl ?_
  refine r_aload_n dX2_hasColumn_0 rfl (by rfl) ?_
  refine r_iload_n dX2_hasColumn_1 rfl (by rfl) ?_
  refine r_iload_n dX2_hasColumn_2 rfl (by rfl) ?_
  refine r_callV2 (ct_X2_placeOfColumn hI _ (by first | exact ha | omega) (by first | exact ha | omega) _ (by first | exact ha | omega)) fX2_placeOfColumn qX2_58 dX2_hasColumn_3 KD_2 (by decide) ⟨Nat.zero_le _, Nat.zero_le _⟩ (Nat.le_of_ble_eq_true rfl) ?_
  refine r_iconst dX2_hasColumn_6 ?_
  refine r_icmp_eq (tgt := 14) dX2_hasColumn_7 (by decide) (by unfold inR; omega) (by unfold inR; omega) (fun c_1 => ?_) (fun c_1 => ?_)
  · refine r_iconst dX2_hasColumn_14 ?_
    exact r_ret_z dX2_hasColumn_15 rfl ⟨Nat.zero_le _, Nat.zero_le _⟩ (by first | exact Or.inl rfl | exact Or.inr rfl | (split <;> omega)) (by first | rfl | omega | (split <;> omega)) ⟨rfl, rfl, (by first | rfl | omega), rfl, rfl⟩
  · refine r_iconst dX2_hasColumn_10 ?_
    refine r_goto (tgt := 15) dX2_hasColumn_11 (by decide) ?_
    exact r_ret_z dX2_hasColumn_15 rfl ⟨Nat.zero_le _, Nat.zero_le _⟩ (by first | exact Or.inl rfl | exact Or.inr rfl | (split <;> omega)) (by first | rfl | omega | (split <;> omega)) ⟨rfl, rfl, (by first | rfl | omega), rfl, rfl⟩

set_option maxRecDepth 100000 in
set_option maxHeartbeats 4000000 in
theorem ct_X2_newestHas {l : Launch} {G : GG} {π : Nat → Option Nat} {σ τ : ST} (hI : CI σ) (a : Int) (ha : inR a) : Ct l G mX2_newestHas (2, 0, 0) [.ref 2, .int (iI a)] 110 KD σ τ (RHO π) (KQ (some (.int (iI (if plc σ (σ 2 0 - 1).toNat a ≠ -1 then 1 else 0)))) 110 KD σ τ (RHO π)) := by
  have hp := plc_rng hI (σ 2 0 - 1).toNat a
  have hz := hI.sz
  refine ct_intro (own := "ShapedRows$Shapes") rfl (by decide +kernel) (Nat.le_of_ble_eq_true rfl) (L := _) rfl ?_
  refine r_aload_n dX2_newestHas_0 rfl (by rfl) ?_
  refine r_aload_n dX2_newestHas_1 rfl (by rfl) ?_
  refine r_callV0 ct_X2_newest fX2_newest qX2_68 dX2_newestHas_2 KD_2 (by decide) ⟨Nat.zero_le _, Nat.zero_le _⟩ (Nat.le_of_ble_eq_true rfl) ?_
  refine r_iload_n dX2_newestHas_5 rfl (by rfl) ?_
  refine r_callV2 (ct_X2_placeOfLetter hI _ (by first | exact ha | omega) (by first | exact ha | omega) _ (by first | exact ha | omega)) fX2_placeOfLetter qX2_51 dX2_newestHas_6 KD_2 (by decide) ⟨Nat.zero_le _, Nat.zero_le _⟩ (Nat.le_of_ble_eq_true rfl) ?_
  refine r_iconst dX2_newestHas_9 ?_
  refine r_icmp_eq (tgt := 17) dX2_newestHas_10 (by decide) (by unfold inR; omega) (by unfold inR; omega) (fun c_1 => ?_) (fun c_1 => ?_)
  · refine r_iconst dX2_newestHas_17 ?_
    exact r_ret_z dX2_newestHas_18 rfl ⟨Nat.zero_le _, Nat.zero_le _⟩ (by first | exact Or.inl rfl | exact Or.inr rfl | (split <;> omega)) (by first | rfl | omega | (split <;> omega)) ⟨rfl, rfl, (by first | rfl | omega), rfl, rfl⟩
  · refine r_iconst dX2_newestHas_13 ?_
    refine r_goto (tgt := 18) dX2_newestHas_14 (by decide) ?_
    exact r_ret_z dX2_newestHas_18 rfl ⟨Nat.zero_le _, Nat.zero_le _⟩ (by first | exact Or.inl rfl | exact Or.inr rfl | (split <;> omega)) (by first | rfl | omega | (split <;> omega)) ⟨rfl, rfl, (by first | rfl | omega), rfl, rfl⟩

set_option maxRecDepth 100000 in
set_option maxHeartbeats 4000000 in
theorem ct_X2_isFull {l : Launch} {G : GG} {π : Nat → Option Nat} {σ τ : ST} (hI : CI σ)  : Ct l G mX2_isFull (0, 0, 0) [.ref 2] 110 KD σ τ (RHO π) (KQ (some (.int (iI (if 12 ≤ σ 2 0 then 1 else 0)))) 110 KD σ τ (RHO π)) := by
  have hz := hI.sz
  refine ct_intro (own := "ShapedRows$Shapes") rfl (by decide +kernel) (Nat.le_of_ble_eq_true rfl) (L := _) rfl ?_
  refine r_aload_n dX2_isFull_0 rfl (by rfl) ?_
  refine r_get_i kX2_9 dX2_isFull_1 KD_2 ?_
  refine r_bipush dX2_isFull_4 (by decide) ?_
  refine r_icmp_lt (tgt := 13) dX2_isFull_6 (by decide) (by unfold inR; omega) (by unfold inR; omega) (fun c_1 => ?_) (fun c_1 => ?_)
  · refine r_iconst dX2_isFull_13 ?_
    exact r_ret_z dX2_isFull_14 rfl ⟨Nat.zero_le _, Nat.zero_le _⟩ (by first | exact Or.inl rfl | exact Or.inr rfl | (split <;> omega)) (by first | rfl | omega | (split <;> omega)) ⟨rfl, rfl, (by first | rfl | omega), rfl, rfl⟩
  · refine r_iconst dX2_isFull_9 ?_
    refine r_goto (tgt := 14) dX2_isFull_10 (by decide) ?_
    exact r_ret_z dX2_isFull_14 rfl ⟨Nat.zero_le _, Nat.zero_le _⟩ (by first | exact Or.inl rfl | exact Or.inr rfl | (split <;> omega)) (by first | rfl | omega | (split <;> omega)) ⟨rfl, rfl, (by first | rfl | omega), rfl, rfl⟩

set_option maxRecDepth 100000 in
set_option maxHeartbeats 4000000 in
theorem ct_X2_letterMask {l : Launch} {G : GG} {π : Nat → Option Nat} {σ τ : ST} (hI : CI σ) (s : Int) (h0 : 0 ≤ s) (h1 : s < 12) : Ct l G mX2_letterMask (2, 0, 0) [.ref 2, .int (iI s)] 110 KD σ τ (RHO π) (KQ (some (.int (iI (lmask σ s.toNat 8)))) 110 KD σ τ (RHO π)) := by
  refine ct_intro (own := "ShapedRows$Shapes") rfl (by decide +kernel) (Nat.le_of_ble_eq_true rfl) (L := _) rfl ?_
  have cut_4 : ∀ (N : Nat) (k : Int) (m : Int), (0 ≤ k) → (k ≤ 8) → (m = lmask σ s.toNat k.toNat) → 8 - k < (N : Int) → WP l G "ShapedRows$Shapes" mX2_letterMask (2, 0, 0) (KQ (some (.int (iI (lmask σ s.toNat 8)))) 110 KD σ τ (RHO π)) noX 110 4 [some (.ref 2), some (.int (iI s)), some (.int (iI m)), some (.int (iI k))] [] 110 KD σ τ (RHO π) 0 0 := by
    intro N
    induction N with
    | zero => intro k m k0 k1 hm0 hm; exact absurd hm (by omega)
    | succ N ih =>
      intro k m k0 k1 hm0 hm
      refine r_iload_n dX2_letterMask_4 rfl (by rfl) ?_
      refine r_bipush dX2_letterMask_5 (by decide) ?_
      refine r_icmp_ge (tgt := 32) dX2_letterMask_7 (by decide) (by unfold inR; omega) (by unfold inR; omega) (fun c_1 => ?_) (fun c_1 => ?_)
      · refine r_iload_n dX2_letterMask_32 rfl (by rfl) ?_
        exact r_ret_i dX2_letterMask_33 rfl ⟨Nat.zero_le _, Nat.zero_le _⟩ (by rw [hm0, show k.toNat = 8 by omega]) ⟨rfl, rfl, (by first | rfl | omega), rfl, rfl⟩
      · refine r_aload_n dX2_letterMask_10 rfl (by rfl) ?_
        refine r_iload_n dX2_letterMask_11 rfl (by rfl) ?_
        refine r_iload_n dX2_letterMask_12 rfl (by rfl) ?_
        refine r_callV2 (ct_X2_placeOfLetter hI _ (by first | omega | (unfold inR; omega)) (by first | omega | (unfold inR; omega)) _ (by first | omega | (unfold inR; omega))) fX2_placeOfLetter qX2_51 dX2_letterMask_13 KD_2 (by decide) ⟨Nat.zero_le _, Nat.zero_le _⟩ (Nat.le_of_ble_eq_true rfl) ?_
        have hp := plc_rng hI s.toNat k
        refine r_iconst dX2_letterMask_16 ?_
        refine r_icmp_eq (tgt := 26) dX2_letterMask_17 (by decide) (by unfold inR; omega) (by unfold inR; omega) (fun hc => ?_) (fun hc => ?_)
        · refine r_iinc dX2_letterMask_26 (by rfl) (Nat.le_of_ble_eq_true rfl) (L' := [_, _, _, _]) (by rfl) ?_
          refine r_goto (tgt := 4) dX2_letterMask_29 (by decide) ?_
          exact ih (k + 1) _ (by omega) (by omega) (by
            rw [show (k + 1).toNat = k.toNat + 1 by omega]
            have ek : ((k.toNat : Nat) : Int) = k := by omega
            unfold lmask
            rw [ek, ← hm0]
            first | rw [if_pos hc] | rw [if_neg hc]) (by omega)
        · refine r_iload_n dX2_letterMask_20 rfl (by rfl) ?_
          refine r_iconst dX2_letterMask_21 ?_
          refine r_iload_n dX2_letterMask_22 rfl (by rfl) ?_
          refine r_ishl dX2_letterMask_23 ?_
          refine r_ior dX2_letterMask_24 ?_
          refine r_istore_n dX2_letterMask_25 rfl (Nat.le_of_ble_eq_true rfl) (L' := [_, _, _, _]) (by rfl) ?_
          refine r_iinc dX2_letterMask_26 (by rfl) (Nat.le_of_ble_eq_true rfl) (L' := [_, _, _, _]) (by rfl) ?_
          refine r_goto (tgt := 4) dX2_letterMask_29 (by decide) ?_
          exact ih (k + 1) _ (by omega) (by omega) (by
            rw [show (k + 1).toNat = k.toNat + 1 by omega]
            have ek : ((k.toNat : Nat) : Int) = k := by omega
            unfold lmask
            rw [ek, ← hm0]
            first | rw [if_pos hc] | rw [if_neg hc]) (by omega)
  refine r_iconst dX2_letterMask_0 ?_
  refine r_istore_n dX2_letterMask_1 rfl (Nat.le_of_ble_eq_true rfl) (L' := [_, _, _, _]) (by rfl) ?_
  refine r_iconst dX2_letterMask_2 ?_
  refine r_istore_n dX2_letterMask_3 rfl (Nat.le_of_ble_eq_true rfl) (L' := [_, _, _, _]) (by rfl) ?_
  exact cut_4 9 0 0 (by omega) (by omega) rfl (by omega)

set_option maxRecDepth 100000 in
set_option maxHeartbeats 4000000 in
theorem ct_X2_columnProperty {l : Launch} {G : GG} {π : Nat → Option Nat} {σ τ : ST} (hI : CI σ) (s : Int) (h0 : 0 ≤ s) (h1 : s < 12) (q : Int) (h2 : 0 ≤ q) (h3 : inR q) (w : Int) (h4 : 0 ≤ w) (h5 : w ≤ 2) : Ct l G mX2_columnProperty (2, 0, 0) [.ref 2, .int (iI s), .int (iI q), .int (iI w)] 110 KD σ τ (RHO π) (KQ (some (.int (iI (if σ 7 s.toNat ≤ q then -1 else if w = 0 then σ 9 (8 * s.toNat + q.toNat) else if w = 1 then σ 8 (8 * s.toNat + q.toNat) else pcl σ (σ 2 0 - 1).toNat (σ 8 (8 * s.toNat + q.toNat)))))) 110 KD σ τ (RHO π)) := by
  have hw := hI.wd s.toNat
  have hz := hI.sz
  unfold inR at h3
  have hc := hI.co (8 * s.toNat + q.toNat)
  refine ct_intro (own := "ShapedRows$Shapes") rfl (by decide +kernel) (Nat.le_of_ble_eq_true rfl) (L := _) rfl ?_
  refine r_iload_n dX2_columnProperty_0 rfl (by rfl) ?_
  refine r_if_lt (tgt := 13) dX2_columnProperty_1 (by decide) (by unfold inR; omega) (fun c_1 => ?_) (fun c_1 => ?_)
  · refine r_iconst dX2_columnProperty_13 ?_
    exact r_ret_i dX2_columnProperty_14 rfl ⟨Nat.zero_le _, Nat.zero_le _⟩ (by first | (rw [if_pos (by omega)]; done) | (rw [if_neg (by omega), if_pos (by omega)]; done) | (rw [if_neg (by omega), if_neg (by omega), if_pos (by omega)]; done) | (rw [if_neg (by omega), if_neg (by omega), if_neg (by omega)]; done) | omega) ⟨rfl, rfl, (by first | rfl | omega), rfl, rfl⟩
  · refine r_iload_n dX2_columnProperty_4 rfl (by rfl) ?_
    refine r_aload_n dX2_columnProperty_5 rfl (by rfl) ?_
    refine r_iload_n dX2_columnProperty_6 rfl (by rfl) ?_
    refine r_callV1 (ct_X2_width _ (by first | omega | (unfold inR; omega)) (by first | omega | (unfold inR; omega))) fX2_width qX2_61 dX2_columnProperty_7 KD_2 (by decide) ⟨Nat.zero_le _, Nat.zero_le _⟩ (Nat.le_of_ble_eq_true rfl) ?_
    refine r_icmp_lt (tgt := 15) dX2_columnProperty_10 (by decide) (by unfold inR; omega) (by unfold inR; omega) (fun c_2 => ?_) (fun c_2 => ?_)
    · refine r_iload_n dX2_columnProperty_15 rfl (by rfl) ?_
      rcases (show w = 0 ∨ w = 1 ∨ (w ≠ 0 ∧ w ≠ 1) by omega) with t_3 | t_3 | t_3
      · refine r_lsw (off := 28) (tgt := 44) (a := w) dX2_columnProperty_16 (by unfold inR; omega) (by decide) (by rw [t_3]; rfl) (by decide) ?_
        refine r_aload_n dX2_columnProperty_44 rfl (by rfl) ?_
        refine r_iload_n dX2_columnProperty_45 rfl (by rfl) ?_
        refine r_iload_n dX2_columnProperty_46 rfl (by rfl) ?_
        refine r_callV2 (ct_X2_letterAt _ (by first | omega | (unfold inR; omega)) (by first | omega | (unfold inR; omega)) _ (by first | omega | (unfold inR; omega)) (by first | omega | (unfold inR; omega))) fX2_letterAt qX2_65 dX2_columnProperty_47 KD_2 (by decide) ⟨Nat.zero_le _, Nat.zero_le _⟩ (Nat.le_of_ble_eq_true rfl) ?_
        exact r_ret_i dX2_columnProperty_50 rfl ⟨Nat.zero_le _, Nat.zero_le _⟩ (by first | (rw [if_pos (by omega)]; done) | (rw [if_neg (by omega), if_pos (by omega)]; done) | (rw [if_neg (by omega), if_neg (by omega), if_pos (by omega)]; done) | (rw [if_neg (by omega), if_neg (by omega), if_neg (by omega)]; done) | omega) ⟨rfl, rfl, (by first | rfl | omega), rfl, rfl⟩
      · refine r_lsw (off := 35) (tgt := 51) (a := w) dX2_columnProperty_16 (by unfold inR; omega) (by decide) (by rw [t_3]; rfl) (by decide) ?_
        refine r_aload_n dX2_columnProperty_51 rfl (by rfl) ?_
        refine r_iload_n dX2_columnProperty_52 rfl (by rfl) ?_
        refine r_iload_n dX2_columnProperty_53 rfl (by rfl) ?_
        refine r_callV2 (ct_X2_columnAt _ (by first | omega | (unfold inR; omega)) (by first | omega | (unfold inR; omega)) _ (by first | omega | (unfold inR; omega)) (by first | omega | (unfold inR; omega))) fX2_columnAt qX2_55 dX2_columnProperty_54 KD_2 (by decide) ⟨Nat.zero_le _, Nat.zero_le _⟩ (Nat.le_of_ble_eq_true rfl) ?_
        exact r_ret_i dX2_columnProperty_57 rfl ⟨Nat.zero_le _, Nat.zero_le _⟩ (by first | (rw [if_pos (by omega)]; done) | (rw [if_neg (by omega), if_pos (by omega)]; done) | (rw [if_neg (by omega), if_neg (by omega), if_pos (by omega)]; done) | (rw [if_neg (by omega), if_neg (by omega), if_neg (by omega)]; done) | omega) ⟨rfl, rfl, (by first | rfl | omega), rfl, rfl⟩
      · refine r_lsw (off := 42) (tgt := 58) (a := w) dX2_columnProperty_16 (by unfold inR; omega) (by decide) (by simp only [lookupswitch.offset_cons, lookupswitch.offset_nil]; repeat rw [if_neg (by omega)]) (by decide) ?_
        refine r_aload_n dX2_columnProperty_58 rfl (by rfl) ?_
        refine r_aload_n dX2_columnProperty_59 rfl (by rfl) ?_
        refine r_callV0 ct_X2_newest fX2_newest qX2_68 dX2_columnProperty_60 KD_2 (by decide) ⟨Nat.zero_le _, Nat.zero_le _⟩ (Nat.le_of_ble_eq_true rfl) ?_
        refine r_aload_n dX2_columnProperty_63 rfl (by rfl) ?_
        refine r_iload_n dX2_columnProperty_64 rfl (by rfl) ?_
        refine r_iload_n dX2_columnProperty_65 rfl (by rfl) ?_
        refine r_callV2 (ct_X2_columnAt _ (by first | omega | (unfold inR; omega)) (by first | omega | (unfold inR; omega)) _ (by first | omega | (unfold inR; omega)) (by first | omega | (unfold inR; omega))) fX2_columnAt qX2_55 dX2_columnProperty_66 KD_2 (by decide) ⟨Nat.zero_le _, Nat.zero_le _⟩ (Nat.le_of_ble_eq_true rfl) ?_
        refine r_callV2 (ct_X2_placeOfColumn hI _ (by first | omega | (unfold inR; omega)) (by first | omega | (unfold inR; omega)) _ (by first | omega | (unfold inR; omega))) fX2_placeOfColumn qX2_58 dX2_columnProperty_69 KD_2 (by decide) ⟨Nat.zero_le _, Nat.zero_le _⟩ (Nat.le_of_ble_eq_true rfl) ?_
        exact r_ret_i dX2_columnProperty_72 rfl ⟨Nat.zero_le _, Nat.zero_le _⟩ (by first | (rw [if_pos (by omega)]; done) | (rw [if_neg (by omega), if_pos (by omega)]; done) | (rw [if_neg (by omega), if_neg (by omega), if_pos (by omega)]; done) | (rw [if_neg (by omega), if_neg (by omega), if_neg (by omega)]; done) | omega) ⟨rfl, rfl, (by first | rfl | omega), rfl, rfl⟩
    · refine r_iconst dX2_columnProperty_13 ?_
      exact r_ret_i dX2_columnProperty_14 rfl ⟨Nat.zero_le _, Nat.zero_le _⟩ (by first | (rw [if_pos (by omega)]; done) | (rw [if_neg (by omega), if_pos (by omega)]; done) | (rw [if_neg (by omega), if_neg (by omega), if_pos (by omega)]; done) | (rw [if_neg (by omega), if_neg (by omega), if_neg (by omega)]; done) | omega) ⟨rfl, rfl, (by first | rfl | omega), rfl, rfl⟩

set_option maxRecDepth 100000 in
set_option maxHeartbeats 4000000 in
theorem ct_X2_canAdd {l : Launch} {G : GG} {π : Nat → Option Nat} {σ τ : ST} (hI : CI σ) (a : Int) (ha : inR a) : Ct l G mX2_canAdd (3, 0, 0) [.ref 2, .int (iI a)] 110 KD σ τ (RHO π) (KQ (some (.int (iI (if σ 2 0 < 12 ∧ plc σ (σ 2 0 - 1).toNat a = -1 then 1 else 0)))) 110 KD σ τ (RHO π)) := by
  have hz := hI.sz
  have hp := plc_rng hI (σ 2 0 - 1).toNat a
  refine ct_intro (own := "ShapedRows$Shapes") rfl (by decide +kernel) (Nat.le_of_ble_eq_true rfl) (L := _) rfl ?_
  refine r_aload_n dX2_canAdd_0 rfl (by rfl) ?_
  refine r_callV0 (ct_X2_isFull hI) fX2_isFull qX2_72 dX2_canAdd_1 KD_2 (by decide) ⟨Nat.zero_le _, Nat.zero_le _⟩ (Nat.le_of_ble_eq_true rfl) ?_
  refine r_ifne_b (tgt := 19) dX2_canAdd_4 (by decide) (fun c_1 => ?_) (fun c_1 => ?_)
  · refine r_iconst dX2_canAdd_19 ?_
    exact r_ret_z dX2_canAdd_20 rfl ⟨Nat.zero_le _, Nat.zero_le _⟩ (by first | exact Or.inl rfl | exact Or.inr rfl | (split <;> omega)) (by first | rfl | omega | (split <;> first | rfl | omega | simp_all)) ⟨rfl, rfl, (by first | rfl | omega), rfl, rfl⟩
  · refine r_aload_n dX2_canAdd_7 rfl (by rfl) ?_
    refine r_iload_n dX2_canAdd_8 rfl (by rfl) ?_
    refine r_callV1 (ct_X2_newestHas hI _ (by exact ha)) fX2_newestHas qX2_76 dX2_canAdd_9 KD_2 (by decide) ⟨Nat.zero_le _, Nat.zero_le _⟩ (Nat.le_of_ble_eq_true rfl) ?_
    refine r_ifne_b (tgt := 19) dX2_canAdd_12 (by decide) (fun c_2 => ?_) (fun c_2 => ?_)
    · refine r_iconst dX2_canAdd_19 ?_
      exact r_ret_z dX2_canAdd_20 rfl ⟨Nat.zero_le _, Nat.zero_le _⟩ (by first | exact Or.inl rfl | exact Or.inr rfl | (split <;> omega)) (by first | rfl | omega | (split <;> first | rfl | omega | simp_all)) ⟨rfl, rfl, (by first | rfl | omega), rfl, rfl⟩
    · refine r_iconst dX2_canAdd_15 ?_
      refine r_goto (tgt := 20) dX2_canAdd_16 (by decide) ?_
      exact r_ret_z dX2_canAdd_20 rfl ⟨Nat.zero_le _, Nat.zero_le _⟩ (by first | exact Or.inl rfl | exact Or.inr rfl | (split <;> omega)) (by first | rfl | omega | (split <;> first | rfl | omega | simp_all)) ⟨rfl, rfl, (by first | rfl | omega), rfl, rfl⟩

set_option maxRecDepth 100000 in
set_option maxHeartbeats 4000000 in
theorem ct_X2_canDrop {l : Launch} {G : GG} {π : Nat → Option Nat} {σ τ : ST} (hI : CI σ) (a : Int) (ha : inR a) : Ct l G mX2_canDrop (3, 0, 0) [.ref 2, .int (iI a)] 110 KD σ τ (RHO π) (KQ (some (.int (iI (if σ 2 0 < 12 ∧ plc σ (σ 2 0 - 1).toNat a ≠ -1 then 1 else 0)))) 110 KD σ τ (RHO π)) := by
  have hz := hI.sz
  have hp := plc_rng hI (σ 2 0 - 1).toNat a
  refine ct_intro (own := "ShapedRows$Shapes") rfl (by decide +kernel) (Nat.le_of_ble_eq_true rfl) (L := _) rfl ?_
  refine r_aload_n dX2_canDrop_0 rfl (by rfl) ?_
  refine r_callV0 (ct_X2_isFull hI) fX2_isFull qX2_72 dX2_canDrop_1 KD_2 (by decide) ⟨Nat.zero_le _, Nat.zero_le _⟩ (Nat.le_of_ble_eq_true rfl) ?_
  refine r_ifne_b (tgt := 19) dX2_canDrop_4 (by decide) (fun c_1 => ?_) (fun c_1 => ?_)
  · refine r_iconst dX2_canDrop_19 ?_
    exact r_ret_z dX2_canDrop_20 rfl ⟨Nat.zero_le _, Nat.zero_le _⟩ (by first | exact Or.inl rfl | exact Or.inr rfl | (split <;> omega)) (by first | rfl | omega | (split <;> first | rfl | omega | simp_all)) ⟨rfl, rfl, (by first | rfl | omega), rfl, rfl⟩
  · refine r_aload_n dX2_canDrop_7 rfl (by rfl) ?_
    refine r_iload_n dX2_canDrop_8 rfl (by rfl) ?_
    refine r_callV1 (ct_X2_newestHas hI _ (by exact ha)) fX2_newestHas qX2_76 dX2_canDrop_9 KD_2 (by decide) ⟨Nat.zero_le _, Nat.zero_le _⟩ (Nat.le_of_ble_eq_true rfl) ?_
    refine r_ifeq_b (tgt := 19) dX2_canDrop_12 (by decide) (fun c_2 => ?_) (fun c_2 => ?_)
    · refine r_iconst dX2_canDrop_19 ?_
      exact r_ret_z dX2_canDrop_20 rfl ⟨Nat.zero_le _, Nat.zero_le _⟩ (by first | exact Or.inl rfl | exact Or.inr rfl | (split <;> omega)) (by first | rfl | omega | (split <;> first | rfl | omega | simp_all)) ⟨rfl, rfl, (by first | rfl | omega), rfl, rfl⟩
    · refine r_iconst dX2_canDrop_15 ?_
      refine r_goto (tgt := 20) dX2_canDrop_16 (by decide) ?_
      exact r_ret_z dX2_canDrop_20 rfl ⟨Nat.zero_le _, Nat.zero_le _⟩ (by first | exact Or.inl rfl | exact Or.inr rfl | (split <;> omega)) (by first | rfl | omega | (split <;> first | rfl | omega | simp_all)) ⟨rfl, rfl, (by first | rfl | omega), rfl, rfl⟩

set_option maxRecDepth 100000 in
set_option maxHeartbeats 4000000 in
theorem ct_X2_canRename {l : Launch} {G : GG} {π : Nat → Option Nat} {σ τ : ST} (hI : CI σ) (a : Int) (ha : inR a) (b : Int) (hb : inR b) : Ct l G mX2_canRename (3, 0, 0) [.ref 2, .int (iI a), .int (iI b)] 110 KD σ τ (RHO π) (KQ (some (.int (iI (if σ 2 0 < 12 ∧ plc σ (σ 2 0 - 1).toNat a ≠ -1 ∧ plc σ (σ 2 0 - 1).toNat b = -1 then 1 else 0)))) 110 KD σ τ (RHO π)) := by
  have hz := hI.sz
  have hp := plc_rng hI (σ 2 0 - 1).toNat a
  have hp2 := plc_rng hI (σ 2 0 - 1).toNat b
  refine ct_intro (own := "ShapedRows$Shapes") rfl (by decide +kernel) (Nat.le_of_ble_eq_true rfl) (L := _) rfl ?_
  refine r_aload_n dX2_canRename_0 rfl (by rfl) ?_
  refine r_callV0 (ct_X2_isFull hI) fX2_isFull qX2_72 dX2_canRename_1 KD_2 (by decide) ⟨Nat.zero_le _, Nat.zero_le _⟩ (Nat.le_of_ble_eq_true rfl) ?_
  refine r_ifne_b (tgt := 27) dX2_canRename_4 (by decide) (fun c_1 => ?_) (fun c_1 => ?_)
  · refine r_iconst dX2_canRename_27 ?_
    exact r_ret_z dX2_canRename_28 rfl ⟨Nat.zero_le _, Nat.zero_le _⟩ (by first | exact Or.inl rfl | exact Or.inr rfl | (split <;> omega)) (by first | rfl | omega | (split <;> first | rfl | omega | simp_all)) ⟨rfl, rfl, (by first | rfl | omega), rfl, rfl⟩
  · refine r_aload_n dX2_canRename_7 rfl (by rfl) ?_
    refine r_iload_n dX2_canRename_8 rfl (by rfl) ?_
    refine r_callV1 (ct_X2_newestHas hI _ (by first | exact ha | exact hb)) fX2_newestHas qX2_76 dX2_canRename_9 KD_2 (by decide) ⟨Nat.zero_le _, Nat.zero_le _⟩ (Nat.le_of_ble_eq_true rfl) ?_
    refine r_ifeq_b (tgt := 27) dX2_canRename_12 (by decide) (fun c_2 => ?_) (fun c_2 => ?_)
    · refine r_iconst dX2_canRename_27 ?_
      exact r_ret_z dX2_canRename_28 rfl ⟨Nat.zero_le _, Nat.zero_le _⟩ (by first | exact Or.inl rfl | exact Or.inr rfl | (split <;> omega)) (by first | rfl | omega | (split <;> first | rfl | omega | simp_all)) ⟨rfl, rfl, (by first | rfl | omega), rfl, rfl⟩
    · refine r_aload_n dX2_canRename_15 rfl (by rfl) ?_
      refine r_iload_n dX2_canRename_16 rfl (by rfl) ?_
      refine r_callV1 (ct_X2_newestHas hI _ (by first | exact ha | exact hb)) fX2_newestHas qX2_76 dX2_canRename_17 KD_2 (by decide) ⟨Nat.zero_le _, Nat.zero_le _⟩ (Nat.le_of_ble_eq_true rfl) ?_
      refine r_ifne_b (tgt := 27) dX2_canRename_20 (by decide) (fun c_3 => ?_) (fun c_3 => ?_)
      · refine r_iconst dX2_canRename_27 ?_
        exact r_ret_z dX2_canRename_28 rfl ⟨Nat.zero_le _, Nat.zero_le _⟩ (by first | exact Or.inl rfl | exact Or.inr rfl | (split <;> omega)) (by first | rfl | omega | (split <;> first | rfl | omega | simp_all)) ⟨rfl, rfl, (by first | rfl | omega), rfl, rfl⟩
      · refine r_iconst dX2_canRename_23 ?_
        refine r_goto (tgt := 28) dX2_canRename_24 (by decide) ?_
        exact r_ret_z dX2_canRename_28 rfl ⟨Nat.zero_le _, Nat.zero_le _⟩ (by first | exact Or.inl rfl | exact Or.inr rfl | (split <;> omega)) (by first | rfl | omega | (split <;> first | rfl | omega | simp_all)) ⟨rfl, rfl, (by first | rfl | omega), rfl, rfl⟩

set_option maxRecDepth 100000 in
set_option maxHeartbeats 4000000 in
theorem ct_X2_canAddFrom {l : Launch} {G : GG} {π : Nat → Option Nat} {σ τ : ST} (hI : CI σ) (a : Int) (ha : inR a) (b : Int) (hb : inR b) (c : Int) (hc : inR c) : Ct l G mX2_canAddFrom (3, 0, 0) [.ref 2, .int (iI a), .int (iI b), .int (iI c)] 110 KD σ τ (RHO π) (KQ (some (.int (iI (if σ 2 0 < 12 ∧ plc σ (σ 2 0 - 1).toNat a = -1 ∧ plc σ (σ 2 0 - 1).toNat b ≠ -1 ∧ (c = -1 ∨ plc σ (σ 2 0 - 1).toNat c ≠ -1) then 1 else 0)))) 110 KD σ τ (RHO π)) := by
  have hz := hI.sz
  have hp := plc_rng hI (σ 2 0 - 1).toNat a
  have hp2 := plc_rng hI (σ 2 0 - 1).toNat b
  have hp3 := plc_rng hI (σ 2 0 - 1).toNat c
  have hc0 := hc
  unfold inR at hc0
  refine ct_intro (own := "ShapedRows$Shapes") rfl (by decide +kernel) (Nat.le_of_ble_eq_true rfl) (L := _) rfl ?_
  refine r_aload_n dX2_canAddFrom_0 rfl (by rfl) ?_
  refine r_callV0 (ct_X2_isFull hI) fX2_isFull qX2_72 dX2_canAddFrom_1 KD_2 (by decide) ⟨Nat.zero_le _, Nat.zero_le _⟩ (Nat.le_of_ble_eq_true rfl) ?_
  refine r_ifne_b (tgt := 40) dX2_canAddFrom_4 (by decide) (fun c_1 => ?_) (fun c_1 => ?_)
  · refine r_iconst dX2_canAddFrom_40 ?_
    exact r_ret_z dX2_canAddFrom_41 rfl ⟨Nat.zero_le _, Nat.zero_le _⟩ (by first | exact Or.inl rfl | exact Or.inr rfl | (split <;> omega)) (by first | rfl | omega | (split <;> first | rfl | omega | simp_all)) ⟨rfl, rfl, (by first | rfl | omega), rfl, rfl⟩
  · refine r_aload_n dX2_canAddFrom_7 rfl (by rfl) ?_
    refine r_iload_n dX2_canAddFrom_8 rfl (by rfl) ?_
    refine r_callV1 (ct_X2_newestHas hI _ (by first | exact ha | exact hb | exact hc)) fX2_newestHas qX2_76 dX2_canAddFrom_9 KD_2 (by decide) ⟨Nat.zero_le _, Nat.zero_le _⟩ (Nat.le_of_ble_eq_true rfl) ?_
    refine r_ifne_b (tgt := 40) dX2_canAddFrom_12 (by decide) (fun c_2 => ?_) (fun c_2 => ?_)
    · refine r_iconst dX2_canAddFrom_40 ?_
      exact r_ret_z dX2_canAddFrom_41 rfl ⟨Nat.zero_le _, Nat.zero_le _⟩ (by first | exact Or.inl rfl | exact Or.inr rfl | (split <;> omega)) (by first | rfl | omega | (split <;> first | rfl | omega | simp_all)) ⟨rfl, rfl, (by first | rfl | omega), rfl, rfl⟩
    · refine r_aload_n dX2_canAddFrom_15 rfl (by rfl) ?_
      refine r_iload_n dX2_canAddFrom_16 rfl (by rfl) ?_
      refine r_callV1 (ct_X2_newestHas hI _ (by first | exact ha | exact hb | exact hc)) fX2_newestHas qX2_76 dX2_canAddFrom_17 KD_2 (by decide) ⟨Nat.zero_le _, Nat.zero_le _⟩ (Nat.le_of_ble_eq_true rfl) ?_
      refine r_ifeq_b (tgt := 40) dX2_canAddFrom_20 (by decide) (fun c_3 => ?_) (fun c_3 => ?_)
      · refine r_iconst dX2_canAddFrom_40 ?_
        exact r_ret_z dX2_canAddFrom_41 rfl ⟨Nat.zero_le _, Nat.zero_le _⟩ (by first | exact Or.inl rfl | exact Or.inr rfl | (split <;> omega)) (by first | rfl | omega | (split <;> first | rfl | omega | simp_all)) ⟨rfl, rfl, (by first | rfl | omega), rfl, rfl⟩
      · refine r_iload_n dX2_canAddFrom_23 rfl (by rfl) ?_
        refine r_iconst dX2_canAddFrom_24 ?_
        refine r_icmp_eq (tgt := 36) dX2_canAddFrom_25 (by decide) (by unfold inR; omega) (by unfold inR; omega) (fun c_4 => ?_) (fun c_4 => ?_)
        · refine r_iconst dX2_canAddFrom_36 ?_
          refine r_goto (tgt := 41) dX2_canAddFrom_37 (by decide) ?_
          exact r_ret_z dX2_canAddFrom_41 rfl ⟨Nat.zero_le _, Nat.zero_le _⟩ (by first | exact Or.inl rfl | exact Or.inr rfl | (split <;> omega)) (by first | rfl | omega | (split <;> first | rfl | omega | simp_all)) ⟨rfl, rfl, (by first | rfl | omega), rfl, rfl⟩
        · refine r_aload_n dX2_canAddFrom_28 rfl (by rfl) ?_
          refine r_iload_n dX2_canAddFrom_29 rfl (by rfl) ?_
          refine r_callV1 (ct_X2_newestHas hI _ (by first | exact ha | exact hb | exact hc)) fX2_newestHas qX2_76 dX2_canAddFrom_30 KD_2 (by decide) ⟨Nat.zero_le _, Nat.zero_le _⟩ (Nat.le_of_ble_eq_true rfl) ?_
          refine r_ifeq_b (tgt := 40) dX2_canAddFrom_33 (by decide) (fun c_5 => ?_) (fun c_5 => ?_)
          · refine r_iconst dX2_canAddFrom_40 ?_
            exact r_ret_z dX2_canAddFrom_41 rfl ⟨Nat.zero_le _, Nat.zero_le _⟩ (by first | exact Or.inl rfl | exact Or.inr rfl | (split <;> omega)) (by first | rfl | omega | (split <;> first | rfl | omega | simp_all)) ⟨rfl, rfl, (by first | rfl | omega), rfl, rfl⟩
          · refine r_iconst dX2_canAddFrom_36 ?_
            refine r_goto (tgt := 41) dX2_canAddFrom_37 (by decide) ?_
            exact r_ret_z dX2_canAddFrom_41 rfl ⟨Nat.zero_le _, Nat.zero_le _⟩ (by first | exact Or.inl rfl | exact Or.inr rfl | (split <;> omega)) (by first | rfl | omega | (split <;> first | rfl | omega | simp_all)) ⟨rfl, rfl, (by first | rfl | omega), rfl, rfl⟩
