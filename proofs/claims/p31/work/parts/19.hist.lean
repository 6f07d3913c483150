def PB (b : Nat → Nat) : Nat → Option Nat := fun k => if k < 6 then some (b k) else none
theorem PB_lt (b : Nat → Nat) {k : Nat} (h : k < 6) : PB b k = some (b k) := if_pos h
def okB (b : Nat → Nat) : Prop := ∀ k, k < 6 → blkP (b k) ∧ b k ≠ 1
def dpB (b : Nat → Nat) (n : Nat) : Nat → Nat := fun k => if k < n then b (k + 1) else b k
def rot (b : Nat → Nat) : Nat → Nat := fun k => if k = 5 then b 0 else b (k + 1)
theorem RHO_up (b : Nat → Nat) (k q : Nat) (hk : k < 6) : upR (RHO (PB b)) 17 k (some q) = RHO (PB (fun j => if j = k then q else b j)) := by
  funext p j
  show (if p = 17 ∧ j = k then some q else RHO (PB b) p j) = RHO (PB (fun j => if j = k then q else b j)) p j
  show (if p = 17 ∧ j = k then some q else if p = 17 then (if j < 6 then some (b j) else none) else (RHL.getD p []).getD j none) = if p = 17 then (if j < 6 then some (if j = k then q else b j) else none) else (RHL.getD p []).getD j none
  by_cases h : p = 17
  · by_cases e : j = k
    · rw [if_pos ⟨h, e⟩, if_pos h, if_pos (by omega), if_pos e]
    · rw [if_neg (fun z => e z.2), if_pos h, if_pos h, if_neg e]
  · rw [if_neg (fun z => h z.1), if_neg h, if_neg h]
theorem okB_rot {b : Nat → Nat} (h : okB b) : okB (rot b) := fun k hk => by
  unfold rot
  by_cases e : k = 5
  · rw [if_pos e]; exact h 0 (by omega)
  · rw [if_neg e]; exact h (k + 1) (by omega)
theorem KD_st {p : Nat} (h : blkP p) : KD p = (0, 3) := KDb_0 h
theorem WP.ref {l : Launch} {G : GG} {own : String} {X : MI} {dm : Nat × Nat × Nat} {K : KK} {KE : KX} {n0 pc : Nat} {L : List (Option Value)} {S : List Value} {n : Nat} {kd : KT} {σ τ : ST} {ρ ρ' : RT} {ce sl : Nat} (h : ρ = ρ') (k : WP l G own X dm K KE n0 pc L S n kd σ τ ρ' ce sl) : WP l G own X dm K KE n0 pc L S n kd σ τ ρ ce sl := h ▸ k
theorem cpI_off (σ : ST) {q p a : Nat} (n : Nat) (h : a ≠ p) : cpI σ q p n a = σ a := by funext b; unfold cpI; rw [if_neg (fun z => h z.1)]
theorem tkSt_off (σ : ST) {q p : Nat} (hq : blkP q) (hp : blkP p) (a : Nat) (h : a ≤ p ∨ p + 14 ≤ a) : tkSt σ q p a = σ a := by
  unfold tkSt tkRo tkSh
  rw [cpI_off _ _ (by omega), cpI_off _ _ (by omega), cpI_off _ _ (by omega), cpI_off _ _ (by omega), cpI_off _ _ (by omega), cpI_off _ _ (by omega), cpI_off _ _ (by omega), cpI_off _ _ (by omega), cpI_off _ _ (by omega), cpI_off _ _ (by omega), cpI_off _ _ (by omega), cpI_off _ _ (by omega), cpI_off _ _ (by omega)]
def svB (σ : ST) (b : Nat → Nat) : Nat → Nat := if σ 16 1 < 6 then b else rot b
def svK (σ : ST) : Nat := if σ 16 1 < 6 then (σ 16 1).toNat else 5
/-- History.save of the state at place 1 -/
def svF (σ : ST) (b : Nat → Nat) : ST := if σ 16 1 < 6 then up2 (tkSt σ 1 (b (σ 16 1).toNat)) 16 1 (σ 16 1 + 1) else up2 (tkSt (up2 σ 16 1 (σ 16 1 - 1)) 1 (b 0)) 16 1 (σ 16 1 - 1 + 1)

set_option maxRecDepth 100000 in
set_option maxHeartbeats 4000000 in
theorem ct_X0_size {l : Launch} {G : GG} {π : Nat → Option Nat} {σ τ : ST}  : Ct l G mX0_size (0, 0, 0) [.ref 16] 110 KD σ τ (RHO π) (KQ (some (.int (iI (σ 16 1)))) 110 KD σ τ (RHO π)) := by
  refine ct_intro (own := "ShapedRows$History") rfl (by decide +kernel) (Nat.le_of_ble_eq_true rfl) (L := _) rfl ?_
  refine r_aload_n dX0_size_0 rfl (by rfl) ?_
  refine r_get_i kX0_17 dX0_size_1 KD_16 ?_
  exact r_ret_i dX0_size_4 rfl ⟨Nat.zero_le _, Nat.zero_le _⟩ (by first | rfl | omega | (split <;> omega)) ⟨rfl, rfl, (by first | rfl | omega), rfl, rfl⟩

set_option maxRecDepth 100000 in
set_option maxHeartbeats 4000000 in
theorem ct_X0_slotAt {l : Launch} {G : GG} {σ τ : ST} (b : Nat → Nat) (hb : okB b) (n : Int) (h0 : 0 ≤ n) (h1 : n < 6) : Ct l G mX0_slotAt (0, 0, 0) [.ref 16, .int (iI n)] 110 KD σ τ (RHO (PB b)) (KQ (some (.ref (b n.toNat))) 110 KD σ τ (RHO (PB b))) := by
  have hq := hb n.toNat (by omega)
  have hq2 := blk_lt hq.1
  refine ct_intro (own := "ShapedRows$History") rfl (by decide +kernel) (Nat.le_of_ble_eq_true rfl) (L := _) rfl ?_
  refine r_iload_n dX0_slotAt_0 rfl (by rfl) ?_
  refine r_if_lt (tgt := 22) dX0_slotAt_1 (by decide) (by unfold inR; omega) (fun c_1 => ?_) (fun c_1 => ?_)
  · exact absurd h1 (by omega)
  · refine r_iload_n dX0_slotAt_4 rfl (by rfl) ?_
    refine r_aload_n dX0_slotAt_5 rfl (by rfl) ?_
    refine r_get_r kX0_11 dX0_slotAt_6 KD_16 (RHO_16_0 _) ?_
    refine r_alen (by decide) dX0_slotAt_9 KD_17 ?_
    refine r_icmp_ge (tgt := 22) dX0_slotAt_10 (by decide) (by unfold inR; omega) (by unfold inR; omega) (fun c_2 => ?_) (fun c_2 => ?_)
    · exact absurd h1 (by omega)
    · refine r_aload_n dX0_slotAt_13 rfl (by rfl) ?_
      refine r_get_r kX0_11 dX0_slotAt_14 KD_16 (RHO_16_0 _) ?_
      refine r_iload_n dX0_slotAt_17 rfl (by rfl) ?_
      refine r_aaload (k := n.toNat) dX0_slotAt_18 KD_17 (by omega) (by omega) (by decide) (by rw [RHO_17]; exact PB_lt b (by omega)) ?_
      refine r_goto (tgt := 23) dX0_slotAt_19 (by decide) ?_
      exact r_ret_r dX0_slotAt_23 rfl (by first | exact Or.inl ⟨_, rfl⟩ | exact Or.inr ⟨_, rfl⟩) ⟨Nat.zero_le _, Nat.zero_le _⟩ (by omega) (by rfl) ⟨rfl, rfl, (by first | rfl | omega), rfl, rfl⟩

set_option maxRecDepth 100000 in
set_option maxHeartbeats 4000000 in
theorem ct_X0_dropOldest {l : Launch} {G : GG} {σ τ : ST} (b : Nat → Nat) (hb : okB b) (h0 : σ 16 1 = 6) : Ct l G mX0_dropOldest (1, 0, 0) [.ref 16] 110 KD σ τ (RHO (PB b)) (KQ none 110 KD (up2 σ 16 1 (σ 16 1 - 1)) τ (RHO (PB (rot b)))) := by
  have hq0 := hb 0 (by omega)
  refine ct_intro (own := "ShapedRows$History") rfl (by decide +kernel) (Nat.le_of_ble_eq_true rfl) (L := _) rfl ?_
  have cut_8 : ∀ (N : Nat) (k : Int), (1 ≤ k) → (k ≤ 6) → 6 - k < (N : Int) → WP l G "ShapedRows$History" mX0_dropOldest (1, 0, 0) (KQ none 110 KD (up2 σ 16 1 (σ 16 1 - 1)) τ (RHO (PB (rot b)))) noX 110 8 [some (.ref 16), some (.ref (b 0)), some (.int (iI k))] [] 110 KD σ τ (RHO (PB (dpB b (k - 1).toNat))) 0 0 := by
    intro N
    induction N with
    | zero => intro k k0 k1 hm; exact absurd hm (by omega)
    | succ N ih =>
      intro k k0 k1 hm
      refine r_iload_n dX0_dropOldest_8 rfl (by rfl) ?_
      refine r_aload_n dX0_dropOldest_9 rfl (by rfl) ?_
      refine r_get_r kX0_11 dX0_dropOldest_10 KD_16 (RHO_16_0 _) ?_
      refine r_alen (by decide) dX0_dropOldest_13 KD_17 ?_
      refine r_icmp_ge (tgt := 37) dX0_dropOldest_14 (by decide) (by unfold inR; omega) (by unfold inR; omega) (fun c_1 => ?_) (fun c_1 => ?_)
      · refine r_aload_n dX0_dropOldest_37 rfl (by rfl) ?_
        refine r_get_i kX0_17 dX0_dropOldest_38 KD_16 ?_
        refine r_if_le (tgt := 79) dX0_dropOldest_41 (by decide) (by unfold inR; omega) (fun c_LE => ?_) (fun c_LE => ?_)
        · exact absurd c_LE (by omega)
        · refine r_aload_n dX0_dropOldest_44 rfl (by rfl) ?_
          refine r_get_i kX0_17 dX0_dropOldest_45 KD_16 ?_
          refine r_aload_n dX0_dropOldest_48 rfl (by rfl) ?_
          refine r_get_r kX0_11 dX0_dropOldest_49 KD_16 (RHO_16_0 _) ?_
          refine r_alen (by decide) dX0_dropOldest_52 KD_17 ?_
          refine r_icmp_gt (tgt := 79) dX0_dropOldest_53 (by decide) (by unfold inR; omega) (by unfold inR; omega) (fun c_GT => ?_) (fun c_GT => ?_)
          · exact absurd c_GT (by omega)
          · refine r_aload_n dX0_dropOldest_56 rfl (by rfl) ?_
            refine r_get_r kX0_11 dX0_dropOldest_57 KD_16 (RHO_16_0 _) ?_
            refine r_aload_n dX0_dropOldest_60 rfl (by rfl) ?_
            refine r_get_r kX0_11 dX0_dropOldest_61 KD_16 (RHO_16_0 _) ?_
            refine r_alen (by decide) dX0_dropOldest_64 KD_17 ?_
            refine r_iconst dX0_dropOldest_65 ?_
            refine r_isub dX0_dropOldest_66 ?_
            refine r_aload_n dX0_dropOldest_67 rfl (by rfl) ?_
            refine r_aastore (k := 5) dX0_dropOldest_68 KD_17 (by omega) (by omega) (by decide) (KD_st hq0.1) ?_
            refine r_aload_n dX0_dropOldest_69 rfl (by rfl) ?_
            refine r_dup dX0_dropOldest_70 rfl ?_
            refine r_get_i kX0_17 dX0_dropOldest_71 KD_16 ?_
            refine r_iconst dX0_dropOldest_74 ?_
            refine r_isub dX0_dropOldest_75 ?_
            refine r_put_i kX0_17 dX0_dropOldest_76 KD_16 ?_
            exact r_ret_v dX0_dropOldest_79 rfl ⟨Nat.zero_le _, Nat.zero_le _⟩ ⟨rfl, rfl, (by first | rfl | omega), rfl, (by rw [RHO_up _ _ _ (by omega)]; congr 1; funext j; unfold PB; by_cases h6 : j < 6; (rw [if_pos h6, if_pos h6]; congr 1; unfold dpB rot; by_cases e : j = 5; (simp only [if_pos e]); (simp only [if_neg e]; rw [if_pos (by omega)])); (rw [if_neg h6, if_neg h6]))⟩
      · refine r_aload_n dX0_dropOldest_17 rfl (by rfl) ?_
        refine r_get_r kX0_11 dX0_dropOldest_18 KD_16 (RHO_16_0 _) ?_
        refine r_iload_n dX0_dropOldest_21 rfl (by rfl) ?_
        refine r_iconst dX0_dropOldest_22 ?_
        refine r_isub dX0_dropOldest_23 ?_
        refine r_aload_n dX0_dropOldest_24 rfl (by rfl) ?_
        refine r_get_r kX0_11 dX0_dropOldest_25 KD_16 (RHO_16_0 _) ?_
        refine r_iload_n dX0_dropOldest_28 rfl (by rfl) ?_
        refine r_aaload (k := k.toNat) dX0_dropOldest_29 KD_17 (by omega) (by omega) (by decide) (by rw [RHO_17, PB_lt _ (by omega)]) ?_
        refine r_aastore (k := (k - 1).toNat) dX0_dropOldest_30 KD_17 (by omega) (by omega) (by decide) (KD_st (by unfold dpB; rw [if_neg (by omega)]; exact (hb _ (by omega)).1)) ?_
        refine r_iinc dX0_dropOldest_31 (by rfl) (Nat.le_of_ble_eq_true rfl) (L' := [_, _, _]) (by rfl) ?_
        refine r_goto (tgt := 8) dX0_dropOldest_34 (by decide) ?_
        refine WP.ref (ρ' := RHO (PB (dpB b (k + 1 - 1).toNat))) ?_ (ih (k + 1) (by omega) (by omega) (by omega))
        rw [RHO_up _ _ _ (by omega)]
        congr 2
        funext j
        unfold dpB
        by_cases e : j = (k - 1).toNat
        · rw [if_pos e, if_neg (by omega), if_pos (by omega)]; congr 1; omega
        · rw [if_neg e]
          by_cases e2 : j < (k - 1).toNat
          · rw [if_pos e2, if_pos (by omega)]
          · rw [if_neg e2, if_neg (by omega)]
  refine r_aload_n dX0_dropOldest_0 rfl (by rfl) ?_
  refine r_iconst dX0_dropOldest_1 ?_
  refine r_callV1 (ct_X0_slotAt _ hb _ (by omega) (by omega)) fX0_slotAt qX0_25 dX0_dropOldest_2 KD_16 (by decide) ⟨Nat.zero_le _, Nat.zero_le _⟩ (Nat.le_of_ble_eq_true rfl) ?_
  refine r_astore_n dX0_dropOldest_5 rfl (Nat.le_of_ble_eq_true rfl) (L' := [_, _, _]) (by rfl) ?_
  refine r_iconst dX0_dropOldest_6 ?_
  refine r_istore_n dX0_dropOldest_7 rfl (Nat.le_of_ble_eq_true rfl) (L' := [_, _, _]) (by rfl) ?_
  refine WP.ref (ρ' := RHO (PB (dpB b (1 - 1 : Int).toNat))) ?_ (cut_8 9 1 (by omega) (by omega) (by omega))
  rw [show (1 - 1 : Int).toNat = 0 by omega]
  congr 1

set_option maxRecDepth 100000 in
set_option maxHeartbeats 4000000 in
theorem ct_X0_save {l : Launch} {G : GG} {σ τ : ST} (b : Nat → Nat) (hb : okB b) (hs : 0 ≤ σ 16 1 ∧ σ 16 1 ≤ 6) : Ct l G mX0_save (5, 0, 0) [.ref 16, .ref 1] 110 KD σ τ (RHO (PB b)) (KQ none 110 KD (svF σ b) τ (RHO (PB (svB σ b)))) := by
  refine ct_intro (own := "ShapedRows$History") rfl (by decide +kernel) (Nat.le_of_ble_eq_true rfl) (L := _) rfl ?_
  refine r_aload_n dX0_save_0 rfl (by rfl) ?_
  refine r_get_i kX0_17 dX0_save_1 KD_16 ?_
  refine r_bipush dX0_save_4 (by decide) ?_
  refine r_icmp_lt (tgt := 13) dX0_save_6 (by decide) (by unfold inR; omega) (by unfold inR; omega) (fun hc => ?_) (fun hc => ?_)
  · refine r_aload_n dX0_save_13 rfl (by rfl) ?_
    refine r_aload_n dX0_save_14 rfl (by rfl) ?_
    refine r_get_i kX0_17 dX0_save_15 KD_16 ?_
    refine r_callV1 (ct_X0_slotAt b hb _ (by omega) (by omega)) fX0_slotAt qX0_25 dX0_save_18 KD_16 (by decide) ⟨Nat.zero_le _, Nat.zero_le _⟩ (Nat.le_of_ble_eq_true rfl) ?_
    skip
    refine r_astore_n dX0_save_21 rfl (Nat.le_of_ble_eq_true rfl) (L' := [_, _, _]) (by rfl) ?_
    refine r_aload_n dX0_save_22 rfl (by rfl) ?_
    refine r_ifnull dX0_save_23 ?_
    refine r_aload_n dX0_save_26 rfl (by rfl) ?_
    refine r_aload_n dX0_save_27 rfl (by rfl) ?_
    refine r_callV1 (ct_X3_takeFrom (p := b (σ 16 1).toNat) (q := 1) (hb _ (by omega)).1 (Or.inl rfl) (fun z => (hb _ (by omega)).2 z.symm)) fX3_takeFrom qX0_29 dX0_save_28 (KD_st (hb _ (by omega)).1) (by decide) ⟨Nat.zero_le _, Nat.zero_le _⟩ (Nat.le_of_ble_eq_true rfl) ?_
    refine r_aload_n dX0_save_31 rfl (by rfl) ?_
    refine r_dup dX0_save_32 rfl ?_
    refine r_get_i kX0_17 dX0_save_33 KD_16 ?_
    refine r_iconst dX0_save_36 ?_
    refine r_iadd dX0_save_37 ?_
    refine r_put_i kX0_17 dX0_save_38 KD_16 ?_
    exact r_ret_v dX0_save_41 rfl ⟨Nat.zero_le _, Nat.zero_le _⟩ ⟨rfl, rfl, (by unfold svF; rw [if_pos hc, show tkSt σ 1 (b (σ 16 1).toNat) 16 = σ 16 by exact tkSt_off σ (Or.inl rfl) (hb _ (by omega)).1 16 (by have := blk_lt (hb (σ 16 1).toNat (by omega)).1; omega)]), rfl, (by unfold svB; first | rw [if_pos hc] | rw [if_neg (by omega)])⟩
  · refine r_aload_n dX0_save_9 rfl (by rfl) ?_
    refine r_callV0 (ct_X0_dropOldest _ (by omega) (by omega)) fX0_dropOldest qX0_22 dX0_save_10 KD_16 (by decide) ⟨Nat.zero_le _, Nat.zero_le _⟩ (Nat.le_of_ble_eq_true rfl) ?_
    refine r_aload_n dX0_save_13 rfl (by rfl) ?_
    refine r_aload_n dX0_save_14 rfl (by rfl) ?_
    refine r_get_i kX0_17 dX0_save_15 KD_16 ?_
    refine r_callV1 (ct_X0_slotAt (rot b) (okB_rot hb) _ (by rw [up2_at]; omega) (by rw [up2_at]; omega)) fX0_slotAt qX0_25 dX0_save_18 KD_16 (by decide) ⟨Nat.zero_le _, Nat.zero_le _⟩ (Nat.le_of_ble_eq_true rfl) ?_
    rw [show rot b (up2 σ 16 1 (σ 16 1 - 1) 16 1).toNat = b 0 by rw [up2_at, show (σ 16 1 - 1).toNat = 5 by omega]; rfl]
    refine r_astore_n dX0_save_21 rfl (Nat.le_of_ble_eq_true rfl) (L' := [_, _, _]) (by rfl) ?_
    refine r_aload_n dX0_save_22 rfl (by rfl) ?_
    refine r_ifnull dX0_save_23 ?_
    refine r_aload_n dX0_save_26 rfl (by rfl) ?_
    refine r_aload_n dX0_save_27 rfl (by rfl) ?_
    refine r_callV1 (ct_X3_takeFrom (p := b 0) (q := 1) (hb _ (by omega)).1 (Or.inl rfl) (fun z => (hb _ (by omega)).2 z.symm)) fX3_takeFrom qX0_29 dX0_save_28 (KD_st (hb _ (by omega)).1) (by decide) ⟨Nat.zero_le _, Nat.zero_le _⟩ (Nat.le_of_ble_eq_true rfl) ?_
    refine r_aload_n dX0_save_31 rfl (by rfl) ?_
    refine r_dup dX0_save_32 rfl ?_
    refine r_get_i kX0_17 dX0_save_33 KD_16 ?_
    refine r_iconst dX0_save_36 ?_
    refine r_iadd dX0_save_37 ?_
    refine r_put_i kX0_17 dX0_save_38 KD_16 ?_
    exact r_ret_v dX0_save_41 rfl ⟨Nat.zero_le _, Nat.zero_le _⟩ ⟨rfl, rfl, (by unfold svF; rw [if_neg (by omega), show tkSt (up2 σ 16 1 (σ 16 1 - 1)) 1 (b 0) 16 = up2 σ 16 1 (σ 16 1 - 1) 16 by exact tkSt_off _ (Or.inl rfl) (hb _ (by omega)).1 16 (by have := blk_lt (hb 0 (by omega)).1; omega), up2_at]), rfl, (by unfold svB; first | rw [if_pos hc] | rw [if_neg (by omega)])⟩

set_option maxRecDepth 100000 in
set_option maxHeartbeats 4000000 in
theorem ct_X0_restore {l : Launch} {G : GG} {σ τ : ST} (b : Nat → Nat) (hb : okB b) (hs : 1 ≤ σ 16 1 ∧ σ 16 1 ≤ 6) : Ct l G mX0_restore (5, 0, 0) [.ref 16, .ref 1] 110 KD σ τ (RHO (PB b)) (KQ (some (.int (iI (σ 16 1 - 1)))) 110 KD (up2 (tkSt σ (b (σ 16 1 - 1).toNat) 1) 16 1 (σ 16 1 - 1)) τ (RHO (PB b))) := by
  refine ct_intro (own := "ShapedRows$History") rfl (by decide +kernel) (Nat.le_of_ble_eq_true rfl) (L := _) rfl ?_
  refine r_aload_n dX0_restore_0 rfl (by rfl) ?_
  refine r_aload_n dX0_restore_1 rfl (by rfl) ?_
  refine r_get_i kX0_17 dX0_restore_2 KD_16 ?_
  refine r_iconst dX0_restore_5 ?_
  refine r_isub dX0_restore_6 ?_
  refine r_callV1 (ct_X0_slotAt _ hb _ (by omega) (by omega)) fX0_slotAt qX0_25 dX0_restore_7 KD_16 (by decide) ⟨Nat.zero_le _, Nat.zero_le _⟩ (Nat.le_of_ble_eq_true rfl) ?_
  refine r_astore_n dX0_restore_10 rfl (Nat.le_of_ble_eq_true rfl) (L' := [_, _, _]) (by rfl) ?_
  refine r_aload_n dX0_restore_11 rfl (by rfl) ?_
  refine r_ifnull dX0_restore_12 ?_
  refine r_aload_n dX0_restore_15 rfl (by rfl) ?_
  refine r_aload_n dX0_restore_16 rfl (by rfl) ?_
  refine r_callV1 (ct_X3_takeFrom (p := 1) (q := b (σ 16 1 - 1).toNat) (Or.inl rfl) (hb _ (by omega)).1 (hb _ (by omega)).2) fX3_takeFrom qX0_29 dX0_restore_17 KD_1 (by decide) ⟨Nat.zero_le _, Nat.zero_le _⟩ (Nat.le_of_ble_eq_true rfl) ?_
  refine r_aload_n dX0_restore_20 rfl (by rfl) ?_
  refine r_dup dX0_restore_21 rfl ?_
  refine r_get_i kX0_17 dX0_restore_22 KD_16 ?_
  refine r_iconst dX0_restore_25 ?_
  refine r_isub dX0_restore_26 ?_
  refine r_put_i kX0_17 dX0_restore_27 KD_16 ?_
  refine r_aload_n dX0_restore_30 rfl (by rfl) ?_
  refine r_get_i kX0_17 dX0_restore_31 KD_16 ?_
  exact r_ret_i dX0_restore_34 rfl ⟨Nat.zero_le _, Nat.zero_le _⟩ (by rw [up2_at, tkSt_off σ (hb _ (by omega)).1 (Or.inl rfl) 16 (by omega)]) ⟨rfl, rfl, (by rw [tkSt_off σ (hb _ (by omega)).1 (Or.inl rfl) 16 (by omega)]), rfl, rfl⟩
