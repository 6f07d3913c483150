/-! p31: the law -/
def PK (σ : ST) (b : Nat → Nat) (v w : Int) (μ : ST) : Prop := KI μ ∧ TI μ ∧ E μ (aO (svF σ b) v w (kOp (andI v 15))) ∧ μ 16 1 = (if σ 16 1 < 6 then σ 16 1 + 1 else 6) ∧ μ 10 2 ≤ σ 10 2 + 12 ∧ ∃ f, ∀ p j, HJ p j → μ p j = svF (sr σ 15 f) b p j
theorem PK_sr {σ μ : ST} {b : Nat → Nat} {v w : Int} (h : PK σ b v w μ) (g : Nat → Int) : PK σ b v w (sr μ 15 g) := by
  obtain ⟨h1, h2, h3, h4, h5, f, h6⟩ := h
  refine ⟨KI_E (E_sr μ g).sy h1, TI_sr h2, (E_sr μ g).tr h3, by rw [sr_16]; exact h4, by rw [sr_10]; exact h5, f, fun p j hj => ?_⟩
  rw [sr_off _ _ (show p ≠ 15 by unfold HJ at hj; omega)]
  exact h6 p j hj
theorem PK_of {σ : ST} {b : Nat → Nat} {v w : Int} (hK : KI σ) (hT : TI σ) (hB : okB b) (hN : 0 ≤ σ 16 1 ∧ σ 16 1 ≤ 6) (f g : Nat → Int) (hp : aP σ v w (kOp (andI v 15))) : PK σ b v w (sr (aO (svF (sr σ 15 f) b) v w (kOp (andI v 15))) 15 g) := by
  have hN2 : 0 ≤ sr σ 15 f 16 1 ∧ sr σ 15 f 16 1 ≤ 6 := by rw [sr_16]; exact hN
  have k1 : KI (svF (sr σ 15 f) b) := KI_sv hB hN2 (KI_E (E_sr σ f).sy hK)
  have p1 : aP (svF (sr σ 15 f) b) v w (kOp (andI v 15)) := aP_sv hB hN2 (aP_E (E_sr σ f).sy hp)
  have hi : ∀ p j, HJ p j → aO (svF (sr σ 15 f) b) v w (kOp (andI v 15)) p j = svF (sr σ 15 f) b p j := fun p j hj => aO_hi k1 p1 hj
  refine PK_sr ⟨aO_KI k1 p1, ?_, aO_E (svF_E (E_sr σ f) hB hB hN2) v w _, ?_, ?_, f, hi⟩ g
  · have q : TI (svF (sr σ 15 f) b) := TI_sv hB hN2 (TI_sr hT)
    unfold TI at q ⊢
    rw [show aO (svF (sr σ 15 f) b) v w (kOp (andI v 15)) 108 = svF (sr σ 15 f) b 108 from funext fun j => hi 108 j (HJ_16 (by omega)), show aO (svF (sr σ 15 f) b) v w (kOp (andI v 15)) 109 = svF (sr σ 15 f) b 109 from funext fun j => hi 109 j (HJ_16 (by omega))]
    exact q
  · rw [hi 16 1 (HJ_16 (by omega)), svF_16 hB hN2, sr_16]
  · have q := aO_102 (svF (sr σ 15 f) b) v w (kOp (andI v 15))
    rw [svF_rw hB hN2 (by omega), sr_10] at q
    exact q
def KP (σ τ : ST) (b : Nat → Nat) (v w : Int) : KK := fun x n kd σ' τ' ρ' => n = 110 ∧ kd = KD ∧ τ' = τ ∧
  ((¬ aP σ v w (kOp (andI v 15)) ∧ x = some (.int (iI 0)) ∧ ρ' = RHO (PB b) ∧ ∃ f, σ' = sr σ 15 f) ∨
   (aP σ v w (kOp (andI v 15)) ∧ x = some (.int (iI 1)) ∧ ρ' = RHO (PB (svB σ b)) ∧ PK σ b v w σ'))
theorem cp_acts {l : Launch} {G : GG} {σ τ : ST} {f : Nat → Int} (b : Nat → Nat) (hB : okB b) (hN : 0 ≤ σ 16 1 ∧ σ 16 1 ≤ 6) (hK : KI σ) (hT : TI σ) (v w : Int) : Ct l G mL_acts (8, 0, 0) [.ref 0, .int (iI v), .int (iI w)] 110 KD (sr σ 15 f) τ (RHO (PB b)) (KP σ τ b v w) :=
  Ct.mono (fun x n kd σ' τ' ρ' h => by
    obtain ⟨h1, h2, h3, ⟨q, r1, r2, f3, r3⟩ | ⟨q, r1, r2, f3, g3, r3⟩⟩ := h
    · exact ⟨h1, h2, h3, Or.inl ⟨fun z => q (aP_E (E_sr σ f).sy z), r1, r2, f3, by rw [r3, sr_sr]⟩⟩
    · have q2 := aP_E (E_sr σ f) q
      rw [sr_sr] at r3
      rw [svB_sr] at r2
      exact ⟨h1, h2, h3, Or.inr ⟨q2, r1, r2, by rw [r3]; exact PK_of hK hT hB hN f3 g3 q2⟩⟩) (ct_L_acts (σ := sr σ 15 f) b hB (by rw [sr_16]; exact hN) (KI_E (E_sr σ f).sy hK) v w)
theorem rL_mem {l : Launch} {G : GG} {own : String} {X : MI} {dm : Nat × Nat × Nat} {K : KK} {KE : KX} {n0 pc : Nat} {L : List (Option Value)} {S : List Value} {n : Nat} {kd : KT} {σ σ' τ : ST} {ρ : RT} {ce sl : Nat} (h : σ = σ') (k : WPL l G own X dm K KE n0 pc L S n kd σ' τ ρ ce sl) : WPL l G own X dm K KE n0 pc L S n kd σ τ ρ ce sl := h ▸ k

set_option maxRecDepth 100000 in
set_option maxHeartbeats 4000000 in
theorem ct_L_cell {l : Launch} {G : GG} {σ τ : ST} {π : Nat → Option Nat} (hG : G.2.2.2.2.2.2.1 ≤ 260) (k : Int) (k0 : 0 ≤ k) (k1 : k < 1000) : CtL l G mL_cell (0, 0, 0) [.ref 1000, .int (iI k)] 110 KD σ τ (RHO π) (KC 110 KD σ τ (RHO π)) := by
  refine ctL_intro (own := "ShapedRowsLaw") rfl (by decide +kernel) (Nat.le_of_ble_eq_true rfl) (L := [some (.ref 1000), some (.int (iI k))]) rfl ?_
  refine rL_iload_n dL_cell_0 rfl (by rfl) ?_
  refine rL_aload_n dL_cell_1 rfl (by rfl) ?_
  refine rL_slen dL_cell_2 ?_
  refine rL_icmp_ge (tgt := 12) dL_cell_3 (by decide) (by unfold inR; omega) (by unfold inR; omega) (fun h => ?_) (fun h => ?_)
  · refine rL_sipush dL_cell_12 (by decide) ?_
    refine rL_iload_n dL_cell_15 rfl (by rfl) ?_
    refine rL_iconst dL_cell_16 ?_
    refine rL_iadd dL_cell_17 ?_
    refine rL_imul dL_cell_18 ?_
    refine rL_iload_n dL_cell_19 rfl (by rfl) ?_
    refine rL_bipush dL_cell_20 (by decide) ?_
    refine rL_iadd dL_cell_22 ?_
    refine rL_imul dL_cell_23 ?_
    exact rL_ret (v := some (.int (iI (7919 * (k + 3) * (k + 11))))) ⟨⟨_, rfl⟩, rfl, rfl, rfl, rfl, rfl⟩ (fun w h => by cases h; rfl) ⟨Nat.zero_le _, Nat.zero_le _⟩ (Or.inl ⟨_, rfl, rfl, dL_cell_24, _, rfl, rfl⟩)
  · refine rL_aload_n dL_cell_6 rfl (by rfl) ?_
    refine rL_iload_n dL_cell_7 rfl (by rfl) ?_
    refine rL_sald (j := k.toNat) dL_cell_8 (by omega) (by omega) (by omega) ?_
    refine rL_goto (tgt := 24) dL_cell_9 (by decide) ?_
    exact rL_ret (v := some (.int (iI (G.2.2.2.2.2.2.2 k.toNat).toInt))) ⟨⟨_, rfl⟩, rfl, rfl, rfl, rfl, rfl⟩ (fun w h => by cases h; rfl) ⟨Nat.zero_le _, Nat.zero_le _⟩ (Or.inl ⟨_, rfl, rfl, dL_cell_24, _, rfl, rfl⟩)
abbrev mLaw (nm : String) : MI := ((⟨"ShapedRowsLaw", nm, ""⟩ : MethodName), cL_law, 11, some .boolean)
def KL : KK := fun v _ _ _ _ _ => v = some (.int (iI 1))
abbrev LW (l : Launch) (G : GG) (nm : String) (pc : Nat) (L : List (Option Value)) (S : List Value) (σ τ : ST) (π : Nat → Option Nat) (ce sl : Nat) : Prop := WPL l G "ShapedRowsLaw" (mLaw nm) (10, 600104, 7301314) KL noX 0 pc L S 110 KD σ τ (RHO π) ce sl
abbrev L0 (t : Int) : List (Option Value) := [some (.ref 1000), some (.ref 0), some (.int (iI t)), none, none, none, none, none, none, none, none]
abbrev L9 (t D : Int) : List (Option Value) := [some (.ref 1000), some (.ref 0), some (.int (iI t)), none, none, none, none, none, none, some (.long (jJ D)), none]
theorem le_09 {t D : Int} : leL (L0 t) (L9 t D) := leL_s (leL_s (leL_s (leL_n (leL_n (leL_n (leL_n (leL_n (leL_n (leL_n (leL_n leL_0))))))))))
theorem le_9 {t D : Int} {a b c d e f g : Option Value} : leL (L9 t D) [some (.ref 1000), some (.ref 0), some (.int (iI t)), a, b, c, d, e, f, some (.long (jJ D)), g] := leL_s (leL_s (leL_s (leL_n (leL_n (leL_n (leL_n (leL_n (leL_n (leL_s (leL_n leL_0))))))))))

set_option maxRecDepth 100000 in
set_option maxHeartbeats 4000000 in
theorem tl {l : Launch} {G : GG} {nm : String} {σ τ : ST} {π : Nat → Option Nat} {ce sl : Nat} {t D : Int} (hK : KI σ) (hT : TI σ) (hbd : σ 10 2 ≤ 1000) (hD : D = digF σ) (hc : ce ≤ 600104 ∧ sl ≤ 7301314) (kt : ∀ f, LW l G nm 189 (L0 t) [] (sr σ 15 f) τ π ce sl) (f : Nat → Int) : LW l G nm 170 (L9 t D) [] (sr σ 15 f) τ π ce sl := by
  refine rL_aload_n dL_law_170 rfl (by rfl) ?_
  refine rL_callT1 (cz_of (σ := σ) rfl (ct_L_holds (KI_E (E_sr σ f).sy hK) (by rw [sr_10]; exact hbd))) fL_holds qL_95 dL_law_171 (by decide) hc (Nat.le_of_ble_eq_true rfl) (fun f1 _ => ?_)
  refine rL_if_eq (tgt := 187) dL_law_174 (by decide) (by unfold inR; omega) (fun h => absurd h (by decide)) (fun _ => ?_)
  refine rL_aload_n dL_law_177 rfl (by rfl) ?_
  refine rL_callZ0 (cz_digest hK.1 hT) fX5_digest qL_83 dL_law_178 KD_0 (by decide) hc (Nat.le_of_ble_eq_true rfl) (fun f2 _ => ?_)
  refine rL_lload dL_law_181 (by rfl) ?_
  refine rL_lcmp_e dL_law_183 (by rw [hD]) ?_
  refine rL_if_eq (tgt := 189) dL_law_184 (by decide) inR_0 (fun _ => ?_) (fun h => absurd rfl h)
  exact rL_wk le_09 (kt f2)

set_option maxRecDepth 100000 in
set_option maxHeartbeats 4000000 in
theorem lp {l : Launch} {G : GG} {nm : String} {ce sl : Nat} (hG : G.2.2.2.2.2.2.1 ≤ 260) (hc : ce ≤ 600104 ∧ sl ≤ 7301314) : ∀ (N : Nat) (t : Int) (σ τ : ST) (b : Nat → Nat) (f : Nat → Int), 36 - t < (N : Int) → 0 ≤ t → t ≤ 36 → KI σ → TI σ → okB b → (0 ≤ σ 16 1 ∧ σ 16 1 ≤ 6) → σ 10 2 ≤ 12 * t → LW l G nm 10 (L0 t) [] (sr σ 15 f) τ (PB b) ce sl := by
  intro N
  induction N with
  | zero => intro t σ τ b f h1 t0 t1; exact absurd h1 (by omega)
  | succ N ih =>
    intro t σ τ b f h1 t0 t1 hK hT hB hN hbd
    have hI := hK.1
    refine rL_iload_n dL_law_10 rfl (by rfl) ?_
    refine rL_bipush dL_law_11 (by decide) ?_
    refine rL_icmp_ge (tgt := 195) dL_law_13 (by decide) (by unfold inR; omega) (by unfold inR; omega) (fun h => ?_) (fun h => ?_)
    · refine rL_iconst dL_law_195 ?_
      exact rL_ret (v := some (.int (iI 1))) rfl (fun w h => by cases h; rfl) hc (Or.inl ⟨_, rfl, rfl, dL_law_196, _, rfl, rfl⟩)
    · have kt : ∀ (σ' τ' : ST) (b' : Nat → Nat), KI σ' → TI σ' → okB b' → (0 ≤ σ' 16 1 ∧ σ' 16 1 ≤ 6) → σ' 10 2 ≤ σ 10 2 + 12 → ∀ f, LW l G nm 189 (L0 t) [] (sr σ' 15 f) τ' (PB b') ce sl := fun σ' τ' b' a1 a2 a3 a4 a5 f => by
        refine rL_iinc dL_law_189 (by rfl) (Nat.le_of_ble_eq_true rfl) (L' := L0 (t + 1)) (by rfl) ?_
        refine rL_goto (tgt := 10) dL_law_192 (by decide) ?_
        exact ih (t + 1) σ' τ' b' f (by omega) (by omega) (by omega) a1 a2 a3 a4 (by omega)
      refine rL_aload_n dL_law_16 rfl (by rfl) ?_
      refine rL_iconst dL_law_17 ?_
      refine rL_iload_n dL_law_18 rfl (by rfl) ?_
      refine rL_imul dL_law_19 ?_
      refine rL_callC (ct_L_cell hG _ (by omega) (by omega)) fL_cell qL_79 dL_law_20 (by decide) hc (Nat.le_of_ble_eq_true rfl) (fun v => ?_)
      refine rL_istore_n dL_law_23 rfl (Nat.le_of_ble_eq_true rfl) (L' := [_, _, _, _, _, _, _, _, _, _, _]) (by rfl) ?_
      refine rL_aload_n dL_law_24 rfl (by rfl) ?_
      refine rL_iconst dL_law_25 ?_
      refine rL_iload_n dL_law_26 rfl (by rfl) ?_
      refine rL_imul dL_law_27 ?_
      refine rL_iconst dL_law_28 ?_
      refine rL_iadd dL_law_29 ?_
      refine rL_callC (ct_L_cell hG _ (by omega) (by omega)) fL_cell qL_79 dL_law_30 (by decide) hc (Nat.le_of_ble_eq_true rfl) (fun w => ?_)
      refine rL_istore dL_law_33 (Nat.le_of_ble_eq_true rfl) (L' := [_, _, _, _, _, _, _, _, _, _, _]) (by rfl) ?_
      refine rL_aload_n dL_law_35 rfl (by rfl) ?_
      refine rL_bipush dL_law_36 (by decide) ?_
      refine rL_callZ1 (cz_count hI 9 (σ 16 1) (by omega) rfl) fX5_count qL_8 dL_law_38 KD_0 (by decide) hc (Nat.le_of_ble_eq_true rfl) (fun f1 _ => ?_)
      refine rL_istore dL_law_41 (Nat.le_of_ble_eq_true rfl) (L' := [_, _, _, _, _, _, _, _, _, _, _]) (by rfl) ?_
      refine rL_aload_n dL_law_43 rfl (by rfl) ?_
      refine rL_callZ0 (cz_digest hI hT) fX5_digest qL_83 dL_law_44 KD_0 (by decide) hc (Nat.le_of_ble_eq_true rfl) (fun f2 _ => ?_)
      refine rL_lstore dL_law_47 (Nat.le_of_ble_eq_true rfl) (Nat.le_of_ble_eq_true rfl) (L' := [_, _, _, _, _, _, _, _, _, _, _]) (by rfl) ?_
      refine rL_aload_n dL_law_49 rfl (by rfl) ?_
      refine rL_iload_n dL_law_50 rfl (by rfl) ?_
      refine rL_iload dL_law_51 (by rfl) ?_
      refine rL_callK3 (cp_acts b hB hN hK hT v w) fL_acts qL_87 dL_law_53 (by decide) hc (Nat.le_of_ble_eq_true rfl) (fun _ _ _ _ _ _ h => ⟨h.1, h.2.1⟩) (fun x μ τ' ρ' hw => ?_)
      obtain ⟨-, -, rfl, ⟨hp, rfl, rfl, f3, rfl⟩ | ⟨hp, rfl, rfl, pk⟩⟩ := hw
      · refine rL_istore dL_law_56 (Nat.le_of_ble_eq_true rfl) (L' := [_, _, _, _, _, _, _, _, _, _, _]) (by rfl) ?_
        refine rL_aload_n dL_law_58 rfl (by rfl) ?_
        refine rL_callZ0 (cz_digest hI hT) fX5_digest qL_83 dL_law_59 KD_0 (by decide) hc (Nat.le_of_ble_eq_true rfl) (fun f4 _ => ?_)
        refine rL_lstore dL_law_62 (Nat.le_of_ble_eq_true rfl) (Nat.le_of_ble_eq_true rfl) (L' := [_, _, _, _, _, _, _, _, _, _, _]) (by rfl) ?_
        refine rL_iload dL_law_64 (by rfl) ?_
        refine rL_if_eq (tgt := 97) dL_law_66 (by decide) inR_0 (fun _ => ?_) (fun h => absurd rfl h)
        refine rL_lload dL_law_97 (by rfl) ?_
        refine rL_lload dL_law_99 (by rfl) ?_
        refine rL_lcmp_e dL_law_101 rfl ?_
        refine rL_if_eq (tgt := 107) dL_law_102 (by decide) inR_0 (fun _ => ?_) (fun h => absurd rfl h)
        refine rL_iload dL_law_107 (by rfl) ?_
        refine rL_if_eq (tgt := 170) dL_law_109 (by decide) inR_0 (fun _ => ?_) (fun h => absurd rfl h)
        exact rL_wk le_9 (tl hK hT (by omega) rfl hc (kt σ τ' b hK hT hB hN (by omega)) f4)
      · obtain ⟨kμ, tμ, eμ, cμ, bμ, fμ, hμ⟩ := id pk
        have hB' := okB_sv (σ := σ) hB
        have nμ : 0 ≤ μ 16 1 ∧ μ 16 1 ≤ 6 := by rw [cμ]; split <;> omega
        refine rL_mem (σ' := sr μ 15 (μ 15)) (sr_self μ 15).symm ?_
        refine rL_istore dL_law_56 (Nat.le_of_ble_eq_true rfl) (L' := [_, _, _, _, _, _, _, _, _, _, _]) (by rfl) ?_
        refine rL_aload_n dL_law_58 rfl (by rfl) ?_
        refine rL_callZ0 (cz_digest kμ.1 tμ) fX5_digest qL_83 dL_law_59 KD_0 (by decide) hc (Nat.le_of_ble_eq_true rfl) (fun f4 _ => ?_)
        refine rL_lstore dL_law_62 (Nat.le_of_ble_eq_true rfl) (Nat.le_of_ble_eq_true rfl) (L' := [_, _, _, _, _, _, _, _, _, _, _]) (by rfl) ?_
        refine rL_iload dL_law_64 (by rfl) ?_
        refine rL_if_eq (tgt := 97) dL_law_66 (by decide) (by unfold inR; omega) (fun h => absurd h (by decide)) (fun _ => ?_)
        refine rL_aload_n dL_law_69 rfl (by rfl) ?_
        refine rL_bipush dL_law_70 (by decide) ?_
        refine rL_callZ1 (cz_count kμ.1 9 (μ 16 1) (by omega) rfl) fX5_count qL_8 dL_law_72 KD_0 (by decide) hc (Nat.le_of_ble_eq_true rfl) (fun f5 _ => ?_)
        refine rL_iload dL_law_75 (by rfl) ?_
        refine rL_bipush dL_law_77 (by decide) ?_
        refine rL_icmp_ge (tgt := 89) dL_law_79 (by decide) (by unfold inR; omega) (by unfold inR; omega) (fun g6 => ?_) (fun g6 => ?_)
        · rw [if_neg (by omega)] at cμ
          refine rL_bipush dL_law_89 (by decide) ?_
          refine rL_icmp_eq (tgt := 107) dL_law_91 (by decide) (by unfold inR; omega) (by unfold inR; omega) (fun _ => ?_) (fun h => absurd cμ h)
          refine rL_iload dL_law_107 (by rfl) ?_
          refine rL_if_eq (tgt := 170) dL_law_109 (by decide) (by unfold inR; omega) (fun h => absurd h (by decide)) (fun _ => ?_)
          refine rL_iload dL_law_112 (by rfl) ?_
          refine rL_bipush dL_law_114 (by decide) ?_
          refine rL_icmp_ge (tgt := 170) dL_law_116 (by decide) (by unfold inR; omega) (by unfold inR; omega) (fun _ => ?_) (fun h => absurd g6 (by omega))
          exact rL_wk le_9 (tl kμ tμ (by omega) rfl hc (kt μ τ' _ kμ tμ hB' nμ bμ) f5)
        · rw [if_pos (by omega)] at cμ
          have eb : svB σ b = b := if_pos (by omega)
          refine rL_iload dL_law_82 (by rfl) ?_
          refine rL_iconst dL_law_84 ?_
          refine rL_iadd dL_law_85 ?_
          refine rL_goto (tgt := 91) dL_law_86 (by decide) ?_
          refine rL_icmp_eq (tgt := 107) dL_law_91 (by decide) (by unfold inR; omega) (by unfold inR; omega) (fun _ => ?_) (fun h => absurd cμ h)
          refine rL_iload dL_law_107 (by rfl) ?_
          refine rL_if_eq (tgt := 170) dL_law_109 (by decide) (by unfold inR; omega) (fun h => absurd h (by decide)) (fun _ => ?_)
          refine rL_iload dL_law_112 (by rfl) ?_
          refine rL_bipush dL_law_114 (by decide) ?_
          refine rL_icmp_ge (tgt := 170) dL_law_116 (by decide) (by unfold inR; omega) (by unfold inR; omega) (fun h => absurd h (by omega)) (fun _ => ?_)
          refine rL_iload_n dL_law_119 rfl (by rfl) ?_
          refine rL_bipush dL_law_120 (by decide) ?_
          refine rL_ishr dL_law_122 ?_
          refine rL_iconst dL_law_123 ?_
          refine rL_iand dL_law_124 ?_
          refine rL_iconst dL_law_125 ?_
          refine rL_icmp_ne (tgt := 170) dL_law_126 (by decide) (inR_andI _ _) (by unfold inR; omega) (fun _ => rL_wk le_9 (tl kμ tμ (by omega) rfl hc (kt μ τ' _ kμ tμ hB' nμ bμ) f5)) (fun _ => ?_)
          obtain ⟨k1, t1, e1, c1, -, f6, h1⟩ := PK_sr pk f5
          obtain ⟨m, hm⟩ : ∃ m, m = sr μ 15 f5 := ⟨_, rfl⟩
          rw [← hm] at k1 t1 e1 c1 h1
          rw [if_pos (by omega)] at c1
          rw [← hm, eb]
          have q2 := un_E (σ := sr σ 15 f6) (σ1 := m) hB (by rw [sr_16]; omega) h1
          refine rL_aload_n dL_law_129 rfl (by rfl) ?_
          refine rL_callZ0 (ct_X5_undo k1.1 b hB (by omega) (by omega)) fX5_undo qL_91 dL_law_130 KD_0 (by decide) hc (Nat.le_of_ble_eq_true rfl) (fun f7 _ => ?_)
          obtain ⟨σ2, hσ2⟩ : ∃ σ2, σ2 = up2 (tkSt m (b (m 16 1 - 1).toNat) 1) 16 1 (m 16 1 - 1) := ⟨_, rfl⟩
          rw [← hσ2] at q2 ⊢
          have e2 : E σ2 σ := q2.tr (E_sr σ f6)
          have k2 : KI σ2 := KI_E e2.sy hK
          have t2 : TI σ2 := TI_E e2.sy hT
          have n2 : 0 ≤ σ2 16 1 ∧ σ2 16 1 ≤ 6 := by rw [e2.r16]; exact hN
          refine rL_iload dL_law_133 (by rfl) ?_
          refine rL_icmp_ne (tgt := 168) dL_law_135 (by decide) (by unfold inR; omega) (by unfold inR; omega) (fun h => absurd (by omega) h) (fun _ => ?_)
          refine rL_aload_n dL_law_138 rfl (by rfl) ?_
          refine rL_callZ0 (cz_digest k2.1 t2) fX5_digest qL_83 dL_law_139 KD_0 (by decide) hc (Nat.le_of_ble_eq_true rfl) (fun f8 _ => ?_)
          refine rL_lload dL_law_142 (by rfl) ?_
          refine rL_lcmp_e dL_law_144 (by rw [digF_E e2]) ?_
          refine rL_if_ne (tgt := 168) dL_law_145 (by decide) inR_0 (fun h => absurd rfl h) (fun _ => ?_)
          refine rL_aload_n dL_law_148 rfl (by rfl) ?_
          refine rL_iload_n dL_law_149 rfl (by rfl) ?_
          refine rL_iload dL_law_150 (by rfl) ?_
          refine rL_callK3 (cp_acts b hB n2 k2 t2 v w) fL_acts qL_87 dL_law_152 (by decide) hc (Nat.le_of_ble_eq_true rfl) (fun _ _ _ _ _ _ h => ⟨h.1, h.2.1⟩) (fun x μ2 τ2 ρ2 hw => ?_)
          obtain ⟨-, -, rfl, ⟨hp2, -⟩ | ⟨hp2, rfl, rfl, k3, t3, e3, c3, b3, -⟩⟩ := hw
          · exact absurd (aP_E e2.sy hp) hp2
          · refine rL_mem (σ' := sr μ2 15 (μ2 15)) (sr_self μ2 15).symm ?_
            have e4 : E μ2 μ := e3.tr ((aO_E (svF_E e2 hB hB n2) v w _).tr eμ.sy)
            have n3 : 0 ≤ μ2 16 1 ∧ μ2 16 1 ≤ 6 := by rw [c3]; split <;> omega
            have eq : σ2 10 2 = σ 10 2 := by rw [e2.r10]
            refine rL_if_eq (tgt := 168) dL_law_155 (by decide) (by unfold inR; omega) (fun h => absurd h (by decide)) (fun _ => ?_)
            refine rL_aload_n dL_law_158 rfl (by rfl) ?_
            refine rL_callZ0 (cz_digest k3.1 t3) fX5_digest qL_83 dL_law_159 KD_0 (by decide) hc (Nat.le_of_ble_eq_true rfl) (fun f9 _ => ?_)
            refine rL_lload dL_law_162 (by rfl) ?_
            refine rL_lcmp_e dL_law_164 (by rw [digF_E e4]) ?_
            refine rL_if_eq (tgt := 170) dL_law_165 (by decide) inR_0 (fun _ => ?_) (fun h => absurd rfl h)
            exact rL_wk le_9 (tl k3 t3 (by omega) (digF_E e4).symm hc (kt μ2 τ2 _ k3 t3 (okB_sv hB) n3 (by omega)) f9)
set_option maxRecDepth 100000 in
set_option maxHeartbeats 4000000 in
theorem st {l : Launch} {G : GG} {nm : String} (hG : G.2.2.2.2.2.2.1 ≤ 260) : WPL l G "ShapedRowsLaw" (mLaw nm) (10, 600104, 7301314) KL noX 0 0 [some (.ref 1000), none, none, none, none, none, none, none, none, none, none] [] 0 (kdN 0) Z0 Z0 R0 0 0 := by
  refine rL_new cl_5 nl_L_9 dL_law_0 KD_0 (by omega) (by omega) rfl rfl rfl rfl rfl ⟨Nat.le_of_ble_eq_true rfl, Nat.le_of_ble_eq_true rfl⟩ ?_
  refine rL_dup dL_law_3 rfl ?_
  refine rL_callA ci_X5 fX5_init qL_78 dL_law_4 (by omega) (by omega) (by omega) rfl rfl ⟨Nat.le_of_ble_eq_true rfl, Nat.le_of_ble_eq_true rfl⟩ ⟨Nat.le_of_ble_eq_true rfl, Nat.le_of_ble_eq_true rfl⟩ (Nat.le_of_ble_eq_true rfl) ?_
  refine rL_astore_n dL_law_7 rfl (Nat.le_of_ble_eq_true rfl) (L' := [some (.ref 1000), some (.ref 0), none, none, none, none, none, none, none, none, none]) (by rfl) ?_
  refine rL_iconst dL_law_8 ?_
  refine rL_istore_n dL_law_9 rfl (Nat.le_of_ble_eq_true rfl) (L' := L0 0) (by rfl) ?_
  have e16 : z5 16 1 = 0 := z5_0 (by omega)
  have e10 : z5 10 2 = 0 := z5_0 (by omega)
  have h := lp (l := l) (G := G) (nm := nm) (ce := 110) (sl := 3265) hG ⟨Nat.le_of_ble_eq_true rfl, Nat.le_of_ble_eq_true rfl⟩ 37 0 z5 Z0 b0 (z5 15) (by omega) (by omega) (by omega) KI_0 TI_0 okB_0 (by omega) (by omega)
  rw [sr_self] at h
  unfold LW at h
  rw [← r5_eq, ← kdN_110] at h
  exact h

