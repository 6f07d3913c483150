/-! the law's wrappers: a call, caught -/
def MFH (Y : MI) (hh : List (Nat × Nat × Nat × Nat)) (na : Nat) : Prop := Cond.static Y.1 ∈ TBg ∧ Cond.initialized Y.1.cls ∈ TBg ∧ Cond.codeWith Y.1 Y.2.1 Y.2.2.1 Y.2.2.2 hh ∈ TBg ∧ (Y.1.cls ≠ "java/lang/invoke/MethodHandle" ∧ Y.1.cls ≠ "java/lang/invoke/VarHandle" ∧ (parseMethodDescriptor Y.1.desc).map (fun d => d.parameters.length) = some na)
def KW (er k r : Int) (σ0 σ1 τ0 : ST) (π0 π1 : Nat → Option Nat) : KK := fun v n kd s t ρ => n = 117 ∧ kd = KD ∧ v = some (.int (iI k)) ∧ ((er = 0 ∧ (∃ f, s = sr σ1 15 f) ∧ t = up2 τ0 116 0 (wI r) ∧ ρ = RHO π1) ∨ (er ≠ 0 ∧ s = σ0 ∧ t = τ0 ∧ ρ = RHO π0))
theorem csH {own : String} {dm : Nat × Nat × Nat} {Y : MI} {hh : List (Nat × Nat × Nat × Nat)} {dm' : Nat × Nat × Nat} {idx na : Nat} {R : Room} {s : State} {args : Array Value} (hts : ∀ w ∈ TBg, w.before args s = true) (hm : MFH Y hh na) (hl : Cond.methodLink own idx Y.1 ∈ TBg) (hR : dm.1 ≤ R.frames ∧ 37 * dm.1 ≤ R.locals ∧ dm.2.1 ≤ R.cells ∧ dm.2.2 ≤ R.slots) (hd : dm'.1 + 1 ≤ dm.1 ∧ Y.2.2.1 ≤ 18) : vx_CSW R s args own idx Y.1 Y.2.1 Y.2.2.1 Y.2.2.2 hh (wsH Y hh) (rmD dm') dm'.2.1 dm'.2.2 na := by
  obtain ⟨h1, h3, h4, h6⟩ := hm
  refine ⟨⟨rfl, rfl, Nat.le_trans hd.1 hR.1, Nat.le_trans ?_ hR.2.1, pay_in hts (ginH h4), List.mem_cons_self⟩, hts _ h4, hts _ h3, ⟨h6.1, h6.2.1⟩, fun sig h => ?_, hts _ hl, hts _ h1⟩
  · show 8 + (Y.2.2.1 + 11) + 37 * dm'.1 ≤ 37 * dm.1
    omega
  · have h2 := h6.2.2
    rw [h] at h2
    exact (Option.some.inj h2).symm
section Rows70
variable {l : Launch} {G : GG} {own : String} {X : MI} {dm : Nat × Nat × Nat} {K : KK} {KE : KX} {n0 pc : Nat} {L : List (Option Value)} {S : List Value} {n : Nat} {kd : KT} {σ τ : ST} {ρ : RT} {ce sl : Nat}
theorem r_ret_iw {e er k r : Int} {σ0 σ1 τ0 : ST} {π0 π1 : Nat → Option Nat} (hd : decode X.2.1 pc = .ok (.ireturn, 1)) (hty : X.2.2.2 = some .int) (hcs : ce ≤ dm.2.1 ∧ sl ≤ dm.2.2) (hK : KW er k r σ0 σ1 τ0 π0 π1 (some (.int (iI e))) n kd σ τ ρ) : WP l G own X dm (KW er k r σ0 σ1 τ0 π0 π1) KE n0 pc L [.int (iI e)] n kd σ τ ρ ce sl :=
  r_ret (v := some (.int (iI e))) hK (fun w h => by cases h; rfl) hcs (Or.inl ⟨_, rfl, rfl, hd, _, hty, rfl⟩)
theorem r_callH {Y : MI} {hh : List (Nat × Nat × Nat × Nat)} {idx na : Nat} {As : List Value} {er k r : Int} {σ1 : ST} {π0 π1 : Nat → Option Nat} (hM : CtH l G Y hh (8, 1, 6) As 117 KD σ τ (RHO π0) (KW er k r σ σ1 τ π0 π1)) (hm : MFH Y hh na) (hlen : As.length = na) (hl : Cond.methodLink own idx Y.1 ∈ TBg) (hd : decode X.2.1 pc = .ok (.invokestatic idx, 3)) (hdm : 8 + 1 ≤ dm.1 ∧ Y.2.2.1 ≤ 18) (hcs : ce + 1 ≤ dm.2.1 ∧ sl + 6 ≤ dm.2.2) (hrest : (S.map (fun v => v.category)).sum ≤ 8)
    (k1 : er = 0 → ∀ f, WP l G own X dm K KE n0 (pc + 3) L (.int (iI k) :: S) 117 KD (sr σ1 15 f) (up2 τ 116 0 (wI r)) (RHO π1) (ce + 1) (sl + 6))
    (k2 : er ≠ 0 → WP l G own X dm K KE n0 (pc + 3) L (.int (iI k) :: S) 117 KD σ τ (RHO π0) (ce + 1) (sl + 6)) :
    WP l G own X dm K KE n0 pc L (As.reverse ++ S) 117 KD σ τ (RHO π0) ce sl := by
  intro ad0 ad p9 e R s m args below meth c H locs ls Z C ha hH hS hL
  obtain ⟨hx, hb, hml, hown, hts, hlk, henv, hR, -⟩ := id C
  refine w_call (K1 := KW er k r σ σ1 τ π0 π1) (ad := ad) (n := 117) (rest := S.map (trv ad)) (vx_runSW (As := As.map (trv ad)) ⟨hx, hb, hml, hown, hts⟩ (hM ad) (csH hts hm hl hR hdm) ⟨ct_blind, fun U hU hW => ⟨rfl, by rw [hU]; exact hH, env_in henv hS hU hW⟩⟩ rfl (by rw [List.length_map]; exact hlen) hL.1 (by
    show (As.reverse ++ S).map (trv ad) = (As.map (trv ad)).reverse ++ S.map (trv ad)
    rw [List.map_append, List.map_reverse]) (lv_room (cats_tr hrest)) hd ⟨Nat.le_trans hcs.1 hR.2.2.1, Nat.le_trans hcs.2 hR.2.2.2⟩) hS (fun v ad' n' kd' σ' τ' ρ' H1 locs1 hK ha' hH1 hS1 hsc => ?_)
  obtain ⟨rfl, rfl, rfl, ⟨h0, ⟨f, rfl⟩, rfl, rfl⟩ | ⟨h0, rfl, rfl, rfl⟩⟩ := hK
  · exact k1 h0 f ad0 ad p9 e R s m args below meth c H1 locs1 ls Z C ha (hH1.ad ha') hS1 hL
  · exact k2 h0 ad0 ad p9 e R s m args below meth c H1 locs1 ls Z C ha (hH1.ad ha') hS1 hL
end Rows70
theorem lk_13 : Cond.classLink "ShapedRowsLaw" 13 "java/lang/IllegalArgumentException" ∈ TBg := (tb_in 498 (by decide +kernel) rfl)
theorem lk_15 : Cond.classLink "ShapedRowsLaw" 15 "java/lang/IllegalStateException" ∈ TBg := (tb_in 499 (by decide +kernel) rfl)
theorem lk_35 : Cond.classLink "ShapedRowsLaw" 35 "java/lang/IndexOutOfBoundsException" ∈ TBg := (tb_in 726 (by decide +kernel) rfl)
theorem ep_13 : ∃ nm ∈ CL, Cond.classLink "ShapedRowsLaw" 13 nm ∈ TBg ∧ exS 2 ≠ nm := ⟨_, List.mem_of_getElem? (i := 0) rfl, lk_13, by decide⟩
theorem ep_13' : ∃ nm ∈ CL, Cond.classLink "ShapedRowsLaw" 13 nm ∈ TBg ∧ exS 3 ≠ nm := ⟨_, List.mem_of_getElem? (i := 0) rfl, lk_13, by decide⟩
theorem ep_35 : ∃ nm ∈ CL, Cond.classLink "ShapedRowsLaw" 35 nm ∈ TBg ∧ exS 1 ≠ nm := ⟨_, List.mem_of_getElem? (i := 2) rfl, lk_35, by decide⟩
theorem ep_35' : ∃ nm ∈ CL, Cond.classLink "ShapedRowsLaw" 35 nm ∈ TBg ∧ exS 2 ≠ nm := ⟨_, List.mem_of_getElem? (i := 2) rfl, lk_35, by decide⟩

abbrev mL_addNumber : MI := (yL_addNumber, cL_addNumber, 5, some .int)
def hL_addNumber : List (Nat × Nat × Nat × Nat) := [(0, 10, 13, 13), (0, 10, 17, 15)]
theorem fL_addNumber : MFH mL_addNumber hL_addNumber 4 := ⟨(tb_in 496 (by decide +kernel) rfl), (tb_in 82 (by decide +kernel) rfl), (tb_in 497 (by decide +kernel) rfl), ⟨by decide +kernel, by decide +kernel, by decide +kernel⟩⟩
set_option maxRecDepth 20000 in
theorem w_addNumber {l : Launch} {G : GG} {σ σ1 τ : ST} {π π1 : Nat → Option Nat} {a1 : Int} {a2 : Int} {er r : Int} (hM : CtX l G mX5_addNumber (7, 1, 6) [.ref 0, .int (iI a1), .int (iI a2)] 117 KD σ τ (RHO π) (KF er (some (.int (iI r))) σ1 τ π1) (KE1 er σ τ π)) (he : er = 0 ∨ er = 1 ∨ er = 2) : CtH l G mL_addNumber hL_addNumber (8, 1, 6) [.ref 0, .int (iI a1), .int (iI a2), .ref 116] 117 KD σ τ (RHO π) (KW er (cE 1 2 9 er) r σ σ1 τ π π1) := by
  refine cth_intro (own := "ShapedRowsLaw") rfl (by decide +kernel) (Nat.le_of_ble_eq_true rfl) (L := _) rfl ?_
  refine rH_aload_n dL_addNumber_0 rfl (by rfl) ?_
  refine rH_iconst dL_addNumber_1 ?_
  refine rH_aload_n dL_addNumber_2 rfl (by rfl) ?_
  refine rH_iload_n dL_addNumber_3 rfl (by rfl) ?_
  refine rH_iload_n dL_addNumber_4 rfl (by rfl) ?_
  refine rH_callX (As := [.int (iI a1), .int (iI a2)]) (S := [.int (iI 0), .ref 116]) hM fX5_addNumber rfl qL_7 dL_addNumber_5 KD_0 ⟨Nat.le_refl _, Nat.le_of_ble_eq_true rfl⟩ ⟨Nat.le_refl _, Nat.le_refl _⟩ (Nat.le_of_ble_eq_true rfl) (fun h0 f => ?_) (fun h0 => ?_)
  · refine r_i2lw dL_addNumber_8 ?_
    refine r_lastore (k := 0) dL_addNumber_9 KD_116 (by rfl) (by decide) (by decide) ?_
    refine r_goto dL_addNumber_10 (tgt := 21) (by rfl) ?_
    refine r_iconst dL_addNumber_21 ?_
    exact r_ret_iw dL_addNumber_22 rfl ⟨Nat.le_refl _, Nat.le_refl _⟩ ⟨rfl, rfl, by rw [h0]; rfl, Or.inl ⟨h0, ⟨f, rfl⟩, rfl, rfl⟩⟩
  · rcases he with he | he | he
    · exact absurd he h0
    · subst he
      refine ⟨15, ⟨[], [(0, 10, 17, 15)], 0, 10, 13, 13, 4, rfl, ⟨by decide, by decide⟩, by decide, List.mem_of_getElem? (i := 0) rfl, lk_13, fun _ hz => absurd hz List.not_mem_nil, by decide, Or.inl ⟨dL_addNumber_13, rfl⟩⟩, ?_⟩
      refine r_iconst dL_addNumber_15 ?_
      exact r_ret_iw dL_addNumber_16 rfl ⟨Nat.le_refl _, Nat.le_refl _⟩ ⟨rfl, rfl, rfl, Or.inr ⟨h0, rfl, rfl, rfl⟩⟩
    · subst he
      refine ⟨19, ⟨[(0, 10, 13, 13)], [], 0, 10, 17, 15, 4, rfl, ⟨by decide, by decide⟩, by decide, List.mem_of_getElem? (i := 1) rfl, lk_15, List.forall_mem_cons.mpr ⟨⟨by decide, ep_13⟩, fun _ hz => absurd hz List.not_mem_nil⟩, by decide, Or.inl ⟨dL_addNumber_17, rfl⟩⟩, ?_⟩
      refine r_iconst dL_addNumber_19 ?_
      exact r_ret_iw dL_addNumber_20 rfl ⟨Nat.le_refl _, Nat.le_refl _⟩ ⟨rfl, rfl, rfl, Or.inr ⟨h0, rfl, rfl, rfl⟩⟩
abbrev mL_addCopy : MI := (yL_addCopy, cL_addCopy, 6, some .int)
def hL_addCopy : List (Nat × Nat × Nat × Nat) := [(0, 12, 15, 13), (0, 12, 19, 15)]
theorem fL_addCopy : MFH mL_addCopy hL_addCopy 5 := ⟨(tb_in 652 (by decide +kernel) rfl), (tb_in 82 (by decide +kernel) rfl), (tb_in 653 (by decide +kernel) rfl), ⟨by decide +kernel, by decide +kernel, by decide +kernel⟩⟩
set_option maxRecDepth 20000 in
theorem w_addCopy {l : Launch} {G : GG} {σ σ1 τ : ST} {π π1 : Nat → Option Nat} {a1 : Int} {a2 : Int} {a3 : Int} {er r : Int} (hM : CtX l G mX5_addCopy (7, 1, 6) [.ref 0, .int (iI a1), .int (iI a2), .int (iI a3)] 117 KD σ τ (RHO π) (KF er (some (.int (iI r))) σ1 τ π1) (KE1 er σ τ π)) (he : er = 0 ∨ er = 1 ∨ er = 2) : CtH l G mL_addCopy hL_addCopy (8, 1, 6) [.ref 0, .int (iI a1), .int (iI a2), .int (iI a3), .ref 116] 117 KD σ τ (RHO π) (KW er (cE 1 2 9 er) r σ σ1 τ π π1) := by
  refine cth_intro (own := "ShapedRowsLaw") rfl (by decide +kernel) (Nat.le_of_ble_eq_true rfl) (L := _) rfl ?_
  refine rH_aload dL_addCopy_0 (by rfl) ?_
  refine rH_iconst dL_addCopy_2 ?_
  refine rH_aload_n dL_addCopy_3 rfl (by rfl) ?_
  refine rH_iload_n dL_addCopy_4 rfl (by rfl) ?_
  refine rH_iload_n dL_addCopy_5 rfl (by rfl) ?_
  refine rH_iload_n dL_addCopy_6 rfl (by rfl) ?_
  refine rH_callX (As := [.int (iI a1), .int (iI a2), .int (iI a3)]) (S := [.int (iI 0), .ref 116]) hM fX5_addCopy rfl qL_17 dL_addCopy_7 KD_0 ⟨Nat.le_refl _, Nat.le_of_ble_eq_true rfl⟩ ⟨Nat.le_refl _, Nat.le_refl _⟩ (Nat.le_of_ble_eq_true rfl) (fun h0 f => ?_) (fun h0 => ?_)
  · refine r_i2lw dL_addCopy_10 ?_
    refine r_lastore (k := 0) dL_addCopy_11 KD_116 (by rfl) (by decide) (by decide) ?_
    refine r_goto dL_addCopy_12 (tgt := 23) (by rfl) ?_
    refine r_iconst dL_addCopy_23 ?_
    exact r_ret_iw dL_addCopy_24 rfl ⟨Nat.le_refl _, Nat.le_refl _⟩ ⟨rfl, rfl, by rw [h0]; rfl, Or.inl ⟨h0, ⟨f, rfl⟩, rfl, rfl⟩⟩
  · rcases he with he | he | he
    · exact absurd he h0
    · subst he
      refine ⟨17, ⟨[], [(0, 12, 19, 15)], 0, 12, 15, 13, 5, rfl, ⟨by decide, by decide⟩, by decide, List.mem_of_getElem? (i := 0) rfl, lk_13, fun _ hz => absurd hz List.not_mem_nil, by decide, Or.inl ⟨dL_addCopy_15, rfl⟩⟩, ?_⟩
      refine r_iconst dL_addCopy_17 ?_
      exact r_ret_iw dL_addCopy_18 rfl ⟨Nat.le_refl _, Nat.le_refl _⟩ ⟨rfl, rfl, rfl, Or.inr ⟨h0, rfl, rfl, rfl⟩⟩
    · subst he
      refine ⟨21, ⟨[(0, 12, 15, 13)], [], 0, 12, 19, 15, 5, rfl, ⟨by decide, by decide⟩, by decide, List.mem_of_getElem? (i := 1) rfl, lk_15, List.forall_mem_cons.mpr ⟨⟨by decide, ep_13⟩, fun _ hz => absurd hz List.not_mem_nil⟩, by decide, Or.inl ⟨dL_addCopy_19, rfl⟩⟩, ?_⟩
      refine r_iconst dL_addCopy_21 ?_
      exact r_ret_iw dL_addCopy_22 rfl ⟨Nat.le_refl _, Nat.le_refl _⟩ ⟨rfl, rfl, rfl, Or.inr ⟨h0, rfl, rfl, rfl⟩⟩
abbrev mL_drop : MI := (yL_drop, cL_drop, 5, some .int)
def hL_drop : List (Nat × Nat × Nat × Nat) := [(0, 10, 13, 13), (0, 10, 17, 15)]
theorem fL_drop : MFH mL_drop hL_drop 4 := ⟨(tb_in 673 (by decide +kernel) rfl), (tb_in 82 (by decide +kernel) rfl), (tb_in 674 (by decide +kernel) rfl), ⟨by decide +kernel, by decide +kernel, by decide +kernel⟩⟩
set_option maxRecDepth 20000 in
theorem w_drop {l : Launch} {G : GG} {σ σ1 τ : ST} {π π1 : Nat → Option Nat} {a1 : Int} {a2 : Int} {er r : Int} (hM : CtX l G mX5_drop (7, 1, 6) [.ref 0, .int (iI a1), .int (iI a2)] 117 KD σ τ (RHO π) (KF er (some (.int (iI r))) σ1 τ π1) (KE1 er σ τ π)) (he : er = 0 ∨ er = 1 ∨ er = 2) : CtH l G mL_drop hL_drop (8, 1, 6) [.ref 0, .int (iI a1), .int (iI a2), .ref 116] 117 KD σ τ (RHO π) (KW er (cE 1 2 9 er) r σ σ1 τ π π1) := by
  refine cth_intro (own := "ShapedRowsLaw") rfl (by decide +kernel) (Nat.le_of_ble_eq_true rfl) (L := _) rfl ?_
  refine rH_aload_n dL_drop_0 rfl (by rfl) ?_
  refine rH_iconst dL_drop_1 ?_
  refine rH_aload_n dL_drop_2 rfl (by rfl) ?_
  refine rH_iload_n dL_drop_3 rfl (by rfl) ?_
  refine rH_iload_n dL_drop_4 rfl (by rfl) ?_
  refine rH_callX (As := [.int (iI a1), .int (iI a2)]) (S := [.int (iI 0), .ref 116]) hM fX5_drop rfl qL_21 dL_drop_5 KD_0 ⟨Nat.le_refl _, Nat.le_of_ble_eq_true rfl⟩ ⟨Nat.le_refl _, Nat.le_refl _⟩ (Nat.le_of_ble_eq_true rfl) (fun h0 f => ?_) (fun h0 => ?_)
  · refine r_i2lw dL_drop_8 ?_
    refine r_lastore (k := 0) dL_drop_9 KD_116 (by rfl) (by decide) (by decide) ?_
    refine r_goto dL_drop_10 (tgt := 21) (by rfl) ?_
    refine r_iconst dL_drop_21 ?_
    exact r_ret_iw dL_drop_22 rfl ⟨Nat.le_refl _, Nat.le_refl _⟩ ⟨rfl, rfl, by rw [h0]; rfl, Or.inl ⟨h0, ⟨f, rfl⟩, rfl, rfl⟩⟩
  · rcases he with he | he | he
    · exact absurd he h0
    · subst he
      refine ⟨15, ⟨[], [(0, 10, 17, 15)], 0, 10, 13, 13, 4, rfl, ⟨by decide, by decide⟩, by decide, List.mem_of_getElem? (i := 0) rfl, lk_13, fun _ hz => absurd hz List.not_mem_nil, by decide, Or.inl ⟨dL_drop_13, rfl⟩⟩, ?_⟩
      refine r_iconst dL_drop_15 ?_
      exact r_ret_iw dL_drop_16 rfl ⟨Nat.le_refl _, Nat.le_refl _⟩ ⟨rfl, rfl, rfl, Or.inr ⟨h0, rfl, rfl, rfl⟩⟩
    · subst he
      refine ⟨19, ⟨[(0, 10, 13, 13)], [], 0, 10, 17, 15, 4, rfl, ⟨by decide, by decide⟩, by decide, List.mem_of_getElem? (i := 1) rfl, lk_15, List.forall_mem_cons.mpr ⟨⟨by decide, ep_13⟩, fun _ hz => absurd hz List.not_mem_nil⟩, by decide, Or.inl ⟨dL_drop_17, rfl⟩⟩, ?_⟩
      refine r_iconst dL_drop_19 ?_
      exact r_ret_iw dL_drop_20 rfl ⟨Nat.le_refl _, Nat.le_refl _⟩ ⟨rfl, rfl, rfl, Or.inr ⟨h0, rfl, rfl, rfl⟩⟩
abbrev mL_rename : MI := (yL_rename, cL_rename, 5, some .int)
def hL_rename : List (Nat × Nat × Nat × Nat) := [(0, 10, 13, 13), (0, 10, 17, 15)]
theorem fL_rename : MFH mL_rename hL_rename 4 := ⟨(tb_in 693 (by decide +kernel) rfl), (tb_in 82 (by decide +kernel) rfl), (tb_in 694 (by decide +kernel) rfl), ⟨by decide +kernel, by decide +kernel, by decide +kernel⟩⟩
set_option maxRecDepth 20000 in
theorem w_rename {l : Launch} {G : GG} {σ σ1 τ : ST} {π π1 : Nat → Option Nat} {a1 : Int} {a2 : Int} {er r : Int} (hM : CtX l G mX5_rename (7, 1, 6) [.ref 0, .int (iI a1), .int (iI a2)] 117 KD σ τ (RHO π) (KF er (some (.int (iI r))) σ1 τ π1) (KE1 er σ τ π)) (he : er = 0 ∨ er = 1 ∨ er = 2) : CtH l G mL_rename hL_rename (8, 1, 6) [.ref 0, .int (iI a1), .int (iI a2), .ref 116] 117 KD σ τ (RHO π) (KW er (cE 1 2 9 er) r σ σ1 τ π π1) := by
  refine cth_intro (own := "ShapedRowsLaw") rfl (by decide +kernel) (Nat.le_of_ble_eq_true rfl) (L := _) rfl ?_
  refine rH_aload_n dL_rename_0 rfl (by rfl) ?_
  refine rH_iconst dL_rename_1 ?_
  refine rH_aload_n dL_rename_2 rfl (by rfl) ?_
  refine rH_iload_n dL_rename_3 rfl (by rfl) ?_
  refine rH_iload_n dL_rename_4 rfl (by rfl) ?_
  refine rH_callX (As := [.int (iI a1), .int (iI a2)]) (S := [.int (iI 0), .ref 116]) hM fX5_rename rfl qL_24 dL_rename_5 KD_0 ⟨Nat.le_refl _, Nat.le_of_ble_eq_true rfl⟩ ⟨Nat.le_refl _, Nat.le_refl _⟩ (Nat.le_of_ble_eq_true rfl) (fun h0 f => ?_) (fun h0 => ?_)
  · refine r_i2lw dL_rename_8 ?_
    refine r_lastore (k := 0) dL_rename_9 KD_116 (by rfl) (by decide) (by decide) ?_
    refine r_goto dL_rename_10 (tgt := 21) (by rfl) ?_
    refine r_iconst dL_rename_21 ?_
    exact r_ret_iw dL_rename_22 rfl ⟨Nat.le_refl _, Nat.le_refl _⟩ ⟨rfl, rfl, by rw [h0]; rfl, Or.inl ⟨h0, ⟨f, rfl⟩, rfl, rfl⟩⟩
  · rcases he with he | he | he
    · exact absurd he h0
    · subst he
      refine ⟨15, ⟨[], [(0, 10, 17, 15)], 0, 10, 13, 13, 4, rfl, ⟨by decide, by decide⟩, by decide, List.mem_of_getElem? (i := 0) rfl, lk_13, fun _ hz => absurd hz List.not_mem_nil, by decide, Or.inl ⟨dL_rename_13, rfl⟩⟩, ?_⟩
      refine r_iconst dL_rename_15 ?_
      exact r_ret_iw dL_rename_16 rfl ⟨Nat.le_refl _, Nat.le_refl _⟩ ⟨rfl, rfl, rfl, Or.inr ⟨h0, rfl, rfl, rfl⟩⟩
    · subst he
      refine ⟨19, ⟨[(0, 10, 13, 13)], [], 0, 10, 17, 15, 4, rfl, ⟨by decide, by decide⟩, by decide, List.mem_of_getElem? (i := 1) rfl, lk_15, List.forall_mem_cons.mpr ⟨⟨by decide, ep_13⟩, fun _ hz => absurd hz List.not_mem_nil⟩, by decide, Or.inl ⟨dL_rename_17, rfl⟩⟩, ?_⟩
      refine r_iconst dL_rename_19 ?_
      exact r_ret_iw dL_rename_20 rfl ⟨Nat.le_refl _, Nat.le_refl _⟩ ⟨rfl, rfl, rfl, Or.inr ⟨h0, rfl, rfl, rfl⟩⟩
abbrev mL_insert : MI := (yL_insert, cL_insert, 3, some .int)
def hL_insert : List (Nat × Nat × Nat × Nat) := [(0, 8, 11, 15)]
theorem fL_insert : MFH mL_insert hL_insert 2 := ⟨(tb_in 708 (by decide +kernel) rfl), (tb_in 82 (by decide +kernel) rfl), (tb_in 709 (by decide +kernel) rfl), ⟨by decide +kernel, by decide +kernel, by decide +kernel⟩⟩
set_option maxRecDepth 20000 in
theorem w_insert {l : Launch} {G : GG} {σ σ1 τ : ST} {π π1 : Nat → Option Nat} {er r : Int} (hM : CtX l G mX5_insert (7, 1, 6) [.ref 0] 117 KD σ τ (RHO π) (KF er (some (.int (iI r))) σ1 τ π1) (KE1 er σ τ π)) (he : er = 0 ∨ er = 2) : CtH l G mL_insert hL_insert (8, 1, 6) [.ref 0, .ref 116] 117 KD σ τ (RHO π) (KW er (cE 2 9 9 er) r σ σ1 τ π π1) := by
  refine cth_intro (own := "ShapedRowsLaw") rfl (by decide +kernel) (Nat.le_of_ble_eq_true rfl) (L := _) rfl ?_
  refine rH_aload_n dL_insert_0 rfl (by rfl) ?_
  refine rH_iconst dL_insert_1 ?_
  refine rH_aload_n dL_insert_2 rfl (by rfl) ?_
  refine rH_callX (As := []) (S := [.int (iI 0), .ref 116]) hM fX5_insert rfl qL_27 dL_insert_3 KD_0 ⟨Nat.le_refl _, Nat.le_of_ble_eq_true rfl⟩ ⟨Nat.le_refl _, Nat.le_refl _⟩ (Nat.le_of_ble_eq_true rfl) (fun h0 f => ?_) (fun h0 => ?_)
  · refine r_i2lw dL_insert_6 ?_
    refine r_lastore (k := 0) dL_insert_7 KD_116 (by rfl) (by decide) (by decide) ?_
    refine r_goto dL_insert_8 (tgt := 14) (by rfl) ?_
    refine r_iconst dL_insert_14 ?_
    exact r_ret_iw dL_insert_15 rfl ⟨Nat.le_refl _, Nat.le_refl _⟩ ⟨rfl, rfl, by rw [h0]; rfl, Or.inl ⟨h0, ⟨f, rfl⟩, rfl, rfl⟩⟩
  · rcases he with he | he
    · exact absurd he h0
    · subst he
      refine ⟨12, ⟨[], [], 0, 8, 11, 15, 2, rfl, ⟨by decide, by decide⟩, by decide, List.mem_of_getElem? (i := 1) rfl, lk_15, fun _ hz => absurd hz List.not_mem_nil, by decide, Or.inr ⟨2, rfl, dL_insert_11, rfl⟩⟩, ?_⟩
      refine r_iconst dL_insert_12 ?_
      exact r_ret_iw dL_insert_13 rfl ⟨Nat.le_refl _, Nat.le_refl _⟩ ⟨rfl, rfl, rfl, Or.inr ⟨h0, rfl, rfl, rfl⟩⟩
abbrev mL_insertBy : MI := (yL_insertBy, cL_insertBy, 4, some .int)
def hL_insertBy : List (Nat × Nat × Nat × Nat) := [(0, 9, 12, 35), (0, 9, 15, 15)]
theorem fL_insertBy : MFH mL_insertBy hL_insertBy 3 := ⟨(tb_in 724 (by decide +kernel) rfl), (tb_in 82 (by decide +kernel) rfl), (tb_in 725 (by decide +kernel) rfl), ⟨by decide +kernel, by decide +kernel, by decide +kernel⟩⟩
set_option maxRecDepth 20000 in
theorem w_insertBy {l : Launch} {G : GG} {σ σ1 τ : ST} {π π1 : Nat → Option Nat} {a1 : Int} {er r : Int} (hM : CtX l G mX5_insertBy (7, 1, 6) [.ref 0, .int (iI a1)] 117 KD σ τ (RHO π) (KF er (some (.int (iI r))) σ1 τ π1) (KE1 er σ τ π)) (he : er = 0 ∨ er = 3 ∨ er = 2) : CtH l G mL_insertBy hL_insertBy (8, 1, 6) [.ref 0, .int (iI a1), .ref 116] 117 KD σ τ (RHO π) (KW er (cE 3 2 9 er) r σ σ1 τ π π1) := by
  refine cth_intro (own := "ShapedRowsLaw") rfl (by decide +kernel) (Nat.le_of_ble_eq_true rfl) (L := _) rfl ?_
  refine rH_aload_n dL_insertBy_0 rfl (by rfl) ?_
  refine rH_iconst dL_insertBy_1 ?_
  refine rH_aload_n dL_insertBy_2 rfl (by rfl) ?_
  refine rH_iload_n dL_insertBy_3 rfl (by rfl) ?_
  refine rH_callX (As := [.int (iI a1)]) (S := [.int (iI 0), .ref 116]) hM fX5_insertBy rfl qL_31 dL_insertBy_4 KD_0 ⟨Nat.le_refl _, Nat.le_of_ble_eq_true rfl⟩ ⟨Nat.le_refl _, Nat.le_refl _⟩ (Nat.le_of_ble_eq_true rfl) (fun h0 f => ?_) (fun h0 => ?_)
  · refine r_i2lw dL_insertBy_7 ?_
    refine r_lastore (k := 0) dL_insertBy_8 KD_116 (by rfl) (by decide) (by decide) ?_
    refine r_goto dL_insertBy_9 (tgt := 18) (by rfl) ?_
    refine r_iconst dL_insertBy_18 ?_
    exact r_ret_iw dL_insertBy_19 rfl ⟨Nat.le_refl _, Nat.le_refl _⟩ ⟨rfl, rfl, by rw [h0]; rfl, Or.inl ⟨h0, ⟨f, rfl⟩, rfl, rfl⟩⟩
  · rcases he with he | he | he
    · exact absurd he h0
    · subst he
      refine ⟨13, ⟨[], [(0, 9, 15, 15)], 0, 9, 12, 35, 3, rfl, ⟨by decide, by decide⟩, by decide, List.mem_of_getElem? (i := 2) rfl, lk_35, fun _ hz => absurd hz List.not_mem_nil, by decide, Or.inr ⟨3, rfl, dL_insertBy_12, rfl⟩⟩, ?_⟩
      refine r_iconst dL_insertBy_13 ?_
      exact r_ret_iw dL_insertBy_14 rfl ⟨Nat.le_refl _, Nat.le_refl _⟩ ⟨rfl, rfl, rfl, Or.inr ⟨h0, rfl, rfl, rfl⟩⟩
    · subst he
      refine ⟨16, ⟨[(0, 9, 12, 35)], [], 0, 9, 15, 15, 3, rfl, ⟨by decide, by decide⟩, by decide, List.mem_of_getElem? (i := 1) rfl, lk_15, List.forall_mem_cons.mpr ⟨⟨by decide, ep_35'⟩, fun _ hz => absurd hz List.not_mem_nil⟩, by decide, Or.inr ⟨3, rfl, dL_insertBy_15, rfl⟩⟩, ?_⟩
      refine r_iconst dL_insertBy_16 ?_
      exact r_ret_iw dL_insertBy_17 rfl ⟨Nat.le_refl _, Nat.le_refl _⟩ ⟨rfl, rfl, rfl, Or.inr ⟨h0, rfl, rfl, rfl⟩⟩
abbrev mL_write : MI := (yL_write, cL_write, 7, some .int)
def hL_write : List (Nat × Nat × Nat × Nat) := [(0, 14, 17, 35), (0, 14, 21, 13), (0, 14, 25, 15)]
theorem fL_write : MFH mL_write hL_write 6 := ⟨(tb_in 757 (by decide +kernel) rfl), (tb_in 82 (by decide +kernel) rfl), (tb_in 758 (by decide +kernel) rfl), ⟨by decide +kernel, by decide +kernel, by decide +kernel⟩⟩
set_option maxRecDepth 20000 in
theorem w_write {l : Launch} {G : GG} {σ σ1 τ : ST} {π π1 : Nat → Option Nat} {a1 : Int} {a2 : Int} {a3 : Int} {a4 : Int} {er r : Int} (hM : CtX l G mX5_write (7, 1, 6) [.ref 0, .int (iI a1), .int (iI a2), .int (iI a3), .int (iI a4)] 117 KD σ τ (RHO π) (KF er (some (.int (iI r))) σ1 τ π1) (KE1 er σ τ π)) (he : er = 0 ∨ er = 3 ∨ er = 1 ∨ er = 2) : CtH l G mL_write hL_write (8, 1, 6) [.ref 0, .int (iI a1), .int (iI a2), .int (iI a3), .int (iI a4), .ref 116] 117 KD σ τ (RHO π) (KW er (cE 3 1 2 er) r σ σ1 τ π π1) := by
  refine cth_intro (own := "ShapedRowsLaw") rfl (by decide +kernel) (Nat.le_of_ble_eq_true rfl) (L := _) rfl ?_
  refine rH_aload dL_write_0 (by rfl) ?_
  refine rH_iconst dL_write_2 ?_
  refine rH_aload_n dL_write_3 rfl (by rfl) ?_
  refine rH_iload_n dL_write_4 rfl (by rfl) ?_
  refine rH_iload_n dL_write_5 rfl (by rfl) ?_
  refine rH_iload_n dL_write_6 rfl (by rfl) ?_
  refine rH_iload dL_write_7 (by rfl) ?_
  refine rH_callX (As := [.int (iI a1), .int (iI a2), .int (iI a3), .int (iI a4)]) (S := [.int (iI 0), .ref 116]) hM fX5_write rfl qL_37 dL_write_9 KD_0 ⟨Nat.le_refl _, Nat.le_of_ble_eq_true rfl⟩ ⟨Nat.le_refl _, Nat.le_refl _⟩ (Nat.le_of_ble_eq_true rfl) (fun h0 f => ?_) (fun h0 => ?_)
  · refine r_i2lw dL_write_12 ?_
    refine r_lastore (k := 0) dL_write_13 KD_116 (by rfl) (by decide) (by decide) ?_
    refine r_goto dL_write_14 (tgt := 29) (by rfl) ?_
    refine r_iconst dL_write_29 ?_
    exact r_ret_iw dL_write_30 rfl ⟨Nat.le_refl _, Nat.le_refl _⟩ ⟨rfl, rfl, by rw [h0]; rfl, Or.inl ⟨h0, ⟨f, rfl⟩, rfl, rfl⟩⟩
  · rcases he with he | he | he | he
    · exact absurd he h0
    · subst he
      refine ⟨19, ⟨[], [(0, 14, 21, 13), (0, 14, 25, 15)], 0, 14, 17, 35, 6, rfl, ⟨by decide, by decide⟩, by decide, List.mem_of_getElem? (i := 2) rfl, lk_35, fun _ hz => absurd hz List.not_mem_nil, by decide, Or.inl ⟨dL_write_17, rfl⟩⟩, ?_⟩
      refine r_iconst dL_write_19 ?_
      exact r_ret_iw dL_write_20 rfl ⟨Nat.le_refl _, Nat.le_refl _⟩ ⟨rfl, rfl, rfl, Or.inr ⟨h0, rfl, rfl, rfl⟩⟩
    · subst he
      refine ⟨23, ⟨[(0, 14, 17, 35)], [(0, 14, 25, 15)], 0, 14, 21, 13, 6, rfl, ⟨by decide, by decide⟩, by decide, List.mem_of_getElem? (i := 0) rfl, lk_13, List.forall_mem_cons.mpr ⟨⟨by decide, ep_35⟩, fun _ hz => absurd hz List.not_mem_nil⟩, by decide, Or.inl ⟨dL_write_21, rfl⟩⟩, ?_⟩
      refine r_iconst dL_write_23 ?_
      exact r_ret_iw dL_write_24 rfl ⟨Nat.le_refl _, Nat.le_refl _⟩ ⟨rfl, rfl, rfl, Or.inr ⟨h0, rfl, rfl, rfl⟩⟩
    · subst he
      refine ⟨27, ⟨[(0, 14, 17, 35), (0, 14, 21, 13)], [], 0, 14, 25, 15, 6, rfl, ⟨by decide, by decide⟩, by decide, List.mem_of_getElem? (i := 1) rfl, lk_15, List.forall_mem_cons.mpr ⟨⟨by decide, ep_35'⟩, List.forall_mem_cons.mpr ⟨⟨by decide, ep_13⟩, fun _ hz => absurd hz List.not_mem_nil⟩⟩, by decide, Or.inl ⟨dL_write_25, rfl⟩⟩, ?_⟩
      refine r_iconst dL_write_27 ?_
      exact r_ret_iw dL_write_28 rfl ⟨Nat.le_refl _, Nat.le_refl _⟩ ⟨rfl, rfl, rfl, Or.inr ⟨h0, rfl, rfl, rfl⟩⟩
abbrev mL_remove : MI := (yL_remove, cL_remove, 4, some .int)
def hL_remove : List (Nat × Nat × Nat × Nat) := [(0, 9, 12, 35)]
theorem fL_remove : MFH mL_remove hL_remove 3 := ⟨(tb_in 793 (by decide +kernel) rfl), (tb_in 82 (by decide +kernel) rfl), (tb_in 794 (by decide +kernel) rfl), ⟨by decide +kernel, by decide +kernel, by decide +kernel⟩⟩
set_option maxRecDepth 20000 in
theorem w_remove {l : Launch} {G : GG} {σ σ1 τ : ST} {π π1 : Nat → Option Nat} {a1 : Int} {er r : Int} (hM : CtX l G mX5_remove (7, 1, 6) [.ref 0, .int (iI a1)] 117 KD σ τ (RHO π) (KF er (some (.int (iI r))) σ1 τ π1) (KE1 er σ τ π)) (he : er = 0 ∨ er = 3) : CtH l G mL_remove hL_remove (8, 1, 6) [.ref 0, .int (iI a1), .ref 116] 117 KD σ τ (RHO π) (KW er (cE 3 9 9 er) r σ σ1 τ π π1) := by
  refine cth_intro (own := "ShapedRowsLaw") rfl (by decide +kernel) (Nat.le_of_ble_eq_true rfl) (L := _) rfl ?_
  refine rH_aload_n dL_remove_0 rfl (by rfl) ?_
  refine rH_iconst dL_remove_1 ?_
  refine rH_aload_n dL_remove_2 rfl (by rfl) ?_
  refine rH_iload_n dL_remove_3 rfl (by rfl) ?_
  refine rH_callX (As := [.int (iI a1)]) (S := [.int (iI 0), .ref 116]) hM fX5_remove rfl qL_41 dL_remove_4 KD_0 ⟨Nat.le_refl _, Nat.le_of_ble_eq_true rfl⟩ ⟨Nat.le_refl _, Nat.le_refl _⟩ (Nat.le_of_ble_eq_true rfl) (fun h0 f => ?_) (fun h0 => ?_)
  · refine r_i2lw dL_remove_7 ?_
    refine r_lastore (k := 0) dL_remove_8 KD_116 (by rfl) (by decide) (by decide) ?_
    refine r_goto dL_remove_9 (tgt := 15) (by rfl) ?_
    refine r_iconst dL_remove_15 ?_
    exact r_ret_iw dL_remove_16 rfl ⟨Nat.le_refl _, Nat.le_refl _⟩ ⟨rfl, rfl, by rw [h0]; rfl, Or.inl ⟨h0, ⟨f, rfl⟩, rfl, rfl⟩⟩
  · rcases he with he | he
    · exact absurd he h0
    · subst he
      refine ⟨13, ⟨[], [], 0, 9, 12, 35, 3, rfl, ⟨by decide, by decide⟩, by decide, List.mem_of_getElem? (i := 2) rfl, lk_35, fun _ hz => absurd hz List.not_mem_nil, by decide, Or.inr ⟨3, rfl, dL_remove_12, rfl⟩⟩, ?_⟩
      refine r_iconst dL_remove_13 ?_
      exact r_ret_iw dL_remove_14 rfl ⟨Nat.le_refl _, Nat.le_refl _⟩ ⟨rfl, rfl, rfl, Or.inr ⟨h0, rfl, rfl, rfl⟩⟩
abbrev mL_goOn : MI := (yL_goOn, cL_goOn, 4, some .int)
def hL_goOn : List (Nat × Nat × Nat × Nat) := [(0, 9, 12, 13)]
theorem fL_goOn : MFH mL_goOn hL_goOn 3 := ⟨(tb_in 811 (by decide +kernel) rfl), (tb_in 82 (by decide +kernel) rfl), (tb_in 812 (by decide +kernel) rfl), ⟨by decide +kernel, by decide +kernel, by decide +kernel⟩⟩
set_option maxRecDepth 20000 in
theorem w_goOn {l : Launch} {G : GG} {σ σ1 τ : ST} {π π1 : Nat → Option Nat} {a1 : Int} {er r : Int} (hM : CtX l G mX5_goOn (7, 1, 6) [.ref 0, .int (iI a1)] 117 KD σ τ (RHO π) (KF er (some (.int (iI r))) σ1 τ π1) (KE1 er σ τ π)) (he : er = 0 ∨ er = 1) : CtH l G mL_goOn hL_goOn (8, 1, 6) [.ref 0, .int (iI a1), .ref 116] 117 KD σ τ (RHO π) (KW er (cE 1 9 9 er) r σ σ1 τ π π1) := by
  refine cth_intro (own := "ShapedRowsLaw") rfl (by decide +kernel) (Nat.le_of_ble_eq_true rfl) (L := _) rfl ?_
  refine rH_aload_n dL_goOn_0 rfl (by rfl) ?_
  refine rH_iconst dL_goOn_1 ?_
  refine rH_aload_n dL_goOn_2 rfl (by rfl) ?_
  refine rH_iload_n dL_goOn_3 rfl (by rfl) ?_
  refine rH_callX (As := [.int (iI a1)]) (S := [.int (iI 0), .ref 116]) hM fX5_goOn rfl qL_44 dL_goOn_4 KD_0 ⟨Nat.le_refl _, Nat.le_of_ble_eq_true rfl⟩ ⟨Nat.le_refl _, Nat.le_refl _⟩ (Nat.le_of_ble_eq_true rfl) (fun h0 f => ?_) (fun h0 => ?_)
  · refine r_i2lw dL_goOn_7 ?_
    refine r_lastore (k := 0) dL_goOn_8 KD_116 (by rfl) (by decide) (by decide) ?_
    refine r_goto dL_goOn_9 (tgt := 15) (by rfl) ?_
    refine r_iconst dL_goOn_15 ?_
    exact r_ret_iw dL_goOn_16 rfl ⟨Nat.le_refl _, Nat.le_refl _⟩ ⟨rfl, rfl, by rw [h0]; rfl, Or.inl ⟨h0, ⟨f, rfl⟩, rfl, rfl⟩⟩
  · rcases he with he | he
    · exact absurd he h0
    · subst he
      refine ⟨13, ⟨[], [], 0, 9, 12, 13, 3, rfl, ⟨by decide, by decide⟩, by decide, List.mem_of_getElem? (i := 0) rfl, lk_13, fun _ hz => absurd hz List.not_mem_nil, by decide, Or.inr ⟨3, rfl, dL_goOn_12, rfl⟩⟩, ?_⟩
      refine r_iconst dL_goOn_13 ?_
      exact r_ret_iw dL_goOn_14 rfl ⟨Nat.le_refl _, Nat.le_refl _⟩ ⟨rfl, rfl, rfl, Or.inr ⟨h0, rfl, rfl, rfl⟩⟩
abbrev mL_hold : MI := (yL_hold, cL_hold, 5, some .int)
def hL_hold : List (Nat × Nat × Nat × Nat) := [(0, 10, 13, 35)]
theorem fL_hold : MFH mL_hold hL_hold 4 := ⟨(tb_in 832 (by decide +kernel) rfl), (tb_in 82 (by decide +kernel) rfl), (tb_in 833 (by decide +kernel) rfl), ⟨by decide +kernel, by decide +kernel, by decide +kernel⟩⟩
set_option maxRecDepth 20000 in
theorem w_hold {l : Launch} {G : GG} {σ σ1 τ : ST} {π π1 : Nat → Option Nat} {a1 : Int} {a2 : Int} {er r : Int} (hM : CtX l G mX5_hold (7, 1, 6) [.ref 0, .int (iI a1), .int (iI a2)] 117 KD σ τ (RHO π) (KF er (some (.int (iI r))) σ1 τ π1) (KE1 er σ τ π)) (he : er = 0 ∨ er = 3) : CtH l G mL_hold hL_hold (8, 1, 6) [.ref 0, .int (iI a1), .int (iI a2), .ref 116] 117 KD σ τ (RHO π) (KW er (cE 3 9 9 er) r σ σ1 τ π π1) := by
  refine cth_intro (own := "ShapedRowsLaw") rfl (by decide +kernel) (Nat.le_of_ble_eq_true rfl) (L := _) rfl ?_
  refine rH_aload_n dL_hold_0 rfl (by rfl) ?_
  refine rH_iconst dL_hold_1 ?_
  refine rH_aload_n dL_hold_2 rfl (by rfl) ?_
  refine rH_iload_n dL_hold_3 rfl (by rfl) ?_
  refine rH_iload_n dL_hold_4 rfl (by rfl) ?_
  refine rH_callX (As := [.int (iI a1), .int (iI a2)]) (S := [.int (iI 0), .ref 116]) hM fX5_hold rfl qL_47 dL_hold_5 KD_0 ⟨Nat.le_refl _, Nat.le_of_ble_eq_true rfl⟩ ⟨Nat.le_refl _, Nat.le_refl _⟩ (Nat.le_of_ble_eq_true rfl) (fun h0 f => ?_) (fun h0 => ?_)
  · refine r_i2lw dL_hold_8 ?_
    refine r_lastore (k := 0) dL_hold_9 KD_116 (by rfl) (by decide) (by decide) ?_
    refine r_goto dL_hold_10 (tgt := 17) (by rfl) ?_
    refine r_iconst dL_hold_17 ?_
    exact r_ret_iw dL_hold_18 rfl ⟨Nat.le_refl _, Nat.le_refl _⟩ ⟨rfl, rfl, by rw [h0]; rfl, Or.inl ⟨h0, ⟨f, rfl⟩, rfl, rfl⟩⟩
  · rcases he with he | he
    · exact absurd he h0
    · subst he
      refine ⟨15, ⟨[], [], 0, 10, 13, 35, 4, rfl, ⟨by decide, by decide⟩, by decide, List.mem_of_getElem? (i := 2) rfl, lk_35, fun _ hz => absurd hz List.not_mem_nil, by decide, Or.inl ⟨dL_hold_13, rfl⟩⟩, ?_⟩
      refine r_iconst dL_hold_15 ?_
      exact r_ret_iw dL_hold_16 rfl ⟨Nat.le_refl _, Nat.le_refl _⟩ ⟨rfl, rfl, rfl, Or.inr ⟨h0, rfl, rfl, rfl⟩⟩
abbrev mL_retire : MI := (yL_retire, cL_retire, 4, some .int)
def hL_retire : List (Nat × Nat × Nat × Nat) := [(0, 9, 12, 35), (0, 9, 15, 15)]
theorem fL_retire : MFH mL_retire hL_retire 3 := ⟨(tb_in 848 (by decide +kernel) rfl), (tb_in 82 (by decide +kernel) rfl), (tb_in 849 (by decide +kernel) rfl), ⟨by decide +kernel, by decide +kernel, by decide +kernel⟩⟩
set_option maxRecDepth 20000 in
theorem w_retire {l : Launch} {G : GG} {σ σ1 τ : ST} {π π1 : Nat → Option Nat} {a1 : Int} {er r : Int} (hM : CtX l G mX5_retire (7, 1, 6) [.ref 0, .int (iI a1)] 117 KD σ τ (RHO π) (KF er (some (.int (iI r))) σ1 τ π1) (KE1 er σ τ π)) (he : er = 0 ∨ er = 3 ∨ er = 2) : CtH l G mL_retire hL_retire (8, 1, 6) [.ref 0, .int (iI a1), .ref 116] 117 KD σ τ (RHO π) (KW er (cE 3 2 9 er) r σ σ1 τ π π1) := by
  refine cth_intro (own := "ShapedRowsLaw") rfl (by decide +kernel) (Nat.le_of_ble_eq_true rfl) (L := _) rfl ?_
  refine rH_aload_n dL_retire_0 rfl (by rfl) ?_
  refine rH_iconst dL_retire_1 ?_
  refine rH_aload_n dL_retire_2 rfl (by rfl) ?_
  refine rH_iload_n dL_retire_3 rfl (by rfl) ?_
  refine rH_callX (As := [.int (iI a1)]) (S := [.int (iI 0), .ref 116]) hM fX5_retire rfl qL_50 dL_retire_4 KD_0 ⟨Nat.le_refl _, Nat.le_of_ble_eq_true rfl⟩ ⟨Nat.le_refl _, Nat.le_refl _⟩ (Nat.le_of_ble_eq_true rfl) (fun h0 f => ?_) (fun h0 => ?_)
  · refine r_i2lw dL_retire_7 ?_
    refine r_lastore (k := 0) dL_retire_8 KD_116 (by rfl) (by decide) (by decide) ?_
    refine r_goto dL_retire_9 (tgt := 18) (by rfl) ?_
    refine r_iconst dL_retire_18 ?_
    exact r_ret_iw dL_retire_19 rfl ⟨Nat.le_refl _, Nat.le_refl _⟩ ⟨rfl, rfl, by rw [h0]; rfl, Or.inl ⟨h0, ⟨f, rfl⟩, rfl, rfl⟩⟩
  · rcases he with he | he | he
    · exact absurd he h0
    · subst he
      refine ⟨13, ⟨[], [(0, 9, 15, 15)], 0, 9, 12, 35, 3, rfl, ⟨by decide, by decide⟩, by decide, List.mem_of_getElem? (i := 2) rfl, lk_35, fun _ hz => absurd hz List.not_mem_nil, by decide, Or.inr ⟨3, rfl, dL_retire_12, rfl⟩⟩, ?_⟩
      refine r_iconst dL_retire_13 ?_
      exact r_ret_iw dL_retire_14 rfl ⟨Nat.le_refl _, Nat.le_refl _⟩ ⟨rfl, rfl, rfl, Or.inr ⟨h0, rfl, rfl, rfl⟩⟩
    · subst he
      refine ⟨16, ⟨[(0, 9, 12, 35)], [], 0, 9, 15, 15, 3, rfl, ⟨by decide, by decide⟩, by decide, List.mem_of_getElem? (i := 1) rfl, lk_15, List.forall_mem_cons.mpr ⟨⟨by decide, ep_35'⟩, fun _ hz => absurd hz List.not_mem_nil⟩, by decide, Or.inr ⟨3, rfl, dL_retire_15, rfl⟩⟩, ?_⟩
      refine r_iconst dL_retire_16 ?_
      exact r_ret_iw dL_retire_17 rfl ⟨Nat.le_refl _, Nat.le_refl _⟩ ⟨rfl, rfl, rfl, Or.inr ⟨h0, rfl, rfl, rfl⟩⟩
abbrev mL_append : MI := (yL_append, cL_append, 4, some .int)
def hL_append : List (Nat × Nat × Nat × Nat) := [(0, 9, 12, 13), (0, 9, 15, 15)]
theorem fL_append : MFH mL_append hL_append 3 := ⟨(tb_in 860 (by decide +kernel) rfl), (tb_in 82 (by decide +kernel) rfl), (tb_in 861 (by decide +kernel) rfl), ⟨by decide +kernel, by decide +kernel, by decide +kernel⟩⟩
set_option maxRecDepth 20000 in
theorem w_append {l : Launch} {G : GG} {σ σ1 τ : ST} {π π1 : Nat → Option Nat} {a1 : Int} {er r : Int} (hM : CtX l G mX5_append (7, 1, 6) [.ref 0, .int (iI a1)] 117 KD σ τ (RHO π) (KF er (some (.int (iI r))) σ1 τ π1) (KE1 er σ τ π)) (he : er = 0 ∨ er = 1 ∨ er = 2) : CtH l G mL_append hL_append (8, 1, 6) [.ref 0, .int (iI a1), .ref 116] 117 KD σ τ (RHO π) (KW er (cE 1 2 9 er) r σ σ1 τ π π1) := by
  refine cth_intro (own := "ShapedRowsLaw") rfl (by decide +kernel) (Nat.le_of_ble_eq_true rfl) (L := _) rfl ?_
  refine rH_aload_n dL_append_0 rfl (by rfl) ?_
  refine rH_iconst dL_append_1 ?_
  refine rH_aload_n dL_append_2 rfl (by rfl) ?_
  refine rH_iload_n dL_append_3 rfl (by rfl) ?_
  refine rH_callX (As := [.int (iI a1)]) (S := [.int (iI 0), .ref 116]) hM fX5_append rfl qL_53 dL_append_4 KD_0 ⟨Nat.le_refl _, Nat.le_of_ble_eq_true rfl⟩ ⟨Nat.le_refl _, Nat.le_refl _⟩ (Nat.le_of_ble_eq_true rfl) (fun h0 f => ?_) (fun h0 => ?_)
  · refine r_i2lw dL_append_7 ?_
    refine r_lastore (k := 0) dL_append_8 KD_116 (by rfl) (by decide) (by decide) ?_
    refine r_goto dL_append_9 (tgt := 18) (by rfl) ?_
    refine r_iconst dL_append_18 ?_
    exact r_ret_iw dL_append_19 rfl ⟨Nat.le_refl _, Nat.le_refl _⟩ ⟨rfl, rfl, by rw [h0]; rfl, Or.inl ⟨h0, ⟨f, rfl⟩, rfl, rfl⟩⟩
  · rcases he with he | he | he
    · exact absurd he h0
    · subst he
      refine ⟨13, ⟨[], [(0, 9, 15, 15)], 0, 9, 12, 13, 3, rfl, ⟨by decide, by decide⟩, by decide, List.mem_of_getElem? (i := 0) rfl, lk_13, fun _ hz => absurd hz List.not_mem_nil, by decide, Or.inr ⟨3, rfl, dL_append_12, rfl⟩⟩, ?_⟩
      refine r_iconst dL_append_13 ?_
      exact r_ret_iw dL_append_14 rfl ⟨Nat.le_refl _, Nat.le_refl _⟩ ⟨rfl, rfl, rfl, Or.inr ⟨h0, rfl, rfl, rfl⟩⟩
    · subst he
      refine ⟨16, ⟨[(0, 9, 12, 13)], [], 0, 9, 15, 15, 3, rfl, ⟨by decide, by decide⟩, by decide, List.mem_of_getElem? (i := 1) rfl, lk_15, List.forall_mem_cons.mpr ⟨⟨by decide, ep_13⟩, fun _ hz => absurd hz List.not_mem_nil⟩, by decide, Or.inr ⟨3, rfl, dL_append_15, rfl⟩⟩, ?_⟩
      refine r_iconst dL_append_16 ?_
      exact r_ret_iw dL_append_17 rfl ⟨Nat.le_refl _, Nat.le_refl _⟩ ⟨rfl, rfl, rfl, Or.inr ⟨h0, rfl, rfl, rfl⟩⟩
abbrev mL_run : MI := (yL_run, cL_run, 3, some .int)
def hL_run : List (Nat × Nat × Nat × Nat) := [(0, 8, 11, 13)]
theorem fL_run : MFH mL_run hL_run 2 := ⟨(tb_in 878 (by decide +kernel) rfl), (tb_in 82 (by decide +kernel) rfl), (tb_in 879 (by decide +kernel) rfl), ⟨by decide +kernel, by decide +kernel, by decide +kernel⟩⟩
set_option maxRecDepth 20000 in
theorem w_run {l : Launch} {G : GG} {σ σ1 τ : ST} {π π1 : Nat → Option Nat} {er r : Int} (hM : CtX l G mX5_run (7, 1, 6) [.ref 0] 117 KD σ τ (RHO π) (KF er (some (.int (iI r))) σ1 τ π1) (KE1 er σ τ π)) (he : er = 0 ∨ er = 1) : CtH l G mL_run hL_run (8, 1, 6) [.ref 0, .ref 116] 117 KD σ τ (RHO π) (KW er (cE 1 9 9 er) r σ σ1 τ π π1) := by
  refine cth_intro (own := "ShapedRowsLaw") rfl (by decide +kernel) (Nat.le_of_ble_eq_true rfl) (L := _) rfl ?_
  refine rH_aload_n dL_run_0 rfl (by rfl) ?_
  refine rH_iconst dL_run_1 ?_
  refine rH_aload_n dL_run_2 rfl (by rfl) ?_
  refine rH_callX (As := []) (S := [.int (iI 0), .ref 116]) hM fX5_run rfl qL_56 dL_run_3 KD_0 ⟨Nat.le_refl _, Nat.le_of_ble_eq_true rfl⟩ ⟨Nat.le_refl _, Nat.le_refl _⟩ (Nat.le_of_ble_eq_true rfl) (fun h0 f => ?_) (fun h0 => ?_)
  · refine r_i2lw dL_run_6 ?_
    refine r_lastore (k := 0) dL_run_7 KD_116 (by rfl) (by decide) (by decide) ?_
    refine r_goto dL_run_8 (tgt := 14) (by rfl) ?_
    refine r_iconst dL_run_14 ?_
    exact r_ret_iw dL_run_15 rfl ⟨Nat.le_refl _, Nat.le_refl _⟩ ⟨rfl, rfl, by rw [h0]; rfl, Or.inl ⟨h0, ⟨f, rfl⟩, rfl, rfl⟩⟩
  · rcases he with he | he
    · exact absurd he h0
    · subst he
      refine ⟨12, ⟨[], [], 0, 8, 11, 13, 2, rfl, ⟨by decide, by decide⟩, by decide, List.mem_of_getElem? (i := 0) rfl, lk_13, fun _ hz => absurd hz List.not_mem_nil, by decide, Or.inr ⟨2, rfl, dL_run_11, rfl⟩⟩, ?_⟩
      refine r_iconst dL_run_12 ?_
      exact r_ret_iw dL_run_13 rfl ⟨Nat.le_refl _, Nat.le_refl _⟩ ⟨rfl, rfl, rfl, Or.inr ⟨h0, rfl, rfl, rfl⟩⟩
abbrev mL_undo : MI := (yL_undo, cL_undo, 3, some .int)
def hL_undo : List (Nat × Nat × Nat × Nat) := [(0, 8, 11, 15)]
theorem fL_undo : MFH mL_undo hL_undo 2 := ⟨(tb_in 926 (by decide +kernel) rfl), (tb_in 82 (by decide +kernel) rfl), (tb_in 927 (by decide +kernel) rfl), ⟨by decide +kernel, by decide +kernel, by decide +kernel⟩⟩
set_option maxRecDepth 20000 in
theorem w_undo {l : Launch} {G : GG} {σ σ1 τ : ST} {π π1 : Nat → Option Nat} {er r : Int} (hM : CtX l G mX5_undo (7, 1, 6) [.ref 0] 117 KD σ τ (RHO π) (KF er (some (.int (iI r))) σ1 τ π1) (KE1 er σ τ π)) (he : er = 0 ∨ er = 2) : CtH l G mL_undo hL_undo (8, 1, 6) [.ref 0, .ref 116] 117 KD σ τ (RHO π) (KW er (cE 2 9 9 er) r σ σ1 τ π π1) := by
  refine cth_intro (own := "ShapedRowsLaw") rfl (by decide +kernel) (Nat.le_of_ble_eq_true rfl) (L := _) rfl ?_
  refine rH_aload_n dL_undo_0 rfl (by rfl) ?_
  refine rH_iconst dL_undo_1 ?_
  refine rH_aload_n dL_undo_2 rfl (by rfl) ?_
  refine rH_callX (As := []) (S := [.int (iI 0), .ref 116]) hM fX5_undo rfl qL_59 dL_undo_3 KD_0 ⟨Nat.le_refl _, Nat.le_of_ble_eq_true rfl⟩ ⟨Nat.le_refl _, Nat.le_refl _⟩ (Nat.le_of_ble_eq_true rfl) (fun h0 f => ?_) (fun h0 => ?_)
  · refine r_i2lw dL_undo_6 ?_
    refine r_lastore (k := 0) dL_undo_7 KD_116 (by rfl) (by decide) (by decide) ?_
    refine r_goto dL_undo_8 (tgt := 14) (by rfl) ?_
    refine r_iconst dL_undo_14 ?_
    exact r_ret_iw dL_undo_15 rfl ⟨Nat.le_refl _, Nat.le_refl _⟩ ⟨rfl, rfl, by rw [h0]; rfl, Or.inl ⟨h0, ⟨f, rfl⟩, rfl, rfl⟩⟩
  · rcases he with he | he
    · exact absurd he h0
    · subst he
      refine ⟨12, ⟨[], [], 0, 8, 11, 15, 2, rfl, ⟨by decide, by decide⟩, by decide, List.mem_of_getElem? (i := 1) rfl, lk_15, fun _ hz => absurd hz List.not_mem_nil, by decide, Or.inr ⟨2, rfl, dL_undo_11, rfl⟩⟩, ?_⟩
      refine r_iconst dL_undo_12 ?_
      exact r_ret_iw dL_undo_13 rfl ⟨Nat.le_refl _, Nat.le_refl _⟩ ⟨rfl, rfl, rfl, Or.inr ⟨h0, rfl, rfl, rfl⟩⟩
abbrev mL_read : MI := (yL_read, cL_read, 6, some .int)
def hL_read : List (Nat × Nat × Nat × Nat) := [(0, 12, 15, 35), (0, 12, 19, 13)]
theorem fL_read : MFH mL_read hL_read 5 := ⟨(tb_in 938 (by decide +kernel) rfl), (tb_in 82 (by decide +kernel) rfl), (tb_in 939 (by decide +kernel) rfl), ⟨by decide +kernel, by decide +kernel, by decide +kernel⟩⟩
set_option maxRecDepth 20000 in
theorem w_read {l : Launch} {G : GG} {σ σ1 τ : ST} {π π1 : Nat → Option Nat} {a1 : Int} {a2 : Int} {a3 : Int} {er r : Int} (hM : CtX l G mX5_read (7, 1, 6) [.ref 0, .int (iI a1), .int (iI a2), .int (iI a3)] 117 KD σ τ (RHO π) (KF er (some (.int (iI r))) σ1 τ π1) (KE1 er σ τ π)) (he : er = 0 ∨ er = 3 ∨ er = 1) : CtH l G mL_read hL_read (8, 1, 6) [.ref 0, .int (iI a1), .int (iI a2), .int (iI a3), .ref 116] 117 KD σ τ (RHO π) (KW er (cE 3 1 9 er) r σ σ1 τ π π1) := by
  refine cth_intro (own := "ShapedRowsLaw") rfl (by decide +kernel) (Nat.le_of_ble_eq_true rfl) (L := _) rfl ?_
  refine rH_aload dL_read_0 (by rfl) ?_
  refine rH_iconst dL_read_2 ?_
  refine rH_aload_n dL_read_3 rfl (by rfl) ?_
  refine rH_iload_n dL_read_4 rfl (by rfl) ?_
  refine rH_iload_n dL_read_5 rfl (by rfl) ?_
  refine rH_iload_n dL_read_6 rfl (by rfl) ?_
  refine rH_callX (As := [.int (iI a1), .int (iI a2), .int (iI a3)]) (S := [.int (iI 0), .ref 116]) hM fX5_read rfl qL_62 dL_read_7 KD_0 ⟨Nat.le_refl _, Nat.le_of_ble_eq_true rfl⟩ ⟨Nat.le_refl _, Nat.le_refl _⟩ (Nat.le_of_ble_eq_true rfl) (fun h0 f => ?_) (fun h0 => ?_)
  · refine r_i2lw dL_read_10 ?_
    refine r_lastore (k := 0) dL_read_11 KD_116 (by rfl) (by decide) (by decide) ?_
    refine r_goto dL_read_12 (tgt := 23) (by rfl) ?_
    refine r_iconst dL_read_23 ?_
    exact r_ret_iw dL_read_24 rfl ⟨Nat.le_refl _, Nat.le_refl _⟩ ⟨rfl, rfl, by rw [h0]; rfl, Or.inl ⟨h0, ⟨f, rfl⟩, rfl, rfl⟩⟩
  · rcases he with he | he | he
    · exact absurd he h0
    · subst he
      refine ⟨17, ⟨[], [(0, 12, 19, 13)], 0, 12, 15, 35, 5, rfl, ⟨by decide, by decide⟩, by decide, List.mem_of_getElem? (i := 2) rfl, lk_35, fun _ hz => absurd hz List.not_mem_nil, by decide, Or.inl ⟨dL_read_15, rfl⟩⟩, ?_⟩
      refine r_iconst dL_read_17 ?_
      exact r_ret_iw dL_read_18 rfl ⟨Nat.le_refl _, Nat.le_refl _⟩ ⟨rfl, rfl, rfl, Or.inr ⟨h0, rfl, rfl, rfl⟩⟩
    · subst he
      refine ⟨21, ⟨[(0, 12, 15, 35)], [], 0, 12, 19, 13, 5, rfl, ⟨by decide, by decide⟩, by decide, List.mem_of_getElem? (i := 0) rfl, lk_13, List.forall_mem_cons.mpr ⟨⟨by decide, ep_35⟩, fun _ hz => absurd hz List.not_mem_nil⟩, by decide, Or.inl ⟨dL_read_19, rfl⟩⟩, ?_⟩
      refine r_iconst dL_read_21 ?_
      exact r_ret_iw dL_read_22 rfl ⟨Nat.le_refl _, Nat.le_refl _⟩ ⟨rfl, rfl, rfl, Or.inr ⟨h0, rfl, rfl, rfl⟩⟩
abbrev mL_readAs : MI := (yL_readAs, cL_readAs, 6, some .int)
def hL_readAs : List (Nat × Nat × Nat × Nat) := [(0, 12, 15, 35), (0, 12, 19, 13)]
theorem fL_readAs : MFH mL_readAs hL_readAs 5 := ⟨(tb_in 947 (by decide +kernel) rfl), (tb_in 82 (by decide +kernel) rfl), (tb_in 948 (by decide +kernel) rfl), ⟨by decide +kernel, by decide +kernel, by decide +kernel⟩⟩
set_option maxRecDepth 20000 in
theorem w_readAs {l : Launch} {G : GG} {σ σ1 τ : ST} {π π1 : Nat → Option Nat} {a1 : Int} {a2 : Int} {a3 : Int} {er r : Int} (hM : CtX l G mX5_readAs (7, 1, 6) [.ref 0, .int (iI a1), .int (iI a2), .int (iI a3)] 117 KD σ τ (RHO π) (KF er (some (.int (iI r))) σ1 τ π1) (KE1 er σ τ π)) (he : er = 0 ∨ er = 3 ∨ er = 1) : CtH l G mL_readAs hL_readAs (8, 1, 6) [.ref 0, .int (iI a1), .int (iI a2), .int (iI a3), .ref 116] 117 KD σ τ (RHO π) (KW er (cE 3 1 9 er) r σ σ1 τ π π1) := by
  refine cth_intro (own := "ShapedRowsLaw") rfl (by decide +kernel) (Nat.le_of_ble_eq_true rfl) (L := _) rfl ?_
  refine rH_aload dL_readAs_0 (by rfl) ?_
  refine rH_iconst dL_readAs_2 ?_
  refine rH_aload_n dL_readAs_3 rfl (by rfl) ?_
  refine rH_iload_n dL_readAs_4 rfl (by rfl) ?_
  refine rH_iload_n dL_readAs_5 rfl (by rfl) ?_
  refine rH_iload_n dL_readAs_6 rfl (by rfl) ?_
  refine rH_callX (As := [.int (iI a1), .int (iI a2), .int (iI a3)]) (S := [.int (iI 0), .ref 116]) hM fX5_readAs rfl qL_65 dL_readAs_7 KD_0 ⟨Nat.le_refl _, Nat.le_of_ble_eq_true rfl⟩ ⟨Nat.le_refl _, Nat.le_refl _⟩ (Nat.le_of_ble_eq_true rfl) (fun h0 f => ?_) (fun h0 => ?_)
  · refine r_i2lw dL_readAs_10 ?_
    refine r_lastore (k := 0) dL_readAs_11 KD_116 (by rfl) (by decide) (by decide) ?_
    refine r_goto dL_readAs_12 (tgt := 23) (by rfl) ?_
    refine r_iconst dL_readAs_23 ?_
    exact r_ret_iw dL_readAs_24 rfl ⟨Nat.le_refl _, Nat.le_refl _⟩ ⟨rfl, rfl, by rw [h0]; rfl, Or.inl ⟨h0, ⟨f, rfl⟩, rfl, rfl⟩⟩
  · rcases he with he | he | he
    · exact absurd he h0
    · subst he
      refine ⟨17, ⟨[], [(0, 12, 19, 13)], 0, 12, 15, 35, 5, rfl, ⟨by decide, by decide⟩, by decide, List.mem_of_getElem? (i := 2) rfl, lk_35, fun _ hz => absurd hz List.not_mem_nil, by decide, Or.inl ⟨dL_readAs_15, rfl⟩⟩, ?_⟩
      refine r_iconst dL_readAs_17 ?_
      exact r_ret_iw dL_readAs_18 rfl ⟨Nat.le_refl _, Nat.le_refl _⟩ ⟨rfl, rfl, rfl, Or.inr ⟨h0, rfl, rfl, rfl⟩⟩
    · subst he
      refine ⟨21, ⟨[(0, 12, 15, 35)], [], 0, 12, 19, 13, 5, rfl, ⟨by decide, by decide⟩, by decide, List.mem_of_getElem? (i := 0) rfl, lk_13, List.forall_mem_cons.mpr ⟨⟨by decide, ep_35⟩, fun _ hz => absurd hz List.not_mem_nil⟩, by decide, Or.inl ⟨dL_readAs_19, rfl⟩⟩, ?_⟩
      refine r_iconst dL_readAs_21 ?_
      exact r_ret_iw dL_readAs_22 rfl ⟨Nat.le_refl _, Nat.le_refl _⟩ ⟨rfl, rfl, rfl, Or.inr ⟨h0, rfl, rfl, rfl⟩⟩
abbrev mL_column : MI := (yL_column, cL_column, 6, some .int)
def hL_column : List (Nat × Nat × Nat × Nat) := [(0, 12, 15, 35), (0, 12, 19, 13)]
theorem fL_column : MFH mL_column hL_column 5 := ⟨(tb_in 955 (by decide +kernel) rfl), (tb_in 82 (by decide +kernel) rfl), (tb_in 956 (by decide +kernel) rfl), ⟨by decide +kernel, by decide +kernel, by decide +kernel⟩⟩
set_option maxRecDepth 20000 in
theorem w_column {l : Launch} {G : GG} {σ σ1 τ : ST} {π π1 : Nat → Option Nat} {a1 : Int} {a2 : Int} {a3 : Int} {er r : Int} (hM : CtX l G mX5_column (7, 1, 6) [.ref 0, .int (iI a1), .int (iI a2), .int (iI a3)] 117 KD σ τ (RHO π) (KF er (some (.int (iI r))) σ1 τ π1) (KE1 er σ τ π)) (he : er = 0 ∨ er = 3 ∨ er = 1) : CtH l G mL_column hL_column (8, 1, 6) [.ref 0, .int (iI a1), .int (iI a2), .int (iI a3), .ref 116] 117 KD σ τ (RHO π) (KW er (cE 3 1 9 er) r σ σ1 τ π π1) := by
  refine cth_intro (own := "ShapedRowsLaw") rfl (by decide +kernel) (Nat.le_of_ble_eq_true rfl) (L := _) rfl ?_
  refine rH_aload dL_column_0 (by rfl) ?_
  refine rH_iconst dL_column_2 ?_
  refine rH_aload_n dL_column_3 rfl (by rfl) ?_
  refine rH_iload_n dL_column_4 rfl (by rfl) ?_
  refine rH_iload_n dL_column_5 rfl (by rfl) ?_
  refine rH_iload_n dL_column_6 rfl (by rfl) ?_
  refine rH_callX (As := [.int (iI a1), .int (iI a2), .int (iI a3)]) (S := [.int (iI 0), .ref 116]) hM fX5_column rfl qL_68 dL_column_7 KD_0 ⟨Nat.le_refl _, Nat.le_of_ble_eq_true rfl⟩ ⟨Nat.le_refl _, Nat.le_refl _⟩ (Nat.le_of_ble_eq_true rfl) (fun h0 f => ?_) (fun h0 => ?_)
  · refine r_i2lw dL_column_10 ?_
    refine r_lastore (k := 0) dL_column_11 KD_116 (by rfl) (by decide) (by decide) ?_
    refine r_goto dL_column_12 (tgt := 23) (by rfl) ?_
    refine r_iconst dL_column_23 ?_
    exact r_ret_iw dL_column_24 rfl ⟨Nat.le_refl _, Nat.le_refl _⟩ ⟨rfl, rfl, by rw [h0]; rfl, Or.inl ⟨h0, ⟨f, rfl⟩, rfl, rfl⟩⟩
  · rcases he with he | he | he
    · exact absurd he h0
    · subst he
      refine ⟨17, ⟨[], [(0, 12, 19, 13)], 0, 12, 15, 35, 5, rfl, ⟨by decide, by decide⟩, by decide, List.mem_of_getElem? (i := 2) rfl, lk_35, fun _ hz => absurd hz List.not_mem_nil, by decide, Or.inl ⟨dL_column_15, rfl⟩⟩, ?_⟩
      refine r_iconst dL_column_17 ?_
      exact r_ret_iw dL_column_18 rfl ⟨Nat.le_refl _, Nat.le_refl _⟩ ⟨rfl, rfl, rfl, Or.inr ⟨h0, rfl, rfl, rfl⟩⟩
    · subst he
      refine ⟨21, ⟨[(0, 12, 15, 35)], [], 0, 12, 19, 13, 5, rfl, ⟨by decide, by decide⟩, by decide, List.mem_of_getElem? (i := 0) rfl, lk_13, List.forall_mem_cons.mpr ⟨⟨by decide, ep_35⟩, fun _ hz => absurd hz List.not_mem_nil⟩, by decide, Or.inl ⟨dL_column_19, rfl⟩⟩, ?_⟩
      refine r_iconst dL_column_21 ?_
      exact r_ret_iw dL_column_22 rfl ⟨Nat.le_refl _, Nat.le_refl _⟩ ⟨rfl, rfl, rfl, Or.inr ⟨h0, rfl, rfl, rfl⟩⟩
abbrev mL_shape : MI := (yL_shape, cL_shape, 5, some .int)
def hL_shape : List (Nat × Nat × Nat × Nat) := [(0, 10, 13, 35), (0, 10, 17, 13)]
theorem fL_shape : MFH mL_shape hL_shape 4 := ⟨(tb_in 965 (by decide +kernel) rfl), (tb_in 82 (by decide +kernel) rfl), (tb_in 966 (by decide +kernel) rfl), ⟨by decide +kernel, by decide +kernel, by decide +kernel⟩⟩
set_option maxRecDepth 20000 in
theorem w_shape {l : Launch} {G : GG} {σ σ1 τ : ST} {π π1 : Nat → Option Nat} {a1 : Int} {a2 : Int} {er r : Int} (hM : CtX l G mX5_shape (7, 1, 6) [.ref 0, .int (iI a1), .int (iI a2)] 117 KD σ τ (RHO π) (KF er (some (.int (iI r))) σ1 τ π1) (KE1 er σ τ π)) (he : er = 0 ∨ er = 3 ∨ er = 1) : CtH l G mL_shape hL_shape (8, 1, 6) [.ref 0, .int (iI a1), .int (iI a2), .ref 116] 117 KD σ τ (RHO π) (KW er (cE 3 1 9 er) r σ σ1 τ π π1) := by
  refine cth_intro (own := "ShapedRowsLaw") rfl (by decide +kernel) (Nat.le_of_ble_eq_true rfl) (L := _) rfl ?_
  refine rH_aload_n dL_shape_0 rfl (by rfl) ?_
  refine rH_iconst dL_shape_1 ?_
  refine rH_aload_n dL_shape_2 rfl (by rfl) ?_
  refine rH_iload_n dL_shape_3 rfl (by rfl) ?_
  refine rH_iload_n dL_shape_4 rfl (by rfl) ?_
  refine rH_callX (As := [.int (iI a1), .int (iI a2)]) (S := [.int (iI 0), .ref 116]) hM fX5_shape rfl qL_71 dL_shape_5 KD_0 ⟨Nat.le_refl _, Nat.le_of_ble_eq_true rfl⟩ ⟨Nat.le_refl _, Nat.le_refl _⟩ (Nat.le_of_ble_eq_true rfl) (fun h0 f => ?_) (fun h0 => ?_)
  · refine r_i2lw dL_shape_8 ?_
    refine r_lastore (k := 0) dL_shape_9 KD_116 (by rfl) (by decide) (by decide) ?_
    refine r_goto dL_shape_10 (tgt := 21) (by rfl) ?_
    refine r_iconst dL_shape_21 ?_
    exact r_ret_iw dL_shape_22 rfl ⟨Nat.le_refl _, Nat.le_refl _⟩ ⟨rfl, rfl, by rw [h0]; rfl, Or.inl ⟨h0, ⟨f, rfl⟩, rfl, rfl⟩⟩
  · rcases he with he | he | he
    · exact absurd he h0
    · subst he
      refine ⟨15, ⟨[], [(0, 10, 17, 13)], 0, 10, 13, 35, 4, rfl, ⟨by decide, by decide⟩, by decide, List.mem_of_getElem? (i := 2) rfl, lk_35, fun _ hz => absurd hz List.not_mem_nil, by decide, Or.inl ⟨dL_shape_13, rfl⟩⟩, ?_⟩
      refine r_iconst dL_shape_15 ?_
      exact r_ret_iw dL_shape_16 rfl ⟨Nat.le_refl _, Nat.le_refl _⟩ ⟨rfl, rfl, rfl, Or.inr ⟨h0, rfl, rfl, rfl⟩⟩
    · subst he
      refine ⟨19, ⟨[(0, 10, 13, 35)], [], 0, 10, 17, 13, 4, rfl, ⟨by decide, by decide⟩, by decide, List.mem_of_getElem? (i := 0) rfl, lk_13, List.forall_mem_cons.mpr ⟨⟨by decide, ep_35⟩, fun _ hz => absurd hz List.not_mem_nil⟩, by decide, Or.inl ⟨dL_shape_17, rfl⟩⟩, ?_⟩
      refine r_iconst dL_shape_19 ?_
      exact r_ret_iw dL_shape_20 rfl ⟨Nat.le_refl _, Nat.le_refl _⟩ ⟨rfl, rfl, rfl, Or.inr ⟨h0, rfl, rfl, rfl⟩⟩
abbrev mL_row : MI := (yL_row, cL_row, 5, some .int)
def hL_row : List (Nat × Nat × Nat × Nat) := [(0, 10, 13, 35), (0, 10, 17, 13)]
theorem fL_row : MFH mL_row hL_row 4 := ⟨(tb_in 973 (by decide +kernel) rfl), (tb_in 82 (by decide +kernel) rfl), (tb_in 974 (by decide +kernel) rfl), ⟨by decide +kernel, by decide +kernel, by decide +kernel⟩⟩
set_option maxRecDepth 20000 in
theorem w_row {l : Launch} {G : GG} {σ σ1 τ : ST} {π π1 : Nat → Option Nat} {a1 : Int} {a2 : Int} {er r : Int} (hM : CtX l G mX5_row (7, 1, 6) [.ref 0, .int (iI a1), .int (iI a2)] 117 KD σ τ (RHO π) (KF er (some (.int (iI r))) σ1 τ π1) (KE1 er σ τ π)) (he : er = 0 ∨ er = 3 ∨ er = 1) : CtH l G mL_row hL_row (8, 1, 6) [.ref 0, .int (iI a1), .int (iI a2), .ref 116] 117 KD σ τ (RHO π) (KW er (cE 3 1 9 er) r σ σ1 τ π π1) := by
  refine cth_intro (own := "ShapedRowsLaw") rfl (by decide +kernel) (Nat.le_of_ble_eq_true rfl) (L := _) rfl ?_
  refine rH_aload_n dL_row_0 rfl (by rfl) ?_
  refine rH_iconst dL_row_1 ?_
  refine rH_aload_n dL_row_2 rfl (by rfl) ?_
  refine rH_iload_n dL_row_3 rfl (by rfl) ?_
  refine rH_iload_n dL_row_4 rfl (by rfl) ?_
  refine rH_callX (As := [.int (iI a1), .int (iI a2)]) (S := [.int (iI 0), .ref 116]) hM fX5_row rfl qL_74 dL_row_5 KD_0 ⟨Nat.le_refl _, Nat.le_of_ble_eq_true rfl⟩ ⟨Nat.le_refl _, Nat.le_refl _⟩ (Nat.le_of_ble_eq_true rfl) (fun h0 f => ?_) (fun h0 => ?_)
  · refine r_i2lw dL_row_8 ?_
    refine r_lastore (k := 0) dL_row_9 KD_116 (by rfl) (by decide) (by decide) ?_
    refine r_goto dL_row_10 (tgt := 21) (by rfl) ?_
    refine r_iconst dL_row_21 ?_
    exact r_ret_iw dL_row_22 rfl ⟨Nat.le_refl _, Nat.le_refl _⟩ ⟨rfl, rfl, by rw [h0]; rfl, Or.inl ⟨h0, ⟨f, rfl⟩, rfl, rfl⟩⟩
  · rcases he with he | he | he
    · exact absurd he h0
    · subst he
      refine ⟨15, ⟨[], [(0, 10, 17, 13)], 0, 10, 13, 35, 4, rfl, ⟨by decide, by decide⟩, by decide, List.mem_of_getElem? (i := 2) rfl, lk_35, fun _ hz => absurd hz List.not_mem_nil, by decide, Or.inl ⟨dL_row_13, rfl⟩⟩, ?_⟩
      refine r_iconst dL_row_15 ?_
      exact r_ret_iw dL_row_16 rfl ⟨Nat.le_refl _, Nat.le_refl _⟩ ⟨rfl, rfl, rfl, Or.inr ⟨h0, rfl, rfl, rfl⟩⟩
    · subst he
      refine ⟨19, ⟨[(0, 10, 13, 35)], [], 0, 10, 17, 13, 4, rfl, ⟨by decide, by decide⟩, by decide, List.mem_of_getElem? (i := 0) rfl, lk_13, List.forall_mem_cons.mpr ⟨⟨by decide, ep_35⟩, fun _ hz => absurd hz List.not_mem_nil⟩, by decide, Or.inl ⟨dL_row_17, rfl⟩⟩, ?_⟩
      refine r_iconst dL_row_19 ?_
      exact r_ret_iw dL_row_20 rfl ⟨Nat.le_refl _, Nat.le_refl _⟩ ⟨rfl, rfl, rfl, Or.inr ⟨h0, rfl, rfl, rfl⟩⟩
abbrev mL_count : MI := (yL_count, cL_count, 4, some .int)
def hL_count : List (Nat × Nat × Nat × Nat) := [(0, 9, 12, 13)]
theorem fL_count : MFH mL_count hL_count 3 := ⟨(tb_in 980 (by decide +kernel) rfl), (tb_in 82 (by decide +kernel) rfl), (tb_in 981 (by decide +kernel) rfl), ⟨by decide +kernel, by decide +kernel, by decide +kernel⟩⟩
set_option maxRecDepth 20000 in
theorem w_count {l : Launch} {G : GG} {σ σ1 τ : ST} {π π1 : Nat → Option Nat} {a1 : Int} {er r : Int} (hM : CtX l G mX5_count (7, 1, 6) [.ref 0, .int (iI a1)] 117 KD σ τ (RHO π) (KF er (some (.int (iI r))) σ1 τ π1) (KE1 er σ τ π)) (he : er = 0 ∨ er = 1) : CtH l G mL_count hL_count (8, 1, 6) [.ref 0, .int (iI a1), .ref 116] 117 KD σ τ (RHO π) (KW er (cE 1 9 9 er) r σ σ1 τ π π1) := by
  refine cth_intro (own := "ShapedRowsLaw") rfl (by decide +kernel) (Nat.le_of_ble_eq_true rfl) (L := _) rfl ?_
  refine rH_aload_n dL_count_0 rfl (by rfl) ?_
  refine rH_iconst dL_count_1 ?_
  refine rH_aload_n dL_count_2 rfl (by rfl) ?_
  refine rH_iload_n dL_count_3 rfl (by rfl) ?_
  refine rH_callX (As := [.int (iI a1)]) (S := [.int (iI 0), .ref 116]) hM fX5_count rfl qL_77 dL_count_4 KD_0 ⟨Nat.le_refl _, Nat.le_of_ble_eq_true rfl⟩ ⟨Nat.le_refl _, Nat.le_refl _⟩ (Nat.le_of_ble_eq_true rfl) (fun h0 f => ?_) (fun h0 => ?_)
  · refine r_i2lw dL_count_7 ?_
    refine r_lastore (k := 0) dL_count_8 KD_116 (by rfl) (by decide) (by decide) ?_
    refine r_goto dL_count_9 (tgt := 15) (by rfl) ?_
    refine r_iconst dL_count_15 ?_
    exact r_ret_iw dL_count_16 rfl ⟨Nat.le_refl _, Nat.le_refl _⟩ ⟨rfl, rfl, by rw [h0]; rfl, Or.inl ⟨h0, ⟨f, rfl⟩, rfl, rfl⟩⟩
  · rcases he with he | he
    · exact absurd he h0
    · subst he
      refine ⟨13, ⟨[], [], 0, 9, 12, 13, 3, rfl, ⟨by decide, by decide⟩, by decide, List.mem_of_getElem? (i := 0) rfl, lk_13, fun _ hz => absurd hz List.not_mem_nil, by decide, Or.inr ⟨3, rfl, dL_count_12, rfl⟩⟩, ?_⟩
      refine r_iconst dL_count_13 ?_
      exact r_ret_iw dL_count_14 rfl ⟨Nat.le_refl _, Nat.le_refl _⟩ ⟨rfl, rfl, rfl, Or.inr ⟨h0, rfl, rfl, rfl⟩⟩
abbrev mL_lost : MI := (yL_lost, cL_lost, 5, some .int)
def hL_lost : List (Nat × Nat × Nat × Nat) := [(0, 10, 13, 35)]
theorem fL_lost : MFH mL_lost hL_lost 4 := ⟨(tb_in 987 (by decide +kernel) rfl), (tb_in 82 (by decide +kernel) rfl), (tb_in 988 (by decide +kernel) rfl), ⟨by decide +kernel, by decide +kernel, by decide +kernel⟩⟩
set_option maxRecDepth 20000 in
theorem w_lost {l : Launch} {G : GG} {σ σ1 τ : ST} {π π1 : Nat → Option Nat} {a1 : Int} {a2 : Int} {er r : Int} (hM : CtX l G mX5_lost (7, 1, 6) [.ref 0, .int (iI a1), .int (iI a2)] 117 KD σ τ (RHO π) (KF er (some (.int (iI r))) σ1 τ π1) (KE1 er σ τ π)) (he : er = 0 ∨ er = 3) : CtH l G mL_lost hL_lost (8, 1, 6) [.ref 0, .int (iI a1), .int (iI a2), .ref 116] 117 KD σ τ (RHO π) (KW er (cE 3 9 9 er) r σ σ1 τ π π1) := by
  refine cth_intro (own := "ShapedRowsLaw") rfl (by decide +kernel) (Nat.le_of_ble_eq_true rfl) (L := _) rfl ?_
  refine rH_aload_n dL_lost_0 rfl (by rfl) ?_
  refine rH_iconst dL_lost_1 ?_
  refine rH_aload_n dL_lost_2 rfl (by rfl) ?_
  refine rH_iload_n dL_lost_3 rfl (by rfl) ?_
  refine rH_iload_n dL_lost_4 rfl (by rfl) ?_
  refine rH_callX (As := [.int (iI a1), .int (iI a2)]) (S := [.int (iI 0), .ref 116]) hM fX5_lost rfl qL_80 dL_lost_5 KD_0 ⟨Nat.le_refl _, Nat.le_of_ble_eq_true rfl⟩ ⟨Nat.le_refl _, Nat.le_refl _⟩ (Nat.le_of_ble_eq_true rfl) (fun h0 f => ?_) (fun h0 => ?_)
  · refine r_i2lw dL_lost_8 ?_
    refine r_lastore (k := 0) dL_lost_9 KD_116 (by rfl) (by decide) (by decide) ?_
    refine r_goto dL_lost_10 (tgt := 17) (by rfl) ?_
    refine r_iconst dL_lost_17 ?_
    exact r_ret_iw dL_lost_18 rfl ⟨Nat.le_refl _, Nat.le_refl _⟩ ⟨rfl, rfl, by rw [h0]; rfl, Or.inl ⟨h0, ⟨f, rfl⟩, rfl, rfl⟩⟩
  · rcases he with he | he
    · exact absurd he h0
    · subst he
      refine ⟨15, ⟨[], [], 0, 10, 13, 35, 4, rfl, ⟨by decide, by decide⟩, by decide, List.mem_of_getElem? (i := 2) rfl, lk_35, fun _ hz => absurd hz List.not_mem_nil, by decide, Or.inl ⟨dL_lost_13, rfl⟩⟩, ?_⟩
      refine r_iconst dL_lost_15 ?_
      exact r_ret_iw dL_lost_16 rfl ⟨Nat.le_refl _, Nat.le_refl _⟩ ⟨rfl, rfl, rfl, Or.inr ⟨h0, rfl, rfl, rfl⟩⟩
abbrev mL_against : MI := (yL_against, cL_against, 6, some .int)
def hL_against : List (Nat × Nat × Nat × Nat) := [(0, 12, 15, 35), (0, 12, 19, 13)]
theorem fL_against : MFH mL_against hL_against 5 := ⟨(tb_in 994 (by decide +kernel) rfl), (tb_in 82 (by decide +kernel) rfl), (tb_in 995 (by decide +kernel) rfl), ⟨by decide +kernel, by decide +kernel, by decide +kernel⟩⟩
set_option maxRecDepth 20000 in
theorem w_against {l : Launch} {G : GG} {σ σ1 τ : ST} {π π1 : Nat → Option Nat} {a1 : Int} {a2 : Int} {a3 : Int} {er r : Int} (hM : CtX l G mX5_against (7, 1, 6) [.ref 0, .int (iI a1), .int (iI a2), .int (iI a3)] 117 KD σ τ (RHO π) (KF er (some (.int (iI r))) σ1 τ π1) (KE1 er σ τ π)) (he : er = 0 ∨ er = 3 ∨ er = 1) : CtH l G mL_against hL_against (8, 1, 6) [.ref 0, .int (iI a1), .int (iI a2), .int (iI a3), .ref 116] 117 KD σ τ (RHO π) (KW er (cE 3 1 9 er) r σ σ1 τ π π1) := by
  refine cth_intro (own := "ShapedRowsLaw") rfl (by decide +kernel) (Nat.le_of_ble_eq_true rfl) (L := _) rfl ?_
  refine rH_aload dL_against_0 (by rfl) ?_
  refine rH_iconst dL_against_2 ?_
  refine rH_aload_n dL_against_3 rfl (by rfl) ?_
  refine rH_iload_n dL_against_4 rfl (by rfl) ?_
  refine rH_iload_n dL_against_5 rfl (by rfl) ?_
  refine rH_iload_n dL_against_6 rfl (by rfl) ?_
  refine rH_callX (As := [.int (iI a1), .int (iI a2), .int (iI a3)]) (S := [.int (iI 0), .ref 116]) hM fX5_against rfl qL_83 dL_against_7 KD_0 ⟨Nat.le_refl _, Nat.le_of_ble_eq_true rfl⟩ ⟨Nat.le_refl _, Nat.le_refl _⟩ (Nat.le_of_ble_eq_true rfl) (fun h0 f => ?_) (fun h0 => ?_)
  · refine r_i2lw dL_against_10 ?_
    refine r_lastore (k := 0) dL_against_11 KD_116 (by rfl) (by decide) (by decide) ?_
    refine r_goto dL_against_12 (tgt := 23) (by rfl) ?_
    refine r_iconst dL_against_23 ?_
    exact r_ret_iw dL_against_24 rfl ⟨Nat.le_refl _, Nat.le_refl _⟩ ⟨rfl, rfl, by rw [h0]; rfl, Or.inl ⟨h0, ⟨f, rfl⟩, rfl, rfl⟩⟩
  · rcases he with he | he | he
    · exact absurd he h0
    · subst he
      refine ⟨17, ⟨[], [(0, 12, 19, 13)], 0, 12, 15, 35, 5, rfl, ⟨by decide, by decide⟩, by decide, List.mem_of_getElem? (i := 2) rfl, lk_35, fun _ hz => absurd hz List.not_mem_nil, by decide, Or.inl ⟨dL_against_15, rfl⟩⟩, ?_⟩
      refine r_iconst dL_against_17 ?_
      exact r_ret_iw dL_against_18 rfl ⟨Nat.le_refl _, Nat.le_refl _⟩ ⟨rfl, rfl, rfl, Or.inr ⟨h0, rfl, rfl, rfl⟩⟩
    · subst he
      refine ⟨21, ⟨[(0, 12, 15, 35)], [], 0, 12, 19, 13, 5, rfl, ⟨by decide, by decide⟩, by decide, List.mem_of_getElem? (i := 0) rfl, lk_13, List.forall_mem_cons.mpr ⟨⟨by decide, ep_35⟩, fun _ hz => absurd hz List.not_mem_nil⟩, by decide, Or.inl ⟨dL_against_19, rfl⟩⟩, ?_⟩
      refine r_iconst dL_against_21 ?_
      exact r_ret_iw dL_against_22 rfl ⟨Nat.le_refl _, Nat.le_refl _⟩ ⟨rfl, rfl, rfl, Or.inr ⟨h0, rfl, rfl, rfl⟩⟩
abbrev mL_find : MI := (yL_find, cL_find, 6, some .int)
def hL_find : List (Nat × Nat × Nat × Nat) := [(0, 12, 15, 35), (0, 12, 19, 13)]
theorem fL_find : MFH mL_find hL_find 5 := ⟨(tb_in 1001 (by decide +kernel) rfl), (tb_in 82 (by decide +kernel) rfl), (tb_in 1002 (by decide +kernel) rfl), ⟨by decide +kernel, by decide +kernel, by decide +kernel⟩⟩
set_option maxRecDepth 20000 in
theorem w_find {l : Launch} {G : GG} {σ σ1 τ : ST} {π π1 : Nat → Option Nat} {a1 : Int} {a2 : Int} {a3 : Int} {er r : Int} (hM : CtX l G mX5_find (7, 1, 6) [.ref 0, .int (iI a1), .int (iI a2), .int (iI a3)] 117 KD σ τ (RHO π) (KF er (some (.int (iI r))) σ1 τ π1) (KE1 er σ τ π)) (he : er = 0 ∨ er = 3 ∨ er = 1) : CtH l G mL_find hL_find (8, 1, 6) [.ref 0, .int (iI a1), .int (iI a2), .int (iI a3), .ref 116] 117 KD σ τ (RHO π) (KW er (cE 3 1 9 er) r σ σ1 τ π π1) := by
  refine cth_intro (own := "ShapedRowsLaw") rfl (by decide +kernel) (Nat.le_of_ble_eq_true rfl) (L := _) rfl ?_
  refine rH_aload dL_find_0 (by rfl) ?_
  refine rH_iconst dL_find_2 ?_
  refine rH_aload_n dL_find_3 rfl (by rfl) ?_
  refine rH_iload_n dL_find_4 rfl (by rfl) ?_
  refine rH_iload_n dL_find_5 rfl (by rfl) ?_
  refine rH_iload_n dL_find_6 rfl (by rfl) ?_
  refine rH_callX (As := [.int (iI a1), .int (iI a2), .int (iI a3)]) (S := [.int (iI 0), .ref 116]) hM fX5_find rfl qL_86 dL_find_7 KD_0 ⟨Nat.le_refl _, Nat.le_of_ble_eq_true rfl⟩ ⟨Nat.le_refl _, Nat.le_refl _⟩ (Nat.le_of_ble_eq_true rfl) (fun h0 f => ?_) (fun h0 => ?_)
  · refine r_i2lw dL_find_10 ?_
    refine r_lastore (k := 0) dL_find_11 KD_116 (by rfl) (by decide) (by decide) ?_
    refine r_goto dL_find_12 (tgt := 23) (by rfl) ?_
    refine r_iconst dL_find_23 ?_
    exact r_ret_iw dL_find_24 rfl ⟨Nat.le_refl _, Nat.le_refl _⟩ ⟨rfl, rfl, by rw [h0]; rfl, Or.inl ⟨h0, ⟨f, rfl⟩, rfl, rfl⟩⟩
  · rcases he with he | he | he
    · exact absurd he h0
    · subst he
      refine ⟨17, ⟨[], [(0, 12, 19, 13)], 0, 12, 15, 35, 5, rfl, ⟨by decide, by decide⟩, by decide, List.mem_of_getElem? (i := 2) rfl, lk_35, fun _ hz => absurd hz List.not_mem_nil, by decide, Or.inl ⟨dL_find_15, rfl⟩⟩, ?_⟩
      refine r_iconst dL_find_17 ?_
      exact r_ret_iw dL_find_18 rfl ⟨Nat.le_refl _, Nat.le_refl _⟩ ⟨rfl, rfl, rfl, Or.inr ⟨h0, rfl, rfl, rfl⟩⟩
    · subst he
      refine ⟨21, ⟨[(0, 12, 15, 35)], [], 0, 12, 19, 13, 5, rfl, ⟨by decide, by decide⟩, by decide, List.mem_of_getElem? (i := 0) rfl, lk_13, List.forall_mem_cons.mpr ⟨⟨by decide, ep_35⟩, fun _ hz => absurd hz List.not_mem_nil⟩, by decide, Or.inl ⟨dL_find_19, rfl⟩⟩, ?_⟩
      refine r_iconst dL_find_21 ?_
      exact r_ret_iw dL_find_22 rfl ⟨Nat.le_refl _, Nat.le_refl _⟩ ⟨rfl, rfl, rfl, Or.inr ⟨h0, rfl, rfl, rfl⟩⟩
