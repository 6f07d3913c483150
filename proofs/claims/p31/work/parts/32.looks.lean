/-! p31: the class's looks behind a look; the law's small methods -/
set_option maxRecDepth 20000 in
theorem qc_L_7 : Jvm.Cond.constant "ShapedRowsLaw" 7 2147483647 ∈ TBg := (tb_in 549 (by decide +kernel) rfl)
theorem cz_of {l : Launch} {G : GG} {X : MI} {dm : Nat × Nat × Nat} {as : List Value} {π π1 : Nat → Option Nat} {σ σ0 τ τ1 : ST} {f : Nat → Int} {v0 v1 : Option Value} {P : (Nat → Int) → Prop} (hv : v0 = v1) (c : Ct l G X dm as 110 KD σ0 τ (RHO π) (KSP v0 (sr σ 15 f) τ1 π1 P)) : Ct l G X dm as 110 KD σ0 τ (RHO π) (KSP v1 σ τ1 π1 P) :=
  Ct.mono (fun v n kd σ' τ' ρ' h => by
    obtain ⟨h1, h2, h3, ⟨g, h4, h5⟩, h6, h7⟩ := h
    exact ⟨h1.trans hv, h2, h3, ⟨g, h4, by rw [h5, sr_sr]⟩, h6, h7⟩) c
theorem cz_kq {l : Launch} {G : GG} {X : MI} {dm : Nat × Nat × Nat} {as : List Value} {π : Nat → Option Nat} {σ τ : ST} {f : Nat → Int} {v0 v1 : Option Value} (hv : v0 = v1) (c : Ct l G X dm as 110 KD (sr σ 15 f) τ (RHO π) (KQ v0 110 KD (sr σ 15 f) τ (RHO π))) : Ct l G X dm as 110 KD (sr σ 15 f) τ (RHO π) (KSP v1 σ τ π (fun _ => True)) :=
  Ct.mono (fun v n kd σ' τ' ρ' h => by
    obtain ⟨h1, h2, h3, h4, h5, h6⟩ := h
    exact ⟨h1.trans hv, h2, h3, ⟨f, trivial, h4⟩, h5, h6⟩) c
theorem cz_count {l : Launch} {G : GG} {π : Nat → Option Nat} {σ τ : ST} {f : Nat → Int} (hI : CI σ) (w x : Int) (h0 : 0 ≤ w ∧ w < 10) (hx : ctP σ w = x) : Ct l G mX5_count (5, 0, 0) [.ref 0, .int (iI w)] 110 KD (sr σ 15 f) τ (RHO π) (KSP (some (.int (iI x))) σ τ π (fun _ => True)) := by
  subst hx
  exact cz_of (by rw [ctP_E (E_sr σ f)]) (ct_X5_count (CI_sr hI) w h0)
theorem cz_shape {l : Launch} {G : GG} {π : Nat → Option Nat} {σ τ : ST} {f : Nat → Int} (hI : CI σ) (s w x : Int) (h0 : 0 ≤ s ∧ s < σ 2 0) (h1 : 0 ≤ w ∧ w < 6) (hx : shP σ s.toNat w = x) : Ct l G mX5_shape (4, 0, 0) [.ref 0, .int (iI s), .int (iI w)] 110 KD (sr σ 15 f) τ (RHO π) (KSP (some (.int (iI x))) σ τ π (fun _ => True)) := by
  subst hx
  exact cz_of (by rw [shP_E (E_sr σ f)]) (ct_X5_shape (CI_sr hI) s w (by rw [sr_2]; exact h0) h1)
theorem cz_row {l : Launch} {G : GG} {π : Nat → Option Nat} {σ τ : ST} {f : Nat → Int} (hI : CI σ) (r w x : Int) (h0 : 0 ≤ r ∧ r < σ 10 0) (h1 : 0 ≤ w ∧ w < 6) (hx : roP σ r.toNat w = x) : Ct l G mX5_row (5, 0, 0) [.ref 0, .int (iI r), .int (iI w)] 110 KD (sr σ 15 f) τ (RHO π) (KSP (some (.int (iI x))) σ τ π (fun _ => True)) := by
  subst hx
  exact cz_of (by rw [roP_E (E_sr σ f)]) (ct_X5_row (CI_sr hI) r w (by rw [sr_10]; exact h0) h1)
theorem cz_lost {l : Launch} {G : GG} {π : Nat → Option Nat} {σ τ : ST} {f : Nat → Int} (hI : CI σ) (r s x : Int) (h0 : 0 ≤ r ∧ r < σ 10 0) (h1 : σ 2 1 ≤ s ∧ s < σ 2 0) (hx : lsC σ (lsV σ r.toNat s.toNat) r.toNat (σ 7 (σ 11 r.toNat).toNat).toNat = x) : Ct l G mX5_lost (4, 0, 0) [.ref 0, .int (iI r), .int (iI s)] 110 KD (sr σ 15 f) τ (RHO π) (KSP (some (.int (iI x))) σ τ π (fun _ => True)) := by
  subst hx
  exact cz_of (by rw [lsC_E (E_sr σ f), lsV_E (E_sr σ f), sr_7, sr_11]) (ct_X5_lost (CI_sr hI) r s (by rw [sr_10]; exact h0) (by rw [sr_2]; exact h1))
theorem cz_against {l : Launch} {G : GG} {π : Nat → Option Nat} {σ τ : ST} {f : Nat → Int} (hI : CI σ) (r s a x : Int) (h0 : 0 ≤ r ∧ r < σ 10 0) (h1 : σ 2 1 ≤ s ∧ s < σ 2 0) (h2 : 0 ≤ a ∧ a < 8) (hx : refu σ r.toNat s.toNat a = x) : Ct l G mX5_against (4, 0, 0) [.ref 0, .int (iI r), .int (iI s), .int (iI a)] 110 KD (sr σ 15 f) τ (RHO π) (KSP (some (.int (iI x))) σ τ π (fun _ => True)) := by
  subst hx
  exact cz_of (by rw [refu_E (E_sr σ f)]) (ct_X5_against (CI_sr hI) r s a (by rw [sr_10]; exact h0) (by rw [sr_2]; exact h1) h2)
theorem cz_find {l : Launch} {G : GG} {π : Nat → Option Nat} {σ τ : ST} {f : Nat → Int} (hI : CI σ) (s a y x : Int) (h0 : σ 2 1 ≤ s ∧ s < σ 2 0) (h1 : 0 ≤ a ∧ a < 8) (h2 : 0 ≤ y ∧ y ≤ 99999) (hx : mskF σ s.toNat a y (σ 10 0).toNat = x) : Ct l G mX5_find (5, 0, 0) [.ref 0, .int (iI s), .int (iI a), .int (iI y)] 110 KD (sr σ 15 f) τ (RHO π) (KSP (some (.int (iI x))) σ τ π (fun _ => True)) := by
  subst hx
  exact cz_of (by rw [mskF_E (E_sr σ f), sr_10]) (ct_X5_find (CI_sr hI) s a y (by rw [sr_2]; exact h0) h1 h2)
theorem cz_read {l : Launch} {G : GG} {π : Nat → Option Nat} {σ τ : ST} {f : Nat → Int} (hI : CI σ) (r s a x : Int) (h0 : 0 ≤ r ∧ r < σ 10 0) (h1 : σ 2 1 ≤ s ∧ s < σ 2 0) (h2 : 0 ≤ a ∧ a < 8) (hx : vRd σ r.toNat s.toNat a = x) : Ct l G mX5_read (4, 0, 0) [.ref 0, .int (iI r), .int (iI s), .int (iI a)] 110 KD (sr σ 15 f) τ (RHO π) (KSP (some (.int (iI x))) σ τ π (fun _ => True)) := by
  subst hx
  exact cz_of (by rw [vRd_E (E_sr σ f)]) (ct_X5_read (CI_sr hI) r s a (by rw [sr_10]; exact h0) (by rw [sr_2]; exact h1) h2)
theorem cz_freshShare {l : Launch} {G : GG} {π : Nat → Option Nat} {σ τ : ST} {f : Nat → Int} (hI : CI σ) : Ct l G mX5_freshShare (4, 0, 0) [.ref 0] 110 KD (sr σ 15 f) τ (RHO π) (KSP (some (.double (frS σ))) σ τ π (fun _ => True)) :=
  cz_kq (by rw [frS_E (E_sr σ f)]) (ct_X5_freshShare (CI_sr hI))
theorem cz_digest {l : Launch} {G : GG} {π : Nat → Option Nat} {σ τ : ST} {f : Nat → Int} (hI : CI σ) (hT : TI σ) : Ct l G mX5_digest (6, 0, 0) [.ref 0] 110 KD (sr σ 15 f) τ (RHO π) (KSP (some (.long (jJ (digF σ)))) σ τ π (fun _ => True)) :=
  cz_of (by rw [digF_E (E_sr σ f)]) (ct_X5_digest (CI_sr hI) (TI_sr hT))
section Rows32
variable {l : Launch} {G : GG} {own : String} {X : MI} {dm : Nat × Nat × Nat} {K : KK} {KE : KX} {n0 pc : Nat} {L : List (Option Value)} {S : List Value} {σ τ : ST} {π : Nat → Option Nat} {ce sl : Nat}
theorem r_retK {e : Int} (hd : decode X.2.1 pc = .ok (.ireturn, 1)) (hty : X.2.2.2 = some .boolean) (hcs : ce ≤ dm.2.1 ∧ sl ≤ dm.2.2) (h01 : e = 0 ∨ e = 1) (hK : K (some (.int (iI e))) 110 KD σ τ (RHO π)) : WP l G own X dm K KE n0 pc L [.int (iI e)] 110 KD σ τ (RHO π) ce sl :=
  r_ret (v := some (.int (iI e))) hK (fun w h => by cases h; rfl) hcs (Or.inl ⟨_, rfl, rfl, hd, _, hty, by rcases h01 with rfl | rfl <;> decide⟩)
theorem r_callK3 {Y : MI} {d' idx : Nat} {v1 v2 v3 : Value} {K1 : KK} (hM : Ct l G Y (d', 0, 0) [v1, v2, v3] 110 KD σ τ (RHO π) K1) (hm : MFS Y 3) (hl : Cond.methodLink own idx Y.1 ∈ TBg) (hd : decode X.2.1 pc = .ok (.invokestatic idx, 3)) (hdm : d' + 1 ≤ dm.1 ∧ Y.2.2.1 ≤ 18) (hcs : ce ≤ dm.2.1 ∧ sl ≤ dm.2.2) (hrest : (S.map (fun v => v.category)).sum ≤ 8) (hK : ∀ v n kd σ τ ρ, K1 v n kd σ τ ρ → n = 110 ∧ kd = KD) (kk : ∀ v σ' τ' ρ', K1 v 110 KD σ' τ' ρ' → WP l G own X dm K KE n0 (pc + 3) L (v.toList ++ S) 110 KD σ' τ' ρ' ce sl) : WP l G own X dm K KE n0 pc L (v3 :: v2 :: v1 :: S) 110 KD σ τ (RHO π) ce sl := by
  intro ad0 ad p9 e R s m args below meth c H locs ls Z C ha hH hS hL
  obtain ⟨hx, hb, hml, hown, hts, hlk, henv, hR, -⟩ := id C
  refine w_call (K1 := K1) (ad := ad) (n := 110) (rest := S.map (trv ad)) (va_runS (As := [trv ad v1, trv ad v2, trv ad v3]) ⟨hx, hb, hml, hown, hts⟩ (hM ad) (csB hts hm hl hR hdm) ⟨ct_blind, fun U hU hW => ⟨rfl, by rw [hU]; exact hH, env_in henv hS hU hW⟩⟩ rfl rfl hL.1 rfl (lv_room (cats_tr hrest)) hd ⟨Nat.le_trans hcs.1 hR.2.2.1, Nat.le_trans hcs.2 hR.2.2.2⟩) hS (fun v ad' n' kd' σ' τ' ρ' H1 locs1 hK1 ha' hH1 hS1 hsc => ?_)
  obtain ⟨rfl, rfl⟩ := hK _ _ _ _ _ _ hK1
  have e1 : (v.map (trv ad')).toList ++ S.map (trv ad) = (v.toList ++ S).map (trv ad) := by
    cases v with
    | none => rfl
    | some w => rw [Option.map_some, trv_ad ha' (hsc w rfl)]; rfl
  rw [e1]
  exact kk v σ' τ' ρ' hK1 ad0 ad p9 e R s m args below meth c H1 locs1 ls Z C ha (hH1.ad ha') hS1 hL
theorem r_callK5 {Y : MI} {d' idx : Nat} {v1 v2 v3 v4 v5 : Value} {K1 : KK} (hM : Ct l G Y (d', 0, 0) [v1, v2, v3, v4, v5] 110 KD σ τ (RHO π) K1) (hm : MFS Y 5) (hl : Cond.methodLink own idx Y.1 ∈ TBg) (hd : decode X.2.1 pc = .ok (.invokestatic idx, 3)) (hdm : d' + 1 ≤ dm.1 ∧ Y.2.2.1 ≤ 18) (hcs : ce ≤ dm.2.1 ∧ sl ≤ dm.2.2) (hrest : (S.map (fun v => v.category)).sum ≤ 8) (hK : ∀ v n kd σ τ ρ, K1 v n kd σ τ ρ → n = 110 ∧ kd = KD) (kk : ∀ v σ' τ' ρ', K1 v 110 KD σ' τ' ρ' → WP l G own X dm K KE n0 (pc + 3) L (v.toList ++ S) 110 KD σ' τ' ρ' ce sl) : WP l G own X dm K KE n0 pc L (v5 :: v4 :: v3 :: v2 :: v1 :: S) 110 KD σ τ (RHO π) ce sl := by
  intro ad0 ad p9 e R s m args below meth c H locs ls Z C ha hH hS hL
  obtain ⟨hx, hb, hml, hown, hts, hlk, henv, hR, -⟩ := id C
  refine w_call (K1 := K1) (ad := ad) (n := 110) (rest := S.map (trv ad)) (va_runS (As := [trv ad v1, trv ad v2, trv ad v3, trv ad v4, trv ad v5]) ⟨hx, hb, hml, hown, hts⟩ (hM ad) (csB hts hm hl hR hdm) ⟨ct_blind, fun U hU hW => ⟨rfl, by rw [hU]; exact hH, env_in henv hS hU hW⟩⟩ rfl rfl hL.1 rfl (lv_room (cats_tr hrest)) hd ⟨Nat.le_trans hcs.1 hR.2.2.1, Nat.le_trans hcs.2 hR.2.2.2⟩) hS (fun v ad' n' kd' σ' τ' ρ' H1 locs1 hK1 ha' hH1 hS1 hsc => ?_)
  obtain ⟨rfl, rfl⟩ := hK _ _ _ _ _ _ hK1
  have e1 : (v.map (trv ad')).toList ++ S.map (trv ad) = (v.toList ++ S).map (trv ad) := by
    cases v with
    | none => rfl
    | some w => rw [Option.map_some, trv_ad ha' (hsc w rfl)]; rfl
  rw [e1]
  exact kk v σ' τ' ρ' hK1 ad0 ad p9 e R s m args below meth c H1 locs1 ls Z C ha (hH1.ad ha') hS1 hL
end Rows32
set_option maxRecDepth 100000 in
set_option maxHeartbeats 4000000 in
theorem ct_L_low {l : Launch} {G : GG} {π : Nat → Option Nat} {σ τ : ST} (v n : Int) (h0 : 0 < n) (h1 : n < 2147483648) : Ct l G mL_low (0, 0, 0) [.int (iI v), .int (iI n)] 110 KD σ τ (RHO π) (KQ (some (.int (iI (lowI v n)))) 110 KD σ τ (RHO π)) := by
  have q := and_31 v
  refine ct_intro (own := "ShapedRowsLaw") rfl (by decide +kernel) (Nat.le_of_ble_eq_true rfl) (L := _) rfl ?_
  refine r_iload_n dL_low_0 rfl (by rfl) ?_
  refine r_ldc (a := 2147483647) qc_L_7 (by decide) dL_low_1 ?_
  refine r_iand dL_low_3 ?_
  refine r_iload_n dL_low_4 rfl (by rfl) ?_
  refine r_irem dL_low_5 (m := (andI v 2147483647).toNat) (d := n.toNat) (by omega) (by omega) (by omega) (by omega) (by omega) ?_
  exact r_ret_i dL_low_6 rfl ⟨Nat.zero_le _, Nat.zero_le _⟩ (by rfl) ⟨rfl, rfl, (by first | rfl | omega), rfl, rfl⟩
