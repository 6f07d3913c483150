/-! the class's face: contracts under which nothing is thrown -/
section Rows23
variable {l : Launch} {G : GG} {own : String} {X : MI} {dm : Nat × Nat × Nat} {K : KK} {KE : KX} {n0 pc : Nat} {L : List (Option Value)} {S : List Value} {σ τ : ST} {π : Nat → Option Nat} {ce sl : Nat}
theorem r_callZ0 {Y : MI} {d' idx ci p : Nat} {v0 : Option Value} {σ1 τ1 : ST} {π1 : Nat → Option Nat} {P : (Nat → Int) → Prop} (hM : Ct l G Y (d', 0, 0) [.ref p] 110 KD σ τ (RHO π) (KSP v0 σ1 τ1 π1 P)) (hm : MFV Y ci 0) (hl : Cond.methodLink own idx Y.1 ∈ TBg) (hd : decode X.2.1 pc = .ok (.invokevirtual idx, 3)) (hk : KD p = (0, ci)) (hdm : d' + 1 ≤ dm.1 ∧ Y.2.2.1 ≤ 18) (hcs : ce ≤ dm.2.1 ∧ sl ≤ dm.2.2) (hrest : (S.map (fun v => v.category)).sum ≤ 8) (kk : ∀ f, P f → WP l G own X dm K KE n0 (pc + 3) L (v0.toList ++ S) 110 KD (sr σ1 15 f) τ1 (RHO π1) ce sl) : WP l G own X dm K KE n0 pc L (.ref p :: S) 110 KD σ τ (RHO π) ce sl := by
  intro ad0 ad p9 e R s m args below meth c H locs ls Z C ha hH hS hL
  obtain ⟨hx, hb, hml, hown, hts, hlk, henv, hR, -⟩ := id C
  refine w_call (K1 := KSP v0 σ1 τ1 π1 P) (ad := ad) (n := 110) (rest := S.map (trv ad)) (va_runV (C := Y.1.cls) (As := []) ⟨hx, hb, hml, hown, hts⟩ (hM ad) (cvW hts hm hl hR hdm) ⟨ct_blind, vrecv hm hH hk henv, fun U hU hW => ⟨rfl, by rw [hU]; exact hH, env_in henv hS hU hW⟩⟩ rfl rfl hL.1 rfl (lv_room (cats_tr hrest)) hd ⟨Nat.le_trans hcs.1 hR.2.2.1, Nat.le_trans hcs.2 hR.2.2.2⟩) hS (fun v ad' n' kd' σ' τ' ρ' H1 locs1 hK ha' hH1 hS1 hsc => ?_)
  obtain ⟨rfl, rfl, rfl, ⟨f, hf, rfl⟩, rfl, rfl⟩ := hK
  have e1 : (v.map (trv ad')).toList ++ S.map (trv ad) = (v.toList ++ S).map (trv ad) := by
    cases v with
    | none => rfl
    | some w => rw [Option.map_some, trv_ad ha' (hsc w rfl)]; rfl
  rw [e1]
  exact kk f hf ad0 ad p9 e R s m args below meth c H1 locs1 ls Z C ha (hH1.ad ha') hS1 hL

theorem r_callZ1 {Y : MI} {d' idx ci p : Nat} {v1 : Value} {v0 : Option Value} {σ1 τ1 : ST} {π1 : Nat → Option Nat} {P : (Nat → Int) → Prop} (hM : Ct l G Y (d', 0, 0) [.ref p, v1] 110 KD σ τ (RHO π) (KSP v0 σ1 τ1 π1 P)) (hm : MFV Y ci 1) (hl : Cond.methodLink own idx Y.1 ∈ TBg) (hd : decode X.2.1 pc = .ok (.invokevirtual idx, 3)) (hk : KD p = (0, ci)) (hdm : d' + 1 ≤ dm.1 ∧ Y.2.2.1 ≤ 18) (hcs : ce ≤ dm.2.1 ∧ sl ≤ dm.2.2) (hrest : (S.map (fun v => v.category)).sum ≤ 8) (kk : ∀ f, P f → WP l G own X dm K KE n0 (pc + 3) L (v0.toList ++ S) 110 KD (sr σ1 15 f) τ1 (RHO π1) ce sl) : WP l G own X dm K KE n0 pc L (v1 :: .ref p :: S) 110 KD σ τ (RHO π) ce sl := by
  intro ad0 ad p9 e R s m args below meth c H locs ls Z C ha hH hS hL
  obtain ⟨hx, hb, hml, hown, hts, hlk, henv, hR, -⟩ := id C
  refine w_call (K1 := KSP v0 σ1 τ1 π1 P) (ad := ad) (n := 110) (rest := S.map (trv ad)) (va_runV (C := Y.1.cls) (As := [trv ad v1]) ⟨hx, hb, hml, hown, hts⟩ (hM ad) (cvW hts hm hl hR hdm) ⟨ct_blind, vrecv hm hH hk henv, fun U hU hW => ⟨rfl, by rw [hU]; exact hH, env_in henv hS hU hW⟩⟩ rfl rfl hL.1 rfl (lv_room (cats_tr hrest)) hd ⟨Nat.le_trans hcs.1 hR.2.2.1, Nat.le_trans hcs.2 hR.2.2.2⟩) hS (fun v ad' n' kd' σ' τ' ρ' H1 locs1 hK ha' hH1 hS1 hsc => ?_)
  obtain ⟨rfl, rfl, rfl, ⟨f, hf, rfl⟩, rfl, rfl⟩ := hK
  have e1 : (v.map (trv ad')).toList ++ S.map (trv ad) = (v.toList ++ S).map (trv ad) := by
    cases v with
    | none => rfl
    | some w => rw [Option.map_some, trv_ad ha' (hsc w rfl)]; rfl
  rw [e1]
  exact kk f hf ad0 ad p9 e R s m args below meth c H1 locs1 ls Z C ha (hH1.ad ha') hS1 hL

theorem r_callZ2 {Y : MI} {d' idx ci p : Nat} {v1 v2 : Value} {v0 : Option Value} {σ1 τ1 : ST} {π1 : Nat → Option Nat} {P : (Nat → Int) → Prop} (hM : Ct l G Y (d', 0, 0) [.ref p, v1, v2] 110 KD σ τ (RHO π) (KSP v0 σ1 τ1 π1 P)) (hm : MFV Y ci 2) (hl : Cond.methodLink own idx Y.1 ∈ TBg) (hd : decode X.2.1 pc = .ok (.invokevirtual idx, 3)) (hk : KD p = (0, ci)) (hdm : d' + 1 ≤ dm.1 ∧ Y.2.2.1 ≤ 18) (hcs : ce ≤ dm.2.1 ∧ sl ≤ dm.2.2) (hrest : (S.map (fun v => v.category)).sum ≤ 8) (kk : ∀ f, P f → WP l G own X dm K KE n0 (pc + 3) L (v0.toList ++ S) 110 KD (sr σ1 15 f) τ1 (RHO π1) ce sl) : WP l G own X dm K KE n0 pc L (v2 :: v1 :: .ref p :: S) 110 KD σ τ (RHO π) ce sl := by
  intro ad0 ad p9 e R s m args below meth c H locs ls Z C ha hH hS hL
  obtain ⟨hx, hb, hml, hown, hts, hlk, henv, hR, -⟩ := id C
  refine w_call (K1 := KSP v0 σ1 τ1 π1 P) (ad := ad) (n := 110) (rest := S.map (trv ad)) (va_runV (C := Y.1.cls) (As := [trv ad v1, trv ad v2]) ⟨hx, hb, hml, hown, hts⟩ (hM ad) (cvW hts hm hl hR hdm) ⟨ct_blind, vrecv hm hH hk henv, fun U hU hW => ⟨rfl, by rw [hU]; exact hH, env_in henv hS hU hW⟩⟩ rfl rfl hL.1 rfl (lv_room (cats_tr hrest)) hd ⟨Nat.le_trans hcs.1 hR.2.2.1, Nat.le_trans hcs.2 hR.2.2.2⟩) hS (fun v ad' n' kd' σ' τ' ρ' H1 locs1 hK ha' hH1 hS1 hsc => ?_)
  obtain ⟨rfl, rfl, rfl, ⟨f, hf, rfl⟩, rfl, rfl⟩ := hK
  have e1 : (v.map (trv ad')).toList ++ S.map (trv ad) = (v.toList ++ S).map (trv ad) := by
    cases v with
    | none => rfl
    | some w => rw [Option.map_some, trv_ad ha' (hsc w rfl)]; rfl
  rw [e1]
  exact kk f hf ad0 ad p9 e R s m args below meth c H1 locs1 ls Z C ha (hH1.ad ha') hS1 hL

theorem r_callZ3 {Y : MI} {d' idx ci p : Nat} {v1 v2 v3 : Value} {v0 : Option Value} {σ1 τ1 : ST} {π1 : Nat → Option Nat} {P : (Nat → Int) → Prop} (hM : Ct l G Y (d', 0, 0) [.ref p, v1, v2, v3] 110 KD σ τ (RHO π) (KSP v0 σ1 τ1 π1 P)) (hm : MFV Y ci 3) (hl : Cond.methodLink own idx Y.1 ∈ TBg) (hd : decode X.2.1 pc = .ok (.invokevirtual idx, 3)) (hk : KD p = (0, ci)) (hdm : d' + 1 ≤ dm.1 ∧ Y.2.2.1 ≤ 18) (hcs : ce ≤ dm.2.1 ∧ sl ≤ dm.2.2) (hrest : (S.map (fun v => v.category)).sum ≤ 8) (kk : ∀ f, P f → WP l G own X dm K KE n0 (pc + 3) L (v0.toList ++ S) 110 KD (sr σ1 15 f) τ1 (RHO π1) ce sl) : WP l G own X dm K KE n0 pc L (v3 :: v2 :: v1 :: .ref p :: S) 110 KD σ τ (RHO π) ce sl := by
  intro ad0 ad p9 e R s m args below meth c H locs ls Z C ha hH hS hL
  obtain ⟨hx, hb, hml, hown, hts, hlk, henv, hR, -⟩ := id C
  refine w_call (K1 := KSP v0 σ1 τ1 π1 P) (ad := ad) (n := 110) (rest := S.map (trv ad)) (va_runV (C := Y.1.cls) (As := [trv ad v1, trv ad v2, trv ad v3]) ⟨hx, hb, hml, hown, hts⟩ (hM ad) (cvW hts hm hl hR hdm) ⟨ct_blind, vrecv hm hH hk henv, fun U hU hW => ⟨rfl, by rw [hU]; exact hH, env_in henv hS hU hW⟩⟩ rfl rfl hL.1 rfl (lv_room (cats_tr hrest)) hd ⟨Nat.le_trans hcs.1 hR.2.2.1, Nat.le_trans hcs.2 hR.2.2.2⟩) hS (fun v ad' n' kd' σ' τ' ρ' H1 locs1 hK ha' hH1 hS1 hsc => ?_)
  obtain ⟨rfl, rfl, rfl, ⟨f, hf, rfl⟩, rfl, rfl⟩ := hK
  have e1 : (v.map (trv ad')).toList ++ S.map (trv ad) = (v.toList ++ S).map (trv ad) := by
    cases v with
    | none => rfl
    | some w => rw [Option.map_some, trv_ad ha' (hsc w rfl)]; rfl
  rw [e1]
  exact kk f hf ad0 ad p9 e R s m args below meth c H1 locs1 ls Z C ha (hH1.ad ha') hS1 hL

theorem r_callZ4 {Y : MI} {d' idx ci p : Nat} {v1 v2 v3 v4 : Value} {v0 : Option Value} {σ1 τ1 : ST} {π1 : Nat → Option Nat} {P : (Nat → Int) → Prop} (hM : Ct l G Y (d', 0, 0) [.ref p, v1, v2, v3, v4] 110 KD σ τ (RHO π) (KSP v0 σ1 τ1 π1 P)) (hm : MFV Y ci 4) (hl : Cond.methodLink own idx Y.1 ∈ TBg) (hd : decode X.2.1 pc = .ok (.invokevirtual idx, 3)) (hk : KD p = (0, ci)) (hdm : d' + 1 ≤ dm.1 ∧ Y.2.2.1 ≤ 18) (hcs : ce ≤ dm.2.1 ∧ sl ≤ dm.2.2) (hrest : (S.map (fun v => v.category)).sum ≤ 8) (kk : ∀ f, P f → WP l G own X dm K KE n0 (pc + 3) L (v0.toList ++ S) 110 KD (sr σ1 15 f) τ1 (RHO π1) ce sl) : WP l G own X dm K KE n0 pc L (v4 :: v3 :: v2 :: v1 :: .ref p :: S) 110 KD σ τ (RHO π) ce sl := by
  intro ad0 ad p9 e R s m args below meth c H locs ls Z C ha hH hS hL
  obtain ⟨hx, hb, hml, hown, hts, hlk, henv, hR, -⟩ := id C
  refine w_call (K1 := KSP v0 σ1 τ1 π1 P) (ad := ad) (n := 110) (rest := S.map (trv ad)) (va_runV (C := Y.1.cls) (As := [trv ad v1, trv ad v2, trv ad v3, trv ad v4]) ⟨hx, hb, hml, hown, hts⟩ (hM ad) (cvW hts hm hl hR hdm) ⟨ct_blind, vrecv hm hH hk henv, fun U hU hW => ⟨rfl, by rw [hU]; exact hH, env_in henv hS hU hW⟩⟩ rfl rfl hL.1 rfl (lv_room (cats_tr hrest)) hd ⟨Nat.le_trans hcs.1 hR.2.2.1, Nat.le_trans hcs.2 hR.2.2.2⟩) hS (fun v ad' n' kd' σ' τ' ρ' H1 locs1 hK ha' hH1 hS1 hsc => ?_)
  obtain ⟨rfl, rfl, rfl, ⟨f, hf, rfl⟩, rfl, rfl⟩ := hK
  have e1 : (v.map (trv ad')).toList ++ S.map (trv ad) = (v.toList ++ S).map (trv ad) := by
    cases v with
    | none => rfl
    | some w => rw [Option.map_some, trv_ad ha' (hsc w rfl)]; rfl
  rw [e1]
  exact kk f hf ad0 ad p9 e R s m args below meth c H1 locs1 ls Z C ha (hH1.ad ha') hS1 hL

theorem r_callT1 {Y : MI} {d' idx : Nat} {v1 : Value} {v0 : Option Value} {σ1 τ1 : ST} {π1 : Nat → Option Nat} {P : (Nat → Int) → Prop} (hM : Ct l G Y (d', 0, 0) [v1] 110 KD σ τ (RHO π) (KSP v0 σ1 τ1 π1 P)) (hm : MFS Y 1) (hl : Cond.methodLink own idx Y.1 ∈ TBg) (hd : decode X.2.1 pc = .ok (.invokestatic idx, 3)) (hdm : d' + 1 ≤ dm.1 ∧ Y.2.2.1 ≤ 18) (hcs : ce ≤ dm.2.1 ∧ sl ≤ dm.2.2) (hrest : (S.map (fun v => v.category)).sum ≤ 8) (kk : ∀ f, P f → WP l G own X dm K KE n0 (pc + 3) L (v0.toList ++ S) 110 KD (sr σ1 15 f) τ1 (RHO π1) ce sl) : WP l G own X dm K KE n0 pc L (v1 :: S) 110 KD σ τ (RHO π) ce sl := by
  intro ad0 ad p9 e R s m args below meth c H locs ls Z C ha hH hS hL
  obtain ⟨hx, hb, hml, hown, hts, hlk, henv, hR, -⟩ := id C
  refine w_call (K1 := KSP v0 σ1 τ1 π1 P) (ad := ad) (n := 110) (rest := S.map (trv ad)) (va_runS (As := [trv ad v1]) ⟨hx, hb, hml, hown, hts⟩ (hM ad) (csB hts hm hl hR hdm) ⟨ct_blind, fun U hU hW => ⟨rfl, by rw [hU]; exact hH, env_in henv hS hU hW⟩⟩ rfl rfl hL.1 rfl (lv_room (cats_tr hrest)) hd ⟨Nat.le_trans hcs.1 hR.2.2.1, Nat.le_trans hcs.2 hR.2.2.2⟩) hS (fun v ad' n' kd' σ' τ' ρ' H1 locs1 hK ha' hH1 hS1 hsc => ?_)
  obtain ⟨rfl, rfl, rfl, ⟨f, hf, rfl⟩, rfl, rfl⟩ := hK
  have e1 : (v.map (trv ad')).toList ++ S.map (trv ad) = (v.toList ++ S).map (trv ad) := by
    cases v with
    | none => rfl
    | some w => rw [Option.map_some, trv_ad ha' (hsc w rfl)]; rfl
  rw [e1]
  exact kk f hf ad0 ad p9 e R s m args below meth c H1 locs1 ls Z C ha (hH1.ad ha') hS1 hL

theorem r_callT2 {Y : MI} {d' idx : Nat} {v1 v2 : Value} {v0 : Option Value} {σ1 τ1 : ST} {π1 : Nat → Option Nat} {P : (Nat → Int) → Prop} (hM : Ct l G Y (d', 0, 0) [v1, v2] 110 KD σ τ (RHO π) (KSP v0 σ1 τ1 π1 P)) (hm : MFS Y 2) (hl : Cond.methodLink own idx Y.1 ∈ TBg) (hd : decode X.2.1 pc = .ok (.invokestatic idx, 3)) (hdm : d' + 1 ≤ dm.1 ∧ Y.2.2.1 ≤ 18) (hcs : ce ≤ dm.2.1 ∧ sl ≤ dm.2.2) (hrest : (S.map (fun v => v.category)).sum ≤ 8) (kk : ∀ f, P f → WP l G own X dm K KE n0 (pc + 3) L (v0.toList ++ S) 110 KD (sr σ1 15 f) τ1 (RHO π1) ce sl) : WP l G own X dm K KE n0 pc L (v2 :: v1 :: S) 110 KD σ τ (RHO π) ce sl := by
  intro ad0 ad p9 e R s m args below meth c H locs ls Z C ha hH hS hL
  obtain ⟨hx, hb, hml, hown, hts, hlk, henv, hR, -⟩ := id C
  refine w_call (K1 := KSP v0 σ1 τ1 π1 P) (ad := ad) (n := 110) (rest := S.map (trv ad)) (va_runS (As := [trv ad v1, trv ad v2]) ⟨hx, hb, hml, hown, hts⟩ (hM ad) (csB hts hm hl hR hdm) ⟨ct_blind, fun U hU hW => ⟨rfl, by rw [hU]; exact hH, env_in henv hS hU hW⟩⟩ rfl rfl hL.1 rfl (lv_room (cats_tr hrest)) hd ⟨Nat.le_trans hcs.1 hR.2.2.1, Nat.le_trans hcs.2 hR.2.2.2⟩) hS (fun v ad' n' kd' σ' τ' ρ' H1 locs1 hK ha' hH1 hS1 hsc => ?_)
  obtain ⟨rfl, rfl, rfl, ⟨f, hf, rfl⟩, rfl, rfl⟩ := hK
  have e1 : (v.map (trv ad')).toList ++ S.map (trv ad) = (v.toList ++ S).map (trv ad) := by
    cases v with
    | none => rfl
    | some w => rw [Option.map_some, trv_ad ha' (hsc w rfl)]; rfl
  rw [e1]
  exact kk f hf ad0 ad p9 e R s m args below meth c H1 locs1 ls Z C ha (hH1.ad ha') hS1 hL

theorem r_callT3 {Y : MI} {d' idx : Nat} {v1 v2 v3 : Value} {v0 : Option Value} {σ1 τ1 : ST} {π1 : Nat → Option Nat} {P : (Nat → Int) → Prop} (hM : Ct l G Y (d', 0, 0) [v1, v2, v3] 110 KD σ τ (RHO π) (KSP v0 σ1 τ1 π1 P)) (hm : MFS Y 3) (hl : Cond.methodLink own idx Y.1 ∈ TBg) (hd : decode X.2.1 pc = .ok (.invokestatic idx, 3)) (hdm : d' + 1 ≤ dm.1 ∧ Y.2.2.1 ≤ 18) (hcs : ce ≤ dm.2.1 ∧ sl ≤ dm.2.2) (hrest : (S.map (fun v => v.category)).sum ≤ 8) (kk : ∀ f, P f → WP l G own X dm K KE n0 (pc + 3) L (v0.toList ++ S) 110 KD (sr σ1 15 f) τ1 (RHO π1) ce sl) : WP l G own X dm K KE n0 pc L (v3 :: v2 :: v1 :: S) 110 KD σ τ (RHO π) ce sl := by
  intro ad0 ad p9 e R s m args below meth c H locs ls Z C ha hH hS hL
  obtain ⟨hx, hb, hml, hown, hts, hlk, henv, hR, -⟩ := id C
  refine w_call (K1 := KSP v0 σ1 τ1 π1 P) (ad := ad) (n := 110) (rest := S.map (trv ad)) (va_runS (As := [trv ad v1, trv ad v2, trv ad v3]) ⟨hx, hb, hml, hown, hts⟩ (hM ad) (csB hts hm hl hR hdm) ⟨ct_blind, fun U hU hW => ⟨rfl, by rw [hU]; exact hH, env_in henv hS hU hW⟩⟩ rfl rfl hL.1 rfl (lv_room (cats_tr hrest)) hd ⟨Nat.le_trans hcs.1 hR.2.2.1, Nat.le_trans hcs.2 hR.2.2.2⟩) hS (fun v ad' n' kd' σ' τ' ρ' H1 locs1 hK ha' hH1 hS1 hsc => ?_)
  obtain ⟨rfl, rfl, rfl, ⟨f, hf, rfl⟩, rfl, rfl⟩ := hK
  have e1 : (v.map (trv ad')).toList ++ S.map (trv ad) = (v.toList ++ S).map (trv ad) := by
    cases v with
    | none => rfl
    | some w => rw [Option.map_some, trv_ad ha' (hsc w rfl)]; rfl
  rw [e1]
  exact kk f hf ad0 ad p9 e R s m args below meth c H1 locs1 ls Z C ha (hH1.ad ha') hS1 hL

theorem r_callT5 {Y : MI} {d' idx : Nat} {v1 v2 v3 v4 v5 : Value} {v0 : Option Value} {σ1 τ1 : ST} {π1 : Nat → Option Nat} {P : (Nat → Int) → Prop} (hM : Ct l G Y (d', 0, 0) [v1, v2, v3, v4, v5] 110 KD σ τ (RHO π) (KSP v0 σ1 τ1 π1 P)) (hm : MFS Y 5) (hl : Cond.methodLink own idx Y.1 ∈ TBg) (hd : decode X.2.1 pc = .ok (.invokestatic idx, 3)) (hdm : d' + 1 ≤ dm.1 ∧ Y.2.2.1 ≤ 18) (hcs : ce ≤ dm.2.1 ∧ sl ≤ dm.2.2) (hrest : (S.map (fun v => v.category)).sum ≤ 8) (kk : ∀ f, P f → WP l G own X dm K KE n0 (pc + 3) L (v0.toList ++ S) 110 KD (sr σ1 15 f) τ1 (RHO π1) ce sl) : WP l G own X dm K KE n0 pc L (v5 :: v4 :: v3 :: v2 :: v1 :: S) 110 KD σ τ (RHO π) ce sl := by
  intro ad0 ad p9 e R s m args below meth c H locs ls Z C ha hH hS hL
  obtain ⟨hx, hb, hml, hown, hts, hlk, henv, hR, -⟩ := id C
  refine w_call (K1 := KSP v0 σ1 τ1 π1 P) (ad := ad) (n := 110) (rest := S.map (trv ad)) (va_runS (As := [trv ad v1, trv ad v2, trv ad v3, trv ad v4, trv ad v5]) ⟨hx, hb, hml, hown, hts⟩ (hM ad) (csB hts hm hl hR hdm) ⟨ct_blind, fun U hU hW => ⟨rfl, by rw [hU]; exact hH, env_in henv hS hU hW⟩⟩ rfl rfl hL.1 rfl (lv_room (cats_tr hrest)) hd ⟨Nat.le_trans hcs.1 hR.2.2.1, Nat.le_trans hcs.2 hR.2.2.2⟩) hS (fun v ad' n' kd' σ' τ' ρ' H1 locs1 hK ha' hH1 hS1 hsc => ?_)
  obtain ⟨rfl, rfl, rfl, ⟨f, hf, rfl⟩, rfl, rfl⟩ := hK
  have e1 : (v.map (trv ad')).toList ++ S.map (trv ad) = (v.toList ++ S).map (trv ad) := by
    cases v with
    | none => rfl
    | some w => rw [Option.map_some, trv_ad ha' (hsc w rfl)]; rfl
  rw [e1]
  exact kk f hf ad0 ad p9 e R s m args below meth c H1 locs1 ls Z C ha (hH1.ad ha') hS1 hL

end Rows23
set_option maxRecDepth 100000 in
set_option maxHeartbeats 4000000 in
theorem ct_X5_read {l : Launch} {G : GG} {π : Nat → Option Nat} {σ τ : ST} (hI : CI σ) (r : Int) (s : Int) (a : Int) (hE0 : 0 ≤ r ∧ r < σ 10 0) (hE1 : σ 2 1 ≤ s ∧ s < σ 2 0) (hE2 : 0 ≤ a ∧ a < 8) : Ct l G mX5_read (4, 0, 0) [.ref 0, .int (iI r), .int (iI s), .int (iI a)] 110 KD σ τ (RHO π) (KSP (some (.int (iI (vRd σ r.toNat s.toNat a)))) σ τ π (fun _ => True)) := by
  have hz := hI.sz
  have hr0 := hI.ro
  have hm0 := hI.mk
  refine ct_intro (own := "ShapedRows") rfl (by decide +kernel) (Nat.le_of_ble_eq_true rfl) (L := _) rfl ?_
  refine r_aload_n dX5_read_0 rfl (by rfl) ?_
  refine r_get_r kX5_10 dX5_read_1 KD_0 (RHO_0_0 _) ?_
  refine r_get_r kX5_96 dX5_read_4 KD_1 (RHO_1_1 _) ?_
  refine r_iload_n dX5_read_7 rfl (by rfl) ?_
  refine r_callV1 (ct_X1_isThere hI _ (by first | omega | (unfold inR; omega))) fX1_isThere qX5_124 dX5_read_8 KD_10 (by decide) ⟨Nat.zero_le _, Nat.zero_le _⟩ (Nat.le_of_ble_eq_true rfl) ?_
  refine r_ifeq_b (tgt := 28) dX5_read_11 (by decide) (fun c_1 => ?_) (fun c_1 => ?_)
  · exfalso; omega
  · refine r_aload_n dX5_read_14 rfl (by rfl) ?_
    refine r_get_r kX5_10 dX5_read_15 KD_0 (RHO_0_0 _) ?_
    refine r_get_r kX5_44 dX5_read_18 KD_1 (RHO_1_0 _) ?_
    refine r_iload_n dX5_read_21 rfl (by rfl) ?_
    refine r_callV1 (ct_X2_isUsable hI _ (by first | omega | (unfold inR; omega))) fX2_isUsable qX5_116 dX5_read_22 KD_2 (by decide) ⟨Nat.zero_le _, Nat.zero_le _⟩ (Nat.le_of_ble_eq_true rfl) ?_
    refine r_ifne_b (tgt := 38) dX5_read_25 (by decide) (fun c_2 => ?_) (fun c_2 => ?_)
    · refine r_iload_n dX5_read_38 rfl (by rfl) ?_
      refine r_callS1 (ct_X5_isLetter _ (by first | omega | (unfold inR; omega))) fX5_isLetter qX5_30 dX5_read_39 (by decide) ⟨Nat.zero_le _, Nat.zero_le _⟩ (Nat.le_of_ble_eq_true rfl) ?_
      refine r_ifne_b (tgt := 55) dX5_read_42 (by decide) (fun c_3 => ?_) (fun c_3 => ?_)
      · refine r_aload_n dX5_read_55 rfl (by rfl) ?_
        refine r_get_r kX5_10 dX5_read_56 KD_0 (RHO_0_0 _) ?_
        refine r_iload_n dX5_read_59 rfl (by rfl) ?_
        refine r_iload_n dX5_read_60 rfl (by rfl) ?_
        refine r_iload_n dX5_read_61 rfl (by rfl) ?_
        refine r_callY3 (ct_X3_valueRead hI _ (by first | omega | (unfold inR; omega)) (by first | omega | (unfold inR; omega)) _ (by first | omega | (unfold inR; omega)) (by first | omega | (unfold inR; omega)) _ (by first | omega | (unfold inR; omega))) fX3_valueRead qX5_208 dX5_read_62 KD_1 (by decide) ⟨Nat.zero_le _, Nat.zero_le _⟩ (Nat.le_of_ble_eq_true rfl) (fun f_4 hf_4 => ?_)
        exact r_ret_is dX5_read_65 rfl ⟨Nat.zero_le _, Nat.zero_le _⟩ (by first | rfl | omega | (split <;> omega)) (by first | rfl | exact (sr_self _ _).symm) (by exact trivial)
      · exfalso; omega
    · exfalso; omega

set_option maxRecDepth 100000 in
set_option maxHeartbeats 4000000 in
theorem ct_X5_shape {l : Launch} {G : GG} {π : Nat → Option Nat} {σ τ : ST} (hI : CI σ) (s : Int) (w : Int) (hE0 : 0 ≤ s ∧ s < σ 2 0) (hE1 : 0 ≤ w ∧ w < 6) : Ct l G mX5_shape (4, 0, 0) [.ref 0, .int (iI s), .int (iI w)] 110 KD σ τ (RHO π) (KSP (some (.int (iI (shP σ s.toNat w)))) σ τ π (fun _ => True)) := by
  have hz := hI.sz
  have hr0 := hI.ro
  have hm0 := hI.mk
  refine ct_intro (own := "ShapedRows") rfl (by decide +kernel) (Nat.le_of_ble_eq_true rfl) (L := _) rfl ?_
  refine r_aload_n dX5_shape_0 rfl (by rfl) ?_
  refine r_get_r kX5_10 dX5_shape_1 KD_0 (RHO_0_0 _) ?_
  refine r_get_r kX5_44 dX5_shape_4 KD_1 (RHO_1_0 _) ?_
  refine r_iload_n dX5_shape_7 rfl (by rfl) ?_
  refine r_callV1 (ct_X2_isThere hI _ (by first | omega | (unfold inR; omega))) fX2_isThere qX5_216 dX5_shape_8 KD_2 (by decide) ⟨Nat.zero_le _, Nat.zero_le _⟩ (Nat.le_of_ble_eq_true rfl) ?_
  refine r_ifne_b (tgt := 24) dX5_shape_11 (by decide) (fun c_1 => ?_) (fun c_1 => ?_)
  · refine r_iload_n dX5_shape_24 rfl (by rfl) ?_
    refine r_if_lt (tgt := 34) dX5_shape_25 (by decide) (by unfold inR; omega) (fun c_2 => ?_) (fun c_2 => ?_)
    · exfalso; omega
    · refine r_iload_n dX5_shape_28 rfl (by rfl) ?_
      refine r_bipush dX5_shape_29 (by decide) ?_
      refine r_icmp_lt (tgt := 44) dX5_shape_31 (by decide) (by unfold inR; omega) (by unfold inR; omega) (fun c_3 => ?_) (fun c_3 => ?_)
      · refine r_aload_n dX5_shape_44 rfl (by rfl) ?_
        refine r_get_r kX5_10 dX5_shape_45 KD_0 (RHO_0_0 _) ?_
        refine r_iload_n dX5_shape_48 rfl (by rfl) ?_
        refine r_iload_n dX5_shape_49 rfl (by rfl) ?_
        refine r_callV2 (ct_X3_shapeProperty hI _ (by first | omega | (unfold inR; omega)) (by first | omega | (unfold inR; omega)) _ (by first | omega | (unfold inR; omega)) (by first | omega | (unfold inR; omega))) fX3_shapeProperty qX5_226 dX5_shape_50 KD_1 (by decide) ⟨Nat.zero_le _, Nat.zero_le _⟩ (Nat.le_of_ble_eq_true rfl) ?_
        exact r_ret_is dX5_shape_53 rfl ⟨Nat.zero_le _, Nat.zero_le _⟩ (by first | rfl | omega | (split <;> omega)) (by first | rfl | exact (sr_self _ _).symm) (by exact trivial)
      · exfalso; omega
  · exfalso; omega

set_option maxRecDepth 100000 in
set_option maxHeartbeats 4000000 in
theorem ct_X5_row {l : Launch} {G : GG} {π : Nat → Option Nat} {σ τ : ST} (hI : CI σ) (r : Int) (w : Int) (hE0 : 0 ≤ r ∧ r < σ 10 0) (hE1 : 0 ≤ w ∧ w < 6) : Ct l G mX5_row (5, 0, 0) [.ref 0, .int (iI r), .int (iI w)] 110 KD σ τ (RHO π) (KSP (some (.int (iI (roP σ r.toNat w)))) σ τ π (fun _ => True)) := by
  have hz := hI.sz
  have hr0 := hI.ro
  have hm0 := hI.mk
  refine ct_intro (own := "ShapedRows") rfl (by decide +kernel) (Nat.le_of_ble_eq_true rfl) (L := _) rfl ?_
  refine r_aload_n dX5_row_0 rfl (by rfl) ?_
  refine r_get_r kX5_10 dX5_row_1 KD_0 (RHO_0_0 _) ?_
  refine r_get_r kX5_96 dX5_row_4 KD_1 (RHO_1_1 _) ?_
  refine r_iload_n dX5_row_7 rfl (by rfl) ?_
  refine r_callV1 (ct_X1_isThere hI _ (by first | omega | (unfold inR; omega))) fX1_isThere qX5_124 dX5_row_8 KD_10 (by decide) ⟨Nat.zero_le _, Nat.zero_le _⟩ (Nat.le_of_ble_eq_true rfl) ?_
  refine r_ifne_b (tgt := 24) dX5_row_11 (by decide) (fun c_1 => ?_) (fun c_1 => ?_)
  · refine r_iload_n dX5_row_24 rfl (by rfl) ?_
    refine r_if_lt (tgt := 34) dX5_row_25 (by decide) (by unfold inR; omega) (fun c_2 => ?_) (fun c_2 => ?_)
    · exfalso; omega
    · refine r_iload_n dX5_row_28 rfl (by rfl) ?_
      refine r_bipush dX5_row_29 (by decide) ?_
      refine r_icmp_lt (tgt := 44) dX5_row_31 (by decide) (by unfold inR; omega) (by unfold inR; omega) (fun c_3 => ?_) (fun c_3 => ?_)
      · refine r_aload_n dX5_row_44 rfl (by rfl) ?_
        refine r_get_r kX5_10 dX5_row_45 KD_0 (RHO_0_0 _) ?_
        refine r_iload_n dX5_row_48 rfl (by rfl) ?_
        refine r_iload_n dX5_row_49 rfl (by rfl) ?_
        refine r_callY2 (ct_X3_rowProperty hI _ (by first | omega | (unfold inR; omega)) (by first | omega | (unfold inR; omega)) _ (by first | omega | (unfold inR; omega)) (by first | omega | (unfold inR; omega))) fX3_rowProperty qX5_229 dX5_row_50 KD_1 (by decide) ⟨Nat.zero_le _, Nat.zero_le _⟩ (Nat.le_of_ble_eq_true rfl) (fun f_4 hf_4 => ?_)
        exact r_ret_is dX5_row_53 rfl ⟨Nat.zero_le _, Nat.zero_le _⟩ (by first | rfl | omega | (split <;> omega)) (by first | rfl | exact (sr_self _ _).symm) (by exact trivial)
      · exfalso; omega
  · exfalso; omega

set_option maxRecDepth 100000 in
set_option maxHeartbeats 4000000 in
theorem ct_X5_count {l : Launch} {G : GG} {π : Nat → Option Nat} {σ τ : ST} (hI : CI σ) (w : Int) (hE0 : 0 ≤ w ∧ w < 10) : Ct l G mX5_count (5, 0, 0) [.ref 0, .int (iI w)] 110 KD σ τ (RHO π) (KSP (some (.int (iI (ctP σ w)))) σ τ π (fun _ => True)) := by
  have hz := hI.sz
  have hr0 := hI.ro
  have hm0 := hI.mk
  refine ct_intro (own := "ShapedRows") rfl (by decide +kernel) (Nat.le_of_ble_eq_true rfl) (L := _) rfl ?_
  refine r_iload_n dX5_count_0 rfl (by rfl) ?_
  refine r_if_lt (tgt := 10) dX5_count_1 (by decide) (by unfold inR; omega) (fun c_1 => ?_) (fun c_1 => ?_)
  · exfalso; omega
  · refine r_iload_n dX5_count_4 rfl (by rfl) ?_
    refine r_bipush dX5_count_5 (by decide) ?_
    refine r_icmp_lt (tgt := 20) dX5_count_7 (by decide) (by unfold inR; omega) (by unfold inR; omega) (fun c_2 => ?_) (fun c_2 => ?_)
    · refine r_aload_n dX5_count_20 rfl (by rfl) ?_
      refine r_iload_n dX5_count_21 rfl (by rfl) ?_
      refine r_callV1 (ct_X5_counted hI _ (by first | omega | (unfold inR; omega)) (by first | omega | (unfold inR; omega))) fX5_counted qX5_232 dX5_count_22 KD_0 (by decide) ⟨Nat.zero_le _, Nat.zero_le _⟩ (Nat.le_of_ble_eq_true rfl) ?_
      exact r_ret_is dX5_count_25 rfl ⟨Nat.zero_le _, Nat.zero_le _⟩ (by first | rfl | omega | (split <;> omega)) (by first | rfl | exact (sr_self _ _).symm) (by exact trivial)
    · exfalso; omega

set_option maxRecDepth 100000 in
set_option maxHeartbeats 4000000 in
theorem ct_X5_lost {l : Launch} {G : GG} {π : Nat → Option Nat} {σ τ : ST} (hI : CI σ) (r : Int) (s : Int) (hE0 : 0 ≤ r ∧ r < σ 10 0) (hE1 : σ 2 1 ≤ s ∧ s < σ 2 0) : Ct l G mX5_lost (4, 0, 0) [.ref 0, .int (iI r), .int (iI s)] 110 KD σ τ (RHO π) (KSP (some (.int (iI (lsC σ (lsV σ r.toNat s.toNat) r.toNat (σ 7 (σ 11 r.toNat).toNat).toNat)))) σ τ π (fun _ => True)) := by
  have hz := hI.sz
  have hr0 := hI.ro
  have hm0 := hI.mk
  refine ct_intro (own := "ShapedRows") rfl (by decide +kernel) (Nat.le_of_ble_eq_true rfl) (L := _) rfl ?_
  refine r_aload_n dX5_lost_0 rfl (by rfl) ?_
  refine r_get_r kX5_10 dX5_lost_1 KD_0 (RHO_0_0 _) ?_
  refine r_get_r kX5_96 dX5_lost_4 KD_1 (RHO_1_1 _) ?_
  refine r_iload_n dX5_lost_7 rfl (by rfl) ?_
  refine r_callV1 (ct_X1_isThere hI _ (by first | omega | (unfold inR; omega))) fX1_isThere qX5_124 dX5_lost_8 KD_10 (by decide) ⟨Nat.zero_le _, Nat.zero_le _⟩ (Nat.le_of_ble_eq_true rfl) ?_
  refine r_ifeq_b (tgt := 28) dX5_lost_11 (by decide) (fun c_1 => ?_) (fun c_1 => ?_)
  · exfalso; omega
  · refine r_aload_n dX5_lost_14 rfl (by rfl) ?_
    refine r_get_r kX5_10 dX5_lost_15 KD_0 (RHO_0_0 _) ?_
    refine r_get_r kX5_44 dX5_lost_18 KD_1 (RHO_1_0 _) ?_
    refine r_iload_n dX5_lost_21 rfl (by rfl) ?_
    refine r_callV1 (ct_X2_isUsable hI _ (by first | omega | (unfold inR; omega))) fX2_isUsable qX5_116 dX5_lost_22 KD_2 (by decide) ⟨Nat.zero_le _, Nat.zero_le _⟩ (Nat.le_of_ble_eq_true rfl) ?_
    refine r_ifne_b (tgt := 38) dX5_lost_25 (by decide) (fun c_2 => ?_) (fun c_2 => ?_)
    · refine r_aload_n dX5_lost_38 rfl (by rfl) ?_
      refine r_get_r kX5_10 dX5_lost_39 KD_0 (RHO_0_0 _) ?_
      refine r_iload_n dX5_lost_42 rfl (by rfl) ?_
      refine r_iload_n dX5_lost_43 rfl (by rfl) ?_
      refine r_callY2 (ct_X3_valuesLost hI _ (by first | omega | (unfold inR; omega)) (by first | omega | (unfold inR; omega)) _ (by first | omega | (unfold inR; omega)) (by first | omega | (unfold inR; omega))) fX3_valuesLost qX5_235 dX5_lost_44 KD_1 (by decide) ⟨Nat.zero_le _, Nat.zero_le _⟩ (Nat.le_of_ble_eq_true rfl) (fun f_3 hf_3 => ?_)
      exact r_ret_is dX5_lost_47 rfl ⟨Nat.zero_le _, Nat.zero_le _⟩ (by first | rfl | omega | (split <;> omega)) (by first | rfl | exact (sr_self _ _).symm) (by exact trivial)
    · exfalso; omega

set_option maxRecDepth 100000 in
set_option maxHeartbeats 4000000 in
theorem ct_X5_against {l : Launch} {G : GG} {π : Nat → Option Nat} {σ τ : ST} (hI : CI σ) (r : Int) (s : Int) (a : Int) (hE0 : 0 ≤ r ∧ r < σ 10 0) (hE1 : σ 2 1 ≤ s ∧ s < σ 2 0) (hE2 : 0 ≤ a ∧ a < 8) : Ct l G mX5_against (4, 0, 0) [.ref 0, .int (iI r), .int (iI s), .int (iI a)] 110 KD σ τ (RHO π) (KSP (some (.int (iI (refu σ r.toNat s.toNat a)))) σ τ π (fun _ => True)) := by
  have hz := hI.sz
  have hr0 := hI.ro
  have hm0 := hI.mk
  refine ct_intro (own := "ShapedRows") rfl (by decide +kernel) (Nat.le_of_ble_eq_true rfl) (L := _) rfl ?_
  refine r_aload_n dX5_against_0 rfl (by rfl) ?_
  refine r_get_r kX5_10 dX5_against_1 KD_0 (RHO_0_0 _) ?_
  refine r_get_r kX5_96 dX5_against_4 KD_1 (RHO_1_1 _) ?_
  refine r_iload_n dX5_against_7 rfl (by rfl) ?_
  refine r_callV1 (ct_X1_isThere hI _ (by first | omega | (unfold inR; omega))) fX1_isThere qX5_124 dX5_against_8 KD_10 (by decide) ⟨Nat.zero_le _, Nat.zero_le _⟩ (Nat.le_of_ble_eq_true rfl) ?_
  refine r_ifeq_b (tgt := 28) dX5_against_11 (by decide) (fun c_1 => ?_) (fun c_1 => ?_)
  · exfalso; omega
  · refine r_aload_n dX5_against_14 rfl (by rfl) ?_
    refine r_get_r kX5_10 dX5_against_15 KD_0 (RHO_0_0 _) ?_
    refine r_get_r kX5_44 dX5_against_18 KD_1 (RHO_1_0 _) ?_
    refine r_iload_n dX5_against_21 rfl (by rfl) ?_
    refine r_callV1 (ct_X2_isUsable hI _ (by first | omega | (unfold inR; omega))) fX2_isUsable qX5_116 dX5_against_22 KD_2 (by decide) ⟨Nat.zero_le _, Nat.zero_le _⟩ (Nat.le_of_ble_eq_true rfl) ?_
    refine r_ifne_b (tgt := 38) dX5_against_25 (by decide) (fun c_2 => ?_) (fun c_2 => ?_)
    · refine r_iload_n dX5_against_38 rfl (by rfl) ?_
      refine r_callS1 (ct_X5_isLetter _ (by first | omega | (unfold inR; omega))) fX5_isLetter qX5_30 dX5_against_39 (by decide) ⟨Nat.zero_le _, Nat.zero_le _⟩ (Nat.le_of_ble_eq_true rfl) ?_
      refine r_ifne_b (tgt := 55) dX5_against_42 (by decide) (fun c_3 => ?_) (fun c_3 => ?_)
      · refine r_aload_n dX5_against_55 rfl (by rfl) ?_
        refine r_get_r kX5_10 dX5_against_56 KD_0 (RHO_0_0 _) ?_
        refine r_iload_n dX5_against_59 rfl (by rfl) ?_
        refine r_iload_n dX5_against_60 rfl (by rfl) ?_
        refine r_iload_n dX5_against_61 rfl (by rfl) ?_
        refine r_callV3 (ct_X3_refusal hI _ (by first | omega | (unfold inR; omega)) (by first | omega | (unfold inR; omega)) _ (by first | omega | (unfold inR; omega)) (by first | omega | (unfold inR; omega)) _ (by first | omega | (unfold inR; omega))) fX3_refusal qX5_134 dX5_against_62 KD_1 (by decide) ⟨Nat.zero_le _, Nat.zero_le _⟩ (Nat.le_of_ble_eq_true rfl) ?_
        exact r_ret_is dX5_against_65 rfl ⟨Nat.zero_le _, Nat.zero_le _⟩ (by first | rfl | omega | (split <;> omega)) (by first | rfl | exact (sr_self _ _).symm) (by exact trivial)
      · exfalso; omega
    · exfalso; omega

set_option maxRecDepth 100000 in
set_option maxHeartbeats 4000000 in
theorem ct_X5_find {l : Launch} {G : GG} {π : Nat → Option Nat} {σ τ : ST} (hI : CI σ) (s : Int) (a : Int) (x : Int) (hE0 : σ 2 1 ≤ s ∧ s < σ 2 0) (hE1 : 0 ≤ a ∧ a < 8) (hE2 : 0 ≤ x ∧ x ≤ 99999) : Ct l G mX5_find (5, 0, 0) [.ref 0, .int (iI s), .int (iI a), .int (iI x)] 110 KD σ τ (RHO π) (KSP (some (.int (iI (mskF σ s.toNat a x (σ 10 0).toNat)))) σ τ π (fun _ => True)) := by
  have hz := hI.sz
  have hr0 := hI.ro
  have hm0 := hI.mk
  refine ct_intro (own := "ShapedRows") rfl (by decide +kernel) (Nat.le_of_ble_eq_true rfl) (L := _) rfl ?_
  refine r_aload_n dX5_find_0 rfl (by rfl) ?_
  refine r_get_r kX5_10 dX5_find_1 KD_0 (RHO_0_0 _) ?_
  refine r_get_r kX5_44 dX5_find_4 KD_1 (RHO_1_0 _) ?_
  refine r_iload_n dX5_find_7 rfl (by rfl) ?_
  refine r_callV1 (ct_X2_isUsable hI _ (by first | omega | (unfold inR; omega))) fX2_isUsable qX5_116 dX5_find_8 KD_2 (by decide) ⟨Nat.zero_le _, Nat.zero_le _⟩ (Nat.le_of_ble_eq_true rfl) ?_
  refine r_ifne_b (tgt := 24) dX5_find_11 (by decide) (fun c_1 => ?_) (fun c_1 => ?_)
  · refine r_iload_n dX5_find_24 rfl (by rfl) ?_
    refine r_callS1 (ct_X5_isLetter _ (by first | omega | (unfold inR; omega))) fX5_isLetter qX5_30 dX5_find_25 (by decide) ⟨Nat.zero_le _, Nat.zero_le _⟩ (Nat.le_of_ble_eq_true rfl) ?_
    refine r_ifeq_b (tgt := 38) dX5_find_28 (by decide) (fun c_2 => ?_) (fun c_2 => ?_)
    · exfalso; omega
    · refine r_iload_n dX5_find_31 rfl (by rfl) ?_
      refine r_callS1 (ct_X5_isValue _ (by first | omega | (unfold inR; omega))) fX5_isValue qX5_129 dX5_find_32 (by decide) ⟨Nat.zero_le _, Nat.zero_le _⟩ (Nat.le_of_ble_eq_true rfl) ?_
      refine r_ifne_b (tgt := 48) dX5_find_35 (by decide) (fun c_3 => ?_) (fun c_3 => ?_)
      · refine r_aload_n dX5_find_48 rfl (by rfl) ?_
        refine r_get_r kX5_10 dX5_find_49 KD_0 (RHO_0_0 _) ?_
        refine r_iload_n dX5_find_52 rfl (by rfl) ?_
        refine r_iload_n dX5_find_53 rfl (by rfl) ?_
        refine r_iload_n dX5_find_54 rfl (by rfl) ?_
        refine r_callY3 (ct_X3_rowsWith hI _ (by first | omega | (unfold inR; omega)) (by first | omega | (unfold inR; omega)) _ (by first | omega | (unfold inR; omega)) _ (by first | omega | (unfold inR; omega))) fX3_rowsWith qX5_241 dX5_find_55 KD_1 (by decide) ⟨Nat.zero_le _, Nat.zero_le _⟩ (Nat.le_of_ble_eq_true rfl) (fun f_4 hf_4 => ?_)
        exact r_ret_is dX5_find_58 rfl ⟨Nat.zero_le _, Nat.zero_le _⟩ (by first | rfl | omega | (split <;> omega)) (by first | rfl | exact (sr_self _ _).symm) (by exact trivial)
      · exfalso; omega
  · exfalso; omega
