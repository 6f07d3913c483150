/-! contracts whose memory behind is told by a predicate -/
def KG (v0 : Option Value) (P : ST → Prop) (τ0 : ST) (π0 : Nat → Option Nat) : KK := fun v n kd σ τ ρ => v = v0 ∧ n = 117 ∧ kd = KD ∧ P σ ∧ τ = τ0 ∧ ρ = RHO π0
section Rows48
variable {l : Launch} {G : GG} {own : String} {X : MI} {dm : Nat × Nat × Nat} {K : KK} {KE : KX} {n0 pc : Nat} {L : List (Option Value)} {S : List Value} {σ τ : ST} {π : Nat → Option Nat} {ce sl : Nat}
theorem r_callG0 {Y : MI} {d' idx ci p : Nat} {v0 : Option Value} {τ1 : ST} {P : ST → Prop} (hM : Ct l G Y (d', 0, 0) [.ref p] 117 KD σ τ (RHO π) (KG v0 P τ1 π)) (hm : MFV Y ci 0) (hl : Cond.methodLink own idx Y.1 ∈ TBg) (hd : decode X.2.1 pc = .ok (.invokevirtual idx, 3)) (hk : KD p = (0, ci)) (hdm : d' + 1 ≤ dm.1 ∧ Y.2.2.1 ≤ 18) (hcs : ce ≤ dm.2.1 ∧ sl ≤ dm.2.2) (hrest : (S.map (fun v => v.category)).sum ≤ 8) (kk : ∀ σ1, P σ1 → WP l G own X dm K KE n0 (pc + 3) L (v0.toList ++ S) 117 KD σ1 τ1 (RHO π) ce sl) : WP l G own X dm K KE n0 pc L (.ref p :: S) 117 KD σ τ (RHO π) ce sl := by
  intro ad0 ad p9 e R s m args below meth c H locs ls Z C ha hH hS hL
  obtain ⟨hx, hb, hml, hown, hts, hlk, henv, hR, -⟩ := id C
  refine w_call (K1 := KG v0 P τ1 π) (ad := ad) (n := 117) (rest := S.map (trv ad)) (va_runV (C := Y.1.cls) (As := []) ⟨hx, hb, hml, hown, hts⟩ (hM ad) (cvW hts hm hl hR hdm) ⟨ct_blind, vrecv hm hH hk henv, fun U hU hW => ⟨rfl, by rw [hU]; exact hH, env_in henv hS hU hW⟩⟩ rfl rfl hL.1 rfl (lv_room (cats_tr hrest)) hd ⟨Nat.le_trans hcs.1 hR.2.2.1, Nat.le_trans hcs.2 hR.2.2.2⟩) hS (fun v ad' n' kd' σ' τ' ρ' H1 locs1 hK ha' hH1 hS1 hsc => ?_)
  obtain ⟨rfl, rfl, rfl, hf, rfl, rfl⟩ := hK
  have e1 : (v.map (trv ad')).toList ++ S.map (trv ad) = (v.toList ++ S).map (trv ad) := by
    cases v with
    | none => rfl
    | some w => rw [Option.map_some, trv_ad ha' (hsc w rfl)]; rfl
  rw [e1]
  exact kk _ hf ad0 ad p9 e R s m args below meth c H1 locs1 ls Z C ha (hH1.ad ha') hS1 hL
theorem r_callG1 {Y : MI} {d' idx ci p : Nat} {v1 : Value} {v0 : Option Value} {τ1 : ST} {P : ST → Prop} (hM : Ct l G Y (d', 0, 0) [.ref p, v1] 117 KD σ τ (RHO π) (KG v0 P τ1 π)) (hm : MFV Y ci 1) (hl : Cond.methodLink own idx Y.1 ∈ TBg) (hd : decode X.2.1 pc = .ok (.invokevirtual idx, 3)) (hk : KD p = (0, ci)) (hdm : d' + 1 ≤ dm.1 ∧ Y.2.2.1 ≤ 18) (hcs : ce ≤ dm.2.1 ∧ sl ≤ dm.2.2) (hrest : (S.map (fun v => v.category)).sum ≤ 8) (kk : ∀ σ1, P σ1 → WP l G own X dm K KE n0 (pc + 3) L (v0.toList ++ S) 117 KD σ1 τ1 (RHO π) ce sl) : WP l G own X dm K KE n0 pc L (v1 :: .ref p :: S) 117 KD σ τ (RHO π) ce sl := by
  intro ad0 ad p9 e R s m args below meth c H locs ls Z C ha hH hS hL
  obtain ⟨hx, hb, hml, hown, hts, hlk, henv, hR, -⟩ := id C
  refine w_call (K1 := KG v0 P τ1 π) (ad := ad) (n := 117) (rest := S.map (trv ad)) (va_runV (C := Y.1.cls) (As := [trv ad v1]) ⟨hx, hb, hml, hown, hts⟩ (hM ad) (cvW hts hm hl hR hdm) ⟨ct_blind, vrecv hm hH hk henv, fun U hU hW => ⟨rfl, by rw [hU]; exact hH, env_in henv hS hU hW⟩⟩ rfl rfl hL.1 rfl (lv_room (cats_tr hrest)) hd ⟨Nat.le_trans hcs.1 hR.2.2.1, Nat.le_trans hcs.2 hR.2.2.2⟩) hS (fun v ad' n' kd' σ' τ' ρ' H1 locs1 hK ha' hH1 hS1 hsc => ?_)
  obtain ⟨rfl, rfl, rfl, hf, rfl, rfl⟩ := hK
  have e1 : (v.map (trv ad')).toList ++ S.map (trv ad) = (v.toList ++ S).map (trv ad) := by
    cases v with
    | none => rfl
    | some w => rw [Option.map_some, trv_ad ha' (hsc w rfl)]; rfl
  rw [e1]
  exact kk _ hf ad0 ad p9 e R s m args below meth c H1 locs1 ls Z C ha (hH1.ad ha') hS1 hL
theorem r_callG2 {Y : MI} {d' idx ci p : Nat} {v1 v2 : Value} {v0 : Option Value} {τ1 : ST} {P : ST → Prop} (hM : Ct l G Y (d', 0, 0) [.ref p, v1, v2] 117 KD σ τ (RHO π) (KG v0 P τ1 π)) (hm : MFV Y ci 2) (hl : Cond.methodLink own idx Y.1 ∈ TBg) (hd : decode X.2.1 pc = .ok (.invokevirtual idx, 3)) (hk : KD p = (0, ci)) (hdm : d' + 1 ≤ dm.1 ∧ Y.2.2.1 ≤ 18) (hcs : ce ≤ dm.2.1 ∧ sl ≤ dm.2.2) (hrest : (S.map (fun v => v.category)).sum ≤ 8) (kk : ∀ σ1, P σ1 → WP l G own X dm K KE n0 (pc + 3) L (v0.toList ++ S) 117 KD σ1 τ1 (RHO π) ce sl) : WP l G own X dm K KE n0 pc L (v2 :: v1 :: .ref p :: S) 117 KD σ τ (RHO π) ce sl := by
  intro ad0 ad p9 e R s m args below meth c H locs ls Z C ha hH hS hL
  obtain ⟨hx, hb, hml, hown, hts, hlk, henv, hR, -⟩ := id C
  refine w_call (K1 := KG v0 P τ1 π) (ad := ad) (n := 117) (rest := S.map (trv ad)) (va_runV (C := Y.1.cls) (As := [trv ad v1, trv ad v2]) ⟨hx, hb, hml, hown, hts⟩ (hM ad) (cvW hts hm hl hR hdm) ⟨ct_blind, vrecv hm hH hk henv, fun U hU hW => ⟨rfl, by rw [hU]; exact hH, env_in henv hS hU hW⟩⟩ rfl rfl hL.1 rfl (lv_room (cats_tr hrest)) hd ⟨Nat.le_trans hcs.1 hR.2.2.1, Nat.le_trans hcs.2 hR.2.2.2⟩) hS (fun v ad' n' kd' σ' τ' ρ' H1 locs1 hK ha' hH1 hS1 hsc => ?_)
  obtain ⟨rfl, rfl, rfl, hf, rfl, rfl⟩ := hK
  have e1 : (v.map (trv ad')).toList ++ S.map (trv ad) = (v.toList ++ S).map (trv ad) := by
    cases v with
    | none => rfl
    | some w => rw [Option.map_some, trv_ad ha' (hsc w rfl)]; rfl
  rw [e1]
  exact kk _ hf ad0 ad p9 e R s m args below meth c H1 locs1 ls Z C ha (hH1.ad ha') hS1 hL
theorem r_callG3 {Y : MI} {d' idx ci p : Nat} {v1 v2 v3 : Value} {v0 : Option Value} {τ1 : ST} {P : ST → Prop} (hM : Ct l G Y (d', 0, 0) [.ref p, v1, v2, v3] 117 KD σ τ (RHO π) (KG v0 P τ1 π)) (hm : MFV Y ci 3) (hl : Cond.methodLink own idx Y.1 ∈ TBg) (hd : decode X.2.1 pc = .ok (.invokevirtual idx, 3)) (hk : KD p = (0, ci)) (hdm : d' + 1 ≤ dm.1 ∧ Y.2.2.1 ≤ 18) (hcs : ce ≤ dm.2.1 ∧ sl ≤ dm.2.2) (hrest : (S.map (fun v => v.category)).sum ≤ 8) (kk : ∀ σ1, P σ1 → WP l G own X dm K KE n0 (pc + 3) L (v0.toList ++ S) 117 KD σ1 τ1 (RHO π) ce sl) : WP l G own X dm K KE n0 pc L (v3 :: v2 :: v1 :: .ref p :: S) 117 KD σ τ (RHO π) ce sl := by
  intro ad0 ad p9 e R s m args below meth c H locs ls Z C ha hH hS hL
  obtain ⟨hx, hb, hml, hown, hts, hlk, henv, hR, -⟩ := id C
  refine w_call (K1 := KG v0 P τ1 π) (ad := ad) (n := 117) (rest := S.map (trv ad)) (va_runV (C := Y.1.cls) (As := [trv ad v1, trv ad v2, trv ad v3]) ⟨hx, hb, hml, hown, hts⟩ (hM ad) (cvW hts hm hl hR hdm) ⟨ct_blind, vrecv hm hH hk henv, fun U hU hW => ⟨rfl, by rw [hU]; exact hH, env_in henv hS hU hW⟩⟩ rfl rfl hL.1 rfl (lv_room (cats_tr hrest)) hd ⟨Nat.le_trans hcs.1 hR.2.2.1, Nat.le_trans hcs.2 hR.2.2.2⟩) hS (fun v ad' n' kd' σ' τ' ρ' H1 locs1 hK ha' hH1 hS1 hsc => ?_)
  obtain ⟨rfl, rfl, rfl, hf, rfl, rfl⟩ := hK
  have e1 : (v.map (trv ad')).toList ++ S.map (trv ad) = (v.toList ++ S).map (trv ad) := by
    cases v with
    | none => rfl
    | some w => rw [Option.map_some, trv_ad ha' (hsc w rfl)]; rfl
  rw [e1]
  exact kk _ hf ad0 ad p9 e R s m args below meth c H1 locs1 ls Z C ha (hH1.ad ha') hS1 hL
theorem r_callG4 {Y : MI} {d' idx ci p : Nat} {v1 v2 v3 v4 : Value} {v0 : Option Value} {τ1 : ST} {P : ST → Prop} (hM : Ct l G Y (d', 0, 0) [.ref p, v1, v2, v3, v4] 117 KD σ τ (RHO π) (KG v0 P τ1 π)) (hm : MFV Y ci 4) (hl : Cond.methodLink own idx Y.1 ∈ TBg) (hd : decode X.2.1 pc = .ok (.invokevirtual idx, 3)) (hk : KD p = (0, ci)) (hdm : d' + 1 ≤ dm.1 ∧ Y.2.2.1 ≤ 18) (hcs : ce ≤ dm.2.1 ∧ sl ≤ dm.2.2) (hrest : (S.map (fun v => v.category)).sum ≤ 8) (kk : ∀ σ1, P σ1 → WP l G own X dm K KE n0 (pc + 3) L (v0.toList ++ S) 117 KD σ1 τ1 (RHO π) ce sl) : WP l G own X dm K KE n0 pc L (v4 :: v3 :: v2 :: v1 :: .ref p :: S) 117 KD σ τ (RHO π) ce sl := by
  intro ad0 ad p9 e R s m args below meth c H locs ls Z C ha hH hS hL
  obtain ⟨hx, hb, hml, hown, hts, hlk, henv, hR, -⟩ := id C
  refine w_call (K1 := KG v0 P τ1 π) (ad := ad) (n := 117) (rest := S.map (trv ad)) (va_runV (C := Y.1.cls) (As := [trv ad v1, trv ad v2, trv ad v3, trv ad v4]) ⟨hx, hb, hml, hown, hts⟩ (hM ad) (cvW hts hm hl hR hdm) ⟨ct_blind, vrecv hm hH hk henv, fun U hU hW => ⟨rfl, by rw [hU]; exact hH, env_in henv hS hU hW⟩⟩ rfl rfl hL.1 rfl (lv_room (cats_tr hrest)) hd ⟨Nat.le_trans hcs.1 hR.2.2.1, Nat.le_trans hcs.2 hR.2.2.2⟩) hS (fun v ad' n' kd' σ' τ' ρ' H1 locs1 hK ha' hH1 hS1 hsc => ?_)
  obtain ⟨rfl, rfl, rfl, hf, rfl, rfl⟩ := hK
  have e1 : (v.map (trv ad')).toList ++ S.map (trv ad) = (v.toList ++ S).map (trv ad) := by
    cases v with
    | none => rfl
    | some w => rw [Option.map_some, trv_ad ha' (hsc w rfl)]; rfl
  rw [e1]
  exact kk _ hf ad0 ad p9 e R s m args below meth c H1 locs1 ls Z C ha (hH1.ad ha') hS1 hL
theorem r_callG5 {Y : MI} {d' idx ci p : Nat} {v1 v2 v3 v4 v5 : Value} {v0 : Option Value} {τ1 : ST} {P : ST → Prop} (hM : Ct l G Y (d', 0, 0) [.ref p, v1, v2, v3, v4, v5] 117 KD σ τ (RHO π) (KG v0 P τ1 π)) (hm : MFV Y ci 5) (hl : Cond.methodLink own idx Y.1 ∈ TBg) (hd : decode X.2.1 pc = .ok (.invokevirtual idx, 3)) (hk : KD p = (0, ci)) (hdm : d' + 1 ≤ dm.1 ∧ Y.2.2.1 ≤ 18) (hcs : ce ≤ dm.2.1 ∧ sl ≤ dm.2.2) (hrest : (S.map (fun v => v.category)).sum ≤ 8) (kk : ∀ σ1, P σ1 → WP l G own X dm K KE n0 (pc + 3) L (v0.toList ++ S) 117 KD σ1 τ1 (RHO π) ce sl) : WP l G own X dm K KE n0 pc L (v5 :: v4 :: v3 :: v2 :: v1 :: .ref p :: S) 117 KD σ τ (RHO π) ce sl := by
  intro ad0 ad p9 e R s m args below meth c H locs ls Z C ha hH hS hL
  obtain ⟨hx, hb, hml, hown, hts, hlk, henv, hR, -⟩ := id C
  refine w_call (K1 := KG v0 P τ1 π) (ad := ad) (n := 117) (rest := S.map (trv ad)) (va_runV (C := Y.1.cls) (As := [trv ad v1, trv ad v2, trv ad v3, trv ad v4, trv ad v5]) ⟨hx, hb, hml, hown, hts⟩ (hM ad) (cvW hts hm hl hR hdm) ⟨ct_blind, vrecv hm hH hk henv, fun U hU hW => ⟨rfl, by rw [hU]; exact hH, env_in henv hS hU hW⟩⟩ rfl rfl hL.1 rfl (lv_room (cats_tr hrest)) hd ⟨Nat.le_trans hcs.1 hR.2.2.1, Nat.le_trans hcs.2 hR.2.2.2⟩) hS (fun v ad' n' kd' σ' τ' ρ' H1 locs1 hK ha' hH1 hS1 hsc => ?_)
  obtain ⟨rfl, rfl, rfl, hf, rfl, rfl⟩ := hK
  have e1 : (v.map (trv ad')).toList ++ S.map (trv ad) = (v.toList ++ S).map (trv ad) := by
    cases v with
    | none => rfl
    | some w => rw [Option.map_some, trv_ad ha' (hsc w rfl)]; rfl
  rw [e1]
  exact kk _ hf ad0 ad p9 e R s m args below meth c H1 locs1 ls Z C ha (hH1.ad ha') hS1 hL
theorem r_ret_ig {e r : Int} {P : ST → Prop} (hd : decode X.2.1 pc = .ok (.ireturn, 1)) (hty : X.2.2.2 = some .int) (hcs : ce ≤ dm.2.1 ∧ sl ≤ dm.2.2) (he : e = r) (hP : P σ) : WP l G own X dm (KG (some (.int (iI r))) P τ π) KE n0 pc L [.int (iI e)] 117 KD σ τ (RHO π) ce sl :=
  r_ret (v := some (.int (iI e))) ⟨by rw [he], rfl, rfl, hP, rfl, rfl⟩ (fun w h => by cases h; rfl) hcs (Or.inl ⟨_, rfl, rfl, hd, _, hty, rfl⟩)
theorem r_ret_zg {e r : Int} {P : ST → Prop} (hd : decode X.2.1 pc = .ok (.ireturn, 1)) (hty : X.2.2.2 = some .boolean) (hcs : ce ≤ dm.2.1 ∧ sl ≤ dm.2.2) (h01 : e = 0 ∨ e = 1) (he : e = r) (hP : P σ) : WP l G own X dm (KG (some (.int (iI r))) P τ π) KE n0 pc L [.int (iI e)] 117 KD σ τ (RHO π) ce sl :=
  r_ret (v := some (.int (iI e))) ⟨by rw [he], rfl, rfl, hP, rfl, rfl⟩ (fun w h => by cases h; rfl) hcs (Or.inl ⟨_, rfl, rfl, hd, _, hty, by rcases h01 with rfl | rfl <;> decide⟩)
theorem r_ret_lg {e r : Int} {P : ST → Prop} {τ' : ST} (hd : decode X.2.1 pc = .ok (.lreturn, 1)) (hty : X.2.2.2 = some .long) (hcs : ce ≤ dm.2.1 ∧ sl ≤ dm.2.2) (he : e = r) (hP : P σ) (ht : τ = τ') : WP l G own X dm (KG (some (.long (jJ r))) P τ' π) KE n0 pc L [.long (jJ e)] 117 KD σ τ (RHO π) ce sl :=
  r_ret (v := some (.long (jJ e))) ⟨by rw [he], rfl, rfl, hP, ht, rfl⟩ (fun w h => by cases h; rfl) hcs (Or.inr (Or.inl ⟨_, rfl, rfl, hd, hty⟩))
theorem r_ret_dg {e : UInt64} {r : UInt64} {P : ST → Prop} (hd : decode X.2.1 pc = .ok (.dreturn, 1)) (hty : X.2.2.2 = some .double) (hcs : ce ≤ dm.2.1 ∧ sl ≤ dm.2.2) (he : e = r) (hP : P σ) : WP l G own X dm (KG (some (.double r)) P τ π) KE n0 pc L [.double e] 117 KD σ τ (RHO π) ce sl :=
  r_ret (v := some (.double e)) ⟨by rw [he], rfl, rfl, hP, rfl, rfl⟩ (fun w h => by cases h; rfl) hcs (Or.inr (Or.inr (Or.inl ⟨_, rfl, rfl, hd, hty⟩)))
theorem r_ret_vg {P : ST → Prop} {τ' : ST} (hd : decode X.2.1 pc = .ok (.return_, 1)) (hty : X.2.2.2 = none) (hcs : ce ≤ dm.2.1 ∧ sl ≤ dm.2.2) (hP : P σ) (ht : τ = τ') : WP l G own X dm (KG none P τ' π) KE n0 pc L [] 117 KD σ τ (RHO π) ce sl :=
  r_ret (v := none) ⟨rfl, rfl, rfl, hP, ht, rfl⟩ (fun w h => by cases h) hcs (Or.inr (Or.inr (Or.inr (Or.inr ⟨rfl, rfl, hd, hty⟩))))
theorem WP.top {n : Nat} {kd : KT} {ρ : RT} {a b : Int} (h : a = b) (k : WP l G own X dm K KE n0 pc L (.int (iI b) :: S) n kd σ τ ρ ce sl) : WP l G own X dm K KE n0 pc L (.int (iI a) :: S) n kd σ τ ρ ce sl := h ▸ k
end Rows48
theorem KG_of_KQ {v0 : Option Value} {σ0 τ0 : ST} {π0 : Nat → Option Nat} {P : ST → Prop} (h : P σ0) : ∀ v n kd σ τ ρ, KQ v0 117 KD σ0 τ0 (RHO π0) v n kd σ τ ρ → KG v0 P τ0 π0 v n kd σ τ ρ := by
  rintro v n kd σ τ ρ ⟨h1, h2, h3, rfl, h5, h6⟩
  exact ⟨h1, h2, h3, h, h5, h6⟩
theorem KG_mono {v0 : Option Value} {τ0 : ST} {π0 : Nat → Option Nat} {P P' : ST → Prop} (h : ∀ σ, P σ → P' σ) : ∀ v n kd σ τ ρ, KG v0 P τ0 π0 v n kd σ τ ρ → KG v0 P' τ0 π0 v n kd σ τ ρ := by
  rintro v n kd σ τ ρ ⟨h1, h2, h3, h4, h5, h6⟩
  exact ⟨h1, h2, h3, h _ h4, h5, h6⟩
/-! the model's scratch: how many values are at hand, and they -/
def scM (σ : ST) (q : Int × (Nat → Int)) : ST := sr (up2 σ 110 7 q.1) 114 q.2
theorem sc_o (σ : ST) (q : Int × (Nat → Int)) {p : Nat} (h : p ≠ 110 ∧ p ≠ 114) : scM σ q p = σ p := by unfold scM; rw [sr_off _ _ h.2, up2_off _ h.1]
theorem sc_111 (σ : ST) (q : Int × (Nat → Int)) : scM σ q 111 = σ 111 := sc_o σ q (by decide)
theorem sc_113 (σ : ST) (q : Int × (Nat → Int)) : scM σ q 113 = σ 113 := sc_o σ q (by decide)
theorem sc_110 (σ : ST) (q : Int × (Nat → Int)) {k : Nat} (h : k ≠ 7) : scM σ q 110 k = σ 110 k := by unfold scM; rw [sr_off _ _ (by decide), up2_el _ _ _ h]
theorem sc_7 (σ : ST) (q : Int × (Nat → Int)) : scM σ q 110 7 = q.1 := by unfold scM; rw [sr_off _ _ (by decide), up2_at]
theorem sc_114 (σ : ST) (q : Int × (Nat → Int)) : scM σ q 114 = q.2 := by unfold scM; rw [sr_row]
theorem sc_sc (σ : ST) (q q' : Int × (Nat → Int)) : scM (scM σ q) q' = scM σ q' := by
  funext a b
  unfold scM sr up2
  try dsimp only
  by_cases h : a = 114
  · rw [if_pos h, if_pos h]
  · rw [if_neg h, if_neg h, if_neg h]
    by_cases g : a = 110 ∧ b = 7
    · rw [if_pos g, if_pos g]
    · rw [if_neg g, if_neg g, if_neg g]
theorem sc_self (σ : ST) : σ = scM σ (σ 110 7, σ 114) := by
  funext a b
  unfold scM sr up2
  try dsimp only
  by_cases h : a = 114
  · rw [if_pos h, h]
  · rw [if_neg h]
    by_cases g : a = 110 ∧ b = 7
    · rw [if_pos g, g.1, g.2]
    · rw [if_neg g]
theorem sc_g (σ : ST) (q : Int × (Nat → Int)) (s w : Int) : gM (scM σ q) s w = gM σ s w := gM_cg (sc_111 σ q) s w
theorem sc_ro (σ : ST) (q : Int × (Nat → Int)) (s w : Int) : oM (scM σ q) s w = oM σ s w := oM_cg (sc_111 σ q) s w
theorem sc_pl (σ : ST) (q : Int × (Nat → Int)) (s a : Int) : plM (scM σ q) s a = plM σ s a := plM_cg (sc_111 σ q) s a
theorem sc_up {σ : ST} {q : Int × (Nat → Int)} {p k : Nat} {v : Int} (h : (p ≠ 110 ∨ k ≠ 7) ∧ p ≠ 114) : up2 (scM σ q) p k v = scM (up2 σ p k v) q := by
  funext a b
  unfold scM sr up2
  try dsimp only
  by_cases h1 : a = p ∧ b = k
  · rw [if_pos h1, if_neg (by omega), if_neg (by omega), if_pos h1]
  · rw [if_neg h1]
    by_cases h2 : a = 114
    · rw [if_pos h2, if_pos h2]
    · rw [if_neg h2, if_neg h2]
      by_cases h3 : a = 110 ∧ b = 7
      · rw [if_pos h3, if_pos h3]
      · rw [if_neg h3, if_neg h3, if_neg h1]
theorem sc_cp {σ : ST} {q : Int × (Nat → Int)} {p lo n : Nat} {f : Nat → Int} (h : p ≠ 110 ∧ p ≠ 114) : cpR (scM σ q) p lo n f = scM (cpR σ p lo n f) q := by
  funext a b
  unfold scM sr up2 cpR
  try dsimp only
  by_cases h1 : a = p ∧ lo ≤ b ∧ b < lo + n
  · rw [if_pos h1, if_neg (by omega), if_neg (by omega), if_pos h1]
  · rw [if_neg h1]
    by_cases h2 : a = 114
    · rw [if_pos h2, if_pos h2]
    · rw [if_neg h2, if_neg h2]
      by_cases h3 : a = 110 ∧ b = 7
      · rw [if_pos h3, if_pos h3]
      · rw [if_neg h3, if_neg h3, if_neg h1]
def SC (σ ζ : ST) : Prop := (∀ p, p ≠ 110 → p ≠ 114 → ζ p = σ p) ∧ ∀ k, k ≠ 7 → ζ 110 k = σ 110 k
theorem SC.rf (σ : ST) : SC σ σ := ⟨fun _ _ _ => rfl, fun _ _ => rfl⟩
theorem SC.tr {a b c : ST} (h : SC a b) (g : SC b c) : SC a c := ⟨fun p p1 p2 => (g.1 p p1 p2).trans (h.1 p p1 p2), fun k hk => (g.2 k hk).trans (h.2 k hk)⟩
theorem SC.eq {σ ζ : ST} (h : SC σ ζ) : ζ = scM σ (ζ 110 7, ζ 114) := by
  funext a b
  unfold scM sr up2
  try dsimp only
  by_cases h1 : a = 114
  · rw [if_pos h1, h1]
  · rw [if_neg h1]
    by_cases h2 : a = 110 ∧ b = 7
    · rw [if_pos h2, h2.1, h2.2]
    · rw [if_neg h2]
      by_cases h3 : a = 110
      · subst h3; exact h.2 b (fun e => h2 ⟨rfl, e⟩)
      · rw [h.1 a h3 h1]
theorem SC_sc (σ : ST) (q : Int × (Nat → Int)) : SC σ (scM σ q) := ⟨fun p h1 h2 => sc_o σ q ⟨h1, h2⟩, fun k hk => sc_110 σ q hk⟩
theorem SC_7 (σ : ST) (v : Int) : SC σ (up2 σ 110 7 v) := ⟨fun p h1 _ => up2_off _ h1, fun k hk => up2_el _ _ _ hk⟩
theorem SC_v (σ : ST) (k : Nat) (v : Int) : SC σ (up2 σ 114 k v) := ⟨fun p _ h2 => up2_off _ h2, fun k hk => by rw [up2_off _ (by decide)]⟩
theorem SC_cp (σ : ST) (lo n : Nat) (f : Nat → Int) : SC σ (cpR σ 114 lo n f) := ⟨fun p _ h2 => cpR_off _ _ _ _ h2, fun k hk => by rw [cpR_off _ _ _ _ (by decide)]⟩
theorem SC_gv (σ : ST) (s : Int) : SC σ (gvM σ s) := by
  unfold gvM
  (repeat' split)
  · exact (SC_v _ _ _).tr (SC_7 _ _)
  · exact (SC_v _ _ _).tr (SC_7 _ _)
  · exact (SC_v _ _ _).tr (SC_7 _ _)
  · exact (SC_cp _ _ _ _).tr (SC_7 _ _)
  · exact SC.rf _
theorem SC_gb (σ : ST) (s : Int) : SC σ (gbM σ s) := by
  unfold gbM bkR
  (repeat' split)
  · exact SC_7 _ _
  · exact ((SC_cp _ _ _ _).tr (SC_v _ _ _)).tr (SC_7 _ _)
  · exact SC.rf _
theorem SC_gvI (σ : ST) (a : Int) : ∀ n, SC σ (gvI σ a n)
  | 0 => SC.rf _
  | n + 1 => (SC_gvI σ a n).tr (SC_gv _ _)
theorem SC_gbI (σ : ST) (a : Int) : ∀ n, SC σ (gbI σ a n)
  | 0 => SC.rf _
  | n + 1 => (SC_gbI σ a n).tr (SC_gb _ _)
theorem SC_go (σ : ST) (a b : Int) : SC σ (goM σ a b) := (SC_gvI _ _ _).tr (SC_gbI _ _ _)
theorem SC_rdB (σ : ST) (r : Int) : SC σ (rdB σ r) := by
  unfold rdB rdK
  exact (SC_7 _ _).tr (SC_cp _ _ _ _)
theorem SC_re (σ : ST) (r s : Int) : SC σ (reM σ r s) := (SC_rdB _ _).tr (SC_go _ _ _)
/-- the values v by column lie at hand, by place of shape s -/
def PV (c : ST) (s : Int) (v : Nat → Int) (q : Int × (Nat → Int)) : Prop := q.1 = c 7 s.toNat ∧ ∀ k : Nat, (k : Int) < c 7 s.toNat → q.2 k = v (c 8 (8 * s.toNat + k)).toNat
theorem VR.pv {c σ : ST} {s : Nat} {v : Nat → Int} {ζ : ST} (h : VR c σ s v ζ) : PV c s v (ζ 110 7, ζ 114) := ⟨h.2.1, h.2.2⟩
theorem PV.vr {c σ : ST} {s : Int} {v : Nat → Int} {q : Int × (Nat → Int)} (h : PV c s v q) : VR c σ s.toNat v (scM σ q) := ⟨sc_111 σ q, by rw [sc_7]; exact h.1, fun k hk => by rw [sc_114]; exact h.2 k hk⟩
theorem VR_rdI {c σ : ST} (h : Rel c σ) {r s : Int} (r0 : 0 ≤ r) (r1 : r < c 10 0) (s0 : 0 ≤ s) (s1 : s < c 2 0) : rdO σ r s ∧ ∃ q, PV c s (vR c r.toNat s.toNat) q ∧ reM σ r s = scM σ q := by
  have := VR_rd h (r := r.toNat) (s := s.toNat) (by omega) (by omega) (ζ := σ) rfl
  rw [show ((r.toNat : Nat) : Int) = r by omega, show ((s.toNat : Nat) : Int) = s by omega] at this
  refine ⟨this.1, _, ?_, (SC_re σ r s).eq⟩
  have p := this.2.pv
  rw [show ((s.toNat : Nat) : Int) = s by omega] at p
  exact p
theorem ct_X6_readsR {l : Launch} {G : GG} {π : Nat → Option Nat} {σ τ : ST} (c : ST) (h : Rel c σ) (r s : Int) (r0 : 0 ≤ r) (r1 : r < c 10 0) (s0 : 0 ≤ s) (s1 : s < c 2 0) : Ct l G mX6_reads (3, 0, 0) [.ref 110, .int (iI r), .int (iI s)] 117 KD σ τ (RHO π) (KG none (fun σ' => ∃ q, PV c s (vR c r.toNat s.toNat) q ∧ σ' = scM σ q) τ π) := by
  have hn := h.nm
  obtain ⟨h1, h2⟩ := VR_rdI h r0 r1 s0 s1
  exact Ct.mono (KG_of_KQ h2) (ct_X6_reads h.mj r s r0 (by omega) s0 (by omega) h1.1 h1.2)
/-- what the model finds is what the class finds -/
theorem pl_eq {c σ : ST} (h : Rel c σ) {s : Int} (s0 : 0 ≤ s) (s1 : s < c 2 0) (a : Int) : plM σ s a = plc c s.toNat a := by
  unfold plM plc
  have e := h.wd s.toNat (by omega)
  rw [show ((s.toNat : Nat) : Int) = s by omega] at e
  rw [e.1]
  refine fnd_congr (fun j hj => ?_)
  have q := h.cl s.toNat j (by omega) (by omega)
  rw [show ((s.toNat : Nat) : Int) = s by omega] at q
  exact q.2.1
theorem pc_eq {c σ : ST} (h : Rel c σ) {s : Int} (s0 : 0 ≤ s) (s1 : s < c 2 0) (a : Int) : pcM σ s a = pcl c s.toNat a := by
  unfold pcM pcl
  have e := h.wd s.toNat (by omega)
  rw [show ((s.toNat : Nat) : Int) = s by omega] at e
  rw [e.1]
  refine fnd_congr (fun j hj => ?_)
  have q := h.cl s.toNat j (by omega) (by omega)
  rw [show ((s.toNat : Nat) : Int) = s by omega] at q
  exact q.1
theorem rc_eq {c σ : ST} (h : Rel c σ) (s : Int) : ∀ n : Nat, (n : Int) ≤ c 10 0 → rwC σ s n = cntR c s n
  | 0, _ => rfl
  | n + 1, hn => by
    unfold rwC cntR
    rw [rc_eq h s n (by omega), (h.ro n (by omega)).1]
theorem hc_eq {c σ : ST} (h : Rel c σ) (s : Int) : ∀ n : Nat, n ≤ 4 → rdC σ s n = cntH c s n
  | 0, _ => rfl
  | n + 1, hn => by
    have e := h.he n (by omega)
    unfold rdC cntH
    rw [hc_eq h s n (by omega), show (6 + (n : Int)).toNat = 6 + n by omega, e]
