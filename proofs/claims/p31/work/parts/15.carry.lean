/-! contracts that leave the scratch row (place 15) open -/
def KSP (v0 : Option Value) (σ0 τ0 : ST) (π0 : Nat → Option Nat) (P : (Nat → Int) → Prop) : KK := fun v n kd σ τ ρ => v = v0 ∧ n = 110 ∧ kd = KD ∧ (∃ f, P f ∧ σ = sr σ0 15 f) ∧ τ = τ0 ∧ ρ = RHO π0
def leL : List (Option Value) → List (Option Value) → Prop
  | [], _ => True
  | none :: r, _ :: s => leL r s
  | some v :: r, x :: s => x = some v ∧ leL r s
  | none :: _, [] => False
  | some _ :: _, [] => False
theorem leL_0 {s : List (Option Value)} : leL [] s := trivial
theorem leL_n {r s : List (Option Value)} {x : Option Value} (h : leL r s) : leL (none :: r) (x :: s) := h
theorem leL_s {r s : List (Option Value)} {v : Value} (h : leL r s) : leL (some v :: r) (some v :: s) := ⟨rfl, h⟩
theorem leL_get : ∀ {r s : List (Option Value)}, leL r s → ∀ (k : Nat) (v : Value), r[k]? = some (some v) → s[k]? = some (some v)
  | [], _, _, k, v, h => by simp at h
  | none :: r, x :: s, hl, k, v, h => by
    match k with
    | 0 => simp at h
    | k + 1 => simpa using leL_get (r := r) (s := s) hl k v (by simpa using h)
  | some w :: r, x :: s, hl, k, v, h => by
    match k with
    | 0 => simp at h; subst h; simpa using hl.1
    | k + 1 => simpa using leL_get (r := r) (s := s) hl.2 k v (by simpa using h)
section Rows4
variable {l : Launch} {G : GG} {own : String} {X : MI} {dm : Nat × Nat × Nat} {K : KK} {KE : KX} {n0 pc : Nat} {L : List (Option Value)} {S : List Value} {σ τ : ST} {π : Nat → Option Nat} {ce sl : Nat}
theorem trL_le {ad : Nat → Nat} {r s : List (Option Value)} (h : leL r s) {k : Nat} {v : Value} (hk : (trL ad r)[k]? = some (some v)) : (trL ad s)[k]? = some (some v) := by
  unfold trL at hk ⊢
  rw [List.getElem?_map] at hk ⊢
  cases h1 : r[k]? with
  | none => rw [h1] at hk; cases hk
  | some o =>
    cases o with
    | none => rw [h1] at hk; cases hk
    | some w => rw [leL_get h k w h1]; rw [h1] at hk; exact hk
theorem WP.wk {n : Nat} {kd : KT} {ρ : RT} {L' : List (Option Value)} (h : leL L' L) (k : WP l G own X dm K KE n0 pc L' S n kd σ τ ρ ce sl) : WP l G own X dm K KE n0 pc L S n kd σ τ ρ ce sl := by
  intro ad0 ad p e R s m args below meth c H locs ls Z C ha hH hS hL
  exact k ad0 ad p e R s m args below meth c H locs ls Z C ha hH hS ⟨hL.1, hL.2.1, fun k v hk => hL.2.2 k v (trL_le h hk)⟩
theorem r_callY0 {Y : MI} {d' idx ci p : Nat} {v0 : Option Value} {σ1 τ1 : ST} {P : (Nat → Int) → Prop} (hM : Ct l G Y (d', 0, 0) [.ref p] 110 KD σ τ (RHO π) (KSP v0 σ1 τ1 π P)) (hm : MFV Y ci 0) (hl : Cond.methodLink own idx Y.1 ∈ TBg) (hd : decode X.2.1 pc = .ok (.invokevirtual idx, 3)) (hk : KD p = (0, ci)) (hdm : d' + 1 ≤ dm.1 ∧ Y.2.2.1 ≤ 18) (hcs : ce ≤ dm.2.1 ∧ sl ≤ dm.2.2) (hrest : (S.map (fun v => v.category)).sum ≤ 8) (kk : ∀ f, P f → WP l G own X dm K KE n0 (pc + 3) L (v0.toList ++ S) 110 KD (sr σ1 15 f) τ1 (RHO π) ce sl) : WP l G own X dm K KE n0 pc L (.ref p :: S) 110 KD σ τ (RHO π) ce sl := by
  intro ad0 ad p9 e R s m args below meth c H locs ls Z C ha hH hS hL
  obtain ⟨hx, hb, hml, hown, hts, hlk, henv, hR, -⟩ := id C
  refine w_call (K1 := KSP v0 σ1 τ1 π P) (ad := ad) (n := 110) (rest := S.map (trv ad)) (va_runV (C := Y.1.cls) (As := []) ⟨hx, hb, hml, hown, hts⟩ (hM ad) (cvW hts hm hl hR hdm) ⟨ct_blind, vrecv hm hH hk henv, fun U hU hW => ⟨rfl, by rw [hU]; exact hH, env_in henv hS hU hW⟩⟩ rfl rfl hL.1 rfl (lv_room (cats_tr hrest)) hd ⟨Nat.le_trans hcs.1 hR.2.2.1, Nat.le_trans hcs.2 hR.2.2.2⟩) hS (fun v ad' n' kd' σ' τ' ρ' H1 locs1 hK ha' hH1 hS1 hsc => ?_)
  obtain ⟨rfl, rfl, rfl, ⟨f, hf, rfl⟩, rfl, rfl⟩ := hK
  have e1 : (v.map (trv ad')).toList ++ S.map (trv ad) = (v.toList ++ S).map (trv ad) := by
    cases v with
    | none => rfl
    | some w => rw [Option.map_some, trv_ad ha' (hsc w rfl)]; rfl
  rw [e1]
  exact kk f hf ad0 ad p9 e R s m args below meth c H1 locs1 ls Z C ha (hH1.ad ha') hS1 hL
theorem r_callY1 {Y : MI} {d' idx ci p : Nat} {v1 : Value} {v0 : Option Value} {σ1 τ1 : ST} {P : (Nat → Int) → Prop} (hM : Ct l G Y (d', 0, 0) [.ref p, v1] 110 KD σ τ (RHO π) (KSP v0 σ1 τ1 π P)) (hm : MFV Y ci 1) (hl : Cond.methodLink own idx Y.1 ∈ TBg) (hd : decode X.2.1 pc = .ok (.invokevirtual idx, 3)) (hk : KD p = (0, ci)) (hdm : d' + 1 ≤ dm.1 ∧ Y.2.2.1 ≤ 18) (hcs : ce ≤ dm.2.1 ∧ sl ≤ dm.2.2) (hrest : (S.map (fun v => v.category)).sum ≤ 8) (kk : ∀ f, P f → WP l G own X dm K KE n0 (pc + 3) L (v0.toList ++ S) 110 KD (sr σ1 15 f) τ1 (RHO π) ce sl) : WP l G own X dm K KE n0 pc L (v1 :: .ref p :: S) 110 KD σ τ (RHO π) ce sl := by
  intro ad0 ad p9 e R s m args below meth c H locs ls Z C ha hH hS hL
  obtain ⟨hx, hb, hml, hown, hts, hlk, henv, hR, -⟩ := id C
  refine w_call (K1 := KSP v0 σ1 τ1 π P) (ad := ad) (n := 110) (rest := S.map (trv ad)) (va_runV (C := Y.1.cls) (As := [trv ad v1]) ⟨hx, hb, hml, hown, hts⟩ (hM ad) (cvW hts hm hl hR hdm) ⟨ct_blind, vrecv hm hH hk henv, fun U hU hW => ⟨rfl, by rw [hU]; exact hH, env_in henv hS hU hW⟩⟩ rfl rfl hL.1 rfl (lv_room (cats_tr hrest)) hd ⟨Nat.le_trans hcs.1 hR.2.2.1, Nat.le_trans hcs.2 hR.2.2.2⟩) hS (fun v ad' n' kd' σ' τ' ρ' H1 locs1 hK ha' hH1 hS1 hsc => ?_)
  obtain ⟨rfl, rfl, rfl, ⟨f, hf, rfl⟩, rfl, rfl⟩ := hK
  have e1 : (v.map (trv ad')).toList ++ S.map (trv ad) = (v.toList ++ S).map (trv ad) := by
    cases v with
    | none => rfl
    | some w => rw [Option.map_some, trv_ad ha' (hsc w rfl)]; rfl
  rw [e1]
  exact kk f hf ad0 ad p9 e R s m args below meth c H1 locs1 ls Z C ha (hH1.ad ha') hS1 hL
theorem r_callY2 {Y : MI} {d' idx ci p : Nat} {v1 v2 : Value} {v0 : Option Value} {σ1 τ1 : ST} {P : (Nat → Int) → Prop} (hM : Ct l G Y (d', 0, 0) [.ref p, v1, v2] 110 KD σ τ (RHO π) (KSP v0 σ1 τ1 π P)) (hm : MFV Y ci 2) (hl : Cond.methodLink own idx Y.1 ∈ TBg) (hd : decode X.2.1 pc = .ok (.invokevirtual idx, 3)) (hk : KD p = (0, ci)) (hdm : d' + 1 ≤ dm.1 ∧ Y.2.2.1 ≤ 18) (hcs : ce ≤ dm.2.1 ∧ sl ≤ dm.2.2) (hrest : (S.map (fun v => v.category)).sum ≤ 8) (kk : ∀ f, P f → WP l G own X dm K KE n0 (pc + 3) L (v0.toList ++ S) 110 KD (sr σ1 15 f) τ1 (RHO π) ce sl) : WP l G own X dm K KE n0 pc L (v2 :: v1 :: .ref p :: S) 110 KD σ τ (RHO π) ce sl := by
  intro ad0 ad p9 e R s m args below meth c H locs ls Z C ha hH hS hL
  obtain ⟨hx, hb, hml, hown, hts, hlk, henv, hR, -⟩ := id C
  refine w_call (K1 := KSP v0 σ1 τ1 π P) (ad := ad) (n := 110) (rest := S.map (trv ad)) (va_runV (C := Y.1.cls) (As := [trv ad v1, trv ad v2]) ⟨hx, hb, hml, hown, hts⟩ (hM ad) (cvW hts hm hl hR hdm) ⟨ct_blind, vrecv hm hH hk henv, fun U hU hW => ⟨rfl, by rw [hU]; exact hH, env_in henv hS hU hW⟩⟩ rfl rfl hL.1 rfl (lv_room (cats_tr hrest)) hd ⟨Nat.le_trans hcs.1 hR.2.2.1, Nat.le_trans hcs.2 hR.2.2.2⟩) hS (fun v ad' n' kd' σ' τ' ρ' H1 locs1 hK ha' hH1 hS1 hsc => ?_)
  obtain ⟨rfl, rfl, rfl, ⟨f, hf, rfl⟩, rfl, rfl⟩ := hK
  have e1 : (v.map (trv ad')).toList ++ S.map (trv ad) = (v.toList ++ S).map (trv ad) := by
    cases v with
    | none => rfl
    | some w => rw [Option.map_some, trv_ad ha' (hsc w rfl)]; rfl
  rw [e1]
  exact kk f hf ad0 ad p9 e R s m args below meth c H1 locs1 ls Z C ha (hH1.ad ha') hS1 hL
theorem r_callY3 {Y : MI} {d' idx ci p : Nat} {v1 v2 v3 : Value} {v0 : Option Value} {σ1 τ1 : ST} {P : (Nat → Int) → Prop} (hM : Ct l G Y (d', 0, 0) [.ref p, v1, v2, v3] 110 KD σ τ (RHO π) (KSP v0 σ1 τ1 π P)) (hm : MFV Y ci 3) (hl : Cond.methodLink own idx Y.1 ∈ TBg) (hd : decode X.2.1 pc = .ok (.invokevirtual idx, 3)) (hk : KD p = (0, ci)) (hdm : d' + 1 ≤ dm.1 ∧ Y.2.2.1 ≤ 18) (hcs : ce ≤ dm.2.1 ∧ sl ≤ dm.2.2) (hrest : (S.map (fun v => v.category)).sum ≤ 8) (kk : ∀ f, P f → WP l G own X dm K KE n0 (pc + 3) L (v0.toList ++ S) 110 KD (sr σ1 15 f) τ1 (RHO π) ce sl) : WP l G own X dm K KE n0 pc L (v3 :: v2 :: v1 :: .ref p :: S) 110 KD σ τ (RHO π) ce sl := by
  intro ad0 ad p9 e R s m args below meth c H locs ls Z C ha hH hS hL
  obtain ⟨hx, hb, hml, hown, hts, hlk, henv, hR, -⟩ := id C
  refine w_call (K1 := KSP v0 σ1 τ1 π P) (ad := ad) (n := 110) (rest := S.map (trv ad)) (va_runV (C := Y.1.cls) (As := [trv ad v1, trv ad v2, trv ad v3]) ⟨hx, hb, hml, hown, hts⟩ (hM ad) (cvW hts hm hl hR hdm) ⟨ct_blind, vrecv hm hH hk henv, fun U hU hW => ⟨rfl, by rw [hU]; exact hH, env_in henv hS hU hW⟩⟩ rfl rfl hL.1 rfl (lv_room (cats_tr hrest)) hd ⟨Nat.le_trans hcs.1 hR.2.2.1, Nat.le_trans hcs.2 hR.2.2.2⟩) hS (fun v ad' n' kd' σ' τ' ρ' H1 locs1 hK ha' hH1 hS1 hsc => ?_)
  obtain ⟨rfl, rfl, rfl, ⟨f, hf, rfl⟩, rfl, rfl⟩ := hK
  have e1 : (v.map (trv ad')).toList ++ S.map (trv ad) = (v.toList ++ S).map (trv ad) := by
    cases v with
    | none => rfl
    | some w => rw [Option.map_some, trv_ad ha' (hsc w rfl)]; rfl
  rw [e1]
  exact kk f hf ad0 ad p9 e R s m args below meth c H1 locs1 ls Z C ha (hH1.ad ha') hS1 hL
theorem r_callY4 {Y : MI} {d' idx ci p : Nat} {v1 v2 v3 v4 : Value} {v0 : Option Value} {σ1 τ1 : ST} {P : (Nat → Int) → Prop} (hM : Ct l G Y (d', 0, 0) [.ref p, v1, v2, v3, v4] 110 KD σ τ (RHO π) (KSP v0 σ1 τ1 π P)) (hm : MFV Y ci 4) (hl : Cond.methodLink own idx Y.1 ∈ TBg) (hd : decode X.2.1 pc = .ok (.invokevirtual idx, 3)) (hk : KD p = (0, ci)) (hdm : d' + 1 ≤ dm.1 ∧ Y.2.2.1 ≤ 18) (hcs : ce ≤ dm.2.1 ∧ sl ≤ dm.2.2) (hrest : (S.map (fun v => v.category)).sum ≤ 8) (kk : ∀ f, P f → WP l G own X dm K KE n0 (pc + 3) L (v0.toList ++ S) 110 KD (sr σ1 15 f) τ1 (RHO π) ce sl) : WP l G own X dm K KE n0 pc L (v4 :: v3 :: v2 :: v1 :: .ref p :: S) 110 KD σ τ (RHO π) ce sl := by
  intro ad0 ad p9 e R s m args below meth c H locs ls Z C ha hH hS hL
  obtain ⟨hx, hb, hml, hown, hts, hlk, henv, hR, -⟩ := id C
  refine w_call (K1 := KSP v0 σ1 τ1 π P) (ad := ad) (n := 110) (rest := S.map (trv ad)) (va_runV (C := Y.1.cls) (As := [trv ad v1, trv ad v2, trv ad v3, trv ad v4]) ⟨hx, hb, hml, hown, hts⟩ (hM ad) (cvW hts hm hl hR hdm) ⟨ct_blind, vrecv hm hH hk henv, fun U hU hW => ⟨rfl, by rw [hU]; exact hH, env_in henv hS hU hW⟩⟩ rfl rfl hL.1 rfl (lv_room (cats_tr hrest)) hd ⟨Nat.le_trans hcs.1 hR.2.2.1, Nat.le_trans hcs.2 hR.2.2.2⟩) hS (fun v ad' n' kd' σ' τ' ρ' H1 locs1 hK ha' hH1 hS1 hsc => ?_)
  obtain ⟨rfl, rfl, rfl, ⟨f, hf, rfl⟩, rfl, rfl⟩ := hK
  have e1 : (v.map (trv ad')).toList ++ S.map (trv ad) = (v.toList ++ S).map (trv ad) := by
    cases v with
    | none => rfl
    | some w => rw [Option.map_some, trv_ad ha' (hsc w rfl)]; rfl
  rw [e1]
  exact kk f hf ad0 ad p9 e R s m args below meth c H1 locs1 ls Z C ha (hH1.ad ha') hS1 hL
theorem r_callY5 {Y : MI} {d' idx ci p : Nat} {v1 v2 v3 v4 v5 : Value} {v0 : Option Value} {σ1 τ1 : ST} {P : (Nat → Int) → Prop} (hM : Ct l G Y (d', 0, 0) [.ref p, v1, v2, v3, v4, v5] 110 KD σ τ (RHO π) (KSP v0 σ1 τ1 π P)) (hm : MFV Y ci 5) (hl : Cond.methodLink own idx Y.1 ∈ TBg) (hd : decode X.2.1 pc = .ok (.invokevirtual idx, 3)) (hk : KD p = (0, ci)) (hdm : d' + 1 ≤ dm.1 ∧ Y.2.2.1 ≤ 18) (hcs : ce ≤ dm.2.1 ∧ sl ≤ dm.2.2) (hrest : (S.map (fun v => v.category)).sum ≤ 8) (kk : ∀ f, P f → WP l G own X dm K KE n0 (pc + 3) L (v0.toList ++ S) 110 KD (sr σ1 15 f) τ1 (RHO π) ce sl) : WP l G own X dm K KE n0 pc L (v5 :: v4 :: v3 :: v2 :: v1 :: .ref p :: S) 110 KD σ τ (RHO π) ce sl := by
  intro ad0 ad p9 e R s m args below meth c H locs ls Z C ha hH hS hL
  obtain ⟨hx, hb, hml, hown, hts, hlk, henv, hR, -⟩ := id C
  refine w_call (K1 := KSP v0 σ1 τ1 π P) (ad := ad) (n := 110) (rest := S.map (trv ad)) (va_runV (C := Y.1.cls) (As := [trv ad v1, trv ad v2, trv ad v3, trv ad v4, trv ad v5]) ⟨hx, hb, hml, hown, hts⟩ (hM ad) (cvW hts hm hl hR hdm) ⟨ct_blind, vrecv hm hH hk henv, fun U hU hW => ⟨rfl, by rw [hU]; exact hH, env_in henv hS hU hW⟩⟩ rfl rfl hL.1 rfl (lv_room (cats_tr hrest)) hd ⟨Nat.le_trans hcs.1 hR.2.2.1, Nat.le_trans hcs.2 hR.2.2.2⟩) hS (fun v ad' n' kd' σ' τ' ρ' H1 locs1 hK ha' hH1 hS1 hsc => ?_)
  obtain ⟨rfl, rfl, rfl, ⟨f, hf, rfl⟩, rfl, rfl⟩ := hK
  have e1 : (v.map (trv ad')).toList ++ S.map (trv ad) = (v.toList ++ S).map (trv ad) := by
    cases v with
    | none => rfl
    | some w => rw [Option.map_some, trv_ad ha' (hsc w rfl)]; rfl
  rw [e1]
  exact kk f hf ad0 ad p9 e R s m args below meth c H1 locs1 ls Z C ha (hH1.ad ha') hS1 hL
theorem r_ret_is {e r : Int} {σ' : ST} {P : (Nat → Int) → Prop} {f : Nat → Int} (hd : decode X.2.1 pc = .ok (.ireturn, 1)) (hty : X.2.2.2 = some .int) (hcs : ce ≤ dm.2.1 ∧ sl ≤ dm.2.2) (he : e = r) (hm : σ = sr σ' 15 f) (hP : P f) : WP l G own X dm (KSP (some (.int (iI r))) σ' τ π P) KE n0 pc L [.int (iI e)] 110 KD σ τ (RHO π) ce sl :=
  r_ret (v := some (.int (iI e))) ⟨by rw [he], rfl, rfl, ⟨f, hP, hm⟩, rfl, rfl⟩ (fun w h => by cases h; rfl) hcs (Or.inl ⟨_, rfl, rfl, hd, _, hty, rfl⟩)
theorem r_ret_zs {e r : Int} {σ' : ST} {P : (Nat → Int) → Prop} {f : Nat → Int} (hd : decode X.2.1 pc = .ok (.ireturn, 1)) (hty : X.2.2.2 = some .boolean) (hcs : ce ≤ dm.2.1 ∧ sl ≤ dm.2.2) (h01 : e = 0 ∨ e = 1) (he : e = r) (hm : σ = sr σ' 15 f) (hP : P f) : WP l G own X dm (KSP (some (.int (iI r))) σ' τ π P) KE n0 pc L [.int (iI e)] 110 KD σ τ (RHO π) ce sl :=
  r_ret (v := some (.int (iI e))) ⟨by rw [he], rfl, rfl, ⟨f, hP, hm⟩, rfl, rfl⟩ (fun w h => by cases h; rfl) hcs (Or.inl ⟨_, rfl, rfl, hd, _, hty, by rcases h01 with rfl | rfl <;> decide⟩)
theorem r_ret_ls {e r : Int} {σ' : ST} {P : (Nat → Int) → Prop} {f : Nat → Int} (hd : decode X.2.1 pc = .ok (.lreturn, 1)) (hty : X.2.2.2 = some .long) (hcs : ce ≤ dm.2.1 ∧ sl ≤ dm.2.2) (he : e = r) (hm : σ = sr σ' 15 f) (hP : P f) : WP l G own X dm (KSP (some (.long (jJ r))) σ' τ π P) KE n0 pc L [.long (jJ e)] 110 KD σ τ (RHO π) ce sl :=
  r_ret (v := some (.long (jJ e))) ⟨by rw [he], rfl, rfl, ⟨f, hP, hm⟩, rfl, rfl⟩ (fun w h => by cases h; rfl) hcs (Or.inr (Or.inl ⟨_, rfl, rfl, hd, hty⟩))
theorem r_ret_vs {σ' : ST} {P : (Nat → Int) → Prop} {f : Nat → Int} (hd : decode X.2.1 pc = .ok (.return_, 1)) (hty : X.2.2.2 = none) (hcs : ce ≤ dm.2.1 ∧ sl ≤ dm.2.2) (hm : σ = sr σ' 15 f) (hP : P f) : WP l G own X dm (KSP none σ' τ π P) KE n0 pc L [] 110 KD σ τ (RHO π) ce sl :=
  r_ret (v := none) ⟨rfl, rfl, rfl, ⟨f, hP, hm⟩, rfl, rfl⟩ (fun w h => by cases h) hcs (Or.inr (Or.inr (Or.inr (Or.inr ⟨rfl, rfl, hd, hty⟩))))
theorem r_ret_rs {q r : Nat} {rt : FieldType} {σ' : ST} {P : (Nat → Int) → Prop} {f : Nat → Int} (hd : decode X.2.1 pc = .ok (.areturn, 1)) (hty : X.2.2.2 = some rt) (hrt : (∃ n, rt = .object n) ∨ ∃ t, rt = .array t) (hcs : ce ≤ dm.2.1 ∧ sl ≤ dm.2.2) (hq : q < 110) (he : q = r) (hm : σ = sr σ' 15 f) (hP : P f) : WP l G own X dm (KSP (some (.ref r)) σ' τ π P) KE n0 pc L [.ref q] 110 KD σ τ (RHO π) ce sl :=
  r_ret (v := some (.ref q)) ⟨by rw [he], rfl, rfl, ⟨f, hP, hm⟩, rfl, rfl⟩ (fun w h => by cases h; exact decide_eq_true hq) hcs (Or.inr (Or.inr (Or.inr (Or.inl ⟨_, rfl, rfl, Or.inr ⟨_, rfl⟩, hd, _, hty, hrt⟩))))
end Rows4

/-! values carried from shape to shape -/
def upF (v : Nat → Int) (k : Nat) (x : Int) : Nat → Int := fun j => if j = k then x else v j
def mn9 (x : Int) : Int := if 99999 < x then 99999 else x
def cfS (σ : ST) (v : Nat → Int) (s : Nat) : Nat → Int := if σ 3 s = 1 then upF v s (σ 4 s) else if σ 3 s = 2 then upF v s (v (σ 5 s).toNat) else if σ 3 s = 3 then upF v s (mn9 (v (σ 5 s).toNat + v (σ 6 s).toNat)) else v
def cf (σ : ST) (v : Nat → Int) (a : Nat) : Nat → (Nat → Int)
  | 0 => v
  | n + 1 => cfS σ (cf σ v a n) (a + n + 1)
def cbS (σ : ST) (v : Nat → Int) (s : Nat) : Nat → Int := if σ 3 s = 4 then upF v (σ 5 s).toNat (σ 4 s) else v
def cb (σ : ST) (v : Nat → Int) (a : Nat) : Nat → (Nat → Int)
  | 0 => v
  | n + 1 => cbS σ (cb σ v a n) (a - n)
def bdV (v : Nat → Int) : Prop := ∀ j, j < 12 → 0 ≤ v j ∧ v j ≤ 99999
theorem upF_bd {v : Nat → Int} {k : Nat} {x : Int} (h : bdV v) (hx : 0 ≤ x ∧ x ≤ 99999) : bdV (upF v k x) := fun j hj => by
  unfold upF
  by_cases e : j = k
  · rw [if_pos e]; exact hx
  · rw [if_neg e]; exact h j hj
theorem cfS_bd {σ : ST} (hI : CI σ) {v : Nat → Int} (h : bdV v) (s : Nat) : bdV (cfS σ v s) := by
  have h4 := hI.nu s
  have h5 := hI.so s
  have h6 := hI.ad s
  have b1 := h (σ 5 s).toNat (by omega)
  have b2 := h (σ 6 s).toNat (by omega)
  unfold cfS mn9
  split
  · exact upF_bd h (by omega)
  · split
    · exact upF_bd h b1
    · split
      · exact upF_bd h (by split <;> omega)
      · exact h
theorem cf_bd {σ : ST} (hI : CI σ) {v : Nat → Int} (h : bdV v) (a : Nat) : ∀ n, bdV (cf σ v a n)
  | 0 => h
  | n + 1 => cfS_bd hI (cf_bd hI h a n) _
theorem cbS_bd {σ : ST} (hI : CI σ) {v : Nat → Int} (h : bdV v) (s : Nat) : bdV (cbS σ v s) := by
  have h4 := hI.nu s
  unfold cbS
  split
  · exact upF_bd h (by omega)
  · exact h
theorem cb_bd {σ : ST} (hI : CI σ) {v : Nat → Int} (h : bdV v) (a : Nat) : ∀ n, bdV (cb σ v a n)
  | 0 => h
  | n + 1 => cbS_bd hI (cb_bd hI h a n) _
theorem cfS_cg {σ : ST} (hI : CI σ) {v w : Nat → Int} (h : ∀ j, j < 12 → v j = w j) (s : Nat) : ∀ j, j < 12 → cfS σ v s j = cfS σ w s j := by
  intro j hj
  have h5 := hI.so s
  have h6 := hI.ad s
  have e1 := h (σ 5 s).toNat (by omega)
  have e2 := h (σ 6 s).toNat (by omega)
  have g : ∀ (k : Nat) (x : Int), upF v k x j = upF w k x j := fun k x => by
    unfold upF
    by_cases e : j = k
    · rw [if_pos e, if_pos e]
    · rw [if_neg e, if_neg e]; exact h j hj
  unfold cfS
  rw [e1, e2]
  (repeat' split) <;> first | exact g _ _ | exact h j hj
theorem cf_cg {σ : ST} (hI : CI σ) {v w : Nat → Int} (h : ∀ j, j < 12 → v j = w j) (a : Nat) : ∀ n j, j < 12 → cf σ v a n j = cf σ w a n j
  | 0 => h
  | n + 1 => cfS_cg hI (cf_cg hI h a n) _
theorem cb_cg {σ : ST} {v w : Nat → Int} (h : ∀ j, j < 12 → v j = w j) (a : Nat) : ∀ n j, j < 12 → cb σ v a n j = cb σ w a n j
  | 0 => h
  | n + 1 => fun j hj => by
    have h1 := cb_cg (σ := σ) h a n j hj
    show cbS σ (cb σ v a n) (a - n) j = cbS σ (cb σ w a n) (a - n) j
    unfold cbS
    split
    · unfold upF
      by_cases e : j = (σ 5 (a - n)).toNat
      · rw [if_pos e, if_pos e]
      · rw [if_neg e, if_neg e]; exact h1
    · exact h1
theorem up2_15 (σ : ST) (f : Nat → Int) (k : Nat) (x : Int) : up2 (sr σ 15 f) 15 k x = sr σ 15 (upF f k x) := up2_sr σ 15 k f x

set_option maxRecDepth 100000 in
set_option maxHeartbeats 4000000 in
theorem ct_X2_carryForth {l : Launch} {G : GG} {π : Nat → Option Nat} {σ τ : ST} (hI : CI σ) (hv : bdV (σ 15)) (a b : Int) (ha0 : 0 ≤ a) (ha1 : a < 12) (hb0 : 0 ≤ b) (hb1 : b < 12) : Ct l G mX2_carryForth (1, 0, 0) [.ref 2, .ref 15, .int (iI a), .int (iI b)] 110 KD σ τ (RHO π) (KQ none 110 KD (sr σ 15 (cf σ (σ 15) a.toNat (b - a).toNat)) τ (RHO π)) := by
  refine ct_intro (own := "ShapedRows$Shapes") rfl (by decide +kernel) (Nat.le_of_ble_eq_true rfl) (L := _) rfl ?_
  have cut_5 : ∀ (N : Nat) (s : Int), (a + 1 ≤ s) → (s ≤ b + 1 ∨ s = a + 1) → 12 - s + a + 1 < (N : Int) → WP l G "ShapedRows$Shapes" mX2_carryForth (1, 0, 0) (KQ none 110 KD (sr σ 15 (cf σ (σ 15) a.toNat (b - a).toNat)) τ (RHO π)) noX 110 5 [some (.ref 2), some (.ref 15), some (.int (iI a)), some (.int (iI b)), some (.int (iI s)), none] [] 110 KD (sr σ 15 (cf σ (σ 15) a.toNat (s - 1 - a).toNat)) τ (RHO π) 0 0 := by
    intro N
    induction N with
    | zero => intro s s0 s1 hm; exact absurd hm (by omega)
    | succ N ih =>
      intro s s0 s1 hm
      obtain ⟨v, hve⟩ : ∃ v, v = cf σ (σ 15) a.toNat (s - 1 - a).toNat := ⟨_, rfl⟩
      rw [← hve]
      have hb : bdV v := by rw [hve]; exact cf_bd hI hv _ _
      have h3 := hI.ch s.toNat
      have h4 := hI.nu s.toNat
      have h5 := hI.so s.toNat
      have h6 := hI.ad s.toNat
      have b1 := hb (σ 5 s.toNat).toNat (by omega)
      have b2 := hb (σ 6 s.toNat).toNat (by omega)
      refine r_iload dX2_carryForth_5 (by rfl) ?_
      refine r_iload_n dX2_carryForth_7 rfl (by rfl) ?_
      refine r_icmp_gt (tgt := 125) dX2_carryForth_8 (by decide) (by unfold inR; omega) (by unfold inR; omega) (fun c_1 => ?_) (fun c_1 => ?_)
      · exact r_ret_v dX2_carryForth_125 rfl ⟨Nat.zero_le _, Nat.zero_le _⟩ ⟨rfl, rfl, (by rw [hve, show (s - 1 - a).toNat = (b - a).toNat by omega]), rfl, rfl⟩
      · refine r_aload_n dX2_carryForth_11 rfl (by rfl) ?_
        refine r_aload_n dX2_carryForth_12 rfl (by rfl) ?_
        refine r_get_r kX2_25 dX2_carryForth_13 KD_2 (RHO_2_4 _) ?_
        refine r_iload dX2_carryForth_16 (by rfl) ?_
        refine r_callN2 (ct_X5_at KD_5 (by decide) _ (by omega) (by omega)) fX5_at qX2_47 dX2_carryForth_18 (by decide) ⟨Nat.zero_le _, Nat.zero_le _⟩ (Nat.le_of_ble_eq_true rfl) ?_
        rw [sr_off _ _ (show (5 : Nat) ≠ 15 by decide)]
        refine r_callN2 (ct_X5_at KD_15 (by decide) _ (by omega) (by omega)) fX5_at qX2_47 dX2_carryForth_21 (by decide) ⟨Nat.zero_le _, Nat.zero_le _⟩ (Nat.le_of_ble_eq_true rfl) ?_
        rw [sr_row]
        refine r_istore dX2_carryForth_24 (Nat.le_of_ble_eq_true rfl) (L' := [_, _, _, _, _, _]) (by rfl) ?_
        refine r_aload_n dX2_carryForth_26 rfl (by rfl) ?_
        refine r_get_r kX2_18 dX2_carryForth_27 KD_2 (RHO_2_2 _) ?_
        refine r_iload dX2_carryForth_30 (by rfl) ?_
        refine r_callN2 (ct_X5_at KD_3 (by decide) _ (by omega) (by omega)) fX5_at qX2_47 dX2_carryForth_32 (by decide) ⟨Nat.zero_le _, Nat.zero_le _⟩ (Nat.le_of_ble_eq_true rfl) ?_
        rw [sr_off _ _ (show (3 : Nat) ≠ 15 by decide)]
        rcases (show (σ 3 s.toNat) = 1 ∨ (σ 3 s.toNat) = 2 ∨ (σ 3 s.toNat) = 3 ∨ ((σ 3 s.toNat) < 1 ∨ 3 < (σ 3 s.toNat)) by omega) with t_2 | t_2 | t_2 | t_2
        · refine r_tsw (tgt := 60) (a := (σ 3 s.toNat)) dX2_carryForth_35 (by unfold inR; omega) (by omega) (by omega) (by rw [t_2]; rfl) (by decide) ?_
          refine r_aload_n dX2_carryForth_60 rfl (by rfl) ?_
          refine r_iload dX2_carryForth_61 (by rfl) ?_
          refine r_aload_n dX2_carryForth_63 rfl (by rfl) ?_
          refine r_get_r kX2_22 dX2_carryForth_64 KD_2 (RHO_2_3 _) ?_
          refine r_iload dX2_carryForth_67 (by rfl) ?_
          refine r_callN2 (ct_X5_at KD_4 (by decide) _ (by omega) (by omega)) fX5_at qX2_47 dX2_carryForth_69 (by decide) ⟨Nat.zero_le _, Nat.zero_le _⟩ (Nat.le_of_ble_eq_true rfl) ?_
          rw [sr_off _ _ (show (4 : Nat) ≠ 15 by decide)]
          refine r_callN3 (ct_X5_put KD_15 (by decide) _ (by omega) (by omega) _) fX5_put qX2_82 dX2_carryForth_72 (by decide) ⟨Nat.zero_le _, Nat.zero_le _⟩ (Nat.le_of_ble_eq_true rfl) ?_
          refine r_goto (tgt := 119) dX2_carryForth_75 (by decide) ?_
          refine r_iinc dX2_carryForth_119 (by rfl) (Nat.le_of_ble_eq_true rfl) (L' := [_, _, _, _, _, _]) (by rfl) ?_
          refine r_goto (tgt := 5) dX2_carryForth_122 (by decide) ?_
          refine WP.wk (L' := [_, _, _, _, _, none]) (leL_s (leL_s (leL_s (leL_s (leL_s (leL_n leL_0)))))) ?_
          refine WP.mem (σ' := sr σ 15 (cf σ (σ 15) a.toNat (s + 1 - 1 - a).toNat)) ?_ (ih (s + 1) (by omega) (by omega) (by omega))
          rw [show (s + 1 - 1 - a).toNat = (s - 1 - a).toNat + 1 by omega]
          show _ = sr σ 15 (cfS σ (cf σ (σ 15) a.toNat (s - 1 - a).toNat) (a.toNat + (s - 1 - a).toNat + 1))
          rw [← hve, show a.toNat + (s - 1 - a).toNat + 1 = s.toNat by omega]
          unfold cfS
          first | (rw [up2_15, if_pos (show σ 3 s.toNat = 1 by omega)]; done) | (rw [up2_15, if_neg (show ¬ σ 3 s.toNat = 1 by omega), if_pos (show σ 3 s.toNat = 2 by omega)]; done) | (rw [up2_15, if_neg (show ¬ σ 3 s.toNat = 1 by omega), if_neg (show ¬ σ 3 s.toNat = 2 by omega), if_pos (show σ 3 s.toNat = 3 by omega)]; first | done | rfl) | (rw [if_neg (show ¬ σ 3 s.toNat = 1 by omega), if_neg (show ¬ σ 3 s.toNat = 2 by omega), if_neg (show ¬ σ 3 s.toNat = 3 by omega)]; done)
        · refine r_tsw (tgt := 78) (a := (σ 3 s.toNat)) dX2_carryForth_35 (by unfold inR; omega) (by omega) (by omega) (by rw [t_2]; rfl) (by decide) ?_
          refine r_aload_n dX2_carryForth_78 rfl (by rfl) ?_
          refine r_iload dX2_carryForth_79 (by rfl) ?_
          refine r_iload dX2_carryForth_81 (by rfl) ?_
          refine r_callN3 (ct_X5_put KD_15 (by decide) _ (by omega) (by omega) _) fX5_put qX2_82 dX2_carryForth_83 (by decide) ⟨Nat.zero_le _, Nat.zero_le _⟩ (Nat.le_of_ble_eq_true rfl) ?_
          refine r_goto (tgt := 119) dX2_carryForth_86 (by decide) ?_
          refine r_iinc dX2_carryForth_119 (by rfl) (Nat.le_of_ble_eq_true rfl) (L' := [_, _, _, _, _, _]) (by rfl) ?_
          refine r_goto (tgt := 5) dX2_carryForth_122 (by decide) ?_
          refine WP.wk (L' := [_, _, _, _, _, none]) (leL_s (leL_s (leL_s (leL_s (leL_s (leL_n leL_0)))))) ?_
          refine WP.mem (σ' := sr σ 15 (cf σ (σ 15) a.toNat (s + 1 - 1 - a).toNat)) ?_ (ih (s + 1) (by omega) (by omega) (by omega))
          rw [show (s + 1 - 1 - a).toNat = (s - 1 - a).toNat + 1 by omega]
          show _ = sr σ 15 (cfS σ (cf σ (σ 15) a.toNat (s - 1 - a).toNat) (a.toNat + (s - 1 - a).toNat + 1))
          rw [← hve, show a.toNat + (s - 1 - a).toNat + 1 = s.toNat by omega]
          unfold cfS
          first | (rw [up2_15, if_pos (show σ 3 s.toNat = 1 by omega)]; done) | (rw [up2_15, if_neg (show ¬ σ 3 s.toNat = 1 by omega), if_pos (show σ 3 s.toNat = 2 by omega)]; done) | (rw [up2_15, if_neg (show ¬ σ 3 s.toNat = 1 by omega), if_neg (show ¬ σ 3 s.toNat = 2 by omega), if_pos (show σ 3 s.toNat = 3 by omega)]; first | done | rfl) | (rw [if_neg (show ¬ σ 3 s.toNat = 1 by omega), if_neg (show ¬ σ 3 s.toNat = 2 by omega), if_neg (show ¬ σ 3 s.toNat = 3 by omega)]; done)
        · refine r_tsw (tgt := 89) (a := (σ 3 s.toNat)) dX2_carryForth_35 (by unfold inR; omega) (by omega) (by omega) (by rw [t_2]; rfl) (by decide) ?_
          refine r_aload_n dX2_carryForth_89 rfl (by rfl) ?_
          refine r_iload dX2_carryForth_90 (by rfl) ?_
          refine r_iload dX2_carryForth_92 (by rfl) ?_
          refine r_aload_n dX2_carryForth_94 rfl (by rfl) ?_
          refine r_aload_n dX2_carryForth_95 rfl (by rfl) ?_
          refine r_get_r kX2_28 dX2_carryForth_96 KD_2 (RHO_2_5 _) ?_
          refine r_iload dX2_carryForth_99 (by rfl) ?_
          refine r_callN2 (ct_X5_at KD_6 (by decide) _ (by omega) (by omega)) fX5_at qX2_47 dX2_carryForth_101 (by decide) ⟨Nat.zero_le _, Nat.zero_le _⟩ (Nat.le_of_ble_eq_true rfl) ?_
          rw [sr_off _ _ (show (6 : Nat) ≠ 15 by decide)]
          refine r_callN2 (ct_X5_at KD_15 (by decide) _ (by omega) (by omega)) fX5_at qX2_47 dX2_carryForth_104 (by decide) ⟨Nat.zero_le _, Nat.zero_le _⟩ (Nat.le_of_ble_eq_true rfl) ?_
          rw [sr_row]
          refine r_iadd dX2_carryForth_107 ?_
          refine r_ldc (a := 99999) qc_X2_96 (by decide) dX2_carryForth_108 ?_
          refine r_min qmin_X2_97 dX2_carryForth_110 (by unfold inR; omega) (by unfold inR; omega) (by decide) (Nat.le_of_ble_eq_true rfl) ⟨Nat.zero_le _, Nat.zero_le _⟩ ?_
          refine r_callN3 (ct_X5_put KD_15 (by decide) _ (by omega) (by omega) _) fX5_put qX2_82 dX2_carryForth_113 (by decide) ⟨Nat.zero_le _, Nat.zero_le _⟩ (Nat.le_of_ble_eq_true rfl) ?_
          refine r_goto (tgt := 119) dX2_carryForth_116 (by decide) ?_
          refine r_iinc dX2_carryForth_119 (by rfl) (Nat.le_of_ble_eq_true rfl) (L' := [_, _, _, _, _, _]) (by rfl) ?_
          refine r_goto (tgt := 5) dX2_carryForth_122 (by decide) ?_
          refine WP.wk (L' := [_, _, _, _, _, none]) (leL_s (leL_s (leL_s (leL_s (leL_s (leL_n leL_0)))))) ?_
          refine WP.mem (σ' := sr σ 15 (cf σ (σ 15) a.toNat (s + 1 - 1 - a).toNat)) ?_ (ih (s + 1) (by omega) (by omega) (by omega))
          rw [show (s + 1 - 1 - a).toNat = (s - 1 - a).toNat + 1 by omega]
          show _ = sr σ 15 (cfS σ (cf σ (σ 15) a.toNat (s - 1 - a).toNat) (a.toNat + (s - 1 - a).toNat + 1))
          rw [← hve, show a.toNat + (s - 1 - a).toNat + 1 = s.toNat by omega]
          unfold cfS
          first | (rw [up2_15, if_pos (show σ 3 s.toNat = 1 by omega)]; done) | (rw [up2_15, if_neg (show ¬ σ 3 s.toNat = 1 by omega), if_pos (show σ 3 s.toNat = 2 by omega)]; done) | (rw [up2_15, if_neg (show ¬ σ 3 s.toNat = 1 by omega), if_neg (show ¬ σ 3 s.toNat = 2 by omega), if_pos (show σ 3 s.toNat = 3 by omega)]; first | done | rfl) | (rw [if_neg (show ¬ σ 3 s.toNat = 1 by omega), if_neg (show ¬ σ 3 s.toNat = 2 by omega), if_neg (show ¬ σ 3 s.toNat = 3 by omega)]; done)
        · refine r_tsd (tgt := 119) (a := (σ 3 s.toNat)) dX2_carryForth_35 (by unfold inR; omega) t_2 (by decide) ?_
          refine r_iinc dX2_carryForth_119 (by rfl) (Nat.le_of_ble_eq_true rfl) (L' := [_, _, _, _, _, _]) (by rfl) ?_
          refine r_goto (tgt := 5) dX2_carryForth_122 (by decide) ?_
          refine WP.wk (L' := [_, _, _, _, _, none]) (leL_s (leL_s (leL_s (leL_s (leL_s (leL_n leL_0)))))) ?_
          refine WP.mem (σ' := sr σ 15 (cf σ (σ 15) a.toNat (s + 1 - 1 - a).toNat)) ?_ (ih (s + 1) (by omega) (by omega) (by omega))
          rw [show (s + 1 - 1 - a).toNat = (s - 1 - a).toNat + 1 by omega]
          show _ = sr σ 15 (cfS σ (cf σ (σ 15) a.toNat (s - 1 - a).toNat) (a.toNat + (s - 1 - a).toNat + 1))
          rw [← hve, show a.toNat + (s - 1 - a).toNat + 1 = s.toNat by omega]
          unfold cfS
          first | (rw [up2_15, if_pos (show σ 3 s.toNat = 1 by omega)]; done) | (rw [up2_15, if_neg (show ¬ σ 3 s.toNat = 1 by omega), if_pos (show σ 3 s.toNat = 2 by omega)]; done) | (rw [up2_15, if_neg (show ¬ σ 3 s.toNat = 1 by omega), if_neg (show ¬ σ 3 s.toNat = 2 by omega), if_pos (show σ 3 s.toNat = 3 by omega)]; first | done | rfl) | (rw [if_neg (show ¬ σ 3 s.toNat = 1 by omega), if_neg (show ¬ σ 3 s.toNat = 2 by omega), if_neg (show ¬ σ 3 s.toNat = 3 by omega)]; done)
  refine r_iload_n dX2_carryForth_0 rfl (by rfl) ?_
  refine r_iconst dX2_carryForth_1 ?_
  refine r_iadd dX2_carryForth_2 ?_
  refine r_istore dX2_carryForth_3 (Nat.le_of_ble_eq_true rfl) (L' := [_, _, _, _, _, _]) (by rfl) ?_
  refine WP.mem (σ' := sr σ 15 (cf σ (σ 15) a.toNat (a + 1 - 1 - a).toNat)) ?_ (cut_5 (a + 30).toNat (a + 1) (by omega) (by omega) (by omega))
  rw [show (a + 1 - 1 - a).toNat = 0 by omega]
  exact (sr_self σ 15).symm

set_option maxRecDepth 100000 in
set_option maxHeartbeats 4000000 in
theorem ct_X2_carryBack {l : Launch} {G : GG} {π : Nat → Option Nat} {σ τ : ST} (hI : CI σ) (a b : Int) (ha0 : 0 ≤ a) (ha1 : a < 12) (hb0 : 0 ≤ b) (hb1 : b < 12) : Ct l G mX2_carryBack (1, 0, 0) [.ref 2, .ref 15, .int (iI a), .int (iI b)] 110 KD σ τ (RHO π) (KQ none 110 KD (sr σ 15 (cb σ (σ 15) a.toNat (a - b).toNat)) τ (RHO π)) := by
  refine ct_intro (own := "ShapedRows$Shapes") rfl (by decide +kernel) (Nat.le_of_ble_eq_true rfl) (L := _) rfl ?_
  have cut_3 : ∀ (N : Nat) (s : Int), (s ≤ a) → (b ≤ s ∨ s = a) → s - a + 13 < (N : Int) → WP l G "ShapedRows$Shapes" mX2_carryBack (1, 0, 0) (KQ none 110 KD (sr σ 15 (cb σ (σ 15) a.toNat (a - b).toNat)) τ (RHO π)) noX 110 3 [some (.ref 2), some (.ref 15), some (.int (iI a)), some (.int (iI b)), some (.int (iI s))] [] 110 KD (sr σ 15 (cb σ (σ 15) a.toNat (a - s).toNat)) τ (RHO π) 0 0 := by
    intro N
    induction N with
    | zero => intro s s0 s1 hm; exact absurd hm (by omega)
    | succ N ih =>
      intro s s0 s1 hm
      obtain ⟨v, hve⟩ : ∃ v, v = cb σ (σ 15) a.toNat (a - s).toNat := ⟨_, rfl⟩
      rw [← hve]
      have h3 := hI.ch s.toNat
      have h5 := hI.so s.toNat
      refine r_iload dX2_carryBack_3 (by rfl) ?_
      refine r_iload_n dX2_carryBack_5 rfl (by rfl) ?_
      refine r_icmp_le (tgt := 50) dX2_carryBack_6 (by decide) (by unfold inR; omega) (by unfold inR; omega) (fun c_1 => ?_) (fun c_1 => ?_)
      · exact r_ret_v dX2_carryBack_50 rfl ⟨Nat.zero_le _, Nat.zero_le _⟩ ⟨rfl, rfl, (by rw [hve, show (a - s).toNat = (a - b).toNat by omega]), rfl, rfl⟩
      · refine r_aload_n dX2_carryBack_9 rfl (by rfl) ?_
        refine r_get_r kX2_18 dX2_carryBack_10 KD_2 (RHO_2_2 _) ?_
        refine r_iload dX2_carryBack_13 (by rfl) ?_
        refine r_callN2 (ct_X5_at KD_3 (by decide) _ (by omega) (by omega)) fX5_at qX2_47 dX2_carryBack_15 (by decide) ⟨Nat.zero_le _, Nat.zero_le _⟩ (Nat.le_of_ble_eq_true rfl) ?_
        refine r_iconst dX2_carryBack_18 ?_
        rw [sr_off _ _ (show (3 : Nat) ≠ 15 by decide)]
        refine r_icmp_ne (tgt := 44) dX2_carryBack_19 (by decide) (by unfold inR; omega) (by unfold inR; omega) (fun c_2 => ?_) (fun c_2 => ?_)
        · refine r_iinc dX2_carryBack_44 (by rfl) (Nat.le_of_ble_eq_true rfl) (L' := [_, _, _, _, _]) (by rfl) ?_
          refine r_goto (tgt := 3) dX2_carryBack_47 (by decide) ?_
          refine WP.mem (σ' := sr σ 15 (cb σ (σ 15) a.toNat (a - (s + -1)).toNat)) ?_ (ih (s + -1) (by omega) (by omega) (by omega))
          rw [show (a - (s + -1)).toNat = (a - s).toNat + 1 by omega]
          show _ = sr σ 15 (cbS σ (cb σ (σ 15) a.toNat (a - s).toNat) (a.toNat - (a - s).toNat))
          rw [← hve, show a.toNat - (a - s).toNat = s.toNat by omega]
          unfold cbS
          first | (rw [up2_15, if_pos (by omega)]; done) | (rw [if_neg (by omega)]; done)
        · refine r_aload_n dX2_carryBack_22 rfl (by rfl) ?_
          refine r_aload_n dX2_carryBack_23 rfl (by rfl) ?_
          refine r_get_r kX2_25 dX2_carryBack_24 KD_2 (RHO_2_4 _) ?_
          refine r_iload dX2_carryBack_27 (by rfl) ?_
          refine r_callN2 (ct_X5_at KD_5 (by decide) _ (by omega) (by omega)) fX5_at qX2_47 dX2_carryBack_29 (by decide) ⟨Nat.zero_le _, Nat.zero_le _⟩ (Nat.le_of_ble_eq_true rfl) ?_
          rw [sr_off _ _ (show (5 : Nat) ≠ 15 by decide)]
          refine r_aload_n dX2_carryBack_32 rfl (by rfl) ?_
          refine r_get_r kX2_22 dX2_carryBack_33 KD_2 (RHO_2_3 _) ?_
          refine r_iload dX2_carryBack_36 (by rfl) ?_
          refine r_callN2 (ct_X5_at KD_4 (by decide) _ (by omega) (by omega)) fX5_at qX2_47 dX2_carryBack_38 (by decide) ⟨Nat.zero_le _, Nat.zero_le _⟩ (Nat.le_of_ble_eq_true rfl) ?_
          rw [sr_off _ _ (show (4 : Nat) ≠ 15 by decide)]
          refine r_callN3 (ct_X5_put KD_15 (by decide) _ (by omega) (by omega) _) fX5_put qX2_82 dX2_carryBack_41 (by decide) ⟨Nat.zero_le _, Nat.zero_le _⟩ (Nat.le_of_ble_eq_true rfl) ?_
          refine r_iinc dX2_carryBack_44 (by rfl) (Nat.le_of_ble_eq_true rfl) (L' := [_, _, _, _, _]) (by rfl) ?_
          refine r_goto (tgt := 3) dX2_carryBack_47 (by decide) ?_
          refine WP.mem (σ' := sr σ 15 (cb σ (σ 15) a.toNat (a - (s + -1)).toNat)) ?_ (ih (s + -1) (by omega) (by omega) (by omega))
          rw [show (a - (s + -1)).toNat = (a - s).toNat + 1 by omega]
          show _ = sr σ 15 (cbS σ (cb σ (σ 15) a.toNat (a - s).toNat) (a.toNat - (a - s).toNat))
          rw [← hve, show a.toNat - (a - s).toNat = s.toNat by omega]
          unfold cbS
          first | (rw [up2_15, if_pos (by omega)]; done) | (rw [if_neg (by omega)]; done)
  refine r_iload_n dX2_carryBack_0 rfl (by rfl) ?_
  refine r_istore dX2_carryBack_1 (Nat.le_of_ble_eq_true rfl) (L' := [_, _, _, _, _]) (by rfl) ?_
  refine WP.mem (σ' := sr σ 15 (cb σ (σ 15) a.toNat (a - a).toNat)) ?_ (cut_3 30 a (by omega) (by omega) (by omega))
  rw [show (a - a).toNat = 0 by omega]
  exact (sr_self σ 15).symm
