/-! rows that allocate: the memory grows by one place -/
def kdN (n : Nat) : KT := fun p => if p < n then KD p else (9, 0)
theorem kdN_in {n p : Nat} (h : p < n) : kdN n p = KD p := if_pos h
theorem kdN_off {n p : Nat} (h : p ≠ n) : kdN (n + 1) p = kdN n p := by
  unfold kdN
  by_cases h1 : p < n
  · rw [if_pos h1, if_pos (by omega)]
  · rw [if_neg h1, if_neg (by omega)]
theorem oi_tb : Cond.instanceMethod objectInit ∈ TBg := (tb_in 42 (by decide +kernel) rfl)
theorem oi_code : Cond.code objectInit ⟨#[0xb1]⟩ 1 none ∈ TBg := (tb_in 43 (by decide +kernel) rfl)
theorem ao_int : Cond.arrayClass .int ∈ TBg := (tb_in 84 (by decide +kernel) rfl)

theorem cl_0 : CLk 0 2 "ShapedRows$History" := ⟨TX0, tyX0, rfl, uX0, tyX0_ok, by decide +kernel, (tb_in 129 (by decide +kernel) rfl), (tb_in 26 (by decide +kernel) rfl)⟩
theorem cl_1 : CLk 1 7 "ShapedRows$Rows" := ⟨TX1, tyX1, rfl, uX1, tyX1_ok, by decide +kernel, (tb_in 86 (by decide +kernel) rfl), (tb_in 25 (by decide +kernel) rfl)⟩
theorem cl_2 : CLk 2 9 "ShapedRows$Shapes" := ⟨TX2, tyX2, rfl, uX2, tyX2_ok, by decide +kernel, (tb_in 51 (by decide +kernel) rfl), (tb_in 24 (by decide +kernel) rfl)⟩
theorem cl_3 : CLk 3 4 "ShapedRows$State" := ⟨TX3, tyX3, rfl, uX3, tyX3_ok, by decide +kernel, (tb_in 45 (by decide +kernel) rfl), (tb_in 23 (by decide +kernel) rfl)⟩
theorem cl_4 : CLk 4 2 "ShapedRows$Text" := ⟨TX4, tyX4, rfl, uX4, tyX4_ok, by decide +kernel, (tb_in 145 (by decide +kernel) rfl), (tb_in 27 (by decide +kernel) rfl)⟩
theorem cl_5 : CLk 5 3 "ShapedRows" := ⟨TX5, tyX5, rfl, uX5, tyX5_ok, by decide +kernel, (tb_in 37 (by decide +kernel) rfl), (tb_in 22 (by decide +kernel) rfl)⟩
theorem nl_L_9 : Cond.classLink "ShapedRowsLaw" 9 "ShapedRows" ∈ TBg := (tb_in 36 (by decide +kernel) rfl)
theorem nl_5_7 : Cond.classLink "ShapedRows" 7 "ShapedRows$State" ∈ TBg := (tb_in 44 (by decide +kernel) rfl)
theorem nl_5_16 : Cond.classLink "ShapedRows" 16 "ShapedRows$History" ∈ TBg := (tb_in 128 (by decide +kernel) rfl)
theorem nl_5_23 : Cond.classLink "ShapedRows" 23 "ShapedRows$Text" ∈ TBg := (tb_in 144 (by decide +kernel) rfl)
theorem nl_3_9 : Cond.classLink "ShapedRows$State" 9 "ShapedRows$Shapes" ∈ TBg := (tb_in 50 (by decide +kernel) rfl)
theorem nl_3_18 : Cond.classLink "ShapedRows$State" 18 "ShapedRows$Rows" ∈ TBg := (tb_in 85 (by decide +kernel) rfl)
theorem nl_0_9 : Cond.classLink "ShapedRows$History" 9 "ShapedRows$State" ∈ TBg := (tb_in 134 (by decide +kernel) rfl)
theorem oi_5 : Cond.methodLink "ShapedRows" 1 objectInit ∈ TBg := (tb_in 41 (by decide +kernel) rfl)
theorem oi_3 : Cond.methodLink "ShapedRows$State" 3 objectInit ∈ TBg := (tb_in 49 (by decide +kernel) rfl)
theorem oi_2 : Cond.methodLink "ShapedRows$Shapes" 3 objectInit ∈ TBg := (tb_in 55 (by decide +kernel) rfl)
theorem oi_1 : Cond.methodLink "ShapedRows$Rows" 3 objectInit ∈ TBg := (tb_in 90 (by decide +kernel) rfl)
theorem oi_0 : Cond.methodLink "ShapedRows$History" 3 objectInit ∈ TBg := (tb_in 133 (by decide +kernel) rfl)
theorem oi_4 : Cond.methodLink "ShapedRows$Text" 3 objectInit ∈ TBg := (tb_in 149 (by decide +kernel) rfl)

theorem RepH.push {G : GG} {n : Nat} {σ τ : ST} {ρ : RT} {ad : Nat → Nat} {H H1 : Heap} {q : Nat} {e : va_E} (hH : RepH G ad n (kdN n) σ τ ρ H) (hn : (KD n).1 < 9) (hr : ρ n = fun _ => none) (he : e = ce G ad (KD n) (σ n) (τ n) (ρ n)) (hP : va_P G.2.1 vwCl (wl G ad n (kdN n) σ τ ρ ++ [(q, e)]) H1) (hD : va_D (fun q => G.1 ≤ q) (wl G ad n (kdN n) σ τ ρ ++ [(q, e)])) (hz : G.1 ≤ H1.size) : RepH G (va_up ad n q) (n + 1) (kdN (n + 1)) σ τ ρ H1 := by
  have e1 : wl G ad n (kdN n) σ τ ρ ++ [(q, e)] = wl G (va_up ad n q) (n + 1) (kdN (n + 1)) σ τ ρ := wl_push hH.2.2.2.1 (fun p hp => ⟨kdN_off hp, rfl, rfl, rfl⟩) (fun ad' => by
    rw [kdN_in (Nat.lt_succ_self n), he]
    exact ce_ad (fun k q hq => by rw [hr] at hq; cases hq))
  rw [e1] at hP hD
  refine ⟨hP, hD, fun p hp => ?_, fun p k z hz => Nat.lt_succ_of_lt (hH.2.2.2.1 p k z hz), hz⟩
  by_cases h : p < n + 1
  · exact h
  · unfold kdN at hp
    rw [if_neg h] at hp
    exact absurd hp (by decide)
def WPA (l : Launch) (G : GG) (own : String) (X : MI) (dm : Nat × Nat × Nat) (K : KK) (KE : KX) (n0 pc : Nat) (L : List (Option Value)) (S : List Value) (n : Nat) (kd : KT) (σ τ : ST) (ρ : RT) (ce sl : Nat) : Prop :=
  ∀ (ad0 ad : Nat → Nat) (p : Program) (e : Env) (R : Room) (s : State) (m : MethodId) (args : Array Value) (below : List Frame) (meth : Method) (c : Code) (H : Heap) (locs : List Loc) (ls : Array Slot) (Z : State → Prop),
    Cx l G own X dm K KE n0 ad0 p e R s m args below meth c Z → va_AO "ShapedRows$State" s → (∀ p, p < n0 → ad p = ad0 p) → RepH G ad n kd σ τ ρ H → va_S (fun q => G.1 ≤ q) s.heap H locs → LsOK X.2.2.1 ls (trL ad L) → W p l e R s m args below meth c H locs ce sl Z (F0 m pc ls (S.map (trv ad)))
def CtA (l : Launch) (G : GG) (X : MI) (dm : Nat × Nat × Nat) (as : List Value) (n : Nat) (kd : KT) (σ τ : ST) (ρ : RT) (K : KK) : Prop :=
  ∀ ad : Nat → Nat, Met l X.1 (wsM X) (rmD dm) (va_Pc (as.map (trv ad)) (fun U => CtP G ad n kd σ τ ρ U ∧ va_AO "ShapedRows$State" U)) (CtQ G n ad K) dm.2.1 dm.2.2 (fun q => G.1 ≤ q)
theorem ctA_intro {own : String} {l : Launch} {G : GG} {X : MI} {dm : Nat × Nat × Nat} {as : List Value} {n : Nat} {kd : KT} {σ τ : ST} {ρ : RT} {K : KK} (ho : X.1.cls = own) (hy : plainName X.1.cls = true) (hl : (argO as).length ≤ X.2.2.1) {L : List (Option Value)} (hL : argL as X.2.2.1 = L) (w : WPA l G own X dm K noX n 0 L [] n kd σ τ ρ 0 0) : CtA l G X dm as n kd σ τ ρ K := by
  subst hL
  subst ho
  intro ad
  refine Met.ofW (cc := X.2.1) (maxL := X.2.2.1) (ret := X.2.2.2) hy rfl ?_
  intro p e s m args below meth c s₁ B hml hv
  obtain ⟨rfl, ⟨hH, henv⟩, hB⟩ := hv
  have hlocks := B.notSynchronized
  rw [lg_entry_eq]
  exact w ad ad p e _ s m _ below meth c s.heap [] _ _ ⟨B.exec, B.bytes, hml, findClass_of_methodNamed B.named, fun q hq => atoms_spec (ws := wsM X) B.pre q (List.mem_cons_of_mem _ hq), hlocks, henv, ⟨Nat.le_refl _, Nat.le_refl _, Nat.le_refl _, Nat.le_refl _⟩, (name_of_methodNamed B.named B.method).1,
    fun v ad' n' kd' σ' τ' ρ' H' locs' ls' pc' S' ce' sl' hK ha hH' hS' hc hs hsc hR => ct_exit B.exec B.bytes B.returns hlocks hK ha hH' hS' hc hs hsc hR, fun _ _ _ _ _ _ _ _ _ _ _ _ _ hK => hK.elim⟩ hB (fun _ _ => rfl) hH va_S.rf (argL_ok (by rw [lg_sl_tr]; exact hl))
theorem ctA_blind {G : GG} {ad : Nat → Nat} {as : List Value} {n : Nat} {kd : KT} {σ τ : ST} {ρ : RT} : FrameBlind (va_Pc (as.map (trv ad)) (fun U => CtP G ad n kd σ τ ρ U ∧ va_AO "ShapedRows$State" U)) := fun a U g mk h => ⟨h.1, ⟨h.2.1.1, EnvP.same (s := U) (U := U.calling g mk a) rfl rfl h.2.1.2⟩, h.2.2⟩
section Rows71
variable {l : Launch} {G : GG} {own : String} {X : MI} {dm : Nat × Nat × Nat} {K : KK} {KE : KX} {n0 pc : Nat} {L : List (Option Value)} {S : List Value} {n : Nat} {kd : KT} {σ τ : ST} {ρ : RT} {ce sl : Nat}
theorem r_objInit {idx p : Nat} (hl : Cond.methodLink own idx objectInit ∈ TBg) (hd : decode X.2.1 pc = .ok (.invokespecial idx, 3)) (hdm : 1 ≤ dm.1) (hrest : (S.map (fun v => v.category)).sum ≤ 8) (k : WP l G own X dm K KE n0 (pc + 3) L S n kd σ τ ρ ce sl) : WP l G own X dm K KE n0 pc L (.ref p :: S) n kd σ τ ρ ce sl := by
  intro ad0 ad p9 e R s m args below meth c H locs ls Z C ha hH hS hL
  obtain ⟨hx, hb, hml, hown, hts, hlk, henv, hR, -⟩ := id C
  refine W.objInit hx hb hown (hts _ hl) (hts _ oi_tb) (hts _ oi_code) rfl (by rw [hml]; exact hL.1) rfl hd (by omega) ?_ ?_
  · have := lv_room (m := m) (pc := pc) (ls := ls) (rest := (Value.ref p :: S).map (trv ad)) (st := S.map (trv ad)) (cats_tr (ad := ad) hrest)
    omega
  · exact W.eq (g2 := F0 m (pc + 3) ls (S.map (trv ad))) rfl (k ad0 ad p9 e R s m args below meth c H locs ls Z C ha hH hS hL)
theorem va_up_keep {ad ad0 : Nat → Nat} {q : Nat} (h0 : n0 ≤ n) (ha : ∀ p, p < n0 → ad p = ad0 p) : ∀ p, p < n0 → va_up ad n q p = ad0 p := fun p hp => (va_up_ne _ _ (by omega)).trans (ha p hp)
theorem trv_up {ad : Nat → Nat} {q : Nat} {v : Value} (h : scb n v = true) : trv (va_up ad n q) v = trv ad v := trv_ad (fun p hp => va_up_ne _ _ (by omega)) h
theorem map_up {ad : Nat → Nat} {q : Nat} {S : List Value} (h : ∀ v ∈ S, scb n v = true) : S.map (trv (va_up ad n q)) = S.map (trv ad) := List.map_congr_left (fun v hv => trv_up (h v hv))
theorem trL_up {ad : Nat → Nat} {q : Nat} {L : List (Option Value)} (h : ∀ v ∈ L, ∀ w, v = some w → scb n w = true) : trL (va_up ad n q) L = trL ad L := List.map_congr_left (fun v hv => by
  cases v with
  | none => rfl
  | some w => exact congrArg some (trv_up (h _ hv w rfl)))
def okS (n : Nat) (S : List Value) : Bool := S.all (scb n)
def okL (n : Nat) (L : List (Option Value)) : Bool := L.all (fun v => match v with | none => true | some w => scb n w)
theorem okS_in {S : List Value} (h : okS n S = true) : ∀ v ∈ S, scb n v = true := List.all_eq_true.mp h
theorem okL_in {L : List (Option Value)} (h : okL n L = true) : ∀ v ∈ L, ∀ w, v = some w → scb n w = true := fun v hv w e => by
  have := List.all_eq_true.mp h v hv
  rw [e] at this
  exact this
theorem r_new {idx ci N : Nat} {C : String} (hc : CLk ci N C) (hl : Cond.classLink own idx C ∈ TBg) (hd : decode X.2.1 pc = .ok (.new idx, 3)) (hk : KD n = (0, ci)) (h0 : n0 ≤ n) (hσ : σ n = fun _ => 0) (hτ : τ n = fun _ => 0) (hρ : ρ n = fun _ => none) (hS' : okS n S = true) (hL' : okL n L = true) (hcs : ce + 1 ≤ dm.2.1 ∧ sl + N ≤ dm.2.2)
    (kk : WP l G own X dm K KE n0 (pc + 3) L (.ref n :: S) (n + 1) (kdN (n + 1)) σ τ ρ (ce + 1) (sl + N)) : WP l G own X dm K KE n0 pc L S n (kdN n) σ τ ρ ce sl := by
  intro ad0 ad p9 e R s m args below meth c H locs ls Z C9 ha hH hS hL
  obtain ⟨hx, hb, hml, hown, hts, hlk, henv, hR, -⟩ := id C9
  obtain ⟨T, ty0, g1, g2, g3, g4, g5, g6⟩ := hc
  refine va_new hx hb hts g2 ty0 g3 hown (hts _ hl) (hts _ g5) (hts _ g6) henv.1 hH.1 hH.2.1 hS (fun q hq => Nat.le_trans henv.2.2.2.2.2.2.2 hq) g1 g4 (Nat.le_trans hcs.1 hR.2.2.1) (Nat.le_trans hcs.2 hR.2.2.2) hd (fun q H1 hP hD hS1 => ?_)
  have hH1 : RepH G (va_up ad n q) (n + 1) (kdN (n + 1)) σ τ ρ H1 := RepH.push hH (by rw [hk]; exact Nat.le_of_ble_eq_true rfl) hρ (by rw [hk, hσ, hτ, hρ]; rfl) hP hD (Nat.le_trans henv.2.2.2.2.2.2.2 hS1.1)
  have := kk ad0 (va_up ad n q) p9 e R s m args below meth c H1 locs ls Z C9 (va_up_keep h0 ha) hH1 hS1 (by rw [trL_up (okL_in hL')]; exact hL)
  have e2 : ((.ref n : Value) :: S).map (trv (va_up ad n q)) = .ref q :: S.map (trv ad) := by
    show Value.ref (va_up ad n q n) :: S.map (trv (va_up ad n q)) = _
    rw [va_up_self, map_up (okS_in hS')]
  rw [e2] at this
  exact this
theorem r_newI {len : Nat} (hd : decode X.2.1 pc = .ok (.newarray .int, 2)) (hk : KD n = (1, len)) (hlen : len < 100000) (h0 : n0 ≤ n) (hσ : σ n = fun _ => 0) (hρ : ρ n = fun _ => none) (hS' : okS n S = true) (hL' : okL n L = true) (hcs : ce + 1 ≤ dm.2.1 ∧ sl + len ≤ dm.2.2)
    (kk : WP l G own X dm K KE n0 (pc + 2) L (.ref n :: S) (n + 1) (kdN (n + 1)) σ τ ρ (ce + 1) (sl + len)) : WP l G own X dm K KE n0 pc L (.int (iI (len : Int)) :: S) n (kdN n) σ τ ρ ce sl := by
  intro ad0 ad p9 e R s m args below meth c H locs ls Z C9 ha hH hS hL
  obtain ⟨hx, hb, hml, hown, hts, hlk, henv, hR, -⟩ := id C9
  refine va_newa (ty := .int) (N' := len) (a0 := (len, .inl (fun _ => iI 0))) hx hb (atype := .int) (hts _ ao_int) rfl henv.1 hH.1 hH.2.1 hS (fun q hq => Nat.le_trans henv.2.2.2.2.2.2.2 hq) (fun cA => rfl) (fun h => (iI_in (n := 100000) hlen (by decide)) (Or.inl h)) (iI_clamp (by omega)) (by show len * 4 ≤ 536870912; omega) (Nat.le_trans hcs.1 hR.2.2.1) (Nat.le_trans hcs.2 hR.2.2.2) hd (fun q cA H1 hK1 hP hD hS1 => ?_)
  have e1 : cA = G.2.2.1 := Option.some.inj ((va_nm_int ((hK1.2 3 (cA, .int) rfl).2)).symm.trans (va_nm_int ((henv.1.2 0 (G.2.2.1, .int) rfl).2)))
  have hH1 : RepH G (va_up ad n q) (n + 1) (kdN (n + 1)) σ τ ρ H1 := RepH.push hH (by rw [hk]; exact Nat.le_of_ble_eq_true rfl) hρ (by rw [hk, hσ, e1]; rfl) hP hD (Nat.le_trans henv.2.2.2.2.2.2.2 hS1.1)
  have := kk ad0 (va_up ad n q) p9 e R s m args below meth c H1 locs ls Z C9 (va_up_keep h0 ha) hH1 hS1 (by rw [trL_up (okL_in hL')]; exact hL)
  have e2 : ((.ref n : Value) :: S).map (trv (va_up ad n q)) = .ref q :: S.map (trv ad) := by
    show Value.ref (va_up ad n q n) :: S.map (trv (va_up ad n q)) = _
    rw [va_up_self, map_up (okS_in hS')]
  rw [e2] at this
  exact this
theorem r_callI {Y : MI} {d' idx p c' s' n1 : Nat} {σ1 : ST} {kd1 : KT} {ρ1 : RT} (hM : Ct l G Y (d', c', s') [.ref p] n kd σ τ ρ (KQ none n1 kd1 σ1 τ ρ1)) (hm : MFI Y 0) (hl : Cond.methodLink own idx Y.1 ∈ TBg) (hd : decode X.2.1 pc = .ok (.invokespecial idx, 3)) (hn : n ≤ n1) (hn0 : n0 ≤ n) (hS' : okS n S = true) (hL' : okL n L = true) (hdm : d' + 1 ≤ dm.1 ∧ Y.2.2.1 ≤ 18) (hcs : ce + c' ≤ dm.2.1 ∧ sl + s' ≤ dm.2.2) (hrest : (S.map (fun v => v.category)).sum ≤ 8) (kk : WP l G own X dm K KE n0 (pc + 3) L S n1 kd1 σ1 τ ρ1 (ce + c') (sl + s')) : WP l G own X dm K KE n0 pc L (.ref p :: S) n kd σ τ ρ ce sl := by
  intro ad0 ad p9 e R s m args below meth c H locs ls Z C ha hH hS hL
  obtain ⟨hx, hb, hml, hown, hts, hlk, henv, hR, -⟩ := id C
  obtain ⟨g1, g2, g3, g4, g5, g6⟩ := hm
  refine w_call (K1 := KQ none n1 kd1 σ1 τ ρ1) (ad := ad) (n := n) (rest := S.map (trv ad)) (va_runI (As := []) (b := ad p) ⟨hx, hb, hml, hown, hts⟩ (hM ad) ⟨by
    have cb := callB_of (own := own) (index := idx) (maxL := Y.2.2.1) (bytes := Y.2.1) (ret := Y.2.2.2) (y := Y.1) (R := R) (s := s) (args := args) (rm := rmD (d', c', s')) 0 hts (gin g5) rfl rfl rfl (hts _ g4) (hts _ hl) g6 ⟨Nat.le_trans hdm.1 hR.1, Nat.le_trans (by show 8 + (Y.2.2.1 + 11) + 37 * d' ≤ 37 * dm.1; omega) hR.2.1⟩
    rw [g2] at cb
    exact cb, g1, hts _ g3⟩ ⟨ct_blind, fun U hU hW => ⟨rfl, by rw [hU]; exact hH, env_in henv hS hU hW⟩⟩ rfl rfl hL.1 rfl (lv_room (cats_tr hrest)) hd ⟨Nat.le_trans hcs.1 hR.2.2.1, Nat.le_trans hcs.2 hR.2.2.2⟩) hS (fun v ad' n' kd' σ' τ' ρ' H1 locs1 hK ha' hH1 hS1 hsc => ?_)
  obtain ⟨rfl, rfl, rfl, rfl, rfl, rfl⟩ := hK
  have e1 : S.map (trv ad') = S.map (trv ad) := List.map_congr_left (fun v hv => trv_ad ha' (okS_in hS' v hv))
  have e2 : trL ad' L = trL ad L := List.map_congr_left (fun v hv => by
    cases v with
    | none => rfl
    | some w => exact congrArg some (trv_ad ha' (okL_in hL' _ hv w rfl)))
  have := kk ad0 ad' p9 e R s m args below meth c H1 locs1 ls Z C (fun p hp => (ha' p (by omega)).trans (ha p hp)) hH1 hS1 (by rw [e2]; exact hL)
  rw [e1] at this
  exact this
theorem WPA.of (k : WP l G own X dm K KE n0 pc L S n kd σ τ ρ ce sl) : WPA l G own X dm K KE n0 pc L S n kd σ τ ρ ce sl := fun ad0 ad p e R s m args below meth c H locs ls Z C hB ha hH hS hL => k ad0 ad p e R s m args below meth c H locs ls Z C ha hH hS hL
theorem rA_pure {pc' : Nat} {S' : List Value} (h : ∀ (ad : Nat → Nat) (p : Program) (e : Env) (R : Room) (s : State) (m : MethodId) (args : Array Value) (below : List Frame) (meth : Method) (c : Code) (H : Heap) (locs : List Loc) (ls : Array Slot) (Z : State → Prop), p.tables.exec = Jvm.exec → c.code = X.2.1 → LsOK X.2.2.1 ls (trL ad L) → s.vm.findClass own = some m.cls → (∀ w ∈ TBg, w.before args s = true) →
    W p l e R s m args below meth c H locs ce sl Z (F0 m pc' ls (S'.map (trv ad))) → W p l e R s m args below meth c H locs ce sl Z (F0 m pc ls (S.map (trv ad))))
    (k : WPA l G own X dm K KE n0 pc' L S' n kd σ τ ρ ce sl) : WPA l G own X dm K KE n0 pc L S n kd σ τ ρ ce sl := by
  intro ad0 ad p e R s m args below meth c H locs ls Z C hB ha hH hS hL
  obtain ⟨hx, hb, hml, hown, hts, -⟩ := id C
  exact h ad p e R s m args below meth c H locs ls Z hx hb hL hown hts (k ad0 ad p e R s m args below meth c H locs ls Z C hB ha hH hS hL)
theorem rA_bipush {z : Int} (hd : decode X.2.1 pc = .ok (.bipush z, 2)) (hv : (Int8.ofInt z).toInt32 = iI z) (k : WPA l G own X dm K KE n0 (pc + 2) L (.int (iI z) :: S) n kd σ τ ρ ce sl) : WPA l G own X dm K KE n0 pc L (S) n kd σ τ ρ ce sl :=
  rA_pure (fun ad p e R s m args below meth c H locs ls Z hx hb hL hown hts kk => lv_bipush hx hb hd hv kk) k
theorem rA_aload_n {q : Fin 4} {i a : Nat} (hd : decode X.2.1 pc = .ok (.aload_n q, 1)) (hi : (q : Nat) = i) (hl : L[i]? = some (some (.ref a))) (k : WPA l G own X dm K KE n0 (pc + 1) L (.ref a :: S) n kd σ τ ρ ce sl) : WPA l G own X dm K KE n0 pc L (S) n kd σ τ ρ ce sl :=
  rA_pure (fun ad p e R s m args below meth c H locs ls Z hx hb hL hown hts kk => lv_aload_n hx hb hd hi (hL.2.2 i _ (trL_get hl)) kk) k
theorem rA_dup {v : Value} (hd : decode X.2.1 pc = .ok (.dup, 1)) (hv : v.category = 1) (k : WPA l G own X dm K KE n0 (pc + 1) L (v :: v :: S) n kd σ τ ρ ce sl) : WPA l G own X dm K KE n0 pc L (v :: S) n kd σ τ ρ ce sl :=
  rA_pure (fun ad p e R s m args below meth c H locs ls Z hx hb hL hown hts kk => lv_dup hx hb hd (by rw [trv_cat]; exact hv) kk) k
theorem rA_put_rF {idx ci k p q : Nat} {ty : FieldType} (hty : (∃ z, ty = .object z) ∨ ∃ z, ty = .array z) (hin : X.1.name = "<init>") (hcl : (vwCl[ci]?).map (fun q => q.1) = some own) (hq : q < n) (hf : FLk own idx ci k 2 true ty) (hd : decode X.2.1 pc = .ok (.putfield idx, 3)) (hk : kd p = (0, ci)) (kk : WPA l G own X dm K KE n0 (pc + 3) L S n kd σ τ (upR ρ p k (some q)) ce sl) : WPA l G own X dm K KE n0 pc L (.ref q :: .ref p :: S) n kd σ τ ρ ce sl := by
  intro ad0 ad p9 e R s m args below meth c H locs ls Z C hB ha hH hS hL
  obtain ⟨hx, hb, hml, hown, hts, hlk, henv, hR, hnm, -⟩ := id C
  obtain ⟨Cn, T, N, ty0, h1, h2, h3, h4, h5, h6, h7, h8, h9, h10⟩ := hf
  obtain ⟨hp, he⟩ := hH.obj hk
  have hC : Cn = own := by rw [h1] at hcl; exact Option.some.inj hcl
  subst hC
  refine va_putF (v := .ref (ad q)) hx hb hts h4 ty0 h7 h8 hown henv.1 hH.1 hH.2.1 hS p he h1 k h2 (hts _ h5) (fun _ z => z) h6 (hnm.trans hin) h10 h9 (by rcases hty with ⟨z, rfl⟩ | ⟨z, rfl⟩ <;> rfl) (by rcases hty with ⟨z, rfl⟩ | ⟨z, rfl⟩ <;> rfl) (by rw [objF_len]; exact (List.getElem?_eq_some_iff.mp h3).1) hd (fun H1 locs1 hP hD hS1 => ?_)
  have e1 : (wl G ad n kd σ τ ρ).set p (ad p, .inr (ci, (objF ad (tg ci) (σ p) (τ p) (ρ p)).set k (.ref (ad q)))) = wl G ad n kd σ τ (upR ρ p k (some q)) := by
    rw [← wl_set (σ' := σ) (τ' := τ) (ρ' := upR ρ p k (some q)) hp (fun j hj => ⟨rfl, rfl, upR_off ρ hj⟩), hk]
    show _ = (wl G ad n kd σ τ ρ).set p (ad p, .inr (ci, objF ad (tg ci) (σ p) (τ p) (upR ρ p k (some q) p)))
    rw [← objF_set (f := σ p) (g := τ p) (r := ρ p) (f' := σ p) (g' := τ p) (r' := upR ρ p k (some q) p) h3 (fun j hj => ⟨rfl, rfl, by rw [upR_row]; exact if_neg hj⟩)]
    have e2 : upR ρ p k (some q) p k = some q := by rw [upR_row]; exact if_pos rfl
    rw [e2]
    rfl
  rw [e1] at hP hD
  refine kk ad0 ad p9 e R s m args below meth c H1 locs1 ls Z C hB ha ⟨hP, hD, hH.2.2.1, fun a b z hz => ?_, Nat.le_trans henv.2.2.2.2.2.2.2 hS1.1⟩ hS1 hL
  unfold upR at hz
  split at hz
  · cases hz; exact hq
  · exact hH.2.2.2.1 a b z hz
theorem rA_objInit {idx p : Nat} (hl : Cond.methodLink own idx objectInit ∈ TBg) (hd : decode X.2.1 pc = .ok (.invokespecial idx, 3)) (hdm : 1 ≤ dm.1) (hrest : (S.map (fun v => v.category)).sum ≤ 8) (k : WPA l G own X dm K KE n0 (pc + 3) L S n kd σ τ ρ ce sl) : WPA l G own X dm K KE n0 pc L (.ref p :: S) n kd σ τ ρ ce sl := by
  intro ad0 ad p9 e R s m args below meth c H locs ls Z C hB ha hH hS hL
  obtain ⟨hx, hb, hml, hown, hts, hlk, henv, hR, -⟩ := id C
  refine W.objInit hx hb hown (hts _ hl) (hts _ oi_tb) (hts _ oi_code) rfl (by rw [hml]; exact hL.1) rfl hd (by omega) ?_ ?_
  · have := lv_room (m := m) (pc := pc) (ls := ls) (rest := (Value.ref p :: S).map (trv ad)) (st := S.map (trv ad)) (cats_tr (ad := ad) hrest)
    omega
  · exact W.eq (g2 := F0 m (pc + 3) ls (S.map (trv ad))) rfl (k ad0 ad p9 e R s m args below meth c H locs ls Z C hB ha hH hS hL)
theorem rA_new {idx ci N : Nat} {C : String} (hc : CLk ci N C) (hl : Cond.classLink own idx C ∈ TBg) (hd : decode X.2.1 pc = .ok (.new idx, 3)) (hk : KD n = (0, ci)) (h0 : n0 ≤ n) (hσ : σ n = fun _ => 0) (hτ : τ n = fun _ => 0) (hρ : ρ n = fun _ => none) (hS' : okS n S = true) (hL' : okL n L = true) (hcs : ce + 1 ≤ dm.2.1 ∧ sl + N ≤ dm.2.2)
    (kk : WPA l G own X dm K KE n0 (pc + 3) L (.ref n :: S) (n + 1) (kdN (n + 1)) σ τ ρ (ce + 1) (sl + N)) : WPA l G own X dm K KE n0 pc L S n (kdN n) σ τ ρ ce sl := by
  intro ad0 ad p9 e R s m args below meth c H locs ls Z C9 hB ha hH hS hL
  obtain ⟨hx, hb, hml, hown, hts, hlk, henv, hR, -⟩ := id C9
  obtain ⟨T, ty0, g1, g2, g3, g4, g5, g6⟩ := hc
  refine va_new hx hb hts g2 ty0 g3 hown (hts _ hl) (hts _ g5) (hts _ g6) henv.1 hH.1 hH.2.1 hS (fun q hq => Nat.le_trans henv.2.2.2.2.2.2.2 hq) g1 g4 (Nat.le_trans hcs.1 hR.2.2.1) (Nat.le_trans hcs.2 hR.2.2.2) hd (fun q H1 hP hD hS1 => ?_)
  have hH1 : RepH G (va_up ad n q) (n + 1) (kdN (n + 1)) σ τ ρ H1 := RepH.push hH (by rw [hk]; exact Nat.le_of_ble_eq_true rfl) hρ (by rw [hk, hσ, hτ, hρ]; rfl) hP hD (Nat.le_trans henv.2.2.2.2.2.2.2 hS1.1)
  have := kk ad0 (va_up ad n q) p9 e R s m args below meth c H1 locs ls Z C9 hB (va_up_keep h0 ha) hH1 hS1 (by rw [trL_up (okL_in hL')]; exact hL)
  have e2 : ((.ref n : Value) :: S).map (trv (va_up ad n q)) = .ref q :: S.map (trv ad) := by
    show Value.ref (va_up ad n q n) :: S.map (trv (va_up ad n q)) = _
    rw [va_up_self, map_up (okS_in hS')]
  rw [e2] at this
  exact this
theorem rA_callI {Y : MI} {d' idx p c' s' n1 : Nat} {σ1 : ST} {kd1 : KT} {ρ1 : RT} (hM : Ct l G Y (d', c', s') [.ref p] n kd σ τ ρ (KQ none n1 kd1 σ1 τ ρ1)) (hm : MFI Y 0) (hl : Cond.methodLink own idx Y.1 ∈ TBg) (hd : decode X.2.1 pc = .ok (.invokespecial idx, 3)) (hn : n ≤ n1) (hn0 : n0 ≤ n) (hS' : okS n S = true) (hL' : okL n L = true) (hdm : d' + 1 ≤ dm.1 ∧ Y.2.2.1 ≤ 18) (hcs : ce + c' ≤ dm.2.1 ∧ sl + s' ≤ dm.2.2) (hrest : (S.map (fun v => v.category)).sum ≤ 8) (kk : WPA l G own X dm K KE n0 (pc + 3) L S n1 kd1 σ1 τ ρ1 (ce + c') (sl + s')) : WPA l G own X dm K KE n0 pc L (.ref p :: S) n kd σ τ ρ ce sl := by
  intro ad0 ad p9 e R s m args below meth c H locs ls Z C hB ha hH hS hL
  obtain ⟨hx, hb, hml, hown, hts, hlk, henv, hR, -⟩ := id C
  obtain ⟨g1, g2, g3, g4, g5, g6⟩ := hm
  refine w_call (K1 := KQ none n1 kd1 σ1 τ ρ1) (ad := ad) (n := n) (rest := S.map (trv ad)) (va_runI (As := []) (b := ad p) ⟨hx, hb, hml, hown, hts⟩ (hM ad) ⟨by
    have cb := callB_of (own := own) (index := idx) (maxL := Y.2.2.1) (bytes := Y.2.1) (ret := Y.2.2.2) (y := Y.1) (R := R) (s := s) (args := args) (rm := rmD (d', c', s')) 0 hts (gin g5) rfl rfl rfl (hts _ g4) (hts _ hl) g6 ⟨Nat.le_trans hdm.1 hR.1, Nat.le_trans (by show 8 + (Y.2.2.1 + 11) + 37 * d' ≤ 37 * dm.1; omega) hR.2.1⟩
    rw [g2] at cb
    exact cb, g1, hts _ g3⟩ ⟨ct_blind, fun U hU hW => ⟨rfl, by rw [hU]; exact hH, env_in henv hS hU hW⟩⟩ rfl rfl hL.1 rfl (lv_room (cats_tr hrest)) hd ⟨Nat.le_trans hcs.1 hR.2.2.1, Nat.le_trans hcs.2 hR.2.2.2⟩) hS (fun v ad' n' kd' σ' τ' ρ' H1 locs1 hK ha' hH1 hS1 hsc => ?_)
  obtain ⟨rfl, rfl, rfl, rfl, rfl, rfl⟩ := hK
  have e1 : S.map (trv ad') = S.map (trv ad) := List.map_congr_left (fun v hv => trv_ad ha' (okS_in hS' v hv))
  have e2 : trL ad' L = trL ad L := List.map_congr_left (fun v hv => by
    cases v with
    | none => rfl
    | some w => exact congrArg some (trv_ad ha' (okL_in hL' _ hv w rfl)))
  have := kk ad0 ad' p9 e R s m args below meth c H1 locs1 ls Z C hB (fun p hp => (ha' p (by omega)).trans (ha p hp)) hH1 hS1 (by rw [e2]; exact hL)
  rw [e1] at this
  exact this
theorem rA_newQ {idx len : Nat} (hl : Cond.classLink own idx "ShapedRows$State" ∈ TBg) (hd : decode X.2.1 pc = .ok (.anewarray idx, 3)) (hk : KD n = (3, len)) (hlen : len < 100000) (h0 : n0 ≤ n) (hρ : ρ n = fun _ => none) (hS' : okS n S = true) (hL' : okL n L = true) (hcs : ce + 1 ≤ dm.2.1 ∧ sl + len ≤ dm.2.2)
    (kk : WPA l G own X dm K KE n0 (pc + 3) L (.ref n :: S) (n + 1) (kdN (n + 1)) σ τ ρ (ce + 1) (sl + len)) : WPA l G own X dm K KE n0 pc L (.int (iI (len : Int)) :: S) n (kdN n) σ τ ρ ce sl := by
  intro ad0 ad p9 e R s m args below meth c H locs ls Z C9 hB ha hH hS hL
  obtain ⟨hx, hb, hml, hown, hts, hlk, henv, hR, -⟩ := id C9
  refine va_newq (C := "ShapedRows$State") (N' := len) hx hb hown (hts _ hl) hB henv.1 hH.1 hH.2.1 hS (fun q hq => Nat.le_trans henv.2.2.2.2.2.2.2 hq) (fun h => (iI_in (n := 100000) hlen (by decide)) (Or.inl h)) (iI_clamp (by omega)) (by omega) (Nat.le_trans hcs.1 hR.2.2.1) (Nat.le_trans hcs.2 hR.2.2.2) hd (fun q cA H1 hK1 hP hD hS1 => ?_)
  obtain ⟨-, -, -, -, -, f1⟩ := (hK1.2 3 (cA, .object "ShapedRows$State") rfl).2
  obtain ⟨-, -, -, -, -, f2⟩ := (henv.1.2 2 (G.2.2.2.2.1, .object "ShapedRows$State") rfl).2
  have e1 : cA = G.2.2.2.2.1 := Option.some.inj (f1.symm.trans f2)
  have hH1 : RepH G (va_up ad n q) (n + 1) (kdN (n + 1)) σ τ ρ H1 := RepH.push hH (by rw [hk]; exact Nat.le_of_ble_eq_true rfl) hρ (by rw [hk, hρ, e1]; rfl) hP hD (Nat.le_trans henv.2.2.2.2.2.2.2 hS1.1)
  have := kk ad0 (va_up ad n q) p9 e R s m args below meth c H1 locs ls Z C9 hB (va_up_keep h0 ha) hH1 hS1 (by rw [trL_up (okL_in hL')]; exact hL)
  have e2 : ((.ref n : Value) :: S).map (trv (va_up ad n q)) = .ref q :: S.map (trv ad) := by
    show Value.ref (va_up ad n q n) :: S.map (trv (va_up ad n q)) = _
    rw [va_up_self, map_up (okS_in hS')]
  rw [e2] at this
  exact this
theorem rA_callA {Y : MI} {d' idx p c' s' n1 : Nat} {σ1 : ST} {kd1 : KT} {ρ1 : RT} (hM : CtA l G Y (d', c', s') [.ref p] n kd σ τ ρ (KQ none n1 kd1 σ1 τ ρ1)) (hm : MFI Y 0) (hl : Cond.methodLink own idx Y.1 ∈ TBg) (hd : decode X.2.1 pc = .ok (.invokespecial idx, 3)) (hn : n ≤ n1) (hn0 : n0 ≤ n) (hS' : okS n S = true) (hL' : okL n L = true) (hdm : d' + 1 ≤ dm.1 ∧ Y.2.2.1 ≤ 18) (hcs : ce + c' ≤ dm.2.1 ∧ sl + s' ≤ dm.2.2) (hrest : (S.map (fun v => v.category)).sum ≤ 8) (kk : WPA l G own X dm K KE n0 (pc + 3) L S n1 kd1 σ1 τ ρ1 (ce + c') (sl + s')) : WPA l G own X dm K KE n0 pc L (.ref p :: S) n kd σ τ ρ ce sl := by
  intro ad0 ad p9 e R s m args below meth c H locs ls Z C hB ha hH hS hL
  obtain ⟨hx, hb, hml, hown, hts, hlk, henv, hR, -⟩ := id C
  obtain ⟨g1, g2, g3, g4, g5, g6⟩ := hm
  refine w_call (K1 := KQ none n1 kd1 σ1 τ ρ1) (ad := ad) (n := n) (rest := S.map (trv ad)) (va_runI (As := []) (b := ad p) ⟨hx, hb, hml, hown, hts⟩ (hM ad) ⟨by
    have cb := callB_of (own := own) (index := idx) (maxL := Y.2.2.1) (bytes := Y.2.1) (ret := Y.2.2.2) (y := Y.1) (R := R) (s := s) (args := args) (rm := rmD (d', c', s')) 0 hts (gin g5) rfl rfl rfl (hts _ g4) (hts _ hl) g6 ⟨Nat.le_trans hdm.1 hR.1, Nat.le_trans (by show 8 + (Y.2.2.1 + 11) + 37 * d' ≤ 37 * dm.1; omega) hR.2.1⟩
    rw [g2] at cb
    exact cb, g1, hts _ g3⟩ ⟨ctA_blind, fun U hU hW => ⟨rfl, ⟨by rw [hU]; exact hH, env_in henv hS hU hW⟩, va_AO.moved hW.alike hB⟩⟩ rfl rfl hL.1 rfl (lv_room (cats_tr hrest)) hd ⟨Nat.le_trans hcs.1 hR.2.2.1, Nat.le_trans hcs.2 hR.2.2.2⟩) hS (fun v ad' n' kd' σ' τ' ρ' H1 locs1 hK ha' hH1 hS1 hsc => ?_)
  obtain ⟨rfl, rfl, rfl, rfl, rfl, rfl⟩ := hK
  have e1 : S.map (trv ad') = S.map (trv ad) := List.map_congr_left (fun v hv => trv_ad ha' (okS_in hS' v hv))
  have e2 : trL ad' L = trL ad L := List.map_congr_left (fun v hv => by
    cases v with
    | none => rfl
    | some w => exact congrArg some (trv_ad ha' (okL_in hL' _ hv w rfl)))
  have := kk ad0 ad' p9 e R s m args below meth c H1 locs1 ls Z C hB (fun p hp => (ha' p (by omega)).trans (ha p hp)) hH1 hS1 (by rw [e2]; exact hL)
  rw [e1] at this
  exact this
theorem r_callIN {host : String} {Y : MI} {d' idx p c' s' n1 : Nat} {σ1 : ST} {kd1 : KT} {ρ1 : RT} (hM : Ct l G Y (d', c', s') [.ref p] n kd σ τ ρ (KQ none n1 kd1 σ1 τ ρ1)) (hm : MFI Y 0) (hl : (own, idx, Y.1, host) ∈ NL) (hd : decode X.2.1 pc = .ok (.invokespecial idx, 3)) (hn : n ≤ n1) (hn0 : n0 ≤ n) (hS' : okS n S = true) (hL' : okL n L = true) (hdm : d' + 1 ≤ dm.1 ∧ Y.2.2.1 ≤ 18) (hcs : ce + c' ≤ dm.2.1 ∧ sl + s' ≤ dm.2.2) (hrest : (S.map (fun v => v.category)).sum ≤ 8) (kk : WP l G own X dm K KE n0 (pc + 3) L S n1 kd1 σ1 τ ρ1 (ce + c') (sl + s')) : WP l G own X dm K KE n0 pc L (.ref p :: S) n kd σ τ ρ ce sl := by
  intro ad0 ad p9 e R s m args below meth c H locs ls Z C ha hH hS hL
  obtain ⟨hx, hb, hml, hown, hts, hlk, henv, hR, -⟩ := id C
  obtain ⟨g1, g2, g3, g4, g5, g6⟩ := hm
  refine w_call (K1 := KQ none n1 kd1 σ1 τ ρ1) (ad := ad) (n := n) (rest := S.map (trv ad)) (va_runIN (As := []) (b := ad p) ⟨hx, hb, hml, hown, hts⟩ (hM ad) ⟨by
    have cb := csN (dm := dm) (dm' := (d', c', s')) hts henv g4 g5 g6 hl hR hdm
    rw [g2] at cb
    exact cb, g1, hts _ g3⟩ ⟨ct_blind, fun U hU hW => ⟨rfl, by rw [hU]; exact hH, env_in henv hS hU hW⟩⟩ rfl rfl hL.1 rfl (lv_room (cats_tr hrest)) hd ⟨Nat.le_trans hcs.1 hR.2.2.1, Nat.le_trans hcs.2 hR.2.2.2⟩) hS (fun v ad' n' kd' σ' τ' ρ' H1 locs1 hK ha' hH1 hS1 hsc => ?_)
  obtain ⟨rfl, rfl, rfl, rfl, rfl, rfl⟩ := hK
  have e1 : S.map (trv ad') = S.map (trv ad) := List.map_congr_left (fun v hv => trv_ad ha' (okS_in hS' v hv))
  have e2 : trL ad' L = trL ad L := List.map_congr_left (fun v hv => by
    cases v with
    | none => rfl
    | some w => exact congrArg some (trv_ad ha' (okL_in hL' _ hv w rfl)))
  have := kk ad0 ad' p9 e R s m args below meth c H1 locs1 ls Z C (fun p hp => (ha' p (by omega)).trans (ha p hp)) hH1 hS1 (by rw [e2]; exact hL)
  rw [e1] at this
  exact this
theorem rA_callIN {host : String} {Y : MI} {d' idx p c' s' n1 : Nat} {σ1 : ST} {kd1 : KT} {ρ1 : RT} (hM : Ct l G Y (d', c', s') [.ref p] n kd σ τ ρ (KQ none n1 kd1 σ1 τ ρ1)) (hm : MFI Y 0) (hl : (own, idx, Y.1, host) ∈ NL) (hd : decode X.2.1 pc = .ok (.invokespecial idx, 3)) (hn : n ≤ n1) (hn0 : n0 ≤ n) (hS' : okS n S = true) (hL' : okL n L = true) (hdm : d' + 1 ≤ dm.1 ∧ Y.2.2.1 ≤ 18) (hcs : ce + c' ≤ dm.2.1 ∧ sl + s' ≤ dm.2.2) (hrest : (S.map (fun v => v.category)).sum ≤ 8) (kk : WPA l G own X dm K KE n0 (pc + 3) L S n1 kd1 σ1 τ ρ1 (ce + c') (sl + s')) : WPA l G own X dm K KE n0 pc L (.ref p :: S) n kd σ τ ρ ce sl := by
  intro ad0 ad p9 e R s m args below meth c H locs ls Z C hB ha hH hS hL
  obtain ⟨hx, hb, hml, hown, hts, hlk, henv, hR, -⟩ := id C
  obtain ⟨g1, g2, g3, g4, g5, g6⟩ := hm
  refine w_call (K1 := KQ none n1 kd1 σ1 τ ρ1) (ad := ad) (n := n) (rest := S.map (trv ad)) (va_runIN (As := []) (b := ad p) ⟨hx, hb, hml, hown, hts⟩ (hM ad) ⟨by
    have cb := csN (dm := dm) (dm' := (d', c', s')) hts henv g4 g5 g6 hl hR hdm
    rw [g2] at cb
    exact cb, g1, hts _ g3⟩ ⟨ct_blind, fun U hU hW => ⟨rfl, by rw [hU]; exact hH, env_in henv hS hU hW⟩⟩ rfl rfl hL.1 rfl (lv_room (cats_tr hrest)) hd ⟨Nat.le_trans hcs.1 hR.2.2.1, Nat.le_trans hcs.2 hR.2.2.2⟩) hS (fun v ad' n' kd' σ' τ' ρ' H1 locs1 hK ha' hH1 hS1 hsc => ?_)
  obtain ⟨rfl, rfl, rfl, rfl, rfl, rfl⟩ := hK
  have e1 : S.map (trv ad') = S.map (trv ad) := List.map_congr_left (fun v hv => trv_ad ha' (okS_in hS' v hv))
  have e2 : trL ad' L = trL ad L := List.map_congr_left (fun v hv => by
    cases v with
    | none => rfl
    | some w => exact congrArg some (trv_ad ha' (okL_in hL' _ hv w rfl)))
  have := kk ad0 ad' p9 e R s m args below meth c H1 locs1 ls Z C hB (fun p hp => (ha' p (by omega)).trans (ha p hp)) hH1 hS1 (by rw [e2]; exact hL)
  rw [e1] at this
  exact this
end Rows71

