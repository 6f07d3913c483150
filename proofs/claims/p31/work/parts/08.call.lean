/-! contracts by walks; calls; new objects -/
def argO : List Value → List (Option Value)
  | [] => []
  | v :: r => some v :: (match is2 v with
    | true => none :: argO r
    | false => argO r)
theorem argO_mem : ∀ (vs : List Value) (i k : Nat) (v : Value), (argO vs)[k]? = some (some v) → (i + k, v) ∈ lv_args i vs := by
  intro vs
  induction vs with
  | nil => intro i k v h; simp [argO] at h
  | cons w r ih =>
    intro i k v h
    unfold lv_args
    match k with
    | 0 => simp [argO] at h; subst h; exact List.mem_cons_self
    | k + 1 =>
      cases h2 : is2 w with
      | true =>
        rw [if_pos ((is2_cat w).mpr h2)]
        simp only [argO, h2] at h
        match k with
        | 0 => simp at h
        | k + 1 =>
          have := ih (i + 2) k v (by simpa using h)
          rw [show i + (k + 1 + 1) = i + 2 + k by omega]
          exact List.mem_cons_of_mem _ this
      | false =>
        have hn : ¬ w.category = 2 := fun q => by rw [(is2_cat w).mp q] at h2; cases h2
        rw [if_neg hn]
        simp only [argO, h2] at h
        have := ih (i + 1) k v (by simpa using h)
        rw [show i + (k + 1) = i + 1 + k by omega]
        exact List.mem_cons_of_mem _ this
def argL (vs : List Value) (nL : Nat) : List (Option Value) := argO vs ++ List.replicate (nL - (argO vs).length) none
theorem argO_tr (ad : Nat → Nat) : ∀ vs : List Value, argO (vs.map (trv ad)) = trL ad (argO vs) := by
  intro vs
  induction vs with
  | nil => rfl
  | cons w r ih =>
    cases h2 : is2 w <;> simp only [List.map_cons, argO, is2_trv, h2, ih] <;> rfl
theorem argL_ok {ad : Nat → Nat} {vs : List Value} {nL : Nat} (h : (lg_sl (vs.map (trv ad))).length ≤ nL) : LsOK nL ((lg_sl (vs.map (trv ad)) ++ List.replicate (nL - (lg_sl (vs.map (trv ad))).length) Slot.unset).toArray) (trL ad (argL vs nL)) := by
  obtain ⟨h1, h2, h3⟩ := lv_entry (vs.map (trv ad)) h
  refine ⟨h1, h2, fun k v hk => ?_⟩
  unfold argL trL at hk
  rw [List.map_append] at hk
  by_cases hl : k < ((argO vs).map (Option.map (trv ad))).length
  · rw [List.getElem?_append_left hl] at hk
    have h4 : (argO (vs.map (trv ad)))[k]? = some (some v) := by rw [argO_tr]; exact hk
    have := argO_mem _ 0 k v h4
    rw [Nat.zero_add] at this
    exact h3 _ this
  · rw [List.getElem?_append_right (Nat.le_of_not_lt hl)] at hk
    rw [List.getElem?_map, List.getElem?_replicate] at hk
    split at hk <;> cases hk
theorem lg_sl_tr (ad : Nat → Nat) (vs : List Value) : (lg_sl (vs.map (trv ad))).length = (argO vs).length := by
  induction vs with
  | nil => rfl
  | cons w r ih =>
    have e : lg_sl ((w :: r).map (trv ad)) = (if (trv ad w).category = 2 then [.val (trv ad w), .second] else [.val (trv ad w)]) ++ lg_sl (r.map (trv ad)) := rfl
    rw [e, List.length_append, ih, trv_cat]
    cases h2 : is2 w with
    | true => rw [if_pos ((is2_cat w).mpr h2)]; simp [argO, h2]; omega
    | false => rw [if_neg (fun q => by rw [(is2_cat w).mp q] at h2; cases h2)]; simp [argO, h2]; omega
theorem ct_exit {l : Launch} {G : GG} {X : MI} {dm : Nat × Nat × Nat} {K : KK} {n0 : Nat} {ad0 : Nat → Nat} {p : Program} {e : Env} {R : Room} {s : State} {m : MethodId} {args : Array Value} {below : List Frame} {meth : Method} {c : Code} (hx : p.tables.exec = Jvm.exec) (hb : c.code = X.2.1) (hr : meth.sig.returnType = X.2.2.2) (hlocks : meth.locks = false)
    {v : Option Value} {ad : Nat → Nat} {n : Nat} {kd : KT} {σ τ : ST} {ρ : RT} {H : Heap} {locs : List Loc} {ls : Array Slot} {pc : Nat} {S : List Value} {ce sl : Nat} (hK : K v n kd σ τ ρ) (ha : ∀ p, p < n0 → ad p = ad0 p) (hH : RepH G ad n kd σ τ ρ H) (hS : va_S (fun q => G.1 ≤ q) s.heap H locs) (hc : ce ≤ dm.2.1) (hs : sl ≤ dm.2.2) (hsc : ∀ w, v = some w → scb n w = true) (hR : RS X pc v S) :
    W p l e R s m args below meth c H locs ce sl (MQ below (CtQ G n0 ad0 K) args s dm.2.1 dm.2.2 (fun q => G.1 ≤ q)) (F0 m pc ls (S.map (trv ad))) := by
  refine W.widen (k := dm.2.1) (n := dm.2.2) hc hs ?_
  rcases hR with ⟨x, rfl, rfl, hd, ty, hty, hn⟩ | ⟨x, rfl, rfl, hd, hty⟩ | ⟨x, rfl, rfl, hd, hty⟩ | ⟨w, rfl, rfl, hw, hd, rt, hty, hrt⟩ | ⟨rfl, rfl, hd, hty⟩
  · exact W.zret (v := x) hx hb (hr.trans hty) hn (fun t ht hW => ⟨⟨_, ad, n, kd, σ, τ, ρ, rfl, hK, ha, by rw [ht]; exact hH, hsc⟩, hS.F ht⟩) hS.2.2 hd
  · exact W.lret (v := x) hx hb (hr.trans hty) (fun t ht hW => ⟨⟨_, ad, n, kd, σ, τ, ρ, rfl, hK, ha, by rw [ht]; exact hH, hsc⟩, hS.F ht⟩) hS.2.2 hd
  · exact W.dret (v := x) hx hb (hr.trans hty) (fun t ht hW => ⟨⟨_, ad, n, kd, σ, τ, ρ, rfl, hK, ha, by rw [ht]; exact hH, hsc⟩, hS.F ht⟩) hS.2.2 hd
  · exact W.aret (v := trv ad w) hx hb (hr.trans hty) hrt (by rcases hw with rfl | ⟨a, rfl⟩; exact Or.inl rfl; exact Or.inr ⟨_, rfl⟩) (fun t ht hW => ⟨⟨_, ad, n, kd, σ, τ, ρ, rfl, hK, ha, by rw [ht]; exact hH, hsc⟩, hS.F ht⟩) hS.2.2 hd
  · exact W.vret hx hb (hr.trans hty) (fun t ht hW => ⟨⟨_, ad, n, kd, σ, τ, ρ, rfl, hK, ha, by rw [ht]; exact hH, hsc⟩, hS.F ht⟩) hS.2.2 hd
/-- a contract, by a walk of the method's body -/
theorem ct_intro {own : String} {l : Launch} {G : GG} {X : MI} {dm : Nat × Nat × Nat} {as : List Value} {n : Nat} {kd : KT} {σ τ : ST} {ρ : RT} {K : KK} (ho : X.1.cls = own) (hy : plainName X.1.cls = true) (hl : (argO as).length ≤ X.2.2.1) {L : List (Option Value)} (hL : argL as X.2.2.1 = L) (w : WP l G own X dm K noX n 0 L [] n kd σ τ ρ 0 0) : Ct l G X dm as n kd σ τ ρ K := by
  subst hL
  subst ho
  intro ad
  refine Met.ofW (cc := X.2.1) (maxL := X.2.2.1) (ret := X.2.2.2) hy rfl ?_
  intro p e s m args below meth c s₁ B hml hv
  obtain ⟨rfl, hH, henv⟩ := hv
  have hlocks := B.notSynchronized
  rw [lg_entry_eq]
  exact w ad ad p e _ s m _ below meth c s.heap [] _ _ ⟨B.exec, B.bytes, hml, findClass_of_methodNamed B.named, fun q hq => atoms_spec (ws := wsM X) B.pre q (List.mem_cons_of_mem _ hq), hlocks, henv, ⟨Nat.le_refl _, Nat.le_refl _, Nat.le_refl _, Nat.le_refl _⟩, (name_of_methodNamed B.named B.method).1,
    fun v ad' n' kd' σ' τ' ρ' H' locs' ls' pc' S' ce' sl' hK ha hH' hS' hc hs hsc hR => ct_exit B.exec B.bytes B.returns hlocks hK ha hH' hS' hc hs hsc hR, fun _ _ _ _ _ _ _ _ _ _ _ _ _ hK => hK.elim⟩ (fun _ _ => rfl) hH va_S.rf (argL_ok (by rw [lg_sl_tr]; exact hl))
def KQ (v0 : Option Value) (n0 : Nat) (kd0 : KT) (σ0 τ0 : ST) (ρ0 : RT) : KK := fun v n kd σ τ ρ => v = v0 ∧ n = n0 ∧ kd = kd0 ∧ σ = σ0 ∧ τ = τ0 ∧ ρ = ρ0
/-- a method: what the words say of it -/
def MFV (Y : MI) (ci na : Nat) : Prop := Cond.instanceMethod Y.1 ∈ TBg ∧ Cond.selects Y.1.cls Y.1 Y.1 ∈ TBg ∧ Cond.initialized Y.1.cls ∈ TBg ∧ Cond.code Y.1 Y.2.1 Y.2.2.1 Y.2.2.2 ∈ TBg ∧ ((vwCl[ci]?).map (fun q => q.1) = some Y.1.cls) ∧ (Y.1.cls ≠ "java/lang/invoke/MethodHandle" ∧ Y.1.cls ≠ "java/lang/invoke/VarHandle" ∧ (parseMethodDescriptor Y.1.desc).map (fun d => d.parameters.length) = some na)
def MFS (Y : MI) (na : Nat) : Prop := Cond.static Y.1 ∈ TBg ∧ Cond.initialized Y.1.cls ∈ TBg ∧ Cond.code Y.1 Y.2.1 Y.2.2.1 Y.2.2.2 ∈ TBg ∧ (Y.1.cls ≠ "java/lang/invoke/MethodHandle" ∧ Y.1.cls ≠ "java/lang/invoke/VarHandle" ∧ (parseMethodDescriptor Y.1.desc).map (fun d => d.parameters.length) = some na)
def MFI (Y : MI) (na : Nat) : Prop := Y.1.name = "<init>" ∧ Y.2.2.2 = none ∧ Cond.instanceMethod Y.1 ∈ TBg ∧ Cond.initialized Y.1.cls ∈ TBg ∧ Cond.code Y.1 Y.2.1 Y.2.2.1 Y.2.2.2 ∈ TBg ∧ (Y.1.cls ≠ "java/lang/invoke/MethodHandle" ∧ Y.1.cls ≠ "java/lang/invoke/VarHandle" ∧ (parseMethodDescriptor Y.1.desc).map (fun d => d.parameters.length) = some na)
theorem ct_blind {G : GG} {ad : Nat → Nat} {as : List Value} {n : Nat} {kd : KT} {σ τ : ST} {ρ : RT} : FrameBlind (va_Pc (as.map (trv ad)) (CtP G ad n kd σ τ ρ)) := fun a U g mk h => ⟨h.1, h.2.1, EnvP.same (s := U) (U := U.calling g mk a) rfl rfl h.2.2⟩
section Calls
variable {l : Launch} {G : GG} {own : String} {X : MI} {dm : Nat × Nat × Nat} {K : KK} {KE : KX} {n0 pc : Nat} {L : List (Option Value)} {S : List Value} {n : Nat} {kd : KT} {σ τ : ST} {ρ : RT} {ce sl : Nat}
theorem w_call {p : Program} {e : Env} {R : Room} {s : State} {m : MethodId} {args : Array Value} {below : List Frame} {meth : Method} {c : Code} {H : Heap} {locs : List Loc} {ls : Array Slot} {Z : State → Prop} {mc ms : Nat} {st0 rest : List Value} {a : Array Value} {ad : Nat → Nat} {K1 : KK} (hr : va_Run p l e R s m args below meth c H locs ce sl mc ms (F0 m pc ls st0) rest (CtQ G n ad K1 a) (fun q => G.1 ≤ q)) (hS : va_S (fun q => G.1 ≤ q) s.heap H locs)
    (kk : ∀ (v : Option Value) (ad' : Nat → Nat) (n' : Nat) (kd' : KT) (σ' τ' : ST) (ρ' : RT) (H1 : Heap) (locs1 : List Loc), K1 v n' kd' σ' τ' ρ' → (∀ p, p < n → ad' p = ad p) → RepH G ad' n' kd' σ' τ' ρ' H1 → va_S (fun q => G.1 ≤ q) s.heap H1 locs1 → (∀ w, v = some w → scb n' w = true) → W p l e R s m args below meth c H1 locs1 (ce + mc) (sl + ms) Z (F0 m (pc + 3) ls ((v.map (trv ad')).toList ++ rest))) :
    W p l e R s m args below meth c H locs ce sl Z (F0 m pc ls st0) := by
  intro T hT Y
  obtain ⟨v, st₀, t, T', L9, h0, X', hL, e1, e2, ⟨⟨v1, ad', n', kd', σ', τ', ρ', hv, hK, ha, hH, hsc⟩, hF⟩, st⟩ := hr T hT Y
  cases hv
  have k3 := (vx_keep h0 e1 hS (fun _ _ h => h) (fun _ h => h) hL hF).2.2
  obtain ⟨t2, a1, b1⟩ := kk v1 ad' n' kd' σ' τ' ρ' T'.heap (locs ++ L9) hK ha (by rw [e1]; exact hH) k3 hsc T' rfl X'
  exact ⟨t2, st t2 a1, b1⟩
theorem env_in {s U : State} {H : Heap} {locs : List Loc} (henv : EnvP G s) (hS : va_S (fun q => G.1 ≤ q) s.heap H locs) (hU : U.heap = H) (hW : s.WarmedH U.vm) : EnvP G U := by
  obtain ⟨h1, h2, h3⟩ := id hS
  have hz := henv.2.2.2.2.2.2.2
  exact EnvP.moved hW (fun q hq => by rw [hU]; exact h2 q (Nat.lt_of_lt_of_le hq hz) (Nat.not_le.mpr hq)) (by rw [hU]; exact Nat.le_trans hz h1) henv
theorem cats_tr {ad : Nat → Nat} {S : List Value} (h : (S.map (fun v => v.category)).sum ≤ 8) : ((S.map (trv ad)).map (fun v => v.category)).sum ≤ 8 := by
  rw [List.map_map]
  have e : (fun v : Value => v.category) ∘ trv ad = fun v => v.category := funext fun v => trv_cat ad v
  rw [e]
  exact h
theorem cvW {Y : MI} {dm' : Nat × Nat × Nat} {idx ci na : Nat} {R : Room} {s : State} {args : Array Value} (hts : ∀ w ∈ TBg, w.before args s = true) (hm : MFV Y ci na) (hl : Cond.methodLink own idx Y.1 ∈ TBg) (hR : dm.1 ≤ R.frames ∧ 37 * dm.1 ≤ R.locals ∧ dm.2.1 ≤ R.cells ∧ dm.2.2 ≤ R.slots) (hd : dm'.1 + 1 ≤ dm.1 ∧ Y.2.2.1 ≤ 18) : CallW R s args own Y.1.cls idx Y.1 Y.2.1 Y.2.2.1 Y.2.2.2 (wsM Y) (rmD dm') dm'.2.1 dm'.2.2 na := by
  obtain ⟨h1, h2, h3, h4, h5, h6⟩ := hm
  refine ⟨callB_of na hts (gin h4) rfl rfl rfl (hts _ h3) (hts _ hl) h6 ⟨Nat.le_trans hd.1 hR.1, Nat.le_trans ?_ hR.2.1⟩, hts _ h1, hts _ h2⟩
  show 8 + (Y.2.2.1 + 11) + 37 * dm'.1 ≤ 37 * dm.1
  omega
theorem csB {Y : MI} {dm' : Nat × Nat × Nat} {idx na : Nat} {R : Room} {s : State} {args : Array Value} (hts : ∀ w ∈ TBg, w.before args s = true) (hm : MFS Y na) (hl : Cond.methodLink own idx Y.1 ∈ TBg) (hR : dm.1 ≤ R.frames ∧ 37 * dm.1 ≤ R.locals ∧ dm.2.1 ≤ R.cells ∧ dm.2.2 ≤ R.slots) (hd : dm'.1 + 1 ≤ dm.1 ∧ Y.2.2.1 ≤ 18) : CallB R s args own idx Y.1 Y.2.1 Y.2.2.1 Y.2.2.2 (wsM Y) (rmD dm') dm'.2.1 dm'.2.2 na ∧ (Cond.static Y.1).before args s = true := by
  obtain ⟨h1, h3, h4, h6⟩ := hm
  refine ⟨callB_of na hts (gin h4) rfl rfl rfl (hts _ h3) (hts _ hl) h6 ⟨Nat.le_trans hd.1 hR.1, Nat.le_trans ?_ hR.2.1⟩, hts _ h1⟩
  show 8 + (Y.2.2.1 + 11) + 37 * dm'.1 ≤ 37 * dm.1
  omega
theorem csN {Y : MI} {dm' : Nat × Nat × Nat} {idx na : Nat} {host : String} {R : Room} {s : State} {args : Array Value} (hts : ∀ w ∈ TBg, w.before args s = true) (henv : EnvP G s) (hi : Cond.initialized Y.1.cls ∈ TBg) (h4 : Cond.code Y.1 Y.2.1 Y.2.2.1 Y.2.2.2 ∈ TBg) (h6 : Y.1.cls ≠ "java/lang/invoke/MethodHandle" ∧ Y.1.cls ≠ "java/lang/invoke/VarHandle" ∧ (parseMethodDescriptor Y.1.desc).map (fun d => d.parameters.length) = some na) (hl : (own, idx, Y.1, host) ∈ NL) (hR : dm.1 ≤ R.frames ∧ 37 * dm.1 ≤ R.locals ∧ dm.2.1 ≤ R.cells ∧ dm.2.2 ≤ R.slots) (hd : dm'.1 + 1 ≤ dm.1 ∧ Y.2.2.1 ≤ 18) : va_CN R s args own idx Y.1 host Y.2.1 Y.2.2.1 Y.2.2.2 (wsM Y) (rmD dm') dm'.2.1 dm'.2.2 na := by
  refine va_cnB na hts (gin h4) rfl rfl rfl (henv.2.1.1 _ hl) (hts _ hi) h6 ⟨Nat.le_trans hd.1 hR.1, Nat.le_trans ?_ hR.2.1⟩
  show 8 + (Y.2.2.1 + 11) + 37 * dm'.1 ≤ 37 * dm.1
  omega
theorem vrecv {Y : MI} {ci na p : Nat} {s : State} {H : Heap} {ad : Nat → Nat} (hm : MFV Y ci na) (hH : RepH G ad n kd σ τ ρ H) (hk : kd p = (0, ci)) (henv : EnvP G s) : ∃ cellB : Cell, H[ad p]? = some cellB ∧ cellB.vm.isStatics = false ∧ s.vm.findClass Y.1.cls = some cellB.cls := by
  have h5 := hm.2.2.2.2.1
  cases hq : vwCl[ci]? with
  | none => rw [hq] at h5; cases h5
  | some q =>
    rw [hq] at h5
    have e : q.1 = Y.1.cls := Option.some.inj h5
    rw [← e]
    exact va_recv henv.1 hH.1 hq (hH.obj hk).2
theorem r_callV0 {Y : MI} {d' idx ci p : Nat} {v0 : Option Value} {σ1 τ1 : ST} {ρ1 : RT} (hM : Ct l G Y (d', 0, 0) [.ref p] n kd σ τ ρ (KQ v0 n kd σ1 τ1 ρ1)) (hm : MFV Y ci 0) (hl : Cond.methodLink own idx Y.1 ∈ TBg) (hd : decode X.2.1 pc = .ok (.invokevirtual idx, 3)) (hk : kd p = (0, ci)) (hdm : d' + 1 ≤ dm.1 ∧ Y.2.2.1 ≤ 18) (hcs : ce ≤ dm.2.1 ∧ sl ≤ dm.2.2) (hrest : (S.map (fun v => v.category)).sum ≤ 8) (kk : WP l G own X dm K KE n0 (pc + 3) L (v0.toList ++ S) n kd σ1 τ1 ρ1 ce sl) : WP l G own X dm K KE n0 pc L (.ref p :: S) n kd σ τ ρ ce sl := by
  intro ad0 ad p9 e R s m args below meth c H locs ls Z C ha hH hS hL
  obtain ⟨hx, hb, hml, hown, hts, hlk, henv, hR, -⟩ := id C
  refine w_call (K1 := KQ v0 n kd σ1 τ1 ρ1) (ad := ad) (n := n) (rest := S.map (trv ad)) (va_runV (C := Y.1.cls) (As := []) ⟨hx, hb, hml, hown, hts⟩ (hM ad) (cvW hts hm hl hR hdm) ⟨ct_blind, vrecv hm hH hk henv, fun U hU hW => ⟨rfl, by rw [hU]; exact hH, env_in henv hS hU hW⟩⟩ rfl rfl hL.1 rfl (lv_room (cats_tr hrest)) hd ⟨Nat.le_trans hcs.1 hR.2.2.1, Nat.le_trans hcs.2 hR.2.2.2⟩) hS (fun v ad' n' kd' σ' τ' ρ' H1 locs1 hK ha' hH1 hS1 hsc => ?_)
  obtain ⟨rfl, rfl, rfl, rfl, rfl, rfl⟩ := hK
  have e1 : (v.map (trv ad')).toList ++ S.map (trv ad) = (v.toList ++ S).map (trv ad) := by
    cases v with
    | none => rfl
    | some w => rw [Option.map_some, trv_ad ha' (hsc w rfl)]; rfl
  rw [e1]
  exact kk ad0 ad p9 e R s m args below meth c H1 locs1 ls Z C ha (hH1.ad ha') hS1 hL
theorem r_callV1 {Y : MI} {d' idx ci p : Nat} {v1 : Value} {v0 : Option Value} {σ1 τ1 : ST} {ρ1 : RT} (hM : Ct l G Y (d', 0, 0) [.ref p, v1] n kd σ τ ρ (KQ v0 n kd σ1 τ1 ρ1)) (hm : MFV Y ci 1) (hl : Cond.methodLink own idx Y.1 ∈ TBg) (hd : decode X.2.1 pc = .ok (.invokevirtual idx, 3)) (hk : kd p = (0, ci)) (hdm : d' + 1 ≤ dm.1 ∧ Y.2.2.1 ≤ 18) (hcs : ce ≤ dm.2.1 ∧ sl ≤ dm.2.2) (hrest : (S.map (fun v => v.category)).sum ≤ 8) (kk : WP l G own X dm K KE n0 (pc + 3) L (v0.toList ++ S) n kd σ1 τ1 ρ1 ce sl) : WP l G own X dm K KE n0 pc L (v1 :: .ref p :: S) n kd σ τ ρ ce sl := by
  intro ad0 ad p9 e R s m args below meth c H locs ls Z C ha hH hS hL
  obtain ⟨hx, hb, hml, hown, hts, hlk, henv, hR, -⟩ := id C
  refine w_call (K1 := KQ v0 n kd σ1 τ1 ρ1) (ad := ad) (n := n) (rest := S.map (trv ad)) (va_runV (C := Y.1.cls) (As := [trv ad v1]) ⟨hx, hb, hml, hown, hts⟩ (hM ad) (cvW hts hm hl hR hdm) ⟨ct_blind, vrecv hm hH hk henv, fun U hU hW => ⟨rfl, by rw [hU]; exact hH, env_in henv hS hU hW⟩⟩ rfl rfl hL.1 rfl (lv_room (cats_tr hrest)) hd ⟨Nat.le_trans hcs.1 hR.2.2.1, Nat.le_trans hcs.2 hR.2.2.2⟩) hS (fun v ad' n' kd' σ' τ' ρ' H1 locs1 hK ha' hH1 hS1 hsc => ?_)
  obtain ⟨rfl, rfl, rfl, rfl, rfl, rfl⟩ := hK
  have e1 : (v.map (trv ad')).toList ++ S.map (trv ad) = (v.toList ++ S).map (trv ad) := by
    cases v with
    | none => rfl
    | some w => rw [Option.map_some, trv_ad ha' (hsc w rfl)]; rfl
  rw [e1]
  exact kk ad0 ad p9 e R s m args below meth c H1 locs1 ls Z C ha (hH1.ad ha') hS1 hL
theorem r_callS1 {Y : MI} {d' idx : Nat} {v1 : Value} {v0 : Option Value} {σ1 τ1 : ST} {ρ1 : RT} (hM : Ct l G Y (d', 0, 0) [v1] n kd σ τ ρ (KQ v0 n kd σ1 τ1 ρ1)) (hm : MFS Y 1) (hl : Cond.methodLink own idx Y.1 ∈ TBg) (hd : decode X.2.1 pc = .ok (.invokestatic idx, 3)) (hdm : d' + 1 ≤ dm.1 ∧ Y.2.2.1 ≤ 18) (hcs : ce ≤ dm.2.1 ∧ sl ≤ dm.2.2) (hrest : (S.map (fun v => v.category)).sum ≤ 8) (kk : WP l G own X dm K KE n0 (pc + 3) L (v0.toList ++ S) n kd σ1 τ1 ρ1 ce sl) : WP l G own X dm K KE n0 pc L (v1 :: S) n kd σ τ ρ ce sl := by
  intro ad0 ad p9 e R s m args below meth c H locs ls Z C ha hH hS hL
  obtain ⟨hx, hb, hml, hown, hts, hlk, henv, hR, -⟩ := id C
  refine w_call (K1 := KQ v0 n kd σ1 τ1 ρ1) (ad := ad) (n := n) (rest := S.map (trv ad)) (va_runS (As := [trv ad v1]) ⟨hx, hb, hml, hown, hts⟩ (hM ad) (csB hts hm hl hR hdm) ⟨ct_blind, fun U hU hW => ⟨rfl, by rw [hU]; exact hH, env_in henv hS hU hW⟩⟩ rfl rfl hL.1 rfl (lv_room (cats_tr hrest)) hd ⟨Nat.le_trans hcs.1 hR.2.2.1, Nat.le_trans hcs.2 hR.2.2.2⟩) hS (fun v ad' n' kd' σ' τ' ρ' H1 locs1 hK ha' hH1 hS1 hsc => ?_)
  obtain ⟨rfl, rfl, rfl, rfl, rfl, rfl⟩ := hK
  have e1 : (v.map (trv ad')).toList ++ S.map (trv ad) = (v.toList ++ S).map (trv ad) := by
    cases v with
    | none => rfl
    | some w => rw [Option.map_some, trv_ad ha' (hsc w rfl)]; rfl
  rw [e1]
  exact kk ad0 ad p9 e R s m args below meth c H1 locs1 ls Z C ha (hH1.ad ha') hS1 hL
theorem r_callN1 {Y : MI} {d' idx : Nat} {v1 : Value} {host : String} {v0 : Option Value} {σ1 τ1 : ST} {ρ1 : RT} (hM : Ct l G Y (d', 0, 0) [v1] n kd σ τ ρ (KQ v0 n kd σ1 τ1 ρ1)) (hm : MFS Y 1) (hl : (own, idx, Y.1, host) ∈ NL) (hd : decode X.2.1 pc = .ok (.invokestatic idx, 3)) (hdm : d' + 1 ≤ dm.1 ∧ Y.2.2.1 ≤ 18) (hcs : ce ≤ dm.2.1 ∧ sl ≤ dm.2.2) (hrest : (S.map (fun v => v.category)).sum ≤ 8) (kk : WP l G own X dm K KE n0 (pc + 3) L (v0.toList ++ S) n kd σ1 τ1 ρ1 ce sl) : WP l G own X dm K KE n0 pc L (v1 :: S) n kd σ τ ρ ce sl := by
  intro ad0 ad p9 e R s m args below meth c H locs ls Z C ha hH hS hL
  obtain ⟨hx, hb, hml, hown, hts, hlk, henv, hR, -⟩ := id C
  refine w_call (K1 := KQ v0 n kd σ1 τ1 ρ1) (ad := ad) (n := n) (rest := S.map (trv ad)) (va_runSN (As := [trv ad v1]) ⟨hx, hb, hml, hown, hts⟩ (hM ad) ⟨csN hts henv hm.2.1 hm.2.2.1 hm.2.2.2 hl hR hdm, hts _ hm.1, trivial⟩ ⟨ct_blind, fun U hU hW => ⟨rfl, by rw [hU]; exact hH, env_in henv hS hU hW⟩⟩ rfl rfl hL.1 rfl (lv_room (cats_tr hrest)) hd ⟨Nat.le_trans hcs.1 hR.2.2.1, Nat.le_trans hcs.2 hR.2.2.2⟩) hS (fun v ad' n' kd' σ' τ' ρ' H1 locs1 hK ha' hH1 hS1 hsc => ?_)
  obtain ⟨rfl, rfl, rfl, rfl, rfl, rfl⟩ := hK
  have e1 : (v.map (trv ad')).toList ++ S.map (trv ad) = (v.toList ++ S).map (trv ad) := by
    cases v with
    | none => rfl
    | some w => rw [Option.map_some, trv_ad ha' (hsc w rfl)]; rfl
  rw [e1]
  exact kk ad0 ad p9 e R s m args below meth c H1 locs1 ls Z C ha (hH1.ad ha') hS1 hL
theorem r_callV2 {Y : MI} {d' idx ci p : Nat} {v1 v2 : Value} {v0 : Option Value} {σ1 τ1 : ST} {ρ1 : RT} (hM : Ct l G Y (d', 0, 0) [.ref p, v1, v2] n kd σ τ ρ (KQ v0 n kd σ1 τ1 ρ1)) (hm : MFV Y ci 2) (hl : Cond.methodLink own idx Y.1 ∈ TBg) (hd : decode X.2.1 pc = .ok (.invokevirtual idx, 3)) (hk : kd p = (0, ci)) (hdm : d' + 1 ≤ dm.1 ∧ Y.2.2.1 ≤ 18) (hcs : ce ≤ dm.2.1 ∧ sl ≤ dm.2.2) (hrest : (S.map (fun v => v.category)).sum ≤ 8) (kk : WP l G own X dm K KE n0 (pc + 3) L (v0.toList ++ S) n kd σ1 τ1 ρ1 ce sl) : WP l G own X dm K KE n0 pc L (v2 :: v1 :: .ref p :: S) n kd σ τ ρ ce sl := by
  intro ad0 ad p9 e R s m args below meth c H locs ls Z C ha hH hS hL
  obtain ⟨hx, hb, hml, hown, hts, hlk, henv, hR, -⟩ := id C
  refine w_call (K1 := KQ v0 n kd σ1 τ1 ρ1) (ad := ad) (n := n) (rest := S.map (trv ad)) (va_runV (C := Y.1.cls) (As := [trv ad v1, trv ad v2]) ⟨hx, hb, hml, hown, hts⟩ (hM ad) (cvW hts hm hl hR hdm) ⟨ct_blind, vrecv hm hH hk henv, fun U hU hW => ⟨rfl, by rw [hU]; exact hH, env_in henv hS hU hW⟩⟩ rfl rfl hL.1 rfl (lv_room (cats_tr hrest)) hd ⟨Nat.le_trans hcs.1 hR.2.2.1, Nat.le_trans hcs.2 hR.2.2.2⟩) hS (fun v ad' n' kd' σ' τ' ρ' H1 locs1 hK ha' hH1 hS1 hsc => ?_)
  obtain ⟨rfl, rfl, rfl, rfl, rfl, rfl⟩ := hK
  have e1 : (v.map (trv ad')).toList ++ S.map (trv ad) = (v.toList ++ S).map (trv ad) := by
    cases v with
    | none => rfl
    | some w => rw [Option.map_some, trv_ad ha' (hsc w rfl)]; rfl
  rw [e1]
  exact kk ad0 ad p9 e R s m args below meth c H1 locs1 ls Z C ha (hH1.ad ha') hS1 hL
theorem r_callS2 {Y : MI} {d' idx : Nat} {v1 v2 : Value} {v0 : Option Value} {σ1 τ1 : ST} {ρ1 : RT} (hM : Ct l G Y (d', 0, 0) [v1, v2] n kd σ τ ρ (KQ v0 n kd σ1 τ1 ρ1)) (hm : MFS Y 2) (hl : Cond.methodLink own idx Y.1 ∈ TBg) (hd : decode X.2.1 pc = .ok (.invokestatic idx, 3)) (hdm : d' + 1 ≤ dm.1 ∧ Y.2.2.1 ≤ 18) (hcs : ce ≤ dm.2.1 ∧ sl ≤ dm.2.2) (hrest : (S.map (fun v => v.category)).sum ≤ 8) (kk : WP l G own X dm K KE n0 (pc + 3) L (v0.toList ++ S) n kd σ1 τ1 ρ1 ce sl) : WP l G own X dm K KE n0 pc L (v2 :: v1 :: S) n kd σ τ ρ ce sl := by
  intro ad0 ad p9 e R s m args below meth c H locs ls Z C ha hH hS hL
  obtain ⟨hx, hb, hml, hown, hts, hlk, henv, hR, -⟩ := id C
  refine w_call (K1 := KQ v0 n kd σ1 τ1 ρ1) (ad := ad) (n := n) (rest := S.map (trv ad)) (va_runS (As := [trv ad v1, trv ad v2]) ⟨hx, hb, hml, hown, hts⟩ (hM ad) (csB hts hm hl hR hdm) ⟨ct_blind, fun U hU hW => ⟨rfl, by rw [hU]; exact hH, env_in henv hS hU hW⟩⟩ rfl rfl hL.1 rfl (lv_room (cats_tr hrest)) hd ⟨Nat.le_trans hcs.1 hR.2.2.1, Nat.le_trans hcs.2 hR.2.2.2⟩) hS (fun v ad' n' kd' σ' τ' ρ' H1 locs1 hK ha' hH1 hS1 hsc => ?_)
  obtain ⟨rfl, rfl, rfl, rfl, rfl, rfl⟩ := hK
  have e1 : (v.map (trv ad')).toList ++ S.map (trv ad) = (v.toList ++ S).map (trv ad) := by
    cases v with
    | none => rfl
    | some w => rw [Option.map_some, trv_ad ha' (hsc w rfl)]; rfl
  rw [e1]
  exact kk ad0 ad p9 e R s m args below meth c H1 locs1 ls Z C ha (hH1.ad ha') hS1 hL
theorem r_callN2 {Y : MI} {d' idx : Nat} {v1 v2 : Value} {host : String} {v0 : Option Value} {σ1 τ1 : ST} {ρ1 : RT} (hM : Ct l G Y (d', 0, 0) [v1, v2] n kd σ τ ρ (KQ v0 n kd σ1 τ1 ρ1)) (hm : MFS Y 2) (hl : (own, idx, Y.1, host) ∈ NL) (hd : decode X.2.1 pc = .ok (.invokestatic idx, 3)) (hdm : d' + 1 ≤ dm.1 ∧ Y.2.2.1 ≤ 18) (hcs : ce ≤ dm.2.1 ∧ sl ≤ dm.2.2) (hrest : (S.map (fun v => v.category)).sum ≤ 8) (kk : WP l G own X dm K KE n0 (pc + 3) L (v0.toList ++ S) n kd σ1 τ1 ρ1 ce sl) : WP l G own X dm K KE n0 pc L (v2 :: v1 :: S) n kd σ τ ρ ce sl := by
  intro ad0 ad p9 e R s m args below meth c H locs ls Z C ha hH hS hL
  obtain ⟨hx, hb, hml, hown, hts, hlk, henv, hR, -⟩ := id C
  refine w_call (K1 := KQ v0 n kd σ1 τ1 ρ1) (ad := ad) (n := n) (rest := S.map (trv ad)) (va_runSN (As := [trv ad v1, trv ad v2]) ⟨hx, hb, hml, hown, hts⟩ (hM ad) ⟨csN hts henv hm.2.1 hm.2.2.1 hm.2.2.2 hl hR hdm, hts _ hm.1, trivial⟩ ⟨ct_blind, fun U hU hW => ⟨rfl, by rw [hU]; exact hH, env_in henv hS hU hW⟩⟩ rfl rfl hL.1 rfl (lv_room (cats_tr hrest)) hd ⟨Nat.le_trans hcs.1 hR.2.2.1, Nat.le_trans hcs.2 hR.2.2.2⟩) hS (fun v ad' n' kd' σ' τ' ρ' H1 locs1 hK ha' hH1 hS1 hsc => ?_)
  obtain ⟨rfl, rfl, rfl, rfl, rfl, rfl⟩ := hK
  have e1 : (v.map (trv ad')).toList ++ S.map (trv ad) = (v.toList ++ S).map (trv ad) := by
    cases v with
    | none => rfl
    | some w => rw [Option.map_some, trv_ad ha' (hsc w rfl)]; rfl
  rw [e1]
  exact kk ad0 ad p9 e R s m args below meth c H1 locs1 ls Z C ha (hH1.ad ha') hS1 hL
theorem r_callV3 {Y : MI} {d' idx ci p : Nat} {v1 v2 v3 : Value} {v0 : Option Value} {σ1 τ1 : ST} {ρ1 : RT} (hM : Ct l G Y (d', 0, 0) [.ref p, v1, v2, v3] n kd σ τ ρ (KQ v0 n kd σ1 τ1 ρ1)) (hm : MFV Y ci 3) (hl : Cond.methodLink own idx Y.1 ∈ TBg) (hd : decode X.2.1 pc = .ok (.invokevirtual idx, 3)) (hk : kd p = (0, ci)) (hdm : d' + 1 ≤ dm.1 ∧ Y.2.2.1 ≤ 18) (hcs : ce ≤ dm.2.1 ∧ sl ≤ dm.2.2) (hrest : (S.map (fun v => v.category)).sum ≤ 8) (kk : WP l G own X dm K KE n0 (pc + 3) L (v0.toList ++ S) n kd σ1 τ1 ρ1 ce sl) : WP l G own X dm K KE n0 pc L (v3 :: v2 :: v1 :: .ref p :: S) n kd σ τ ρ ce sl := by
  intro ad0 ad p9 e R s m args below meth c H locs ls Z C ha hH hS hL
  obtain ⟨hx, hb, hml, hown, hts, hlk, henv, hR, -⟩ := id C
  refine w_call (K1 := KQ v0 n kd σ1 τ1 ρ1) (ad := ad) (n := n) (rest := S.map (trv ad)) (va_runV (C := Y.1.cls) (As := [trv ad v1, trv ad v2, trv ad v3]) ⟨hx, hb, hml, hown, hts⟩ (hM ad) (cvW hts hm hl hR hdm) ⟨ct_blind, vrecv hm hH hk henv, fun U hU hW => ⟨rfl, by rw [hU]; exact hH, env_in henv hS hU hW⟩⟩ rfl rfl hL.1 rfl (lv_room (cats_tr hrest)) hd ⟨Nat.le_trans hcs.1 hR.2.2.1, Nat.le_trans hcs.2 hR.2.2.2⟩) hS (fun v ad' n' kd' σ' τ' ρ' H1 locs1 hK ha' hH1 hS1 hsc => ?_)
  obtain ⟨rfl, rfl, rfl, rfl, rfl, rfl⟩ := hK
  have e1 : (v.map (trv ad')).toList ++ S.map (trv ad) = (v.toList ++ S).map (trv ad) := by
    cases v with
    | none => rfl
    | some w => rw [Option.map_some, trv_ad ha' (hsc w rfl)]; rfl
  rw [e1]
  exact kk ad0 ad p9 e R s m args below meth c H1 locs1 ls Z C ha (hH1.ad ha') hS1 hL
theorem r_callS3 {Y : MI} {d' idx : Nat} {v1 v2 v3 : Value} {v0 : Option Value} {σ1 τ1 : ST} {ρ1 : RT} (hM : Ct l G Y (d', 0, 0) [v1, v2, v3] n kd σ τ ρ (KQ v0 n kd σ1 τ1 ρ1)) (hm : MFS Y 3) (hl : Cond.methodLink own idx Y.1 ∈ TBg) (hd : decode X.2.1 pc = .ok (.invokestatic idx, 3)) (hdm : d' + 1 ≤ dm.1 ∧ Y.2.2.1 ≤ 18) (hcs : ce ≤ dm.2.1 ∧ sl ≤ dm.2.2) (hrest : (S.map (fun v => v.category)).sum ≤ 8) (kk : WP l G own X dm K KE n0 (pc + 3) L (v0.toList ++ S) n kd σ1 τ1 ρ1 ce sl) : WP l G own X dm K KE n0 pc L (v3 :: v2 :: v1 :: S) n kd σ τ ρ ce sl := by
  intro ad0 ad p9 e R s m args below meth c H locs ls Z C ha hH hS hL
  obtain ⟨hx, hb, hml, hown, hts, hlk, henv, hR, -⟩ := id C
  refine w_call (K1 := KQ v0 n kd σ1 τ1 ρ1) (ad := ad) (n := n) (rest := S.map (trv ad)) (va_runS (As := [trv ad v1, trv ad v2, trv ad v3]) ⟨hx, hb, hml, hown, hts⟩ (hM ad) (csB hts hm hl hR hdm) ⟨ct_blind, fun U hU hW => ⟨rfl, by rw [hU]; exact hH, env_in henv hS hU hW⟩⟩ rfl rfl hL.1 rfl (lv_room (cats_tr hrest)) hd ⟨Nat.le_trans hcs.1 hR.2.2.1, Nat.le_trans hcs.2 hR.2.2.2⟩) hS (fun v ad' n' kd' σ' τ' ρ' H1 locs1 hK ha' hH1 hS1 hsc => ?_)
  obtain ⟨rfl, rfl, rfl, rfl, rfl, rfl⟩ := hK
  have e1 : (v.map (trv ad')).toList ++ S.map (trv ad) = (v.toList ++ S).map (trv ad) := by
    cases v with
    | none => rfl
    | some w => rw [Option.map_some, trv_ad ha' (hsc w rfl)]; rfl
  rw [e1]
  exact kk ad0 ad p9 e R s m args below meth c H1 locs1 ls Z C ha (hH1.ad ha') hS1 hL
theorem r_callN3 {Y : MI} {d' idx : Nat} {v1 v2 v3 : Value} {host : String} {v0 : Option Value} {σ1 τ1 : ST} {ρ1 : RT} (hM : Ct l G Y (d', 0, 0) [v1, v2, v3] n kd σ τ ρ (KQ v0 n kd σ1 τ1 ρ1)) (hm : MFS Y 3) (hl : (own, idx, Y.1, host) ∈ NL) (hd : decode X.2.1 pc = .ok (.invokestatic idx, 3)) (hdm : d' + 1 ≤ dm.1 ∧ Y.2.2.1 ≤ 18) (hcs : ce ≤ dm.2.1 ∧ sl ≤ dm.2.2) (hrest : (S.map (fun v => v.category)).sum ≤ 8) (kk : WP l G own X dm K KE n0 (pc + 3) L (v0.toList ++ S) n kd σ1 τ1 ρ1 ce sl) : WP l G own X dm K KE n0 pc L (v3 :: v2 :: v1 :: S) n kd σ τ ρ ce sl := by
  intro ad0 ad p9 e R s m args below meth c H locs ls Z C ha hH hS hL
  obtain ⟨hx, hb, hml, hown, hts, hlk, henv, hR, -⟩ := id C
  refine w_call (K1 := KQ v0 n kd σ1 τ1 ρ1) (ad := ad) (n := n) (rest := S.map (trv ad)) (va_runSN (As := [trv ad v1, trv ad v2, trv ad v3]) ⟨hx, hb, hml, hown, hts⟩ (hM ad) ⟨csN hts henv hm.2.1 hm.2.2.1 hm.2.2.2 hl hR hdm, hts _ hm.1, trivial⟩ ⟨ct_blind, fun U hU hW => ⟨rfl, by rw [hU]; exact hH, env_in henv hS hU hW⟩⟩ rfl rfl hL.1 rfl (lv_room (cats_tr hrest)) hd ⟨Nat.le_trans hcs.1 hR.2.2.1, Nat.le_trans hcs.2 hR.2.2.2⟩) hS (fun v ad' n' kd' σ' τ' ρ' H1 locs1 hK ha' hH1 hS1 hsc => ?_)
  obtain ⟨rfl, rfl, rfl, rfl, rfl, rfl⟩ := hK
  have e1 : (v.map (trv ad')).toList ++ S.map (trv ad) = (v.toList ++ S).map (trv ad) := by
    cases v with
    | none => rfl
    | some w => rw [Option.map_some, trv_ad ha' (hsc w rfl)]; rfl
  rw [e1]
  exact kk ad0 ad p9 e R s m args below meth c H1 locs1 ls Z C ha (hH1.ad ha') hS1 hL
theorem r_callV4 {Y : MI} {d' idx ci p : Nat} {v1 v2 v3 v4 : Value} {v0 : Option Value} {σ1 τ1 : ST} {ρ1 : RT} (hM : Ct l G Y (d', 0, 0) [.ref p, v1, v2, v3, v4] n kd σ τ ρ (KQ v0 n kd σ1 τ1 ρ1)) (hm : MFV Y ci 4) (hl : Cond.methodLink own idx Y.1 ∈ TBg) (hd : decode X.2.1 pc = .ok (.invokevirtual idx, 3)) (hk : kd p = (0, ci)) (hdm : d' + 1 ≤ dm.1 ∧ Y.2.2.1 ≤ 18) (hcs : ce ≤ dm.2.1 ∧ sl ≤ dm.2.2) (hrest : (S.map (fun v => v.category)).sum ≤ 8) (kk : WP l G own X dm K KE n0 (pc + 3) L (v0.toList ++ S) n kd σ1 τ1 ρ1 ce sl) : WP l G own X dm K KE n0 pc L (v4 :: v3 :: v2 :: v1 :: .ref p :: S) n kd σ τ ρ ce sl := by
  intro ad0 ad p9 e R s m args below meth c H locs ls Z C ha hH hS hL
  obtain ⟨hx, hb, hml, hown, hts, hlk, henv, hR, -⟩ := id C
  refine w_call (K1 := KQ v0 n kd σ1 τ1 ρ1) (ad := ad) (n := n) (rest := S.map (trv ad)) (va_runV (C := Y.1.cls) (As := [trv ad v1, trv ad v2, trv ad v3, trv ad v4]) ⟨hx, hb, hml, hown, hts⟩ (hM ad) (cvW hts hm hl hR hdm) ⟨ct_blind, vrecv hm hH hk henv, fun U hU hW => ⟨rfl, by rw [hU]; exact hH, env_in henv hS hU hW⟩⟩ rfl rfl hL.1 rfl (lv_room (cats_tr hrest)) hd ⟨Nat.le_trans hcs.1 hR.2.2.1, Nat.le_trans hcs.2 hR.2.2.2⟩) hS (fun v ad' n' kd' σ' τ' ρ' H1 locs1 hK ha' hH1 hS1 hsc => ?_)
  obtain ⟨rfl, rfl, rfl, rfl, rfl, rfl⟩ := hK
  have e1 : (v.map (trv ad')).toList ++ S.map (trv ad) = (v.toList ++ S).map (trv ad) := by
    cases v with
    | none => rfl
    | some w => rw [Option.map_some, trv_ad ha' (hsc w rfl)]; rfl
  rw [e1]
  exact kk ad0 ad p9 e R s m args below meth c H1 locs1 ls Z C ha (hH1.ad ha') hS1 hL
theorem r_callS4 {Y : MI} {d' idx : Nat} {v1 v2 v3 v4 : Value} {v0 : Option Value} {σ1 τ1 : ST} {ρ1 : RT} (hM : Ct l G Y (d', 0, 0) [v1, v2, v3, v4] n kd σ τ ρ (KQ v0 n kd σ1 τ1 ρ1)) (hm : MFS Y 4) (hl : Cond.methodLink own idx Y.1 ∈ TBg) (hd : decode X.2.1 pc = .ok (.invokestatic idx, 3)) (hdm : d' + 1 ≤ dm.1 ∧ Y.2.2.1 ≤ 18) (hcs : ce ≤ dm.2.1 ∧ sl ≤ dm.2.2) (hrest : (S.map (fun v => v.category)).sum ≤ 8) (kk : WP l G own X dm K KE n0 (pc + 3) L (v0.toList ++ S) n kd σ1 τ1 ρ1 ce sl) : WP l G own X dm K KE n0 pc L (v4 :: v3 :: v2 :: v1 :: S) n kd σ τ ρ ce sl := by
  intro ad0 ad p9 e R s m args below meth c H locs ls Z C ha hH hS hL
  obtain ⟨hx, hb, hml, hown, hts, hlk, henv, hR, -⟩ := id C
  refine w_call (K1 := KQ v0 n kd σ1 τ1 ρ1) (ad := ad) (n := n) (rest := S.map (trv ad)) (va_runS (As := [trv ad v1, trv ad v2, trv ad v3, trv ad v4]) ⟨hx, hb, hml, hown, hts⟩ (hM ad) (csB hts hm hl hR hdm) ⟨ct_blind, fun U hU hW => ⟨rfl, by rw [hU]; exact hH, env_in henv hS hU hW⟩⟩ rfl rfl hL.1 rfl (lv_room (cats_tr hrest)) hd ⟨Nat.le_trans hcs.1 hR.2.2.1, Nat.le_trans hcs.2 hR.2.2.2⟩) hS (fun v ad' n' kd' σ' τ' ρ' H1 locs1 hK ha' hH1 hS1 hsc => ?_)
  obtain ⟨rfl, rfl, rfl, rfl, rfl, rfl⟩ := hK
  have e1 : (v.map (trv ad')).toList ++ S.map (trv ad) = (v.toList ++ S).map (trv ad) := by
    cases v with
    | none => rfl
    | some w => rw [Option.map_some, trv_ad ha' (hsc w rfl)]; rfl
  rw [e1]
  exact kk ad0 ad p9 e R s m args below meth c H1 locs1 ls Z C ha (hH1.ad ha') hS1 hL
theorem r_callN4 {Y : MI} {d' idx : Nat} {v1 v2 v3 v4 : Value} {host : String} {v0 : Option Value} {σ1 τ1 : ST} {ρ1 : RT} (hM : Ct l G Y (d', 0, 0) [v1, v2, v3, v4] n kd σ τ ρ (KQ v0 n kd σ1 τ1 ρ1)) (hm : MFS Y 4) (hl : (own, idx, Y.1, host) ∈ NL) (hd : decode X.2.1 pc = .ok (.invokestatic idx, 3)) (hdm : d' + 1 ≤ dm.1 ∧ Y.2.2.1 ≤ 18) (hcs : ce ≤ dm.2.1 ∧ sl ≤ dm.2.2) (hrest : (S.map (fun v => v.category)).sum ≤ 8) (kk : WP l G own X dm K KE n0 (pc + 3) L (v0.toList ++ S) n kd σ1 τ1 ρ1 ce sl) : WP l G own X dm K KE n0 pc L (v4 :: v3 :: v2 :: v1 :: S) n kd σ τ ρ ce sl := by
  intro ad0 ad p9 e R s m args below meth c H locs ls Z C ha hH hS hL
  obtain ⟨hx, hb, hml, hown, hts, hlk, henv, hR, -⟩ := id C
  refine w_call (K1 := KQ v0 n kd σ1 τ1 ρ1) (ad := ad) (n := n) (rest := S.map (trv ad)) (va_runSN (As := [trv ad v1, trv ad v2, trv ad v3, trv ad v4]) ⟨hx, hb, hml, hown, hts⟩ (hM ad) ⟨csN hts henv hm.2.1 hm.2.2.1 hm.2.2.2 hl hR hdm, hts _ hm.1, trivial⟩ ⟨ct_blind, fun U hU hW => ⟨rfl, by rw [hU]; exact hH, env_in henv hS hU hW⟩⟩ rfl rfl hL.1 rfl (lv_room (cats_tr hrest)) hd ⟨Nat.le_trans hcs.1 hR.2.2.1, Nat.le_trans hcs.2 hR.2.2.2⟩) hS (fun v ad' n' kd' σ' τ' ρ' H1 locs1 hK ha' hH1 hS1 hsc => ?_)
  obtain ⟨rfl, rfl, rfl, rfl, rfl, rfl⟩ := hK
  have e1 : (v.map (trv ad')).toList ++ S.map (trv ad) = (v.toList ++ S).map (trv ad) := by
    cases v with
    | none => rfl
    | some w => rw [Option.map_some, trv_ad ha' (hsc w rfl)]; rfl
  rw [e1]
  exact kk ad0 ad p9 e R s m args below meth c H1 locs1 ls Z C ha (hH1.ad ha') hS1 hL
theorem r_callV5 {Y : MI} {d' idx ci p : Nat} {v1 v2 v3 v4 v5 : Value} {v0 : Option Value} {σ1 τ1 : ST} {ρ1 : RT} (hM : Ct l G Y (d', 0, 0) [.ref p, v1, v2, v3, v4, v5] n kd σ τ ρ (KQ v0 n kd σ1 τ1 ρ1)) (hm : MFV Y ci 5) (hl : Cond.methodLink own idx Y.1 ∈ TBg) (hd : decode X.2.1 pc = .ok (.invokevirtual idx, 3)) (hk : kd p = (0, ci)) (hdm : d' + 1 ≤ dm.1 ∧ Y.2.2.1 ≤ 18) (hcs : ce ≤ dm.2.1 ∧ sl ≤ dm.2.2) (hrest : (S.map (fun v => v.category)).sum ≤ 8) (kk : WP l G own X dm K KE n0 (pc + 3) L (v0.toList ++ S) n kd σ1 τ1 ρ1 ce sl) : WP l G own X dm K KE n0 pc L (v5 :: v4 :: v3 :: v2 :: v1 :: .ref p :: S) n kd σ τ ρ ce sl := by
  intro ad0 ad p9 e R s m args below meth c H locs ls Z C ha hH hS hL
  obtain ⟨hx, hb, hml, hown, hts, hlk, henv, hR, -⟩ := id C
  refine w_call (K1 := KQ v0 n kd σ1 τ1 ρ1) (ad := ad) (n := n) (rest := S.map (trv ad)) (va_runV (C := Y.1.cls) (As := [trv ad v1, trv ad v2, trv ad v3, trv ad v4, trv ad v5]) ⟨hx, hb, hml, hown, hts⟩ (hM ad) (cvW hts hm hl hR hdm) ⟨ct_blind, vrecv hm hH hk henv, fun U hU hW => ⟨rfl, by rw [hU]; exact hH, env_in henv hS hU hW⟩⟩ rfl rfl hL.1 rfl (lv_room (cats_tr hrest)) hd ⟨Nat.le_trans hcs.1 hR.2.2.1, Nat.le_trans hcs.2 hR.2.2.2⟩) hS (fun v ad' n' kd' σ' τ' ρ' H1 locs1 hK ha' hH1 hS1 hsc => ?_)
  obtain ⟨rfl, rfl, rfl, rfl, rfl, rfl⟩ := hK
  have e1 : (v.map (trv ad')).toList ++ S.map (trv ad) = (v.toList ++ S).map (trv ad) := by
    cases v with
    | none => rfl
    | some w => rw [Option.map_some, trv_ad ha' (hsc w rfl)]; rfl
  rw [e1]
  exact kk ad0 ad p9 e R s m args below meth c H1 locs1 ls Z C ha (hH1.ad ha') hS1 hL
theorem r_callS5 {Y : MI} {d' idx : Nat} {v1 v2 v3 v4 v5 : Value} {v0 : Option Value} {σ1 τ1 : ST} {ρ1 : RT} (hM : Ct l G Y (d', 0, 0) [v1, v2, v3, v4, v5] n kd σ τ ρ (KQ v0 n kd σ1 τ1 ρ1)) (hm : MFS Y 5) (hl : Cond.methodLink own idx Y.1 ∈ TBg) (hd : decode X.2.1 pc = .ok (.invokestatic idx, 3)) (hdm : d' + 1 ≤ dm.1 ∧ Y.2.2.1 ≤ 18) (hcs : ce ≤ dm.2.1 ∧ sl ≤ dm.2.2) (hrest : (S.map (fun v => v.category)).sum ≤ 8) (kk : WP l G own X dm K KE n0 (pc + 3) L (v0.toList ++ S) n kd σ1 τ1 ρ1 ce sl) : WP l G own X dm K KE n0 pc L (v5 :: v4 :: v3 :: v2 :: v1 :: S) n kd σ τ ρ ce sl := by
  intro ad0 ad p9 e R s m args below meth c H locs ls Z C ha hH hS hL
  obtain ⟨hx, hb, hml, hown, hts, hlk, henv, hR, -⟩ := id C
  refine w_call (K1 := KQ v0 n kd σ1 τ1 ρ1) (ad := ad) (n := n) (rest := S.map (trv ad)) (va_runS (As := [trv ad v1, trv ad v2, trv ad v3, trv ad v4, trv ad v5]) ⟨hx, hb, hml, hown, hts⟩ (hM ad) (csB hts hm hl hR hdm) ⟨ct_blind, fun U hU hW => ⟨rfl, by rw [hU]; exact hH, env_in henv hS hU hW⟩⟩ rfl rfl hL.1 rfl (lv_room (cats_tr hrest)) hd ⟨Nat.le_trans hcs.1 hR.2.2.1, Nat.le_trans hcs.2 hR.2.2.2⟩) hS (fun v ad' n' kd' σ' τ' ρ' H1 locs1 hK ha' hH1 hS1 hsc => ?_)
  obtain ⟨rfl, rfl, rfl, rfl, rfl, rfl⟩ := hK
  have e1 : (v.map (trv ad')).toList ++ S.map (trv ad) = (v.toList ++ S).map (trv ad) := by
    cases v with
    | none => rfl
    | some w => rw [Option.map_some, trv_ad ha' (hsc w rfl)]; rfl
  rw [e1]
  exact kk ad0 ad p9 e R s m args below meth c H1 locs1 ls Z C ha (hH1.ad ha') hS1 hL
theorem r_callN5 {Y : MI} {d' idx : Nat} {v1 v2 v3 v4 v5 : Value} {host : String} {v0 : Option Value} {σ1 τ1 : ST} {ρ1 : RT} (hM : Ct l G Y (d', 0, 0) [v1, v2, v3, v4, v5] n kd σ τ ρ (KQ v0 n kd σ1 τ1 ρ1)) (hm : MFS Y 5) (hl : (own, idx, Y.1, host) ∈ NL) (hd : decode X.2.1 pc = .ok (.invokestatic idx, 3)) (hdm : d' + 1 ≤ dm.1 ∧ Y.2.2.1 ≤ 18) (hcs : ce ≤ dm.2.1 ∧ sl ≤ dm.2.2) (hrest : (S.map (fun v => v.category)).sum ≤ 8) (kk : WP l G own X dm K KE n0 (pc + 3) L (v0.toList ++ S) n kd σ1 τ1 ρ1 ce sl) : WP l G own X dm K KE n0 pc L (v5 :: v4 :: v3 :: v2 :: v1 :: S) n kd σ τ ρ ce sl := by
  intro ad0 ad p9 e R s m args below meth c H locs ls Z C ha hH hS hL
  obtain ⟨hx, hb, hml, hown, hts, hlk, henv, hR, -⟩ := id C
  refine w_call (K1 := KQ v0 n kd σ1 τ1 ρ1) (ad := ad) (n := n) (rest := S.map (trv ad)) (va_runSN (As := [trv ad v1, trv ad v2, trv ad v3, trv ad v4, trv ad v5]) ⟨hx, hb, hml, hown, hts⟩ (hM ad) ⟨csN hts henv hm.2.1 hm.2.2.1 hm.2.2.2 hl hR hdm, hts _ hm.1, trivial⟩ ⟨ct_blind, fun U hU hW => ⟨rfl, by rw [hU]; exact hH, env_in henv hS hU hW⟩⟩ rfl rfl hL.1 rfl (lv_room (cats_tr hrest)) hd ⟨Nat.le_trans hcs.1 hR.2.2.1, Nat.le_trans hcs.2 hR.2.2.2⟩) hS (fun v ad' n' kd' σ' τ' ρ' H1 locs1 hK ha' hH1 hS1 hsc => ?_)
  obtain ⟨rfl, rfl, rfl, rfl, rfl, rfl⟩ := hK
  have e1 : (v.map (trv ad')).toList ++ S.map (trv ad) = (v.toList ++ S).map (trv ad) := by
    cases v with
    | none => rfl
    | some w => rw [Option.map_some, trv_ad ha' (hsc w rfl)]; rfl
  rw [e1]
  exact kk ad0 ad p9 e R s m args below meth c H1 locs1 ls Z C ha (hH1.ad ha') hS1 hL
end Calls
