/-! methods with handlers: the law's wrappers -/
def wsH (X : MI) (hh : List (Nat × Nat × Nat × Nat)) : List Cond := .codeWith X.1 X.2.1 X.2.2.1 X.2.2.2 hh :: TBg
theorem ginH {X : MI} {hh : List (Nat × Nat × Nat × Nat)} (h : Cond.codeWith X.1 X.2.1 X.2.2.1 X.2.2.2 hh ∈ TBg) : GoodIn TBg (wsH X hh) := fun w hw => by
  have hm : w ∈ TBg := (List.mem_cons.mp hw).elim (fun e => e ▸ h) id
  exact ⟨hm, good_of_word (List.mem_filter.mp hm).2⟩
def CtH (l : Launch) (G : GG) (X : MI) (hh : List (Nat × Nat × Nat × Nat)) (dm : Nat × Nat × Nat) (as : List Value) (n : Nat) (kd : KT) (σ τ : ST) (ρ : RT) (K : KK) : Prop :=
  ∀ ad : Nat → Nat, Met l X.1 (wsH X hh) (rmD dm) (va_Pc (as.map (trv ad)) (CtP G ad n kd σ τ ρ)) (CtQ G n ad K) dm.2.1 dm.2.2 (fun q => G.1 ≤ q)
def WPH (hh : List (Nat × Nat × Nat × Nat)) (l : Launch) (G : GG) (own : String) (X : MI) (dm : Nat × Nat × Nat) (K : KK) (KE : KX) (n0 pc : Nat) (L : List (Option Value)) (S : List Value) (n : Nat) (kd : KT) (σ τ : ST) (ρ : RT) (ce sl : Nat) : Prop :=
  ∀ (ad0 ad : Nat → Nat) (p : Program) (e : Env) (R : Room) (s : State) (m : MethodId) (args : Array Value) (below : List Frame) (meth : Method) (c : Code) (H : Heap) (locs : List Loc) (ls : Array Slot) (Z : State → Prop),
    Cx l G own X dm K KE n0 ad0 p e R s m args below meth c Z → c.exceptionTable.toList = tableOf hh → (∀ p, p < n0 → ad p = ad0 p) → RepH G ad n kd σ τ ρ H → va_S (fun q => G.1 ≤ q) s.heap H locs → LsOK X.2.2.1 ls (trL ad L) → W p l e R s m args below meth c H locs ce sl Z (F0 m pc ls (S.map (trv ad)))
theorem Met_ofWH {l : Launch} {y : MethodName} {ws ws' : List Cond} {rm : Room} {Pc : Array Value → State → Prop} {Qc : Array Value → State → Outcome → State → Prop} {mc ms : Nat} {free : Addr → Prop} {cc : ByteArray} {maxL : Nat} {ret : Option FieldType} {hh : List (Nat × Nat × Nat × Nat)}
    (hy : plainName y.cls = true) (hw : ws = Cond.codeWith y cc maxL ret hh :: ws')
    (body : ∀ p e s m args below meth c s₁, BodyLoose p l y (headSpec ws rm) cc maxL ret e s m args below meth c s₁ → c.maxLocals = maxL → c.exceptionTable.toList = tableOf hh → Pc args s →
      W p l e (headSpec ws rm).room s m args below meth c s.heap [] 0 0 (MQ below Qc args s mc ms free) (entryFrame m args maxL)) : Met l y ws rm Pc Qc mc ms free := by
  refine MetFree.of_bodyS (code := cc) (maxLocals := maxL) (ret := ret) hy ?_ ?_
  · intro args s m h hn
    obtain ⟨m9, meth, c, hn9, h1, h2, h3, h4, -, h5, h6, -⟩ := Cond.codeWith_spec (atoms_spec (ws := ws) h _ (by rw [hw]; exact List.mem_cons_self))
    cases hn.symm.trans hn9
    exact ⟨meth, c, h1, h2, h3, h4, h5, h6⟩
  · intro p e s m args below meth c s₁ B hml hP _
    have hh0 : s₁.heap = s.heap := by rw [B.state]; rfl
    have ht := vx_table (x := y) B (atoms_spec (ws := ws) B.pre _ (by rw [hw]; exact List.mem_cons_self))
    obtain ⟨t, a1, o, b1, b2, b3⟩ := body p e s m args below meth c s₁ B hml ht hP s₁ hh0 (Stand.of_body B)
    exact ⟨t, o, a1, b1, b2, b3⟩
theorem cth_intro {own : String} {l : Launch} {G : GG} {X : MI} {hh : List (Nat × Nat × Nat × Nat)} {dm : Nat × Nat × Nat} {as : List Value} {n : Nat} {kd : KT} {σ τ : ST} {ρ : RT} {K : KK} (ho : X.1.cls = own) (hy : plainName X.1.cls = true) (hl : (argO as).length ≤ X.2.2.1) {L : List (Option Value)} (hL : argL as X.2.2.1 = L) (w : WPH hh l G own X dm K noX n 0 L [] n kd σ τ ρ 0 0) : CtH l G X hh dm as n kd σ τ ρ K := by
  subst hL
  subst ho
  intro ad
  refine Met_ofWH (cc := X.2.1) (maxL := X.2.2.1) (ret := X.2.2.2) hy rfl ?_
  intro p e s m args below meth c s₁ B hml ht hv
  obtain ⟨rfl, hH, henv⟩ := hv
  have hlocks := B.notSynchronized
  rw [lg_entry_eq]
  exact w ad ad p e _ s m _ below meth c s.heap [] _ _ ⟨B.exec, B.bytes, hml, findClass_of_methodNamed B.named, fun q hq => atoms_spec (ws := wsH X hh) B.pre q (List.mem_cons_of_mem _ hq), hlocks, henv, ⟨Nat.le_refl _, Nat.le_refl _, Nat.le_refl _, Nat.le_refl _⟩, (name_of_methodNamed B.named B.method).1,
    fun v ad' n' kd' σ' τ' ρ' H' locs' ls' pc' S' ce' sl' hK ha hH' hS' hc hs hsc hR => ct_exit B.exec B.bytes B.returns hlocks hK ha hH' hS' hc hs hsc hR, fun _ _ _ _ _ _ _ _ _ _ _ _ _ hK => hK.elim⟩ ht (fun _ _ => rfl) hH va_S.rf (argL_ok (by rw [lg_sl_tr]; exact hl))
section Rows68
variable {hh : List (Nat × Nat × Nat × Nat)} {l : Launch} {G : GG} {own : String} {X : MI} {dm : Nat × Nat × Nat} {K : KK} {KE : KX} {n0 pc : Nat} {L : List (Option Value)} {S : List Value} {n : Nat} {kd : KT} {σ τ : ST} {ρ : RT} {ce sl : Nat}
theorem rH_pure {pc' : Nat} {S' : List Value} (h : ∀ (ad : Nat → Nat) (p : Program) (e : Env) (R : Room) (s : State) (m : MethodId) (args : Array Value) (below : List Frame) (meth : Method) (c : Code) (H : Heap) (locs : List Loc) (ls : Array Slot) (Z : State → Prop), p.tables.exec = Jvm.exec → c.code = X.2.1 → LsOK X.2.2.1 ls (trL ad L) → s.vm.findClass own = some m.cls → (∀ w ∈ TBg, w.before args s = true) →
    W p l e R s m args below meth c H locs ce sl Z (F0 m pc' ls (S'.map (trv ad))) → W p l e R s m args below meth c H locs ce sl Z (F0 m pc ls (S.map (trv ad))))
    (k : WPH hh l G own X dm K KE n0 pc' L S' n kd σ τ ρ ce sl) : WPH hh l G own X dm K KE n0 pc L S n kd σ τ ρ ce sl := by
  intro ad0 ad p e R s m args below meth c H locs ls Z C ht ha hH hS hL
  obtain ⟨hx, hb, hml, hown, hts, -⟩ := id C
  exact h ad p e R s m args below meth c H locs ls Z hx hb hL hown hts (k ad0 ad p e R s m args below meth c H locs ls Z C ht ha hH hS hL)
theorem rH_iconst {z : Int} (hd : decode X.2.1 pc = .ok (.iconst z, 1)) (k : WPH hh l G own X dm K KE n0 (pc + 1) L (.int (iI z) :: S) n kd σ τ ρ ce sl) : WPH hh l G own X dm K KE n0 pc L (S) n kd σ τ ρ ce sl :=
  rH_pure (fun ad p e R s m args below meth c H locs ls Z hx hb hL hown hts kk => lv_iconst hx hb hd rfl kk) k
theorem rH_iload_n {q : Fin 4} {i : Nat} {x : Int32} (hd : decode X.2.1 pc = .ok (.iload_n q, 1)) (hi : (q : Nat) = i) (hl : L[i]? = some (some (.int x))) (k : WPH hh l G own X dm K KE n0 (pc + 1) L (.int x :: S) n kd σ τ ρ ce sl) : WPH hh l G own X dm K KE n0 pc L (S) n kd σ τ ρ ce sl :=
  rH_pure (fun ad p e R s m args below meth c H locs ls Z hx hb hL hown hts kk => lv_iload_n hx hb hd hi (hL.2.2 i _ (trL_get hl)) kk) k
theorem rH_iload {i : Nat} {x : Int32} (hd : decode X.2.1 pc = .ok (.iload i, 2)) (hl : L[i]? = some (some (.int x))) (k : WPH hh l G own X dm K KE n0 (pc + 2) L (.int x :: S) n kd σ τ ρ ce sl) : WPH hh l G own X dm K KE n0 pc L (S) n kd σ τ ρ ce sl :=
  rH_pure (fun ad p e R s m args below meth c H locs ls Z hx hb hL hown hts kk => lv_iload hx hb hd (hL.2.2 i _ (trL_get hl)) kk) k
theorem rH_aload_n {q : Fin 4} {i a : Nat} (hd : decode X.2.1 pc = .ok (.aload_n q, 1)) (hi : (q : Nat) = i) (hl : L[i]? = some (some (.ref a))) (k : WPH hh l G own X dm K KE n0 (pc + 1) L (.ref a :: S) n kd σ τ ρ ce sl) : WPH hh l G own X dm K KE n0 pc L (S) n kd σ τ ρ ce sl :=
  rH_pure (fun ad p e R s m args below meth c H locs ls Z hx hb hL hown hts kk => lv_aload_n hx hb hd hi (hL.2.2 i _ (trL_get hl)) kk) k
theorem rH_aload {i a : Nat} (hd : decode X.2.1 pc = .ok (.aload i, 2)) (hl : L[i]? = some (some (.ref a))) (k : WPH hh l G own X dm K KE n0 (pc + 2) L (.ref a :: S) n kd σ τ ρ ce sl) : WPH hh l G own X dm K KE n0 pc L (S) n kd σ τ ρ ce sl :=
  rH_pure (fun ad p e R s m args below meth c H locs ls Z hx hb hL hown hts kk => lv_aload hx hb hd (hL.2.2 i _ (trL_get hl)) kk) k
end Rows68
section Rows69
variable {hh : List (Nat × Nat × Nat × Nat)} {l : Launch} {G : GG} {own : String} {X : MI} {dm : Nat × Nat × Nat} {K : KK} {KE : KX} {n0 pc : Nat} {L : List (Option Value)} {S : List Value} {σ τ : ST} {ce sl : Nat}
/-- where a thrown one is caught -/
def CatchAt (hh : List (Nat × Nat × Nat × Nat)) (own : String) (X : MI) (E : String) (pc h1 : Nat) : Prop := ∃ (pre suf : List (Nat × Nat × Nat × Nat)) (s0 e0 h i k : Nat), hh = pre ++ (s0, e0, h, i) :: suf ∧ (s0 ≤ pc ∧ pc < e0) ∧ i ≠ 0 ∧ E ∈ CL ∧ Cond.classLink own i E ∈ TBg ∧ (∀ z ∈ pre, z.2.2.2 ≠ 0 ∧ ∃ nm ∈ CL, Cond.classLink own z.2.2.2 nm ∈ TBg ∧ E ≠ nm) ∧ k < X.2.2.1 ∧ ((decode X.2.1 h = .ok (.astore k, 2) ∧ h1 = h + 2) ∨ (∃ q : Fin 4, (q : Nat) = k ∧ decode X.2.1 h = .ok (.astore_n q, 1) ∧ h1 = h + 1))
theorem rH_callX {Y : MI} {idx ci p na : Nat} {As : List Value} {er : Int} {v0 : Option Value} {σ1 τ1 : ST} {π π1 : Nat → Option Nat} (hM : CtX l G Y (7, 1, 6) (.ref p :: As) 117 KD σ τ (RHO π) (KF er v0 σ1 τ1 π1) (KE1 er σ τ π)) (hm : MFV Y ci na) (hlen : As.length = na) (hl : Cond.methodLink own idx Y.1 ∈ TBg) (hd : decode X.2.1 pc = .ok (.invokevirtual idx, 3)) (hk : KD p = (0, ci)) (hdm : 7 + 1 ≤ dm.1 ∧ Y.2.2.1 ≤ 18) (hcs : ce + 1 ≤ dm.2.1 ∧ sl + 6 ≤ dm.2.2) (hrest : (S.map (fun v => v.category)).sum ≤ 8)
    (kk : er = 0 → ∀ f, WP l G own X dm K KE n0 (pc + 3) L (v0.toList ++ S) 117 KD (sr σ1 15 f) τ1 (RHO π1) (ce + 1) (sl + 6))
    (kx : er ≠ 0 → ∃ h1, CatchAt hh own X (exS er) pc h1 ∧ WP l G own X dm K KE n0 h1 [] [] 117 KD σ τ (RHO π) (ce + 1) (sl + 6)) :
    WPH hh l G own X dm K KE n0 pc L (As.reverse ++ .ref p :: S) 117 KD σ τ (RHO π) ce sl := by
  intro ad0 ad p9 e R s m args below meth c H locs ls Z C htb ha hH hS hL
  obtain ⟨hx, hb, hml, hown, hts, hlk, henv, hR, -⟩ := id C
  have hr := vx_runV (l := l) (e := e) (R := R) (below := below) (meth := meth) (locs := locs) (cells := ce) (slots := sl) (g := F0 m pc ls ((As.reverse ++ .ref p :: S).map (trv ad))) (rest := S.map (trv ad)) (C := Y.1.cls) (As := As.map (trv ad)) ⟨hx, hb, hml, hown, hts⟩ (hM ad) (cvW hts hm hl hR hdm) ⟨ct_blind, vrecv hm hH hk henv, fun U hU hW => ⟨rfl, by rw [hU]; exact hH, env_in henv hS hU hW⟩⟩ rfl (by rw [List.length_map]; exact hlen) hL.1 (by
    show (As.reverse ++ .ref p :: S).map (trv ad) = (As.map (trv ad)).reverse ++ .ref (ad p) :: S.map (trv ad)
    rw [List.map_append, List.map_reverse]
    rfl) (lv_room (cats_tr hrest)) hd ⟨Nat.le_trans hcs.1 hR.2.2.1, Nat.le_trans hcs.2 hR.2.2.2⟩
  intro T hT Y9
  rcases hr T hT Y9 with ⟨v, st₀, t, T', L9, h0, X', hL9, e1, e2, ⟨⟨v1, ad', n', kd', σ', τ', ρ', hv, hK, ha', hH', hsc⟩, hF⟩, st⟩ | ⟨q, st₀, t, T', L9, E, ce9, h0, X', hL9, e1, e2, ⟨⟨ad', n', kd', σ', τ', ρ', hK, ha', hH'⟩, hF⟩, hce, hcv, hcl, st⟩
  · cases hv
    have k3 := (vx_keep h0 e1 hS (fun _ _ h => h) (fun _ h => h) hL9 hF).2.2
    obtain ⟨her, rfl, rfl, rfl, ⟨f, -, rfl⟩, rfl, rfl⟩ := hK
    have e9 : (v1.map (trv ad')).toList ++ S.map (trv ad) = (v1.toList ++ S).map (trv ad) := by
      cases v1 with
      | none => rfl
      | some w => rw [Option.map_some, trv_ad ha' (hsc w rfl)]; rfl
    rw [e9] at st
    obtain ⟨t2, a1, b1⟩ := kk her f ad0 ad p9 e R s m args below meth c T'.heap (locs ++ L9) ls Z C ha (RepH.ad (by rw [e1]; exact hH') ha') k3 hL T' rfl X'
    exact ⟨t2, st t2 a1, b1⟩
  · have k3 := (vx_keep h0 e1 hS (fun _ _ h => h) (fun _ h => h) hL9 hF).2.2
    obtain ⟨rfl, her, rfl, rfl, rfl, rfl, rfl⟩ := hK
    obtain ⟨h1, ⟨pre, suf, s0, e0, h, i, k, c1, c2, c3, c4, c5, c6, c7, c8⟩, kw⟩ := kx her
    have hcell : T'.heap[q]? = some ce9 := by rw [e1]; exact hce
    have hkw : ∀ ls', LsOK X.2.2.1 ls' (trL ad []) → W p9 l e R s m args below meth c T'.heap (locs ++ L9) (ce + 1) (sl + 6) Z (F0 m h1 ls' []) := fun ls' hl' => kw ad0 ad p9 e R s m args below meth c T'.heap (locs ++ L9) ls' Z C ha (RepH.ad (by rw [e1]; exact hH') ha') k3 hl'
    have hx2 := vx_catch (p := p9) (l := l) (e := e) (R := R) (below := below) (meth := meth) (locs := locs ++ L9) (cells := ce + 1) (slots := sl + 6) (Q := Z) (ls := ls) (pc := pc) (rest := S.map (trv ad)) hown (tableOf pre) ⟨s0, e0, h, i⟩ (tableOf suf) (by rw [htb, c1]; unfold tableOf; rw [List.map_append]; rfl)
      (fun z hz => by
        unfold tableOf at hz
        obtain ⟨w, hw, rfl⟩ := List.mem_map.mp hz
        obtain ⟨d1, nm, d2, d3, d4⟩ := c6 w hw
        exact Or.inr ⟨d1, nm, hts _ d3, henv.2.1.2.2.2 _ c4 _ d2 d4⟩)
      (by show (decide (s0 ≤ pc) && decide (pc < e0)) = true; rw [decide_eq_true c2.1, decide_eq_true c2.2]; rfl) c3 (hts _ c5) ((henv.2.1.2.2.1 _ c4).use rfl) hcell hcv hcl (by
        rcases c8 with ⟨d1, rfl⟩ | ⟨q4, d0, d1, rfl⟩
        · exact lv_astore hx hb d1 hL.has c7 rfl (fun ls' h' => hkw ls' ⟨h'.1, h'.2.1, fun k v hk => by cases hk⟩)
        · exact lv_astore_n hx hb d1 d0 hL.has c7 rfl (fun ls' h' => hkw ls' ⟨h'.1, h'.2.1, fun k v hk => by cases hk⟩))
    obtain ⟨t2, a1, b1⟩ := hx2 T' rfl X'
    exact ⟨t2, st.trans a1, b1⟩
end Rows69
