/-! the law's own walk: its script lies at the place 1000 -/
def WPL (l : Launch) (G : GG) (own : String) (X : MI) (dm : Nat × Nat × Nat) (K : KK) (KE : KX) (n0 pc : Nat) (L : List (Option Value)) (S : List Value) (n : Nat) (kd : KT) (σ τ : ST) (ρ : RT) (ce sl : Nat) : Prop :=
  ∀ (ad0 ad : Nat → Nat) (p : Program) (e : Env) (R : Room) (s : State) (m : MethodId) (args : Array Value) (below : List Frame) (meth : Method) (c : Code) (H : Heap) (locs : List Loc) (ls : Array Slot) (Z : State → Prop),
    Cx l G own X dm K KE n0 ad0 p e R s m args below meth c Z → (va_AO "ShapedRows$State" s ∧ ad 1000 = G.2.2.2.2.2.1) → (∀ p, p < n0 → ad p = ad0 p) → RepH G ad n kd σ τ ρ H → va_S (fun q => G.1 ≤ q) s.heap H locs → LsOK X.2.2.1 ls (trL ad L) → W p l e R s m args below meth c H locs ce sl Z (F0 m pc ls (S.map (trv ad)))
def sc9 (n : Nat) : Value → Bool
  | .ref a => decide (a < n ∨ 110 ≤ a)
  | _ => true
theorem trv_9 {ad ad' : Nat → Nat} {n : Nat} {v : Value} (h : ∀ p, p < n ∨ 110 ≤ p → ad' p = ad p) (hv : sc9 n v = true) : trv ad' v = trv ad v := by
  cases v <;> try rfl
  rename_i a
  have ha : a < n ∨ 110 ≤ a := of_decide_eq_true hv
  show Value.ref (ad' a) = Value.ref (ad a)
  rw [h a ha]
def okS9 (n : Nat) (S : List Value) : Bool := S.all (sc9 n)
def okL9 (n : Nat) (L : List (Option Value)) : Bool := L.all (fun v => match v with | none => true | some w => sc9 n w)
theorem mapS9 {ad ad' : Nat → Nat} {n : Nat} {S : List Value} (h : ∀ p, p < n ∨ 110 ≤ p → ad' p = ad p) (hS : okS9 n S = true) : S.map (trv ad') = S.map (trv ad) := List.map_congr_left (fun v hv => trv_9 h (List.all_eq_true.mp hS v hv))
theorem mapL9 {ad ad' : Nat → Nat} {n : Nat} {L : List (Option Value)} (h : ∀ p, p < n ∨ 110 ≤ p → ad' p = ad p) (hL : okL9 n L = true) : trL ad' L = trL ad L := List.map_congr_left (fun v hv => by
  cases v with
  | none => rfl
  | some w => exact congrArg some (trv_9 h (List.all_eq_true.mp hL _ hv)))
section Rows74
variable {l : Launch} {G : GG} {own : String} {X : MI} {dm : Nat × Nat × Nat} {K : KK} {KE : KX} {n0 pc : Nat} {L : List (Option Value)} {S : List Value} {n : Nat} {kd : KT} {σ τ : ST} {ρ : RT} {π : Nat → Option Nat} {ce sl : Nat}
theorem rL_pure {pc' : Nat} {S' : List Value} (h : ∀ (ad : Nat → Nat) (p : Program) (e : Env) (R : Room) (s : State) (m : MethodId) (args : Array Value) (below : List Frame) (meth : Method) (c : Code) (H : Heap) (locs : List Loc) (ls : Array Slot) (Z : State → Prop), p.tables.exec = Jvm.exec → c.code = X.2.1 → LsOK X.2.2.1 ls (trL ad L) → s.vm.findClass own = some m.cls → (∀ w ∈ TBg, w.before args s = true) →
    W p l e R s m args below meth c H locs ce sl Z (F0 m pc' ls (S'.map (trv ad))) → W p l e R s m args below meth c H locs ce sl Z (F0 m pc ls (S.map (trv ad))))
    (k : WPL l G own X dm K KE n0 pc' L S' n kd σ τ ρ ce sl) : WPL l G own X dm K KE n0 pc L S n kd σ τ ρ ce sl := by
  intro ad0 ad p e R s m args below meth c H locs ls Z C hB ha hH hS hL
  obtain ⟨hx, hb, hml, hown, hts, -⟩ := id C
  exact h ad p e R s m args below meth c H locs ls Z hx hb hL hown hts (k ad0 ad p e R s m args below meth c H locs ls Z C hB ha hH hS hL)
/-- a branch -/
theorem rL_br {c1 c2 : Prop} {pc1 pc2 : Nat} {S' : List Value} (h : ∀ (ad : Nat → Nat) (p : Program) (e : Env) (R : Room) (s : State) (m : MethodId) (args : Array Value) (below : List Frame) (meth : Method) (c : Code) (H : Heap) (locs : List Loc) (ls : Array Slot) (Z : State → Prop), p.tables.exec = Jvm.exec → c.code = X.2.1 →
    (c1 → W p l e R s m args below meth c H locs ce sl Z (F0 m pc1 ls (S'.map (trv ad)))) → (c2 → W p l e R s m args below meth c H locs ce sl Z (F0 m pc2 ls (S'.map (trv ad)))) → W p l e R s m args below meth c H locs ce sl Z (F0 m pc ls (S.map (trv ad))))
    (k1 : c1 → WPL l G own X dm K KE n0 pc1 L S' n kd σ τ ρ ce sl) (k2 : c2 → WPL l G own X dm K KE n0 pc2 L S' n kd σ τ ρ ce sl) : WPL l G own X dm K KE n0 pc L S n kd σ τ ρ ce sl := by
  intro ad0 ad p e R s m args below meth c H locs ls Z C hB ha hH hS hL
  obtain ⟨hx, hb, -⟩ := id C
  exact h ad p e R s m args below meth c H locs ls Z hx hb (fun q => k1 q ad0 ad p e R s m args below meth c H locs ls Z C hB ha hH hS hL) (fun q => k2 q ad0 ad p e R s m args below meth c H locs ls Z C hB ha hH hS hL)
theorem rL_iconst {z : Int} (hd : decode X.2.1 pc = .ok (.iconst z, 1)) (k : WPL l G own X dm K KE n0 (pc + 1) L (.int (iI z) :: S) n kd σ τ ρ ce sl) : WPL l G own X dm K KE n0 pc L (S) n kd σ τ ρ ce sl :=
  rL_pure (fun ad p e R s m args below meth c H locs ls Z hx hb hL hown hts kk => lv_iconst hx hb hd rfl kk) k
theorem rL_bipush {z : Int} (hd : decode X.2.1 pc = .ok (.bipush z, 2)) (hv : (Int8.ofInt z).toInt32 = iI z) (k : WPL l G own X dm K KE n0 (pc + 2) L (.int (iI z) :: S) n kd σ τ ρ ce sl) : WPL l G own X dm K KE n0 pc L (S) n kd σ τ ρ ce sl :=
  rL_pure (fun ad p e R s m args below meth c H locs ls Z hx hb hL hown hts kk => lv_bipush hx hb hd hv kk) k
theorem rL_sipush {z : Int} (hd : decode X.2.1 pc = .ok (.sipush z, 3)) (hv : (Int16.ofInt z).toInt32 = iI z) (k : WPL l G own X dm K KE n0 (pc + 3) L (.int (iI z) :: S) n kd σ τ ρ ce sl) : WPL l G own X dm K KE n0 pc L (S) n kd σ τ ρ ce sl :=
  rL_pure (fun ad p e R s m args below meth c H locs ls Z hx hb hL hown hts kk => lv_sipush hx hb hd hv kk) k
theorem rL_dup {v : Value} (hd : decode X.2.1 pc = .ok (.dup, 1)) (hv : v.category = 1) (k : WPL l G own X dm K KE n0 (pc + 1) L (v :: v :: S) n kd σ τ ρ ce sl) : WPL l G own X dm K KE n0 pc L (v :: S) n kd σ τ ρ ce sl :=
  rL_pure (fun ad p e R s m args below meth c H locs ls Z hx hb hL hown hts kk => lv_dup hx hb hd (by rw [trv_cat]; exact hv) kk) k
theorem rL_iload {i : Nat} {x : Int32} (hd : decode X.2.1 pc = .ok (.iload i, 2)) (hl : L[i]? = some (some (.int x))) (k : WPL l G own X dm K KE n0 (pc + 2) L (.int x :: S) n kd σ τ ρ ce sl) : WPL l G own X dm K KE n0 pc L (S) n kd σ τ ρ ce sl :=
  rL_pure (fun ad p e R s m args below meth c H locs ls Z hx hb hL hown hts kk => lv_iload hx hb hd (hL.2.2 i _ (trL_get hl)) kk) k
theorem rL_iload_n {q : Fin 4} {i : Nat} {x : Int32} (hd : decode X.2.1 pc = .ok (.iload_n q, 1)) (hi : (q : Nat) = i) (hl : L[i]? = some (some (.int x))) (k : WPL l G own X dm K KE n0 (pc + 1) L (.int x :: S) n kd σ τ ρ ce sl) : WPL l G own X dm K KE n0 pc L (S) n kd σ τ ρ ce sl :=
  rL_pure (fun ad p e R s m args below meth c H locs ls Z hx hb hL hown hts kk => lv_iload_n hx hb hd hi (hL.2.2 i _ (trL_get hl)) kk) k
theorem rL_lload {i : Nat} {x : Int64} (hd : decode X.2.1 pc = .ok (.lload i, 2)) (hl : L[i]? = some (some (.long x))) (k : WPL l G own X dm K KE n0 (pc + 2) L (.long x :: S) n kd σ τ ρ ce sl) : WPL l G own X dm K KE n0 pc L (S) n kd σ τ ρ ce sl :=
  rL_pure (fun ad p e R s m args below meth c H locs ls Z hx hb hL hown hts kk => lv_lload hx hb hd (hL.2.2 i _ (trL_get hl)) kk) k
theorem rL_aload_n {q : Fin 4} {i a : Nat} (hd : decode X.2.1 pc = .ok (.aload_n q, 1)) (hi : (q : Nat) = i) (hl : L[i]? = some (some (.ref a))) (k : WPL l G own X dm K KE n0 (pc + 1) L (.ref a :: S) n kd σ τ ρ ce sl) : WPL l G own X dm K KE n0 pc L (S) n kd σ τ ρ ce sl :=
  rL_pure (fun ad p e R s m args below meth c H locs ls Z hx hb hL hown hts kk => lv_aload_n hx hb hd hi (hL.2.2 i _ (trL_get hl)) kk) k
theorem rL_istore {i : Nat} {x : Int32} (hd : decode X.2.1 pc = .ok (.istore i, 2)) (hn : i < X.2.2.1) {L' : List (Option Value)} (hL' : stL L i (.int x) = L') (k : WPL l G own X dm K KE n0 (pc + 2) L' S n kd σ τ ρ ce sl) : WPL l G own X dm K KE n0 pc L (.int x :: S) n kd σ τ ρ ce sl := by
  intro ad0 ad p e R s m args below meth c H locs ls Z C hB ha hH hS hL
  obtain ⟨hx, hb, -⟩ := id C
  refine lv_istore hx hb hd  hL.has hn rfl (fun ls' h' => k ad0 ad p e R s m args below meth c H locs ls' Z C hB ha hH hS ?_)
  rw [← hL', ← trL_st]
  exact LsOK.st1 rfl  h'
theorem rL_istore_n {q : Fin 4} {i : Nat} {x : Int32} (hd : decode X.2.1 pc = .ok (.istore_n q, 1)) (hi : (q : Nat) = i) (hn : i < X.2.2.1) {L' : List (Option Value)} (hL' : stL L i (.int x) = L') (k : WPL l G own X dm K KE n0 (pc + 1) L' S n kd σ τ ρ ce sl) : WPL l G own X dm K KE n0 pc L (.int x :: S) n kd σ τ ρ ce sl := by
  intro ad0 ad p e R s m args below meth c H locs ls Z C hB ha hH hS hL
  obtain ⟨hx, hb, -⟩ := id C
  refine lv_istore_n hx hb hd hi hL.has hn rfl (fun ls' h' => k ad0 ad p e R s m args below meth c H locs ls' Z C hB ha hH hS ?_)
  rw [← hL', ← trL_st]
  exact LsOK.st1 rfl  h'
theorem rL_lstore {i : Nat} {x : Int64} (hd : decode X.2.1 pc = .ok (.lstore i, 2)) (hn : i + 1 < X.2.2.1) (hn2 : i + 1 < L.length) {L' : List (Option Value)} (hL' : stL L i (.long x) = L') (k : WPL l G own X dm K KE n0 (pc + 2) L' S n kd σ τ ρ ce sl) : WPL l G own X dm K KE n0 pc L (.long x :: S) n kd σ τ ρ ce sl := by
  intro ad0 ad p e R s m args below meth c H locs ls Z C hB ha hH hS hL
  obtain ⟨hx, hb, -⟩ := id C
  refine lv_lstore hx hb hd  hL.has hn rfl (fun ls' h' => k ad0 ad p e R s m args below meth c H locs ls' Z C hB ha hH hS ?_)
  rw [← hL', ← trL_st]
  exact LsOK.st2 rfl (by rw [trL_len]; exact hn2)  h'
theorem rL_astore_n {q : Fin 4} {i a : Nat} (hd : decode X.2.1 pc = .ok (.astore_n q, 1)) (hi : (q : Nat) = i) (hn : i < X.2.2.1) {L' : List (Option Value)} (hL' : stL L i (.ref a) = L') (k : WPL l G own X dm K KE n0 (pc + 1) L' S n kd σ τ ρ ce sl) : WPL l G own X dm K KE n0 pc L (.ref a :: S) n kd σ τ ρ ce sl := by
  intro ad0 ad p e R s m args below meth c H locs ls Z C hB ha hH hS hL
  obtain ⟨hx, hb, -⟩ := id C
  refine lv_astore_n hx hb hd hi hL.has hn rfl (fun ls' h' => k ad0 ad p e R s m args below meth c H locs ls' Z C hB ha hH hS ?_)
  rw [← hL', ← trL_st]
  exact LsOK.st1 rfl  h'
theorem rL_iadd {a b : Int} (hd : decode X.2.1 pc = .ok (.iadd, 1)) (k : WPL l G own X dm K KE n0 (pc + 1) L (.int (iI (a + b)) :: S) n kd σ τ ρ ce sl) : WPL l G own X dm K KE n0 pc L (.int (iI b) :: .int (iI a) :: S) n kd σ τ ρ ce sl :=
  rL_pure (fun ad p e R s m args below meth c H locs ls Z hx hb hL hown hts kk => lv_iadd hx hb hd (by rw [← iI_add]; exact kk)) k
theorem rL_imul {a b : Int} (hd : decode X.2.1 pc = .ok (.imul, 1)) (k : WPL l G own X dm K KE n0 (pc + 1) L (.int (iI (a * b)) :: S) n kd σ τ ρ ce sl) : WPL l G own X dm K KE n0 pc L (.int (iI b) :: .int (iI a) :: S) n kd σ τ ρ ce sl :=
  rL_pure (fun ad p e R s m args below meth c H locs ls Z hx hb hL hown hts kk => lv_imul hx hb hd (by rw [← iI_mul]; exact kk)) k
theorem rL_icmp_ge {a b : Int} {off : Int} {tgt : Nat} (hd : decode X.2.1 pc = .ok (.if_icmp .ge off, 3)) (ht : (pc : Int) + off = (tgt : Int)) (ha : inR a) (hb2 : inR b) (k1 : b ≤ a → WPL l G own X dm K KE n0 tgt L S n kd σ τ ρ ce sl) (k2 : a < b → WPL l G own X dm K KE n0 (pc + 3) L S n kd σ τ ρ ce sl) : WPL l G own X dm K KE n0 pc L (.int (iI b) :: .int (iI a) :: S) n kd σ τ ρ ce sl :=
  rL_br (fun ad p e R s m args below meth c H locs ls Z hx hb q1 q2 => lv_icmp_ge hx hb hd ht (fun q => q1 ((iI_le hb2 ha).mp q)) (fun q => q2 (Int.not_le.mp (fun z => q ((iI_le hb2 ha).mpr z))))) k1 k2
theorem rL_icmp_eq {a b : Int} {off : Int} {tgt : Nat} (hd : decode X.2.1 pc = .ok (.if_icmp .eq off, 3)) (ht : (pc : Int) + off = (tgt : Int)) (ha : inR a) (hb2 : inR b) (k1 : a = b → WPL l G own X dm K KE n0 tgt L S n kd σ τ ρ ce sl) (k2 : a ≠ b → WPL l G own X dm K KE n0 (pc + 3) L S n kd σ τ ρ ce sl) : WPL l G own X dm K KE n0 pc L (.int (iI b) :: .int (iI a) :: S) n kd σ τ ρ ce sl :=
  rL_br (fun ad p e R s m args below meth c H locs ls Z hx hb q1 q2 => lv_icmp_eq hx hb hd ht (fun q => q1 ((iI_eq ha hb2).mp q)) (fun q => q2 (fun z => q ((iI_eq ha hb2).mpr z)))) k1 k2
theorem rL_icmp_ne {a b : Int} {off : Int} {tgt : Nat} (hd : decode X.2.1 pc = .ok (.if_icmp .ne off, 3)) (ht : (pc : Int) + off = (tgt : Int)) (ha : inR a) (hb2 : inR b) (k1 : a ≠ b → WPL l G own X dm K KE n0 tgt L S n kd σ τ ρ ce sl) (k2 : a = b → WPL l G own X dm K KE n0 (pc + 3) L S n kd σ τ ρ ce sl) : WPL l G own X dm K KE n0 pc L (.int (iI b) :: .int (iI a) :: S) n kd σ τ ρ ce sl :=
  rL_br (fun ad p e R s m args below meth c H locs ls Z hx hb q1 q2 => lv_icmp_ne hx hb hd ht (fun q => q1 (fun z => q ((iI_eq ha hb2).mpr z))) (fun q => q2 ((iI_eq ha hb2).mp q))) k1 k2
theorem rL_if_eq {a : Int} {off : Int} {tgt : Nat} (hd : decode X.2.1 pc = .ok (.ifCond .eq off, 3)) (ht : (pc : Int) + off = (tgt : Int)) (ha : inR a) (k1 : a = 0 → WPL l G own X dm K KE n0 tgt L S n kd σ τ ρ ce sl) (k2 : a ≠ 0 → WPL l G own X dm K KE n0 (pc + 3) L S n kd σ τ ρ ce sl) : WPL l G own X dm K KE n0 pc L (.int (iI a) :: S) n kd σ τ ρ ce sl :=
  rL_br (fun ad p e R s m args below meth c H locs ls Z hx hb q1 q2 => lv_if_eq hx hb hd ht (fun q => q1 ((iI_eq0 ha).mp q)) (fun q => q2 (fun z => q ((iI_eq0 ha).mpr z)))) k1 k2
theorem rL_if_ne {a : Int} {off : Int} {tgt : Nat} (hd : decode X.2.1 pc = .ok (.ifCond .ne off, 3)) (ht : (pc : Int) + off = (tgt : Int)) (ha : inR a) (k1 : a ≠ 0 → WPL l G own X dm K KE n0 tgt L S n kd σ τ ρ ce sl) (k2 : a = 0 → WPL l G own X dm K KE n0 (pc + 3) L S n kd σ τ ρ ce sl) : WPL l G own X dm K KE n0 pc L (.int (iI a) :: S) n kd σ τ ρ ce sl :=
  rL_br (fun ad p e R s m args below meth c H locs ls Z hx hb q1 q2 => lv_if_ne hx hb hd ht (fun q => q1 (fun z => q ((iI_eq0 ha).mpr z))) (fun q => q2 ((iI_eq0 ha).mp q))) k1 k2
theorem rL_goto {off : Int} {tgt : Nat} (hd : decode X.2.1 pc = .ok (.goto off, 3)) (ht : (pc : Int) + off = (tgt : Int)) (k : WPL l G own X dm K KE n0 tgt L S n kd σ τ ρ ce sl) : WPL l G own X dm K KE n0 pc L S n kd σ τ ρ ce sl :=
  rL_pure (fun ad p e R s m args below meth c H locs ls Z hx hb hL hown hts kk => lv_goto hx hb hd ht kk) k
theorem rL_lcmp_e {a b : Int} (hd : decode X.2.1 pc = .ok (.lcmp, 1)) (h : jJ a = jJ b) (k : WPL l G own X dm K KE n0 (pc + 1) L (.int (iI 0) :: S) n kd σ τ ρ ce sl) : WPL l G own X dm K KE n0 pc L (.long (jJ b) :: .long (jJ a) :: S) n kd σ τ ρ ce sl :=
  rL_pure (fun ad p e R s m args below meth c H locs ls Z hx hb hL hown hts kk => W.lcmp hx hb hd (by
    have e1 : lg_cmp (jJ a) (jJ b) = iI 0 := by
      unfold lg_cmp
      rw [h, if_neg (by simp), if_pos rfl]; rfl
    rw [e1]; exact kk)) k
theorem rL_iinc {i : Nat} {z a : Int} (hd : decode X.2.1 pc = .ok (.iinc i z, 3)) (hl : L[i]? = some (some (.int (iI a)))) (hn : i < X.2.2.1) {L' : List (Option Value)} (hL' : stL L i (.int (iI (a + z))) = L') (k : WPL l G own X dm K KE n0 (pc + 3) L' S n kd σ τ ρ ce sl) : WPL l G own X dm K KE n0 pc L S n kd σ τ ρ ce sl := by
  intro ad0 ad p e R s m args below meth c H locs ls Z C hB ha hH hS hL
  obtain ⟨hx, hb, -⟩ := id C
  have h0 : (i, Value.int (iI a)) ∈ lpairs (trL ad L) := lpairs_mem.mpr (trL_get hl)
  obtain ⟨j, hj⟩ := List.mem_iff_getElem?.mp h0
  refine lv_iinc hx hb hd hL.has hj (iI_add a z).symm hn rfl (fun ls' h' => k ad0 ad p e R s m args below meth c H locs ls' Z C hB ha hH hS ?_)
  rw [← hL', ← trL_st]
  exact LsOK.st1 rfl h'
theorem rL_iand {a b : Int} (hd : decode X.2.1 pc = .ok (.iand, 1)) (k : WPL l G own X dm K KE n0 (pc + 1) L (.int (iI (andI a b)) :: S) n kd σ τ ρ ce sl) : WPL l G own X dm K KE n0 pc L (.int (iI b) :: .int (iI a) :: S) n kd σ τ ρ ce sl :=
  rL_pure (fun ad p e R s m args below meth c H locs ls Z hx hb hL hown hts kk => lv_iand hx hb hd (by
    have e1 : iI a &&& iI b = iI (andI a b) := (iI_of _).symm
    rw [e1]; exact kk)) k
theorem rL_ishr {a b : Int} (hd : decode X.2.1 pc = .ok (.ishr, 1)) (k : WPL l G own X dm K KE n0 (pc + 1) L (.int (iI (shrI a b)) :: S) n kd σ τ ρ ce sl) : WPL l G own X dm K KE n0 pc L (.int (iI b) :: .int (iI a) :: S) n kd σ τ ρ ce sl :=
  rL_pure (fun ad p e R s m args below meth c H locs ls Z hx hb hL hown hts kk => lv_ishr hx hb hd (by
    have e1 : iI a >>> (iI b &&& 31) = iI (shrI a b) := (iI_of _).symm
    rw [e1]; exact kk)) k
theorem rL_callZ0 {Y : MI} {d' idx ci p : Nat} {v0 : Option Value} {σ1 τ1 : ST} {π1 : Nat → Option Nat} {P : (Nat → Int) → Prop} (hM : Ct l G Y (d', 0, 0) [.ref p] 110 KD σ τ (RHO π) (KSP v0 σ1 τ1 π1 P)) (hm : MFV Y ci 0) (hl : Cond.methodLink own idx Y.1 ∈ TBg) (hd : decode X.2.1 pc = .ok (.invokevirtual idx, 3)) (hk : KD p = (0, ci)) (hdm : d' + 1 ≤ dm.1 ∧ Y.2.2.1 ≤ 18) (hcs : ce ≤ dm.2.1 ∧ sl ≤ dm.2.2) (hrest : (S.map (fun v => v.category)).sum ≤ 8) (kk : ∀ f, P f → WPL l G own X dm K KE n0 (pc + 3) L (v0.toList ++ S) 110 KD (sr σ1 15 f) τ1 (RHO π1) ce sl) : WPL l G own X dm K KE n0 pc L (.ref p :: S) 110 KD σ τ (RHO π) ce sl := by
  intro ad0 ad p9 e R s m args below meth c H locs ls Z C hB ha hH hS hL
  obtain ⟨hx, hb, hml, hown, hts, hlk, henv, hR, -⟩ := id C
  refine w_call (K1 := KSP v0 σ1 τ1 π1 P) (ad := ad) (n := 110) (rest := S.map (trv ad)) (va_runV (C := Y.1.cls) (As := []) ⟨hx, hb, hml, hown, hts⟩ (hM ad) (cvW hts hm hl hR hdm) ⟨ct_blind, vrecv hm hH hk henv, fun U hU hW => ⟨rfl, by rw [hU]; exact hH, env_in henv hS hU hW⟩⟩ rfl rfl hL.1 rfl (lv_room (cats_tr hrest)) hd ⟨Nat.le_trans hcs.1 hR.2.2.1, Nat.le_trans hcs.2 hR.2.2.2⟩) hS (fun v ad' n' kd' σ' τ' ρ' H1 locs1 hK ha' hH1 hS1 hsc => ?_)
  obtain ⟨rfl, rfl, rfl, ⟨f, hf, rfl⟩, rfl, rfl⟩ := hK
  have e1 : (v.map (trv ad')).toList ++ S.map (trv ad) = (v.toList ++ S).map (trv ad) := by
    cases v with
    | none => rfl
    | some w => rw [Option.map_some, trv_ad ha' (hsc w rfl)]; rfl
  rw [e1]
  exact kk f hf ad0 ad p9 e R s m args below meth c H1 locs1 ls Z C hB ha (hH1.ad ha') hS1 hL

theorem rL_callZ1 {Y : MI} {d' idx ci p : Nat} {v1 : Value} {v0 : Option Value} {σ1 τ1 : ST} {π1 : Nat → Option Nat} {P : (Nat → Int) → Prop} (hM : Ct l G Y (d', 0, 0) [.ref p, v1] 110 KD σ τ (RHO π) (KSP v0 σ1 τ1 π1 P)) (hm : MFV Y ci 1) (hl : Cond.methodLink own idx Y.1 ∈ TBg) (hd : decode X.2.1 pc = .ok (.invokevirtual idx, 3)) (hk : KD p = (0, ci)) (hdm : d' + 1 ≤ dm.1 ∧ Y.2.2.1 ≤ 18) (hcs : ce ≤ dm.2.1 ∧ sl ≤ dm.2.2) (hrest : (S.map (fun v => v.category)).sum ≤ 8) (kk : ∀ f, P f → WPL l G own X dm K KE n0 (pc + 3) L (v0.toList ++ S) 110 KD (sr σ1 15 f) τ1 (RHO π1) ce sl) : WPL l G own X dm K KE n0 pc L (v1 :: .ref p :: S) 110 KD σ τ (RHO π) ce sl := by
  intro ad0 ad p9 e R s m args below meth c H locs ls Z C hB ha hH hS hL
  obtain ⟨hx, hb, hml, hown, hts, hlk, henv, hR, -⟩ := id C
  refine w_call (K1 := KSP v0 σ1 τ1 π1 P) (ad := ad) (n := 110) (rest := S.map (trv ad)) (va_runV (C := Y.1.cls) (As := [trv ad v1]) ⟨hx, hb, hml, hown, hts⟩ (hM ad) (cvW hts hm hl hR hdm) ⟨ct_blind, vrecv hm hH hk henv, fun U hU hW => ⟨rfl, by rw [hU]; exact hH, env_in henv hS hU hW⟩⟩ rfl rfl hL.1 rfl (lv_room (cats_tr hrest)) hd ⟨Nat.le_trans hcs.1 hR.2.2.1, Nat.le_trans hcs.2 hR.2.2.2⟩) hS (fun v ad' n' kd' σ' τ' ρ' H1 locs1 hK ha' hH1 hS1 hsc => ?_)
  obtain ⟨rfl, rfl, rfl, ⟨f, hf, rfl⟩, rfl, rfl⟩ := hK
  have e1 : (v.map (trv ad')).toList ++ S.map (trv ad) = (v.toList ++ S).map (trv ad) := by
    cases v with
    | none => rfl
    | some w => rw [Option.map_some, trv_ad ha' (hsc w rfl)]; rfl
  rw [e1]
  exact kk f hf ad0 ad p9 e R s m args below meth c H1 locs1 ls Z C hB ha (hH1.ad ha') hS1 hL

theorem rL_callT1 {Y : MI} {d' idx : Nat} {v1 : Value} {v0 : Option Value} {σ1 τ1 : ST} {π1 : Nat → Option Nat} {P : (Nat → Int) → Prop} (hM : Ct l G Y (d', 0, 0) [v1] 110 KD σ τ (RHO π) (KSP v0 σ1 τ1 π1 P)) (hm : MFS Y 1) (hl : Cond.methodLink own idx Y.1 ∈ TBg) (hd : decode X.2.1 pc = .ok (.invokestatic idx, 3)) (hdm : d' + 1 ≤ dm.1 ∧ Y.2.2.1 ≤ 18) (hcs : ce ≤ dm.2.1 ∧ sl ≤ dm.2.2) (hrest : (S.map (fun v => v.category)).sum ≤ 8) (kk : ∀ f, P f → WPL l G own X dm K KE n0 (pc + 3) L (v0.toList ++ S) 110 KD (sr σ1 15 f) τ1 (RHO π1) ce sl) : WPL l G own X dm K KE n0 pc L (v1 :: S) 110 KD σ τ (RHO π) ce sl := by
  intro ad0 ad p9 e R s m args below meth c H locs ls Z C hB ha hH hS hL
  obtain ⟨hx, hb, hml, hown, hts, hlk, henv, hR, -⟩ := id C
  refine w_call (K1 := KSP v0 σ1 τ1 π1 P) (ad := ad) (n := 110) (rest := S.map (trv ad)) (va_runS (As := [trv ad v1]) ⟨hx, hb, hml, hown, hts⟩ (hM ad) (csB hts hm hl hR hdm) ⟨ct_blind, fun U hU hW => ⟨rfl, by rw [hU]; exact hH, env_in henv hS hU hW⟩⟩ rfl rfl hL.1 rfl (lv_room (cats_tr hrest)) hd ⟨Nat.le_trans hcs.1 hR.2.2.1, Nat.le_trans hcs.2 hR.2.2.2⟩) hS (fun v ad' n' kd' σ' τ' ρ' H1 locs1 hK ha' hH1 hS1 hsc => ?_)
  obtain ⟨rfl, rfl, rfl, ⟨f, hf, rfl⟩, rfl, rfl⟩ := hK
  have e1 : (v.map (trv ad')).toList ++ S.map (trv ad) = (v.toList ++ S).map (trv ad) := by
    cases v with
    | none => rfl
    | some w => rw [Option.map_some, trv_ad ha' (hsc w rfl)]; rfl
  rw [e1]
  exact kk f hf ad0 ad p9 e R s m args below meth c H1 locs1 ls Z C hB ha (hH1.ad ha') hS1 hL

theorem rL_callK3 {Y : MI} {d' idx : Nat} {v1 v2 v3 : Value} {K1 : KK} (hM : Ct l G Y (d', 0, 0) [v1, v2, v3] 110 KD σ τ (RHO π) K1) (hm : MFS Y 3) (hl : Cond.methodLink own idx Y.1 ∈ TBg) (hd : decode X.2.1 pc = .ok (.invokestatic idx, 3)) (hdm : d' + 1 ≤ dm.1 ∧ Y.2.2.1 ≤ 18) (hcs : ce ≤ dm.2.1 ∧ sl ≤ dm.2.2) (hrest : (S.map (fun v => v.category)).sum ≤ 8) (hK : ∀ v n kd σ τ ρ, K1 v n kd σ τ ρ → n = 110 ∧ kd = KD) (kk : ∀ v σ' τ' ρ', K1 v 110 KD σ' τ' ρ' → WPL l G own X dm K KE n0 (pc + 3) L (v.toList ++ S) 110 KD σ' τ' ρ' ce sl) : WPL l G own X dm K KE n0 pc L (v3 :: v2 :: v1 :: S) 110 KD σ τ (RHO π) ce sl := by
  intro ad0 ad p9 e R s m args below meth c H locs ls Z C hB ha hH hS hL
  obtain ⟨hx, hb, hml, hown, hts, hlk, henv, hR, -⟩ := id C
  refine w_call (K1 := K1) (ad := ad) (n := 110) (rest := S.map (trv ad)) (va_runS (As := [trv ad v1, trv ad v2, trv ad v3]) ⟨hx, hb, hml, hown, hts⟩ (hM ad) (csB hts hm hl hR hdm) ⟨ct_blind, fun U hU hW => ⟨rfl, by rw [hU]; exact hH, env_in henv hS hU hW⟩⟩ rfl rfl hL.1 rfl (lv_room (cats_tr hrest)) hd ⟨Nat.le_trans hcs.1 hR.2.2.1, Nat.le_trans hcs.2 hR.2.2.2⟩) hS (fun v ad' n' kd' σ' τ' ρ' H1 locs1 hK1 ha' hH1 hS1 hsc => ?_)
  obtain ⟨rfl, rfl⟩ := hK _ _ _ _ _ _ hK1
  have e1 : (v.map (trv ad')).toList ++ S.map (trv ad) = (v.toList ++ S).map (trv ad) := by
    cases v with
    | none => rfl
    | some w => rw [Option.map_some, trv_ad ha' (hsc w rfl)]; rfl
  rw [e1]
  exact kk v σ' τ' ρ' hK1 ad0 ad p9 e R s m args below meth c H1 locs1 ls Z C hB ha (hH1.ad ha') hS1 hL
theorem rL_wk {L' : List (Option Value)} (h : leL L' L) (k : WPL l G own X dm K KE n0 pc L' S n kd σ τ ρ ce sl) : WPL l G own X dm K KE n0 pc L S n kd σ τ ρ ce sl := by
  intro ad0 ad p e R s m args below meth c H locs ls Z C hB ha hH hS hL
  exact k ad0 ad p e R s m args below meth c H locs ls Z C hB ha hH hS ⟨hL.1, hL.2.1, fun k v hk => hL.2.2 k v (trL_le h hk)⟩
theorem rL_wide {c' s' : Nat} (h : ce ≤ c' ∧ sl ≤ s') (k : WPL l G own X dm K KE n0 pc L S n kd σ τ ρ c' s') : WPL l G own X dm K KE n0 pc L S n kd σ τ ρ ce sl := fun ad0 ad p e R s m args below meth c H locs ls Z C hB ha hH hS hL =>
  W.widen h.1 h.2 (k ad0 ad p e R s m args below meth c H locs ls Z C hB ha hH hS hL)
theorem rL_ret {v : Option Value} (hK : K v n kd σ τ ρ) (hs : ∀ w, v = some w → scb n w = true) (hc : ce ≤ dm.2.1 ∧ sl ≤ dm.2.2) (hr : RS X pc v S) : WPL l G own X dm K KE n0 pc L S n kd σ τ ρ ce sl := fun ad0 ad p e R s m args below meth c H locs ls Z C hB ha hH hS hL =>
  r_ret hK hs hc hr ad0 ad p e R s m args below meth c H locs ls Z C ha hH hS hL
/-- the script -/
theorem rL_slen (hd : decode X.2.1 pc = .ok (.arraylength, 1)) (k : WPL l G own X dm K KE n0 (pc + 1) L (.int (iI (G.2.2.2.2.2.2.1 : Int)) :: S) n kd σ τ ρ ce sl) : WPL l G own X dm K KE n0 pc L (.ref 1000 :: S) n kd σ τ ρ ce sl := by
  intro ad0 ad p9 e R s m args below meth c H locs ls Z C hB ha hH hS hL
  obtain ⟨hx, hb, hml, hown, hts, hlk, henv, hR, -⟩ := id C
  have e1 : (Value.ref 1000 :: S).map (trv ad) = .ref G.2.2.2.2.2.1 :: S.map (trv ad) := by
    show Value.ref (ad 1000) :: S.map (trv ad) = _
    rw [hB.2]
  rw [e1]
  exact va_slen hx hb henv.2.2.2.2.2.1 (Nat.lt_of_lt_of_le henv.2.2.2.2.2.2.1 henv.2.2.2.2.2.2.2) (Nat.not_le.mpr henv.2.2.2.2.2.2.1) hS hd (k ad0 ad p9 e R s m args below meth c H locs ls Z C hB ha hH hS hL)
theorem rL_sald {i : Int} {j : Nat} (hd : decode X.2.1 pc = .ok (.iaload, 1)) (hi : i = (j : Int)) (hj : j < G.2.2.2.2.2.2.1) (hlen : G.2.2.2.2.2.2.1 < 2147483648) (k : WPL l G own X dm K KE n0 (pc + 1) L (.int (iI (G.2.2.2.2.2.2.2 j).toInt) :: S) n kd σ τ ρ ce sl) : WPL l G own X dm K KE n0 pc L (.int (iI i) :: .ref 1000 :: S) n kd σ τ ρ ce sl := by
  subst hi
  intro ad0 ad p9 e R s m args below meth c H locs ls Z C hB ha hH hS hL
  obtain ⟨hx, hb, hml, hown, hts, hlk, henv, hR, -⟩ := id C
  have e1 : (Value.int (iI (j : Int)) :: Value.ref 1000 :: S).map (trv ad) = .int (iI (j : Int)) :: .ref G.2.2.2.2.2.1 :: S.map (trv ad) := by
    show Value.int (iI (j : Int)) :: Value.ref (ad 1000) :: S.map (trv ad) = _
    rw [hB.2]
  rw [e1]
  refine va_sld hx hb henv.2.2.2.2.2.1 (Nat.lt_of_lt_of_le henv.2.2.2.2.2.2.1 henv.2.2.2.2.2.2.2) (Nat.not_le.mpr henv.2.2.2.2.2.2.1) hS (iI_in hj hlen) hd ?_
  have := k ad0 ad p9 e R s m args below meth c H locs ls Z C hB ha hH hS hL
  rw [iI_of] at this
  rw [iI_clamp (by omega)]
  exact this
theorem rL_new {idx ci N : Nat} {C : String} (hc : CLk ci N C) (hl : Cond.classLink own idx C ∈ TBg) (hd : decode X.2.1 pc = .ok (.new idx, 3)) (hk : KD n = (0, ci)) (h0 : n0 ≤ n) (h117 : n < 110) (hσ : σ n = fun _ => 0) (hτ : τ n = fun _ => 0) (hρ : ρ n = fun _ => none) (hS' : okS9 n S = true) (hL' : okL9 n L = true) (hcs : ce + 1 ≤ dm.2.1 ∧ sl + N ≤ dm.2.2)
    (kk : WPL l G own X dm K KE n0 (pc + 3) L (.ref n :: S) (n + 1) (kdN (n + 1)) σ τ ρ (ce + 1) (sl + N)) : WPL l G own X dm K KE n0 pc L S n (kdN n) σ τ ρ ce sl := by
  intro ad0 ad p9 e R s m args below meth c H locs ls Z C9 hB ha hH hS hL
  obtain ⟨hx, hb, hml, hown, hts, hlk, henv, hR, -⟩ := id C9
  obtain ⟨T, ty0, g1, g2, g3, g4, g5, g6⟩ := hc
  refine va_new hx hb hts g2 ty0 g3 hown (hts _ hl) (hts _ g5) (hts _ g6) henv.1 hH.1 hH.2.1 hS (fun q hq => Nat.le_trans henv.2.2.2.2.2.2.2 hq) g1 g4 (Nat.le_trans hcs.1 hR.2.2.1) (Nat.le_trans hcs.2 hR.2.2.2) hd (fun q H1 hP hD hS1 => ?_)
  have hH1 : RepH G (va_up ad n q) (n + 1) (kdN (n + 1)) σ τ ρ H1 := RepH.push hH (by rw [hk]; exact Nat.le_of_ble_eq_true rfl) hρ (by rw [hk, hσ, hτ, hρ]; rfl) hP hD (Nat.le_trans henv.2.2.2.2.2.2.2 hS1.1)
  have := kk ad0 (va_up ad n q) p9 e R s m args below meth c H1 locs ls Z C9 ⟨hB.1, (va_up_ne _ _ (by omega)).trans hB.2⟩ (va_up_keep h0 ha) hH1 hS1 (by rw [mapL9 (fun p hp => va_up_ne _ _ (by omega)) hL']; exact hL)
  have e2 : ((.ref n : Value) :: S).map (trv (va_up ad n q)) = .ref q :: S.map (trv ad) := by
    show Value.ref (va_up ad n q n) :: S.map (trv (va_up ad n q)) = _
    rw [va_up_self, mapS9 (fun p hp => va_up_ne _ _ (by omega)) hS']
  rw [e2] at this
  exact this
theorem rL_callA {Y : MI} {d' idx p c' s' n1 : Nat} {σ1 : ST} {kd1 : KT} {ρ1 : RT} (hM : CtA l G Y (d', c', s') [.ref p] n kd σ τ ρ (KQ none n1 kd1 σ1 τ ρ1)) (hm : MFI Y 0) (hl : Cond.methodLink own idx Y.1 ∈ TBg) (hd : decode X.2.1 pc = .ok (.invokespecial idx, 3)) (hn : n ≤ n1) (hn1 : n1 ≤ 110) (hn0 : n0 ≤ n) (hS' : okS9 n S = true) (hL' : okL9 n L = true) (hdm : d' + 1 ≤ dm.1 ∧ Y.2.2.1 ≤ 18) (hcs : ce + c' ≤ dm.2.1 ∧ sl + s' ≤ dm.2.2) (hrest : (S.map (fun v => v.category)).sum ≤ 8) (kk : WPL l G own X dm K KE n0 (pc + 3) L S n1 kd1 σ1 τ ρ1 (ce + c') (sl + s')) : WPL l G own X dm K KE n0 pc L (.ref p :: S) n kd σ τ ρ ce sl := by
  intro ad0 ad p9 e R s m args below meth c H locs ls Z C hB ha hH hS hL
  obtain ⟨hx, hb, hml, hown, hts, hlk, henv, hR, -⟩ := id C
  obtain ⟨g1, g2, g3, g4, g5, g6⟩ := hm
  refine w_call (K1 := KQ none n1 kd1 σ1 τ ρ1) (ad := ad) (n := n) (rest := S.map (trv ad)) (va_runI (As := []) (b := ad p) ⟨hx, hb, hml, hown, hts⟩ (hM ad) ⟨by
    have cb := callB_of (own := own) (index := idx) (maxL := Y.2.2.1) (bytes := Y.2.1) (ret := Y.2.2.2) (y := Y.1) (R := R) (s := s) (args := args) (rm := rmD (d', c', s')) 0 hts (gin g5) rfl rfl rfl (hts _ g4) (hts _ hl) g6 ⟨Nat.le_trans hdm.1 hR.1, Nat.le_trans (by show 8 + (Y.2.2.1 + 11) + 37 * d' ≤ 37 * dm.1; omega) hR.2.1⟩
    rw [g2] at cb
    exact cb, g1, hts _ g3⟩ ⟨ctA_blind, fun U hU hW => ⟨rfl, ⟨by rw [hU]; exact hH, env_in henv hS hU hW⟩, va_AO.moved hW.alike hB.1⟩⟩ rfl rfl hL.1 rfl (lv_room (cats_tr hrest)) hd ⟨Nat.le_trans hcs.1 hR.2.2.1, Nat.le_trans hcs.2 hR.2.2.2⟩) hS (fun v ad' n' kd' σ' τ' ρ' H1 locs1 hK ha' hH1 hS1 hsc => ?_)
  obtain ⟨rfl, rfl, rfl, rfl, rfl, rfl⟩ := hK
  obtain ⟨ad9, he9⟩ : ∃ ad9 : Nat → Nat, ad9 = fun p => if p < 110 then ad' p else ad p := ⟨_, rfl⟩
  have h9 : ∀ p, p < n ∨ 110 ≤ p → ad9 p = ad p := fun p hp => by
    rw [he9]
    show (if p < 110 then ad' p else ad p) = ad p
    split
    · exact ha' p (by omega)
    · rfl
  have hH9 := RepH.ad (ad := ad9) hH1 (fun p hp => by
    rw [he9]
    show ad' p = if p < 110 then ad' p else ad p
    rw [if_pos (by omega)])
  have := kk ad0 ad9 p9 e R s m args below meth c H1 locs1 ls Z C ⟨hB.1, (h9 1000 (by omega)).trans hB.2⟩ (fun p hp => (h9 p (by omega)).trans (ha p hp)) hH9 hS1 (by rw [mapL9 h9 hL']; exact hL)
  rw [show (Option.map (trv ad') (none : Option Value)).toList ++ List.map (trv ad) S = List.map (trv ad9) S from (mapS9 h9 hS').symm]
  exact this
end Rows74
/-- a method that is given the script -/
def CtL (l : Launch) (G : GG) (X : MI) (dm : Nat × Nat × Nat) (as : List Value) (n : Nat) (kd : KT) (σ τ : ST) (ρ : RT) (K : KK) : Prop :=
  ∀ ad : Nat → Nat, ad 1000 = G.2.2.2.2.2.1 → Met l X.1 (wsM X) (rmD dm) (va_Pc (as.map (trv ad)) (fun U => CtP G ad n kd σ τ ρ U ∧ va_AO "ShapedRows$State" U)) (CtQ G n ad K) dm.2.1 dm.2.2 (fun q => G.1 ≤ q)
theorem ctL_intro {own : String} {l : Launch} {G : GG} {X : MI} {dm : Nat × Nat × Nat} {as : List Value} {n : Nat} {kd : KT} {σ τ : ST} {ρ : RT} {K : KK} (ho : X.1.cls = own) (hy : plainName X.1.cls = true) (hl : (argO as).length ≤ X.2.2.1) {L : List (Option Value)} (hL : argL as X.2.2.1 = L) (w : WPL l G own X dm K noX n 0 L [] n kd σ τ ρ 0 0) : CtL l G X dm as n kd σ τ ρ K := by
  subst hL
  subst ho
  intro ad had
  refine Met.ofW (cc := X.2.1) (maxL := X.2.2.1) (ret := X.2.2.2) hy rfl ?_
  intro p e s m args below meth c s₁ B hml hv
  obtain ⟨rfl, ⟨hH, henv⟩, hB⟩ := hv
  have hlocks := B.notSynchronized
  rw [lg_entry_eq]
  exact w ad ad p e _ s m _ below meth c s.heap [] _ _ ⟨B.exec, B.bytes, hml, findClass_of_methodNamed B.named, fun q hq => atoms_spec (ws := wsM X) B.pre q (List.mem_cons_of_mem _ hq), hlocks, henv, ⟨Nat.le_refl _, Nat.le_refl _, Nat.le_refl _, Nat.le_refl _⟩, (name_of_methodNamed B.named B.method).1,
    fun v ad' n' kd' σ' τ' ρ' H' locs' ls' pc' S' ce' sl' hK ha hH' hS' hc hs hsc hR => ct_exit B.exec B.bytes B.returns hlocks hK ha hH' hS' hc hs hsc hR, fun _ _ _ _ _ _ _ _ _ _ _ _ _ hK => hK.elim⟩ ⟨hB, had⟩ (fun _ _ => rfl) hH va_S.rf (argL_ok (by rw [lg_sl_tr]; exact hl))
/-- some int, and nothing has changed -/
def KC (n : Nat) (kd : KT) (σ τ : ST) (ρ : RT) : KK := fun x n' kd' σ' τ' ρ' => (∃ z : Int, x = some (.int (iI z))) ∧ n' = n ∧ kd' = kd ∧ σ' = σ ∧ τ' = τ ∧ ρ' = ρ
section Rows75
variable {l : Launch} {G : GG} {own : String} {X : MI} {dm : Nat × Nat × Nat} {K : KK} {KE : KX} {n0 pc : Nat} {L : List (Option Value)} {S : List Value} {n : Nat} {kd : KT} {σ τ : ST} {ρ : RT} {ce sl : Nat}
theorem rL_callC {Y : MI} {d' idx : Nat} {v1 v2 : Value} (hM : CtL l G Y (d', 0, 0) [v1, v2] n kd σ τ ρ (KC n kd σ τ ρ)) (hm : MFS Y 2) (hl : Cond.methodLink own idx Y.1 ∈ TBg) (hd : decode X.2.1 pc = .ok (.invokestatic idx, 3)) (hdm : d' + 1 ≤ dm.1 ∧ Y.2.2.1 ≤ 18) (hcs : ce ≤ dm.2.1 ∧ sl ≤ dm.2.2) (hrest : (S.map (fun v => v.category)).sum ≤ 8) (kk : ∀ z : Int, WPL l G own X dm K KE n0 (pc + 3) L (.int (iI z) :: S) n kd σ τ ρ ce sl) : WPL l G own X dm K KE n0 pc L (v2 :: v1 :: S) n kd σ τ ρ ce sl := by
  intro ad0 ad p9 e R s m args below meth c H locs ls Z C hB ha hH hS hL
  obtain ⟨hx, hb, hml, hown, hts, hlk, henv, hR, -⟩ := id C
  refine w_call (K1 := KC n kd σ τ ρ) (ad := ad) (n := n) (rest := S.map (trv ad)) (va_runS (As := [trv ad v1, trv ad v2]) ⟨hx, hb, hml, hown, hts⟩ (hM ad hB.2) (csB hts hm hl hR hdm) ⟨ctA_blind, fun U hU hW => ⟨rfl, ⟨by rw [hU]; exact hH, env_in henv hS hU hW⟩, va_AO.moved hW.alike hB.1⟩⟩ rfl rfl hL.1 rfl (lv_room (cats_tr hrest)) hd ⟨Nat.le_trans hcs.1 hR.2.2.1, Nat.le_trans hcs.2 hR.2.2.2⟩) hS (fun v ad' n' kd' σ' τ' ρ' H1 locs1 hK ha' hH1 hS1 hsc => ?_)
  obtain ⟨⟨z, rfl⟩, rfl, rfl, rfl, rfl, rfl⟩ := hK
  exact kk z ad0 ad p9 e R s m args below meth c H1 locs1 ls Z C hB ha (hH1.ad ha') hS1 hL
end Rows75
