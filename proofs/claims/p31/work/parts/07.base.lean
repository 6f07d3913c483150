def tg : Nat → List Nat
  | 0 => [2, 0]
  | 1 => [0, 0, 0, 0, 2, 2, 2]
  | 2 => [0, 0, 2, 2, 2, 2, 2, 2, 2]
  | 3 => [2, 2, 2, 2]
  | 4 => [2, 0]
  | 5 => [2, 2, 2]
  | 6 => [2]
  | _ => []
def NL : List (String × Nat × MethodName × String) := [("ShapedRows", 25, ⟨"ShapedRows$Text", "<init>", "()V"⟩, "ShapedRows"), ("ShapedRows", 9, ⟨"ShapedRows$State", "<init>", "()V"⟩, "ShapedRows"), ("ShapedRows$History", 21, ⟨"ShapedRows$State", "<init>", "()V"⟩, "ShapedRows"), ("ShapedRows$Rows", 34, ⟨"ShapedRows", "at", "([II)I"⟩, "ShapedRows"), ("ShapedRows$Rows", 38, ⟨"ShapedRows", "put", "([III)V"⟩, "ShapedRows"), ("ShapedRows$Rows", 54, ⟨"ShapedRows", "copyAll", "([I[I)V"⟩, "ShapedRows"), ("ShapedRows$Shapes", 102, ⟨"ShapedRows", "copyAll", "([I[I)V"⟩, "ShapedRows"), ("ShapedRows$Shapes", 47, ⟨"ShapedRows", "at", "([II)I"⟩, "ShapedRows"), ("ShapedRows$Shapes", 82, ⟨"ShapedRows", "put", "([III)V"⟩, "ShapedRows"), ("ShapedRows$State", 11, ⟨"ShapedRows$Shapes", "<init>", "()V"⟩, "ShapedRows"), ("ShapedRows$State", 143, ⟨"ShapedRows", "copyAll", "([I[I)V"⟩, "ShapedRows"), ("ShapedRows$State", 20, ⟨"ShapedRows$Rows", "<init>", "()V"⟩, "ShapedRows"), ("ShapedRows$State", 32, ⟨"ShapedRows", "at", "([II)I"⟩, "ShapedRows"), ("ShapedRows$State", 40, ⟨"ShapedRows", "put", "([III)V"⟩, "ShapedRows"), ("ShapedRows$Text", 23, ⟨"ShapedRows", "at", "([II)I"⟩, "ShapedRows")]
def SL : List (String × Nat × String) := [("ShapedRows", 106, "there are too many rows"), ("ShapedRows", 121, "no such shape, or it is retired"), ("ShapedRows", 127, "no such row or shape, or the shape is retired"), ("ShapedRows", 132, "letter or value is out of range"), ("ShapedRows", 137, "no such letter, or the write is refused"), ("ShapedRows", 143, "no such row"), ("ShapedRows", 148, "rows is out of range"), ("ShapedRows", 156, "no such reader or shape, or the shape is retired"), ("ShapedRows", 164, "a row has an older shape, or a reader holds one"), ("ShapedRows", 200, "there is no saved state"), ("ShapedRows", 206, "letter is out of range"), ("ShapedRows", 217, "no such shape"), ("ShapedRows", 224, "what is out of range"), ("ShapedRows", 39, "letter or number is out of range"), ("ShapedRows", 55, "the letter is taken, or there are too many shapes"), ("ShapedRows", 69, "a letter is out of range"), ("ShapedRows", 75, "the letters do not fit, or there are too many shapes"), ("ShapedRows", 84, "the letter is missing, or there are too many shapes")]
def DL : List MethodName := [⟨"java/lang/Exception", "<init>", "()V"⟩, ⟨"java/lang/Exception", "<init>", "(Ljava/lang/String;)V"⟩, ⟨"java/lang/RuntimeException", "<init>", "()V"⟩, ⟨"java/lang/RuntimeException", "<init>", "(Ljava/lang/String;)V"⟩, ⟨"java/lang/Throwable", "<init>", "()V"⟩, ⟨"java/lang/Throwable", "<init>", "(Ljava/lang/String;)V"⟩]
def CL : List String := []
/-! the little machine: memory by places, contracts and walks over it -/
def TBg : List Cond := lw_tbl.filter goodWord
theorem tb_in {w : Cond} (i : Nat) (h : lw_tbl[i]? = some w) (hg : goodWord w = true) : w ∈ TBg := List.mem_filter.mpr ⟨List.mem_of_getElem? h, hg⟩
abbrev GG : Type := Nat × va_G × ClassId × ClassId × ClassId × Nat × Nat × (Nat → Int32)
abbrev MI : Type := MethodName × ByteArray × Nat × Option FieldType
abbrev KT : Type := Nat → Nat × Nat
abbrev ST : Type := Nat → Nat → Int
abbrev RT : Type := Nat → Nat → Option Nat
abbrev KK : Type := Option Value → Nat → KT → ST → ST → RT → Prop
def fval (t : Nat) (a g : Int) (r : Option Nat) : Value := match t with
  | 0 => .int (iI a)
  | 1 => .long (jJ g)
  | _ => va_rf r
def objF (ad : Nat → Nat) (ts : List Nat) (f g : Nat → Int) (r : Nat → Option Nat) : List Value := (List.range ts.length).map (fun k => fval (ts.getD k 0) (f k) (g k) ((r k).map ad))
theorem objF_len (ad : Nat → Nat) (ts : List Nat) (f g : Nat → Int) (r : Nat → Option Nat) : (objF ad ts f g r).length = ts.length := by unfold objF; simp
theorem objF_get {ad : Nat → Nat} {ts : List Nat} {f g : Nat → Int} {r : Nat → Option Nat} {k t : Nat} (h : ts[k]? = some t) : (objF ad ts f g r)[k]? = some (fval t (f k) (g k) ((r k).map ad)) := by
  have hk : k < ts.length := (List.getElem?_eq_some_iff.mp h).1
  unfold objF
  rw [List.getElem?_map, List.getElem?_range hk]
  simp [List.getD, h]
theorem objF_set {ad : Nat → Nat} {ts : List Nat} {f g f' g' : Nat → Int} {r r' : Nat → Option Nat} {k t : Nat} (h : ts[k]? = some t) (ho : ∀ j, j ≠ k → f' j = f j ∧ g' j = g j ∧ r' j = r j) : (objF ad ts f g r).set k (fval t (f' k) (g' k) ((r' k).map ad)) = objF ad ts f' g' r' := by
  have hk : k < ts.length := (List.getElem?_eq_some_iff.mp h).1
  apply List.ext_getElem?
  intro j
  rw [List.getElem?_set]
  by_cases e : k = j
  · subst e
    rw [if_pos rfl, if_pos (by rw [objF_len]; exact hk), objF_get h]
  · rw [if_neg e]
    obtain ⟨h1, h2, h3⟩ := ho j (fun q => e q.symm)
    unfold objF
    rw [List.getElem?_map, List.getElem?_map]
    by_cases hj : j < ts.length
    · rw [List.getElem?_range hj]
      simp only [Option.map_some]
      rw [h1, h2, h3]
    · rw [List.getElem?_eq_none (by simp; omega)]
      rfl
def ce (G : GG) (ad : Nat → Nat) (kp : Nat × Nat) (f g : Nat → Int) (r : Nat → Option Nat) : va_E := match kp.1 with
  | 0 => .inr (kp.2, objF ad (tg kp.2) f g r)
  | 1 => .inl (G.2.2.1, kp.2, .inl (fun j => iI (f j)))
  | 2 => .inl (G.2.2.2.1, kp.2, .inr (.inl (fun j => jJ (g j))))
  | _ => .inl (G.2.2.2.2.1, kp.2, .inr (.inr (.inr (.inr (fun j => (r j).map ad)))))
def wl (G : GG) (ad : Nat → Nat) (n : Nat) (kd : KT) (σ τ : ST) (ρ : RT) : va_W := (List.range n).map (fun p => (ad p, ce G ad (kd p) (σ p) (τ p) (ρ p)))
theorem wl_get {G : GG} {ad : Nat → Nat} {n : Nat} {kd : KT} {σ τ : ST} {ρ : RT} {p : Nat} (h : p < n) : (wl G ad n kd σ τ ρ)[p]? = some (ad p, ce G ad (kd p) (σ p) (τ p) (ρ p)) := by
  unfold wl
  rw [List.getElem?_map, List.getElem?_range h]
  rfl
theorem wl_set {G : GG} {ad : Nat → Nat} {n : Nat} {kd : KT} {σ τ σ' τ' : ST} {ρ ρ' : RT} {p : Nat} (h : p < n) (ho : ∀ j, j ≠ p → σ' j = σ j ∧ τ' j = τ j ∧ ρ' j = ρ j) : (wl G ad n kd σ τ ρ).set p (ad p, ce G ad (kd p) (σ' p) (τ' p) (ρ' p)) = wl G ad n kd σ' τ' ρ' := by
  apply List.ext_getElem?
  intro j
  rw [List.getElem?_set]
  by_cases e : p = j
  · subst e
    rw [if_pos rfl, if_pos (by unfold wl; simpa using h), wl_get h]
  · rw [if_neg e]
    obtain ⟨h1, h2, h3⟩ := ho j (fun q => e q.symm)
    by_cases hj : j < n
    · rw [wl_get hj, wl_get hj, h1, h2, h3]
    · rw [List.getElem?_eq_none (by unfold wl; simp; omega), List.getElem?_eq_none (by unfold wl; simp; omega)]
theorem ce_ad {G : GG} {ad ad' : Nat → Nat} {kp : Nat × Nat} {f g : Nat → Int} {r : Nat → Option Nat} (h : ∀ k q, r k = some q → ad' q = ad q) : ce G ad' kp f g r = ce G ad kp f g r := by
  have e : ∀ k, (r k).map ad' = (r k).map ad := fun k => by
    cases hr : r k with
    | none => rfl
    | some q => exact congrArg some (h k q hr)
  unfold ce objF
  simp only [e]
theorem wl_ad {G : GG} {ad ad' : Nat → Nat} {n : Nat} {kd : KT} {σ τ : ST} {ρ : RT} (h : ∀ p, p < n → ad' p = ad p) (hr : ∀ p k q, ρ p k = some q → q < n) : wl G ad' n kd σ τ ρ = wl G ad n kd σ τ ρ := by
  unfold wl
  apply List.map_congr_left
  intro p hp
  rw [h p (List.mem_range.mp hp), ce_ad (fun k q hq => h q (hr p k q hq))]
theorem wl_push {G : GG} {ad : Nat → Nat} {n : Nat} {kd kd' : KT} {σ τ σ' τ' : ST} {ρ ρ' : RT} {q : Nat} {e : va_E} (hr : ∀ p k q, ρ p k = some q → q < n) (ho : ∀ p, p ≠ n → kd' p = kd p ∧ σ' p = σ p ∧ τ' p = τ p ∧ ρ' p = ρ p) (he : ∀ ad', e = ce G ad' (kd' n) (σ' n) (τ' n) (ρ' n)) :
    wl G ad n kd σ τ ρ ++ [(q, e)] = wl G (va_up ad n q) (n + 1) kd' σ' τ' ρ' := by
  have h0 : ∀ p, p < n → va_up ad n q p = ad p := fun p hp => va_up_ne _ _ (by omega)
  rw [← wl_ad (ad' := va_up ad n q) h0 hr]
  unfold wl
  rw [List.range_succ, List.map_append]
  congr 1
  · apply List.map_congr_left
    intro p hp
    have hp := List.mem_range.mp hp
    obtain ⟨h1, h2, h3, h4⟩ := ho p (by omega)
    rw [h1, h2, h3, h4]
  · simp only [List.map_cons, List.map_nil]
    rw [he (va_up ad n q), va_up_self]
/-- the memory as the heap holds it -/
def RepH (G : GG) (ad : Nat → Nat) (n : Nat) (kd : KT) (σ τ : ST) (ρ : RT) (H : Heap) : Prop := va_P G.2.1 vwCl (wl G ad n kd σ τ ρ) H ∧ va_D (fun q => G.1 ≤ q) (wl G ad n kd σ τ ρ) ∧ (∀ p, (kd p).1 < 9 → p < n) ∧ (∀ p k q, ρ p k = some q → q < n) ∧ G.1 ≤ H.size
theorem RepH.ad {G : GG} {ad ad' : Nat → Nat} {n : Nat} {kd : KT} {σ τ : ST} {ρ : RT} {H : Heap} (h : RepH G ad' n kd σ τ ρ H) (ha : ∀ p, p < n → ad' p = ad p) : RepH G ad n kd σ τ ρ H := by
  obtain ⟨h1, h2, h3, h4, h5⟩ := h
  rw [wl_ad ha h4] at h1 h2
  exact ⟨h1, h2, h3, h4, h5⟩
def tys (G : GG) : List (ClassId × FieldType) := [(G.2.2.1, .int), (G.2.2.2.1, .int), (G.2.2.2.2.1, .object "ShapedRows$State")]
abbrev tN : String := Bundle.tN
/-- what stays true of the machine all along -/
def EnvW (U : State) : Prop := (∀ q ∈ NL, va_Nw (.methodLinkNest q.1 q.2.1 q.2.2.1 q.2.2.2) U) ∧ (∀ x ∈ DL, va_Nw (.declares x) U) ∧ (∀ q ∈ CL, va_Nw (.castable q q) U) ∧ (∀ q ∈ CL, ∀ r ∈ CL, q ≠ r → va_Nc q r U)
theorem EnvW.moved {s U : State} (hW : s.WarmedH U.vm) (h : EnvW s) : EnvW U := ⟨fun q hq => va_Nw.warmM hW (h.1 q hq), fun x hx => va_Nw.warmD hW (h.2.1 x hx), fun q hq => va_Nw.warmC hW (h.2.2.1 q hq), fun q hq r hr hn => (h.2.2.2 q hq r hr hn).moved hW.alike⟩
theorem EnvW.same {s U : State} (hv : s.vm = U.vm) (h : EnvW s) : EnvW U := ⟨fun q hq => va_Nw.same rfl hv (h.1 q hq), fun x hx => va_Nw.same rfl hv (h.2.1 x hx), fun q hq => va_Nw.same rfl hv (h.2.2.1 q hq), fun q hq r hr hn => (h.2.2.2 q hq r hr hn).moved (hv ▸ Vm.Alike.refl s.vm)⟩
def EnvP (G : GG) (U : State) : Prop := va_K G.2.1 vwCl (tys G) U ∧ EnvW U ∧ (∀ q ∈ SL, ∃ a, vk_R q.1 q.2.1 q.2.2 a U) ∧ vx_Zq Bundle.tN "UNASSIGNED_STACK" Bundle.steD (fun q => G.1 ≤ q) U U.heap ∧ vx_Zq Bundle.tN "SUPPRESSED_SENTINEL" Bundle.listD (fun q => G.1 ≤ q) U U.heap ∧ va_X G.2.2.2.2.2.1 G.2.2.2.2.2.2.1 G.2.2.2.2.2.2.2 U U.heap ∧ G.2.2.2.2.2.1 < G.1 ∧ G.1 ≤ U.heap.size
theorem EnvP.moved {G : GG} {s U : State} (hW : s.WarmedH U.vm) (hh : ∀ q : Nat, q < G.1 → U.heap[q]? = s.heap[q]?) (hz : G.1 ≤ U.heap.size) (h : EnvP G s) : EnvP G U := by
  obtain ⟨h1, h2, h3, h4, h5, h6, h7, h8⟩ := h
  have hv := hW.alike
  exact ⟨h1.moved hv, h2.moved hW, fun q hq => (h3 q hq).elim fun a ha => ⟨a, vk_R.warm hW ha⟩, (h4.moved hv).kept (fun a _ hb => hh a (Nat.not_le.mp hb)), (h5.moved hv).kept (fun a _ hb => hh a (Nat.not_le.mp hb)), (h6.moved hv).kept (hh _ h7), h7, hz⟩
theorem EnvP.same {G : GG} {s U : State} (hv : s.vm = U.vm) (hh : s.heap = U.heap) (h : EnvP G s) : EnvP G U := by
  obtain ⟨h1, h2, h3, h4, h5, h6, h7, h8⟩ := h
  have ha : s.vm.Alike U.vm := hv ▸ Vm.Alike.refl s.vm
  rw [hh] at h4 h5 h6 h8
  exact ⟨h1.moved ha, h2.same hv, fun q hq => (h3 q hq).elim fun a ha => ⟨a, vk_R.same hv.symm ha⟩, h4.moved ha, h5.moved ha, h6.moved ha, h7, h8⟩
def trv (ad : Nat → Nat) : Value → Value
  | .ref a => .ref (ad a)
  | v => v
def scb (n : Nat) : Value → Bool
  | .ref a => decide (a < n)
  | _ => true
theorem trv_ad {ad ad' : Nat → Nat} {n : Nat} {v : Value} (h : ∀ p, p < n → ad' p = ad p) (hv : scb n v = true) : trv ad' v = trv ad v := by
  cases v <;> try rfl
  rename_i a
  have ha : a < n := of_decide_eq_true hv
  show Value.ref (ad' a) = Value.ref (ad a)
  rw [h a ha]
theorem trv_cat (ad : Nat → Nat) (v : Value) : (trv ad v).category = v.category := by cases v <;> rfl
def wsM (X : MI) : List Cond := .code X.1 X.2.1 X.2.2.1 X.2.2.2 :: TBg
theorem gin {X : MI} (h : Cond.code X.1 X.2.1 X.2.2.1 X.2.2.2 ∈ TBg) : GoodIn TBg (wsM X) := fun w hw => by
  have hm : w ∈ TBg := (List.mem_cons.mp hw).elim (fun e => e ▸ h) id
  exact ⟨hm, good_of_word (List.mem_filter.mp hm).2⟩
def rmD (dm : Nat × Nat × Nat) : Room := { frames := dm.1, cells := dm.2.1, slots := dm.2.2, locals := 37 * dm.1 }
def CtQ (G : GG) (n0 : Nat) (ad0 : Nat → Nat) (K : KK) : Array Value → State → Outcome → State → Prop := fun _ st oc t => (∃ (v : Option Value) (ad : Nat → Nat) (n : Nat) (kd : KT) (σ τ : ST) (ρ : RT), oc = .returned (v.map (trv ad)) ∧ K v n kd σ τ ρ ∧ (∀ p, p < n0 → ad p = ad0 p) ∧ RepH G ad n kd σ τ ρ t.heap ∧ (∀ w, v = some w → scb n w = true)) ∧ va_F (fun q => G.1 ≤ q) st t
def CtP (G : GG) (ad : Nat → Nat) (n : Nat) (kd : KT) (σ τ : ST) (ρ : RT) : State → Prop := fun U => RepH G ad n kd σ τ ρ U.heap ∧ EnvP G U
/-- a method's contract: from these arguments and this memory it returns, and K holds of its answer and of the memory then -/
def Ct (l : Launch) (G : GG) (X : MI) (dm : Nat × Nat × Nat) (as : List Value) (n : Nat) (kd : KT) (σ τ : ST) (ρ : RT) (K : KK) : Prop :=
  ∀ ad : Nat → Nat, Met l X.1 (wsM X) (rmD dm) (va_Pc (as.map (trv ad)) (CtP G ad n kd σ τ ρ)) (CtQ G n ad K) dm.2.1 dm.2.2 (fun q => G.1 ≤ q)
theorem Ct.mono {l : Launch} {G : GG} {X : MI} {dm : Nat × Nat × Nat} {as : List Value} {n : Nat} {kd : KT} {σ τ : ST} {ρ : RT} {K K' : KK} (h : ∀ v n kd σ τ ρ, K v n kd σ τ ρ → K' v n kd σ τ ρ) (c : Ct l G X dm as n kd σ τ ρ K) : Ct l G X dm as n kd σ τ ρ K' := by
  intro ad
  have h0 := c ad
  intro p e ha hc hk s m args below hf happ hP hT
  obtain ⟨t, o, h1, h2, h3, h4⟩ := h0 p e ha hc hk s m args below hf happ hP hT
  exact ⟨t, o, h1, h2, h3, by
    obtain ⟨⟨⟨v, ad', n', kd', σ', τ', ρ', q1, q2, q3⟩, q4⟩, q5⟩ := h4
    exact ⟨⟨⟨v, ad', n', kd', σ', τ', ρ', q1, h _ _ _ _ _ _ q2, q3⟩, q4⟩, q5⟩⟩
/-- the locals of a frame, by their numbers -/
def LsOK (nL : Nat) (ls : Array Slot) (L : List (Option Value)) : Prop := ls.size = nL ∧ lv_wf ls ∧ ∀ (k : Nat) (v : Value), L[k]? = some (some v) → ls[k]? = some (.val v)
def is2 : Value → Bool
  | .long _ => true
  | .double _ => true
  | _ => false
theorem is2_cat (v : Value) : v.category = 2 ↔ is2 v = true := by cases v <;> simp [is2, Value.category]
theorem is2_cat1 {v : Value} (h : is2 v = false) : v.category = 1 := by cases v <;> first | rfl | (simp [is2] at h)
def lpairs (L : List (Option Value)) : List (Nat × Value) := (List.range L.length).filterMap (fun k => (L[k]?.join).map (fun v => (k, v)))
theorem lpairs_mem {L : List (Option Value)} {q : Nat × Value} : q ∈ lpairs L ↔ L[q.1]? = some (some q.2) := by
  unfold lpairs
  rw [List.mem_filterMap]
  constructor
  · rintro ⟨k, hk, h⟩
    cases h1 : L[k]? with
    | none => rw [h1] at h; cases h
    | some o =>
      cases o with
      | none => rw [h1] at h; cases h
      | some v => rw [h1] at h; cases h; exact h1
  · intro h
    refine ⟨q.1, List.mem_range.mpr (List.getElem?_eq_some_iff.mp h).1, ?_⟩
    rw [h]
    rfl
theorem LsOK.has {nL : Nat} {ls : Array Slot} {L : List (Option Value)} (h : LsOK nL ls L) : lv_has ls nL (lpairs L) := ⟨h.1, h.2.1, fun q hq => h.2.2 q.1 q.2 (lpairs_mem.mp hq)⟩
/-- a value comes into a local -/
def stL : List (Option Value) → Nat → Value → List (Option Value)
  | [], _, _ => []
  | _ :: r, 0, v => some v :: (match is2 v, r with
    | true, _ :: r' => none :: r'
    | _, r => r)
  | x :: r, 1, v => (match x with
    | some w => if is2 w then none else some w
    | none => none) :: stL r 0 v
  | x :: r, i + 2, v => x :: stL r (i + 1) v
theorem stL_spec1 : ∀ (L : List (Option Value)) (i : Nat) (v : Value), is2 v = false → ∀ k w, (stL L i v)[k]? = some (some w) → (k = i ∧ w = v) ∨ (k ≠ i ∧ L[k]? = some (some w) ∧ ¬ (k + 1 = i ∧ w.category = 2)) := by
  intro L
  induction L with
  | nil => intro i v hv k w h; simp [stL] at h
  | cons x r ih =>
    intro i v hv k w h
    match i with
    | 0 =>
      simp only [stL, hv] at h
      match k with
      | 0 => left; simp at h; exact ⟨rfl, h.symm⟩
      | k + 1 => right; exact ⟨by omega, by simpa using h, by omega⟩
    | 1 =>
      match k with
      | 0 =>
        right
        cases x with
        | none => simp [stL] at h
        | some w0 =>
          by_cases h2 : is2 w0 = true
          · simp [stL, h2] at h
          · simp [stL, h2] at h
            subst h
            exact ⟨by omega, rfl, fun q => h2 ((is2_cat w0).mp q.2)⟩
      | k + 1 =>
        have h' : (stL r 0 v)[k]? = some (some w) := by simpa [stL] using h
        rcases ih 0 v hv k w h' with ⟨a, b⟩ | ⟨a, b, c⟩
        · left; exact ⟨by omega, b⟩
        · right; exact ⟨by omega, by simpa using b, by omega⟩
    | i + 2 =>
      match k with
      | 0 => right; exact ⟨by omega, by simpa [stL] using h, by omega⟩
      | k + 1 =>
        have h' : (stL r (i + 1) v)[k]? = some (some w) := by simpa [stL] using h
        rcases ih (i + 1) v hv k w h' with ⟨a, b⟩ | ⟨a, b, c⟩
        · left; exact ⟨by omega, b⟩
        · right; exact ⟨by omega, by simpa using b, by omega⟩
theorem stL_spec2 : ∀ (L : List (Option Value)) (i : Nat) (v : Value), is2 v = true → i + 1 < L.length → ∀ k w, (stL L i v)[k]? = some (some w) → (k = i ∧ w = v) ∨ (k ≠ i ∧ k ≠ i + 1 ∧ L[k]? = some (some w) ∧ ¬ (k + 1 = i ∧ w.category = 2)) := by
  intro L
  induction L with
  | nil => intro i v hv hl k w h; simp [stL] at h
  | cons x r ih =>
    intro i v hv hl k w h
    match i with
    | 0 =>
      match r, hl with
      | y :: r', hl =>
        simp only [stL, hv] at h
        match k with
        | 0 => left; simp at h; exact ⟨rfl, h.symm⟩
        | 1 => simp at h
        | k + 2 => right; exact ⟨by omega, by omega, by simpa using h, by omega⟩
      | [], hl => simp at hl
    | 1 =>
      match k with
      | 0 =>
        right
        cases x with
        | none => simp [stL] at h
        | some w0 =>
          by_cases h2 : is2 w0 = true
          · simp [stL, h2] at h
          · simp [stL, h2] at h
            subst h
            exact ⟨by omega, by omega, rfl, fun q => h2 ((is2_cat w0).mp q.2)⟩
      | k + 1 =>
        have h' : (stL r 0 v)[k]? = some (some w) := by simpa [stL] using h
        rcases ih 0 v hv (by simp at hl; omega) k w h' with ⟨a, b⟩ | ⟨a, a2, b, c⟩
        · left; exact ⟨by omega, b⟩
        · right; exact ⟨by omega, by omega, by simpa using b, by omega⟩
    | i + 2 =>
      match k with
      | 0 => right; exact ⟨by omega, by omega, by simpa [stL] using h, by omega⟩
      | k + 1 =>
        have h' : (stL r (i + 1) v)[k]? = some (some w) := by simpa [stL] using h
        rcases ih (i + 1) v hv (by simp at hl; omega) k w h' with ⟨a, b⟩ | ⟨a, a2, b, c⟩
        · left; exact ⟨by omega, b⟩
        · right; exact ⟨by omega, by omega, by simpa using b, by omega⟩
theorem LsOK.st1 {nL : Nat} {ls : Array Slot} {L : List (Option Value)} {i : Nat} {v : Value} (hv : is2 v = false) (h : lv_has ls nL ((i, v) :: (lpairs L).filter (fun q => !(q.1 == i) && !(q.1 + 1 == i && q.2.category == 2)))) : LsOK nL ls (stL L i v) := by
  refine ⟨h.1, h.2.1, fun k w hk => ?_⟩
  rcases stL_spec1 L i v hv k w hk with ⟨rfl, rfl⟩ | ⟨a, b, c⟩
  · exact h.2.2 (k, w) List.mem_cons_self
  · refine h.2.2 (k, w) (List.mem_cons_of_mem _ (List.mem_filter.mpr ⟨lpairs_mem.mpr b, ?_⟩))
    simp only [Bool.and_eq_true, Bool.not_eq_true', beq_eq_false_iff_ne, Bool.and_eq_false_iff]
    refine ⟨a, ?_⟩
    by_cases h1 : k + 1 = i
    · right; exact fun q => c ⟨h1, q⟩
    · left; exact h1
theorem LsOK.st2 {nL : Nat} {ls : Array Slot} {L : List (Option Value)} {i : Nat} {v : Value} (hv : is2 v = true) (hi : i + 1 < L.length) (h : lv_has ls nL ((i, v) :: (lpairs L).filter (fun q => !(q.1 == i) && (!(q.1 == i + 1) && !(q.1 + 1 == i && q.2.category == 2))))) : LsOK nL ls (stL L i v) := by
  refine ⟨h.1, h.2.1, fun k w hk => ?_⟩
  rcases stL_spec2 L i v hv hi k w hk with ⟨rfl, rfl⟩ | ⟨a, a2, b, c⟩
  · exact h.2.2 (k, w) List.mem_cons_self
  · refine h.2.2 (k, w) (List.mem_cons_of_mem _ (List.mem_filter.mpr ⟨lpairs_mem.mpr b, ?_⟩))
    simp only [Bool.and_eq_true, Bool.not_eq_true', beq_eq_false_iff_ne, Bool.and_eq_false_iff]
    refine ⟨a, a2, ?_⟩
    by_cases h1 : k + 1 = i
    · right; exact fun q => c ⟨h1, q⟩
    · left; exact h1
def trL (ad : Nat → Nat) (L : List (Option Value)) : List (Option Value) := L.map (Option.map (trv ad))
theorem trL_get {ad : Nat → Nat} {L : List (Option Value)} {k : Nat} {v : Value} (h : L[k]? = some (some v)) : (trL ad L)[k]? = some (some (trv ad v)) := by
  unfold trL
  rw [List.getElem?_map, h]
  rfl
theorem is2_trv (ad : Nat → Nat) (v : Value) : is2 (trv ad v) = is2 v := by cases v <;> rfl
theorem trL_st (ad : Nat → Nat) : ∀ (L : List (Option Value)) (i : Nat) (v : Value), stL (trL ad L) i (trv ad v) = trL ad (stL L i v) := by
  intro L
  induction L with
  | nil => intro i v; rfl
  | cons x r ih =>
    intro i v
    match i with
    | 0 =>
      cases h2 : is2 v with
      | true => cases r <;> simp [trL, stL, is2_trv, h2]
      | false => simp [trL, stL, is2_trv, h2]
    | 1 =>
      have h1 := ih 0 v
      cases x with
      | none => simpa [trL, stL] using h1
      | some w => cases h2 : is2 w <;> simpa [trL, stL, is2_trv, h2] using h1
    | i + 2 =>
      have h1 := ih (i + 1) v
      simpa [trL, stL] using h1
theorem LsOK.ad {nL : Nat} {ls : Array Slot} {L : List (Option Value)} {ad ad' : Nat → Nat} {n : Nat} (h : ∀ p, p < n → ad' p = ad p) (hL : L.all (fun o => o.all (scb n)) = true) (hl : LsOK nL ls (trL ad L)) : LsOK nL ls (trL ad' L) := by
  have e : trL ad' L = trL ad L := by
    unfold trL
    apply List.map_congr_left
    intro o ho
    have h1 := List.all_eq_true.mp hL o ho
    cases o with
    | none => rfl
    | some v => exact congrArg some (trv_ad h h1)
  rw [e]
  exact hl
theorem trS_ad {ad ad' : Nat → Nat} {n : Nat} {S : List Value} (h : ∀ p, p < n → ad' p = ad p) (hS : S.all (scb n) = true) : S.map (trv ad') = S.map (trv ad) := by
  apply List.map_congr_left
  intro v hv
  exact trv_ad h (List.all_eq_true.mp hS v hv)
/-- at a return, this answer on the stack -/
def RS (X : MI) (pc : Nat) (v : Option Value) (S : List Value) : Prop :=
  (∃ x, v = some (.int x) ∧ S = [.int x] ∧ decode X.2.1 pc = .ok (.ireturn, 1) ∧ ∃ ty, X.2.2.2 = some ty ∧ narrow ty (.int x) = .int x) ∨
  (∃ x, v = some (.long x) ∧ S = [.long x] ∧ decode X.2.1 pc = .ok (.lreturn, 1) ∧ X.2.2.2 = some .long) ∨
  (∃ x, v = some (.double x) ∧ S = [.double x] ∧ decode X.2.1 pc = .ok (.dreturn, 1) ∧ X.2.2.2 = some .double) ∨
  (∃ w, v = some w ∧ S = [w] ∧ (w = .null ∨ ∃ a, w = .ref a) ∧ decode X.2.1 pc = .ok (.areturn, 1) ∧ ∃ rt, X.2.2.2 = some rt ∧ ((∃ n, rt = .object n) ∨ ∃ t, rt = .array t)) ∨
  (v = none ∧ S = [] ∧ decode X.2.1 pc = .ok (.return_, 1) ∧ X.2.2.2 = none)
/-- 'throw new E(text)' at pc -/
def TA (own : String) (cc : ByteArray) (pc : Nat) (E : String) : Prop := ∃ (text : String) (names : List String) (ik is ic : Nat),
  Bundle.fit E = true ∧ (∀ n ∈ names, Bundle.fit n = true) ∧ names.length ≤ 3 ∧ (own, is, text) ∈ SL ∧
  (∀ w ∈ Cond.classLink own ik E :: Cond.initialized E :: vx_atS own ic E names, vx_ot w = true ∧ (w ∈ TBg ∨ (∃ x ∈ DL, w = .declares x) ∨ ∃ q ∈ CL, w = .castable q q)) ∧
  decode cc pc = .ok (.new ik, 3) ∧ decode cc (pc + 3) = .ok (.dup, 1) ∧ decode cc (pc + 4) = .ok (.ldc is, 2) ∧ decode cc (pc + 6) = .ok (.invokespecial ic, 3) ∧ decode cc (pc + 9) = .ok (.athrow, 1)
abbrev KX : Type := String → Nat → KT → ST → ST → RT → Prop
/-- the frame's surroundings: the machine, the code, the words, and where it may end -/
def Cx (l : Launch) (G : GG) (own : String) (X : MI) (dm : Nat × Nat × Nat) (K : KK) (KE : KX) (n0 : Nat) (ad0 : Nat → Nat) (p : Program) (e : Env) (R : Room) (s : State) (m : MethodId) (args : Array Value) (below : List Frame) (meth : Method) (c : Code) (Z : State → Prop) : Prop :=
  p.tables.exec = Jvm.exec ∧ c.code = X.2.1 ∧ c.maxLocals = X.2.2.1 ∧ s.vm.findClass own = some m.cls ∧ (∀ w ∈ TBg, w.before args s = true) ∧ meth.locks = false ∧ EnvP G s ∧ (dm.1 ≤ R.frames ∧ 37 * dm.1 ≤ R.locals ∧ dm.2.1 ≤ R.cells ∧ dm.2.2 ≤ R.slots) ∧ meth.name = X.1.name ∧
  (∀ (v : Option Value) (ad : Nat → Nat) (n : Nat) (kd : KT) (σ τ : ST) (ρ : RT) (H : Heap) (locs : List Loc) (ls : Array Slot) (pc : Nat) (S : List Value) (ce sl : Nat), K v n kd σ τ ρ → (∀ p, p < n0 → ad p = ad0 p) → RepH G ad n kd σ τ ρ H → va_S (fun q => G.1 ≤ q) s.heap H locs → ce ≤ dm.2.1 → sl ≤ dm.2.2 → (∀ w, v = some w → scb n w = true) → RS X pc v S → W p l e R s m args below meth c H locs ce sl Z (F0 m pc ls (S.map (trv ad)))) ∧
  (∀ (E : String) (ad : Nat → Nat) (n : Nat) (kd : KT) (σ τ : ST) (ρ : RT) (H : Heap) (locs : List Loc) (ls : Array Slot) (pc : Nat) (ce sl : Nat), KE E n kd σ τ ρ → (∀ p, p < n0 → ad p = ad0 p) → RepH G ad n kd σ τ ρ H → va_S (fun q => G.1 ≤ q) s.heap H locs → ce + 1 ≤ dm.2.1 → sl + 6 ≤ dm.2.2 → ls.size = X.2.2.1 → TA own X.2.1 pc E → W p l e R s m args below meth c H locs ce sl Z (F0 m pc ls []))
/-- from here the method comes to its end, and K (or KE) holds there -/
def WP (l : Launch) (G : GG) (own : String) (X : MI) (dm : Nat × Nat × Nat) (K : KK) (KE : KX) (n0 pc : Nat) (L : List (Option Value)) (S : List Value) (n : Nat) (kd : KT) (σ τ : ST) (ρ : RT) (ce sl : Nat) : Prop :=
  ∀ (ad0 ad : Nat → Nat) (p : Program) (e : Env) (R : Room) (s : State) (m : MethodId) (args : Array Value) (below : List Frame) (meth : Method) (c : Code) (H : Heap) (locs : List Loc) (ls : Array Slot) (Z : State → Prop),
    Cx l G own X dm K KE n0 ad0 p e R s m args below meth c Z → (∀ p, p < n0 → ad p = ad0 p) → RepH G ad n kd σ τ ρ H → va_S (fun q => G.1 ≤ q) s.heap H locs → LsOK X.2.2.1 ls (trL ad L) → W p l e R s m args below meth c H locs ce sl Z (F0 m pc ls (S.map (trv ad)))
def noX : KX := fun _ _ _ _ _ _ => False
def up2 (σ : ST) (p k : Nat) (v : Int) : ST := fun a b => if a = p ∧ b = k then v else σ a b
def upR (ρ : RT) (p k : Nat) (v : Option Nat) : RT := fun a b => if a = p ∧ b = k then v else ρ a b
theorem up2_row (σ : ST) (p k : Nat) (v : Int) : up2 σ p k v p = fun j => if j = k then v else σ p j := by
  funext j
  unfold up2
  simp
theorem up2_off (σ : ST) {p k : Nat} {v : Int} {j : Nat} (h : j ≠ p) : up2 σ p k v j = σ j := by
  funext b
  unfold up2
  rw [if_neg (fun q => h q.1)]
theorem upR_row (ρ : RT) (p k : Nat) (v : Option Nat) : upR ρ p k v p = fun j => if j = k then v else ρ p j := by
  funext j
  unfold upR
  simp
theorem upR_off (ρ : RT) {p k : Nat} {v : Option Nat} {j : Nat} (h : j ≠ p) : upR ρ p k v j = ρ j := by
  funext b
  unfold upR
  rw [if_neg (fun q => h q.1)]
theorem trL_len (ad : Nat → Nat) (L : List (Option Value)) : (trL ad L).length = L.length := by unfold trL; simp
theorem iI_ge0 {a : Int} (ha : inR a) : 0 ≤ iI a ↔ 0 ≤ a := by rw [← iI_0, iI_le inR_0 ha]
theorem iI_gt0 {a : Int} (ha : inR a) : 0 < iI a ↔ 0 < a := by rw [← iI_0, iI_lt inR_0 ha]
section Rows
variable {l : Launch} {G : GG} {own : String} {X : MI} {dm : Nat × Nat × Nat} {K : KK} {KE : KX} {n0 pc : Nat} {L : List (Option Value)} {S : List Value} {n : Nat} {kd : KT} {σ τ : ST} {ρ : RT} {ce sl : Nat}
/-- a step that touches neither heap nor locals -/
theorem r_pure {pc' : Nat} {S' : List Value} (h : ∀ (ad : Nat → Nat) (p : Program) (e : Env) (R : Room) (s : State) (m : MethodId) (args : Array Value) (below : List Frame) (meth : Method) (c : Code) (H : Heap) (locs : List Loc) (ls : Array Slot) (Z : State → Prop), p.tables.exec = Jvm.exec → c.code = X.2.1 → LsOK X.2.2.1 ls (trL ad L) → s.vm.findClass own = some m.cls → (∀ w ∈ TBg, w.before args s = true) →
    W p l e R s m args below meth c H locs ce sl Z (F0 m pc' ls (S'.map (trv ad))) → W p l e R s m args below meth c H locs ce sl Z (F0 m pc ls (S.map (trv ad))))
    (k : WP l G own X dm K KE n0 pc' L S' n kd σ τ ρ ce sl) : WP l G own X dm K KE n0 pc L S n kd σ τ ρ ce sl := by
  intro ad0 ad p e R s m args below meth c H locs ls Z C ha hH hS hL
  obtain ⟨hx, hb, hml, hown, hts, -⟩ := id C
  exact h ad p e R s m args below meth c H locs ls Z hx hb hL hown hts (k ad0 ad p e R s m args below meth c H locs ls Z C ha hH hS hL)
/-- a branch -/
theorem r_br {c1 c2 : Prop} {pc1 pc2 : Nat} {S' : List Value} (h : ∀ (ad : Nat → Nat) (p : Program) (e : Env) (R : Room) (s : State) (m : MethodId) (args : Array Value) (below : List Frame) (meth : Method) (c : Code) (H : Heap) (locs : List Loc) (ls : Array Slot) (Z : State → Prop), p.tables.exec = Jvm.exec → c.code = X.2.1 →
    (c1 → W p l e R s m args below meth c H locs ce sl Z (F0 m pc1 ls (S'.map (trv ad)))) → (c2 → W p l e R s m args below meth c H locs ce sl Z (F0 m pc2 ls (S'.map (trv ad)))) → W p l e R s m args below meth c H locs ce sl Z (F0 m pc ls (S.map (trv ad))))
    (k1 : c1 → WP l G own X dm K KE n0 pc1 L S' n kd σ τ ρ ce sl) (k2 : c2 → WP l G own X dm K KE n0 pc2 L S' n kd σ τ ρ ce sl) : WP l G own X dm K KE n0 pc L S n kd σ τ ρ ce sl := by
  intro ad0 ad p e R s m args below meth c H locs ls Z C ha hH hS hL
  obtain ⟨hx, hb, -⟩ := id C
  exact h ad p e R s m args below meth c H locs ls Z hx hb (fun q => k1 q ad0 ad p e R s m args below meth c H locs ls Z C ha hH hS hL) (fun q => k2 q ad0 ad p e R s m args below meth c H locs ls Z C ha hH hS hL)
theorem r_iconst {z : Int} (hd : decode X.2.1 pc = .ok (.iconst z, 1)) (k : WP l G own X dm K KE n0 (pc + 1) L (.int (iI z) :: S) n kd σ τ ρ ce sl) : WP l G own X dm K KE n0 pc L (S) n kd σ τ ρ ce sl :=
  r_pure (fun ad p e R s m args below meth c H locs ls Z hx hb hL hown hts kk => lv_iconst hx hb hd rfl kk) k
theorem r_bipush {z : Int} (hd : decode X.2.1 pc = .ok (.bipush z, 2)) (hv : (Int8.ofInt z).toInt32 = iI z) (k : WP l G own X dm K KE n0 (pc + 2) L (.int (iI z) :: S) n kd σ τ ρ ce sl) : WP l G own X dm K KE n0 pc L (S) n kd σ τ ρ ce sl :=
  r_pure (fun ad p e R s m args below meth c H locs ls Z hx hb hL hown hts kk => lv_bipush hx hb hd hv kk) k
theorem r_sipush {z : Int} (hd : decode X.2.1 pc = .ok (.sipush z, 3)) (hv : (Int16.ofInt z).toInt32 = iI z) (k : WP l G own X dm K KE n0 (pc + 3) L (.int (iI z) :: S) n kd σ τ ρ ce sl) : WP l G own X dm K KE n0 pc L (S) n kd σ τ ρ ce sl :=
  r_pure (fun ad p e R s m args below meth c H locs ls Z hx hb hL hown hts kk => lv_sipush hx hb hd hv kk) k
theorem r_lconst {q : Fin 2} {z : Int} (hd : decode X.2.1 pc = .ok (.lconst q, 1)) (hv : Int64.ofNat (q : Nat) = jJ z) (k : WP l G own X dm K KE n0 (pc + 1) L (.long (jJ z) :: S) n kd σ τ ρ ce sl) : WP l G own X dm K KE n0 pc L (S) n kd σ τ ρ ce sl :=
  r_pure (fun ad p e R s m args below meth c H locs ls Z hx hb hL hown hts kk => lv_lconst hx hb hd hv kk) k
theorem r_null (hd : decode X.2.1 pc = .ok (.aconst_null, 1)) (k : WP l G own X dm K KE n0 (pc + 1) L (.null :: S) n kd σ τ ρ ce sl) : WP l G own X dm K KE n0 pc L (S) n kd σ τ ρ ce sl :=
  r_pure (fun ad p e R s m args below meth c H locs ls Z hx hb hL hown hts kk => lv_null hx hb hd kk) k
theorem r_iload_n {q : Fin 4} {i : Nat} {x : Int32} (hd : decode X.2.1 pc = .ok (.iload_n q, 1)) (hi : (q : Nat) = i) (hl : L[i]? = some (some (.int x))) (k : WP l G own X dm K KE n0 (pc + 1) L (.int x :: S) n kd σ τ ρ ce sl) : WP l G own X dm K KE n0 pc L (S) n kd σ τ ρ ce sl :=
  r_pure (fun ad p e R s m args below meth c H locs ls Z hx hb hL hown hts kk => lv_iload_n hx hb hd hi (hL.2.2 i _ (trL_get hl)) kk) k
theorem r_iload {i : Nat} {x : Int32} (hd : decode X.2.1 pc = .ok (.iload i, 2)) (hl : L[i]? = some (some (.int x))) (k : WP l G own X dm K KE n0 (pc + 2) L (.int x :: S) n kd σ τ ρ ce sl) : WP l G own X dm K KE n0 pc L (S) n kd σ τ ρ ce sl :=
  r_pure (fun ad p e R s m args below meth c H locs ls Z hx hb hL hown hts kk => lv_iload hx hb hd (hL.2.2 i _ (trL_get hl)) kk) k
theorem r_lload_n {q : Fin 4} {i : Nat} {x : Int64} (hd : decode X.2.1 pc = .ok (.lload_n q, 1)) (hi : (q : Nat) = i) (hl : L[i]? = some (some (.long x))) (k : WP l G own X dm K KE n0 (pc + 1) L (.long x :: S) n kd σ τ ρ ce sl) : WP l G own X dm K KE n0 pc L (S) n kd σ τ ρ ce sl :=
  r_pure (fun ad p e R s m args below meth c H locs ls Z hx hb hL hown hts kk => lv_lload_n hx hb hd hi (hL.2.2 i _ (trL_get hl)) kk) k
theorem r_lload {i : Nat} {x : Int64} (hd : decode X.2.1 pc = .ok (.lload i, 2)) (hl : L[i]? = some (some (.long x))) (k : WP l G own X dm K KE n0 (pc + 2) L (.long x :: S) n kd σ τ ρ ce sl) : WP l G own X dm K KE n0 pc L (S) n kd σ τ ρ ce sl :=
  r_pure (fun ad p e R s m args below meth c H locs ls Z hx hb hL hown hts kk => lv_lload hx hb hd (hL.2.2 i _ (trL_get hl)) kk) k
theorem r_dload_n {q : Fin 4} {i : Nat} {x : UInt64} (hd : decode X.2.1 pc = .ok (.dload_n q, 1)) (hi : (q : Nat) = i) (hl : L[i]? = some (some (.double x))) (k : WP l G own X dm K KE n0 (pc + 1) L (.double x :: S) n kd σ τ ρ ce sl) : WP l G own X dm K KE n0 pc L (S) n kd σ τ ρ ce sl :=
  r_pure (fun ad p e R s m args below meth c H locs ls Z hx hb hL hown hts kk => lv_dload_n hx hb hd hi (hL.2.2 i _ (trL_get hl)) kk) k
theorem r_dload {i : Nat} {x : UInt64} (hd : decode X.2.1 pc = .ok (.dload i, 2)) (hl : L[i]? = some (some (.double x))) (k : WP l G own X dm K KE n0 (pc + 2) L (.double x :: S) n kd σ τ ρ ce sl) : WP l G own X dm K KE n0 pc L (S) n kd σ τ ρ ce sl :=
  r_pure (fun ad p e R s m args below meth c H locs ls Z hx hb hL hown hts kk => lv_dload hx hb hd (hL.2.2 i _ (trL_get hl)) kk) k
theorem r_aload_n {q : Fin 4} {i a : Nat} (hd : decode X.2.1 pc = .ok (.aload_n q, 1)) (hi : (q : Nat) = i) (hl : L[i]? = some (some (.ref a))) (k : WP l G own X dm K KE n0 (pc + 1) L (.ref a :: S) n kd σ τ ρ ce sl) : WP l G own X dm K KE n0 pc L (S) n kd σ τ ρ ce sl :=
  r_pure (fun ad p e R s m args below meth c H locs ls Z hx hb hL hown hts kk => lv_aload_n hx hb hd hi (hL.2.2 i _ (trL_get hl)) kk) k
theorem r_aload {i a : Nat} (hd : decode X.2.1 pc = .ok (.aload i, 2)) (hl : L[i]? = some (some (.ref a))) (k : WP l G own X dm K KE n0 (pc + 2) L (.ref a :: S) n kd σ τ ρ ce sl) : WP l G own X dm K KE n0 pc L (S) n kd σ τ ρ ce sl :=
  r_pure (fun ad p e R s m args below meth c H locs ls Z hx hb hL hown hts kk => lv_aload hx hb hd (hL.2.2 i _ (trL_get hl)) kk) k
theorem r_iadd {a b : Int} (hd : decode X.2.1 pc = .ok (.iadd, 1)) (k : WP l G own X dm K KE n0 (pc + 1) L (.int (iI (a + b)) :: S) n kd σ τ ρ ce sl) : WP l G own X dm K KE n0 pc L (.int (iI b) :: .int (iI a) :: S) n kd σ τ ρ ce sl :=
  r_pure (fun ad p e R s m args below meth c H locs ls Z hx hb hL hown hts kk => lv_iadd hx hb hd (by rw [← iI_add]; exact kk)) k
theorem r_isub {a b : Int} (hd : decode X.2.1 pc = .ok (.isub, 1)) (k : WP l G own X dm K KE n0 (pc + 1) L (.int (iI (a - b)) :: S) n kd σ τ ρ ce sl) : WP l G own X dm K KE n0 pc L (.int (iI b) :: .int (iI a) :: S) n kd σ τ ρ ce sl :=
  r_pure (fun ad p e R s m args below meth c H locs ls Z hx hb hL hown hts kk => lv_isub hx hb hd (by rw [← iI_sub]; exact kk)) k
theorem r_imul {a b : Int} (hd : decode X.2.1 pc = .ok (.imul, 1)) (k : WP l G own X dm K KE n0 (pc + 1) L (.int (iI (a * b)) :: S) n kd σ τ ρ ce sl) : WP l G own X dm K KE n0 pc L (.int (iI b) :: .int (iI a) :: S) n kd σ τ ρ ce sl :=
  r_pure (fun ad p e R s m args below meth c H locs ls Z hx hb hL hown hts kk => lv_imul hx hb hd (by rw [← iI_mul]; exact kk)) k
theorem r_ladd {a b : Int} (hd : decode X.2.1 pc = .ok (.ladd, 1)) (k : WP l G own X dm K KE n0 (pc + 1) L (.long (jJ (a + b)) :: S) n kd σ τ ρ ce sl) : WP l G own X dm K KE n0 pc L (.long (jJ b) :: .long (jJ a) :: S) n kd σ τ ρ ce sl :=
  r_pure (fun ad p e R s m args below meth c H locs ls Z hx hb hL hown hts kk => lv_ladd hx hb hd (by rw [← jJ_add]; exact kk)) k
theorem r_lsub {a b : Int} (hd : decode X.2.1 pc = .ok (.lsub, 1)) (k : WP l G own X dm K KE n0 (pc + 1) L (.long (jJ (a - b)) :: S) n kd σ τ ρ ce sl) : WP l G own X dm K KE n0 pc L (.long (jJ b) :: .long (jJ a) :: S) n kd σ τ ρ ce sl :=
  r_pure (fun ad p e R s m args below meth c H locs ls Z hx hb hL hown hts kk => lv_lsub hx hb hd (by rw [← jJ_sub]; exact kk)) k
theorem r_lmul {a b : Int} (hd : decode X.2.1 pc = .ok (.lmul, 1)) (k : WP l G own X dm K KE n0 (pc + 1) L (.long (jJ (a * b)) :: S) n kd σ τ ρ ce sl) : WP l G own X dm K KE n0 pc L (.long (jJ b) :: .long (jJ a) :: S) n kd σ τ ρ ce sl :=
  r_pure (fun ad p e R s m args below meth c H locs ls Z hx hb hL hown hts kk => lv_lmul hx hb hd (by rw [← jJ_mul]; exact kk)) k
theorem r_i2l {a : Int} (hd : decode X.2.1 pc = .ok (.i2l, 1)) (ha : inR a) (k : WP l G own X dm K KE n0 (pc + 1) L (.long (jJ a) :: S) n kd σ τ ρ ce sl) : WP l G own X dm K KE n0 pc L (.int (iI a) :: S) n kd σ τ ρ ce sl :=
  r_pure (fun ad p e R s m args below meth c H locs ls Z hx hb hL hown hts kk => lv_i2l hx hb hd (iI_toLong ha) kk) k
theorem r_dup {v : Value} (hd : decode X.2.1 pc = .ok (.dup, 1)) (hv : v.category = 1) (k : WP l G own X dm K KE n0 (pc + 1) L (v :: v :: S) n kd σ τ ρ ce sl) : WP l G own X dm K KE n0 pc L (v :: S) n kd σ τ ρ ce sl :=
  r_pure (fun ad p e R s m args below meth c H locs ls Z hx hb hL hown hts kk => lv_dup hx hb hd (by rw [trv_cat]; exact hv) kk) k
theorem r_dup2 {v w : Value} (hd : decode X.2.1 pc = .ok (.dup2, 1)) (hv : v.category = 1) (hw : w.category = 1) (k : WP l G own X dm K KE n0 (pc + 1) L (v :: w :: v :: w :: S) n kd σ τ ρ ce sl) : WP l G own X dm K KE n0 pc L (v :: w :: S) n kd σ τ ρ ce sl :=
  r_pure (fun ad p e R s m args below meth c H locs ls Z hx hb hL hown hts kk => lv_dup2_11 hx hb hd (by rw [trv_cat]; exact hv) (by rw [trv_cat]; exact hw) kk) k
theorem r_pop {v : Value} (hd : decode X.2.1 pc = .ok (.pop, 1)) (hv : v.category = 1) (k : WP l G own X dm K KE n0 (pc + 1) L (S) n kd σ τ ρ ce sl) : WP l G own X dm K KE n0 pc L (v :: S) n kd σ τ ρ ce sl :=
  r_pure (fun ad p e R s m args below meth c H locs ls Z hx hb hL hown hts kk => lv_pop hx hb hd (by rw [trv_cat]; exact hv) kk) k
theorem r_icmp_eq {a b : Int} {off : Int} {tgt : Nat} (hd : decode X.2.1 pc = .ok (.if_icmp .eq off, 3)) (ht : (pc : Int) + off = (tgt : Int)) (ha : inR a) (hb2 : inR b) (k1 : a = b → WP l G own X dm K KE n0 tgt L S n kd σ τ ρ ce sl) (k2 : a ≠ b → WP l G own X dm K KE n0 (pc + 3) L S n kd σ τ ρ ce sl) : WP l G own X dm K KE n0 pc L (.int (iI b) :: .int (iI a) :: S) n kd σ τ ρ ce sl :=
  r_br (fun ad p e R s m args below meth c H locs ls Z hx hb q1 q2 => lv_icmp_eq hx hb hd ht (fun q => q1 ((iI_eq ha hb2).mp q)) (fun q => q2 (fun z => q ((iI_eq ha hb2).mpr z)))) k1 k2
theorem r_icmp_ne {a b : Int} {off : Int} {tgt : Nat} (hd : decode X.2.1 pc = .ok (.if_icmp .ne off, 3)) (ht : (pc : Int) + off = (tgt : Int)) (ha : inR a) (hb2 : inR b) (k1 : a ≠ b → WP l G own X dm K KE n0 tgt L S n kd σ τ ρ ce sl) (k2 : a = b → WP l G own X dm K KE n0 (pc + 3) L S n kd σ τ ρ ce sl) : WP l G own X dm K KE n0 pc L (.int (iI b) :: .int (iI a) :: S) n kd σ τ ρ ce sl :=
  r_br (fun ad p e R s m args below meth c H locs ls Z hx hb q1 q2 => lv_icmp_ne hx hb hd ht (fun q => q1 (fun z => q ((iI_eq ha hb2).mpr z))) (fun q => q2 ((iI_eq ha hb2).mp q))) k1 k2
theorem r_icmp_lt {a b : Int} {off : Int} {tgt : Nat} (hd : decode X.2.1 pc = .ok (.if_icmp .lt off, 3)) (ht : (pc : Int) + off = (tgt : Int)) (ha : inR a) (hb2 : inR b) (k1 : a < b → WP l G own X dm K KE n0 tgt L S n kd σ τ ρ ce sl) (k2 : b ≤ a → WP l G own X dm K KE n0 (pc + 3) L S n kd σ τ ρ ce sl) : WP l G own X dm K KE n0 pc L (.int (iI b) :: .int (iI a) :: S) n kd σ τ ρ ce sl :=
  r_br (fun ad p e R s m args below meth c H locs ls Z hx hb q1 q2 => lv_icmp_lt hx hb hd ht (fun q => q1 ((iI_lt ha hb2).mp q)) (fun q => q2 (Int.not_lt.mp (fun z => q ((iI_lt ha hb2).mpr z))))) k1 k2
theorem r_icmp_ge {a b : Int} {off : Int} {tgt : Nat} (hd : decode X.2.1 pc = .ok (.if_icmp .ge off, 3)) (ht : (pc : Int) + off = (tgt : Int)) (ha : inR a) (hb2 : inR b) (k1 : b ≤ a → WP l G own X dm K KE n0 tgt L S n kd σ τ ρ ce sl) (k2 : a < b → WP l G own X dm K KE n0 (pc + 3) L S n kd σ τ ρ ce sl) : WP l G own X dm K KE n0 pc L (.int (iI b) :: .int (iI a) :: S) n kd σ τ ρ ce sl :=
  r_br (fun ad p e R s m args below meth c H locs ls Z hx hb q1 q2 => lv_icmp_ge hx hb hd ht (fun q => q1 ((iI_le hb2 ha).mp q)) (fun q => q2 (Int.not_le.mp (fun z => q ((iI_le hb2 ha).mpr z))))) k1 k2
theorem r_icmp_gt {a b : Int} {off : Int} {tgt : Nat} (hd : decode X.2.1 pc = .ok (.if_icmp .gt off, 3)) (ht : (pc : Int) + off = (tgt : Int)) (ha : inR a) (hb2 : inR b) (k1 : b < a → WP l G own X dm K KE n0 tgt L S n kd σ τ ρ ce sl) (k2 : a ≤ b → WP l G own X dm K KE n0 (pc + 3) L S n kd σ τ ρ ce sl) : WP l G own X dm K KE n0 pc L (.int (iI b) :: .int (iI a) :: S) n kd σ τ ρ ce sl :=
  r_br (fun ad p e R s m args below meth c H locs ls Z hx hb q1 q2 => lv_icmp_gt hx hb hd ht (fun q => q1 ((iI_lt hb2 ha).mp q)) (fun q => q2 (Int.not_lt.mp (fun z => q ((iI_lt hb2 ha).mpr z))))) k1 k2
theorem r_icmp_le {a b : Int} {off : Int} {tgt : Nat} (hd : decode X.2.1 pc = .ok (.if_icmp .le off, 3)) (ht : (pc : Int) + off = (tgt : Int)) (ha : inR a) (hb2 : inR b) (k1 : a ≤ b → WP l G own X dm K KE n0 tgt L S n kd σ τ ρ ce sl) (k2 : b < a → WP l G own X dm K KE n0 (pc + 3) L S n kd σ τ ρ ce sl) : WP l G own X dm K KE n0 pc L (.int (iI b) :: .int (iI a) :: S) n kd σ τ ρ ce sl :=
  r_br (fun ad p e R s m args below meth c H locs ls Z hx hb q1 q2 => lv_icmp_le hx hb hd ht (fun q => q1 ((iI_le ha hb2).mp q)) (fun q => q2 (Int.not_le.mp (fun z => q ((iI_le ha hb2).mpr z))))) k1 k2
theorem r_if_eq {a : Int} {off : Int} {tgt : Nat} (hd : decode X.2.1 pc = .ok (.ifCond .eq off, 3)) (ht : (pc : Int) + off = (tgt : Int)) (ha : inR a) (k1 : a = 0 → WP l G own X dm K KE n0 tgt L S n kd σ τ ρ ce sl) (k2 : a ≠ 0 → WP l G own X dm K KE n0 (pc + 3) L S n kd σ τ ρ ce sl) : WP l G own X dm K KE n0 pc L (.int (iI a) :: S) n kd σ τ ρ ce sl :=
  r_br (fun ad p e R s m args below meth c H locs ls Z hx hb q1 q2 => lv_if_eq hx hb hd ht (fun q => q1 ((iI_eq0 ha).mp q)) (fun q => q2 (fun z => q ((iI_eq0 ha).mpr z)))) k1 k2
theorem r_if_ne {a : Int} {off : Int} {tgt : Nat} (hd : decode X.2.1 pc = .ok (.ifCond .ne off, 3)) (ht : (pc : Int) + off = (tgt : Int)) (ha : inR a) (k1 : a ≠ 0 → WP l G own X dm K KE n0 tgt L S n kd σ τ ρ ce sl) (k2 : a = 0 → WP l G own X dm K KE n0 (pc + 3) L S n kd σ τ ρ ce sl) : WP l G own X dm K KE n0 pc L (.int (iI a) :: S) n kd σ τ ρ ce sl :=
  r_br (fun ad p e R s m args below meth c H locs ls Z hx hb q1 q2 => lv_if_ne hx hb hd ht (fun q => q1 (fun z => q ((iI_eq0 ha).mpr z))) (fun q => q2 ((iI_eq0 ha).mp q))) k1 k2
theorem r_if_lt {a : Int} {off : Int} {tgt : Nat} (hd : decode X.2.1 pc = .ok (.ifCond .lt off, 3)) (ht : (pc : Int) + off = (tgt : Int)) (ha : inR a) (k1 : a < 0 → WP l G own X dm K KE n0 tgt L S n kd σ τ ρ ce sl) (k2 : 0 ≤ a → WP l G own X dm K KE n0 (pc + 3) L S n kd σ τ ρ ce sl) : WP l G own X dm K KE n0 pc L (.int (iI a) :: S) n kd σ τ ρ ce sl :=
  r_br (fun ad p e R s m args below meth c H locs ls Z hx hb q1 q2 => lv_if_lt hx hb hd ht (fun q => q1 ((iI_lt0 ha).mp q)) (fun q => q2 (Int.not_lt.mp (fun z => q ((iI_lt0 ha).mpr z))))) k1 k2
theorem r_if_ge {a : Int} {off : Int} {tgt : Nat} (hd : decode X.2.1 pc = .ok (.ifCond .ge off, 3)) (ht : (pc : Int) + off = (tgt : Int)) (ha : inR a) (k1 : 0 ≤ a → WP l G own X dm K KE n0 tgt L S n kd σ τ ρ ce sl) (k2 : a < 0 → WP l G own X dm K KE n0 (pc + 3) L S n kd σ τ ρ ce sl) : WP l G own X dm K KE n0 pc L (.int (iI a) :: S) n kd σ τ ρ ce sl :=
  r_br (fun ad p e R s m args below meth c H locs ls Z hx hb q1 q2 => lv_if_ge hx hb hd ht (fun q => q1 ((iI_ge0 ha).mp q)) (fun q => q2 (Int.not_le.mp (fun z => q ((iI_ge0 ha).mpr z))))) k1 k2
theorem r_if_gt {a : Int} {off : Int} {tgt : Nat} (hd : decode X.2.1 pc = .ok (.ifCond .gt off, 3)) (ht : (pc : Int) + off = (tgt : Int)) (ha : inR a) (k1 : 0 < a → WP l G own X dm K KE n0 tgt L S n kd σ τ ρ ce sl) (k2 : a ≤ 0 → WP l G own X dm K KE n0 (pc + 3) L S n kd σ τ ρ ce sl) : WP l G own X dm K KE n0 pc L (.int (iI a) :: S) n kd σ τ ρ ce sl :=
  r_br (fun ad p e R s m args below meth c H locs ls Z hx hb q1 q2 => lv_if_gt hx hb hd ht (fun q => q1 ((iI_gt0 ha).mp q)) (fun q => q2 (Int.not_lt.mp (fun z => q ((iI_gt0 ha).mpr z))))) k1 k2
theorem r_if_le {a : Int} {off : Int} {tgt : Nat} (hd : decode X.2.1 pc = .ok (.ifCond .le off, 3)) (ht : (pc : Int) + off = (tgt : Int)) (ha : inR a) (k1 : a ≤ 0 → WP l G own X dm K KE n0 tgt L S n kd σ τ ρ ce sl) (k2 : 0 < a → WP l G own X dm K KE n0 (pc + 3) L S n kd σ τ ρ ce sl) : WP l G own X dm K KE n0 pc L (.int (iI a) :: S) n kd σ τ ρ ce sl :=
  r_br (fun ad p e R s m args below meth c H locs ls Z hx hb q1 q2 => lv_if_le hx hb hd ht (fun q => q1 ((iI_le0 ha).mp q)) (fun q => q2 (Int.not_le.mp (fun z => q ((iI_le0 ha).mpr z))))) k1 k2
theorem r_goto {off : Int} {tgt : Nat} (hd : decode X.2.1 pc = .ok (.goto off, 3)) (ht : (pc : Int) + off = (tgt : Int)) (k : WP l G own X dm K KE n0 tgt L S n kd σ τ ρ ce sl) : WP l G own X dm K KE n0 pc L S n kd σ τ ρ ce sl :=
  r_pure (fun ad p e R s m args below meth c H locs ls Z hx hb hL hown hts kk => lv_goto hx hb hd ht kk) k
theorem r_ifeq_b {P : Prop} [Decidable P] {off : Int} {tgt : Nat} (hd : decode X.2.1 pc = .ok (.ifCond .eq off, 3)) (ht : (pc : Int) + off = (tgt : Int)) (k1 : ¬ P → WP l G own X dm K KE n0 tgt L S n kd σ τ ρ ce sl) (k2 : P → WP l G own X dm K KE n0 (pc + 3) L S n kd σ τ ρ ce sl) : WP l G own X dm K KE n0 pc L (.int (iI (if P then 1 else 0)) :: S) n kd σ τ ρ ce sl :=
  r_if_eq hd ht (by constructor <;> split <;> decide) (fun q => k1 (fun z => by rw [if_pos z] at q; cases q)) (fun q => k2 (Decidable.not_not.mp (fun z => q (if_neg z))))
theorem r_ifne_b {P : Prop} [Decidable P] {off : Int} {tgt : Nat} (hd : decode X.2.1 pc = .ok (.ifCond .ne off, 3)) (ht : (pc : Int) + off = (tgt : Int)) (k1 : P → WP l G own X dm K KE n0 tgt L S n kd σ τ ρ ce sl) (k2 : ¬ P → WP l G own X dm K KE n0 (pc + 3) L S n kd σ τ ρ ce sl) : WP l G own X dm K KE n0 pc L (.int (iI (if P then 1 else 0)) :: S) n kd σ τ ρ ce sl :=
  r_if_ne hd ht (by constructor <;> split <;> decide) (fun q => k1 (Decidable.not_not.mp (fun z => q (if_neg z)))) (fun q => k2 (fun z => by rw [if_pos z] at q; cases q))
theorem r_istore_n {q : Fin 4} {i : Nat} {x : Int32} (hd : decode X.2.1 pc = .ok (.istore_n q, 1)) (hi : (q : Nat) = i) (hn : i < X.2.2.1) {L' : List (Option Value)} (hL' : stL L i (.int x) = L') (k : WP l G own X dm K KE n0 (pc + 1) L' S n kd σ τ ρ ce sl) : WP l G own X dm K KE n0 pc L (.int x :: S) n kd σ τ ρ ce sl := by
  intro ad0 ad p e R s m args below meth c H locs ls Z C ha hH hS hL
  obtain ⟨hx, hb, -⟩ := id C
  refine lv_istore_n hx hb hd hi hL.has hn rfl (fun ls' h' => k ad0 ad p e R s m args below meth c H locs ls' Z C ha hH hS ?_)
  rw [← hL', ← trL_st]
  exact LsOK.st1 rfl  h'
theorem r_istore {i : Nat} {x : Int32} (hd : decode X.2.1 pc = .ok (.istore i, 2)) (hn : i < X.2.2.1) {L' : List (Option Value)} (hL' : stL L i (.int x) = L') (k : WP l G own X dm K KE n0 (pc + 2) L' S n kd σ τ ρ ce sl) : WP l G own X dm K KE n0 pc L (.int x :: S) n kd σ τ ρ ce sl := by
  intro ad0 ad p e R s m args below meth c H locs ls Z C ha hH hS hL
  obtain ⟨hx, hb, -⟩ := id C
  refine lv_istore hx hb hd  hL.has hn rfl (fun ls' h' => k ad0 ad p e R s m args below meth c H locs ls' Z C ha hH hS ?_)
  rw [← hL', ← trL_st]
  exact LsOK.st1 rfl  h'
theorem r_lstore_n {q : Fin 4} {i : Nat} {x : Int64} (hd : decode X.2.1 pc = .ok (.lstore_n q, 1)) (hi : (q : Nat) = i) (hn : i + 1 < X.2.2.1) (hn2 : i + 1 < L.length) {L' : List (Option Value)} (hL' : stL L i (.long x) = L') (k : WP l G own X dm K KE n0 (pc + 1) L' S n kd σ τ ρ ce sl) : WP l G own X dm K KE n0 pc L (.long x :: S) n kd σ τ ρ ce sl := by
  intro ad0 ad p e R s m args below meth c H locs ls Z C ha hH hS hL
  obtain ⟨hx, hb, -⟩ := id C
  refine lv_lstore_n hx hb hd hi hL.has hn rfl (fun ls' h' => k ad0 ad p e R s m args below meth c H locs ls' Z C ha hH hS ?_)
  rw [← hL', ← trL_st]
  exact LsOK.st2 rfl (by rw [trL_len]; exact hn2)  h'
theorem r_lstore {i : Nat} {x : Int64} (hd : decode X.2.1 pc = .ok (.lstore i, 2)) (hn : i + 1 < X.2.2.1) (hn2 : i + 1 < L.length) {L' : List (Option Value)} (hL' : stL L i (.long x) = L') (k : WP l G own X dm K KE n0 (pc + 2) L' S n kd σ τ ρ ce sl) : WP l G own X dm K KE n0 pc L (.long x :: S) n kd σ τ ρ ce sl := by
  intro ad0 ad p e R s m args below meth c H locs ls Z C ha hH hS hL
  obtain ⟨hx, hb, -⟩ := id C
  refine lv_lstore hx hb hd  hL.has hn rfl (fun ls' h' => k ad0 ad p e R s m args below meth c H locs ls' Z C ha hH hS ?_)
  rw [← hL', ← trL_st]
  exact LsOK.st2 rfl (by rw [trL_len]; exact hn2)  h'
theorem r_dstore_n {q : Fin 4} {i : Nat} {x : UInt64} (hd : decode X.2.1 pc = .ok (.dstore_n q, 1)) (hi : (q : Nat) = i) (hn : i + 1 < X.2.2.1) (hn2 : i + 1 < L.length) {L' : List (Option Value)} (hL' : stL L i (.double x) = L') (k : WP l G own X dm K KE n0 (pc + 1) L' S n kd σ τ ρ ce sl) : WP l G own X dm K KE n0 pc L (.double x :: S) n kd σ τ ρ ce sl := by
  intro ad0 ad p e R s m args below meth c H locs ls Z C ha hH hS hL
  obtain ⟨hx, hb, -⟩ := id C
  refine lv_dstore_n hx hb hd hi hL.has hn rfl (fun ls' h' => k ad0 ad p e R s m args below meth c H locs ls' Z C ha hH hS ?_)
  rw [← hL', ← trL_st]
  exact LsOK.st2 rfl (by rw [trL_len]; exact hn2)  h'
theorem r_dstore {i : Nat} {x : UInt64} (hd : decode X.2.1 pc = .ok (.dstore i, 2)) (hn : i + 1 < X.2.2.1) (hn2 : i + 1 < L.length) {L' : List (Option Value)} (hL' : stL L i (.double x) = L') (k : WP l G own X dm K KE n0 (pc + 2) L' S n kd σ τ ρ ce sl) : WP l G own X dm K KE n0 pc L (.double x :: S) n kd σ τ ρ ce sl := by
  intro ad0 ad p e R s m args below meth c H locs ls Z C ha hH hS hL
  obtain ⟨hx, hb, -⟩ := id C
  refine lv_dstore hx hb hd  hL.has hn rfl (fun ls' h' => k ad0 ad p e R s m args below meth c H locs ls' Z C ha hH hS ?_)
  rw [← hL', ← trL_st]
  exact LsOK.st2 rfl (by rw [trL_len]; exact hn2)  h'
theorem r_astore_n {q : Fin 4} {i a : Nat} (hd : decode X.2.1 pc = .ok (.astore_n q, 1)) (hi : (q : Nat) = i) (hn : i < X.2.2.1) {L' : List (Option Value)} (hL' : stL L i (.ref a) = L') (k : WP l G own X dm K KE n0 (pc + 1) L' S n kd σ τ ρ ce sl) : WP l G own X dm K KE n0 pc L (.ref a :: S) n kd σ τ ρ ce sl := by
  intro ad0 ad p e R s m args below meth c H locs ls Z C ha hH hS hL
  obtain ⟨hx, hb, -⟩ := id C
  refine lv_astore_n hx hb hd hi hL.has hn rfl (fun ls' h' => k ad0 ad p e R s m args below meth c H locs ls' Z C ha hH hS ?_)
  rw [← hL', ← trL_st]
  exact LsOK.st1 rfl  h'
theorem r_astore {i a : Nat} (hd : decode X.2.1 pc = .ok (.astore i, 2)) (hn : i < X.2.2.1) {L' : List (Option Value)} (hL' : stL L i (.ref a) = L') (k : WP l G own X dm K KE n0 (pc + 2) L' S n kd σ τ ρ ce sl) : WP l G own X dm K KE n0 pc L (.ref a :: S) n kd σ τ ρ ce sl := by
  intro ad0 ad p e R s m args below meth c H locs ls Z C ha hH hS hL
  obtain ⟨hx, hb, -⟩ := id C
  refine lv_astore hx hb hd  hL.has hn rfl (fun ls' h' => k ad0 ad p e R s m args below meth c H locs ls' Z C ha hH hS ?_)
  rw [← hL', ← trL_st]
  exact LsOK.st1 rfl  h'
theorem r_iinc {i : Nat} {z a : Int} (hd : decode X.2.1 pc = .ok (.iinc i z, 3)) (hl : L[i]? = some (some (.int (iI a)))) (hn : i < X.2.2.1) {L' : List (Option Value)} (hL' : stL L i (.int (iI (a + z))) = L') (k : WP l G own X dm K KE n0 (pc + 3) L' S n kd σ τ ρ ce sl) : WP l G own X dm K KE n0 pc L S n kd σ τ ρ ce sl := by
  intro ad0 ad p e R s m args below meth c H locs ls Z C ha hH hS hL
  obtain ⟨hx, hb, -⟩ := id C
  have h0 : (i, Value.int (iI a)) ∈ lpairs (trL ad L) := lpairs_mem.mpr (trL_get hl)
  obtain ⟨j, hj⟩ := List.mem_iff_getElem?.mp h0
  refine lv_iinc hx hb hd hL.has hj (iI_add a z).symm hn rfl (fun ls' h' => k ad0 ad p e R s m args below meth c H locs ls' Z C ha hH hS ?_)
  rw [← hL', ← trL_st]
  exact LsOK.st1 rfl h'
end Rows
theorem fval_trv (ad : Nat → Nat) (t : Nat) (a g : Int) (r : Option Nat) : trv ad (fval t a g r) = fval t a g (r.map ad) := by
  unfold fval
  match t with
  | 0 => rfl
  | 1 => rfl
  | t + 2 => cases r <;> rfl
/-- a field by its row of the constant pool -/
def FLk (own : String) (idx ci k t : Nat) (fin : Bool) (ty : FieldType) : Prop := ∃ (C : String) (T : u_T) (N : Nat) (ty0 : Nat → FieldType), vwCl[ci]? = some (C, T, N) ∧ k < N ∧ (tg ci)[k]? = some t ∧ (∀ w ∈ u_ws C T N, w ∈ TBg) ∧ Cond.fieldLink own idx (T k).1 (T k).2.1 (T k).2.2.1 ∈ TBg ∧ (T k).2.2.2 = fin ∧ (∀ k, k < N → parseFieldDescriptor (T k).2.2.1 = some (ty0 k)) ∧ (∀ a, a < N → ∀ b, b < N → a ≠ b → (T a).2.1 ≠ (T b).2.1) ∧ parseFieldDescriptor (T k).2.2.1 = some ty ∧ (T k).1 = C
/-- a class by its number: its default object -/
def CLk (ci N : Nat) (C : String) : Prop := ∃ (T : u_T) (ty0 : Nat → FieldType), vwCl[ci]? = some (C, T, N) ∧ (∀ w ∈ u_ws C T N, w ∈ TBg) ∧ (∀ k, k < N → parseFieldDescriptor (T k).2.2.1 = some (ty0 k)) ∧ (∀ j, j < N → defaultValue (ty0 j) = vp_V (objF (fun x => x) (tg ci) (fun _ => 0) (fun _ => 0) (fun _ => none)) j) ∧ Cond.instantiable C N ∈ TBg ∧ Cond.initialized C ∈ TBg
theorem RepH.obj {G : GG} {ad : Nat → Nat} {n : Nat} {kd : KT} {σ τ : ST} {ρ : RT} {H : Heap} {p ci : Nat} (h : RepH G ad n kd σ τ ρ H) (hk : kd p = (0, ci)) : p < n ∧ (wl G ad n kd σ τ ρ)[p]? = some (ad p, .inr (ci, objF ad (tg ci) (σ p) (τ p) (ρ p))) := by
  have hp : p < n := h.2.2.1 p (by rw [hk]; exact Nat.le_of_ble_eq_true rfl)
  exact ⟨hp, by rw [wl_get hp, hk]; rfl⟩
theorem RepH.ints {G : GG} {ad : Nat → Nat} {n : Nat} {kd : KT} {σ τ : ST} {ρ : RT} {H : Heap} {p len : Nat} (h : RepH G ad n kd σ τ ρ H) (hk : kd p = (1, len)) : p < n ∧ (wl G ad n kd σ τ ρ)[p]? = some (ad p, .inl (G.2.2.1, len, .inl (fun j => iI (σ p j)))) := by
  have hp : p < n := h.2.2.1 p (by rw [hk]; exact Nat.le_of_ble_eq_true rfl)
  exact ⟨hp, by rw [wl_get hp, hk]; rfl⟩
theorem RepH.longs {G : GG} {ad : Nat → Nat} {n : Nat} {kd : KT} {σ τ : ST} {ρ : RT} {H : Heap} {p len : Nat} (h : RepH G ad n kd σ τ ρ H) (hk : kd p = (2, len)) : p < n ∧ (wl G ad n kd σ τ ρ)[p]? = some (ad p, .inl (G.2.2.2.1, len, .inr (.inl (fun j => jJ (τ p j))))) := by
  have hp : p < n := h.2.2.1 p (by rw [hk]; exact Nat.le_of_ble_eq_true rfl)
  exact ⟨hp, by rw [wl_get hp, hk]; rfl⟩
theorem RepH.refs {G : GG} {ad : Nat → Nat} {n : Nat} {kd : KT} {σ τ : ST} {ρ : RT} {H : Heap} {p len : Nat} (h : RepH G ad n kd σ τ ρ H) (hk : kd p = (3, len)) : p < n ∧ (wl G ad n kd σ τ ρ)[p]? = some (ad p, .inl (G.2.2.2.2.1, len, .inr (.inr (.inr (.inr (fun j => (ρ p j).map ad)))))) := by
  have hp : p < n := h.2.2.1 p (by rw [hk]; exact Nat.le_of_ble_eq_true rfl)
  exact ⟨hp, by rw [wl_get hp, hk]; rfl⟩
section Rows
variable {l : Launch} {G : GG} {own : String} {X : MI} {dm : Nat × Nat × Nat} {K : KK} {KE : KX} {n0 pc : Nat} {L : List (Option Value)} {S : List Value} {n : Nat} {kd : KT} {σ τ : ST} {ρ : RT} {ce sl : Nat}
theorem r_get {idx ci k t p : Nat} {fin : Bool} {ty : FieldType} (hf : FLk own idx ci k t fin ty) (hd : decode X.2.1 pc = .ok (.getfield idx, 3)) (hk : kd p = (0, ci)) (kk : WP l G own X dm K KE n0 (pc + 3) L (fval t (σ p k) (τ p k) (ρ p k) :: S) n kd σ τ ρ ce sl) : WP l G own X dm K KE n0 pc L (.ref p :: S) n kd σ τ ρ ce sl := by
  intro ad0 ad p9 e R s m args below meth c H locs ls Z C ha hH hS hL
  obtain ⟨hx, hb, hml, hown, hts, hlk, henv, -⟩ := id C
  obtain ⟨Cn, T, N, ty0, h1, h2, h3, h4, h5, h6, h7, h8, h9, h10⟩ := hf
  refine va_get hx hb hts h4 hown henv.1 hH.1 p (hH.obj hk).2 h1 k h2 (hts _ h5) (fun _ z => z) (objF_get h3) hd ?_
  have h := kk ad0 ad p9 e R s m args below meth c H locs ls Z C ha hH hS hL
  rw [List.map_cons, fval_trv] at h
  exact h
theorem r_get_i {idx ci k p : Nat} {fin : Bool} {ty : FieldType} (hf : FLk own idx ci k 0 fin ty) (hd : decode X.2.1 pc = .ok (.getfield idx, 3)) (hk : kd p = (0, ci)) (kk : WP l G own X dm K KE n0 (pc + 3) L (.int (iI (σ p k)) :: S) n kd σ τ ρ ce sl) : WP l G own X dm K KE n0 pc L (.ref p :: S) n kd σ τ ρ ce sl := r_get hf hd hk kk
theorem r_get_l {idx ci k p : Nat} {fin : Bool} {ty : FieldType} (hf : FLk own idx ci k 1 fin ty) (hd : decode X.2.1 pc = .ok (.getfield idx, 3)) (hk : kd p = (0, ci)) (kk : WP l G own X dm K KE n0 (pc + 3) L (.long (jJ (τ p k)) :: S) n kd σ τ ρ ce sl) : WP l G own X dm K KE n0 pc L (.ref p :: S) n kd σ τ ρ ce sl := r_get hf hd hk kk
theorem r_get_r {idx ci k p q : Nat} {fin : Bool} {ty : FieldType} (hf : FLk own idx ci k 2 fin ty) (hd : decode X.2.1 pc = .ok (.getfield idx, 3)) (hk : kd p = (0, ci)) (hr : ρ p k = some q) (kk : WP l G own X dm K KE n0 (pc + 3) L (.ref q :: S) n kd σ τ ρ ce sl) : WP l G own X dm K KE n0 pc L (.ref p :: S) n kd σ τ ρ ce sl := r_get hf hd hk (by rw [hr]; exact kk)
theorem r_put_i {idx ci k p : Nat} {a : Int} (hf : FLk own idx ci k 0 false .int) (hd : decode X.2.1 pc = .ok (.putfield idx, 3)) (hk : kd p = (0, ci)) (kk : WP l G own X dm K KE n0 (pc + 3) L S n kd (up2 σ p k a) τ ρ ce sl) : WP l G own X dm K KE n0 pc L (.int (iI a) :: .ref p :: S) n kd σ τ ρ ce sl := by
  intro ad0 ad p9 e R s m args below meth c H locs ls Z C ha hH hS hL
  obtain ⟨hx, hb, hml, hown, hts, hlk, henv, -⟩ := id C
  obtain ⟨Cn, T, N, ty0, h1, h2, h3, h4, h5, h6, h7, h8, h9, h10⟩ := hf
  obtain ⟨hp, he⟩ := hH.obj hk
  refine va_put (v := .int (iI a)) hx hb hts h4 ty0 h7 h8 hown henv.1 hH.1 hH.2.1 hS p he h1 k h2 (hts _ h5) (fun _ z => z) h6 h9 rfl rfl (by rw [objF_len]; exact (List.getElem?_eq_some_iff.mp h3).1) hd (fun H1 locs1 hP hD hS1 => ?_)
  have e1 : (wl G ad n kd σ τ ρ).set p (ad p, .inr (ci, (objF ad (tg ci) (σ p) (τ p) (ρ p)).set k (.int (iI a)))) = wl G ad n kd (up2 σ p k a) τ ρ := by
    rw [← wl_set (σ' := up2 σ p k a) (τ' := τ) (ρ' := ρ) hp (fun j hj => ⟨up2_off σ hj, rfl, rfl⟩), hk]
    show _ = (wl G ad n kd σ τ ρ).set p (ad p, .inr (ci, objF ad (tg ci) (up2 σ p k a p) (τ p) (ρ p)))
    rw [← objF_set (f := σ p) (g := τ p) (r := ρ p) (f' := up2 σ p k a p) (g' := τ p) (r' := ρ p) h3 (fun j hj => ⟨by rw [up2_row]; exact if_neg hj, rfl, rfl⟩)]
    have e2 : up2 σ p k a p k = a := by rw [up2_row]; exact if_pos rfl
    rw [e2]
    rfl
  rw [e1] at hP hD
  exact kk ad0 ad p9 e R s m args below meth c H1 locs1 ls Z C ha ⟨hP, hD, hH.2.2.1, hH.2.2.2.1, Nat.le_trans henv.2.2.2.2.2.2.2 hS1.1⟩ hS1 hL
theorem r_put_z {idx ci k p : Nat} {a : Int} (ha01 : a = 0 ∨ a = 1) (hf : FLk own idx ci k 0 false .boolean) (hd : decode X.2.1 pc = .ok (.putfield idx, 3)) (hk : kd p = (0, ci)) (kk : WP l G own X dm K KE n0 (pc + 3) L S n kd (up2 σ p k a) τ ρ ce sl) : WP l G own X dm K KE n0 pc L (.int (iI a) :: .ref p :: S) n kd σ τ ρ ce sl := by
  intro ad0 ad p9 e R s m args below meth c H locs ls Z C ha hH hS hL
  obtain ⟨hx, hb, hml, hown, hts, hlk, henv, -⟩ := id C
  obtain ⟨Cn, T, N, ty0, h1, h2, h3, h4, h5, h6, h7, h8, h9, h10⟩ := hf
  obtain ⟨hp, he⟩ := hH.obj hk
  refine va_put (v := .int (iI a)) hx hb hts h4 ty0 h7 h8 hown henv.1 hH.1 hH.2.1 hS p he h1 k h2 (hts _ h5) (fun _ z => z) h6 h9 (by rcases ha01 with rfl | rfl <;> decide) (by rcases ha01 with rfl | rfl <;> decide) (by rw [objF_len]; exact (List.getElem?_eq_some_iff.mp h3).1) hd (fun H1 locs1 hP hD hS1 => ?_)
  have e1 : (wl G ad n kd σ τ ρ).set p (ad p, .inr (ci, (objF ad (tg ci) (σ p) (τ p) (ρ p)).set k (.int (iI a)))) = wl G ad n kd (up2 σ p k a) τ ρ := by
    rw [← wl_set (σ' := up2 σ p k a) (τ' := τ) (ρ' := ρ) hp (fun j hj => ⟨up2_off σ hj, rfl, rfl⟩), hk]
    show _ = (wl G ad n kd σ τ ρ).set p (ad p, .inr (ci, objF ad (tg ci) (up2 σ p k a p) (τ p) (ρ p)))
    rw [← objF_set (f := σ p) (g := τ p) (r := ρ p) (f' := up2 σ p k a p) (g' := τ p) (r' := ρ p) h3 (fun j hj => ⟨by rw [up2_row]; exact if_neg hj, rfl, rfl⟩)]
    have e2 : up2 σ p k a p k = a := by rw [up2_row]; exact if_pos rfl
    rw [e2]
    rfl
  rw [e1] at hP hD
  exact kk ad0 ad p9 e R s m args below meth c H1 locs1 ls Z C ha ⟨hP, hD, hH.2.2.1, hH.2.2.2.1, Nat.le_trans henv.2.2.2.2.2.2.2 hS1.1⟩ hS1 hL
theorem r_put_l {idx ci k p : Nat} {a : Int} (hf : FLk own idx ci k 1 false .long) (hd : decode X.2.1 pc = .ok (.putfield idx, 3)) (hk : kd p = (0, ci)) (kk : WP l G own X dm K KE n0 (pc + 3) L S n kd σ (up2 τ p k a) ρ ce sl) : WP l G own X dm K KE n0 pc L (.long (jJ a) :: .ref p :: S) n kd σ τ ρ ce sl := by
  intro ad0 ad p9 e R s m args below meth c H locs ls Z C ha hH hS hL
  obtain ⟨hx, hb, hml, hown, hts, hlk, henv, -⟩ := id C
  obtain ⟨Cn, T, N, ty0, h1, h2, h3, h4, h5, h6, h7, h8, h9, h10⟩ := hf
  obtain ⟨hp, he⟩ := hH.obj hk
  refine va_put (v := .long (jJ a)) hx hb hts h4 ty0 h7 h8 hown henv.1 hH.1 hH.2.1 hS p he h1 k h2 (hts _ h5) (fun _ z => z) h6 h9 rfl rfl (by rw [objF_len]; exact (List.getElem?_eq_some_iff.mp h3).1) hd (fun H1 locs1 hP hD hS1 => ?_)
  have e1 : (wl G ad n kd σ τ ρ).set p (ad p, .inr (ci, (objF ad (tg ci) (σ p) (τ p) (ρ p)).set k (.long (jJ a)))) = wl G ad n kd σ (up2 τ p k a) ρ := by
    rw [← wl_set (σ' := σ) (τ' := up2 τ p k a) (ρ' := ρ) hp (fun j hj => ⟨rfl, up2_off τ hj, rfl⟩), hk]
    show _ = (wl G ad n kd σ τ ρ).set p (ad p, .inr (ci, objF ad (tg ci) (σ p) (up2 τ p k a p) (ρ p)))
    rw [← objF_set (f := σ p) (g := τ p) (r := ρ p) (f' := σ p) (g' := up2 τ p k a p) (r' := ρ p) h3 (fun j hj => ⟨rfl, by rw [up2_row]; exact if_neg hj, rfl⟩)]
    have e2 : up2 τ p k a p k = a := by rw [up2_row]; exact if_pos rfl
    rw [e2]
    rfl
  rw [e1] at hP hD
  exact kk ad0 ad p9 e R s m args below meth c H1 locs1 ls Z C ha ⟨hP, hD, hH.2.2.1, hH.2.2.2.1, Nat.le_trans henv.2.2.2.2.2.2.2 hS1.1⟩ hS1 hL
/-- a constructor lays a reference into a final field -/
theorem r_put_rF {idx ci k p q : Nat} {ty : FieldType} (hty : (∃ z, ty = .object z) ∨ ∃ z, ty = .array z) (hin : X.1.name = "<init>") (hcl : (vwCl[ci]?).map (fun q => q.1) = some own) (hq : q < n) (hf : FLk own idx ci k 2 true ty) (hd : decode X.2.1 pc = .ok (.putfield idx, 3)) (hk : kd p = (0, ci)) (kk : WP l G own X dm K KE n0 (pc + 3) L S n kd σ τ (upR ρ p k (some q)) ce sl) : WP l G own X dm K KE n0 pc L (.ref q :: .ref p :: S) n kd σ τ ρ ce sl := by
  intro ad0 ad p9 e R s m args below meth c H locs ls Z C ha hH hS hL
  obtain ⟨hx, hb, hml, hown, hts, hlk, henv, hR, hnm, -⟩ := id C
  obtain ⟨Cn, T, N, ty0, h1, h2, h3, h4, h5, h6, h7, h8, h9, h10⟩ := hf
  obtain ⟨hp, he⟩ := hH.obj hk
  have hC : Cn = own := by rw [h1] at hcl; exact Option.some.inj hcl
  subst hC
  refine va_putF (v := .ref (ad q)) hx hb hts h4 ty0 h7 h8 hown henv.1 hH.1 hH.2.1 hS p he h1 k h2 (hts _ h5) (fun _ z => z) h6 (hnm.trans hin) h10 h9 (by rcases hty with ⟨z, rfl⟩ | ⟨z, rfl⟩ <;> rfl) (by rcases hty with ⟨z, rfl⟩ | ⟨z, rfl⟩ <;> rfl) (by rw [objF_len]; exact (List.getElem?_eq_some_iff.mp h3).1) hd (fun H1 locs1 hP hD hS1 => ?_)
  have e1 : (wl G ad n kd σ τ ρ).set p (ad p, .inr (ci, (objF ad (tg ci) (σ p) (τ p) (ρ p)).set k (.ref (ad q)))) = wl G ad n kd σ τ (upR ρ p k (some q)) := by
    rw [← wl_set (σ' := σ) (τ' := τ) (ρ' := upR ρ p k (some q)) hp (fun j hj => ⟨rfl, rfl, upR_off ρ hj⟩), hk]
    show _ = (wl G ad n kd σ τ ρ).set p (ad p, .inr (ci, objF ad (tg ci) (σ p) (τ p) (upR ρ p k (some q) p)))
    rw [← objF_set (f := σ p) (g := τ p) (r := ρ p) (f' := σ p) (g' := τ p) (r' := upR ρ p k (some q) p) h3 (fun j hj => ⟨rfl, rfl, by rw [upR_row]; exact if_neg hj⟩)]
    have e2 : upR ρ p k (some q) p k = some q := by rw [upR_row]; exact if_pos rfl
    rw [e2]
    rfl
  rw [e1] at hP hD
  refine kk ad0 ad p9 e R s m args below meth c H1 locs1 ls Z C ha ⟨hP, hD, hH.2.2.1, fun a b z hz => ?_, Nat.le_trans henv.2.2.2.2.2.2.2 hS1.1⟩ hS1 hL
  unfold upR at hz
  split at hz
  · cases hz; exact hq
  · exact hH.2.2.2.1 a b z hz
theorem r_iaload {p len k : Nat} {i : Int} (hd : decode X.2.1 pc = .ok (.iaload, 1)) (hk : kd p = (1, len)) (hi : i = (k : Int)) (hlt : k < len) (hlen : len < 2147483648) (kk : WP l G own X dm K KE n0 (pc + 1) L (.int (iI (σ p k)) :: S) n kd σ τ ρ ce sl) : WP l G own X dm K KE n0 pc L (.int (iI i) :: .ref p :: S) n kd σ τ ρ ce sl := by
  subst hi
  intro ad0 ad p9 e R s m args below meth c H locs ls Z C ha hH hS hL
  obtain ⟨hx, hb, hml, hown, hts, hlk, henv, -⟩ := id C
  refine va_iald hx hb henv.1 hH.1 p 0 (hH.ints hk).2 rfl (iI_in hlt hlen) hd ?_
  rw [iI_clamp (by omega)]
  exact kk ad0 ad p9 e R s m args below meth c H locs ls Z C ha hH hS hL
theorem r_iastore {p len k : Nat} {i a : Int} (hd : decode X.2.1 pc = .ok (.iastore, 1)) (hk : kd p = (1, len)) (hi : i = (k : Int)) (hlt : k < len) (hlen : len < 2147483648) (kk : WP l G own X dm K KE n0 (pc + 1) L S n kd (up2 σ p k a) τ ρ ce sl) : WP l G own X dm K KE n0 pc L (.int (iI a) :: .int (iI i) :: .ref p :: S) n kd σ τ ρ ce sl := by
  subst hi
  intro ad0 ad p9 e R s m args below meth c H locs ls Z C ha hH hS hL
  obtain ⟨hx, hb, hml, hown, hts, hlk, henv, -⟩ := id C
  obtain ⟨hp, he⟩ := hH.ints hk
  refine va_iast hx hb henv.1 hH.1 hH.2.1 hS p 0 he rfl (iI_in hlt hlen) hd (fun H1 locs1 hP hD hS1 => ?_)
  rw [iI_clamp (by omega)] at hP hD
  have e1 : (wl G ad n kd σ τ ρ).set p (ad p, .inl (G.2.2.1, len, .inl (upd (fun j => iI (σ p j)) k (iI a)))) = wl G ad n kd (up2 σ p k a) τ ρ := by
    rw [← wl_set (σ' := up2 σ p k a) (τ' := τ) (ρ' := ρ) hp (fun j hj => ⟨up2_off σ hj, rfl, rfl⟩), hk]
    show _ = (wl G ad n kd σ τ ρ).set p (ad p, .inl (G.2.2.1, len, .inl (fun j => iI (up2 σ p k a p j))))
    have e2 : upd (fun j => iI (σ p j)) k (iI a) = fun j => iI (up2 σ p k a p j) := by
      funext j
      rw [up2_row]
      unfold upd
      by_cases h : j = k <;> simp [h]
    rw [e2]
  rw [e1] at hP hD
  exact kk ad0 ad p9 e R s m args below meth c H1 locs1 ls Z C ha ⟨hP, hD, hH.2.2.1, hH.2.2.2.1, Nat.le_trans henv.2.2.2.2.2.2.2 hS1.1⟩ hS1 hL
theorem r_aaload {p len k q : Nat} {i : Int} (hd : decode X.2.1 pc = .ok (.aaload, 1)) (hk : kd p = (3, len)) (hi : i = (k : Int)) (hlt : k < len) (hlen : len < 2147483648) (hr : ρ p k = some q) (kk : WP l G own X dm K KE n0 (pc + 1) L (.ref q :: S) n kd σ τ ρ ce sl) : WP l G own X dm K KE n0 pc L (.int (iI i) :: .ref p :: S) n kd σ τ ρ ce sl := by
  subst hi
  intro ad0 ad p9 e R s m args below meth c H locs ls Z C ha hH hS hL
  obtain ⟨hx, hb, hml, hown, hts, hlk, henv, -⟩ := id C
  refine va_aldq hx hb henv.1 hH.1 p 2 (hH.refs hk).2 rfl (iI_in hlt hlen) hd ?_
  rw [iI_clamp (by omega), hr]
  exact kk ad0 ad p9 e R s m args below meth c H locs ls Z C ha hH hS hL
theorem r_aastore {p len k q : Nat} {i : Int} (hd : decode X.2.1 pc = .ok (.aastore, 1)) (hk : kd p = (3, len)) (hi : i = (k : Int)) (hlt : k < len) (hlen : len < 2147483648) (hq : kd q = (0, 3)) (kk : WP l G own X dm K KE n0 (pc + 1) L S n kd σ τ (upR ρ p k (some q)) ce sl) : WP l G own X dm K KE n0 pc L (.ref q :: .int (iI i) :: .ref p :: S) n kd σ τ ρ ce sl := by
  subst hi
  intro ad0 ad p9 e R s m args below meth c H locs ls Z C ha hH hS hL
  obtain ⟨hx, hb, hml, hown, hts, hlk, henv, -⟩ := id C
  obtain ⟨hp, he⟩ := hH.refs hk
  obtain ⟨hqn, hqe⟩ := hH.obj hq
  refine va_astq (r := (RX3, TX3, 4)) hx hb henv.1 hH.1 hH.2.1 hS p 2 q 3 he rfl hqe rfl (iI_in hlt hlen) hd (fun H1 locs1 hP hD hS1 => ?_)
  rw [iI_clamp (by omega)] at hP hD
  have e1 : (wl G ad n kd σ τ ρ).set p (ad p, .inl (G.2.2.2.2.1, len, .inr (.inr (.inr (.inr (va_up (fun j => (ρ p j).map ad) k (some (ad q)))))))) = wl G ad n kd σ τ (upR ρ p k (some q)) := by
    rw [← wl_set (σ' := σ) (τ' := τ) (ρ' := upR ρ p k (some q)) hp (fun j hj => ⟨rfl, rfl, upR_off ρ hj⟩), hk]
    show _ = (wl G ad n kd σ τ ρ).set p (ad p, .inl (G.2.2.2.2.1, len, .inr (.inr (.inr (.inr (fun j => (upR ρ p k (some q) p j).map ad))))))
    have e2 : va_up (fun j => (ρ p j).map ad) k (some (ad q)) = fun j => (upR ρ p k (some q) p j).map ad := by
      funext j
      rw [upR_row]
      unfold va_up
      by_cases h : j = k <;> simp [h]
    rw [e2]
  rw [e1] at hP hD
  refine kk ad0 ad p9 e R s m args below meth c H1 locs1 ls Z C ha ⟨hP, hD, hH.2.2.1, fun a b z hz => ?_, Nat.le_trans henv.2.2.2.2.2.2.2 hS1.1⟩ hS1 hL
  unfold upR at hz
  split at hz
  · cases hz; exact hqn
  · exact hH.2.2.2.1 a b z hz
theorem r_alen {p len t : Nat} (ht : t = 1 ∨ t = 3) (hd : decode X.2.1 pc = .ok (.arraylength, 1)) (hk : kd p = (t, len)) (kk : WP l G own X dm K KE n0 (pc + 1) L (.int (iI (len : Int)) :: S) n kd σ τ ρ ce sl) : WP l G own X dm K KE n0 pc L (.ref p :: S) n kd σ τ ρ ce sl := by
  intro ad0 ad p9 e R s m args below meth c H locs ls Z C ha hH hS hL
  obtain ⟨hx, hb, hml, hown, hts, hlk, henv, -⟩ := id C
  rcases ht with rfl | rfl
  · exact va_alen hx hb henv.1 hH.1 p 0 (hH.ints hk).2 rfl (iI_nI len).symm hd (kk ad0 ad p9 e R s m args below meth c H locs ls Z C ha hH hS hL)
  · exact va_alen hx hb henv.1 hH.1 p 2 (hH.refs hk).2 rfl (iI_nI len).symm hd (kk ad0 ad p9 e R s m args below meth c H locs ls Z C ha hH hS hL)
/-- a return -/
theorem r_ret {v : Option Value} (hK : K v n kd σ τ ρ) (hs : ∀ w, v = some w → scb n w = true) (hc : ce ≤ dm.2.1 ∧ sl ≤ dm.2.2) (hr : RS X pc v S) : WP l G own X dm K KE n0 pc L S n kd σ τ ρ ce sl := by
  intro ad0 ad p9 e R s m args below meth c H locs ls Z C ha hH hS hL
  obtain ⟨-, -, -, -, -, -, -, -, -, hE, -⟩ := id C
  exact hE v ad n kd σ τ ρ H locs ls pc S ce sl hK ha hH hS hc.1 hc.2 hs hr
theorem r_throw {E : String} (hK : KE E n kd σ τ ρ) (hc : ce + 1 ≤ dm.2.1 ∧ sl + 6 ≤ dm.2.2) (hT : TA own X.2.1 pc E) : WP l G own X dm K KE n0 pc L [] n kd σ τ ρ ce sl := by
  intro ad0 ad p9 e R s m args below meth c H locs ls Z C ha hH hS hL
  obtain ⟨-, -, -, -, -, -, -, -, -, -, hE⟩ := id C
  exact hE E ad n kd σ τ ρ H locs ls pc ce sl hK ha hH hS hc.1 hc.2 hL.1 hT
end Rows
