/-! what holds of the machine at the law's entry -/
theorem NL_in : ∀ q ∈ NL, Cond.methodLinkNest q.1 q.2.1 q.2.2.1 q.2.2.2 ∈ lw_tbl := by decide +kernel
theorem DL_in : ∀ x ∈ DL, Cond.declares x ∈ lw_tbl := by decide +kernel
theorem SL_in : ∀ q ∈ SL, q.1 = "ShapedRows" ∧ Cond.stringRef q.1 q.2.1 q.2.2 ∈ lw_tbl := by decide +kernel
theorem US_in : Cond.isRef (.static "java/lang/Throwable" "UNASSIGNED_STACK" "[Ljava/lang/StackTraceElement;") ∈ flatC (Jvm.Cond.and given_1 narrow_1) := by decide +kernel
theorem SS_in : Cond.isRef (.static "java/lang/Throwable" "SUPPRESSED_SENTINEL" "Ljava/util/List;") ∈ flatC (Jvm.Cond.and given_1 narrow_1) := by decide +kernel
theorem TB_in {w : Cond} (h : w ∈ TBg) : w ∈ lw_tbl := (List.mem_filter.mp h).1
theorem env_0 {s : State} {b L : Nat} {xs : Nat → Int32} (hts : ∀ w ∈ lw_tbl, w.before #[Value.ref b] s = true) (hX : va_X b L xs s s.heap) (hbl : b < s.heap.size) (hgv : (Jvm.Cond.and given_1 narrow_1).before #[Value.ref b] s = true) : ∃ (D : va_G) (c1 c2 c3 : ClassId), EnvP (s.heap.size, D, c1, c2, c3, b, L, xs) s := by
  have hs := flat_of_before _ hgv
  have hA : ∀ a : Nat, a < s.heap.size → ¬ s.heap.size ≤ a := fun a h => Nat.not_le.mpr h
  have one : ∀ (k N : Nat) (C : String), CLk k N C → ∃ (cC : ClassId) (iS : Nat → Nat), ∀ q : vw_C, vwCl[k]? = some q → u_Kn s q.1 q.2.1 q.2.2 cC iS := fun k N C h => by
    obtain ⟨T, ty0, g1, g2, g3, g4, g5, g6⟩ := h
    obtain ⟨cC, iS, hk⟩ := u_known (C := C) (T := T) (N := N) (n := N) hts (fun w h => TB_in (g2 w h)) (hts _ (TB_in g5))
    refine ⟨cC, iS, fun q hq => ?_⟩
    rw [g1] at hq
    cases hq
    exact hk
  have all : ∀ k : Nat, ∃ (cC : ClassId) (iS : Nat → Nat), ∀ q : vw_C, vwCl[k]? = some q → u_Kn s q.1 q.2.1 q.2.2 cC iS := fun k => by
    match k with
    | 0 => exact one 0 _ _ cl_0
    | 1 => exact one 1 _ _ cl_1
    | 2 => exact one 2 _ _ cl_2
    | 3 => exact one 3 _ _ cl_3
    | 4 => exact one 4 _ _ cl_4
    | 5 => exact one 5 _ _ cl_5
    | k + 6 => exact ⟨0, fun _ => 0, fun q hq => by cases hq⟩
  obtain ⟨c1, k1, p1, a1, a2, a3⟩ := Cond.arrayClass_spec (hts _ (TB_in ao_int))
  obtain ⟨c2, k2, p2, b1, b2, b3⟩ := Cond.arrayClass_spec (hts _ (TB_in ao_int))
  obtain ⟨p3, c3, k3, e1, e2, e3, e4, e5⟩ := Cond.arrayOver_spec (hts (.arrayOver (.object "ShapedRows$State")) (by decide +kernel))
  obtain ⟨T, ty0, -, -, -, -, g5, -⟩ := cl_5
  obtain ⟨cur, kC, hfc, -⟩ := Cond.instantiable_spec (hts _ (TB_in g5))
  refine ⟨(fun k => (all k).choose, fun k => (all k).choose_spec.choose), c1, c2, c3, ⟨fun c q hq => (all c).choose_spec.choose_spec q hq, fun k q hq => ?_⟩, ⟨fun q hq => va_Nw.of rfl (hts _ (NL_in q hq)), fun x hx => va_Nw.of rfl (hts _ (DL_in x hx)), (fun q hq => by simp [CL] at hq), (fun q hq => by simp [CL] at hq)⟩, fun q hq => ?_, vx_Zqof (hts _ (by decide +kernel)) (hts _ (by decide +kernel)) (hs _ US_in) hA, vx_Zqof (hts _ (by decide +kernel)) (hts _ (by decide +kernel)) (hs _ SS_in) hA, hX, hbl, Nat.le_refl _⟩
  · match k, hq with
    | 0, hq =>
      cases hq
      exact ⟨fun N z => ⟨(fun k h => by cases h), k1, a2, p1, a3⟩, a1⟩
    | 1, hq =>
      cases hq
      exact ⟨fun N z => ⟨(fun k h => by cases h), k2, b2, p2, b3⟩, b1⟩
    | 2, hq =>
      cases hq
      exact ⟨fun N z => ⟨(fun k h => by cases h), k3, e3, p3, e4⟩, k3, p3, e3, e4, e1, e5⟩
    | k + 3, hq => cases hq
  · obtain ⟨s1, s2⟩ := SL_in q hq
    have w := hts _ s2
    obtain ⟨-, -, -, a, -, -, -, -, -, ev⟩ := Cond.stringRef_spec (by rw [s1]; exact hfc) w
    exact ⟨a, vk_R.of w ev⟩
set_option maxHeartbeats 4000000 in
theorem whole_start {p : Program} {e : Env} {s : State} {m : MethodId} {below : List Frame} {meth : Method} {c : Code} (l : Launch) (hflags : l.flags = flags0) {b L : Nat} {xs : Nat → Int32} (hL : L ≤ 260) (C0 : lw_At p s m meth c b L xs) : W p l e room_1 s m #[Value.ref b] below meth c s.heap [] 0 0 (lw_Z below #[Value.ref b] s) (entryFrame m ([Value.ref b] : List Value).toArray 11) := by
  obtain ⟨hx, hb, hr, hml, hown, hts, hX, hbl, hlocks, hgv⟩ := id C0
  obtain ⟨D, c1, c2, c3, henv⟩ := env_0 hts hX hbl hgv
  rw [lg_entry_eq]
  have e0 : wl (s.heap.size, D, c1, c2, c3, b, L, xs) (fun _ => b) 0 (kdN 0) Z0 Z0 R0 = [] := rfl
  have hH : RepH (s.heap.size, D, c1, c2, c3, b, L, xs) (fun _ => b) 0 (kdN 0) Z0 Z0 R0 s.heap := by
    refine ⟨?_, ?_, fun p h => ?_, fun p k q h => ?_, Nat.le_refl _⟩
    · rw [e0]
      exact fun k q h => by simp at h
    · rw [e0]
      exact ⟨fun i j p q h => by simp at h, fun k q h => by simp at h⟩
    · have e9 : kdN 0 p = (9, 0) := if_neg (Nat.not_lt_zero p)
      rw [e9] at h
      exact absurd h (by decide)
    · cases h
  have hS : va_S (fun q : Nat => s.heap.size ≤ q) s.heap s.heap [] := va_S.rf
  have hE : ∀ (v : Option Value) (ad : Nat → Nat) (n : Nat) (kd : KT) (σ τ : ST) (ρ : RT) (H : Heap) (locs : List Loc) (ls : Array Slot) (pc : Nat) (S : List Value) (ce sl : Nat), KL v n kd σ τ ρ → (∀ p : Nat, p < 0 → ad p = b) → RepH (s.heap.size, D, c1, c2, c3, b, L, xs) ad n kd σ τ ρ H → va_S (fun q : Nat => s.heap.size ≤ q) s.heap H locs → ce ≤ 600104 → sl ≤ 7301314 → (∀ w, v = some w → scb n w = true) → RS (mLaw meth.name) pc v S → W p l e room_1 s m #[Value.ref b] below meth c H locs ce sl (lw_Z below #[Value.ref b] s) (F0 m pc ls (S.map (trv ad))) := by
    intro v ad' n' kd' σ' τ' ρ' H' locs' ls' pc' S' ce' sl' hK ha hH' hS' hc hs hsc hR
    cases (show v = some (.int (iI 1)) from hK)
    refine W.widen (k := 600104) (n := 7301314) hc hs ?_
    refine va_forget (fun q hq => hS'.2.2 q hq) ?_
    refine W.base ?_
    rcases hR with ⟨x, h1, rfl, hd, -⟩ | ⟨x, h1, -⟩ | ⟨x, h1, -⟩ | ⟨w, h1, rfl, hw, -⟩ | ⟨h1, -⟩
    · cases h1
      exact lw_ret (Drawn.sameBut.refl s.drawn lw_cs) hx hb hr hlocks hd
    · cases h1
    · cases h1
    · cases h1
      rcases hw with ⟨_, h⟩ | ⟨_, h⟩ <;> cases h
    · cases h1
  have hC : Cx l (s.heap.size, D, c1, c2, c3, b, L, xs) "ShapedRowsLaw" (mLaw meth.name) (10, 600104, 7301314) KL noX 0 (fun _ => b) p e room_1 s m #[Value.ref b] below meth c (lw_Z below #[Value.ref b] s) :=
    ⟨hx, hb, hml, hown, fun w hw => hts w (TB_in hw), hlocks, henv, ⟨Nat.le_of_ble_eq_true rfl, Nat.le_of_ble_eq_true rfl, Nat.le_of_ble_eq_true rfl, Nat.le_of_ble_eq_true rfl⟩, rfl, hE, fun _ _ _ _ _ _ _ _ _ _ _ _ _ hK => hK.elim⟩
  exact st (l := l) (G := (s.heap.size, D, c1, c2, c3, b, L, xs)) (nm := meth.name) hL (fun _ => b) (fun _ => b) p e room_1 s m #[Value.ref b] below meth c s.heap [] _ (lw_Z below #[Value.ref b] s) hC
    ⟨va_AO.of (hts (.arrayOver (.object "ShapedRows$State")) (by decide +kernel)), rfl⟩ (fun _ _ => rfl) hH hS (argL_ok (ad := fun _ => b) (vs := [.ref 1000]) (nL := 11) (Nat.le_of_ble_eq_true rfl))
