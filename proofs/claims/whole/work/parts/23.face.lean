/-! contracts of methods that return or throw -/
theorem RepH.ext {G : GG} {ad : Nat → Nat} {n : Nat} {kd : KT} {σ τ : ST} {ρ : RT} {H H1 : Heap} (h : RepH G ad n kd σ τ ρ H) (hz : H.size ≤ H1.size) (hq : ∀ q : Nat, q < H.size → H1[q]? = H[q]?) : RepH G ad n kd σ τ ρ H1 :=
  ⟨h.1.kept (fun k q hk => hq _ (vx_lt h.1 hk)), h.2.1, h.2.2.1, h.2.2.2.1, Nat.le_trans h.2.2.2.2 hz⟩
def CxQ (G : GG) (n0 : Nat) (ad0 : Nat → Nat) (KE : KX) : String → State → State → Prop := fun E st t => (∃ (ad : Nat → Nat) (n : Nat) (kd : KT) (σ τ : ST) (ρ : RT), KE E n kd σ τ ρ ∧ (∀ p, p < n0 → ad p = ad0 p) ∧ RepH G ad n kd σ τ ρ t.heap) ∧ va_F (fun q => G.1 ≤ q) st t
def CtX (l : Launch) (G : GG) (X : MI) (dm : Nat × Nat × Nat) (as : List Value) (n : Nat) (kd : KT) (σ τ : ST) (ρ : RT) (K : KK) (KE : KX) : Prop :=
  ∀ ad : Nat → Nat, vx_Met l X.1 (wsM X) (rmD dm) (va_Pc (as.map (trv ad)) (CtP G ad n kd σ τ ρ)) (CtQ G n ad K) (CxQ G n ad KE) dm.2.1 dm.2.2 (fun q => G.1 ≤ q)
theorem ctx_intro {own : String} {l : Launch} {G : GG} {X : MI} {dm : Nat × Nat × Nat} {as : List Value} {n : Nat} {kd : KT} {σ τ : ST} {ρ : RT} {K : KK} {KE : KX} (hl : l.stackTraces = false) (ho : X.1.cls = own) (hy : plainName X.1.cls = true) (h7 : 7 ≤ dm.1) (hle : (argO as).length ≤ X.2.2.1) {L : List (Option Value)} (hL : argL as X.2.2.1 = L) (w : WP l G own X dm K KE n 0 L [] n kd σ τ ρ 0 0) : CtX l G X dm as n kd σ τ ρ K KE := by
  subst hL
  subst ho
  intro ad
  refine vx_ofW (cc := X.2.1) (maxL := X.2.2.1) (ret := X.2.2.2) hy rfl ?_
  intro p e s m args below meth c s₁ B hml ht hv
  obtain ⟨rfl, hH, henv⟩ := hv
  have hlocks := B.notSynchronized
  have hts : ∀ w ∈ TBg, w.before ((as.map (trv ad)).toArray) s = true := fun q hq => atoms_spec (ws := wsM X) B.pre q (List.mem_cons_of_mem _ hq)
  rw [lg_entry_eq]
  refine w ad ad p e _ s m _ below meth c s.heap [] _ _ ⟨B.exec, B.bytes, hml, findClass_of_methodNamed B.named, hts, hlocks, henv, ⟨Nat.le_refl _, Nat.le_refl _, Nat.le_refl _, Nat.le_refl _⟩, (name_of_methodNamed B.named B.method).1,
    fun v ad' n' kd' σ' τ' ρ' H' locs' ls' pc' S' ce' sl' hK ha hH' hS' hc hs hsc hR => vx_ret (ct_exit B.exec B.bytes B.returns hlocks hK ha hH' hS' hc hs hsc hR), ?_⟩ (fun _ _ => rfl) hH va_S.rf (argL_ok (by rw [lg_sl_tr]; exact hle))
  intro E ad' n' kd' σ' τ' ρ' H' locs' ls' pc' ce' sl' hK ha hH' hS' hc hs hsz hT
  obtain ⟨text, names, ik, is, ic, t1, t2, t3, t4, t5, t6, t7, t8, t9, t10⟩ := hT
  obtain ⟨sa, hsa⟩ := henv.2.2.1 _ t4
  have hw : ∀ w ∈ Cond.classLink X.1.cls ik E :: Cond.initialized E :: vx_atS X.1.cls ic E names, w.before ((as.map (trv ad)).toArray) s = true := fun w hw => by
    rcases (t5 w hw).2 with h | ⟨x, hx, rfl⟩ | ⟨q, hq, rfl⟩
    · exact hts w h
    · exact (henv.2.1.2.1 x hx).use rfl
    · exact (henv.2.1.2.2.1 q hq).use rfl
  exact vx_throwS (rest := []) B.exec B.bytes hl (findClass_of_methodNamed B.named) t1 t2 (hw _ List.mem_cons_self) (hw _ (List.mem_cons_of_mem _ List.mem_cons_self)) hsa (fun w h => hw w (List.mem_cons_of_mem _ (List.mem_cons_of_mem _ h))) (fun w h => (t5 w h).1) henv.2.2.2.1 henv.2.2.2.2.1 hS' (hsz.trans hml.symm) t6 t7 t8 t9 t10
    (fun x hx => (ht x hx).elim) (by show names.length + 3 < dm.1; omega) (by show 0 + (13 * (names.length + 1) + 43) ≤ 37 * dm.1; omega) hc hs hlocks
    (fun t _ hz hq => ⟨⟨ad', n', kd', σ', τ', ρ', hK, ha, hH'.ext hz hq⟩, by
      obtain ⟨s1, s2, -⟩ := hS'
      exact ⟨Nat.le_trans s1 hz, fun q h1 h2 => (hq q (Nat.lt_of_lt_of_le h1 s1)).trans (s2 q h1 h2)⟩⟩) hS'.2.2 hc hs
def wOk (w : Cond) : Bool := vx_ot w && ((decide (w ∈ lw_tbl) && goodWord w) || DL.any (fun x => decide (w = .declares x)) || CL.any (fun q => decide (w = .castable q q)))
theorem wOk_spec {w : Cond} (h : wOk w = true) : vx_ot w = true ∧ (w ∈ TBg ∨ (∃ x ∈ DL, w = .declares x) ∨ ∃ q ∈ CL, w = .castable q q) := by
  unfold wOk at h
  simp only [Bool.and_eq_true, Bool.or_eq_true, decide_eq_true_eq, List.any_eq_true] at h
  obtain ⟨h1, (⟨h2, h3⟩ | h2) | h2⟩ := h
  · exact ⟨h1, Or.inl (List.mem_filter.mpr ⟨h2, h3⟩)⟩
  · exact ⟨h1, Or.inr (Or.inl h2)⟩
  · exact ⟨h1, Or.inr (Or.inr h2)⟩
def nmX : List String := ["java/lang/RuntimeException", "java/lang/Exception"]
def TW (E : String) (ik ic : Nat) : Prop := Bundle.fit E = true ∧ ((Cond.classLink "ShapedRows" ik E :: Cond.initialized E :: vx_atS "ShapedRows" ic E nmX).all wOk = true)
theorem nmX_fit : ∀ n ∈ nmX, Bundle.fit n = true := by decide +kernel
theorem ta_mk {E : String} {ik ic is : Nat} {cc : ByteArray} {pc : Nat} (h : TW E ik ic) {text : String} (hs : ("ShapedRows", is, text) ∈ SL) (d0 : decode cc pc = .ok (.new ik, 3)) (d3 : decode cc (pc + 3) = .ok (.dup, 1)) (d4 : decode cc (pc + 4) = .ok (.ldc is, 2)) (d6 : decode cc (pc + 6) = .ok (.invokespecial ic, 3)) (d9 : decode cc (pc + 9) = .ok (.athrow, 1)) : TA "ShapedRows" cc pc E :=
  ⟨text, nmX, ik, is, ic, h.1, nmX_fit, by decide, hs, fun w hw => wOk_spec (List.all_eq_true.mp h.2 w hw), d0, d3, d4, d6, d9⟩
theorem tw_IA : TW "java/lang/IllegalArgumentException" 37 41 := ⟨by decide +kernel, by decide +kernel⟩
theorem tw_IS : TW "java/lang/IllegalStateException" 53 57 := ⟨by decide +kernel, by decide +kernel⟩
theorem tw_IO : TW "java/lang/IndexOutOfBoundsException" 119 123 := ⟨by decide +kernel, by decide +kernel⟩
/-- 1, 2, 3: the three exceptions; 0: it returns -/
def exS (e : Int) : String := if e = 1 then "java/lang/IllegalArgumentException" else if e = 2 then "java/lang/IllegalStateException" else "java/lang/IndexOutOfBoundsException"
def KF (er : Int) (v0 : Option Value) (σ0 τ0 : ST) (π0 : Nat → Option Nat) : KK := fun v n kd σ τ ρ => er = 0 ∧ KSP v0 σ0 τ0 π0 (fun _ => True) v n kd σ τ ρ
def KE1 (er : Int) (σ0 τ0 : ST) (π0 : Nat → Option Nat) : KX := fun E n kd σ τ ρ => E = exS er ∧ er ≠ 0 ∧ n = 117 ∧ kd = KD ∧ σ = σ0 ∧ τ = τ0 ∧ ρ = RHO π0
section Rows7
variable {l : Launch} {G : GG} {own : String} {X : MI} {dm : Nat × Nat × Nat} {K : KK} {KE : KX} {n0 pc : Nat} {L : List (Option Value)} {S : List Value} {σ τ : ST} {π : Nat → Option Nat} {ce sl : Nat}
theorem r_ret_if {e r er : Int} {σ' : ST} {f : Nat → Int} (hd : decode X.2.1 pc = .ok (.ireturn, 1)) (hty : X.2.2.2 = some .int) (hcs : ce ≤ dm.2.1 ∧ sl ≤ dm.2.2) (h0 : er = 0) (he : e = r) (hm : σ = sr σ' 15 f) : WP l G own X dm (KF er (some (.int (iI r))) σ' τ π) KE n0 pc L [.int (iI e)] 117 KD σ τ (RHO π) ce sl :=
  r_ret (v := some (.int (iI e))) ⟨h0, by rw [he], rfl, rfl, ⟨f, trivial, hm⟩, rfl, rfl⟩ (fun w h => by cases h; rfl) hcs (Or.inl ⟨_, rfl, rfl, hd, _, hty, rfl⟩)
theorem r_thr {er k : Int} (hk : er = k) (k0 : k ≠ 0) (hc : ce + 1 ≤ dm.2.1 ∧ sl + 6 ≤ dm.2.2) (hT : TA own X.2.1 pc (exS k)) : WP l G own X dm K (KE1 er σ τ π) n0 pc L [] 117 KD σ τ (RHO π) ce sl :=
  r_throw (E := exS k) ⟨by rw [hk], by rw [hk]; exact k0, rfl, rfl, rfl, rfl, rfl⟩ hc hT
end Rows7

def er_read (σ : ST) (r s a : Int) : Int := if 0 ≤ r ∧ r < σ 10 0 ∧ σ 2 1 ≤ s ∧ s < σ 2 0 then if 0 ≤ a ∧ a < 8 then 0 else 1 else 3
set_option maxRecDepth 100000 in
set_option maxHeartbeats 4000000 in
theorem ct_X5_read {l : Launch} {G : GG} {π : Nat → Option Nat} {σ τ : ST} (hl : l.stackTraces = false) (hI : CI σ) (r : Int) (hr : inR r) (s : Int) (hs : inR s) (a : Int) (ha : inR a) : CtX l G mX5_read (7, 1, 6) [.ref 0, .int (iI r), .int (iI s), .int (iI a)] 117 KD σ τ (RHO π) (KF (er_read σ r s a) (some (.int (iI (vRd σ r.toNat s.toNat a)))) σ τ π) (KE1 (er_read σ r s a) σ τ π) := by
  have hz := hI.sz
  have hr0 := hI.ro
  have hm0 := hI.mk
  have rr := hr
  unfold inR at rr
  have rs := hs
  unfold inR at rs
  have ra := ha
  unfold inR at ra
  refine ctx_intro (own := "ShapedRows") hl rfl (by decide +kernel) (by decide) (Nat.le_of_ble_eq_true rfl) (L := _) rfl ?_
  refine r_aload_n dX5_read_0 rfl (by rfl) ?_
  refine r_get_r kX5_10 dX5_read_1 KD_0 (RHO_0_0 _) ?_
  refine r_get_r kX5_96 dX5_read_4 KD_1 (RHO_1_1 _) ?_
  refine r_iload_n dX5_read_7 rfl (by rfl) ?_
  refine r_callV1 (ct_X1_isThere hI _ (by first | omega | exact hr | exact hs | exact ha | (unfold inR; omega))) fX1_isThere qX5_124 dX5_read_8 KD_10 (by decide) ⟨Nat.zero_le _, Nat.zero_le _⟩ (Nat.le_of_ble_eq_true rfl) ?_
  refine r_ifeq_b (tgt := 28) dX5_read_11 (by decide) (fun c_1 => ?_) (fun c_1 => ?_)
  · exact r_thr (k := 3) (by unfold er_read; (repeat' split) <;> omega) (by decide) ⟨Nat.le_of_ble_eq_true rfl, Nat.le_of_ble_eq_true rfl⟩ (ta_mk tw_IO (is := 127) (text := "no such row or shape, or the shape is retired") (by decide +kernel) dX5_read_28 dX5_read_31 dX5_read_32 dX5_read_34 dX5_read_37)
  · refine r_aload_n dX5_read_14 rfl (by rfl) ?_
    refine r_get_r kX5_10 dX5_read_15 KD_0 (RHO_0_0 _) ?_
    refine r_get_r kX5_44 dX5_read_18 KD_1 (RHO_1_0 _) ?_
    refine r_iload_n dX5_read_21 rfl (by rfl) ?_
    refine r_callV1 (ct_X2_isUsable hI _ (by first | omega | exact hr | exact hs | exact ha | (unfold inR; omega))) fX2_isUsable qX5_116 dX5_read_22 KD_2 (by decide) ⟨Nat.zero_le _, Nat.zero_le _⟩ (Nat.le_of_ble_eq_true rfl) ?_
    refine r_ifne_b (tgt := 38) dX5_read_25 (by decide) (fun c_2 => ?_) (fun c_2 => ?_)
    · refine r_iload_n dX5_read_38 rfl (by rfl) ?_
      refine r_callS1 (ct_X5_isLetter _ (by first | omega | exact hr | exact hs | exact ha | (unfold inR; omega))) fX5_isLetter qX5_30 dX5_read_39 (by decide) ⟨Nat.zero_le _, Nat.zero_le _⟩ (Nat.le_of_ble_eq_true rfl) ?_
      refine r_ifne_b (tgt := 55) dX5_read_42 (by decide) (fun c_3 => ?_) (fun c_3 => ?_)
      · refine r_aload_n dX5_read_55 rfl (by rfl) ?_
        refine r_get_r kX5_10 dX5_read_56 KD_0 (RHO_0_0 _) ?_
        refine r_iload_n dX5_read_59 rfl (by rfl) ?_
        refine r_iload_n dX5_read_60 rfl (by rfl) ?_
        refine r_iload_n dX5_read_61 rfl (by rfl) ?_
        refine r_callY3 (ct_X3_valueRead hI _ (by first | omega | exact hr | exact hs | exact ha | (unfold inR; omega)) (by first | omega | exact hr | exact hs | exact ha | (unfold inR; omega)) _ (by first | omega | exact hr | exact hs | exact ha | (unfold inR; omega)) (by first | omega | exact hr | exact hs | exact ha | (unfold inR; omega)) _ (by first | omega | exact hr | exact hs | exact ha | (unfold inR; omega))) fX3_valueRead qX5_208 dX5_read_62 KD_1 (by decide) ⟨Nat.zero_le _, Nat.zero_le _⟩ (Nat.le_of_ble_eq_true rfl) (fun f_4 hf_4 => ?_)
        exact r_ret_if dX5_read_65 rfl ⟨Nat.zero_le _, Nat.zero_le _⟩ (by unfold er_read; (repeat' split) <;> omega) (by first | rfl | omega | (split <;> omega)) (by first | rfl | exact (sr_self _ _).symm)
      · exact r_thr (k := 1) (by unfold er_read; (repeat' split) <;> omega) (by decide) ⟨Nat.le_of_ble_eq_true rfl, Nat.le_of_ble_eq_true rfl⟩ (ta_mk tw_IA (is := 206) (text := "letter is out of range") (by decide +kernel) dX5_read_45 dX5_read_48 dX5_read_49 dX5_read_51 dX5_read_54)
    · exact r_thr (k := 3) (by unfold er_read; (repeat' split) <;> omega) (by decide) ⟨Nat.le_of_ble_eq_true rfl, Nat.le_of_ble_eq_true rfl⟩ (ta_mk tw_IO (is := 127) (text := "no such row or shape, or the shape is retired") (by decide +kernel) dX5_read_28 dX5_read_31 dX5_read_32 dX5_read_34 dX5_read_37)

def er_readAs (σ : ST) (q r a : Int) : Int := if 0 ≤ q ∧ q < 4 ∧ 0 ≤ r ∧ r < σ 10 0 then if 0 ≤ a ∧ a < 8 then 0 else 1 else 3
set_option maxRecDepth 100000 in
set_option maxHeartbeats 4000000 in
theorem ct_X5_readAs {l : Launch} {G : GG} {π : Nat → Option Nat} {σ τ : ST} (hl : l.stackTraces = false) (hI : CI σ) (q : Int) (hq : inR q) (r : Int) (hr : inR r) (a : Int) (ha : inR a) : CtX l G mX5_readAs (7, 1, 6) [.ref 0, .int (iI q), .int (iI r), .int (iI a)] 117 KD σ τ (RHO π) (KF (er_readAs σ q r a) (some (.int (iI (vRd σ r.toNat (σ 14 q.toNat).toNat a)))) σ τ π) (KE1 (er_readAs σ q r a) σ τ π) := by
  have hz := hI.sz
  have hr0 := hI.ro
  have hm0 := hI.mk
  have rq := hq
  unfold inR at rq
  have rr := hr
  unfold inR at rr
  have ra := ha
  unfold inR at ra
  have hhe := hI.he q.toNat
  refine ctx_intro (own := "ShapedRows") hl rfl (by decide +kernel) (by decide) (Nat.le_of_ble_eq_true rfl) (L := _) rfl ?_
  refine r_iload_n dX5_readAs_0 rfl (by rfl) ?_
  refine r_callS1 (ct_X5_isReader _ (by first | omega | exact hq | exact hr | exact ha | (unfold inR; omega))) fX5_isReader qX5_153 dX5_readAs_1 (by decide) ⟨Nat.zero_le _, Nat.zero_le _⟩ (Nat.le_of_ble_eq_true rfl) ?_
  refine r_ifeq_b (tgt := 21) dX5_readAs_4 (by decide) (fun c_1 => ?_) (fun c_1 => ?_)
  · exact r_thr (k := 3) (by unfold er_readAs; (repeat' split) <;> omega) (by decide) ⟨Nat.le_of_ble_eq_true rfl, Nat.le_of_ble_eq_true rfl⟩ (ta_mk tw_IO (is := 211) (text := "no such reader or row") (by decide +kernel) dX5_readAs_21 dX5_readAs_24 dX5_readAs_25 dX5_readAs_27 dX5_readAs_30)
  · refine r_aload_n dX5_readAs_7 rfl (by rfl) ?_
    refine r_get_r kX5_10 dX5_readAs_8 KD_0 (RHO_0_0 _) ?_
    refine r_get_r kX5_96 dX5_readAs_11 KD_1 (RHO_1_1 _) ?_
    refine r_iload_n dX5_readAs_14 rfl (by rfl) ?_
    refine r_callV1 (ct_X1_isThere hI _ (by first | omega | exact hq | exact hr | exact ha | (unfold inR; omega))) fX1_isThere qX5_124 dX5_readAs_15 KD_10 (by decide) ⟨Nat.zero_le _, Nat.zero_le _⟩ (Nat.le_of_ble_eq_true rfl) ?_
    refine r_ifne_b (tgt := 31) dX5_readAs_18 (by decide) (fun c_2 => ?_) (fun c_2 => ?_)
    · refine r_iload_n dX5_readAs_31 rfl (by rfl) ?_
      refine r_callS1 (ct_X5_isLetter _ (by first | omega | exact hq | exact hr | exact ha | (unfold inR; omega))) fX5_isLetter qX5_30 dX5_readAs_32 (by decide) ⟨Nat.zero_le _, Nat.zero_le _⟩ (Nat.le_of_ble_eq_true rfl) ?_
      refine r_ifne_b (tgt := 48) dX5_readAs_35 (by decide) (fun c_3 => ?_) (fun c_3 => ?_)
      · refine r_aload_n dX5_readAs_48 rfl (by rfl) ?_
        refine r_get_r kX5_10 dX5_readAs_49 KD_0 (RHO_0_0 _) ?_
        refine r_iload_n dX5_readAs_52 rfl (by rfl) ?_
        refine r_aload_n dX5_readAs_53 rfl (by rfl) ?_
        refine r_get_r kX5_10 dX5_readAs_54 KD_0 (RHO_0_0 _) ?_
        refine r_iload_n dX5_readAs_57 rfl (by rfl) ?_
        refine r_callV1 (ct_X3_heldBy _ (by first | omega | exact hq | exact hr | exact ha | (unfold inR; omega)) (by first | omega | exact hq | exact hr | exact ha | (unfold inR; omega))) fX3_heldBy qX5_213 dX5_readAs_58 KD_1 (by decide) ⟨Nat.zero_le _, Nat.zero_le _⟩ (Nat.le_of_ble_eq_true rfl) ?_
        refine r_iload_n dX5_readAs_61 rfl (by rfl) ?_
        refine r_callY3 (ct_X3_valueRead hI _ (by first | omega | exact hq | exact hr | exact ha | (unfold inR; omega)) (by first | omega | exact hq | exact hr | exact ha | (unfold inR; omega)) _ (by first | omega | exact hq | exact hr | exact ha | (unfold inR; omega)) (by first | omega | exact hq | exact hr | exact ha | (unfold inR; omega)) _ (by first | omega | exact hq | exact hr | exact ha | (unfold inR; omega))) fX3_valueRead qX5_208 dX5_readAs_62 KD_1 (by decide) ⟨Nat.zero_le _, Nat.zero_le _⟩ (Nat.le_of_ble_eq_true rfl) (fun f_4 hf_4 => ?_)
        exact r_ret_if dX5_readAs_65 rfl ⟨Nat.zero_le _, Nat.zero_le _⟩ (by unfold er_readAs; (repeat' split) <;> omega) (by first | rfl | omega | (split <;> omega)) (by first | rfl | exact (sr_self _ _).symm)
      · exact r_thr (k := 1) (by unfold er_readAs; (repeat' split) <;> omega) (by decide) ⟨Nat.le_of_ble_eq_true rfl, Nat.le_of_ble_eq_true rfl⟩ (ta_mk tw_IA (is := 206) (text := "letter is out of range") (by decide +kernel) dX5_readAs_38 dX5_readAs_41 dX5_readAs_42 dX5_readAs_44 dX5_readAs_47)
    · exact r_thr (k := 3) (by unfold er_readAs; (repeat' split) <;> omega) (by decide) ⟨Nat.le_of_ble_eq_true rfl, Nat.le_of_ble_eq_true rfl⟩ (ta_mk tw_IO (is := 211) (text := "no such reader or row") (by decide +kernel) dX5_readAs_21 dX5_readAs_24 dX5_readAs_25 dX5_readAs_27 dX5_readAs_30)

def er_column (σ : ST) (s q w : Int) : Int := if 0 ≤ s ∧ s < σ 2 0 then if 0 ≤ q ∧ 0 ≤ w ∧ w < 3 then 0 else 1 else 3
set_option maxRecDepth 100000 in
set_option maxHeartbeats 4000000 in
theorem ct_X5_column {l : Launch} {G : GG} {π : Nat → Option Nat} {σ τ : ST} (hl : l.stackTraces = false) (hI : CI σ) (s : Int) (hs : inR s) (q : Int) (hq : inR q) (w : Int) (hw : inR w) : CtX l G mX5_column (7, 1, 6) [.ref 0, .int (iI s), .int (iI q), .int (iI w)] 117 KD σ τ (RHO π) (KF (er_column σ s q w) (some (.int (iI (csP σ s.toNat q w)))) σ τ π) (KE1 (er_column σ s q w) σ τ π) := by
  have hz := hI.sz
  have hr0 := hI.ro
  have hm0 := hI.mk
  have rs := hs
  unfold inR at rs
  have rq := hq
  unfold inR at rq
  have rw := hw
  unfold inR at rw
  refine ctx_intro (own := "ShapedRows") hl rfl (by decide +kernel) (by decide) (Nat.le_of_ble_eq_true rfl) (L := _) rfl ?_
  refine r_aload_n dX5_column_0 rfl (by rfl) ?_
  refine r_get_r kX5_10 dX5_column_1 KD_0 (RHO_0_0 _) ?_
  refine r_get_r kX5_44 dX5_column_4 KD_1 (RHO_1_0 _) ?_
  refine r_iload_n dX5_column_7 rfl (by rfl) ?_
  refine r_callV1 (ct_X2_isThere hI _ (by first | omega | exact hs | exact hq | exact hw | (unfold inR; omega))) fX2_isThere qX5_216 dX5_column_8 KD_2 (by decide) ⟨Nat.zero_le _, Nat.zero_le _⟩ (Nat.le_of_ble_eq_true rfl) ?_
  refine r_ifne_b (tgt := 24) dX5_column_11 (by decide) (fun c_1 => ?_) (fun c_1 => ?_)
  · refine r_iload_n dX5_column_24 rfl (by rfl) ?_
    refine r_if_lt (tgt := 37) dX5_column_25 (by decide) (by unfold inR; omega) (fun c_2 => ?_) (fun c_2 => ?_)
    · exact r_thr (k := 1) (by unfold er_column; (repeat' split) <;> omega) (by decide) ⟨Nat.le_of_ble_eq_true rfl, Nat.le_of_ble_eq_true rfl⟩ (ta_mk tw_IA (is := 219) (text := "place or what is out of range") (by decide +kernel) dX5_column_37 dX5_column_40 dX5_column_41 dX5_column_43 dX5_column_46)
    · refine r_iload_n dX5_column_28 rfl (by rfl) ?_
      refine r_if_lt (tgt := 37) dX5_column_29 (by decide) (by unfold inR; omega) (fun c_3 => ?_) (fun c_3 => ?_)
      · exact r_thr (k := 1) (by unfold er_column; (repeat' split) <;> omega) (by decide) ⟨Nat.le_of_ble_eq_true rfl, Nat.le_of_ble_eq_true rfl⟩ (ta_mk tw_IA (is := 219) (text := "place or what is out of range") (by decide +kernel) dX5_column_37 dX5_column_40 dX5_column_41 dX5_column_43 dX5_column_46)
      · refine r_iload_n dX5_column_32 rfl (by rfl) ?_
        refine r_iconst dX5_column_33 ?_
        refine r_icmp_lt (tgt := 47) dX5_column_34 (by decide) (by unfold inR; omega) (by unfold inR; omega) (fun c_4 => ?_) (fun c_4 => ?_)
        · refine r_aload_n dX5_column_47 rfl (by rfl) ?_
          refine r_get_r kX5_10 dX5_column_48 KD_0 (RHO_0_0 _) ?_
          refine r_get_r kX5_44 dX5_column_51 KD_1 (RHO_1_0 _) ?_
          refine r_iload_n dX5_column_54 rfl (by rfl) ?_
          refine r_iload_n dX5_column_55 rfl (by rfl) ?_
          refine r_iload_n dX5_column_56 rfl (by rfl) ?_
          refine r_callV3 (ct_X2_columnProperty hI _ (by first | omega | exact hs | exact hq | exact hw | (unfold inR; omega)) (by first | omega | exact hs | exact hq | exact hw | (unfold inR; omega)) _ (by first | omega | exact hs | exact hq | exact hw | (unfold inR; omega)) (by first | omega | exact hs | exact hq | exact hw | (unfold inR; omega)) _ (by first | omega | exact hs | exact hq | exact hw | (unfold inR; omega)) (by first | omega | exact hs | exact hq | exact hw | (unfold inR; omega))) fX2_columnProperty qX5_221 dX5_column_57 KD_2 (by decide) ⟨Nat.zero_le _, Nat.zero_le _⟩ (Nat.le_of_ble_eq_true rfl) ?_
          exact r_ret_if dX5_column_60 rfl ⟨Nat.zero_le _, Nat.zero_le _⟩ (by unfold er_column; (repeat' split) <;> omega) (by unfold csP; rfl) (by first | rfl | exact (sr_self _ _).symm)
        · exact r_thr (k := 1) (by unfold er_column; (repeat' split) <;> omega) (by decide) ⟨Nat.le_of_ble_eq_true rfl, Nat.le_of_ble_eq_true rfl⟩ (ta_mk tw_IA (is := 219) (text := "place or what is out of range") (by decide +kernel) dX5_column_37 dX5_column_40 dX5_column_41 dX5_column_43 dX5_column_46)
  · exact r_thr (k := 3) (by unfold er_column; (repeat' split) <;> omega) (by decide) ⟨Nat.le_of_ble_eq_true rfl, Nat.le_of_ble_eq_true rfl⟩ (ta_mk tw_IO (is := 217) (text := "no such shape") (by decide +kernel) dX5_column_14 dX5_column_17 dX5_column_18 dX5_column_20 dX5_column_23)

def er_shape (σ : ST) (s w : Int) : Int := if 0 ≤ s ∧ s < σ 2 0 then if 0 ≤ w ∧ w < 6 then 0 else 1 else 3
set_option maxRecDepth 100000 in
set_option maxHeartbeats 4000000 in
theorem ct_X5_shape {l : Launch} {G : GG} {π : Nat → Option Nat} {σ τ : ST} (hl : l.stackTraces = false) (hI : CI σ) (s : Int) (hs : inR s) (w : Int) (hw : inR w) : CtX l G mX5_shape (7, 1, 6) [.ref 0, .int (iI s), .int (iI w)] 117 KD σ τ (RHO π) (KF (er_shape σ s w) (some (.int (iI (shP σ s.toNat w)))) σ τ π) (KE1 (er_shape σ s w) σ τ π) := by
  have hz := hI.sz
  have hr0 := hI.ro
  have hm0 := hI.mk
  have rs := hs
  unfold inR at rs
  have rw := hw
  unfold inR at rw
  refine ctx_intro (own := "ShapedRows") hl rfl (by decide +kernel) (by decide) (Nat.le_of_ble_eq_true rfl) (L := _) rfl ?_
  refine r_aload_n dX5_shape_0 rfl (by rfl) ?_
  refine r_get_r kX5_10 dX5_shape_1 KD_0 (RHO_0_0 _) ?_
  refine r_get_r kX5_44 dX5_shape_4 KD_1 (RHO_1_0 _) ?_
  refine r_iload_n dX5_shape_7 rfl (by rfl) ?_
  refine r_callV1 (ct_X2_isThere hI _ (by first | omega | exact hs | exact hw | (unfold inR; omega))) fX2_isThere qX5_216 dX5_shape_8 KD_2 (by decide) ⟨Nat.zero_le _, Nat.zero_le _⟩ (Nat.le_of_ble_eq_true rfl) ?_
  refine r_ifne_b (tgt := 24) dX5_shape_11 (by decide) (fun c_1 => ?_) (fun c_1 => ?_)
  · refine r_iload_n dX5_shape_24 rfl (by rfl) ?_
    refine r_if_lt (tgt := 34) dX5_shape_25 (by decide) (by unfold inR; omega) (fun c_2 => ?_) (fun c_2 => ?_)
    · exact r_thr (k := 1) (by unfold er_shape; (repeat' split) <;> omega) (by decide) ⟨Nat.le_of_ble_eq_true rfl, Nat.le_of_ble_eq_true rfl⟩ (ta_mk tw_IA (is := 224) (text := "what is out of range") (by decide +kernel) dX5_shape_34 dX5_shape_37 dX5_shape_38 dX5_shape_40 dX5_shape_43)
    · refine r_iload_n dX5_shape_28 rfl (by rfl) ?_
      refine r_bipush dX5_shape_29 (by decide) ?_
      refine r_icmp_lt (tgt := 44) dX5_shape_31 (by decide) (by unfold inR; omega) (by unfold inR; omega) (fun c_3 => ?_) (fun c_3 => ?_)
      · refine r_aload_n dX5_shape_44 rfl (by rfl) ?_
        refine r_get_r kX5_10 dX5_shape_45 KD_0 (RHO_0_0 _) ?_
        refine r_iload_n dX5_shape_48 rfl (by rfl) ?_
        refine r_iload_n dX5_shape_49 rfl (by rfl) ?_
        refine r_callV2 (ct_X3_shapeProperty hI _ (by first | omega | exact hs | exact hw | (unfold inR; omega)) (by first | omega | exact hs | exact hw | (unfold inR; omega)) _ (by first | omega | exact hs | exact hw | (unfold inR; omega)) (by first | omega | exact hs | exact hw | (unfold inR; omega))) fX3_shapeProperty qX5_226 dX5_shape_50 KD_1 (by decide) ⟨Nat.zero_le _, Nat.zero_le _⟩ (Nat.le_of_ble_eq_true rfl) ?_
        exact r_ret_if dX5_shape_53 rfl ⟨Nat.zero_le _, Nat.zero_le _⟩ (by unfold er_shape; (repeat' split) <;> omega) (by first | rfl | omega | (split <;> omega)) (by first | rfl | exact (sr_self _ _).symm)
      · exact r_thr (k := 1) (by unfold er_shape; (repeat' split) <;> omega) (by decide) ⟨Nat.le_of_ble_eq_true rfl, Nat.le_of_ble_eq_true rfl⟩ (ta_mk tw_IA (is := 224) (text := "what is out of range") (by decide +kernel) dX5_shape_34 dX5_shape_37 dX5_shape_38 dX5_shape_40 dX5_shape_43)
  · exact r_thr (k := 3) (by unfold er_shape; (repeat' split) <;> omega) (by decide) ⟨Nat.le_of_ble_eq_true rfl, Nat.le_of_ble_eq_true rfl⟩ (ta_mk tw_IO (is := 217) (text := "no such shape") (by decide +kernel) dX5_shape_14 dX5_shape_17 dX5_shape_18 dX5_shape_20 dX5_shape_23)

def er_row (σ : ST) (r w : Int) : Int := if 0 ≤ r ∧ r < σ 10 0 then if 0 ≤ w ∧ w < 6 then 0 else 1 else 3
set_option maxRecDepth 100000 in
set_option maxHeartbeats 4000000 in
theorem ct_X5_row {l : Launch} {G : GG} {π : Nat → Option Nat} {σ τ : ST} (hl : l.stackTraces = false) (hI : CI σ) (r : Int) (hr : inR r) (w : Int) (hw : inR w) : CtX l G mX5_row (7, 1, 6) [.ref 0, .int (iI r), .int (iI w)] 117 KD σ τ (RHO π) (KF (er_row σ r w) (some (.int (iI (roP σ r.toNat w)))) σ τ π) (KE1 (er_row σ r w) σ τ π) := by
  have hz := hI.sz
  have hr0 := hI.ro
  have hm0 := hI.mk
  have rr := hr
  unfold inR at rr
  have rw := hw
  unfold inR at rw
  refine ctx_intro (own := "ShapedRows") hl rfl (by decide +kernel) (by decide) (Nat.le_of_ble_eq_true rfl) (L := _) rfl ?_
  refine r_aload_n dX5_row_0 rfl (by rfl) ?_
  refine r_get_r kX5_10 dX5_row_1 KD_0 (RHO_0_0 _) ?_
  refine r_get_r kX5_96 dX5_row_4 KD_1 (RHO_1_1 _) ?_
  refine r_iload_n dX5_row_7 rfl (by rfl) ?_
  refine r_callV1 (ct_X1_isThere hI _ (by first | omega | exact hr | exact hw | (unfold inR; omega))) fX1_isThere qX5_124 dX5_row_8 KD_10 (by decide) ⟨Nat.zero_le _, Nat.zero_le _⟩ (Nat.le_of_ble_eq_true rfl) ?_
  refine r_ifne_b (tgt := 24) dX5_row_11 (by decide) (fun c_1 => ?_) (fun c_1 => ?_)
  · refine r_iload_n dX5_row_24 rfl (by rfl) ?_
    refine r_if_lt (tgt := 34) dX5_row_25 (by decide) (by unfold inR; omega) (fun c_2 => ?_) (fun c_2 => ?_)
    · exact r_thr (k := 1) (by unfold er_row; (repeat' split) <;> omega) (by decide) ⟨Nat.le_of_ble_eq_true rfl, Nat.le_of_ble_eq_true rfl⟩ (ta_mk tw_IA (is := 224) (text := "what is out of range") (by decide +kernel) dX5_row_34 dX5_row_37 dX5_row_38 dX5_row_40 dX5_row_43)
    · refine r_iload_n dX5_row_28 rfl (by rfl) ?_
      refine r_bipush dX5_row_29 (by decide) ?_
      refine r_icmp_lt (tgt := 44) dX5_row_31 (by decide) (by unfold inR; omega) (by unfold inR; omega) (fun c_3 => ?_) (fun c_3 => ?_)
      · refine r_aload_n dX5_row_44 rfl (by rfl) ?_
        refine r_get_r kX5_10 dX5_row_45 KD_0 (RHO_0_0 _) ?_
        refine r_iload_n dX5_row_48 rfl (by rfl) ?_
        refine r_iload_n dX5_row_49 rfl (by rfl) ?_
        refine r_callY2 (ct_X3_rowProperty hI _ (by first | omega | exact hr | exact hw | (unfold inR; omega)) (by first | omega | exact hr | exact hw | (unfold inR; omega)) _ (by first | omega | exact hr | exact hw | (unfold inR; omega)) (by first | omega | exact hr | exact hw | (unfold inR; omega))) fX3_rowProperty qX5_229 dX5_row_50 KD_1 (by decide) ⟨Nat.zero_le _, Nat.zero_le _⟩ (Nat.le_of_ble_eq_true rfl) (fun f_4 hf_4 => ?_)
        exact r_ret_if dX5_row_53 rfl ⟨Nat.zero_le _, Nat.zero_le _⟩ (by unfold er_row; (repeat' split) <;> omega) (by first | rfl | omega | (split <;> omega)) (by first | rfl | exact (sr_self _ _).symm)
      · exact r_thr (k := 1) (by unfold er_row; (repeat' split) <;> omega) (by decide) ⟨Nat.le_of_ble_eq_true rfl, Nat.le_of_ble_eq_true rfl⟩ (ta_mk tw_IA (is := 224) (text := "what is out of range") (by decide +kernel) dX5_row_34 dX5_row_37 dX5_row_38 dX5_row_40 dX5_row_43)
  · exact r_thr (k := 3) (by unfold er_row; (repeat' split) <;> omega) (by decide) ⟨Nat.le_of_ble_eq_true rfl, Nat.le_of_ble_eq_true rfl⟩ (ta_mk tw_IO (is := 143) (text := "no such row") (by decide +kernel) dX5_row_14 dX5_row_17 dX5_row_18 dX5_row_20 dX5_row_23)

def er_count (σ : ST) (w : Int) : Int := if 0 ≤ w ∧ w < 10 then 0 else 1
set_option maxRecDepth 100000 in
set_option maxHeartbeats 4000000 in
theorem ct_X5_count {l : Launch} {G : GG} {π : Nat → Option Nat} {σ τ : ST} (hl : l.stackTraces = false) (hI : CI σ) (w : Int) (hw : inR w) : CtX l G mX5_count (7, 1, 6) [.ref 0, .int (iI w)] 117 KD σ τ (RHO π) (KF (er_count σ w) (some (.int (iI (ctP σ w)))) σ τ π) (KE1 (er_count σ w) σ τ π) := by
  have hz := hI.sz
  have hr0 := hI.ro
  have hm0 := hI.mk
  have rw := hw
  unfold inR at rw
  refine ctx_intro (own := "ShapedRows") hl rfl (by decide +kernel) (by decide) (Nat.le_of_ble_eq_true rfl) (L := _) rfl ?_
  refine r_iload_n dX5_count_0 rfl (by rfl) ?_
  refine r_if_lt (tgt := 10) dX5_count_1 (by decide) (by unfold inR; omega) (fun c_1 => ?_) (fun c_1 => ?_)
  · exact r_thr (k := 1) (by unfold er_count; (repeat' split) <;> omega) (by decide) ⟨Nat.le_of_ble_eq_true rfl, Nat.le_of_ble_eq_true rfl⟩ (ta_mk tw_IA (is := 224) (text := "what is out of range") (by decide +kernel) dX5_count_10 dX5_count_13 dX5_count_14 dX5_count_16 dX5_count_19)
  · refine r_iload_n dX5_count_4 rfl (by rfl) ?_
    refine r_bipush dX5_count_5 (by decide) ?_
    refine r_icmp_lt (tgt := 20) dX5_count_7 (by decide) (by unfold inR; omega) (by unfold inR; omega) (fun c_2 => ?_) (fun c_2 => ?_)
    · refine r_aload_n dX5_count_20 rfl (by rfl) ?_
      refine r_iload_n dX5_count_21 rfl (by rfl) ?_
      refine r_callV1 (ct_X5_counted hI _ (by first | omega | exact hw | (unfold inR; omega)) (by first | omega | exact hw | (unfold inR; omega))) fX5_counted qX5_232 dX5_count_22 KD_0 (by decide) ⟨Nat.zero_le _, Nat.zero_le _⟩ (Nat.le_of_ble_eq_true rfl) ?_
      exact r_ret_if dX5_count_25 rfl ⟨Nat.zero_le _, Nat.zero_le _⟩ (by unfold er_count; (repeat' split) <;> omega) (by first | rfl | omega | (split <;> omega)) (by first | rfl | exact (sr_self _ _).symm)
    · exact r_thr (k := 1) (by unfold er_count; (repeat' split) <;> omega) (by decide) ⟨Nat.le_of_ble_eq_true rfl, Nat.le_of_ble_eq_true rfl⟩ (ta_mk tw_IA (is := 224) (text := "what is out of range") (by decide +kernel) dX5_count_10 dX5_count_13 dX5_count_14 dX5_count_16 dX5_count_19)

def er_lost (σ : ST) (r s : Int) : Int := if 0 ≤ r ∧ r < σ 10 0 ∧ σ 2 1 ≤ s ∧ s < σ 2 0 then 0 else 3
set_option maxRecDepth 100000 in
set_option maxHeartbeats 4000000 in
theorem ct_X5_lost {l : Launch} {G : GG} {π : Nat → Option Nat} {σ τ : ST} (hl : l.stackTraces = false) (hI : CI σ) (r : Int) (hr : inR r) (s : Int) (hs : inR s) : CtX l G mX5_lost (7, 1, 6) [.ref 0, .int (iI r), .int (iI s)] 117 KD σ τ (RHO π) (KF (er_lost σ r s) (some (.int (iI (lsC σ (lsV σ r.toNat s.toNat) r.toNat (σ 7 (σ 11 r.toNat).toNat).toNat)))) σ τ π) (KE1 (er_lost σ r s) σ τ π) := by
  have hz := hI.sz
  have hr0 := hI.ro
  have hm0 := hI.mk
  have rr := hr
  unfold inR at rr
  have rs := hs
  unfold inR at rs
  refine ctx_intro (own := "ShapedRows") hl rfl (by decide +kernel) (by decide) (Nat.le_of_ble_eq_true rfl) (L := _) rfl ?_
  refine r_aload_n dX5_lost_0 rfl (by rfl) ?_
  refine r_get_r kX5_10 dX5_lost_1 KD_0 (RHO_0_0 _) ?_
  refine r_get_r kX5_96 dX5_lost_4 KD_1 (RHO_1_1 _) ?_
  refine r_iload_n dX5_lost_7 rfl (by rfl) ?_
  refine r_callV1 (ct_X1_isThere hI _ (by first | omega | exact hr | exact hs | (unfold inR; omega))) fX1_isThere qX5_124 dX5_lost_8 KD_10 (by decide) ⟨Nat.zero_le _, Nat.zero_le _⟩ (Nat.le_of_ble_eq_true rfl) ?_
  refine r_ifeq_b (tgt := 28) dX5_lost_11 (by decide) (fun c_1 => ?_) (fun c_1 => ?_)
  · exact r_thr (k := 3) (by unfold er_lost; (repeat' split) <;> omega) (by decide) ⟨Nat.le_of_ble_eq_true rfl, Nat.le_of_ble_eq_true rfl⟩ (ta_mk tw_IO (is := 127) (text := "no such row or shape, or the shape is retired") (by decide +kernel) dX5_lost_28 dX5_lost_31 dX5_lost_32 dX5_lost_34 dX5_lost_37)
  · refine r_aload_n dX5_lost_14 rfl (by rfl) ?_
    refine r_get_r kX5_10 dX5_lost_15 KD_0 (RHO_0_0 _) ?_
    refine r_get_r kX5_44 dX5_lost_18 KD_1 (RHO_1_0 _) ?_
    refine r_iload_n dX5_lost_21 rfl (by rfl) ?_
    refine r_callV1 (ct_X2_isUsable hI _ (by first | omega | exact hr | exact hs | (unfold inR; omega))) fX2_isUsable qX5_116 dX5_lost_22 KD_2 (by decide) ⟨Nat.zero_le _, Nat.zero_le _⟩ (Nat.le_of_ble_eq_true rfl) ?_
    refine r_ifne_b (tgt := 38) dX5_lost_25 (by decide) (fun c_2 => ?_) (fun c_2 => ?_)
    · refine r_aload_n dX5_lost_38 rfl (by rfl) ?_
      refine r_get_r kX5_10 dX5_lost_39 KD_0 (RHO_0_0 _) ?_
      refine r_iload_n dX5_lost_42 rfl (by rfl) ?_
      refine r_iload_n dX5_lost_43 rfl (by rfl) ?_
      refine r_callY2 (ct_X3_valuesLost hI _ (by first | omega | exact hr | exact hs | (unfold inR; omega)) (by first | omega | exact hr | exact hs | (unfold inR; omega)) _ (by first | omega | exact hr | exact hs | (unfold inR; omega)) (by first | omega | exact hr | exact hs | (unfold inR; omega))) fX3_valuesLost qX5_235 dX5_lost_44 KD_1 (by decide) ⟨Nat.zero_le _, Nat.zero_le _⟩ (Nat.le_of_ble_eq_true rfl) (fun f_3 hf_3 => ?_)
      exact r_ret_if dX5_lost_47 rfl ⟨Nat.zero_le _, Nat.zero_le _⟩ (by unfold er_lost; (repeat' split) <;> omega) (by first | rfl | omega | (split <;> omega)) (by first | rfl | exact (sr_self _ _).symm)
    · exact r_thr (k := 3) (by unfold er_lost; (repeat' split) <;> omega) (by decide) ⟨Nat.le_of_ble_eq_true rfl, Nat.le_of_ble_eq_true rfl⟩ (ta_mk tw_IO (is := 127) (text := "no such row or shape, or the shape is retired") (by decide +kernel) dX5_lost_28 dX5_lost_31 dX5_lost_32 dX5_lost_34 dX5_lost_37)

def er_against (σ : ST) (r s a : Int) : Int := if 0 ≤ r ∧ r < σ 10 0 ∧ σ 2 1 ≤ s ∧ s < σ 2 0 then if 0 ≤ a ∧ a < 8 then 0 else 1 else 3
set_option maxRecDepth 100000 in
set_option maxHeartbeats 4000000 in
theorem ct_X5_against {l : Launch} {G : GG} {π : Nat → Option Nat} {σ τ : ST} (hl : l.stackTraces = false) (hI : CI σ) (r : Int) (hr : inR r) (s : Int) (hs : inR s) (a : Int) (ha : inR a) : CtX l G mX5_against (7, 1, 6) [.ref 0, .int (iI r), .int (iI s), .int (iI a)] 117 KD σ τ (RHO π) (KF (er_against σ r s a) (some (.int (iI (refu σ r.toNat s.toNat a)))) σ τ π) (KE1 (er_against σ r s a) σ τ π) := by
  have hz := hI.sz
  have hr0 := hI.ro
  have hm0 := hI.mk
  have rr := hr
  unfold inR at rr
  have rs := hs
  unfold inR at rs
  have ra := ha
  unfold inR at ra
  refine ctx_intro (own := "ShapedRows") hl rfl (by decide +kernel) (by decide) (Nat.le_of_ble_eq_true rfl) (L := _) rfl ?_
  refine r_aload_n dX5_against_0 rfl (by rfl) ?_
  refine r_get_r kX5_10 dX5_against_1 KD_0 (RHO_0_0 _) ?_
  refine r_get_r kX5_96 dX5_against_4 KD_1 (RHO_1_1 _) ?_
  refine r_iload_n dX5_against_7 rfl (by rfl) ?_
  refine r_callV1 (ct_X1_isThere hI _ (by first | omega | exact hr | exact hs | exact ha | (unfold inR; omega))) fX1_isThere qX5_124 dX5_against_8 KD_10 (by decide) ⟨Nat.zero_le _, Nat.zero_le _⟩ (Nat.le_of_ble_eq_true rfl) ?_
  refine r_ifeq_b (tgt := 28) dX5_against_11 (by decide) (fun c_1 => ?_) (fun c_1 => ?_)
  · exact r_thr (k := 3) (by unfold er_against; (repeat' split) <;> omega) (by decide) ⟨Nat.le_of_ble_eq_true rfl, Nat.le_of_ble_eq_true rfl⟩ (ta_mk tw_IO (is := 127) (text := "no such row or shape, or the shape is retired") (by decide +kernel) dX5_against_28 dX5_against_31 dX5_against_32 dX5_against_34 dX5_against_37)
  · refine r_aload_n dX5_against_14 rfl (by rfl) ?_
    refine r_get_r kX5_10 dX5_against_15 KD_0 (RHO_0_0 _) ?_
    refine r_get_r kX5_44 dX5_against_18 KD_1 (RHO_1_0 _) ?_
    refine r_iload_n dX5_against_21 rfl (by rfl) ?_
    refine r_callV1 (ct_X2_isUsable hI _ (by first | omega | exact hr | exact hs | exact ha | (unfold inR; omega))) fX2_isUsable qX5_116 dX5_against_22 KD_2 (by decide) ⟨Nat.zero_le _, Nat.zero_le _⟩ (Nat.le_of_ble_eq_true rfl) ?_
    refine r_ifne_b (tgt := 38) dX5_against_25 (by decide) (fun c_2 => ?_) (fun c_2 => ?_)
    · refine r_iload_n dX5_against_38 rfl (by rfl) ?_
      refine r_callS1 (ct_X5_isLetter _ (by first | omega | exact hr | exact hs | exact ha | (unfold inR; omega))) fX5_isLetter qX5_30 dX5_against_39 (by decide) ⟨Nat.zero_le _, Nat.zero_le _⟩ (Nat.le_of_ble_eq_true rfl) ?_
      refine r_ifne_b (tgt := 55) dX5_against_42 (by decide) (fun c_3 => ?_) (fun c_3 => ?_)
      · refine r_aload_n dX5_against_55 rfl (by rfl) ?_
        refine r_get_r kX5_10 dX5_against_56 KD_0 (RHO_0_0 _) ?_
        refine r_iload_n dX5_against_59 rfl (by rfl) ?_
        refine r_iload_n dX5_against_60 rfl (by rfl) ?_
        refine r_iload_n dX5_against_61 rfl (by rfl) ?_
        refine r_callV3 (ct_X3_refusal hI _ (by first | omega | exact hr | exact hs | exact ha | (unfold inR; omega)) (by first | omega | exact hr | exact hs | exact ha | (unfold inR; omega)) _ (by first | omega | exact hr | exact hs | exact ha | (unfold inR; omega)) (by first | omega | exact hr | exact hs | exact ha | (unfold inR; omega)) _ (by first | omega | exact hr | exact hs | exact ha | (unfold inR; omega))) fX3_refusal qX5_134 dX5_against_62 KD_1 (by decide) ⟨Nat.zero_le _, Nat.zero_le _⟩ (Nat.le_of_ble_eq_true rfl) ?_
        exact r_ret_if dX5_against_65 rfl ⟨Nat.zero_le _, Nat.zero_le _⟩ (by unfold er_against; (repeat' split) <;> omega) (by first | rfl | omega | (split <;> omega)) (by first | rfl | exact (sr_self _ _).symm)
      · exact r_thr (k := 1) (by unfold er_against; (repeat' split) <;> omega) (by decide) ⟨Nat.le_of_ble_eq_true rfl, Nat.le_of_ble_eq_true rfl⟩ (ta_mk tw_IA (is := 206) (text := "letter is out of range") (by decide +kernel) dX5_against_45 dX5_against_48 dX5_against_49 dX5_against_51 dX5_against_54)
    · exact r_thr (k := 3) (by unfold er_against; (repeat' split) <;> omega) (by decide) ⟨Nat.le_of_ble_eq_true rfl, Nat.le_of_ble_eq_true rfl⟩ (ta_mk tw_IO (is := 127) (text := "no such row or shape, or the shape is retired") (by decide +kernel) dX5_against_28 dX5_against_31 dX5_against_32 dX5_against_34 dX5_against_37)

def er_find (σ : ST) (s a x : Int) : Int := if σ 2 1 ≤ s ∧ s < σ 2 0 then if 0 ≤ a ∧ a < 8 ∧ 0 ≤ x ∧ x ≤ 99999 then 0 else 1 else 3
set_option maxRecDepth 100000 in
set_option maxHeartbeats 4000000 in
theorem ct_X5_find {l : Launch} {G : GG} {π : Nat → Option Nat} {σ τ : ST} (hl : l.stackTraces = false) (hI : CI σ) (s : Int) (hs : inR s) (a : Int) (ha : inR a) (x : Int) (hx : inR x) : CtX l G mX5_find (7, 1, 6) [.ref 0, .int (iI s), .int (iI a), .int (iI x)] 117 KD σ τ (RHO π) (KF (er_find σ s a x) (some (.int (iI (mskF σ s.toNat a x (σ 10 0).toNat)))) σ τ π) (KE1 (er_find σ s a x) σ τ π) := by
  have hz := hI.sz
  have hr0 := hI.ro
  have hm0 := hI.mk
  have rs := hs
  unfold inR at rs
  have ra := ha
  unfold inR at ra
  have rx := hx
  unfold inR at rx
  refine ctx_intro (own := "ShapedRows") hl rfl (by decide +kernel) (by decide) (Nat.le_of_ble_eq_true rfl) (L := _) rfl ?_
  refine r_aload_n dX5_find_0 rfl (by rfl) ?_
  refine r_get_r kX5_10 dX5_find_1 KD_0 (RHO_0_0 _) ?_
  refine r_get_r kX5_44 dX5_find_4 KD_1 (RHO_1_0 _) ?_
  refine r_iload_n dX5_find_7 rfl (by rfl) ?_
  refine r_callV1 (ct_X2_isUsable hI _ (by first | omega | exact hs | exact ha | exact hx | (unfold inR; omega))) fX2_isUsable qX5_116 dX5_find_8 KD_2 (by decide) ⟨Nat.zero_le _, Nat.zero_le _⟩ (Nat.le_of_ble_eq_true rfl) ?_
  refine r_ifne_b (tgt := 24) dX5_find_11 (by decide) (fun c_1 => ?_) (fun c_1 => ?_)
  · refine r_iload_n dX5_find_24 rfl (by rfl) ?_
    refine r_callS1 (ct_X5_isLetter _ (by first | omega | exact hs | exact ha | exact hx | (unfold inR; omega))) fX5_isLetter qX5_30 dX5_find_25 (by decide) ⟨Nat.zero_le _, Nat.zero_le _⟩ (Nat.le_of_ble_eq_true rfl) ?_
    refine r_ifeq_b (tgt := 38) dX5_find_28 (by decide) (fun c_2 => ?_) (fun c_2 => ?_)
    · exact r_thr (k := 1) (by unfold er_find; (repeat' split) <;> omega) (by decide) ⟨Nat.le_of_ble_eq_true rfl, Nat.le_of_ble_eq_true rfl⟩ (ta_mk tw_IA (is := 132) (text := "letter or value is out of range") (by decide +kernel) dX5_find_38 dX5_find_41 dX5_find_42 dX5_find_44 dX5_find_47)
    · refine r_iload_n dX5_find_31 rfl (by rfl) ?_
      refine r_callS1 (ct_X5_isValue _ (by first | omega | exact hs | exact ha | exact hx | (unfold inR; omega))) fX5_isValue qX5_129 dX5_find_32 (by decide) ⟨Nat.zero_le _, Nat.zero_le _⟩ (Nat.le_of_ble_eq_true rfl) ?_
      refine r_ifne_b (tgt := 48) dX5_find_35 (by decide) (fun c_3 => ?_) (fun c_3 => ?_)
      · refine r_aload_n dX5_find_48 rfl (by rfl) ?_
        refine r_get_r kX5_10 dX5_find_49 KD_0 (RHO_0_0 _) ?_
        refine r_iload_n dX5_find_52 rfl (by rfl) ?_
        refine r_iload_n dX5_find_53 rfl (by rfl) ?_
        refine r_iload_n dX5_find_54 rfl (by rfl) ?_
        refine r_callY3 (ct_X3_rowsWith hI _ (by first | omega | exact hs | exact ha | exact hx | (unfold inR; omega)) (by first | omega | exact hs | exact ha | exact hx | (unfold inR; omega)) _ (by first | omega | exact hs | exact ha | exact hx | (unfold inR; omega)) _ (by first | omega | exact hs | exact ha | exact hx | (unfold inR; omega))) fX3_rowsWith qX5_241 dX5_find_55 KD_1 (by decide) ⟨Nat.zero_le _, Nat.zero_le _⟩ (Nat.le_of_ble_eq_true rfl) (fun f_4 hf_4 => ?_)
        exact r_ret_if dX5_find_58 rfl ⟨Nat.zero_le _, Nat.zero_le _⟩ (by unfold er_find; (repeat' split) <;> omega) (by first | rfl | omega | (split <;> omega)) (by first | rfl | exact (sr_self _ _).symm)
      · exact r_thr (k := 1) (by unfold er_find; (repeat' split) <;> omega) (by decide) ⟨Nat.le_of_ble_eq_true rfl, Nat.le_of_ble_eq_true rfl⟩ (ta_mk tw_IA (is := 132) (text := "letter or value is out of range") (by decide +kernel) dX5_find_38 dX5_find_41 dX5_find_42 dX5_find_44 dX5_find_47)
  · exact r_thr (k := 3) (by unfold er_find; (repeat' split) <;> omega) (by decide) ⟨Nat.le_of_ble_eq_true rfl, Nat.le_of_ble_eq_true rfl⟩ (ta_mk tw_IO (is := 121) (text := "no such shape, or it is retired") (by decide +kernel) dX5_find_14 dX5_find_17 dX5_find_18 dX5_find_20 dX5_find_23)

set_option maxRecDepth 100000 in
set_option maxHeartbeats 4000000 in
theorem ct_X5_toGo {l : Launch} {G : GG} {π : Nat → Option Nat} {σ τ : ST} (hI : CI σ)  : Ct l G mX5_toGo (4, 0, 0) [.ref 0] 117 KD σ τ (RHO π) (KQ (some (.int (iI (slF σ (σ 10 0).toNat)))) 117 KD σ τ (RHO π)) := by
  refine ct_intro (own := "ShapedRows") rfl (by decide +kernel) (Nat.le_of_ble_eq_true rfl) (L := _) rfl ?_
  refine r_aload_n dX5_toGo_0 rfl (by rfl) ?_
  refine r_get_r kX5_10 dX5_toGo_1 KD_0 (RHO_0_0 _) ?_
  refine r_callV0 (ct_X3_stepsLeft hI) fX3_stepsLeft qX5_238 dX5_toGo_4 KD_1 (by decide) ⟨Nat.zero_le _, Nat.zero_le _⟩ (Nat.le_of_ble_eq_true rfl) ?_
  exact r_ret_i dX5_toGo_7 rfl ⟨Nat.zero_le _, Nat.zero_le _⟩ (by first | rfl | omega | (split <;> omega)) ⟨rfl, rfl, (by first | rfl | omega), rfl, rfl⟩

set_option maxRecDepth 100000 in
set_option maxHeartbeats 4000000 in
theorem ct_X5_firstError {l : Launch} {G : GG} {π : Nat → Option Nat} {σ τ : ST} (hT : TI σ)  : Ct l G mX5_firstError (3, 0, 0) [.ref 0] 117 KD σ τ (RHO π) (KQ (some (.int (iI (epF σ)))) 117 KD σ τ (RHO π)) := by
  refine ct_intro (own := "ShapedRows") rfl (by decide +kernel) (Nat.le_of_ble_eq_true rfl) (L := _) rfl ?_
  refine r_aload_n dX5_firstError_0 rfl (by rfl) ?_
  refine r_get_r kX5_26 dX5_firstError_1 KD_0 (RHO_0_2 _) ?_
  refine r_callV0 (ct_X4_errorPlace (by exact hT)) fX4_errorPlace qX5_180 dX5_firstError_4 KD_108 (by decide) ⟨Nat.zero_le _, Nat.zero_le _⟩ (Nat.le_of_ble_eq_true rfl) ?_
  exact r_ret_i dX5_firstError_7 rfl ⟨Nat.zero_le _, Nat.zero_le _⟩ (by first | rfl | omega | (split <;> omega)) ⟨rfl, rfl, (by first | rfl | omega), rfl, rfl⟩

set_option maxRecDepth 100000 in
set_option maxHeartbeats 4000000 in
theorem ct_X5_clearBuffer {l : Launch} {G : GG} {π : Nat → Option Nat} {σ τ : ST}  : Ct l G mX5_clearBuffer (1, 0, 0) [.ref 0] 117 KD σ τ (RHO π) (KQ (some (.int (iI (σ 108 1)))) 117 KD (up2 σ 108 1 0) τ (RHO π)) := by
  refine ct_intro (own := "ShapedRows") rfl (by decide +kernel) (Nat.le_of_ble_eq_true rfl) (L := _) rfl ?_
  refine r_aload_n dX5_clearBuffer_0 rfl (by rfl) ?_
  refine r_get_r kX5_26 dX5_clearBuffer_1 KD_0 (RHO_0_2 _) ?_
  refine r_callV0 ct_X4_clear fX4_clear qX5_177 dX5_clearBuffer_4 KD_108 (by decide) ⟨Nat.zero_le _, Nat.zero_le _⟩ (Nat.le_of_ble_eq_true rfl) ?_
  exact r_ret_i dX5_clearBuffer_7 rfl ⟨Nat.zero_le _, Nat.zero_le _⟩ (by first | rfl | omega | (split <;> omega)) ⟨rfl, rfl, (by first | rfl | omega), rfl, rfl⟩
