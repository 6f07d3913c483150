/-! p31: memories that hold the same state: every look answers alike, every change keeps it so -/
def E (σ σ' : ST) : Prop := (∀ p, 2 ≤ p → p ≤ 14 → σ p = σ' p) ∧ σ 16 1 = σ' 16 1 ∧ σ 108 = σ' 108 ∧ σ 109 = σ' 109
theorem E.r2 {σ σ' : ST} (e : E σ σ') : σ 2 = σ' 2 := e.1 2 (by omega) (by omega)
theorem E.r3 {σ σ' : ST} (e : E σ σ') : σ 3 = σ' 3 := e.1 3 (by omega) (by omega)
theorem E.r4 {σ σ' : ST} (e : E σ σ') : σ 4 = σ' 4 := e.1 4 (by omega) (by omega)
theorem E.r5 {σ σ' : ST} (e : E σ σ') : σ 5 = σ' 5 := e.1 5 (by omega) (by omega)
theorem E.r6 {σ σ' : ST} (e : E σ σ') : σ 6 = σ' 6 := e.1 6 (by omega) (by omega)
theorem E.r7 {σ σ' : ST} (e : E σ σ') : σ 7 = σ' 7 := e.1 7 (by omega) (by omega)
theorem E.r8 {σ σ' : ST} (e : E σ σ') : σ 8 = σ' 8 := e.1 8 (by omega) (by omega)
theorem E.r9 {σ σ' : ST} (e : E σ σ') : σ 9 = σ' 9 := e.1 9 (by omega) (by omega)
theorem E.r10 {σ σ' : ST} (e : E σ σ') : σ 10 = σ' 10 := e.1 10 (by omega) (by omega)
theorem E.r11 {σ σ' : ST} (e : E σ σ') : σ 11 = σ' 11 := e.1 11 (by omega) (by omega)
theorem E.r12 {σ σ' : ST} (e : E σ σ') : σ 12 = σ' 12 := e.1 12 (by omega) (by omega)
theorem E.r13 {σ σ' : ST} (e : E σ σ') : σ 13 = σ' 13 := e.1 13 (by omega) (by omega)
theorem E.r14 {σ σ' : ST} (e : E σ σ') : σ 14 = σ' 14 := e.1 14 (by omega) (by omega)
theorem E.r16 {σ σ' : ST} (e : E σ σ') : σ 16 1 = σ' 16 1 := e.2.1
theorem E.r108 {σ σ' : ST} (e : E σ σ') : σ 108 = σ' 108 := e.2.2.1
theorem E.r109 {σ σ' : ST} (e : E σ σ') : σ 109 = σ' 109 := e.2.2.2
theorem E.rf (σ : ST) : E σ σ := ⟨fun _ _ _ => rfl, rfl, rfl, rfl⟩
theorem E.sy {σ σ' : ST} (e : E σ σ') : E σ' σ := ⟨fun p a b => (e.1 p a b).symm, e.r16.symm, e.r108.symm, e.r109.symm⟩
theorem E.tr {σ σ' σ'' : ST} (e : E σ σ') (f : E σ' σ'') : E σ σ'' := ⟨fun p a b => (e.1 p a b).trans (f.1 p a b), e.r16.trans f.r16, e.r108.trans f.r108, e.r109.trans f.r109⟩
theorem E_sr (σ : ST) (f : Nat → Int) : E (sr σ 15 f) σ := ⟨fun p a b => sr_off σ f (by omega), by rw [sr_off σ f (by decide)], sr_off σ f (by decide), sr_off σ f (by decide)⟩
section Same
variable {σ σ' : ST}
theorem plc_E (e : E σ σ') (s : Nat) (a : Int) : plc σ s a = plc σ' s a := by unfold plc; rw [e.r7, e.r9]
theorem pcl_E (e : E σ σ') (s : Nat) (a : Int) : pcl σ s a = pcl σ' s a := by unfold pcl; rw [e.r7, e.r8]
theorem colL_E (e : E σ σ') (s : Nat) (a : Int) : colL σ s a = colL σ' s a := by unfold colL; rw [plc_E e, e.r8]
theorem lmask_E (e : E σ σ') (s : Nat) : ∀ n, lmask σ s n = lmask σ' s n
  | 0 => rfl
  | n + 1 => by unfold lmask; rw [lmask_E e s n, plc_E e]
theorem cfS_E (e : E σ σ') (v : Nat → Int) (s : Nat) : cfS σ v s = cfS σ' v s := by unfold cfS; rw [e.r3, e.r4, e.r5, e.r6]
theorem cf_E (e : E σ σ') (v : Nat → Int) (a : Nat) : ∀ n, cf σ v a n = cf σ' v a n
  | 0 => rfl
  | n + 1 => by unfold cf; rw [cf_E e v a n, cfS_E e]
theorem cbS_E (e : E σ σ') (v : Nat → Int) (s : Nat) : cbS σ v s = cbS σ' v s := by unfold cbS; rw [e.r3, e.r4, e.r5]
theorem cb_E (e : E σ σ') (v : Nat → Int) (a : Nat) : ∀ n, cb σ v a n = cb σ' v a n
  | 0 => rfl
  | n + 1 => by unfold cb; rw [cb_E e v a n, cbS_E e]
theorem vR_E (e : E σ σ') (r s : Nat) : vR σ r s = vR σ' r s := by unfold vR; rw [e.r11, e.r13, cf_E e, cb_E e]
theorem vRd_E (e : E σ σ') (r s : Nat) (a : Int) : vRd σ r s a = vRd σ' r s a := by unfold vRd; rw [colL_E e, vR_E e]
theorem refu_E (e : E σ σ') (r s : Nat) (a : Int) : refu σ r s a = refu σ' r s a := by unfold refu; rw [colL_E e, pcl_E e, e.r11]
theorem sumV_E (e : E σ σ') (v : Nat → Int) (s : Nat) : ∀ n, sumV σ v s n = sumV σ' v s n
  | 0 => rfl
  | n + 1 => by unfold sumV; rw [sumV_E e v s n, e.r8]
theorem cntR_E (e : E σ σ') (s : Int) : ∀ n, cntR σ s n = cntR σ' s n
  | 0 => rfl
  | n + 1 => by unfold cntR; rw [cntR_E e s n, e.r11]
theorem cntH_E (e : E σ σ') (s : Int) : ∀ n, cntH σ s n = cntH σ' s n
  | 0 => rfl
  | n + 1 => by unfold cntH; rw [cntH_E e s n, e.r14]
theorem oldF_E (e : E σ σ') : oldF σ = oldF σ' := by unfold oldF; rw [e.r14, e.r11, e.r2, e.r10]
theorem wrap_E (e : E σ σ') (k : Int) : wrap σ k = wrap σ' k := by unfold wrap nrow; rw [e.r10]
theorem slF_E (e : E σ σ') : ∀ n, slF σ n = slF σ' n
  | 0 => rfl
  | n + 1 => by unfold slF; rw [slF_E e n, wrap_E e, e.r11, e.r2]
theorem lsV_E (e : E σ σ') (r s : Nat) : lsV σ r s = lsV σ' r s := by unfold lsV; rw [vR_E e, e.r11, cf_E e, cb_E e]
theorem lsC_E (e : E σ σ') (v : Nat → Int) (r : Nat) : ∀ n, lsC σ v r n = lsC σ' v r n
  | 0 => rfl
  | n + 1 => by unfold lsC; rw [lsC_E e v r n, e.r8, e.r11, e.r13]
theorem mskF_E (e : E σ σ') (s : Nat) (a x : Int) : ∀ n, mskF σ s a x n = mskF σ' s a x n
  | 0 => rfl
  | n + 1 => by unfold mskF; rw [mskF_E e s a x n, vRd_E e]
theorem shP_E (e : E σ σ') (s : Nat) (w : Int) : shP σ s w = shP σ' s w := by unfold shP; rw [e.r7, e.r3, cntR_E e, cntH_E e, lmask_E e, e.r2, e.r10]
theorem roP_E (e : E σ σ') (r : Nat) (w : Int) : roP σ r w = roP σ' r w := by unfold roP; rw [e.r11, e.r7, e.r2, e.r12]; simp only [sumV_E e, vR_E e]
theorem ctP_E (e : E σ σ') (w : Int) : ctP σ w = ctP σ' w := by unfold ctP; rw [e.r2, e.r10, cntR_E e, e.r7, oldF_E e, e.r16]
theorem frS_E (e : E σ σ') : frS σ = frS σ' := by unfold frS; rw [e.r10, e.r2, cntR_E e]
theorem csP_E (e : E σ σ') (s : Nat) (q w : Int) : csP σ s q w = csP σ' s q w := by unfold csP; rw [e.r7, e.r9, e.r8, e.r2, pcl_E e]
theorem cdF_E (e : E σ σ') (i : Int) : cdF σ i = cdF σ' i := by unfold cdF; rw [e.r108, e.r109]
theorem digC_E (e : E σ σ') (s : Nat) (h : Int) : ∀ n, digC σ s h n = digC σ' s h n
  | 0 => rfl
  | n + 1 => by unfold digC; simp only [digC_E e s h n, csP_E e]
theorem digS_E (e : E σ σ') (h : Int) : ∀ n, digS σ h n = digS σ' h n
  | 0 => rfl
  | n + 1 => by unfold digS; simp only [digS_E e h n, shP_E e, digC_E e, e.r7]
theorem digR_E (e : E σ σ') (r : Nat) (h : Int) : ∀ n, digR σ r h n = digR σ' r h n
  | 0 => by unfold digR; simp only [roP_E e]
  | n + 1 => by unfold digR; simp only [digR_E e r h n, vR_E e, lsV_E e, lsC_E e, e.r2, e.r7, e.r8, e.r11]
theorem digW_E (e : E σ σ') (h : Int) : ∀ n, digW σ h n = digW σ' h n
  | 0 => rfl
  | n + 1 => by unfold digW; simp only [digW_E e h n, digR_E e, e.r2]
theorem digT_E (e : E σ σ') (h : Int) : digT σ h = digT σ' h := by unfold digT; simp only [e.r108, cdF_E e]
theorem digF_E (e : E σ σ') : digF σ = digF σ' := by
  unfold digF
  simp only [digT_E e, ctP_E e, digS_E e, digW_E e, slF_E e, mskF_E e, frS_E e, e.r2, e.r10, e.r14]
theorem CI_E (e : E σ σ') (h : CI σ) : CI σ' := by
  unfold CI at h ⊢
  rw [← e.r2, ← e.r3, ← e.r4, ← e.r5, ← e.r6, ← e.r7, ← e.r8, ← e.r9, ← e.r10, ← e.r11, ← e.r13, ← e.r14]
  exact h
theorem SH_E (e : E σ σ') (h : SH σ) : SH σ' := SH_of h (by rw [e.r2]) (fun p a b => (e.1 p (by omega) (by omega)).symm)
theorem RW_E (e : E σ σ') (h : RW σ) : RW σ' := RW_of h (fun p hp => (e.1 p (by omega) (by omega)).symm) (by rw [e.r2]; exact Int.le_refl _) (by rw [e.r2]) (by rw [e.r10]) (by rw [e.r10])
theorem TI_E (e : E σ σ') (h : TI σ) : TI σ' := by
  unfold TI at h ⊢
  rw [← e.r108, ← e.r109]
  exact h
theorem up2_E (e : E σ σ') (p k : Nat) (v : Int) : E (up2 σ p k v) (up2 σ' p k v) := by
  have h : ∀ q, σ q = σ' q → up2 σ p k v q = up2 σ' p k v q := fun q hq => by funext b; unfold up2; rw [hq]
  refine ⟨fun q a b => h q (e.1 q a b), ?_, h _ e.r108, h _ e.r109⟩
  unfold up2
  rw [e.r16]
theorem cpR_E (e : E σ σ') (p lo n : Nat) (f : Nat → Int) : E (cpR σ p lo n f) (cpR σ' p lo n f) := by
  have h : ∀ q, σ q = σ' q → cpR σ p lo n f q = cpR σ' p lo n f q := fun q hq => by funext b; unfold cpR; rw [hq]
  refine ⟨fun q a b => h q (e.1 q a b), ?_, h _ e.r108, h _ e.r109⟩
  unfold cpR
  rw [e.r16]
theorem comeF_E (e : E σ σ') (ch : Int) : E (comeF σ ch) (comeF σ' ch) := by
  unfold comeF comeM come1
  rw [e.r2, e.r7, e.r8, e.r9]
  exact up2_E (cpR_E (cpR_E (up2_E (up2_E e _ _ _) _ _ _) _ _ _ _) _ _ _ _) _ _ _
theorem addLF_E (e : E σ σ') (s a : Int) : E (addLF σ s a) (addLF σ' s a) := by
  unfold addLF
  rw [e.r7]
  exact up2_E (up2_E (up2_E e _ _ _) _ _ _) _ _ _
theorem gapF_E (e : E σ σ') (s a : Int) : E (gapF σ s a) (gapF σ' s a) := by
  unfold gapF gapM
  rw [e.r7, e.r8, e.r9]
  exact up2_E (cpR_E (cpR_E e _ _ _ _) _ _ _ _) _ _ _
theorem exN_E (e : E σ σ') (a m : Int) : E (exN σ a m) (exN σ' a m) := by
  unfold exN
  rw [e.r2]
  exact addLF_E (up2_E (comeF_E e _) _ _ _) _ _
theorem exC_E (e : E σ σ') (a b c : Int) : E (exC σ a b c) (exC σ' a b c) := by
  unfold exC
  rw [e.r2, colL_E e, colL_E e]
  exact addLF_E (up2_E (up2_E (comeF_E e _) _ _ _) _ _ _) _ _
theorem lvO_E (e : E σ σ') (a m : Int) : E (lvO σ a m) (lvO σ' a m) := by
  unfold lvO
  rw [e.r2, e.r8, plc_E e]
  exact gapF_E (up2_E (up2_E (comeF_E e _) _ _ _) _ _ _) _ _
theorem xcL_E (e : E σ σ') (a b : Int) : E (xcL σ a b) (xcL σ' a b) := by
  unfold xcL
  rw [e.r2, plc_E e]
  exact up2_E (comeF_E e _) _ _ _
theorem adR_E (e : E σ σ') (s : Int) : E (adR σ s) (adR σ' s) := by
  unfold adR adRM
  rw [e.r10]
  exact up2_E (cpR_E (up2_E (up2_E e _ _ _) _ _ _) _ _ _ _) _ _ _
theorem rwV_E (e : E σ σ') (r s : Int) (v : Nat → Int) : E (rwV σ r s v) (rwV σ' r s v) := by
  unfold rwV
  rw [e.r10, e.r12]
  exact up2_E (up2_E (up2_E (cpR_E e _ _ _ _) _ _ _) _ _ _) _ _ _
theorem ite_E {c : Prop} [Decidable c] {μ μ' : ST} (e : E σ σ') (f : E μ μ') : E (if c then σ else μ) (if c then σ' else μ') := by
  split
  · exact e
  · exact f
theorem st1_E (e : E σ σ') : E (st1 σ) (st1 σ') := by
  unfold st1
  simp only []
  rw [e.r10, e.r11, e.r2]
  exact ite_E e (up2_E (ite_E (by rw [vR_E e]; exact rwV_E e _ _ _) e) _ _ _)
theorem wrV_E (e : E σ σ') (r s a v : Int) : E (wrV σ r s a v) (wrV σ' r s a v) := by
  unfold wrV
  simp only []
  rw [pcl_E e, colL_E e, vR_E e, e.r11]
  have q : E (if pcl σ' (σ' 11 r.toNat).toNat (colL σ' s.toNat a) ≠ -1 then σ else rwV σ r s (vR σ' r.toNat s.toNat)) (if pcl σ' (σ' 11 r.toNat).toNat (colL σ' s.toNat a) ≠ -1 then σ' else rwV σ' r s (vR σ' r.toNat s.toNat)) := ite_E e (rwV_E e _ _ _)
  rw [q.r10]
  exact up2_E (up2_E q _ _ _) _ _ _
theorem tkF_E (e : E σ σ') (g : Int) : E (tkF σ g) (tkF σ' g) := by
  unfold tkF tkO
  simp only []
  rw [e.r10, e.r11, e.r12, e.r13]
  have q := up2_E (cpR_E (cpR_E (cpR_E e 11 g.toNat (σ' 10 0 - 1 - g).toNat (fun j => σ' 11 (g.toNat + j + 1))) 12 g.toNat (σ' 10 0 - 1 - g).toNat (fun j => σ' 12 (g.toNat + j + 1))) 13 (12 * g.toNat) (12 * (σ' 10 0 - 1 - g).toNat) (fun j => σ' 13 (12 * g.toNat + j + 12))) 10 0 (σ' 10 0 - 1)
  exact ite_E (up2_E q _ _ _) q
end Same
theorem itS_E {σ σ' : ST} (e : E σ σ') : ∀ n, E (itS σ n) (itS σ' n)
  | 0 => e
  | n + 1 => st1_E (itS_E e n)
