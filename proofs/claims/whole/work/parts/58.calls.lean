/-! the model: its changes, in the words of the class -/
def MU (σ : ST) (e : Int) (P : ST → Prop) (σ' : ST) : Prop := (e ≠ 0 → LK σ e σ') ∧ (e = 0 → P σ' ∧ σ' 110 0 = 0 ∧ (∀ p, p ≠ 110 → p ≠ 111 → p ≠ 112 → p ≠ 114 → σ' p = σ p) ∧ (∀ k, k ≠ 0 → k ≠ 3 → k ≠ 7 → σ' 110 k = σ 110 k) ∧ σ' 112 = svM σ 112 ∧ σ' 110 3 = svM σ 110 3)
theorem svM_3 (σ : ST) : svM σ 110 3 = if σ 110 3 = 6 then 6 else σ 110 3 + 1 := by
  unfold svM
  by_cases h : σ 110 3 = 6
  · rw [if_pos h, if_pos h]; unfold svN; rw [up2_at, up2_at, h]; rfl
  · rw [if_neg h, if_neg h]; unfold svN; rw [up2_at]
theorem svM_k (σ : ST) {k : Nat} (h : k ≠ 3) : svM σ 110 k = σ 110 k := by
  unfold svM
  split
  · unfold svN shN; rw [up2_el _ _ _ h, cpR_off _ _ _ _ (by omega), up2_el _ _ _ h, cpR_off _ _ _ _ (by omega)]
  · unfold svN; rw [up2_el _ _ _ h, cpR_off _ _ _ _ (by omega)]
theorem svN_z (σ : ST) (k : Nat) : svN (up2 σ 110 0 0) 112 k = svN σ 112 k := by
  have e3 : up2 σ 110 0 0 110 3 = σ 110 3 := up2_no _ (by omega)
  unfold svN
  rw [up2_no _ (show ¬ ((112 : Nat) = 110 ∧ k = 3) by omega), up2_no _ (show ¬ ((112 : Nat) = 110 ∧ k = 3) by omega), e3]
  unfold cpR
  split
  · exact up2_no _ (by omega)
  · exact up2_no _ (by omega)
theorem svM_z (σ : ST) : svM (up2 σ 110 0 0) 112 = svM σ 112 ∧ svM (up2 σ 110 0 0) 110 3 = svM σ 110 3 := by
  have e3 : up2 σ 110 0 0 110 3 = σ 110 3 := up2_no _ (by omega)
  constructor
  · funext k
    unfold svM
    rw [e3]
    by_cases h : σ 110 3 = 6
    · rw [if_pos h, if_pos h]
      have e : up2 (shN (up2 σ 110 0 0) 1850) 110 3 (σ 110 3 - 1) = up2 (up2 (shN σ 1850) 110 3 (σ 110 3 - 1)) 110 0 0 := by
        funext a b
        unfold shN
        by_cases h1 : a = 110 ∧ b = 3
        · rw [h1.1, h1.2, up2_at, up2_no _ (by omega), up2_at]
        · rw [up2_no _ h1]
          by_cases h2 : a = 110 ∧ b = 0
          · rw [h2.1, h2.2, up2_at, cpR_no _ (by omega), up2_at]
          · rw [up2_no _ h2, up2_no _ h1]
            by_cases h3 : a = 112 ∧ 0 ≤ b ∧ b < 0 + 1850
            · rw [h3.1, cpR_yes _ h3.2, cpR_yes _ h3.2]
              exact up2_no _ (by omega)
            · rw [cpR_no _ h3, cpR_no _ h3, up2_no _ h2]
      rw [e, svN_z]
    · rw [if_neg h, if_neg h, svN_z]
  · rw [svM_3, svM_3, e3]
theorem MU_no {σ σ' : ST} {e : Int} {P : ST → Prop} (he : e ≠ 0) (h : LK σ e σ') : MU σ e P σ' := ⟨fun _ => h, fun z => absurd z he⟩
theorem MU_sc {σ σ' : ST} {e : Int} {P : ST → Prop} (he : e = 0) (h : ∀ p, p ≠ 110 → p ≠ 111 → p ≠ 114 → σ' p = svM (up2 σ 110 0 0) p) (h7 : ∀ k, k ≠ 7 → σ' 110 k = svM (up2 σ 110 0 0) 110 k) (hP : P σ') : MU σ e P σ' := by
  subst he
  refine ⟨fun z => absurd rfl z, fun _ => ⟨hP, ?_, fun p p0 p1 p2 p3 => ?_, fun k k0 k3 k7 => ?_, ?_, ?_⟩⟩
  · rw [h7 0 (by omega), svM_k _ (by omega), up2_at]
  · rw [h p p0 p1 p3, svM_r _ ⟨p0, p2⟩, up2_off _ p0]
  · rw [h7 k k7, svM_k _ k3, up2_el _ _ _ k0]
  · rw [h 112 (by omega) (by omega) (by omega), (svM_z σ).1]
  · rw [h7 3 (by omega), (svM_z σ).2]
theorem MU_sv {σ σ' : ST} {e : Int} {P : ST → Prop} (he : e = 0) (h : ∀ p, p ≠ 111 → σ' p = svM (up2 σ 110 0 0) p) (hP : P σ') : MU σ e P σ' := MU_sc he (fun p _ p1 _ => h p p1) (fun k _ => by rw [h 110 (by omega)]) hP
theorem ly_r (σ : ST) (s w v : Int) {p : Nat} (h : p ≠ 111) : lyM σ s w v p = σ p := by unfold lyM; rw [up2_off _ h]
theorem lo_r (σ : ST) (s w v : Int) {p : Nat} (h : p ≠ 111) : loM σ s w v p = σ p := by unfold loM; rw [up2_off _ h]
theorem cm_r (σ : ST) (a b d : Int) {p : Nat} (h : p ≠ 111) : cmM σ a b d p = σ p := by unfold cmM cyM; rw [up2_off _ h, ly_r _ _ _ _ h, ly_r _ _ _ _ h, ly_r _ _ _ _ h, cpR_off _ _ _ _ h]
theorem gc_r (σ : ST) (a : Int) {p : Nat} (h : p ≠ 111) : gcM σ a p = σ p := by unfold gcM; rw [ly_r _ _ _ _ h, ly_r _ _ _ _ h, ly_r _ _ _ _ h]
theorem an_r (σ : ST) (a m : Int) {p : Nat} (h : p ≠ 111) : anM σ a m p = σ p := by unfold anM; rw [gc_r _ _ h, cm_r _ _ _ _ h]
theorem ac_r (σ : ST) (a b d : Int) {p : Nat} (h : p ≠ 111) : acM σ a b d p = σ p := by unfold acM; rw [gc_r _ _ h, cm_r _ _ _ _ h]
theorem rn_r (σ : ST) (a b : Int) {p : Nat} (h : p ≠ 111) : rnM σ a b p = σ p := by unfold rnM; rw [ly_r _ _ _ _ h, cm_r _ _ _ _ h]
theorem dp_r (σ : ST) (a m : Int) {p : Nat} (h : p ≠ 111) : dpM σ a m p = σ p := by
  unfold dpM dpL
  try dsimp only
  rw [ly_r _ _ _ _ h, ly_r _ _ _ _ h, ly_r _ _ _ _ h, cpR_off _ _ _ _ h, cpR_off _ _ _ _ h, cm_r _ _ _ _ h]
theorem in_r (σ : ST) (s : Int) {p : Nat} (h : p ≠ 111) : inF σ s p = σ p := by unfold inF inM; rw [up2_off _ h, lo_r _ _ _ _ h, cpR_off _ _ _ _ h]
theorem rm_r (σ : ST) (g : Int) {p : Nat} (h : p ≠ 111) : rmM σ g p = σ p := by unfold rmM; rw [up2_off _ h, up2_off _ h, cpR_off _ _ _ _ h, cpR_off _ _ _ _ h]
theorem rz_r (σ : ST) (r s : Int) (f : Nat → Int) {p : Nat} (h : p ≠ 111) : rzM σ r s f p = σ p := by unfold rzM; rw [up2_off _ h, lo_r _ _ _ _ h, lo_r _ _ _ _ h, cpR_off _ _ _ _ h]
theorem Rel.wi {c σ : ST} (h : Rel c σ) : ∀ a : Int, 0 ≤ a → a < 8 → plM σ (σ 111 0 - 1) a = -1 → gM σ (σ 111 0 - 1) 0 < 8 := fun a a0 a1 hp => by
  have hs := h.ci.sz
  have hn := h.nm
  rw [hn.1] at hp ⊢
  rw [pl_eq h (s := c 2 0 - 1) (by omega) (by omega)] at hp
  rw [(wd_eq h (s := c 2 0 - 1) (by omega) (by omega)).1]
  exact WI_of h.ci h.li a a0 a1 hp
theorem rfN {c σ : ST} (h : Rel c σ) (a m : Int) : rf_refusesNumber σ a m = cE 1 2 9 (er_addNumber c a m) := by
  have hs := h.ci.sz
  have hn := h.nm
  unfold rf_refusesNumber
  rw [hn.1, pl_eq h (s := c 2 0 - 1) (by omega) (by omega)]
  rcases (show er_addNumber c a m = 0 ∨ er_addNumber c a m = 1 ∨ er_addNumber c a m = 2 by unfold er_addNumber; (repeat' split) <;> omega) with e | e | e
  all_goals
    rw [e]
    unfold er_addNumber at e
    show _ = (_ : Int)
    (repeat' split at e) <;> first | omega | (rw [if_pos (by omega)]; rfl) | (rw [if_neg (by omega), if_pos (by omega)]; rfl) | (rw [if_neg (by omega), if_neg (by omega)]; rfl)
theorem rfC {c σ : ST} (h : Rel c σ) (a b d : Int) : rf_refusesCopy σ a b d = cE 1 2 9 (er_addCopy c a b d) := by
  have hs := h.ci.sz
  have hn := h.nm
  unfold rf_refusesCopy
  rw [hn.1, pl_eq h (s := c 2 0 - 1) (by omega) (by omega), pl_eq h (s := c 2 0 - 1) (by omega) (by omega), pl_eq h (s := c 2 0 - 1) (by omega) (by omega)]
  rcases (show er_addCopy c a b d = 0 ∨ er_addCopy c a b d = 1 ∨ er_addCopy c a b d = 2 by unfold er_addCopy; (repeat' split) <;> omega) with e | e | e
  all_goals
    rw [e]
    unfold er_addCopy at e
    show _ = (_ : Int)
    (repeat' split at e) <;> first | omega | (rw [if_pos (by omega)]; rfl) | (rw [if_neg (by omega), if_pos (by omega)]; rfl) | (rw [if_neg (by omega), if_neg (by omega)]; rfl)
theorem rfD {c σ : ST} (h : Rel c σ) (a m : Int) : rf_refusesDrop σ a m = cE 1 2 9 (er_drop c a m) := by
  have hs := h.ci.sz
  have hn := h.nm
  unfold rf_refusesDrop
  rw [hn.1, pl_eq h (s := c 2 0 - 1) (by omega) (by omega)]
  rcases (show er_drop c a m = 0 ∨ er_drop c a m = 1 ∨ er_drop c a m = 2 by unfold er_drop; (repeat' split) <;> omega) with e | e | e
  all_goals
    rw [e]
    unfold er_drop at e
    show _ = (_ : Int)
    (repeat' split at e) <;> first | omega | (rw [if_pos (by omega)]; rfl) | (rw [if_neg (by omega), if_pos (by omega)]; rfl) | (rw [if_neg (by omega), if_neg (by omega)]; rfl)
theorem rfR {c σ : ST} (h : Rel c σ) (a b : Int) : rf_refusesRename σ a b = cE 1 2 9 (er_rename c a b) := by
  have hs := h.ci.sz
  have hn := h.nm
  unfold rf_refusesRename
  rw [hn.1, pl_eq h (s := c 2 0 - 1) (by omega) (by omega), pl_eq h (s := c 2 0 - 1) (by omega) (by omega)]
  rcases (show er_rename c a b = 0 ∨ er_rename c a b = 1 ∨ er_rename c a b = 2 by unfold er_rename; (repeat' split) <;> omega) with e | e | e
  all_goals
    rw [e]
    unfold er_rename at e
    show _ = (_ : Int)
    (repeat' split at e) <;> first | omega | (rw [if_pos (by omega)]; rfl) | (rw [if_neg (by omega), if_pos (by omega)]; rfl) | (rw [if_neg (by omega), if_neg (by omega)]; rfl)
theorem cE_0 {x y z e : Int} : cE x y z e = 0 ↔ e = 0 := by
  unfold cE
  (repeat' split) <;> omega
theorem LK_e {σ : ST} {e : Int} : LK σ e (up2 σ 110 0 e) := ⟨fun p h1 _ => up2_off _ h1, up2_at _ _ _ _, fun k h1 _ => up2_el _ _ _ h1⟩
theorem LK_ff {σ : ST} {e v : Int} (h : e = v) : LK σ e (up2 (up2 σ 110 0 0) 110 0 v) := LK_f h
theorem Rel_sv {c σ : ST} (h : Rel c σ) : Rel c (svM (up2 σ 110 0 0)) := Rel_cg (sv1 σ 0) h
theorem ct_X6_addNumberR {l : Launch} {G : GG} {π : Nat → Option Nat} {σ τ : ST} (c : ST) (hR : Rel c σ) (hn0 : 0 ≤ σ 110 3) (hn1 : σ 110 3 ≤ 6) (a : Int) (ha : inR a) (m : Int) (hm : inR m) : Ct l G mX6_addNumber (4, 0, 0) [.ref 110, .int (iI a), .int (iI m)] 117 KD σ τ (RHO π) (KG (some (.int (iI (if er_addNumber c a m = 0 then c 2 0 else 0)))) (MU σ (cE 1 2 9 (er_addNumber c a m)) (Rel (exN c a m))) τ π) := by
  have hn := hR.nm
  have k := ct_X6_addNumber (l := l) (G := G) (π := π) (τ := τ) hR.mj hn0 hn1 hR.wi a ha m hm
  rw [rfN hR] at k
  by_cases e : er_addNumber c a m = 0
  · have e0 : cE 1 2 9 (er_addNumber c a m) = 0 := cE_0.mpr e
    have hh : (0 ≤ a ∧ a < 8) ∧ (0 ≤ m ∧ m ≤ 99) ∧ c 2 0 < 12 ∧ plc c (c 2 0 - 1).toNat a = -1 := by
      unfold er_addNumber at e
      (repeat' split at e) <;> omega
    have r := Rel_exN (Rel_sv hR) hh.2.2.1 hh.1 hh.2.1 hh.2.2.2
    rw [if_pos e0, if_pos e0, show anM (svM (up2 σ 110 0 0)) a m 111 0 - 1 = c 2 0 by rw [r.nm.1]; unfold exN; rw [addL_q (by omega), up2_no _ (by omega), comeF_20]; omega] at k
    rw [if_pos e]
    exact Ct.mono (KG_of_KQ (MU_sv e0 (fun p hp => an_r _ _ _ hp) r)) k
  · have e0 : ¬ cE 1 2 9 (er_addNumber c a m) = 0 := fun z => e (cE_0.mp z)
    rw [if_neg e0, if_neg e0] at k
    rw [if_neg e]
    exact Ct.mono (KG_of_KQ (MU_no e0 LK_e)) k
theorem ct_X6_addCopyR {l : Launch} {G : GG} {π : Nat → Option Nat} {σ τ : ST} (c : ST) (hR : Rel c σ) (hn0 : 0 ≤ σ 110 3) (hn1 : σ 110 3 ≤ 6) (a : Int) (ha : inR a) (b : Int) (hb : inR b) (d : Int) (hd : inR d) : Ct l G mX6_addCopy (4, 0, 0) [.ref 110, .int (iI a), .int (iI b), .int (iI d)] 117 KD σ τ (RHO π) (KG (some (.int (iI (if er_addCopy c a b d = 0 then c 2 0 else 0)))) (MU σ (cE 1 2 9 (er_addCopy c a b d)) (Rel (exC c a b d))) τ π) := by
  have hn := hR.nm
  have k := ct_X6_addCopy (l := l) (G := G) (π := π) (τ := τ) hR.mj hn0 hn1 hR.wi a ha b hb d hd
  rw [rfC hR] at k
  by_cases e : er_addCopy c a b d = 0
  · have e0 : cE 1 2 9 (er_addCopy c a b d) = 0 := cE_0.mpr e
    have hh : (0 ≤ a ∧ a < 8) ∧ (-1 ≤ d ∧ d < 8) ∧ c 2 0 < 12 ∧ plc c (c 2 0 - 1).toNat a = -1 ∧ plc c (c 2 0 - 1).toNat b ≠ -1 ∧ (d = -1 ∨ plc c (c 2 0 - 1).toNat d ≠ -1) := by
      unfold er_addCopy at e
      (repeat' split at e) <;> omega
    have r := Rel_exC (Rel_sv hR) hh.2.2.1 hh.1 hh.2.2.2.1 hh.2.2.2.2.1 hh.2.2.2.2.2 hh.2.1
    rw [if_pos e0, if_pos e0, show acM (svM (up2 σ 110 0 0)) a b d 111 0 - 1 = c 2 0 by rw [r.nm.1]; unfold exC; rw [addL_q (by omega), up2_no _ (by omega), up2_no _ (by omega), comeF_20]; omega] at k
    rw [if_pos e]
    exact Ct.mono (KG_of_KQ (MU_sv e0 (fun p hp => ac_r _ _ _ _ hp) r)) k
  · have e0 : ¬ cE 1 2 9 (er_addCopy c a b d) = 0 := fun z => e (cE_0.mp z)
    rw [if_neg e0, if_neg e0] at k
    rw [if_neg e]
    exact Ct.mono (KG_of_KQ (MU_no e0 LK_e)) k
theorem ct_X6_dropR {l : Launch} {G : GG} {π : Nat → Option Nat} {σ τ : ST} (c : ST) (hR : Rel c σ) (hn0 : 0 ≤ σ 110 3) (hn1 : σ 110 3 ≤ 6) (a : Int) (ha : inR a) (m : Int) (hm : inR m) : Ct l G mX6_drop (4, 0, 0) [.ref 110, .int (iI a), .int (iI m)] 117 KD σ τ (RHO π) (KG (some (.int (iI (if er_drop c a m = 0 then c 2 0 else 0)))) (MU σ (cE 1 2 9 (er_drop c a m)) (Rel (lvO c a m))) τ π) := by
  have hn := hR.nm
  have k := ct_X6_drop (l := l) (G := G) (π := π) (τ := τ) hR.mj hn0 hn1 a ha m hm
  rw [rfD hR] at k
  by_cases e : er_drop c a m = 0
  · have e0 : cE 1 2 9 (er_drop c a m) = 0 := cE_0.mpr e
    have hh : (0 ≤ m ∧ m ≤ 99) ∧ c 2 0 < 12 ∧ plc c (c 2 0 - 1).toNat a ≠ -1 := by
      unfold er_drop at e
      (repeat' split at e) <;> omega
    have r := Rel_lvO (Rel_sv hR) hh.2.1 hh.1 hh.2.2
    rw [if_pos e0, if_pos e0, show dpM (svM (up2 σ 110 0 0)) a m 111 0 - 1 = c 2 0 by rw [r.nm.1]; unfold lvO; rw [gap_q (by omega), up2_no _ (by omega), up2_no _ (by omega), comeF_20]; omega] at k
    rw [if_pos e]
    exact Ct.mono (KG_of_KQ (MU_sv e0 (fun p hp => dp_r _ _ _ hp) r)) k
  · have e0 : ¬ cE 1 2 9 (er_drop c a m) = 0 := fun z => e (cE_0.mp z)
    rw [if_neg e0, if_neg e0] at k
    rw [if_neg e]
    exact Ct.mono (KG_of_KQ (MU_no e0 LK_e)) k
theorem ct_X6_renameR {l : Launch} {G : GG} {π : Nat → Option Nat} {σ τ : ST} (c : ST) (hR : Rel c σ) (hn0 : 0 ≤ σ 110 3) (hn1 : σ 110 3 ≤ 6) (a : Int) (ha : inR a) (b : Int) (hb : inR b) : Ct l G mX6_rename (4, 0, 0) [.ref 110, .int (iI a), .int (iI b)] 117 KD σ τ (RHO π) (KG (some (.int (iI (if er_rename c a b = 0 then c 2 0 else 0)))) (MU σ (cE 1 2 9 (er_rename c a b)) (Rel (xcL c a b))) τ π) := by
  have hn := hR.nm
  have k := ct_X6_rename (l := l) (G := G) (π := π) (τ := τ) hR.mj hn0 hn1 a ha b hb
  rw [rfR hR] at k
  by_cases e : er_rename c a b = 0
  · have e0 : cE 1 2 9 (er_rename c a b) = 0 := cE_0.mpr e
    have hh : (0 ≤ b ∧ b < 8) ∧ c 2 0 < 12 ∧ plc c (c 2 0 - 1).toNat a ≠ -1 ∧ plc c (c 2 0 - 1).toNat b = -1 := by
      unfold er_rename at e
      (repeat' split at e) <;> omega
    have r := Rel_xcL (Rel_sv hR) hh.2.1 hh.1 hh.2.2.1 hh.2.2.2
    rw [if_pos e0, if_pos e0, show rnM (svM (up2 σ 110 0 0)) a b 111 0 - 1 = c 2 0 by rw [r.nm.1]; unfold xcL; rw [up2_no _ (by omega), comeF_20]; omega] at k
    rw [if_pos e]
    exact Ct.mono (KG_of_KQ (MU_sv e0 (fun p hp => rn_r _ _ _ hp) r)) k
  · have e0 : ¬ cE 1 2 9 (er_rename c a b) = 0 := fun z => e (cE_0.mp z)
    rw [if_neg e0, if_neg e0] at k
    rw [if_neg e]
    exact Ct.mono (KG_of_KQ (MU_no e0 LK_e)) k
theorem ct_X6_insertR {l : Launch} {G : GG} {π : Nat → Option Nat} {σ τ : ST} (c : ST) (hR : Rel c σ) (hn0 : 0 ≤ σ 110 3) (hn1 : σ 110 3 ≤ 6) : Ct l G mX6_insert (2, 0, 0) [.ref 110] 117 KD σ τ (RHO π) (KG (some (.int (iI (if er_insert c = 0 then c 10 0 else 0)))) (MU σ (cE 2 9 9 (er_insert c)) (Rel (adR c (c 2 0 - 1)))) τ π) := by
  have hn := hR.nm
  have hs := hR.ci.sz
  have hr := hR.ci.ro
  have k := ct_X6_insert (l := l) (G := G) (π := π) (τ := τ) hR.mj hn0 hn1
  rw [hn.1, hn.2.2.1] at k
  by_cases e : c 10 0 < 12
  · have e1 : er_insert c = 0 := by unfold er_insert; rw [if_pos e]
    have r := Rel_ins (Rel_sv hR) e (s := c 2 0 - 1) (by omega) (by omega)
    rw [if_neg (by omega), if_neg (by omega), show inF (svM (up2 σ 110 0 0)) (c 2 0 - 1) 111 2 - 1 = c 10 0 by rw [r.nm.2.2.1]; unfold adR; rw [up2_at]; omega] at k
    rw [e1, if_pos rfl]
    exact Ct.mono (KG_of_KQ (MU_sv rfl (fun p hp => in_r _ _ hp) r)) k
  · have e1 : er_insert c = 2 := by unfold er_insert; rw [if_neg e]
    rw [if_pos (by omega), if_pos (by omega)] at k
    rw [e1, if_neg (by decide)]
    exact Ct.mono (KG_of_KQ (MU_no (by decide) (LK_f rfl))) k
theorem ct_X6_insertByR {l : Launch} {G : GG} {π : Nat → Option Nat} {σ τ : ST} (c : ST) (hR : Rel c σ) (hn0 : 0 ≤ σ 110 3) (hn1 : σ 110 3 ≤ 6) (s : Int) (hs : inR s) : Ct l G mX6_insertBy (2, 0, 0) [.ref 110, .int (iI s)] 117 KD σ τ (RHO π) (KG (some (.int (iI (if er_insertBy c s = 0 then c 10 0 else 0)))) (MU σ (cE 3 2 9 (er_insertBy c s)) (Rel (adR c s))) τ π) := by
  have hn := hR.nm
  have hz := hR.ci.sz
  have hr := hR.ci.ro
  have hm := hR.ci.mk
  have k := ct_X6_insertBy (l := l) (G := G) (π := π) (τ := τ) hR.mj hn0 hn1 s hs
  rw [hn.1, hn.2.1, hn.2.2.1] at k
  by_cases u : c 2 1 ≤ s ∧ s < c 2 0
  · have u2 : ¬ ¬ (c 2 1 ≤ s ∧ s ≤ c 2 0 - 1) := by omega
    rw [if_neg u2, if_neg u2] at k
    by_cases e : c 10 0 < 12
    · have e1 : er_insertBy c s = 0 := by unfold er_insertBy; rw [if_pos u, if_pos e]
      have r := Rel_ins (Rel_sv hR) e (s := s) (by omega) (by omega)
      have e2 : ¬ c 10 0 = 12 := by omega
      rw [if_neg e2, if_neg e2, show inF (svM (up2 σ 110 0 0)) s 111 2 - 1 = c 10 0 by rw [r.nm.2.2.1]; unfold adR; rw [up2_at]; omega] at k
      rw [e1, if_pos rfl]
      exact Ct.mono (KG_of_KQ (MU_sv rfl (fun p hp => in_r _ _ hp) r)) k
    · have e1 : er_insertBy c s = 2 := by unfold er_insertBy; rw [if_pos u, if_neg e]
      have e2 : c 10 0 = 12 := by omega
      rw [if_pos e2, if_pos e2] at k
      rw [e1, if_neg (by decide)]
      exact Ct.mono (KG_of_KQ (MU_no (by decide) (LK_f rfl))) k
  · have e1 : er_insertBy c s = 3 := by unfold er_insertBy; rw [if_neg u]
    have u2 : ¬ (c 2 1 ≤ s ∧ s ≤ c 2 0 - 1) := by omega
    rw [if_pos u2, if_pos u2] at k
    rw [e1, if_neg (by decide)]
    exact Ct.mono (KG_of_KQ (MU_no (by decide) (LK_f rfl))) k
theorem ct_X6_holdR {l : Launch} {G : GG} {π : Nat → Option Nat} {σ τ : ST} (c : ST) (hR : Rel c σ) (hn0 : 0 ≤ σ 110 3) (hn1 : σ 110 3 ≤ 6) (q : Int) (hq : inR q) (s : Int) (hs : inR s) : Ct l G mX6_hold (2, 0, 0) [.ref 110, .int (iI q), .int (iI s)] 117 KD σ τ (RHO π) (KG (some (.int (iI (if er_hold c q s = 0 then c 14 q.toNat else 0)))) (MU σ (cE 3 9 9 (er_hold c q s)) (Rel (up2 c 14 q.toNat s))) τ π) := by
  have hn := hR.nm
  have hz := hR.ci.sz
  have hm := hR.ci.mk
  have k := ct_X6_hold (l := l) (G := G) (π := π) (τ := τ) hR.mj hn0 hn1 q hq s hs
  rw [hn.1, hn.2.1] at k
  by_cases u : (0 ≤ q ∧ q < 4) ∧ c 2 1 ≤ s ∧ s < c 2 0
  · have e1 : er_hold c q s = 0 := by unfold er_hold; rw [if_pos u]
    have r := Rel_hold (Rel_sv hR) u.1.1 u.1.2 (x := s) (by omega) (by omega)
    have e := hR.he q.toNat (by omega)
    rw [show 6 + q.toNat = (6 + q).toNat by omega] at e
    rw [if_neg (by omega), if_neg (by omega), e] at k
    rw [e1, if_pos rfl]
    exact Ct.mono (KG_of_KQ (MU_sv rfl (fun p hp => up2_off _ hp) r)) k
  · have e1 : er_hold c q s = 3 := by unfold er_hold; rw [if_neg u]
    rw [if_pos (by omega), if_pos (by omega)] at k
    rw [e1, if_neg (by decide)]
    exact Ct.mono (KG_of_KQ (MU_no (by decide) (LK_f rfl))) k
theorem ct_X6_retireR {l : Launch} {G : GG} {π : Nat → Option Nat} {σ τ : ST} (c : ST) (hR : Rel c σ) (hn0 : 0 ≤ σ 110 3) (hn1 : σ 110 3 ≤ 6) (s : Int) (hs : inR s) : Ct l G mX6_retire (2, 0, 0) [.ref 110, .int (iI s)] 117 KD σ τ (RHO π) (KG (some (.int (iI (if er_retire c s = 0 then c 2 0 - s else 0)))) (MU σ (cE 3 2 9 (er_retire c s)) (Rel (up2 c 2 1 s))) τ π) := by
  have hn := hR.nm
  have hz := hR.ci.sz
  have hm := hR.ci.mk
  have k := ct_X6_retire (l := l) (G := G) (π := π) (τ := τ) hR.mj hn0 hn1 s hs
  rw [hn.1, hn.2.1, ol_eq hR] at k
  by_cases u : c 2 1 ≤ s ∧ s < c 2 0
  · have u2 : ¬ ¬ (c 2 1 ≤ s ∧ s ≤ c 2 0 - 1) := by omega
    rw [if_neg u2, if_neg u2] at k
    by_cases e : s ≤ oldF c
    · have e1 : er_retire c s = 0 := by unfold er_retire; rw [if_pos u, if_pos e]
      have r := Rel_mark (Rel_sv hR) (x := s) (by omega)
      have e2 : ¬ oldF c < s := by omega
      rw [if_neg e2, if_neg e2] at k
      rw [e1, if_pos rfl]
      exact Ct.mono (KG_of_KQ (MU_sv rfl (fun p hp => up2_off _ hp) r)) k
    · have e1 : er_retire c s = 2 := by unfold er_retire; rw [if_pos u, if_neg e]
      have e2 : oldF c < s := by omega
      rw [if_pos e2, if_pos e2] at k
      rw [e1, if_neg (by decide)]
      exact Ct.mono (KG_of_KQ (MU_no (by decide) (LK_f rfl))) k
  · have e1 : er_retire c s = 3 := by unfold er_retire; rw [if_neg u]
    have u2 : ¬ (c 2 1 ≤ s ∧ s ≤ c 2 0 - 1) := by omega
    rw [if_pos u2, if_pos u2] at k
    rw [e1, if_neg (by decide)]
    exact Ct.mono (KG_of_KQ (MU_no (by decide) (LK_f rfl))) k
