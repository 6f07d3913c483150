/-! what holds behind a call of both -/
theorem exN_off (c : ST) (a m : Int) {p : Nat} (hp : 16 ≤ p) : exN c a m p = c p := by
  unfold exN addLF comeF comeM come1
  simp (disch := omega) only [up2_off, cpR_off]
theorem exC_off (c : ST) (a b d : Int) {p : Nat} (hp : 16 ≤ p) : exC c a b d p = c p := by
  unfold exC addLF comeF comeM come1
  simp (disch := omega) only [up2_off, cpR_off]
theorem lvO_off (c : ST) (a m : Int) {p : Nat} (hp : 16 ≤ p) : lvO c a m p = c p := by
  unfold lvO gapF gapM comeF comeM come1
  simp (disch := omega) only [up2_off, cpR_off]
theorem xcL_off (c : ST) (a b : Int) {p : Nat} (hp : 16 ≤ p) : xcL c a b p = c p := by
  unfold xcL comeF comeM come1
  simp (disch := omega) only [up2_off, cpR_off]
theorem adR_off (c : ST) (s : Int) {p : Nat} (hp : 16 ≤ p) : adR c s p = c p := by
  unfold adR adRM
  simp (disch := omega) only [up2_off, cpR_off]
theorem tkF_off (c : ST) (g : Int) {p : Nat} (hp : 16 ≤ p) : tkF c g p = c p := by
  unfold tkF tkO
  try simp only []
  (repeat' split) <;> simp (disch := omega) only [up2_off, cpR_off]
theorem wrV_off (c : ST) (r s a v : Int) {p : Nat} (hp : 16 ≤ p) : wrV c r s a v p = c p := by
  unfold wrV rwV
  try simp only []
  (repeat' split) <;> simp (disch := omega) only [up2_off, cpR_off]
theorem cE_ne {x y z e : Int} (h : e ≠ 0) : cE x y z e ≠ 0 := by
  unfold cE
  rw [if_neg h]
  (repeat' split) <;> decide
theorem cE_in (x y z e : Int) : inR (cE x y z e) := by
  unfold cE inR
  (repeat' split) <;> omega
theorem cE_z {x y z e : Int} (h : e = 0) : cE x y z e = 0 := if_pos h
theorem TX_cg {σ μ : ST} (h : TX σ σ) (h1 : μ 108 1 = σ 108 1) (h2 : μ 109 = σ 109) (h3 : μ 113 = σ 113) (h5 : μ 110 5 = σ 110 5) : TX μ μ := by
  obtain ⟨⟨t0, t1⟩, t2, t3, t4⟩ := h
  refine ⟨⟨by rw [h1]; exact t0, fun k => by rw [h2]; exact t1 k⟩, by rw [h5, h1]; exact t2, fun k hk => ?_, fun k => by rw [h3]; exact t4 k⟩
  rw [h1] at hk
  rw [h3, h2]
  exact t3 k hk
/-- before the model's change: the class has changed already -/
theorem ch_pre {σ op : ST} {b : Nat → Nat} {f : Nat → Int} (hv : INV σ b) (ho : ∀ p, 16 ≤ p → op p = svF σ b p) : Rel (svF σ b) (sr op 15 f) ∧ 0 ≤ sr op 15 f 110 3 ∧ sr op 15 f 110 3 ≤ 6 := by
  obtain ⟨i1, i2, i3, i4, i5, i6, i7, i8⟩ := hv
  have e110 : sr op 15 f 110 = σ 110 := by rw [sr_off _ _ (by omega), ho 110 (by omega), svF_row i3 i5 (by omega)]
  have e111 : sr op 15 f 111 = σ 111 := by rw [sr_off _ _ (by omega), ho 111 (by omega), svF_row i3 i5 (by omega)]
  refine ⟨Rel_cgr i1 (fun q q2 q14 => svF_row i3 i5 (by omega)) (fun j _ => by rw [e111]), ?_, ?_⟩
  · rw [e110, i6]; exact i5.1
  · rw [e110, i6]; exact i5.2
theorem ch_post {σ op σ' : ST} {b : Nat → Nat} {f : Nat → Int} {e : Int} (hv : INV σ b) (ho : ∀ p, 16 ≤ p → op p = svF σ b p) (he : e = 0) (h : MU (sr op 15 f) e (Rel op) σ') : INV σ' (svB σ b) ∧ σ' 110 0 = 0 := by
  obtain ⟨hP, h0, hr, hk, hs, h3⟩ := h.2 he
  have hx : ∀ q, 108 ≤ q → sr op 15 f q = σ q := fun q hq => by rw [sr_off _ _ (by omega), ho q (by omega), svF_row hv.2.2.1 hv.2.2.2.2.1 (by omega)]
  obtain ⟨s1, s2⟩ := svM_cg (σ := σ) (μ := sr op 15 f) (by rw [hx 110 (by omega)]) (hx 111 (by omega)) (hx 112 (by omega))
  refine ⟨INV_ch hv ho hP (fun q q15 q110 _ _ => ?_) (hs.trans s1) (h3.trans s2) (TX_cg hv.2.1 ?_ ?_ ?_ ?_), h0⟩
  · rw [hr q (by omega) (by omega) (by omega) (by omega), sr_off _ _ q15]
  · rw [hr 108 (by omega) (by omega) (by omega) (by omega), hx 108 (by omega)]
  · rw [hr 109 (by omega) (by omega) (by omega) (by omega), hx 109 (by omega)]
  · rw [hr 113 (by omega) (by omega) (by omega) (by omega), hx 113 (by omega)]
  · rw [hk 5 (by omega) (by omega) (by omega), hx 110 (by omega)]
theorem lk_pre {σ σa : ST} {b : Nat → Nat} (hv : INV σ b) (ha : ∀ q, q ≠ 15 → σa q = σ q) : Rel σ σa := Rel_cgr hv.1 (fun _ _ _ => rfl) (fun j _ => by rw [ha 111 (by omega)])
theorem lk_post {σ σa σ' : ST} {b : Nat → Nat} {e : Int} (hv : INV σ b) (ha : ∀ q, q ≠ 15 → σa q = σ q) (h : LK σa e σ') : INV σ' b ∧ σ' 110 0 = e := by
  obtain ⟨h1, h2, h3⟩ := h
  refine ⟨INV_cg hv (fun q q15 q114 q110 => ?_) ?_ ?_, h2⟩
  · rw [h1 q q110 (by omega), ha q q15]
  · rw [h3 3 (by omega) (by omega), ha 110 (by omega)]
  · rw [h3 5 (by omega) (by omega), ha 110 (by omega)]
theorem no_post {σ σ' : ST} {b : Nat → Nat} {e : Int} {P : ST → Prop} (hv : INV σ b) (he : e ≠ 0) (h : MU σ e P σ') : INV σ' b ∧ σ' 110 0 = e := lk_post hv (fun _ _ => rfl) (h.1 he)
section Er75
variable {σ : ST} {b : Nat → Nat}
theorem svw_lo (hv : INV σ b) : ∀ p, p < 16 → svF σ b p = σ p := fun p hp => svF_row hv.2.2.1 hv.2.2.2.2.1 (Or.inl hp)
theorem sve_plc (hv : INV σ b) : plc (svF σ b) = plc σ := by
  have h := svw_lo hv
  funext s a
  unfold plc
  rw [h 9 (by omega), h 7 (by omega)]
theorem sve_pcl (hv : INV σ b) : pcl (svF σ b) = pcl σ := by
  have h := svw_lo hv
  funext s a
  unfold pcl
  rw [h 8 (by omega), h 7 (by omega)]
theorem sve_colL (hv : INV σ b) : colL (svF σ b) = colL σ := by
  have h := svw_lo hv
  funext s a
  unfold colL
  rw [sve_plc hv, h 8 (by omega)]
theorem sve_refu (hv : INV σ b) : refu (svF σ b) = refu σ := by
  have h := svw_lo hv
  funext r s a
  unfold refu
  rw [sve_pcl hv, sve_colL hv, h 11 (by omega)]
theorem sve_oldF (hv : INV σ b) : oldF (svF σ b) = oldF σ := by
  have h := svw_lo hv
  unfold oldF
  rw [h 14 (by omega), h 11 (by omega), h 2 (by omega), h 10 (by omega)]
theorem sve_addNumber (hv : INV σ b) (a m : Int) : er_addNumber (svF σ b) a m = er_addNumber σ a m := by
  have h := svw_lo hv
  unfold er_addNumber
  rw [sve_plc hv, h 2 (by omega)]
theorem sve_addCopy (hv : INV σ b) (a c e : Int) : er_addCopy (svF σ b) a c e = er_addCopy σ a c e := by
  have h := svw_lo hv
  unfold er_addCopy
  rw [sve_plc hv, h 2 (by omega)]
theorem sve_drop (hv : INV σ b) (a m : Int) : er_drop (svF σ b) a m = er_drop σ a m := by
  have h := svw_lo hv
  unfold er_drop
  rw [sve_plc hv, h 2 (by omega)]
theorem sve_rename (hv : INV σ b) (a c : Int) : er_rename (svF σ b) a c = er_rename σ a c := by
  have h := svw_lo hv
  unfold er_rename
  rw [sve_plc hv, h 2 (by omega)]
theorem sve_insert (hv : INV σ b) : er_insert (svF σ b)  = er_insert σ  := by
  have h := svw_lo hv
  unfold er_insert
  rw [h 10 (by omega)]
theorem sve_insertBy (hv : INV σ b) (s : Int) : er_insertBy (svF σ b) s = er_insertBy σ s := by
  have h := svw_lo hv
  unfold er_insertBy
  rw [h 10 (by omega), h 2 (by omega)]
theorem sve_hold (hv : INV σ b) (q s : Int) : er_hold (svF σ b) q s = er_hold σ q s := by
  have h := svw_lo hv
  unfold er_hold
  rw [h 2 (by omega)]
theorem sve_retire (hv : INV σ b) (s : Int) : er_retire (svF σ b) s = er_retire σ s := by
  have h := svw_lo hv
  unfold er_retire
  rw [sve_oldF hv, h 2 (by omega)]
theorem sve_goOn (hv : INV σ b) (n : Int) : er_goOn (svF σ b) n = er_goOn σ n := by
  rfl
theorem sve_write (hv : INV σ b) (r s a v : Int) : er_write (svF σ b) r s a v = er_write σ r s a v := by
  have h := svw_lo hv
  unfold er_write
  rw [sve_refu hv, h 2 (by omega), h 10 (by omega)]
theorem sve_remove (hv : INV σ b) (r : Int) : er_remove (svF σ b) r = er_remove σ r := by
  have h := svw_lo hv
  unfold er_remove
  rw [h 10 (by omega)]
end Er75
