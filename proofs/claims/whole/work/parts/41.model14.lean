/-! the model: values go from a shape to a shape -/
theorem gvM_1 (σ : ST) (s : Int) : gvM σ s 111 = σ 111 := by
  unfold gvM
  (repeat' split) <;> simp (disch := decide) only [up2_off, cpR_off]
theorem gbM_1 (σ : ST) (s : Int) : gbM σ s 111 = σ 111 := by
  unfold gbM bkR
  (repeat' split) <;> simp (disch := decide) only [up2_off, cpR_off]
def gvI (σ : ST) (a : Int) : Nat → ST
  | 0 => σ
  | n + 1 => gvM (gvI σ a n) (a + (n : Int) + 1)
def gbI (σ : ST) (a : Int) : Nat → ST
  | 0 => σ
  | n + 1 => gbM (gbI σ a n) (a - (n : Int))
theorem gvI_1 (σ : ST) (a : Int) : ∀ n, gvI σ a n 111 = σ 111
  | 0 => rfl
  | n + 1 => by unfold gvI; rw [gvM_1, gvI_1 σ a n]
theorem gbI_1 (σ : ST) (a : Int) : ∀ n, gbI σ a n 111 = σ 111
  | 0 => rfl
  | n + 1 => by unfold gbI; rw [gbM_1, gbI_1 σ a n]
def okW (σ : ST) (s : Int) : Prop := 0 ≤ σ 110 7 ∧ (gM σ s 17 = 4 → σ 110 7 < 10 ∧ gM σ s 18 ≤ σ 110 7)
def goM (σ : ST) (a b : Int) : ST := gbI (gvI σ a (b - a).toNat) a (a - b).toNat

set_option maxRecDepth 100000 in
set_option maxHeartbeats 4000000 in
theorem ct_X6_goes {l : Launch} {G : GG} {π : Nat → Option Nat} {σ τ : ST} (hJ : MJ σ) (a b : Int) (a0 : 0 ≤ a) (a1 : a < σ 111 0) (b0 : 0 ≤ b) (b1 : b < σ 111 0) (hV : ∀ n : Nat, (n : Int) < b - a → okV (gvI σ a n) (a + (n : Int) + 1)) (hW : ∀ n : Nat, (n : Int) < a - b → okW (gbI (gvI σ a (b - a).toNat) a n) (a - (n : Int))) : Ct l G mX6_goes (2, 0, 0) [.ref 110, .int (iI a), .int (iI b)] 117 KD σ τ (RHO π) (KQ none 117 KD (goM σ a b) τ (RHO π)) := by
  have hz := hJ.sz
  have hmk := hJ.mk
  have hro := hJ.ro
  obtain ⟨ζ, hζ⟩ : ∃ ζ, ζ = gvI σ a (b - a).toNat := ⟨_, rfl⟩
  rw [← hζ] at hW
  have z1 : ζ 111 = σ 111 := by rw [hζ]; exact gvI_1 σ a _
  refine ct_intro (own := "ShapedRowsModel") rfl (by decide +kernel) (Nat.le_of_ble_eq_true rfl) (L := _) rfl ?_
  have cut_22 : ∀ (N : Nat) (s : Int), (s ≤ a) → (b ≤ s ∨ s = a) → s - b + 13 < (N : Int) → WP l G "ShapedRowsModel" mX6_goes (2, 0, 0) (KQ none 117 KD (goM σ a b) τ (RHO π)) noX 117 22 [some (.ref 110), some (.int (iI a)), some (.int (iI b)), some (.int (iI s))] [] 117 KD (gbI ζ a (a - s).toNat) τ (RHO π) 0 0 := by
    intro N
    induction N with
    | zero => intro s k0 k1 hm; exact absurd hm (by omega)
    | succ N ih =>
      intro s k0 k1 hm
      have i1 : gbI ζ a (a - s).toNat 111 = σ 111 := (gbI_1 ζ a _).trans z1
      have jJ : MJ (gbI ζ a (a - s).toNat) := MJ_cg i1 hJ
      refine r_iload_n dX6_goes_22 rfl (by rfl) ?_
      refine r_iload_n dX6_goes_23 rfl (by rfl) ?_
      refine r_icmp_le (tgt := 38) dX6_goes_24 (by decide) (by unfold inR; omega) (by unfold inR; omega) (fun c_1 => ?_) (fun c_1 => ?_)
      · exact r_ret_v dX6_goes_38 rfl ⟨Nat.zero_le _, Nat.zero_le _⟩ ⟨rfl, rfl, (by unfold goM; rw [← hζ, show (a - s).toNat = (a - b).toNat by omega]), rfl, rfl⟩
      · refine r_aload_n dX6_goes_27 rfl (by rfl) ?_
        refine r_iload_n dX6_goes_28 rfl (by rfl) ?_
        have oW : okW (gbI ζ a (a - s).toNat) s := by
          have q := hW (a - s).toNat (by omega)
          rw [show a - (((a - s).toNat : Nat) : Int) = s by omega] at q
          exact q
        refine r_callV1 (ct_X6_goesBack (by first | exact jJ | exact oV | exact oW.1 | exact oW.2 | (rw [i1]; omega) | omega | (unfold inR; omega)) _ (by first | exact jJ | exact oV | exact oW.1 | exact oW.2 | (rw [i1]; omega) | omega | (unfold inR; omega)) (by first | exact jJ | exact oV | exact oW.1 | exact oW.2 | (rw [i1]; omega) | omega | (unfold inR; omega)) (by first | exact jJ | exact oV | exact oW.1 | exact oW.2 | (rw [i1]; omega) | omega | (unfold inR; omega)) (by first | exact jJ | exact oV | exact oW.1 | exact oW.2 | (rw [i1]; omega) | omega | (unfold inR; omega))) fX6_goesBack qX6_105 dX6_goes_29 KD_110 (by decide) ⟨Nat.zero_le _, Nat.zero_le _⟩ (Nat.le_of_ble_eq_true rfl) ?_
        refine r_iinc dX6_goes_32 (by rfl) (Nat.le_of_ble_eq_true rfl) (L' := [_, _, _, _]) (by rfl) ?_
        refine r_goto (tgt := 22) dX6_goes_35 (by decide) ?_
        refine WP.mem (σ' := gbI ζ a (a - (s + -1)).toNat) ?_ (ih (s + -1) (by omega) (by omega) (by omega))
        rw [show (a - (s + -1)).toNat = (a - s).toNat + 1 by omega]
        show _ = gbM (gbI ζ a (a - s).toNat) (a - (((a - s).toNat : Nat) : Int))
        rw [show a - (((a - s).toNat : Nat) : Int) = s by omega]
  have cut_4 : ∀ (N : Nat) (s : Int), (a + 1 ≤ s) → (s ≤ b + 1 ∨ s = a + 1) → b + 1 - s + 13 < (N : Int) → WP l G "ShapedRowsModel" mX6_goes (2, 0, 0) (KQ none 117 KD (goM σ a b) τ (RHO π)) noX 117 4 [some (.ref 110), some (.int (iI a)), some (.int (iI b)), some (.int (iI s))] [] 117 KD (gvI σ a (s - 1 - a).toNat) τ (RHO π) 0 0 := by
    intro N
    induction N with
    | zero => intro s k0 k1 hm; exact absurd hm (by omega)
    | succ N ih =>
      intro s k0 k1 hm
      have i1 : gvI σ a (s - 1 - a).toNat 111 = σ 111 := gvI_1 σ a _
      have jJ : MJ (gvI σ a (s - 1 - a).toNat) := MJ_cg i1 hJ
      refine r_iload_n dX6_goes_4 rfl (by rfl) ?_
      refine r_iload_n dX6_goes_5 rfl (by rfl) ?_
      refine r_icmp_gt (tgt := 20) dX6_goes_6 (by decide) (by unfold inR; omega) (by unfold inR; omega) (fun c_2 => ?_) (fun c_2 => ?_)
      · refine r_iload_n dX6_goes_20 rfl (by rfl) ?_
        refine r_istore_n dX6_goes_21 rfl (Nat.le_of_ble_eq_true rfl) (L' := [_, _, _, _]) (by rfl) ?_
        refine WP.mem (σ' := gbI ζ a (a - a).toNat) ?_ (cut_22 40 a (by omega) (by omega) (by omega))
        rw [show (a - a).toNat = 0 by omega, hζ]
        show gvI σ a (s - 1 - a).toNat = _
        rw [show (s - 1 - a).toNat = (b - a).toNat by omega]
        rfl
      · refine r_aload_n dX6_goes_9 rfl (by rfl) ?_
        refine r_iload_n dX6_goes_10 rfl (by rfl) ?_
        have oV : okV (gvI σ a (s - 1 - a).toNat) s := by
          have q := hV (s - 1 - a).toNat (by omega)
          rw [show a + (((s - 1 - a).toNat : Nat) : Int) + 1 = s by omega] at q
          exact q
        refine r_callV1 (ct_X6_goesOver (by first | exact jJ | exact oV | exact oW.1 | exact oW.2 | (rw [i1]; omega) | omega | (unfold inR; omega)) _ (by first | exact jJ | exact oV | exact oW.1 | exact oW.2 | (rw [i1]; omega) | omega | (unfold inR; omega)) (by first | exact jJ | exact oV | exact oW.1 | exact oW.2 | (rw [i1]; omega) | omega | (unfold inR; omega)) (by first | exact jJ | exact oV | exact oW.1 | exact oW.2 | (rw [i1]; omega) | omega | (unfold inR; omega))) fX6_goesOver qX6_102 dX6_goes_11 KD_110 (by decide) ⟨Nat.zero_le _, Nat.zero_le _⟩ (Nat.le_of_ble_eq_true rfl) ?_
        refine r_iinc dX6_goes_14 (by rfl) (Nat.le_of_ble_eq_true rfl) (L' := [_, _, _, _]) (by rfl) ?_
        refine r_goto (tgt := 4) dX6_goes_17 (by decide) ?_
        refine WP.mem (σ' := gvI σ a (s + 1 - 1 - a).toNat) ?_ (ih (s + 1) (by omega) (by omega) (by omega))
        rw [show (s + 1 - 1 - a).toNat = (s - 1 - a).toNat + 1 by omega]
        show _ = gvM (gvI σ a (s - 1 - a).toNat) (a + (((s - 1 - a).toNat : Nat) : Int) + 1)
        rw [show a + (((s - 1 - a).toNat : Nat) : Int) + 1 = s by omega]
  refine r_iload_n dX6_goes_0 rfl (by rfl) ?_
  refine r_iconst dX6_goes_1 ?_
  refine r_iadd dX6_goes_2 ?_
  refine r_istore_n dX6_goes_3 rfl (Nat.le_of_ble_eq_true rfl) (L' := [_, _, _, _]) (by rfl) ?_
  refine WP.mem (σ' := gvI σ a (a + 1 - 1 - a).toNat) ?_ (cut_4 40 (a + 1) (by omega) (by omega) (by omega))
  rw [show (a + 1 - 1 - a).toNat = 0 by omega]
  rfl
