section
/-! The law's start, going on. -/
def l_N1 (r j : Nat) : Int := if r = 0 ∧ j = 0 then 1 else 0
def l_N : Nat → Nat → Int := o_rs 4 l_N1
def l_dob (K : Nat → mK) (n a c : Nat) : Decidable (q_ob K n a c) := by
  unfold q_ob
  exact inferInstance
def l_dak (K : Nat → mK) (n a c : Nat) : Decidable (q_ak K n a c) := by
  unfold q_ak
  exact inferInstance
def l_dal (K : Nat → mK) (n a : Nat) : Decidable (q_al K n a) := by
  unfold q_al
  exact inferInstance
def l_drp (K : Nat → mK) (n a : Nat) : Decidable (q_rp K n a) := by
  unfold q_rp
  exact inferInstance
def l_drow (K : Nat → mK) (n a : Nat) : Decidable (q_row K n a) := by
  unfold q_row
  have iob := @l_dob K
  have iak := @l_dak K
  have ial := @l_dal K
  have irp := @l_drp K
  exact inferInstance
def l_dnet (K : Nat → mK) (n a : Nat) : Decidable (q_net K n a) := by
  unfold q_net
  have iob := @l_dob K
  have iak := @l_dak K
  have ial := @l_dal K
  have irp := @l_drp K
  have irow := @l_drow K
  exact inferInstance
def l_dcls (K : Nat → mK)  : Decidable (q_cls K ) := by
  unfold q_cls
  have iob := @l_dob K
  have iak := @l_dak K
  have ial := @l_dal K
  have irp := @l_drp K
  have irow := @l_drow K
  have inet := @l_dnet K
  exact inferInstance
def l_dtk (K : Nat → mK)  : Decidable (q_tk K ) := by
  unfold q_tk
  have iob := @l_dob K
  have iak := @l_dak K
  have ial := @l_dal K
  have irp := @l_drp K
  have irow := @l_drow K
  have inet := @l_dnet K
  exact inferInstance
def l_dsur (K : Nat → mK)  : Decidable (q_sur K ) := by
  unfold q_sur
  have iob := @l_dob K
  have iak := @l_dak K
  have ial := @l_dal K
  have irp := @l_drp K
  have irow := @l_drow K
  have inet := @l_dnet K
  exact inferInstance
def l_dout (K : Nat → mK)  : Decidable (q_out K ) := by
  unfold q_out
  have iob := @l_dob K
  have iak := @l_dak K
  have ial := @l_dal K
  have irp := @l_drp K
  have irow := @l_drow K
  have inet := @l_dnet K
  exact inferInstance
def l_dgrp (K : Nat → mK)  : Decidable (q_grp K ) := by
  unfold q_grp
  have iob := @l_dob K
  have iak := @l_dak K
  have ial := @l_dal K
  have irp := @l_drp K
  have irow := @l_drow K
  have inet := @l_dnet K
  exact inferInstance
def l_dscr (K : Nat → mK)  : Decidable (q_scr K ) := by
  unfold q_scr
  have iob := @l_dob K
  have iak := @l_dak K
  have ial := @l_dal K
  have irp := @l_drp K
  have irow := @l_drow K
  have inet := @l_dnet K
  exact inferInstance
def l_dmod (K : Nat → mK)  : Decidable (q_mod K ) := by
  unfold q_mod
  have iob := @l_dob K
  have iak := @l_dak K
  have ial := @l_dal K
  have irp := @l_drp K
  exact inferInstance
def l_dnts (K : Nat → mK)  : Decidable (q_nts K ) := by
  unfold q_nts
  have iob := @l_dob K
  have iak := @l_dak K
  have ial := @l_dal K
  have irp := @l_drp K
  have irow := @l_drow K
  have inet := @l_dnet K
  exact inferInstance
def l_dlay (K : Nat → mK)  : Decidable (q_lay K ) := by
  unfold q_lay
  have icls := @l_dcls K
  have itk := @l_dtk K
  have isur := @l_dsur K
  have iout := @l_dout K
  have igrp := @l_dgrp K
  have iscr := @l_dscr K
  have imod := @l_dmod K
  have ints := @l_dnts K
  exact inferInstance
def l_chk (σ : Nat → Nat → Int) : Prop := (∀ r, r < 17 → ∀ j, j < 12 → j < q_len r → σ (1 + r) j = l_N r j) ∧ σ 0 3 = 0 ∧ σ 138 2 = 0 ∧ σ 177 1 = 0 ∧ σ 186 0 = 0
def l_dchk (σ : Nat → Nat → Int) : Decidable (l_chk σ) := by
  unfold l_chk
  exact inferInstance
def l_tst : Bool := match l_ev 4000 (94, 0, [(2, ((0 : Nat) : Int)), (9, 0)], [], (l_K0, l_S0, 1, 0, 8)) with
  | some (.inl v, (K, σ, n, e, s)) => decide (v = (9, 0) ∧ n = 191 ∧ e = 0 ∧ s ≤ 4785) && (@decide _ (l_dlay K) && @decide _ (l_dchk σ))
  | _ => false
theorem l_tst_t : l_tst = true := by decide +kernel
end
