def f_M_measure (I : fr_I) (J : fr_J) (r : Nat) (p1 : Int32) : fr_I × fr_J :=
  if ((fr_ui (fr_ui (fr_ui (fr_ui I 9 r ((I 8 r 1).toNatClampNeg) p1) 8 r 1 ((((fr_ui I 9 r ((I 8 r 1).toNatClampNeg) p1) 8 r 1) + 1) - (((fr_ui I 9 r ((I 8 r 1).toNatClampNeg) p1) 8 r 1) + 1) / 4 * 4)) 8 r 5 (f_M_rootOfMeanSquare ((fr_ui (fr_ui I 9 r ((I 8 r 1).toNatClampNeg) p1) 8 r 1 ((((fr_ui I 9 r ((I 8 r 1).toNatClampNeg) p1) 8 r 1) + 1) - (((fr_ui I 9 r ((I 8 r 1).toNatClampNeg) p1) 8 r 1) + 1) / 4 * 4))) r)) 8 r 6 (if ((fr_ui (fr_ui (fr_ui I 9 r ((I 8 r 1).toNatClampNeg) p1) 8 r 1 ((((fr_ui I 9 r ((I 8 r 1).toNatClampNeg) p1) 8 r 1) + 1) - (((fr_ui I 9 r ((I 8 r 1).toNatClampNeg) p1) 8 r 1) + 1) / 4 * 4)) 8 r 5 (f_M_rootOfMeanSquare ((fr_ui (fr_ui I 9 r ((I 8 r 1).toNatClampNeg) p1) 8 r 1 ((((fr_ui I 9 r ((I 8 r 1).toNatClampNeg) p1) 8 r 1) + 1) - (((fr_ui I 9 r ((I 8 r 1).toNatClampNeg) p1) 8 r 1) + 1) / 4 * 4))) r)) 8 r 5) ≤ ((fr_ui (fr_ui (fr_ui I 9 r ((I 8 r 1).toNatClampNeg) p1) 8 r 1 ((((fr_ui I 9 r ((I 8 r 1).toNatClampNeg) p1) 8 r 1) + 1) - (((fr_ui I 9 r ((I 8 r 1).toNatClampNeg) p1) 8 r 1) + 1) / 4 * 4)) 8 r 5 (f_M_rootOfMeanSquare ((fr_ui (fr_ui I 9 r ((I 8 r 1).toNatClampNeg) p1) 8 r 1 ((((fr_ui I 9 r ((I 8 r 1).toNatClampNeg) p1) 8 r 1) + 1) - (((fr_ui I 9 r ((I 8 r 1).toNatClampNeg) p1) 8 r 1) + 1) / 4 * 4))) r)) 8 r 3) then (0 : Int32) else 1)) 8 r 6) = 0 then
    ((fr_ui (fr_ui (fr_ui (fr_ui I 9 r ((I 8 r 1).toNatClampNeg) p1) 8 r 1 ((((fr_ui I 9 r ((I 8 r 1).toNatClampNeg) p1) 8 r 1) + 1) - (((fr_ui I 9 r ((I 8 r 1).toNatClampNeg) p1) 8 r 1) + 1) / 4 * 4)) 8 r 5 (f_M_rootOfMeanSquare ((fr_ui (fr_ui I 9 r ((I 8 r 1).toNatClampNeg) p1) 8 r 1 ((((fr_ui I 9 r ((I 8 r 1).toNatClampNeg) p1) 8 r 1) + 1) - (((fr_ui I 9 r ((I 8 r 1).toNatClampNeg) p1) 8 r 1) + 1) / 4 * 4))) r)) 8 r 6 (if ((fr_ui (fr_ui (fr_ui I 9 r ((I 8 r 1).toNatClampNeg) p1) 8 r 1 ((((fr_ui I 9 r ((I 8 r 1).toNatClampNeg) p1) 8 r 1) + 1) - (((fr_ui I 9 r ((I 8 r 1).toNatClampNeg) p1) 8 r 1) + 1) / 4 * 4)) 8 r 5 (f_M_rootOfMeanSquare ((fr_ui (fr_ui I 9 r ((I 8 r 1).toNatClampNeg) p1) 8 r 1 ((((fr_ui I 9 r ((I 8 r 1).toNatClampNeg) p1) 8 r 1) + 1) - (((fr_ui I 9 r ((I 8 r 1).toNatClampNeg) p1) 8 r 1) + 1) / 4 * 4))) r)) 8 r 5) ≤ ((fr_ui (fr_ui (fr_ui I 9 r ((I 8 r 1).toNatClampNeg) p1) 8 r 1 ((((fr_ui I 9 r ((I 8 r 1).toNatClampNeg) p1) 8 r 1) + 1) - (((fr_ui I 9 r ((I 8 r 1).toNatClampNeg) p1) 8 r 1) + 1) / 4 * 4)) 8 r 5 (f_M_rootOfMeanSquare ((fr_ui (fr_ui I 9 r ((I 8 r 1).toNatClampNeg) p1) 8 r 1 ((((fr_ui I 9 r ((I 8 r 1).toNatClampNeg) p1) 8 r 1) + 1) - (((fr_ui I 9 r ((I 8 r 1).toNatClampNeg) p1) 8 r 1) + 1) / 4 * 4))) r)) 8 r 3) then (0 : Int32) else 1)), (fr_uj J 8 r 7 0))
  else
    ((fr_ui (fr_ui (fr_ui (fr_ui I 9 r ((I 8 r 1).toNatClampNeg) p1) 8 r 1 ((((fr_ui I 9 r ((I 8 r 1).toNatClampNeg) p1) 8 r 1) + 1) - (((fr_ui I 9 r ((I 8 r 1).toNatClampNeg) p1) 8 r 1) + 1) / 4 * 4)) 8 r 5 (f_M_rootOfMeanSquare ((fr_ui (fr_ui I 9 r ((I 8 r 1).toNatClampNeg) p1) 8 r 1 ((((fr_ui I 9 r ((I 8 r 1).toNatClampNeg) p1) 8 r 1) + 1) - (((fr_ui I 9 r ((I 8 r 1).toNatClampNeg) p1) 8 r 1) + 1) / 4 * 4))) r)) 8 r 6 (if ((fr_ui (fr_ui (fr_ui I 9 r ((I 8 r 1).toNatClampNeg) p1) 8 r 1 ((((fr_ui I 9 r ((I 8 r 1).toNatClampNeg) p1) 8 r 1) + 1) - (((fr_ui I 9 r ((I 8 r 1).toNatClampNeg) p1) 8 r 1) + 1) / 4 * 4)) 8 r 5 (f_M_rootOfMeanSquare ((fr_ui (fr_ui I 9 r ((I 8 r 1).toNatClampNeg) p1) 8 r 1 ((((fr_ui I 9 r ((I 8 r 1).toNatClampNeg) p1) 8 r 1) + 1) - (((fr_ui I 9 r ((I 8 r 1).toNatClampNeg) p1) 8 r 1) + 1) / 4 * 4))) r)) 8 r 5) ≤ ((fr_ui (fr_ui (fr_ui I 9 r ((I 8 r 1).toNatClampNeg) p1) 8 r 1 ((((fr_ui I 9 r ((I 8 r 1).toNatClampNeg) p1) 8 r 1) + 1) - (((fr_ui I 9 r ((I 8 r 1).toNatClampNeg) p1) 8 r 1) + 1) / 4 * 4)) 8 r 5 (f_M_rootOfMeanSquare ((fr_ui (fr_ui I 9 r ((I 8 r 1).toNatClampNeg) p1) 8 r 1 ((((fr_ui I 9 r ((I 8 r 1).toNatClampNeg) p1) 8 r 1) + 1) - (((fr_ui I 9 r ((I 8 r 1).toNatClampNeg) p1) 8 r 1) + 1) / 4 * 4))) r)) 8 r 3) then (0 : Int32) else 1)), (fr_uj J 8 r 7 ((J 8 r 7) + (f_M_growth ((fr_ui (fr_ui (fr_ui (fr_ui I 9 r ((I 8 r 1).toNatClampNeg) p1) 8 r 1 ((((fr_ui I 9 r ((I 8 r 1).toNatClampNeg) p1) 8 r 1) + 1) - (((fr_ui I 9 r ((I 8 r 1).toNatClampNeg) p1) 8 r 1) + 1) / 4 * 4)) 8 r 5 (f_M_rootOfMeanSquare ((fr_ui (fr_ui I 9 r ((I 8 r 1).toNatClampNeg) p1) 8 r 1 ((((fr_ui I 9 r ((I 8 r 1).toNatClampNeg) p1) 8 r 1) + 1) - (((fr_ui I 9 r ((I 8 r 1).toNatClampNeg) p1) 8 r 1) + 1) / 4 * 4))) r)) 8 r 6 (if ((fr_ui (fr_ui (fr_ui I 9 r ((I 8 r 1).toNatClampNeg) p1) 8 r 1 ((((fr_ui I 9 r ((I 8 r 1).toNatClampNeg) p1) 8 r 1) + 1) - (((fr_ui I 9 r ((I 8 r 1).toNatClampNeg) p1) 8 r 1) + 1) / 4 * 4)) 8 r 5 (f_M_rootOfMeanSquare ((fr_ui (fr_ui I 9 r ((I 8 r 1).toNatClampNeg) p1) 8 r 1 ((((fr_ui I 9 r ((I 8 r 1).toNatClampNeg) p1) 8 r 1) + 1) - (((fr_ui I 9 r ((I 8 r 1).toNatClampNeg) p1) 8 r 1) + 1) / 4 * 4))) r)) 8 r 5) ≤ ((fr_ui (fr_ui (fr_ui I 9 r ((I 8 r 1).toNatClampNeg) p1) 8 r 1 ((((fr_ui I 9 r ((I 8 r 1).toNatClampNeg) p1) 8 r 1) + 1) - (((fr_ui I 9 r ((I 8 r 1).toNatClampNeg) p1) 8 r 1) + 1) / 4 * 4)) 8 r 5 (f_M_rootOfMeanSquare ((fr_ui (fr_ui I 9 r ((I 8 r 1).toNatClampNeg) p1) 8 r 1 ((((fr_ui I 9 r ((I 8 r 1).toNatClampNeg) p1) 8 r 1) + 1) - (((fr_ui I 9 r ((I 8 r 1).toNatClampNeg) p1) 8 r 1) + 1) / 4 * 4))) r)) 8 r 3) then (0 : Int32) else 1))) r))))
set_option maxRecDepth 10000 in
theorem ct_M_measure (X : fr_X) (n : Nat) (r : Nat) (hr : r < n) (I : fr_I) (J : fr_J) (p1 : Int32) (hw : fr_wf n I) : fr_Ct X y_M_measure c_M_measure 2 none (fr_rm 1) [.ref (fr_ad X 8 r), .int p1] (fr_Z0 X n) (fr_Z0 X n) I J (fr_pv (fun I' J' => (f_M_measure I J r p1).1 = I' ∧ (f_M_measure I J r p1).2 = J')) := by
  refine fr_ct (by decide) rfl rfl (Nat.le_of_ble_eq_true rfl) rfl (fun E => ?_)
  refine fr_aload_n d_M_measure_0 rfl ?_
  refine fr_getr (k' := 9) (r' := r) d_M_measure_1 fl_M_9 rfl rfl rfl (Or.inl ⟨rfl, hr⟩) ?_
  refine fr_aload_n d_M_measure_4 rfl ?_
  refine fr_geti d_M_measure_5 fl_M_23 rfl rfl (Or.inl ⟨rfl, hr⟩) ?_
  refine fr_iload_n d_M_measure_8 rfl ?_
  refine fr_iast ((I 8 r 1).toNatClampNeg) d_M_measure_9 rfl rfl (Or.inl ⟨rfl, hr⟩) (fw_old_eq hw hr) (fw_old_lt hw hr) (by decide) ?_
  refine fr_aload_n d_M_measure_10 rfl ?_
  refine fr_aload_n d_M_measure_11 rfl ?_
  refine fr_geti d_M_measure_12 fl_M_23 rfl rfl (Or.inl ⟨rfl, hr⟩) ?_
  refine fr_iconst d_M_measure_15 fr_i1 ?_
  refine fr_iadd d_M_measure_16 ?_
  refine fr_iconst d_M_measure_17 fr_i4 ?_
  refine fr_irem d_M_measure_18 (by decide) ?_
  refine fr_puti d_M_measure_19 fl_M_23 rfl rfl (Or.inl ⟨rfl, hr⟩) ?_
  refine fr_aload_n d_M_measure_22 rfl ?_
  refine fr_aload_n d_M_measure_23 rfl ?_
  refine fr_callVi fr_q3 d_M_measure_24 (ct_M_rootOfMeanSquare X n r hr _ _) mv_M_26 rfl rfl rfl (Or.inl ⟨rfl, hr⟩) rfl rfl ⟨Nat.le_of_ble_eq_true rfl, Nat.le_of_ble_eq_true rfl⟩ ⟨rfl, rfl⟩ ⟨Nat.zero_le _, Nat.zero_le _⟩ (Nat.le_of_ble_eq_true rfl) (fun x I' J' hp1 => ?_)
  obtain ⟨rfl, rfl, rfl⟩ := hp1
  refine fr_puti d_M_measure_27 fl_M_30 rfl rfl (Or.inl ⟨rfl, hr⟩) ?_
  refine fr_aload_n d_M_measure_30 rfl ?_
  refine fr_aload_n d_M_measure_31 rfl ?_
  refine fr_geti d_M_measure_32 fl_M_30 rfl rfl (Or.inl ⟨rfl, hr⟩) ?_
  refine fr_aload_n d_M_measure_35 rfl ?_
  refine fr_geti d_M_measure_36 fl_M_13 rfl rfl (Or.inl ⟨rfl, hr⟩) ?_
  refine fr_ticmp_le (t := 46) (j := 47) d_M_measure_39 rfl (fun k => fr_iconst d_M_measure_42 fr_i1 (fr_goto 47 d_M_measure_43 rfl k)) (fun k => fr_iconst d_M_measure_46 fr_i0 k) ?_
  refine fr_putz d_M_measure_47 fl_M_33 rfl rfl fr_if01 (Or.inl ⟨rfl, hr⟩) ?_
  refine fr_aload_n d_M_measure_50 rfl ?_
  refine fr_aload_n d_M_measure_51 rfl ?_
  refine fr_geti d_M_measure_52 fl_M_33 rfl rfl (Or.inl ⟨rfl, hr⟩) ?_
  refine fr_if_eq 70 d_M_measure_55 rfl (fun h2 => ?_) (fun h2 => ?_)
  · skip
    refine fr_lconst d_M_measure_70 fr_l0 ?_
    refine fr_putl d_M_measure_71 fl_M_37 rfl rfl (Or.inl ⟨rfl, hr⟩) ?_
    exact fr_vret d_M_measure_74 rfl (Nat.zero_le _) (Nat.zero_le _) (fr_tIJ (by unfold f_M_measure; rw [if_pos h2]))
  · skip
    refine fr_aload_n d_M_measure_58 rfl ?_
    refine fr_getl d_M_measure_59 fl_M_37 rfl rfl (Or.inl ⟨rfl, hr⟩) ?_
    refine fr_aload_n d_M_measure_62 rfl ?_
    refine fr_callVl fr_q3 d_M_measure_63 (ct_M_growth X n r hr _ _) mv_M_41 rfl rfl rfl (Or.inl ⟨rfl, hr⟩) rfl rfl ⟨Nat.le_of_ble_eq_true rfl, Nat.le_of_ble_eq_true rfl⟩ ⟨rfl, rfl⟩ ⟨Nat.zero_le _, Nat.zero_le _⟩ (Nat.le_of_ble_eq_true rfl) (fun x I' J' hp3 => ?_)
    obtain ⟨rfl, rfl, rfl⟩ := hp3
    refine fr_ladd d_M_measure_66 ?_
    refine fr_goto 71 d_M_measure_67 rfl ?_
    refine fr_putl d_M_measure_71 fl_M_37 rfl rfl (Or.inl ⟨rfl, hr⟩) ?_
    exact fr_vret d_M_measure_74 rfl (Nat.zero_le _) (Nat.zero_le _) (fr_tIJ (by unfold f_M_measure; rw [if_neg h2]))
theorem fw_M_measure {n : Nat} {I : fr_I} {J : fr_J} {r : Nat} {p1 : Int32} (hr : r < n) (hw : fr_wf n I) : fr_wf n (f_M_measure I J r p1).1 := by
  unfold f_M_measure
  refine fw_ite_1 (fun h => ?_) (fun h => ?_)
  · skip
    exact (fw_ui (k := 8) (j := 6) rfl (fw_ui (k := 8) (j := 5) rfl (fw_oldp hr (fw_ui (k := 9) rfl hw))))
  · skip
    exact (fw_ui (k := 8) (j := 6) rfl (fw_ui (k := 8) (j := 5) rfl (fw_oldp hr (fw_ui (k := 9) rfl hw))))
theorem fc_M_measure {P : fr_I → Prop} (hP : fr_cst P) {I : fr_I} {J : fr_J} {r : Nat} {p1 : Int32} (h : P I) : P (f_M_measure I J r p1).1 := by
  unfold f_M_measure
  refine fw_ite_1 (fun _ => ?_) (fun _ => ?_)
  · skip
    refine fw_pr (P := P) ?_
    exact (hP (k := 8) (by decide) (hP (k := 8) (by decide) (hP (k := 8) (by decide) (hP (k := 9) (by decide) h))))
  · skip
    refine fw_pr (P := P) ?_
    exact (hP (k := 8) (by decide) (hP (k := 8) (by decide) (hP (k := 8) (by decide) (hP (k := 9) (by decide) h))))
theorem fcj_M_measure {P : fr_J → Prop} (hP : fr_cstJ P) {I : fr_I} {J : fr_J} {r : Nat} {p1 : Int32} (h : P J) : P (f_M_measure I J r p1).2 := by
  unfold f_M_measure
  refine fw_iteJ_2 (fun _ => ?_) (fun _ => ?_)
  · skip
    refine fw_pr2 (P := P) ?_
    exact (hP (k := 8) (by decide) h)
  · skip
    refine fw_pr2 (P := P) ?_
    exact (hP (k := 8) (by decide) h)
def f_F_isWithin (I : fr_I) (p1 : Int32) (p2 : Int32) (p3 : Int32) : Int32 :=
  if p1 < p2 then
    0
  else
    if p3 < p1 then
      0
    else
      1
set_option maxRecDepth 10000 in
theorem ct_F_isWithin (X : fr_X) (n : Nat) (I : fr_I) (J : fr_J) (p1 : Int32) (p2 : Int32) (p3 : Int32) : fr_Ct X y_F_isWithin c_F_isWithin 3 (some .boolean) (fr_rm 0) [.int p1, .int p2, .int p3] (fr_Z0 X n) (fr_Z0 X n) I J (fr_pi (fun x I' J' => (f_F_isWithin I p1 p2 p3) = x ∧ I = I' ∧ J = J')) := by
  refine fr_ct (by decide) rfl rfl (Nat.le_of_ble_eq_true rfl) rfl (fun E => ?_)
  refine fr_iload_n d_F_isWithin_0 rfl ?_
  refine fr_iload_n d_F_isWithin_1 rfl ?_
  refine fr_icmp_lt 14 d_F_isWithin_2 rfl (fun h1 => ?_) (fun h1 => ?_)
  · skip
    refine fr_iconst d_F_isWithin_14 fr_i0 ?_
    exact fr_iret d_F_isWithin_15 rfl (fr_nar_b (Or.inl rfl)) (Nat.zero_le _) (Nat.zero_le _) ⟨(by unfold f_F_isWithin; rw [if_pos h1]), rfl, rfl⟩
  · skip
    refine fr_iload_n d_F_isWithin_5 rfl ?_
    refine fr_iload_n d_F_isWithin_6 rfl ?_
    refine fr_icmp_gt 14 d_F_isWithin_7 rfl (fun h2 => ?_) (fun h2 => ?_)
    · skip
      refine fr_iconst d_F_isWithin_14 fr_i0 ?_
      exact fr_iret d_F_isWithin_15 rfl (fr_nar_b (Or.inl rfl)) (Nat.zero_le _) (Nat.zero_le _) ⟨(by unfold f_F_isWithin; rw [if_neg h1, if_pos h2]), rfl, rfl⟩
    · skip
      refine fr_iconst d_F_isWithin_10 fr_i1 ?_
      refine fr_goto 15 d_F_isWithin_11 rfl ?_
      exact fr_iret d_F_isWithin_15 rfl (fr_nar_b (Or.inr rfl)) (Nat.zero_le _) (Nat.zero_le _) ⟨(by unfold f_F_isWithin; rw [if_neg h1, if_neg h2]), rfl, rfl⟩
def f_F_isRelay (I : fr_I) (p1 : Int32) : Int32 :=
  if p1 < 0 then
    0
  else
    if (I 0 0 4) ≤ p1 then
      0
    else
      1
set_option maxRecDepth 10000 in
theorem ct_F_isRelay (X : fr_X) (n : Nat) (I : fr_I) (J : fr_J) (p1 : Int32) : fr_Ct X y_F_isRelay c_F_isRelay 2 (some .boolean) (fr_rm 0) [.ref (fr_ad X 0 0), .int p1] (fr_Z0 X n) (fr_Z0 X n) I J (fr_pi (fun x I' J' => (f_F_isRelay I p1) = x ∧ I = I' ∧ J = J')) := by
  refine fr_ct (by decide) rfl rfl (Nat.le_of_ble_eq_true rfl) rfl (fun E => ?_)
  refine fr_iload_n d_F_isRelay_0 rfl ?_
  refine fr_if_lt 16 d_F_isRelay_1 rfl (fun h1 => ?_) (fun h1 => ?_)
  · skip
    refine fr_iconst d_F_isRelay_16 fr_i0 ?_
    exact fr_iret d_F_isRelay_17 rfl (fr_nar_b (Or.inl rfl)) (Nat.zero_le _) (Nat.zero_le _) ⟨(by unfold f_F_isRelay; rw [if_pos h1]), rfl, rfl⟩
  · skip
    refine fr_iload_n d_F_isRelay_4 rfl ?_
    refine fr_aload_n d_F_isRelay_5 rfl ?_
    refine fr_geti d_F_isRelay_6 fl_F_30 rfl rfl (Or.inr ⟨rfl, rfl⟩) ?_
    refine fr_icmp_ge 16 d_F_isRelay_9 rfl (fun h2 => ?_) (fun h2 => ?_)
    · skip
      refine fr_iconst d_F_isRelay_16 fr_i0 ?_
      exact fr_iret d_F_isRelay_17 rfl (fr_nar_b (Or.inl rfl)) (Nat.zero_le _) (Nat.zero_le _) ⟨(by unfold f_F_isRelay; rw [if_neg h1, if_pos h2]), rfl, rfl⟩
    · skip
      refine fr_iconst d_F_isRelay_12 fr_i1 ?_
      refine fr_goto 17 d_F_isRelay_13 rfl ?_
      exact fr_iret d_F_isRelay_17 rfl (fr_nar_b (Or.inr rfl)) (Nat.zero_le _) (Nat.zero_le _) ⟨(by unfold f_F_isRelay; rw [if_neg h1, if_neg h2]), rfl, rfl⟩
theorem f01_F_isRelay {I : fr_I} {p1 : Int32} : f_F_isRelay I p1 = 0 ∨ f_F_isRelay I p1 = 1 := by
  unfold f_F_isRelay
  split
  · exact Or.inl rfl
  · split
    · exact Or.inl rfl
    · exact Or.inr rfl
def f_F_isPlaceFor (I : fr_I) (p1 : Int32) : Int32 :=
  if (I 0 0 4) = 0 then
    if p1 = (-1) then
      1
    else
      0
  else
    (f_F_isRelay I p1)
set_option maxRecDepth 10000 in
theorem ct_F_isPlaceFor (X : fr_X) (n : Nat) (I : fr_I) (J : fr_J) (p1 : Int32) : fr_Ct X y_F_isPlaceFor c_F_isPlaceFor 2 (some .boolean) (fr_rm 1) [.ref (fr_ad X 0 0), .int p1] (fr_Z0 X n) (fr_Z0 X n) I J (fr_pi (fun x I' J' => (f_F_isPlaceFor I p1) = x ∧ I = I' ∧ J = J')) := by
  refine fr_ct (by decide) rfl rfl (Nat.le_of_ble_eq_true rfl) rfl (fun E => ?_)
  refine fr_aload_n d_F_isPlaceFor_0 rfl ?_
  refine fr_geti d_F_isPlaceFor_1 fl_F_30 rfl rfl (Or.inr ⟨rfl, rfl⟩) ?_
  refine fr_if_ne 20 d_F_isPlaceFor_4 rfl (fun h1 => ?_) (fun h1 => ?_)
  · skip
    refine fr_aload_n d_F_isPlaceFor_20 rfl ?_
    refine fr_iload_n d_F_isPlaceFor_21 rfl ?_
    refine fr_callVi fr_q0 d_F_isPlaceFor_22 (ct_F_isRelay X n _ _ _) mv_F_44 rfl rfl rfl (Or.inr ⟨rfl, rfl⟩) rfl rfl ⟨Nat.le_of_ble_eq_true rfl, Nat.le_of_ble_eq_true rfl⟩ ⟨rfl, rfl⟩ ⟨Nat.zero_le _, Nat.zero_le _⟩ (Nat.le_of_ble_eq_true rfl) (fun x I' J' hp2 => ?_)
    obtain ⟨rfl, rfl, rfl⟩ := hp2
    exact fr_iret d_F_isPlaceFor_25 rfl (fr_nar_b f01_F_isRelay) (Nat.zero_le _) (Nat.zero_le _) ⟨(by unfold f_F_isPlaceFor; rw [if_neg h1]), rfl, rfl⟩
  · skip
    refine fr_iload_n d_F_isPlaceFor_7 rfl ?_
    refine fr_iconst d_F_isPlaceFor_8 fr_im1 ?_
    refine fr_icmp_ne 16 d_F_isPlaceFor_9 rfl (fun h3 => ?_) (fun h3 => ?_)
    · skip
      refine fr_iconst d_F_isPlaceFor_16 fr_i0 ?_
      refine fr_goto 25 d_F_isPlaceFor_17 rfl ?_
      exact fr_iret d_F_isPlaceFor_25 rfl (fr_nar_b (Or.inl rfl)) (Nat.zero_le _) (Nat.zero_le _) ⟨(by unfold f_F_isPlaceFor; rw [if_pos h1, if_neg h3]), rfl, rfl⟩
    · skip
      refine fr_iconst d_F_isPlaceFor_12 fr_i1 ?_
      refine fr_goto 25 d_F_isPlaceFor_13 rfl ?_
      exact fr_iret d_F_isPlaceFor_25 rfl (fr_nar_b (Or.inr rfl)) (Nat.zero_le _) (Nat.zero_le _) ⟨(by unfold f_F_isPlaceFor; rw [if_pos h1, if_pos h3]), rfl, rfl⟩
theorem fr_isR_in {n r : Nat} {I : fr_I} (hw : fr_wf n I) (hr : r < n) : f_F_isRelay I (nI r) = 1 := by
  have h8 := hw.1
  unfold f_F_isRelay
  rw [if_neg (nI_pos (by omega)), fw_cnt hw, if_neg (nI_ge hr (by omega))]
theorem fr_isR_0 {n : Nat} {I : fr_I} (hw : fr_wf n I) {x : Int32} (h : f_F_isRelay I x = 0) : x < 0 ∨ nI n ≤ x := by
  unfold f_F_isRelay at h
  split at h
  · rename_i h1; exact Or.inl h1
  · split at h
    · rename_i h1; rw [fw_cnt hw] at h1; exact Or.inr h1
    · cases h
theorem fr_isR_1 {n : Nat} {I : fr_I} (hw : fr_wf n I) {x : Int32} (h : ¬ f_F_isRelay I x = 0) : ∃ r, r < n ∧ x = nI r := by
  have h8 := hw.1
  rcases pk_ix x (n := n) (by omega) with h1 | h1 | h1
  · exact absurd (if_pos h1) h
  · refine absurd ?_ h
    unfold f_F_isRelay
    rw [fw_cnt hw]
    by_cases hx : x < 0
    · rw [if_pos hx]
    · rw [if_neg hx, if_pos h1]
  · exact h1
