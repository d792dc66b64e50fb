def f_F_tripIfDue (I : fr_I) (J : fr_J) (n : Nat) (r : Nat) : fr_I :=
  if (f_M_isOverLimit I J r) = 0 then
    I
  else
    if (f_B_takesOrder I r) = 0 then
      I
    else
      if (f_F_isBlocked I n r) = 0 then
        (f_J_add ((f_B_giveOrder I r (I 0 0 5) 1)) 1 (nI r) ((f_B_giveOrder I r (I 0 0 5) 1) 0 0 5))
      else
        I
set_option maxRecDepth 10000 in
theorem ct_F_tripIfDue (X : fr_X) (n : Nat) (r : Nat) (hr : r < n) (I : fr_I) (J : fr_J)  (hw : fr_wf n I) : fr_Ct X y_F_tripIfDue c_F_tripIfDue 3 none (fr_rm 2) [.ref (fr_ad X 0 0), .int (nI r)] (fr_Z0 X n) (fr_Z0 X n) I J (fr_pv (fun I' J' => (f_F_tripIfDue I J n r) = I' ∧ J = J')) := by
  refine fr_ct (by decide) rfl rfl (Nat.le_of_ble_eq_true rfl) rfl (fun E => ?_)
  refine fr_aload_n d_F_tripIfDue_0 rfl ?_
  refine fr_getr (k' := 1) (r' := 0) d_F_tripIfDue_1 fl_F_11 rfl rfl rfl (Or.inr ⟨rfl, rfl⟩) ?_
  refine fr_iload_n d_F_tripIfDue_4 rfl ?_
  refine fr_aald (k' := 7) (r' := r) (r) d_F_tripIfDue_5 rfl rfl (if_pos hr) (Or.inr ⟨rfl, rfl⟩) rfl (fw_lt8 hw hr) (by decide) ?_
  refine fr_getr (k' := 10) (r' := r) d_F_tripIfDue_6 fl_F_77 rfl rfl rfl (Or.inl ⟨rfl, hr⟩) ?_
  refine fr_astore_n (L' := [(2, .ref _), (0, .ref _), (1, .int _)]) d_F_tripIfDue_9 (by decide) rfl ?_
  refine fr_aload_n d_F_tripIfDue_10 rfl ?_
  refine fr_getr (k' := 1) (r' := 0) d_F_tripIfDue_11 fl_F_11 rfl rfl rfl (Or.inr ⟨rfl, rfl⟩) ?_
  refine fr_iload_n d_F_tripIfDue_14 rfl ?_
  refine fr_aald (k' := 7) (r' := r) (r) d_F_tripIfDue_15 rfl rfl (if_pos hr) (Or.inr ⟨rfl, rfl⟩) rfl (fw_lt8 hw hr) (by decide) ?_
  refine fr_getr (k' := 8) (r' := r) d_F_tripIfDue_16 fl_F_51 rfl rfl rfl (Or.inl ⟨rfl, hr⟩) ?_
  refine fr_callVi fr_q3 d_F_tripIfDue_19 (ct_M_isOverLimit X n r hr _ _) mv_F_207 rfl rfl rfl (Or.inl ⟨rfl, hr⟩) rfl rfl ⟨Nat.le_of_ble_eq_true rfl, Nat.le_of_ble_eq_true rfl⟩ ⟨rfl, rfl⟩ ⟨Nat.zero_le _, Nat.zero_le _⟩ (Nat.le_of_ble_eq_true rfl) (fun x I' J' hp1 => ?_)
  obtain ⟨rfl, rfl, rfl⟩ := hp1
  refine fr_if_eq 62 d_F_tripIfDue_22 rfl (fun h2 => ?_) (fun h2 => ?_)
  · skip
    exact fr_vret d_F_tripIfDue_62 rfl (Nat.zero_le _) (Nat.zero_le _) ⟨(by unfold f_F_tripIfDue; rw [if_pos h2]), rfl⟩
  · skip
    refine fr_aload_n d_F_tripIfDue_25 rfl ?_
    refine fr_callVi fr_q4 d_F_tripIfDue_26 (ct_B_takesOrder X n r hr _ _) mv_F_211 rfl rfl rfl (Or.inl ⟨rfl, hr⟩) rfl rfl ⟨Nat.le_of_ble_eq_true rfl, Nat.le_of_ble_eq_true rfl⟩ ⟨rfl, rfl⟩ ⟨Nat.zero_le _, Nat.zero_le _⟩ (Nat.le_of_ble_eq_true rfl) (fun x I' J' hp3 => ?_)
    obtain ⟨rfl, rfl, rfl⟩ := hp3
    refine fr_if_eq 62 d_F_tripIfDue_29 rfl (fun h4 => ?_) (fun h4 => ?_)
    · skip
      exact fr_vret d_F_tripIfDue_62 rfl (Nat.zero_le _) (Nat.zero_le _) ⟨(by unfold f_F_tripIfDue; rw [if_neg h2, if_pos h4]), rfl⟩
    · skip
      refine fr_aload_n d_F_tripIfDue_32 rfl ?_
      refine fr_iload_n d_F_tripIfDue_33 rfl ?_
      refine fr_callVi fr_q0 d_F_tripIfDue_34 (ct_F_isBlocked X n r hr _ _ hw) mv_F_119 rfl rfl rfl (Or.inr ⟨rfl, rfl⟩) rfl rfl ⟨Nat.le_of_ble_eq_true rfl, Nat.le_of_ble_eq_true rfl⟩ ⟨rfl, rfl⟩ ⟨Nat.zero_le _, Nat.zero_le _⟩ (Nat.le_of_ble_eq_true rfl) (fun x I' J' hp5 => ?_)
      obtain ⟨rfl, rfl, rfl⟩ := hp5
      refine fr_if_ne 62 d_F_tripIfDue_37 rfl (fun h6 => ?_) (fun h6 => ?_)
      · skip
        exact fr_vret d_F_tripIfDue_62 rfl (Nat.zero_le _) (Nat.zero_le _) ⟨(by unfold f_F_tripIfDue; rw [if_neg h2, if_neg h4, if_neg h6]), rfl⟩
      · skip
        refine fr_aload_n d_F_tripIfDue_40 rfl ?_
        refine fr_aload_n d_F_tripIfDue_41 rfl ?_
        refine fr_geti d_F_tripIfDue_42 fl_F_34 rfl rfl (Or.inr ⟨rfl, rfl⟩) ?_
        refine fr_iconst d_F_tripIfDue_45 fr_i1 ?_
        refine fr_callVv fr_q4 d_F_tripIfDue_46 (ct_B_giveOrder X n r hr _ _ _ _ (Or.inr rfl)) mv_F_214 rfl rfl rfl (Or.inl ⟨rfl, hr⟩) rfl rfl ⟨Nat.le_of_ble_eq_true rfl, Nat.le_of_ble_eq_true rfl⟩ ⟨rfl, rfl⟩ ⟨Nat.zero_le _, Nat.zero_le _⟩ (Nat.le_of_ble_eq_true rfl) (fun I' J' hp7 => ?_)
        obtain ⟨rfl, rfl⟩ := hp7
        refine fr_aload_n d_F_tripIfDue_49 rfl ?_
        refine fr_getr (k' := 4) (r' := 0) d_F_tripIfDue_50 fl_F_26 rfl rfl rfl (Or.inr ⟨rfl, rfl⟩) ?_
        refine fr_iconst d_F_tripIfDue_53 fr_i1 ?_
        refine fr_iload_n d_F_tripIfDue_54 rfl ?_
        refine fr_aload_n d_F_tripIfDue_55 rfl ?_
        refine fr_geti d_F_tripIfDue_56 fl_F_34 rfl rfl (Or.inr ⟨rfl, rfl⟩) ?_
        refine fr_callVv fr_q1 d_F_tripIfDue_59 (ct_J_add X n _ _ _ _ _ (fw_B_giveOrder hw)) mv_F_182 rfl rfl rfl (Or.inr ⟨rfl, rfl⟩) rfl rfl ⟨Nat.le_of_ble_eq_true rfl, Nat.le_of_ble_eq_true rfl⟩ ⟨rfl, rfl⟩ ⟨Nat.zero_le _, Nat.zero_le _⟩ (Nat.le_of_ble_eq_true rfl) (fun I' J' hp8 => ?_)
        obtain ⟨rfl, rfl⟩ := hp8
        exact fr_vret d_F_tripIfDue_62 rfl (Nat.zero_le _) (Nat.zero_le _) ⟨(by unfold f_F_tripIfDue; rw [if_neg h2, if_neg h4, if_pos h6]), rfl⟩
theorem fw_F_tripIfDue {n : Nat} {I : fr_I} {J : fr_J} {r : Nat} (hw : fr_wf n I) : fr_wf n (f_F_tripIfDue I J n r) := by
  unfold f_F_tripIfDue
  refine fw_ite (fun h => ?_) (fun h => ?_)
  · skip
    exact hw
  · skip
    refine fw_ite (fun h => ?_) (fun h => ?_)
    · skip
      exact hw
    · skip
      refine fw_ite (fun h => ?_) (fun h => ?_)
      · skip
        exact (fw_J_add (fw_B_giveOrder hw))
      · skip
        exact hw
theorem fc_F_tripIfDue {P : fr_I → Prop} (hP : fr_cst P) {n : Nat} {I : fr_I} {J : fr_J} {r : Nat} (h : P I) : P (f_F_tripIfDue I J n r) := by
  unfold f_F_tripIfDue
  refine fw_ite (fun _ => ?_) (fun _ => ?_)
  · skip
    exact h
  · skip
    refine fw_ite (fun _ => ?_) (fun _ => ?_)
    · skip
      exact h
    · skip
      refine fw_ite (fun _ => ?_) (fun _ => ?_)
      · skip
        exact (fc_J_add hP (fc_B_giveOrder hP h))
      · skip
        exact h
def f_F_state (I : fr_I) (n : Nat) (r : Nat) : Int32 :=
  if (I 8 r 6) = 0 then
    if (f_F_isBlocked I n r) = 0 then
      (f_B_bits I r)
    else
      ((f_B_bits I r) + Int32.ofInt 64)
  else
    if (f_F_isBlocked I n r) = 0 then
      ((f_B_bits I r) + Int32.ofInt 2)
    else
      (((f_B_bits I r) + Int32.ofInt 2) + Int32.ofInt 64)
set_option maxRecDepth 10000 in
theorem ct_F_state (X : fr_X) (n : Nat) (r : Nat) (hr : r < n) (I : fr_I) (J : fr_J)  (hw : fr_wf n I) : fr_Ct X y_F_state c_F_state 3 (some .int) (fr_rm 2) [.ref (fr_ad X 0 0), .int (nI r)] (fr_Z0 X n) (fr_Z0 X n) I J (fr_pi (fun x I' J' => (f_F_state I n r) = x ∧ I = I' ∧ J = J')) := by
  refine fr_ct (by decide) rfl rfl (Nat.le_of_ble_eq_true rfl) rfl (fun E => ?_)
  refine fr_aload_n d_F_state_0 rfl ?_
  refine fr_iload_n d_F_state_1 rfl ?_
  refine fr_callVi fr_q0 d_F_state_2 (ct_F_isRelay X n _ _ _) mv_F_44 rfl rfl rfl (Or.inr ⟨rfl, rfl⟩) rfl rfl ⟨Nat.le_of_ble_eq_true rfl, Nat.le_of_ble_eq_true rfl⟩ ⟨rfl, rfl⟩ ⟨Nat.zero_le _, Nat.zero_le _⟩ (Nat.le_of_ble_eq_true rfl) (fun x I' J' hp1 => ?_)
  obtain ⟨rfl, rfl, rfl⟩ := hp1
  rw [fr_isR_in hw hr]
  refine fr_if_ne 10 d_F_state_5 rfl (fun _ => ?_) (fun h => absurd h (by decide))
  refine fr_aload_n d_F_state_10 rfl ?_
  refine fr_getr (k' := 1) (r' := 0) d_F_state_11 fl_F_11 rfl rfl rfl (Or.inr ⟨rfl, rfl⟩) ?_
  refine fr_iload_n d_F_state_14 rfl ?_
  refine fr_aald (k' := 7) (r' := r) (r) d_F_state_15 rfl rfl (if_pos hr) (Or.inr ⟨rfl, rfl⟩) rfl (fw_lt8 hw hr) (by decide) ?_
  refine fr_getr (k' := 10) (r' := r) d_F_state_16 fl_F_77 rfl rfl rfl (Or.inl ⟨rfl, hr⟩) ?_
  refine fr_callVi fr_q4 d_F_state_19 (ct_B_bits X n r hr _ _) mv_F_113 rfl rfl rfl (Or.inl ⟨rfl, hr⟩) rfl rfl ⟨Nat.le_of_ble_eq_true rfl, Nat.le_of_ble_eq_true rfl⟩ ⟨rfl, rfl⟩ ⟨Nat.zero_le _, Nat.zero_le _⟩ (Nat.le_of_ble_eq_true rfl) (fun x I' J' hp2 => ?_)
  obtain ⟨rfl, rfl, rfl⟩ := hp2
  refine fr_istore_n (L' := [(2, .int _), (0, .ref _), (1, .int _)]) d_F_state_22 (by decide) rfl ?_
  refine fr_aload_n d_F_state_23 rfl ?_
  refine fr_getr (k' := 1) (r' := 0) d_F_state_24 fl_F_11 rfl rfl rfl (Or.inr ⟨rfl, rfl⟩) ?_
  refine fr_iload_n d_F_state_27 rfl ?_
  refine fr_aald (k' := 7) (r' := r) (r) d_F_state_28 rfl rfl (if_pos hr) (Or.inr ⟨rfl, rfl⟩) rfl (fw_lt8 hw hr) (by decide) ?_
  refine fr_getr (k' := 8) (r' := r) d_F_state_29 fl_F_51 rfl rfl rfl (Or.inl ⟨rfl, hr⟩) ?_
  refine fr_geti d_F_state_32 fl_F_116 rfl rfl (Or.inl ⟨rfl, hr⟩) ?_
  refine fr_if_eq 41 d_F_state_35 rfl (fun h3 => ?_) (fun h3 => ?_)
  · skip
    refine fr_aload_n d_F_state_41 rfl ?_
    refine fr_iload_n d_F_state_42 rfl ?_
    refine fr_callVi fr_q0 d_F_state_43 (ct_F_isBlocked X n r hr _ _ hw) mv_F_119 rfl rfl rfl (Or.inr ⟨rfl, rfl⟩) rfl rfl ⟨Nat.le_of_ble_eq_true rfl, Nat.le_of_ble_eq_true rfl⟩ ⟨rfl, rfl⟩ ⟨Nat.zero_le _, Nat.zero_le _⟩ (Nat.le_of_ble_eq_true rfl) (fun x I' J' hp4 => ?_)
    obtain ⟨rfl, rfl, rfl⟩ := hp4
    refine fr_if_eq 52 d_F_state_46 rfl (fun h5 => ?_) (fun h5 => ?_)
    · skip
      refine fr_iload_n d_F_state_52 rfl ?_
      exact fr_iret d_F_state_53 rfl (fr_nar_i _) (Nat.zero_le _) (Nat.zero_le _) ⟨(by unfold f_F_state; rw [if_pos h3, if_pos h5]), rfl, rfl⟩
    · skip
      refine fr_iinc (v := ((f_B_bits I r) + Int32.ofInt 64)) (L' := [(2, .int _), (0, .ref _), (1, .int _)]) d_F_state_49 rfl rfl (by decide) rfl ?_
      refine fr_iload_n d_F_state_52 rfl ?_
      exact fr_iret d_F_state_53 rfl (fr_nar_i _) (Nat.zero_le _) (Nat.zero_le _) ⟨(by unfold f_F_state; rw [if_pos h3, if_neg h5]), rfl, rfl⟩
  · skip
    refine fr_iinc (v := ((f_B_bits I r) + Int32.ofInt 2)) (L' := [(2, .int _), (0, .ref _), (1, .int _)]) d_F_state_38 rfl rfl (by decide) rfl ?_
    refine fr_aload_n d_F_state_41 rfl ?_
    refine fr_iload_n d_F_state_42 rfl ?_
    refine fr_callVi fr_q0 d_F_state_43 (ct_F_isBlocked X n r hr _ _ hw) mv_F_119 rfl rfl rfl (Or.inr ⟨rfl, rfl⟩) rfl rfl ⟨Nat.le_of_ble_eq_true rfl, Nat.le_of_ble_eq_true rfl⟩ ⟨rfl, rfl⟩ ⟨Nat.zero_le _, Nat.zero_le _⟩ (Nat.le_of_ble_eq_true rfl) (fun x I' J' hp6 => ?_)
    obtain ⟨rfl, rfl, rfl⟩ := hp6
    refine fr_if_eq 52 d_F_state_46 rfl (fun h7 => ?_) (fun h7 => ?_)
    · skip
      refine fr_iload_n d_F_state_52 rfl ?_
      exact fr_iret d_F_state_53 rfl (fr_nar_i _) (Nat.zero_le _) (Nat.zero_le _) ⟨(by unfold f_F_state; rw [if_neg h3, if_pos h7]), rfl, rfl⟩
    · skip
      refine fr_iinc (v := (((f_B_bits I r) + Int32.ofInt 2) + Int32.ofInt 64)) (L' := [(2, .int _), (0, .ref _), (1, .int _)]) d_F_state_49 rfl rfl (by decide) rfl ?_
      refine fr_iload_n d_F_state_52 rfl ?_
      exact fr_iret d_F_state_53 rfl (fr_nar_i _) (Nat.zero_le _) (Nat.zero_le _) ⟨(by unfold f_F_state; rw [if_neg h3, if_neg h7]), rfl, rfl⟩
def f_F_state_no (I : fr_I) (p1 : Int32) : Int32 :=
  (-1)
set_option maxRecDepth 10000 in
theorem ct_F_state_no (X : fr_X) (n : Nat) (I : fr_I) (J : fr_J) (p1 : Int32) (hx : f_F_isRelay I p1 = 0) : fr_Ct X y_F_state c_F_state 3 (some .int) (fr_rm 2) [.ref (fr_ad X 0 0), .int p1] (fr_Z0 X n) (fr_Z0 X n) I J (fr_pi (fun x I' J' => (f_F_state_no I p1) = x ∧ I = I' ∧ J = J')) := by
  refine fr_ct (by decide) rfl rfl (Nat.le_of_ble_eq_true rfl) rfl (fun E => ?_)
  refine fr_aload_n d_F_state_0 rfl ?_
  refine fr_iload_n d_F_state_1 rfl ?_
  refine fr_callVi fr_q0 d_F_state_2 (ct_F_isRelay X n _ _ _) mv_F_44 rfl rfl rfl (Or.inr ⟨rfl, rfl⟩) rfl rfl ⟨Nat.le_of_ble_eq_true rfl, Nat.le_of_ble_eq_true rfl⟩ ⟨rfl, rfl⟩ ⟨Nat.zero_le _, Nat.zero_le _⟩ (Nat.le_of_ble_eq_true rfl) (fun x I' J' hp1 => ?_)
  obtain ⟨rfl, rfl, rfl⟩ := hp1
  rw [hx]
  refine fr_if_ne 10 d_F_state_5 rfl (fun h => absurd h (by decide)) (fun _ => ?_)
  refine fr_iconst d_F_state_8 fr_im1 ?_
  exact fr_iret d_F_state_9 rfl (fr_nar_i _) (Nat.zero_le _) (Nat.zero_le _) ⟨rfl, rfl, rfl⟩
def fb_F_findFlows  (I : fr_I) (i : Nat) : fr_I :=
  if (I 10 i 0) = 0 then
    (fr_ui (fr_ui I 3 0 i 0) 2 0 i 0)
  else
    if (I 7 i 0) = (-1) then
      (fr_ui (fr_ui I 3 0 i 1) 2 0 i (((fr_ui I 3 0 i 1) 7 i 7) + ((fr_ui I 3 0 i 1) 7 i 8)))
    else
      if (I 3 0 ((I 7 i 0).toNatClampNeg)) = 0 then
        (fr_ui (fr_ui I 3 0 i 0) 2 0 i 0)
      else
        (fr_ui (fr_ui I 3 0 i 1) 2 0 i (((fr_ui I 3 0 i 1) 7 i 7) + ((fr_ui I 3 0 i 1) 7 i 8)))
theorem fb_F_findFlows_eq  (I : fr_I) (i : Nat) : fb_F_findFlows  I i =
  if (I 10 i 0) = 0 then
    (fr_ui (fr_ui I 3 0 i 0) 2 0 i 0)
  else
    if (I 7 i 0) = (-1) then
      (fr_ui (fr_ui I 3 0 i 1) 2 0 i (((fr_ui I 3 0 i 1) 7 i 7) + ((fr_ui I 3 0 i 1) 7 i 8)))
    else
      if (I 3 0 ((I 7 i 0).toNatClampNeg)) = 0 then
        (fr_ui (fr_ui I 3 0 i 0) 2 0 i 0)
      else
        (fr_ui (fr_ui I 3 0 i 1) 2 0 i (((fr_ui I 3 0 i 1) 7 i 7) + ((fr_ui I 3 0 i 1) 7 i 8))) := rfl
theorem fw_fb_F_findFlows {n : Nat} {I : fr_I} {i : Nat} (hw : fr_wf n I) : fr_wf n (fb_F_findFlows  I i) := by
  unfold fb_F_findFlows
  refine fw_ite (fun h => ?_) (fun h => ?_)
  · skip
    exact (fw_ui (k := 2) rfl (fw_ui (k := 3) rfl hw))
  · skip
    refine fw_ite (fun h => ?_) (fun h => ?_)
    · skip
      exact (fw_ui (k := 2) rfl (fw_ui (k := 3) rfl hw))
    · skip
      refine fw_ite (fun h => ?_) (fun h => ?_)
      · skip
        exact (fw_ui (k := 2) rfl (fw_ui (k := 3) rfl hw))
      · skip
        exact (fw_ui (k := 2) rfl (fw_ui (k := 3) rfl hw))
theorem fc_fb_F_findFlows {P : fr_I → Prop} (hP : fr_cst P) {I : fr_I} {i : Nat} (h : P I) : P (fb_F_findFlows  I i) := by
  unfold fb_F_findFlows
  refine fw_ite (fun _ => ?_) (fun _ => ?_)
  · skip
    exact (hP (k := 2) (by decide) (hP (k := 3) (by decide) h))
  · skip
    refine fw_ite (fun _ => ?_) (fun _ => ?_)
    · skip
      exact (hP (k := 2) (by decide) (hP (k := 3) (by decide) h))
    · skip
      refine fw_ite (fun _ => ?_) (fun _ => ?_)
      · skip
        exact (hP (k := 2) (by decide) (hP (k := 3) (by decide) h))
      · skip
        exact (hP (k := 2) (by decide) (hP (k := 3) (by decide) h))
def f_F_findFlows (I : fr_I) (n : Nat) : fr_I :=
  (fr_f2 (n - 1) (fr_it (fb_F_findFlows ) I n))
set_option maxRecDepth 10000 in
theorem ct_F_findFlows (X : fr_X) (n : Nat) (I : fr_I) (J : fr_J)  (hw : fr_wf n I) : fr_Ct X y_F_findFlows c_F_findFlows 3 none (fr_rm 0) [.ref (fr_ad X 0 0)] (fr_Z0 X n) (fr_Z0 X n) I J (fr_pv (fun I' J' => (f_F_findFlows I n) = I' ∧ J = J')) := by
  refine fr_ct (by decide) rfl rfl (Nat.le_of_ble_eq_true rfl) rfl (fun E => ?_)
  refine fr_iconst d_F_findFlows_0 fr_i0 ?_
  refine fr_istore_n (L' := [(1, .int _), (0, .ref _)]) d_F_findFlows_1 (by decide) rfl ?_
  refine fr_pick (L' := [(1, .int _), (0, .ref _)]) [0, 1] rfl ?_
  refine fr_loop (fr_it (fb_F_findFlows ) I) (fun _ => J) (fun i => [(1, .int (nI i)), (0, .ref (fr_ad X 0 0))]) n rfl fr_it_0 rfl ?_ (fun i hi ih => ?_)
  · skip
    have hwe1 : fr_wf n ((fr_it (fb_F_findFlows ) I n)) := (fw_it n (fun I i hi hw => fw_fb_F_findFlows  hw) hw n (Nat.le_refl _))
    refine fr_iload_n d_F_findFlows_2 rfl ?_
    refine fr_aload_n d_F_findFlows_3 rfl ?_
    refine fr_geti d_F_findFlows_4 fl_F_30 rfl rfl (Or.inr ⟨rfl, rfl⟩) ?_
    refine fr_icmp_ge 92 d_F_findFlows_7 rfl (fun _ => ?_) (fun h => absurd (by rw [fw_cnt hwe1]; exact nI_le (Nat.le_refl _) (by have := fw_n8 hw; omega)) h)
    refine fr_aload_n d_F_findFlows_92 rfl ?_
    refine fr_geti d_F_findFlows_93 fl_F_30 rfl rfl (Or.inr ⟨rfl, rfl⟩) ?_
    refine fr_iconst d_F_findFlows_96 fr_i1 ?_
    refine fr_isub d_F_findFlows_97 ?_
    refine fr_istore_n (L' := [(1, .int _), (0, .ref _)]) d_F_findFlows_98 (by decide) rfl ?_
    rw [fw_cnt hwe1]
    rcases Nat.eq_zero_or_pos n with h0 | h0
    · subst h0
      refine fr_iload_n d_F_findFlows_99 rfl ?_
      refine fr_if_le 132 d_F_findFlows_100 rfl (fun _ => ?_) (fun h => absurd (by decide) h)
      exact fr_vret d_F_findFlows_132 rfl (Nat.zero_le _) (Nat.zero_le _) ⟨rfl, rfl⟩
    · obtain ⟨m, rfl⟩ : ∃ m, n = m + 1 := ⟨n - 1, by omega⟩
      rw [nI_pred]
      refine fr_pick (L' := [(1, .int _), (0, .ref _)]) [0, 1] rfl ?_
      refine fr_ind2 (fun K (_ : fr_I) => [(1, .int (nI K)), (0, .ref (fr_ad X 0 0))]) (fun a => (a, J)) (fun K a => fr_wf (m + 1) a ∧ fr_f2 K a = f_F_findFlows I (m + 1)) m _ rfl rfl rfl ⟨hwe1, rfl⟩ (fun a ha => ?_) (fun K a hK ha ih => ?_)
      · skip
        refine fr_iload_n d_F_findFlows_99 rfl ?_
        refine fr_if_le 132 d_F_findFlows_100 rfl (fun _ => ?_) (fun h => absurd (by decide) h)
        exact fr_vret d_F_findFlows_132 rfl (Nat.zero_le _) (Nat.zero_le _) ⟨ha.2.symm, rfl⟩
      · skip
        have hk : K + 1 < m + 1 := by omega
        refine fr_iload_n d_F_findFlows_99 rfl ?_
        refine fr_if_le 132 d_F_findFlows_100 rfl (fun h => absurd h (nI_nle (by omega) (by have := fw_n8 hw; omega))) (fun _ => ?_)
        refine fr_aload_n d_F_findFlows_103 rfl ?_
        refine fr_getr (k' := 2) (r' := 0) d_F_findFlows_104 fl_F_15 rfl rfl rfl (Or.inr ⟨rfl, rfl⟩) ?_
        refine fr_aload_n d_F_findFlows_107 rfl ?_
        refine fr_getr (k' := 1) (r' := 0) d_F_findFlows_108 fl_F_11 rfl rfl rfl (Or.inr ⟨rfl, rfl⟩) ?_
        refine fr_iload_n d_F_findFlows_111 rfl ?_
        refine fr_aald (k' := 7) (r' := K + 1) (K + 1) d_F_findFlows_112 rfl rfl (if_pos hk) (Or.inr ⟨rfl, rfl⟩) rfl (fw_lt8 hw hk) (by decide) ?_
        refine fr_geti d_F_findFlows_113 fl_F_134 rfl rfl (Or.inl ⟨rfl, hk⟩) ?_
        refine fr_dup2 d_F_findFlows_116 rfl rfl ?_
        refine fr_iald ((a 7 (K + 1) 0).toNatClampNeg) d_F_findFlows_117 rfl rfl (Or.inr ⟨rfl, rfl⟩) (fw_abv_eq ha.1 hk (fw_abv_n ha.1 hk (by omega))) (Nat.lt_trans (fw_abv_lt ha.1 hk (fw_abv_n ha.1 hk (by omega))) (fw_lt8 hw hk)) (by decide) ?_
        refine fr_aload_n d_F_findFlows_118 rfl ?_
        refine fr_getr (k' := 2) (r' := 0) d_F_findFlows_119 fl_F_15 rfl rfl rfl (Or.inr ⟨rfl, rfl⟩) ?_
        refine fr_iload_n d_F_findFlows_122 rfl ?_
        refine fr_iald (K + 1) d_F_findFlows_123 rfl rfl (Or.inr ⟨rfl, rfl⟩) rfl (fw_lt8 hw hk) (by decide) ?_
        refine fr_iadd d_F_findFlows_124 ?_
        refine fr_iast ((a 7 (K + 1) 0).toNatClampNeg) d_F_findFlows_125 rfl rfl (Or.inr ⟨rfl, rfl⟩) (fw_abv_eq ha.1 hk (fw_abv_n ha.1 hk (by omega))) (Nat.lt_trans (fw_abv_lt ha.1 hk (fw_abv_n ha.1 hk (by omega))) (fw_lt8 hw hk)) (by decide) ?_
        refine fr_iinc (v := (nI K)) (L' := [(1, .int _), (0, .ref _)]) d_F_findFlows_126 rfl (fr_dec _) (by decide) rfl ?_
        refine fr_goto 99 d_F_findFlows_129 rfl ?_
        refine fr_pick (L' := [(1, .int _), (0, .ref _)]) [0, 1] rfl ?_
        exact ih (fr_f2s a (K + 1)) ⟨fw_f2s ha.1, ha.2⟩
  · skip
    have hwi1 : fr_wf n ((fr_it (fb_F_findFlows ) I i)) := (fw_it n (fun I i hi hw => fw_fb_F_findFlows  hw) hw i (Nat.le_of_lt hi))
    refine fr_iload_n d_F_findFlows_2 rfl ?_
    refine fr_aload_n d_F_findFlows_3 rfl ?_
    refine fr_geti d_F_findFlows_4 fl_F_30 rfl rfl (Or.inr ⟨rfl, rfl⟩) ?_
    refine fr_icmp_ge 92 d_F_findFlows_7 rfl (fun h => absurd h (by rw [fw_cnt hwi1]; exact nI_ge hi (by have := fw_n8 hw; omega))) (fun _ => ?_)
    refine fr_aload_n d_F_findFlows_10 rfl ?_
    refine fr_getr (k' := 1) (r' := 0) d_F_findFlows_11 fl_F_11 rfl rfl rfl (Or.inr ⟨rfl, rfl⟩) ?_
    refine fr_iload_n d_F_findFlows_14 rfl ?_
    refine fr_aald (k' := 7) (r' := i) (i) d_F_findFlows_15 rfl rfl (if_pos hi) (Or.inr ⟨rfl, rfl⟩) rfl (fw_lt8 hw hi) (by decide) ?_
    refine fr_astore_n (L' := [(2, .ref _), (1, .int _), (0, .ref _)]) d_F_findFlows_16 (by decide) rfl ?_
    refine fr_aload_n d_F_findFlows_17 rfl ?_
    refine fr_getr (k' := 3) (r' := 0) d_F_findFlows_18 fl_F_19 rfl rfl rfl (Or.inr ⟨rfl, rfl⟩) ?_
    refine fr_iload_n d_F_findFlows_21 rfl ?_
    refine fr_aload_n d_F_findFlows_22 rfl ?_
    refine fr_getr (k' := 10) (r' := i) d_F_findFlows_23 fl_F_77 rfl rfl rfl (Or.inl ⟨rfl, hi⟩) ?_
    refine fr_geti d_F_findFlows_26 fl_F_95 rfl rfl (Or.inl ⟨rfl, hi⟩) ?_
    refine fr_if_eq 56 d_F_findFlows_29 rfl (fun h1 => ?_) (fun h1 => ?_)
    · skip
      refine fr_iconst d_F_findFlows_56 fr_i0 ?_
      refine fr_zast (i) d_F_findFlows_57 rfl rfl (Or.inl rfl) (Or.inr ⟨rfl, rfl⟩) rfl (fw_lt8 hw hi) (by decide) ?_
      refine fr_aload_n d_F_findFlows_58 rfl ?_
      refine fr_getr (k' := 2) (r' := 0) d_F_findFlows_59 fl_F_15 rfl rfl rfl (Or.inr ⟨rfl, rfl⟩) ?_
      refine fr_iload_n d_F_findFlows_62 rfl ?_
      refine fr_aload_n d_F_findFlows_63 rfl ?_
      refine fr_getr (k' := 3) (r' := 0) d_F_findFlows_64 fl_F_19 rfl rfl rfl (Or.inr ⟨rfl, rfl⟩) ?_
      refine fr_iload_n d_F_findFlows_67 rfl ?_
      refine fr_zald (i) d_F_findFlows_68 rfl rfl (Or.inr ⟨rfl, rfl⟩) rfl (fw_lt8 hw hi) (by decide) ?_
      rw [fr_ui_s]
      refine fr_if_eq 84 d_F_findFlows_69 rfl (fun _ => ?_) (fun h => absurd h (by decide))
      refine fr_iconst d_F_findFlows_84 fr_i0 ?_
      refine fr_iast (i) d_F_findFlows_85 rfl rfl (Or.inr ⟨rfl, rfl⟩) rfl (fw_lt8 hw hi) (by decide) ?_
      refine fr_iinc (v := (nI (i + 1))) (L' := [(1, .int _), (2, .ref _), (0, .ref _)]) d_F_findFlows_86 rfl (fr_inc _) (by decide) rfl ?_
      refine fr_goto 2 d_F_findFlows_89 rfl ?_
      refine fr_pick (L' := [(1, .int _), (0, .ref _)]) [0, 2] rfl ?_
      refine fr_eqI (I' := fr_it (fb_F_findFlows ) I (i + 1)) (Eq.symm (by rw [fr_it_s, fb_F_findFlows_eq, if_pos h1])) rfl ?_
      exact ih
    · skip
      refine fr_aload_n d_F_findFlows_32 rfl ?_
      refine fr_geti d_F_findFlows_33 fl_F_134 rfl rfl (Or.inl ⟨rfl, hi⟩) ?_
      refine fr_iconst d_F_findFlows_36 fr_im1 ?_
      refine fr_icmp_eq 52 d_F_findFlows_37 rfl (fun h2 => ?_) (fun h2 => ?_)
      · skip
        refine fr_iconst d_F_findFlows_52 fr_i1 ?_
        refine fr_goto 57 d_F_findFlows_53 rfl ?_
        refine fr_zast (i) d_F_findFlows_57 rfl rfl (Or.inr rfl) (Or.inr ⟨rfl, rfl⟩) rfl (fw_lt8 hw hi) (by decide) ?_
        refine fr_aload_n d_F_findFlows_58 rfl ?_
        refine fr_getr (k' := 2) (r' := 0) d_F_findFlows_59 fl_F_15 rfl rfl rfl (Or.inr ⟨rfl, rfl⟩) ?_
        refine fr_iload_n d_F_findFlows_62 rfl ?_
        refine fr_aload_n d_F_findFlows_63 rfl ?_
        refine fr_getr (k' := 3) (r' := 0) d_F_findFlows_64 fl_F_19 rfl rfl rfl (Or.inr ⟨rfl, rfl⟩) ?_
        refine fr_iload_n d_F_findFlows_67 rfl ?_
        refine fr_zald (i) d_F_findFlows_68 rfl rfl (Or.inr ⟨rfl, rfl⟩) rfl (fw_lt8 hw hi) (by decide) ?_
        rw [fr_ui_s]
        refine fr_if_eq 84 d_F_findFlows_69 rfl (fun h => absurd h (by decide)) (fun _ => ?_)
        refine fr_aload_n d_F_findFlows_72 rfl ?_
        refine fr_geti d_F_findFlows_73 fl_F_71 rfl rfl (Or.inl ⟨rfl, hi⟩) ?_
        refine fr_aload_n d_F_findFlows_76 rfl ?_
        refine fr_geti d_F_findFlows_77 fl_F_74 rfl rfl (Or.inl ⟨rfl, hi⟩) ?_
        refine fr_iadd d_F_findFlows_80 ?_
        refine fr_goto 85 d_F_findFlows_81 rfl ?_
        refine fr_iast (i) d_F_findFlows_85 rfl rfl (Or.inr ⟨rfl, rfl⟩) rfl (fw_lt8 hw hi) (by decide) ?_
        refine fr_iinc (v := (nI (i + 1))) (L' := [(1, .int _), (2, .ref _), (0, .ref _)]) d_F_findFlows_86 rfl (fr_inc _) (by decide) rfl ?_
        refine fr_goto 2 d_F_findFlows_89 rfl ?_
        refine fr_pick (L' := [(1, .int _), (0, .ref _)]) [0, 2] rfl ?_
        refine fr_eqI (I' := fr_it (fb_F_findFlows ) I (i + 1)) (Eq.symm (by rw [fr_it_s, fb_F_findFlows_eq, if_neg h1, if_pos h2])) rfl ?_
        exact ih
      · skip
        refine fr_aload_n d_F_findFlows_40 rfl ?_
        refine fr_getr (k' := 3) (r' := 0) d_F_findFlows_41 fl_F_19 rfl rfl rfl (Or.inr ⟨rfl, rfl⟩) ?_
        refine fr_aload_n d_F_findFlows_44 rfl ?_
        refine fr_geti d_F_findFlows_45 fl_F_134 rfl rfl (Or.inl ⟨rfl, hi⟩) ?_
        refine fr_zald (((fr_it (fb_F_findFlows ) I i) 7 i 0).toNatClampNeg) d_F_findFlows_48 rfl rfl (Or.inr ⟨rfl, rfl⟩) (fw_abv_eq hwi1 hi h2) (Nat.lt_trans (fw_abv_lt hwi1 hi h2) (fw_lt8 hw hi)) (by decide) ?_
        refine fr_if_eq 56 d_F_findFlows_49 rfl (fun h3 => ?_) (fun h3 => ?_)
        · skip
          refine fr_iconst d_F_findFlows_56 fr_i0 ?_
          refine fr_zast (i) d_F_findFlows_57 rfl rfl (Or.inl rfl) (Or.inr ⟨rfl, rfl⟩) rfl (fw_lt8 hw hi) (by decide) ?_
          refine fr_aload_n d_F_findFlows_58 rfl ?_
          refine fr_getr (k' := 2) (r' := 0) d_F_findFlows_59 fl_F_15 rfl rfl rfl (Or.inr ⟨rfl, rfl⟩) ?_
          refine fr_iload_n d_F_findFlows_62 rfl ?_
          refine fr_aload_n d_F_findFlows_63 rfl ?_
          refine fr_getr (k' := 3) (r' := 0) d_F_findFlows_64 fl_F_19 rfl rfl rfl (Or.inr ⟨rfl, rfl⟩) ?_
          refine fr_iload_n d_F_findFlows_67 rfl ?_
          refine fr_zald (i) d_F_findFlows_68 rfl rfl (Or.inr ⟨rfl, rfl⟩) rfl (fw_lt8 hw hi) (by decide) ?_
          rw [fr_ui_s]
          refine fr_if_eq 84 d_F_findFlows_69 rfl (fun _ => ?_) (fun h => absurd h (by decide))
          refine fr_iconst d_F_findFlows_84 fr_i0 ?_
          refine fr_iast (i) d_F_findFlows_85 rfl rfl (Or.inr ⟨rfl, rfl⟩) rfl (fw_lt8 hw hi) (by decide) ?_
          refine fr_iinc (v := (nI (i + 1))) (L' := [(1, .int _), (2, .ref _), (0, .ref _)]) d_F_findFlows_86 rfl (fr_inc _) (by decide) rfl ?_
          refine fr_goto 2 d_F_findFlows_89 rfl ?_
          refine fr_pick (L' := [(1, .int _), (0, .ref _)]) [0, 2] rfl ?_
          refine fr_eqI (I' := fr_it (fb_F_findFlows ) I (i + 1)) (Eq.symm (by rw [fr_it_s, fb_F_findFlows_eq, if_neg h1, if_neg h2, if_pos h3])) rfl ?_
          exact ih
        · skip
          refine fr_iconst d_F_findFlows_52 fr_i1 ?_
          refine fr_goto 57 d_F_findFlows_53 rfl ?_
          refine fr_zast (i) d_F_findFlows_57 rfl rfl (Or.inr rfl) (Or.inr ⟨rfl, rfl⟩) rfl (fw_lt8 hw hi) (by decide) ?_
          refine fr_aload_n d_F_findFlows_58 rfl ?_
          refine fr_getr (k' := 2) (r' := 0) d_F_findFlows_59 fl_F_15 rfl rfl rfl (Or.inr ⟨rfl, rfl⟩) ?_
          refine fr_iload_n d_F_findFlows_62 rfl ?_
          refine fr_aload_n d_F_findFlows_63 rfl ?_
          refine fr_getr (k' := 3) (r' := 0) d_F_findFlows_64 fl_F_19 rfl rfl rfl (Or.inr ⟨rfl, rfl⟩) ?_
          refine fr_iload_n d_F_findFlows_67 rfl ?_
          refine fr_zald (i) d_F_findFlows_68 rfl rfl (Or.inr ⟨rfl, rfl⟩) rfl (fw_lt8 hw hi) (by decide) ?_
          rw [fr_ui_s]
          refine fr_if_eq 84 d_F_findFlows_69 rfl (fun h => absurd h (by decide)) (fun _ => ?_)
          refine fr_aload_n d_F_findFlows_72 rfl ?_
          refine fr_geti d_F_findFlows_73 fl_F_71 rfl rfl (Or.inl ⟨rfl, hi⟩) ?_
          refine fr_aload_n d_F_findFlows_76 rfl ?_
          refine fr_geti d_F_findFlows_77 fl_F_74 rfl rfl (Or.inl ⟨rfl, hi⟩) ?_
          refine fr_iadd d_F_findFlows_80 ?_
          refine fr_goto 85 d_F_findFlows_81 rfl ?_
          refine fr_iast (i) d_F_findFlows_85 rfl rfl (Or.inr ⟨rfl, rfl⟩) rfl (fw_lt8 hw hi) (by decide) ?_
          refine fr_iinc (v := (nI (i + 1))) (L' := [(1, .int _), (2, .ref _), (0, .ref _)]) d_F_findFlows_86 rfl (fr_inc _) (by decide) rfl ?_
          refine fr_goto 2 d_F_findFlows_89 rfl ?_
          refine fr_pick (L' := [(1, .int _), (0, .ref _)]) [0, 2] rfl ?_
          refine fr_eqI (I' := fr_it (fb_F_findFlows ) I (i + 1)) (Eq.symm (by rw [fr_it_s, fb_F_findFlows_eq, if_neg h1, if_neg h2, if_neg h3])) rfl ?_
          exact ih
theorem fw_F_findFlows {n : Nat} {I : fr_I} (hw : fr_wf n I) : fr_wf n (f_F_findFlows I n) := by
  unfold f_F_findFlows
  exact (fw_f2 (fw_it n (fun I i hi hw => fw_fb_F_findFlows hw) hw n (Nat.le_refl _)))
theorem fc_F_findFlows {P : fr_I → Prop} (hP : fr_cst P) {n : Nat} {I : fr_I} (h : P I) : P (f_F_findFlows I n) := by
  unfold f_F_findFlows
  exact (fc_f2 hP (fw_it n (fun I i hi h => fc_fb_F_findFlows hP h) h n (Nat.le_refl _)))
def f_F_current (I : fr_I) (n : Nat) (r : Nat) : Int32 × fr_I :=
  (((f_F_findFlows I n) 2 0 r), (f_F_findFlows I n))
set_option maxRecDepth 10000 in
theorem ct_F_current (X : fr_X) (n : Nat) (r : Nat) (hr : r < n) (I : fr_I) (J : fr_J)  (hw : fr_wf n I) : fr_Ct X y_F_current c_F_current 2 (some .int) (fr_rm 1) [.ref (fr_ad X 0 0), .int (nI r)] (fr_Z0 X n) (fr_Z0 X n) I J (fr_pi (fun x I' J' => (f_F_current I n r).1 = x ∧ (f_F_current I n r).2 = I' ∧ J = J')) := by
  refine fr_ct (by decide) rfl rfl (Nat.le_of_ble_eq_true rfl) rfl (fun E => ?_)
  refine fr_aload_n d_F_current_0 rfl ?_
  refine fr_iload_n d_F_current_1 rfl ?_
  refine fr_callVi fr_q0 d_F_current_2 (ct_F_isRelay X n _ _ _) mv_F_44 rfl rfl rfl (Or.inr ⟨rfl, rfl⟩) rfl rfl ⟨Nat.le_of_ble_eq_true rfl, Nat.le_of_ble_eq_true rfl⟩ ⟨rfl, rfl⟩ ⟨Nat.zero_le _, Nat.zero_le _⟩ (Nat.le_of_ble_eq_true rfl) (fun x I' J' hp1 => ?_)
  obtain ⟨rfl, rfl, rfl⟩ := hp1
  rw [fr_isR_in hw hr]
  refine fr_if_ne 10 d_F_current_5 rfl (fun _ => ?_) (fun h => absurd h (by decide))
  refine fr_aload_n d_F_current_10 rfl ?_
  refine fr_callVv fr_q0 d_F_current_11 (ct_F_findFlows X n _ _ hw) mv_F_110 rfl rfl rfl (Or.inr ⟨rfl, rfl⟩) rfl rfl ⟨Nat.le_of_ble_eq_true rfl, Nat.le_of_ble_eq_true rfl⟩ ⟨rfl, rfl⟩ ⟨Nat.zero_le _, Nat.zero_le _⟩ (Nat.le_of_ble_eq_true rfl) (fun I' J' hp2 => ?_)
  obtain ⟨rfl, rfl⟩ := hp2
  refine fr_aload_n d_F_current_14 rfl ?_
  refine fr_getr (k' := 2) (r' := 0) d_F_current_15 fl_F_15 rfl rfl rfl (Or.inr ⟨rfl, rfl⟩) ?_
  refine fr_iload_n d_F_current_18 rfl ?_
  refine fr_iald (r) d_F_current_19 rfl rfl (Or.inr ⟨rfl, rfl⟩) rfl (fw_lt8 hw hr) (by decide) ?_
  exact fr_iret d_F_current_20 rfl (fr_nar_i _) (Nat.zero_le _) (Nat.zero_le _) (fr_tIx (rfl))
theorem fw_F_current {n : Nat} {I : fr_I} {r : Nat} (hw : fr_wf n I) : fr_wf n (f_F_current I n r).2 := by
  unfold f_F_current
  exact (fw_F_findFlows hw)
theorem fc_F_current {P : fr_I → Prop} (hP : fr_cst P) {n : Nat} {I : fr_I} {r : Nat} (h : P I) : P (f_F_current I n r).2 := by
  unfold f_F_current
  exact (fc_F_findFlows hP h)
def f_F_current_no (I : fr_I) (p1 : Int32) : Int32 :=
  (-1)
set_option maxRecDepth 10000 in
theorem ct_F_current_no (X : fr_X) (n : Nat) (I : fr_I) (J : fr_J) (p1 : Int32) (hx : f_F_isRelay I p1 = 0) : fr_Ct X y_F_current c_F_current 2 (some .int) (fr_rm 1) [.ref (fr_ad X 0 0), .int p1] (fr_Z0 X n) (fr_Z0 X n) I J (fr_pi (fun x I' J' => (f_F_current_no I p1) = x ∧ I = I' ∧ J = J')) := by
  refine fr_ct (by decide) rfl rfl (Nat.le_of_ble_eq_true rfl) rfl (fun E => ?_)
  refine fr_aload_n d_F_current_0 rfl ?_
  refine fr_iload_n d_F_current_1 rfl ?_
  refine fr_callVi fr_q0 d_F_current_2 (ct_F_isRelay X n _ _ _) mv_F_44 rfl rfl rfl (Or.inr ⟨rfl, rfl⟩) rfl rfl ⟨Nat.le_of_ble_eq_true rfl, Nat.le_of_ble_eq_true rfl⟩ ⟨rfl, rfl⟩ ⟨Nat.zero_le _, Nat.zero_le _⟩ (Nat.le_of_ble_eq_true rfl) (fun x I' J' hp1 => ?_)
  obtain ⟨rfl, rfl, rfl⟩ := hp1
  rw [hx]
  refine fr_if_ne 10 d_F_current_5 rfl (fun h => absurd h (by decide)) (fun _ => ?_)
  refine fr_iconst d_F_current_8 fr_im1 ?_
  exact fr_iret d_F_current_9 rfl (fr_nar_i _) (Nat.zero_le _) (Nat.zero_le _) ⟨rfl, rfl, rfl⟩
