def f_F_settings (I : fr_I) (r : Nat) (p2 : Int32) (p3 : Int32) (p4 : Int32) : Int32 × fr_I :=
  if (f_F_isWithin I p2 0 2) = 0 then
    (0, I)
  else
    if (f_F_isWithin I p3 1 5000) = 0 then
      (0, I)
    else
      if (f_F_isWithin I p4 1 1000) = 0 then
        (0, I)
      else
        (1, (f_M_set I r p2 p3 p4))
set_option maxRecDepth 10000 in
theorem ct_F_settings (X : fr_X) (n : Nat) (r : Nat) (hr : r < n) (I : fr_I) (J : fr_J) (p2 : Int32) (p3 : Int32) (p4 : Int32) (hw : fr_wf n I) : fr_Ct X y_F_settings c_F_settings 5 (some .boolean) (fr_rm 1) [.ref (fr_ad X 0 0), .int (nI r), .int p2, .int p3, .int p4] (fr_Z0 X n) (fr_Z0 X n) I J (fr_pi (fun x I' J' => (f_F_settings I r p2 p3 p4).1 = x ∧ (f_F_settings I r p2 p3 p4).2 = I' ∧ J = J')) := by
  refine fr_ct (by decide) rfl rfl (Nat.le_of_ble_eq_true rfl) rfl (fun E => ?_)
  refine fr_aload_n d_F_settings_0 rfl ?_
  refine fr_iload_n d_F_settings_1 rfl ?_
  refine fr_callVi fr_q0 d_F_settings_2 (ct_F_isRelay X n _ _ _) mv_F_44 rfl rfl rfl (Or.inr ⟨rfl, rfl⟩) rfl rfl ⟨Nat.le_of_ble_eq_true rfl, Nat.le_of_ble_eq_true rfl⟩ ⟨rfl, rfl⟩ ⟨Nat.zero_le _, Nat.zero_le _⟩ (Nat.le_of_ble_eq_true rfl) (fun x I' J' hp1 => ?_)
  obtain ⟨rfl, rfl, rfl⟩ := hp1
  rw [fr_isR_in hw hr]
  refine fr_if_eq 40 d_F_settings_5 rfl (fun h => absurd h (by decide)) (fun _ => ?_)
  refine fr_iload_n d_F_settings_8 rfl ?_
  refine fr_iconst d_F_settings_9 fr_i0 ?_
  refine fr_iconst d_F_settings_10 fr_i2 ?_
  refine fr_callSi d_F_settings_11 (ct_F_isWithin X n _ _ _ _ _) ms_F_47 rfl rfl ⟨Nat.le_of_ble_eq_true rfl, Nat.le_of_ble_eq_true rfl⟩ ⟨rfl, rfl⟩ ⟨Nat.zero_le _, Nat.zero_le _⟩ (Nat.le_of_ble_eq_true rfl) (fun x I' J' hp2 => ?_)
  obtain ⟨rfl, rfl, rfl⟩ := hp2
  refine fr_if_eq 40 d_F_settings_14 rfl (fun h3 => ?_) (fun h3 => ?_)
  · skip
    refine fr_iconst d_F_settings_40 fr_i0 ?_
    exact fr_iret d_F_settings_41 rfl (fr_nar_b (Or.inl rfl)) (Nat.zero_le _) (Nat.zero_le _) (fr_tIx (by unfold f_F_settings; rw [if_pos h3]))
  · skip
    refine fr_iload_n d_F_settings_17 rfl ?_
    refine fr_iconst d_F_settings_18 fr_i1 ?_
    refine fr_sipush d_F_settings_19 fr_s5000 ?_
    refine fr_callSi d_F_settings_22 (ct_F_isWithin X n _ _ _ _ _) ms_F_47 rfl rfl ⟨Nat.le_of_ble_eq_true rfl, Nat.le_of_ble_eq_true rfl⟩ ⟨rfl, rfl⟩ ⟨Nat.zero_le _, Nat.zero_le _⟩ (Nat.le_of_ble_eq_true rfl) (fun x I' J' hp4 => ?_)
    obtain ⟨rfl, rfl, rfl⟩ := hp4
    refine fr_if_eq 40 d_F_settings_25 rfl (fun h5 => ?_) (fun h5 => ?_)
    · skip
      refine fr_iconst d_F_settings_40 fr_i0 ?_
      exact fr_iret d_F_settings_41 rfl (fr_nar_b (Or.inl rfl)) (Nat.zero_le _) (Nat.zero_le _) (fr_tIx (by unfold f_F_settings; rw [if_neg h3, if_pos h5]))
    · skip
      refine fr_iload d_F_settings_28 rfl ?_
      refine fr_iconst d_F_settings_30 fr_i1 ?_
      refine fr_sipush d_F_settings_31 fr_s1000 ?_
      refine fr_callSi d_F_settings_34 (ct_F_isWithin X n _ _ _ _ _) ms_F_47 rfl rfl ⟨Nat.le_of_ble_eq_true rfl, Nat.le_of_ble_eq_true rfl⟩ ⟨rfl, rfl⟩ ⟨Nat.zero_le _, Nat.zero_le _⟩ (Nat.le_of_ble_eq_true rfl) (fun x I' J' hp6 => ?_)
      obtain ⟨rfl, rfl, rfl⟩ := hp6
      refine fr_if_ne 42 d_F_settings_37 rfl (fun h7 => ?_) (fun h7 => ?_)
      · skip
        refine fr_aload_n d_F_settings_42 rfl ?_
        refine fr_getr (k' := 1) (r' := 0) d_F_settings_43 fl_F_11 rfl rfl rfl (Or.inr ⟨rfl, rfl⟩) ?_
        refine fr_iload_n d_F_settings_46 rfl ?_
        refine fr_aald (k' := 7) (r' := r) (r) d_F_settings_47 rfl rfl (if_pos hr) (Or.inr ⟨rfl, rfl⟩) rfl (fw_lt8 hw hr) (by decide) ?_
        refine fr_getr (k' := 8) (r' := r) d_F_settings_48 fl_F_51 rfl rfl rfl (Or.inl ⟨rfl, hr⟩) ?_
        refine fr_iload_n d_F_settings_51 rfl ?_
        refine fr_iload_n d_F_settings_52 rfl ?_
        refine fr_iload d_F_settings_53 rfl ?_
        refine fr_callVv fr_q3 d_F_settings_55 (ct_M_set X n r hr _ _ _ _ _) mv_F_55 rfl rfl rfl (Or.inl ⟨rfl, hr⟩) rfl rfl ⟨Nat.le_of_ble_eq_true rfl, Nat.le_of_ble_eq_true rfl⟩ ⟨rfl, rfl⟩ ⟨Nat.zero_le _, Nat.zero_le _⟩ (Nat.le_of_ble_eq_true rfl) (fun I' J' hp8 => ?_)
        obtain ⟨rfl, rfl⟩ := hp8
        refine fr_iconst d_F_settings_58 fr_i1 ?_
        exact fr_iret d_F_settings_59 rfl (fr_nar_b (Or.inr rfl)) (Nat.zero_le _) (Nat.zero_le _) (fr_tIx (by unfold f_F_settings; rw [if_neg h3, if_neg h5, if_neg h7]))
      · skip
        refine fr_iconst d_F_settings_40 fr_i0 ?_
        exact fr_iret d_F_settings_41 rfl (fr_nar_b (Or.inl rfl)) (Nat.zero_le _) (Nat.zero_le _) (fr_tIx (by unfold f_F_settings; rw [if_neg h3, if_neg h5, if_pos h7]))
theorem fw_F_settings {n : Nat} {I : fr_I} {r : Nat} {p2 : Int32} {p3 : Int32} {p4 : Int32} (hw : fr_wf n I) : fr_wf n (f_F_settings I r p2 p3 p4).2 := by
  unfold f_F_settings
  refine fw_ite_2 (fun h => ?_) (fun h => ?_)
  · skip
    exact hw
  · skip
    refine fw_ite_2 (fun h => ?_) (fun h => ?_)
    · skip
      exact hw
    · skip
      refine fw_ite_2 (fun h => ?_) (fun h => ?_)
      · skip
        exact hw
      · skip
        exact (fw_M_set hw)
theorem fc_F_settings {P : fr_I → Prop} (hP : fr_cst P) {I : fr_I} {r : Nat} {p2 : Int32} {p3 : Int32} {p4 : Int32} (h : P I) : P (f_F_settings I r p2 p3 p4).2 := by
  unfold f_F_settings
  refine fw_ite_2 (fun _ => ?_) (fun _ => ?_)
  · skip
    exact h
  · skip
    refine fw_ite_2 (fun _ => ?_) (fun _ => ?_)
    · skip
      exact h
    · skip
      refine fw_ite_2 (fun _ => ?_) (fun _ => ?_)
      · skip
        exact h
      · skip
        exact (fc_M_set hP h)
def f_F_settings_no (I : fr_I) (p1 : Int32) (p2 : Int32) (p3 : Int32) (p4 : Int32) : Int32 :=
  0
set_option maxRecDepth 10000 in
theorem ct_F_settings_no (X : fr_X) (n : Nat) (I : fr_I) (J : fr_J) (p1 : Int32) (p2 : Int32) (p3 : Int32) (p4 : Int32) (hx : f_F_isRelay I p1 = 0) : fr_Ct X y_F_settings c_F_settings 5 (some .boolean) (fr_rm 1) [.ref (fr_ad X 0 0), .int p1, .int p2, .int p3, .int p4] (fr_Z0 X n) (fr_Z0 X n) I J (fr_pi (fun x I' J' => (f_F_settings_no I p1 p2 p3 p4) = x ∧ I = I' ∧ J = J')) := by
  refine fr_ct (by decide) rfl rfl (Nat.le_of_ble_eq_true rfl) rfl (fun E => ?_)
  refine fr_aload_n d_F_settings_0 rfl ?_
  refine fr_iload_n d_F_settings_1 rfl ?_
  refine fr_callVi fr_q0 d_F_settings_2 (ct_F_isRelay X n _ _ _) mv_F_44 rfl rfl rfl (Or.inr ⟨rfl, rfl⟩) rfl rfl ⟨Nat.le_of_ble_eq_true rfl, Nat.le_of_ble_eq_true rfl⟩ ⟨rfl, rfl⟩ ⟨Nat.zero_le _, Nat.zero_le _⟩ (Nat.le_of_ble_eq_true rfl) (fun x I' J' hp1 => ?_)
  obtain ⟨rfl, rfl, rfl⟩ := hp1
  rw [hx]
  refine fr_if_eq 40 d_F_settings_5 rfl (fun _ => ?_) (fun h => absurd h (by decide))
  refine fr_iconst d_F_settings_40 fr_i0 ?_
  exact fr_iret d_F_settings_41 rfl (fr_nar_b (Or.inl rfl)) (Nat.zero_le _) (Nat.zero_le _) ⟨rfl, rfl, rfl⟩
def f_F_options (I : fr_I) (r : Nat) (p2 : Int32) (p3 : Int32) (p4 : Int32) : Int32 × fr_I :=
  if (f_F_isWithin I p3 0 3) = 0 then
    (0, I)
  else
    if (f_F_isWithin I p4 1 50) = 0 then
      (0, I)
    else
      (1, (fr_ui (fr_ui (fr_ui I 7 r 4 p2) 7 r 5 p3) 7 r 6 p4))
set_option maxRecDepth 10000 in
theorem ct_F_options (X : fr_X) (n : Nat) (r : Nat) (hr : r < n) (I : fr_I) (J : fr_J) (p2 : Int32) (p3 : Int32) (p4 : Int32) (hw : fr_wf n I) (hb : p2 = 0 ∨ p2 = 1) : fr_Ct X y_F_options c_F_options 6 (some .boolean) (fr_rm 1) [.ref (fr_ad X 0 0), .int (nI r), .int p2, .int p3, .int p4] (fr_Z0 X n) (fr_Z0 X n) I J (fr_pi (fun x I' J' => (f_F_options I r p2 p3 p4).1 = x ∧ (f_F_options I r p2 p3 p4).2 = I' ∧ J = J')) := by
  refine fr_ct (by decide) rfl rfl (Nat.le_of_ble_eq_true rfl) rfl (fun E => ?_)
  refine fr_aload_n d_F_options_0 rfl ?_
  refine fr_iload_n d_F_options_1 rfl ?_
  refine fr_callVi fr_q0 d_F_options_2 (ct_F_isRelay X n _ _ _) mv_F_44 rfl rfl rfl (Or.inr ⟨rfl, rfl⟩) rfl rfl ⟨Nat.le_of_ble_eq_true rfl, Nat.le_of_ble_eq_true rfl⟩ ⟨rfl, rfl⟩ ⟨Nat.zero_le _, Nat.zero_le _⟩ (Nat.le_of_ble_eq_true rfl) (fun x I' J' hp1 => ?_)
  obtain ⟨rfl, rfl, rfl⟩ := hp1
  rw [fr_isR_in hw hr]
  refine fr_if_eq 28 d_F_options_5 rfl (fun h => absurd h (by decide)) (fun _ => ?_)
  refine fr_iload_n d_F_options_8 rfl ?_
  refine fr_iconst d_F_options_9 fr_i0 ?_
  refine fr_iconst d_F_options_10 fr_i3 ?_
  refine fr_callSi d_F_options_11 (ct_F_isWithin X n _ _ _ _ _) ms_F_47 rfl rfl ⟨Nat.le_of_ble_eq_true rfl, Nat.le_of_ble_eq_true rfl⟩ ⟨rfl, rfl⟩ ⟨Nat.zero_le _, Nat.zero_le _⟩ (Nat.le_of_ble_eq_true rfl) (fun x I' J' hp2 => ?_)
  obtain ⟨rfl, rfl, rfl⟩ := hp2
  refine fr_if_eq 28 d_F_options_14 rfl (fun h3 => ?_) (fun h3 => ?_)
  · skip
    refine fr_iconst d_F_options_28 fr_i0 ?_
    exact fr_iret d_F_options_29 rfl (fr_nar_b (Or.inl rfl)) (Nat.zero_le _) (Nat.zero_le _) (fr_tIx (by unfold f_F_options; rw [if_pos h3]))
  · skip
    refine fr_iload d_F_options_17 rfl ?_
    refine fr_iconst d_F_options_19 fr_i1 ?_
    refine fr_bipush d_F_options_20 fr_b50 ?_
    refine fr_callSi d_F_options_22 (ct_F_isWithin X n _ _ _ _ _) ms_F_47 rfl rfl ⟨Nat.le_of_ble_eq_true rfl, Nat.le_of_ble_eq_true rfl⟩ ⟨rfl, rfl⟩ ⟨Nat.zero_le _, Nat.zero_le _⟩ (Nat.le_of_ble_eq_true rfl) (fun x I' J' hp4 => ?_)
    obtain ⟨rfl, rfl, rfl⟩ := hp4
    refine fr_if_ne 30 d_F_options_25 rfl (fun h5 => ?_) (fun h5 => ?_)
    · skip
      refine fr_aload_n d_F_options_30 rfl ?_
      refine fr_getr (k' := 1) (r' := 0) d_F_options_31 fl_F_11 rfl rfl rfl (Or.inr ⟨rfl, rfl⟩) ?_
      refine fr_iload_n d_F_options_34 rfl ?_
      refine fr_aald (k' := 7) (r' := r) (r) d_F_options_35 rfl rfl (if_pos hr) (Or.inr ⟨rfl, rfl⟩) rfl (fw_lt8 hw hr) (by decide) ?_
      refine fr_astore (L' := [(5, .ref _), (0, .ref _), (1, .int _), (2, .int _), (3, .int _), (4, .int _)]) d_F_options_36 (by decide) rfl ?_
      refine fr_aload d_F_options_38 rfl ?_
      refine fr_iload_n d_F_options_40 rfl ?_
      refine fr_putz d_F_options_41 fl_F_61 rfl rfl hb (Or.inl ⟨rfl, hr⟩) ?_
      refine fr_aload d_F_options_44 rfl ?_
      refine fr_iload_n d_F_options_46 rfl ?_
      refine fr_puti d_F_options_47 fl_F_65 rfl rfl (Or.inl ⟨rfl, hr⟩) ?_
      refine fr_aload d_F_options_50 rfl ?_
      refine fr_iload d_F_options_52 rfl ?_
      refine fr_puti d_F_options_54 fl_F_68 rfl rfl (Or.inl ⟨rfl, hr⟩) ?_
      refine fr_iconst d_F_options_57 fr_i1 ?_
      exact fr_iret d_F_options_58 rfl (fr_nar_b (Or.inr rfl)) (Nat.zero_le _) (Nat.zero_le _) (fr_tIx (by unfold f_F_options; rw [if_neg h3, if_neg h5]))
    · skip
      refine fr_iconst d_F_options_28 fr_i0 ?_
      exact fr_iret d_F_options_29 rfl (fr_nar_b (Or.inl rfl)) (Nat.zero_le _) (Nat.zero_le _) (fr_tIx (by unfold f_F_options; rw [if_neg h3, if_pos h5]))
theorem fw_F_options {n : Nat} {I : fr_I} {r : Nat} {p2 : Int32} {p3 : Int32} {p4 : Int32} (hw : fr_wf n I) : fr_wf n (f_F_options I r p2 p3 p4).2 := by
  unfold f_F_options
  refine fw_ite_2 (fun h => ?_) (fun h => ?_)
  · skip
    exact hw
  · skip
    refine fw_ite_2 (fun h => ?_) (fun h => ?_)
    · skip
      exact hw
    · skip
      exact (fw_ui (k := 7) (j := 6) rfl (fw_ui (k := 7) (j := 5) rfl (fw_ui (k := 7) (j := 4) rfl hw)))
theorem fc_F_options {P : fr_I → Prop} (hP : fr_cst P) {I : fr_I} {r : Nat} {p2 : Int32} {p3 : Int32} {p4 : Int32} (h : P I) : P (f_F_options I r p2 p3 p4).2 := by
  unfold f_F_options
  refine fw_ite_2 (fun _ => ?_) (fun _ => ?_)
  · skip
    exact h
  · skip
    refine fw_ite_2 (fun _ => ?_) (fun _ => ?_)
    · skip
      exact h
    · skip
      exact (hP (k := 7) (by decide) (hP (k := 7) (by decide) (hP (k := 7) (by decide) h)))
def f_F_options_no (I : fr_I) (p1 : Int32) (p2 : Int32) (p3 : Int32) (p4 : Int32) : Int32 :=
  0
set_option maxRecDepth 10000 in
theorem ct_F_options_no (X : fr_X) (n : Nat) (I : fr_I) (J : fr_J) (p1 : Int32) (p2 : Int32) (p3 : Int32) (p4 : Int32) (hx : f_F_isRelay I p1 = 0) : fr_Ct X y_F_options c_F_options 6 (some .boolean) (fr_rm 1) [.ref (fr_ad X 0 0), .int p1, .int p2, .int p3, .int p4] (fr_Z0 X n) (fr_Z0 X n) I J (fr_pi (fun x I' J' => (f_F_options_no I p1 p2 p3 p4) = x ∧ I = I' ∧ J = J')) := by
  refine fr_ct (by decide) rfl rfl (Nat.le_of_ble_eq_true rfl) rfl (fun E => ?_)
  refine fr_aload_n d_F_options_0 rfl ?_
  refine fr_iload_n d_F_options_1 rfl ?_
  refine fr_callVi fr_q0 d_F_options_2 (ct_F_isRelay X n _ _ _) mv_F_44 rfl rfl rfl (Or.inr ⟨rfl, rfl⟩) rfl rfl ⟨Nat.le_of_ble_eq_true rfl, Nat.le_of_ble_eq_true rfl⟩ ⟨rfl, rfl⟩ ⟨Nat.zero_le _, Nat.zero_le _⟩ (Nat.le_of_ble_eq_true rfl) (fun x I' J' hp1 => ?_)
  obtain ⟨rfl, rfl, rfl⟩ := hp1
  rw [hx]
  refine fr_if_eq 28 d_F_options_5 rfl (fun _ => ?_) (fun h => absurd h (by decide))
  refine fr_iconst d_F_options_28 fr_i0 ?_
  exact fr_iret d_F_options_29 rfl (fr_nar_b (Or.inl rfl)) (Nat.zero_le _) (Nat.zero_le _) ⟨rfl, rfl, rfl⟩
def f_F_load (I : fr_I) (r : Nat) (p2 : Int32) : Int32 × fr_I :=
  if (f_F_isWithin I p2 0 2000) = 0 then
    (0, I)
  else
    (1, (fr_ui I 7 r 7 p2))
set_option maxRecDepth 10000 in
theorem ct_F_load (X : fr_X) (n : Nat) (r : Nat) (hr : r < n) (I : fr_I) (J : fr_J) (p2 : Int32) (hw : fr_wf n I) : fr_Ct X y_F_load c_F_load 3 (some .boolean) (fr_rm 1) [.ref (fr_ad X 0 0), .int (nI r), .int p2] (fr_Z0 X n) (fr_Z0 X n) I J (fr_pi (fun x I' J' => (f_F_load I r p2).1 = x ∧ (f_F_load I r p2).2 = I' ∧ J = J')) := by
  refine fr_ct (by decide) rfl rfl (Nat.le_of_ble_eq_true rfl) rfl (fun E => ?_)
  refine fr_aload_n d_F_load_0 rfl ?_
  refine fr_iload_n d_F_load_1 rfl ?_
  refine fr_callVi fr_q0 d_F_load_2 (ct_F_isRelay X n _ _ _) mv_F_44 rfl rfl rfl (Or.inr ⟨rfl, rfl⟩) rfl rfl ⟨Nat.le_of_ble_eq_true rfl, Nat.le_of_ble_eq_true rfl⟩ ⟨rfl, rfl⟩ ⟨Nat.zero_le _, Nat.zero_le _⟩ (Nat.le_of_ble_eq_true rfl) (fun x I' J' hp1 => ?_)
  obtain ⟨rfl, rfl, rfl⟩ := hp1
  rw [fr_isR_in hw hr]
  refine fr_if_eq 19 d_F_load_5 rfl (fun h => absurd h (by decide)) (fun _ => ?_)
  refine fr_iload_n d_F_load_8 rfl ?_
  refine fr_iconst d_F_load_9 fr_i0 ?_
  refine fr_sipush d_F_load_10 fr_s2000 ?_
  refine fr_callSi d_F_load_13 (ct_F_isWithin X n _ _ _ _ _) ms_F_47 rfl rfl ⟨Nat.le_of_ble_eq_true rfl, Nat.le_of_ble_eq_true rfl⟩ ⟨rfl, rfl⟩ ⟨Nat.zero_le _, Nat.zero_le _⟩ (Nat.le_of_ble_eq_true rfl) (fun x I' J' hp2 => ?_)
  obtain ⟨rfl, rfl, rfl⟩ := hp2
  refine fr_if_ne 21 d_F_load_16 rfl (fun h3 => ?_) (fun h3 => ?_)
  · skip
    refine fr_aload_n d_F_load_21 rfl ?_
    refine fr_getr (k' := 1) (r' := 0) d_F_load_22 fl_F_11 rfl rfl rfl (Or.inr ⟨rfl, rfl⟩) ?_
    refine fr_iload_n d_F_load_25 rfl ?_
    refine fr_aald (k' := 7) (r' := r) (r) d_F_load_26 rfl rfl (if_pos hr) (Or.inr ⟨rfl, rfl⟩) rfl (fw_lt8 hw hr) (by decide) ?_
    refine fr_iload_n d_F_load_27 rfl ?_
    refine fr_puti d_F_load_28 fl_F_71 rfl rfl (Or.inl ⟨rfl, hr⟩) ?_
    refine fr_iconst d_F_load_31 fr_i1 ?_
    exact fr_iret d_F_load_32 rfl (fr_nar_b (Or.inr rfl)) (Nat.zero_le _) (Nat.zero_le _) (fr_tIx (by unfold f_F_load; rw [if_neg h3]))
  · skip
    refine fr_iconst d_F_load_19 fr_i0 ?_
    exact fr_iret d_F_load_20 rfl (fr_nar_b (Or.inl rfl)) (Nat.zero_le _) (Nat.zero_le _) (fr_tIx (by unfold f_F_load; rw [if_pos h3]))
theorem fw_F_load {n : Nat} {I : fr_I} {r : Nat} {p2 : Int32} (hw : fr_wf n I) : fr_wf n (f_F_load I r p2).2 := by
  unfold f_F_load
  refine fw_ite_2 (fun h => ?_) (fun h => ?_)
  · skip
    exact hw
  · skip
    exact (fw_ui (k := 7) (j := 7) rfl hw)
theorem fc_F_load {P : fr_I → Prop} (hP : fr_cst P) {I : fr_I} {r : Nat} {p2 : Int32} (h : P I) : P (f_F_load I r p2).2 := by
  unfold f_F_load
  refine fw_ite_2 (fun _ => ?_) (fun _ => ?_)
  · skip
    exact h
  · skip
    exact (hP (k := 7) (by decide) h)
def f_F_load_no (I : fr_I) (p1 : Int32) (p2 : Int32) : Int32 :=
  0
set_option maxRecDepth 10000 in
theorem ct_F_load_no (X : fr_X) (n : Nat) (I : fr_I) (J : fr_J) (p1 : Int32) (p2 : Int32) (hx : f_F_isRelay I p1 = 0) : fr_Ct X y_F_load c_F_load 3 (some .boolean) (fr_rm 1) [.ref (fr_ad X 0 0), .int p1, .int p2] (fr_Z0 X n) (fr_Z0 X n) I J (fr_pi (fun x I' J' => (f_F_load_no I p1 p2) = x ∧ I = I' ∧ J = J')) := by
  refine fr_ct (by decide) rfl rfl (Nat.le_of_ble_eq_true rfl) rfl (fun E => ?_)
  refine fr_aload_n d_F_load_0 rfl ?_
  refine fr_iload_n d_F_load_1 rfl ?_
  refine fr_callVi fr_q0 d_F_load_2 (ct_F_isRelay X n _ _ _) mv_F_44 rfl rfl rfl (Or.inr ⟨rfl, rfl⟩) rfl rfl ⟨Nat.le_of_ble_eq_true rfl, Nat.le_of_ble_eq_true rfl⟩ ⟨rfl, rfl⟩ ⟨Nat.zero_le _, Nat.zero_le _⟩ (Nat.le_of_ble_eq_true rfl) (fun x I' J' hp1 => ?_)
  obtain ⟨rfl, rfl, rfl⟩ := hp1
  rw [hx]
  refine fr_if_eq 19 d_F_load_5 rfl (fun _ => ?_) (fun h => absurd h (by decide))
  refine fr_iconst d_F_load_19 fr_i0 ?_
  exact fr_iret d_F_load_20 rfl (fr_nar_b (Or.inl rfl)) (Nat.zero_le _) (Nat.zero_le _) ⟨rfl, rfl, rfl⟩
def f_F_fault (I : fr_I) (r : Nat) (p2 : Int32) : Int32 × fr_I :=
  if (f_F_isWithin I p2 0 20000) = 0 then
    (0, I)
  else
    (1, (fr_ui I 7 r 8 p2))
set_option maxRecDepth 10000 in
theorem ct_F_fault (X : fr_X) (n : Nat) (r : Nat) (hr : r < n) (I : fr_I) (J : fr_J) (p2 : Int32) (hw : fr_wf n I) : fr_Ct X y_F_fault c_F_fault 3 (some .boolean) (fr_rm 1) [.ref (fr_ad X 0 0), .int (nI r), .int p2] (fr_Z0 X n) (fr_Z0 X n) I J (fr_pi (fun x I' J' => (f_F_fault I r p2).1 = x ∧ (f_F_fault I r p2).2 = I' ∧ J = J')) := by
  refine fr_ct (by decide) rfl rfl (Nat.le_of_ble_eq_true rfl) rfl (fun E => ?_)
  refine fr_aload_n d_F_fault_0 rfl ?_
  refine fr_iload_n d_F_fault_1 rfl ?_
  refine fr_callVi fr_q0 d_F_fault_2 (ct_F_isRelay X n _ _ _) mv_F_44 rfl rfl rfl (Or.inr ⟨rfl, rfl⟩) rfl rfl ⟨Nat.le_of_ble_eq_true rfl, Nat.le_of_ble_eq_true rfl⟩ ⟨rfl, rfl⟩ ⟨Nat.zero_le _, Nat.zero_le _⟩ (Nat.le_of_ble_eq_true rfl) (fun x I' J' hp1 => ?_)
  obtain ⟨rfl, rfl, rfl⟩ := hp1
  rw [fr_isR_in hw hr]
  refine fr_if_eq 19 d_F_fault_5 rfl (fun h => absurd h (by decide)) (fun _ => ?_)
  refine fr_iload_n d_F_fault_8 rfl ?_
  refine fr_iconst d_F_fault_9 fr_i0 ?_
  refine fr_sipush d_F_fault_10 fr_s20000 ?_
  refine fr_callSi d_F_fault_13 (ct_F_isWithin X n _ _ _ _ _) ms_F_47 rfl rfl ⟨Nat.le_of_ble_eq_true rfl, Nat.le_of_ble_eq_true rfl⟩ ⟨rfl, rfl⟩ ⟨Nat.zero_le _, Nat.zero_le _⟩ (Nat.le_of_ble_eq_true rfl) (fun x I' J' hp2 => ?_)
  obtain ⟨rfl, rfl, rfl⟩ := hp2
  refine fr_if_ne 21 d_F_fault_16 rfl (fun h3 => ?_) (fun h3 => ?_)
  · skip
    refine fr_aload_n d_F_fault_21 rfl ?_
    refine fr_getr (k' := 1) (r' := 0) d_F_fault_22 fl_F_11 rfl rfl rfl (Or.inr ⟨rfl, rfl⟩) ?_
    refine fr_iload_n d_F_fault_25 rfl ?_
    refine fr_aald (k' := 7) (r' := r) (r) d_F_fault_26 rfl rfl (if_pos hr) (Or.inr ⟨rfl, rfl⟩) rfl (fw_lt8 hw hr) (by decide) ?_
    refine fr_iload_n d_F_fault_27 rfl ?_
    refine fr_puti d_F_fault_28 fl_F_74 rfl rfl (Or.inl ⟨rfl, hr⟩) ?_
    refine fr_iconst d_F_fault_31 fr_i1 ?_
    exact fr_iret d_F_fault_32 rfl (fr_nar_b (Or.inr rfl)) (Nat.zero_le _) (Nat.zero_le _) (fr_tIx (by unfold f_F_fault; rw [if_neg h3]))
  · skip
    refine fr_iconst d_F_fault_19 fr_i0 ?_
    exact fr_iret d_F_fault_20 rfl (fr_nar_b (Or.inl rfl)) (Nat.zero_le _) (Nat.zero_le _) (fr_tIx (by unfold f_F_fault; rw [if_pos h3]))
theorem fw_F_fault {n : Nat} {I : fr_I} {r : Nat} {p2 : Int32} (hw : fr_wf n I) : fr_wf n (f_F_fault I r p2).2 := by
  unfold f_F_fault
  refine fw_ite_2 (fun h => ?_) (fun h => ?_)
  · skip
    exact hw
  · skip
    exact (fw_ui (k := 7) (j := 8) rfl hw)
theorem fc_F_fault {P : fr_I → Prop} (hP : fr_cst P) {I : fr_I} {r : Nat} {p2 : Int32} (h : P I) : P (f_F_fault I r p2).2 := by
  unfold f_F_fault
  refine fw_ite_2 (fun _ => ?_) (fun _ => ?_)
  · skip
    exact h
  · skip
    exact (hP (k := 7) (by decide) h)
def f_F_fault_no (I : fr_I) (p1 : Int32) (p2 : Int32) : Int32 :=
  0
set_option maxRecDepth 10000 in
theorem ct_F_fault_no (X : fr_X) (n : Nat) (I : fr_I) (J : fr_J) (p1 : Int32) (p2 : Int32) (hx : f_F_isRelay I p1 = 0) : fr_Ct X y_F_fault c_F_fault 3 (some .boolean) (fr_rm 1) [.ref (fr_ad X 0 0), .int p1, .int p2] (fr_Z0 X n) (fr_Z0 X n) I J (fr_pi (fun x I' J' => (f_F_fault_no I p1 p2) = x ∧ I = I' ∧ J = J')) := by
  refine fr_ct (by decide) rfl rfl (Nat.le_of_ble_eq_true rfl) rfl (fun E => ?_)
  refine fr_aload_n d_F_fault_0 rfl ?_
  refine fr_iload_n d_F_fault_1 rfl ?_
  refine fr_callVi fr_q0 d_F_fault_2 (ct_F_isRelay X n _ _ _) mv_F_44 rfl rfl rfl (Or.inr ⟨rfl, rfl⟩) rfl rfl ⟨Nat.le_of_ble_eq_true rfl, Nat.le_of_ble_eq_true rfl⟩ ⟨rfl, rfl⟩ ⟨Nat.zero_le _, Nat.zero_le _⟩ (Nat.le_of_ble_eq_true rfl) (fun x I' J' hp1 => ?_)
  obtain ⟨rfl, rfl, rfl⟩ := hp1
  rw [hx]
  refine fr_if_eq 19 d_F_fault_5 rfl (fun _ => ?_) (fun h => absurd h (by decide))
  refine fr_iconst d_F_fault_19 fr_i0 ?_
  exact fr_iret d_F_fault_20 rfl (fr_nar_b (Or.inl rfl)) (Nat.zero_le _) (Nat.zero_le _) ⟨rfl, rfl, rfl⟩
def f_F_jam (I : fr_I) (r : Nat) (p2 : Int32) : Int32 × fr_I :=
  (1, (fr_ui I 10 r 1 p2))
set_option maxRecDepth 10000 in
theorem ct_F_jam (X : fr_X) (n : Nat) (r : Nat) (hr : r < n) (I : fr_I) (J : fr_J) (p2 : Int32) (hw : fr_wf n I) (hb : p2 = 0 ∨ p2 = 1) : fr_Ct X y_F_jam c_F_jam 3 (some .boolean) (fr_rm 1) [.ref (fr_ad X 0 0), .int (nI r), .int p2] (fr_Z0 X n) (fr_Z0 X n) I J (fr_pi (fun x I' J' => (f_F_jam I r p2).1 = x ∧ (f_F_jam I r p2).2 = I' ∧ J = J')) := by
  refine fr_ct (by decide) rfl rfl (Nat.le_of_ble_eq_true rfl) rfl (fun E => ?_)
  refine fr_aload_n d_F_jam_0 rfl ?_
  refine fr_iload_n d_F_jam_1 rfl ?_
  refine fr_callVi fr_q0 d_F_jam_2 (ct_F_isRelay X n _ _ _) mv_F_44 rfl rfl rfl (Or.inr ⟨rfl, rfl⟩) rfl rfl ⟨Nat.le_of_ble_eq_true rfl, Nat.le_of_ble_eq_true rfl⟩ ⟨rfl, rfl⟩ ⟨Nat.zero_le _, Nat.zero_le _⟩ (Nat.le_of_ble_eq_true rfl) (fun x I' J' hp1 => ?_)
  obtain ⟨rfl, rfl, rfl⟩ := hp1
  rw [fr_isR_in hw hr]
  refine fr_if_ne 10 d_F_jam_5 rfl (fun _ => ?_) (fun h => absurd h (by decide))
  refine fr_aload_n d_F_jam_10 rfl ?_
  refine fr_getr (k' := 1) (r' := 0) d_F_jam_11 fl_F_11 rfl rfl rfl (Or.inr ⟨rfl, rfl⟩) ?_
  refine fr_iload_n d_F_jam_14 rfl ?_
  refine fr_aald (k' := 7) (r' := r) (r) d_F_jam_15 rfl rfl (if_pos hr) (Or.inr ⟨rfl, rfl⟩) rfl (fw_lt8 hw hr) (by decide) ?_
  refine fr_getr (k' := 10) (r' := r) d_F_jam_16 fl_F_77 rfl rfl rfl (Or.inl ⟨rfl, hr⟩) ?_
  refine fr_iload_n d_F_jam_19 rfl ?_
  refine fr_putz d_F_jam_20 fl_F_81 rfl rfl hb (Or.inl ⟨rfl, hr⟩) ?_
  refine fr_iconst d_F_jam_23 fr_i1 ?_
  exact fr_iret d_F_jam_24 rfl (fr_nar_b (Or.inr rfl)) (Nat.zero_le _) (Nat.zero_le _) (fr_tIx (rfl))
theorem fw_F_jam {n : Nat} {I : fr_I} {r : Nat} {p2 : Int32} (hw : fr_wf n I) : fr_wf n (f_F_jam I r p2).2 := by
  unfold f_F_jam
  exact (fw_ui (k := 10) (j := 1) rfl hw)
theorem fc_F_jam {P : fr_I → Prop} (hP : fr_cst P) {I : fr_I} {r : Nat} {p2 : Int32} (h : P I) : P (f_F_jam I r p2).2 := by
  unfold f_F_jam
  exact (hP (k := 10) (by decide) h)
def f_F_jam_no (I : fr_I) (p1 : Int32) (p2 : Int32) : Int32 :=
  0
set_option maxRecDepth 10000 in
theorem ct_F_jam_no (X : fr_X) (n : Nat) (I : fr_I) (J : fr_J) (p1 : Int32) (p2 : Int32) (hx : f_F_isRelay I p1 = 0) : fr_Ct X y_F_jam c_F_jam 3 (some .boolean) (fr_rm 1) [.ref (fr_ad X 0 0), .int p1, .int p2] (fr_Z0 X n) (fr_Z0 X n) I J (fr_pi (fun x I' J' => (f_F_jam_no I p1 p2) = x ∧ I = I' ∧ J = J')) := by
  refine fr_ct (by decide) rfl rfl (Nat.le_of_ble_eq_true rfl) rfl (fun E => ?_)
  refine fr_aload_n d_F_jam_0 rfl ?_
  refine fr_iload_n d_F_jam_1 rfl ?_
  refine fr_callVi fr_q0 d_F_jam_2 (ct_F_isRelay X n _ _ _) mv_F_44 rfl rfl rfl (Or.inr ⟨rfl, rfl⟩) rfl rfl ⟨Nat.le_of_ble_eq_true rfl, Nat.le_of_ble_eq_true rfl⟩ ⟨rfl, rfl⟩ ⟨Nat.zero_le _, Nat.zero_le _⟩ (Nat.le_of_ble_eq_true rfl) (fun x I' J' hp1 => ?_)
  obtain ⟨rfl, rfl, rfl⟩ := hp1
  rw [hx]
  refine fr_if_ne 10 d_F_jam_5 rfl (fun h => absurd h (by decide)) (fun _ => ?_)
  refine fr_iconst d_F_jam_8 fr_i0 ?_
  exact fr_iret d_F_jam_9 rfl (fr_nar_b (Or.inl rfl)) (Nat.zero_le _) (Nat.zero_le _) ⟨rfl, rfl, rfl⟩
def f_F_line (I : fr_I) (r : Nat) (p2 : Int32) : Int32 × fr_I :=
  if (f_F_isWithin I p2 0 8) = 0 then
    (0, I)
  else
    (1, (fr_ui I 11 r 3 p2))
set_option maxRecDepth 10000 in
theorem ct_F_line (X : fr_X) (n : Nat) (r : Nat) (hr : r < n) (I : fr_I) (J : fr_J) (p2 : Int32) (hw : fr_wf n I) : fr_Ct X y_F_line c_F_line 3 (some .boolean) (fr_rm 1) [.ref (fr_ad X 0 0), .int (nI r), .int p2] (fr_Z0 X n) (fr_Z0 X n) I J (fr_pi (fun x I' J' => (f_F_line I r p2).1 = x ∧ (f_F_line I r p2).2 = I' ∧ J = J')) := by
  refine fr_ct (by decide) rfl rfl (Nat.le_of_ble_eq_true rfl) rfl (fun E => ?_)
  refine fr_aload_n d_F_line_0 rfl ?_
  refine fr_iload_n d_F_line_1 rfl ?_
  refine fr_callVi fr_q0 d_F_line_2 (ct_F_isRelay X n _ _ _) mv_F_44 rfl rfl rfl (Or.inr ⟨rfl, rfl⟩) rfl rfl ⟨Nat.le_of_ble_eq_true rfl, Nat.le_of_ble_eq_true rfl⟩ ⟨rfl, rfl⟩ ⟨Nat.zero_le _, Nat.zero_le _⟩ (Nat.le_of_ble_eq_true rfl) (fun x I' J' hp1 => ?_)
  obtain ⟨rfl, rfl, rfl⟩ := hp1
  rw [fr_isR_in hw hr]
  refine fr_if_eq 18 d_F_line_5 rfl (fun h => absurd h (by decide)) (fun _ => ?_)
  refine fr_iload_n d_F_line_8 rfl ?_
  refine fr_iconst d_F_line_9 fr_i0 ?_
  refine fr_bipush d_F_line_10 fr_b8 ?_
  refine fr_callSi d_F_line_12 (ct_F_isWithin X n _ _ _ _ _) ms_F_47 rfl rfl ⟨Nat.le_of_ble_eq_true rfl, Nat.le_of_ble_eq_true rfl⟩ ⟨rfl, rfl⟩ ⟨Nat.zero_le _, Nat.zero_le _⟩ (Nat.le_of_ble_eq_true rfl) (fun x I' J' hp2 => ?_)
  obtain ⟨rfl, rfl, rfl⟩ := hp2
  refine fr_if_ne 20 d_F_line_15 rfl (fun h3 => ?_) (fun h3 => ?_)
  · skip
    refine fr_aload_n d_F_line_20 rfl ?_
    refine fr_getr (k' := 1) (r' := 0) d_F_line_21 fl_F_11 rfl rfl rfl (Or.inr ⟨rfl, rfl⟩) ?_
    refine fr_iload_n d_F_line_24 rfl ?_
    refine fr_aald (k' := 7) (r' := r) (r) d_F_line_25 rfl rfl (if_pos hr) (Or.inr ⟨rfl, rfl⟩) rfl (fw_lt8 hw hr) (by decide) ?_
    refine fr_getr (k' := 11) (r' := r) d_F_line_26 fl_F_86 rfl rfl rfl (Or.inl ⟨rfl, hr⟩) ?_
    refine fr_iload_n d_F_line_29 rfl ?_
    refine fr_puti d_F_line_30 fl_F_90 rfl rfl (Or.inl ⟨rfl, hr⟩) ?_
    refine fr_iconst d_F_line_33 fr_i1 ?_
    exact fr_iret d_F_line_34 rfl (fr_nar_b (Or.inr rfl)) (Nat.zero_le _) (Nat.zero_le _) (fr_tIx (by unfold f_F_line; rw [if_neg h3]))
  · skip
    refine fr_iconst d_F_line_18 fr_i0 ?_
    exact fr_iret d_F_line_19 rfl (fr_nar_b (Or.inl rfl)) (Nat.zero_le _) (Nat.zero_le _) (fr_tIx (by unfold f_F_line; rw [if_pos h3]))
theorem fw_F_line {n : Nat} {I : fr_I} {r : Nat} {p2 : Int32} (hw : fr_wf n I) : fr_wf n (f_F_line I r p2).2 := by
  unfold f_F_line
  refine fw_ite_2 (fun h => ?_) (fun h => ?_)
  · skip
    exact hw
  · skip
    exact (fw_ui (k := 11) (j := 3) rfl hw)
theorem fc_F_line {P : fr_I → Prop} (hP : fr_cst P) {I : fr_I} {r : Nat} {p2 : Int32} (h : P I) : P (f_F_line I r p2).2 := by
  unfold f_F_line
  refine fw_ite_2 (fun _ => ?_) (fun _ => ?_)
  · skip
    exact h
  · skip
    exact (hP (k := 11) (by decide) h)
def f_F_line_no (I : fr_I) (p1 : Int32) (p2 : Int32) : Int32 :=
  0
set_option maxRecDepth 10000 in
theorem ct_F_line_no (X : fr_X) (n : Nat) (I : fr_I) (J : fr_J) (p1 : Int32) (p2 : Int32) (hx : f_F_isRelay I p1 = 0) : fr_Ct X y_F_line c_F_line 3 (some .boolean) (fr_rm 1) [.ref (fr_ad X 0 0), .int p1, .int p2] (fr_Z0 X n) (fr_Z0 X n) I J (fr_pi (fun x I' J' => (f_F_line_no I p1 p2) = x ∧ I = I' ∧ J = J')) := by
  refine fr_ct (by decide) rfl rfl (Nat.le_of_ble_eq_true rfl) rfl (fun E => ?_)
  refine fr_aload_n d_F_line_0 rfl ?_
  refine fr_iload_n d_F_line_1 rfl ?_
  refine fr_callVi fr_q0 d_F_line_2 (ct_F_isRelay X n _ _ _) mv_F_44 rfl rfl rfl (Or.inr ⟨rfl, rfl⟩) rfl rfl ⟨Nat.le_of_ble_eq_true rfl, Nat.le_of_ble_eq_true rfl⟩ ⟨rfl, rfl⟩ ⟨Nat.zero_le _, Nat.zero_le _⟩ (Nat.le_of_ble_eq_true rfl) (fun x I' J' hp1 => ?_)
  obtain ⟨rfl, rfl, rfl⟩ := hp1
  rw [hx]
  refine fr_if_eq 18 d_F_line_5 rfl (fun _ => ?_) (fun h => absurd h (by decide))
  refine fr_iconst d_F_line_18 fr_i0 ?_
  exact fr_iret d_F_line_19 rfl (fr_nar_b (Or.inl rfl)) (Nat.zero_le _) (Nat.zero_le _) ⟨rfl, rfl, rfl⟩
def f_F_operate (I : fr_I) (r : Nat) (p2 : Int32) : Int32 × fr_I :=
  (1, (f_B_forget ((fr_ui I 10 r 0 p2)) r))
set_option maxRecDepth 10000 in
theorem ct_F_operate (X : fr_X) (n : Nat) (r : Nat) (hr : r < n) (I : fr_I) (J : fr_J) (p2 : Int32) (hw : fr_wf n I) (hb : p2 = 0 ∨ p2 = 1) : fr_Ct X y_F_operate c_F_operate 3 (some .boolean) (fr_rm 1) [.ref (fr_ad X 0 0), .int (nI r), .int p2] (fr_Z0 X n) (fr_Z0 X n) I J (fr_pi (fun x I' J' => (f_F_operate I r p2).1 = x ∧ (f_F_operate I r p2).2 = I' ∧ J = J')) := by
  refine fr_ct (by decide) rfl rfl (Nat.le_of_ble_eq_true rfl) rfl (fun E => ?_)
  refine fr_aload_n d_F_operate_0 rfl ?_
  refine fr_iload_n d_F_operate_1 rfl ?_
  refine fr_callVi fr_q0 d_F_operate_2 (ct_F_isRelay X n _ _ _) mv_F_44 rfl rfl rfl (Or.inr ⟨rfl, rfl⟩) rfl rfl ⟨Nat.le_of_ble_eq_true rfl, Nat.le_of_ble_eq_true rfl⟩ ⟨rfl, rfl⟩ ⟨Nat.zero_le _, Nat.zero_le _⟩ (Nat.le_of_ble_eq_true rfl) (fun x I' J' hp1 => ?_)
  obtain ⟨rfl, rfl, rfl⟩ := hp1
  rw [fr_isR_in hw hr]
  refine fr_if_ne 10 d_F_operate_5 rfl (fun _ => ?_) (fun h => absurd h (by decide))
  refine fr_aload_n d_F_operate_10 rfl ?_
  refine fr_getr (k' := 1) (r' := 0) d_F_operate_11 fl_F_11 rfl rfl rfl (Or.inr ⟨rfl, rfl⟩) ?_
  refine fr_iload_n d_F_operate_14 rfl ?_
  refine fr_aald (k' := 7) (r' := r) (r) d_F_operate_15 rfl rfl (if_pos hr) (Or.inr ⟨rfl, rfl⟩) rfl (fw_lt8 hw hr) (by decide) ?_
  refine fr_getr (k' := 10) (r' := r) d_F_operate_16 fl_F_77 rfl rfl rfl (Or.inl ⟨rfl, hr⟩) ?_
  refine fr_iload_n d_F_operate_19 rfl ?_
  refine fr_putz d_F_operate_20 fl_F_95 rfl rfl hb (Or.inl ⟨rfl, hr⟩) ?_
  refine fr_aload_n d_F_operate_23 rfl ?_
  refine fr_getr (k' := 1) (r' := 0) d_F_operate_24 fl_F_11 rfl rfl rfl (Or.inr ⟨rfl, rfl⟩) ?_
  refine fr_iload_n d_F_operate_27 rfl ?_
  refine fr_aald (k' := 7) (r' := r) (r) d_F_operate_28 rfl rfl (if_pos hr) (Or.inr ⟨rfl, rfl⟩) rfl (fw_lt8 hw hr) (by decide) ?_
  refine fr_getr (k' := 10) (r' := r) d_F_operate_29 fl_F_77 rfl rfl rfl (Or.inl ⟨rfl, hr⟩) ?_
  refine fr_callVv fr_q4 d_F_operate_32 (ct_B_forget X n r hr _ _) mv_F_98 rfl rfl rfl (Or.inl ⟨rfl, hr⟩) rfl rfl ⟨Nat.le_of_ble_eq_true rfl, Nat.le_of_ble_eq_true rfl⟩ ⟨rfl, rfl⟩ ⟨Nat.zero_le _, Nat.zero_le _⟩ (Nat.le_of_ble_eq_true rfl) (fun I' J' hp2 => ?_)
  obtain ⟨rfl, rfl⟩ := hp2
  refine fr_iconst d_F_operate_35 fr_i1 ?_
  exact fr_iret d_F_operate_36 rfl (fr_nar_b (Or.inr rfl)) (Nat.zero_le _) (Nat.zero_le _) (fr_tIx (rfl))
theorem fw_F_operate {n : Nat} {I : fr_I} {r : Nat} {p2 : Int32} (hw : fr_wf n I) : fr_wf n (f_F_operate I r p2).2 := by
  unfold f_F_operate
  exact (fw_B_forget (fw_ui (k := 10) (j := 0) rfl hw))
theorem fc_F_operate {P : fr_I → Prop} (hP : fr_cst P) {I : fr_I} {r : Nat} {p2 : Int32} (h : P I) : P (f_F_operate I r p2).2 := by
  unfold f_F_operate
  exact (fc_B_forget hP (hP (k := 10) (by decide) h))
def f_F_operate_no (I : fr_I) (p1 : Int32) (p2 : Int32) : Int32 :=
  0
set_option maxRecDepth 10000 in
theorem ct_F_operate_no (X : fr_X) (n : Nat) (I : fr_I) (J : fr_J) (p1 : Int32) (p2 : Int32) (hx : f_F_isRelay I p1 = 0) : fr_Ct X y_F_operate c_F_operate 3 (some .boolean) (fr_rm 1) [.ref (fr_ad X 0 0), .int p1, .int p2] (fr_Z0 X n) (fr_Z0 X n) I J (fr_pi (fun x I' J' => (f_F_operate_no I p1 p2) = x ∧ I = I' ∧ J = J')) := by
  refine fr_ct (by decide) rfl rfl (Nat.le_of_ble_eq_true rfl) rfl (fun E => ?_)
  refine fr_aload_n d_F_operate_0 rfl ?_
  refine fr_iload_n d_F_operate_1 rfl ?_
  refine fr_callVi fr_q0 d_F_operate_2 (ct_F_isRelay X n _ _ _) mv_F_44 rfl rfl rfl (Or.inr ⟨rfl, rfl⟩) rfl rfl ⟨Nat.le_of_ble_eq_true rfl, Nat.le_of_ble_eq_true rfl⟩ ⟨rfl, rfl⟩ ⟨Nat.zero_le _, Nat.zero_le _⟩ (Nat.le_of_ble_eq_true rfl) (fun x I' J' hp1 => ?_)
  obtain ⟨rfl, rfl, rfl⟩ := hp1
  rw [hx]
  refine fr_if_ne 10 d_F_operate_5 rfl (fun h => absurd h (by decide)) (fun _ => ?_)
  refine fr_iconst d_F_operate_8 fr_i0 ?_
  exact fr_iret d_F_operate_9 rfl (fr_nar_b (Or.inl rfl)) (Nat.zero_le _) (Nat.zero_le _) ⟨rfl, rfl, rfl⟩
def f_F_time (I : fr_I) : Int32 :=
  (I 0 0 5)
set_option maxRecDepth 10000 in
theorem ct_F_time (X : fr_X) (n : Nat) (I : fr_I) (J : fr_J) : fr_Ct X y_F_time c_F_time 1 (some .int) (fr_rm 0) [.ref (fr_ad X 0 0)] (fr_Z0 X n) (fr_Z0 X n) I J (fr_pi (fun x I' J' => (f_F_time I) = x ∧ I = I' ∧ J = J')) := by
  refine fr_ct (by decide) rfl rfl (Nat.le_of_ble_eq_true rfl) rfl (fun E => ?_)
  refine fr_aload_n d_F_time_0 rfl ?_
  refine fr_geti d_F_time_1 fl_F_34 rfl rfl (Or.inr ⟨rfl, rfl⟩) ?_
  exact fr_iret d_F_time_4 rfl (fr_nar_i _) (Nat.zero_le _) (Nat.zero_le _) ⟨rfl, rfl, rfl⟩
def f_F_sum (I : fr_I) (J : fr_J) (r : Nat) : Int64 :=
  (J 8 r 7)
set_option maxRecDepth 10000 in
theorem ct_F_sum (X : fr_X) (n : Nat) (r : Nat) (hr : r < n) (I : fr_I) (J : fr_J)  (hw : fr_wf n I) : fr_Ct X y_F_sum c_F_sum 2 (some .long) (fr_rm 1) [.ref (fr_ad X 0 0), .int (nI r)] (fr_Z0 X n) (fr_Z0 X n) I J (fr_pl (fun x I' J' => (f_F_sum I J r) = x ∧ I = I' ∧ J = J')) := by
  refine fr_ct (by decide) rfl rfl (Nat.le_of_ble_eq_true rfl) rfl (fun E => ?_)
  refine fr_aload_n d_F_sum_0 rfl ?_
  refine fr_iload_n d_F_sum_1 rfl ?_
  refine fr_callVi fr_q0 d_F_sum_2 (ct_F_isRelay X n _ _ _) mv_F_44 rfl rfl rfl (Or.inr ⟨rfl, rfl⟩) rfl rfl ⟨Nat.le_of_ble_eq_true rfl, Nat.le_of_ble_eq_true rfl⟩ ⟨rfl, rfl⟩ ⟨Nat.zero_le _, Nat.zero_le _⟩ (Nat.le_of_ble_eq_true rfl) (fun x I' J' hp1 => ?_)
  obtain ⟨rfl, rfl, rfl⟩ := hp1
  rw [fr_isR_in hw hr]
  refine fr_if_eq 23 d_F_sum_5 rfl (fun h => absurd h (by decide)) (fun _ => ?_)
  refine fr_aload_n d_F_sum_8 rfl ?_
  refine fr_getr (k' := 1) (r' := 0) d_F_sum_9 fl_F_11 rfl rfl rfl (Or.inr ⟨rfl, rfl⟩) ?_
  refine fr_iload_n d_F_sum_12 rfl ?_
  refine fr_aald (k' := 7) (r' := r) (r) d_F_sum_13 rfl rfl (if_pos hr) (Or.inr ⟨rfl, rfl⟩) rfl (fw_lt8 hw hr) (by decide) ?_
  refine fr_getr (k' := 8) (r' := r) d_F_sum_14 fl_F_51 rfl rfl rfl (Or.inl ⟨rfl, hr⟩) ?_
  refine fr_getl d_F_sum_17 fl_F_122 rfl rfl (Or.inl ⟨rfl, hr⟩) ?_
  refine fr_goto 26 d_F_sum_20 rfl ?_
  exact fr_lret d_F_sum_26 rfl (Nat.zero_le _) (Nat.zero_le _) ⟨rfl, rfl, rfl⟩
def f_F_sum_no (I : fr_I) (p1 : Int32) : Int64 :=
  (-1)
set_option maxRecDepth 10000 in
theorem ct_F_sum_no (X : fr_X) (n : Nat) (I : fr_I) (J : fr_J) (p1 : Int32) (hx : f_F_isRelay I p1 = 0) : fr_Ct X y_F_sum c_F_sum 2 (some .long) (fr_rm 1) [.ref (fr_ad X 0 0), .int p1] (fr_Z0 X n) (fr_Z0 X n) I J (fr_pl (fun x I' J' => (f_F_sum_no I p1) = x ∧ I = I' ∧ J = J')) := by
  refine fr_ct (by decide) rfl rfl (Nat.le_of_ble_eq_true rfl) rfl (fun E => ?_)
  refine fr_aload_n d_F_sum_0 rfl ?_
  refine fr_iload_n d_F_sum_1 rfl ?_
  refine fr_callVi fr_q0 d_F_sum_2 (ct_F_isRelay X n _ _ _) mv_F_44 rfl rfl rfl (Or.inr ⟨rfl, rfl⟩) rfl rfl ⟨Nat.le_of_ble_eq_true rfl, Nat.le_of_ble_eq_true rfl⟩ ⟨rfl, rfl⟩ ⟨Nat.zero_le _, Nat.zero_le _⟩ (Nat.le_of_ble_eq_true rfl) (fun x I' J' hp1 => ?_)
  obtain ⟨rfl, rfl, rfl⟩ := hp1
  rw [hx]
  refine fr_if_eq 23 d_F_sum_5 rfl (fun _ => ?_) (fun h => absurd h (by decide))
  refine fr_ldc2 lc_F_126 d_F_sum_23 ?_
  exact fr_lret d_F_sum_26 rfl (Nat.zero_le _) (Nat.zero_le _) ⟨rfl, rfl, rfl⟩
def f_F_used (I : fr_I) (r : Nat) : Int32 :=
  (I 10 r 5)
set_option maxRecDepth 10000 in
theorem ct_F_used (X : fr_X) (n : Nat) (r : Nat) (hr : r < n) (I : fr_I) (J : fr_J)  (hw : fr_wf n I) : fr_Ct X y_F_used c_F_used 2 (some .int) (fr_rm 1) [.ref (fr_ad X 0 0), .int (nI r)] (fr_Z0 X n) (fr_Z0 X n) I J (fr_pi (fun x I' J' => (f_F_used I r) = x ∧ I = I' ∧ J = J')) := by
  refine fr_ct (by decide) rfl rfl (Nat.le_of_ble_eq_true rfl) rfl (fun E => ?_)
  refine fr_aload_n d_F_used_0 rfl ?_
  refine fr_iload_n d_F_used_1 rfl ?_
  refine fr_callVi fr_q0 d_F_used_2 (ct_F_isRelay X n _ _ _) mv_F_44 rfl rfl rfl (Or.inr ⟨rfl, rfl⟩) rfl rfl ⟨Nat.le_of_ble_eq_true rfl, Nat.le_of_ble_eq_true rfl⟩ ⟨rfl, rfl⟩ ⟨Nat.zero_le _, Nat.zero_le _⟩ (Nat.le_of_ble_eq_true rfl) (fun x I' J' hp1 => ?_)
  obtain ⟨rfl, rfl, rfl⟩ := hp1
  rw [fr_isR_in hw hr]
  refine fr_if_eq 23 d_F_used_5 rfl (fun h => absurd h (by decide)) (fun _ => ?_)
  refine fr_aload_n d_F_used_8 rfl ?_
  refine fr_getr (k' := 1) (r' := 0) d_F_used_9 fl_F_11 rfl rfl rfl (Or.inr ⟨rfl, rfl⟩) ?_
  refine fr_iload_n d_F_used_12 rfl ?_
  refine fr_aald (k' := 7) (r' := r) (r) d_F_used_13 rfl rfl (if_pos hr) (Or.inr ⟨rfl, rfl⟩) rfl (fw_lt8 hw hr) (by decide) ?_
  refine fr_getr (k' := 10) (r' := r) d_F_used_14 fl_F_77 rfl rfl rfl (Or.inl ⟨rfl, hr⟩) ?_
  refine fr_geti d_F_used_17 fl_F_128 rfl rfl (Or.inl ⟨rfl, hr⟩) ?_
  refine fr_goto 24 d_F_used_20 rfl ?_
  exact fr_iret d_F_used_24 rfl (fr_nar_i _) (Nat.zero_le _) (Nat.zero_le _) ⟨rfl, rfl, rfl⟩
def f_F_used_no (I : fr_I) (p1 : Int32) : Int32 :=
  (-1)
set_option maxRecDepth 10000 in
theorem ct_F_used_no (X : fr_X) (n : Nat) (I : fr_I) (J : fr_J) (p1 : Int32) (hx : f_F_isRelay I p1 = 0) : fr_Ct X y_F_used c_F_used 2 (some .int) (fr_rm 1) [.ref (fr_ad X 0 0), .int p1] (fr_Z0 X n) (fr_Z0 X n) I J (fr_pi (fun x I' J' => (f_F_used_no I p1) = x ∧ I = I' ∧ J = J')) := by
  refine fr_ct (by decide) rfl rfl (Nat.le_of_ble_eq_true rfl) rfl (fun E => ?_)
  refine fr_aload_n d_F_used_0 rfl ?_
  refine fr_iload_n d_F_used_1 rfl ?_
  refine fr_callVi fr_q0 d_F_used_2 (ct_F_isRelay X n _ _ _) mv_F_44 rfl rfl rfl (Or.inr ⟨rfl, rfl⟩) rfl rfl ⟨Nat.le_of_ble_eq_true rfl, Nat.le_of_ble_eq_true rfl⟩ ⟨rfl, rfl⟩ ⟨Nat.zero_le _, Nat.zero_le _⟩ (Nat.le_of_ble_eq_true rfl) (fun x I' J' hp1 => ?_)
  obtain ⟨rfl, rfl, rfl⟩ := hp1
  rw [hx]
  refine fr_if_eq 23 d_F_used_5 rfl (fun _ => ?_) (fun h => absurd h (by decide))
  refine fr_iconst d_F_used_23 fr_im1 ?_
  exact fr_iret d_F_used_24 rfl (fr_nar_i _) (Nat.zero_le _) (Nat.zero_le _) ⟨rfl, rfl, rfl⟩
def f_F_changes (I : fr_I) (r : Nat) : Int32 :=
  (I 11 r 4)
set_option maxRecDepth 10000 in
theorem ct_F_changes (X : fr_X) (n : Nat) (r : Nat) (hr : r < n) (I : fr_I) (J : fr_J)  (hw : fr_wf n I) : fr_Ct X y_F_changes c_F_changes 2 (some .int) (fr_rm 1) [.ref (fr_ad X 0 0), .int (nI r)] (fr_Z0 X n) (fr_Z0 X n) I J (fr_pi (fun x I' J' => (f_F_changes I r) = x ∧ I = I' ∧ J = J')) := by
  refine fr_ct (by decide) rfl rfl (Nat.le_of_ble_eq_true rfl) rfl (fun E => ?_)
  refine fr_aload_n d_F_changes_0 rfl ?_
  refine fr_iload_n d_F_changes_1 rfl ?_
  refine fr_callVi fr_q0 d_F_changes_2 (ct_F_isRelay X n _ _ _) mv_F_44 rfl rfl rfl (Or.inr ⟨rfl, rfl⟩) rfl rfl ⟨Nat.le_of_ble_eq_true rfl, Nat.le_of_ble_eq_true rfl⟩ ⟨rfl, rfl⟩ ⟨Nat.zero_le _, Nat.zero_le _⟩ (Nat.le_of_ble_eq_true rfl) (fun x I' J' hp1 => ?_)
  obtain ⟨rfl, rfl, rfl⟩ := hp1
  rw [fr_isR_in hw hr]
  refine fr_if_eq 23 d_F_changes_5 rfl (fun h => absurd h (by decide)) (fun _ => ?_)
  refine fr_aload_n d_F_changes_8 rfl ?_
  refine fr_getr (k' := 1) (r' := 0) d_F_changes_9 fl_F_11 rfl rfl rfl (Or.inr ⟨rfl, rfl⟩) ?_
  refine fr_iload_n d_F_changes_12 rfl ?_
  refine fr_aald (k' := 7) (r' := r) (r) d_F_changes_13 rfl rfl (if_pos hr) (Or.inr ⟨rfl, rfl⟩) rfl (fw_lt8 hw hr) (by decide) ?_
  refine fr_getr (k' := 11) (r' := r) d_F_changes_14 fl_F_86 rfl rfl rfl (Or.inl ⟨rfl, hr⟩) ?_
  refine fr_geti d_F_changes_17 fl_F_131 rfl rfl (Or.inl ⟨rfl, hr⟩) ?_
  refine fr_goto 24 d_F_changes_20 rfl ?_
  exact fr_iret d_F_changes_24 rfl (fr_nar_i _) (Nat.zero_le _) (Nat.zero_le _) ⟨rfl, rfl, rfl⟩
def f_F_changes_no (I : fr_I) (p1 : Int32) : Int32 :=
  (-1)
set_option maxRecDepth 10000 in
theorem ct_F_changes_no (X : fr_X) (n : Nat) (I : fr_I) (J : fr_J) (p1 : Int32) (hx : f_F_isRelay I p1 = 0) : fr_Ct X y_F_changes c_F_changes 2 (some .int) (fr_rm 1) [.ref (fr_ad X 0 0), .int p1] (fr_Z0 X n) (fr_Z0 X n) I J (fr_pi (fun x I' J' => (f_F_changes_no I p1) = x ∧ I = I' ∧ J = J')) := by
  refine fr_ct (by decide) rfl rfl (Nat.le_of_ble_eq_true rfl) rfl (fun E => ?_)
  refine fr_aload_n d_F_changes_0 rfl ?_
  refine fr_iload_n d_F_changes_1 rfl ?_
  refine fr_callVi fr_q0 d_F_changes_2 (ct_F_isRelay X n _ _ _) mv_F_44 rfl rfl rfl (Or.inr ⟨rfl, rfl⟩) rfl rfl ⟨Nat.le_of_ble_eq_true rfl, Nat.le_of_ble_eq_true rfl⟩ ⟨rfl, rfl⟩ ⟨Nat.zero_le _, Nat.zero_le _⟩ (Nat.le_of_ble_eq_true rfl) (fun x I' J' hp1 => ?_)
  obtain ⟨rfl, rfl, rfl⟩ := hp1
  rw [hx]
  refine fr_if_eq 23 d_F_changes_5 rfl (fun _ => ?_) (fun h => absurd h (by decide))
  refine fr_iconst d_F_changes_23 fr_im1 ?_
  exact fr_iret d_F_changes_24 rfl (fr_nar_i _) (Nat.zero_le _) (Nat.zero_le _) ⟨rfl, rfl, rfl⟩
def f_F_known (I : fr_I) (r : Nat) : Int32 :=
  if (I 7 r 0) = (-1) then
    (-1)
  else
    (I 11 r 5)
set_option maxRecDepth 10000 in
theorem ct_F_known (X : fr_X) (n : Nat) (r : Nat) (hr : r < n) (I : fr_I) (J : fr_J)  (hw : fr_wf n I) : fr_Ct X y_F_known c_F_known 2 (some .int) (fr_rm 1) [.ref (fr_ad X 0 0), .int (nI r)] (fr_Z0 X n) (fr_Z0 X n) I J (fr_pi (fun x I' J' => (f_F_known I r) = x ∧ I = I' ∧ J = J')) := by
  refine fr_ct (by decide) rfl rfl (Nat.le_of_ble_eq_true rfl) rfl (fun E => ?_)
  refine fr_aload_n d_F_known_0 rfl ?_
  refine fr_iload_n d_F_known_1 rfl ?_
  refine fr_callVi fr_q0 d_F_known_2 (ct_F_isRelay X n _ _ _) mv_F_44 rfl rfl rfl (Or.inr ⟨rfl, rfl⟩) rfl rfl ⟨Nat.le_of_ble_eq_true rfl, Nat.le_of_ble_eq_true rfl⟩ ⟨rfl, rfl⟩ ⟨Nat.zero_le _, Nat.zero_le _⟩ (Nat.le_of_ble_eq_true rfl) (fun x I' J' hp1 => ?_)
  obtain ⟨rfl, rfl, rfl⟩ := hp1
  rw [fr_isR_in hw hr]
  refine fr_if_eq 36 d_F_known_5 rfl (fun h => absurd h (by decide)) (fun _ => ?_)
  refine fr_aload_n d_F_known_8 rfl ?_
  refine fr_getr (k' := 1) (r' := 0) d_F_known_9 fl_F_11 rfl rfl rfl (Or.inr ⟨rfl, rfl⟩) ?_
  refine fr_iload_n d_F_known_12 rfl ?_
  refine fr_aald (k' := 7) (r' := r) (r) d_F_known_13 rfl rfl (if_pos hr) (Or.inr ⟨rfl, rfl⟩) rfl (fw_lt8 hw hr) (by decide) ?_
  refine fr_geti d_F_known_14 fl_F_134 rfl rfl (Or.inl ⟨rfl, hr⟩) ?_
  refine fr_iconst d_F_known_17 fr_im1 ?_
  refine fr_icmp_eq 36 d_F_known_18 rfl (fun h2 => ?_) (fun h2 => ?_)
  · skip
    refine fr_iconst d_F_known_36 fr_im1 ?_
    exact fr_iret d_F_known_37 rfl (fr_nar_i _) (Nat.zero_le _) (Nat.zero_le _) ⟨(by unfold f_F_known; rw [if_pos h2]), rfl, rfl⟩
  · skip
    refine fr_aload_n d_F_known_21 rfl ?_
    refine fr_getr (k' := 1) (r' := 0) d_F_known_22 fl_F_11 rfl rfl rfl (Or.inr ⟨rfl, rfl⟩) ?_
    refine fr_iload_n d_F_known_25 rfl ?_
    refine fr_aald (k' := 7) (r' := r) (r) d_F_known_26 rfl rfl (if_pos hr) (Or.inr ⟨rfl, rfl⟩) rfl (fw_lt8 hw hr) (by decide) ?_
    refine fr_getr (k' := 11) (r' := r) d_F_known_27 fl_F_86 rfl rfl rfl (Or.inl ⟨rfl, hr⟩) ?_
    refine fr_geti d_F_known_30 fl_F_137 rfl rfl (Or.inl ⟨rfl, hr⟩) ?_
    refine fr_goto 37 d_F_known_33 rfl ?_
    exact fr_iret d_F_known_37 rfl (fr_nar_i _) (Nat.zero_le _) (Nat.zero_le _) ⟨(by unfold f_F_known; rw [if_neg h2]), rfl, rfl⟩
def f_F_known_no (I : fr_I) (p1 : Int32) : Int32 :=
  (-1)
set_option maxRecDepth 10000 in
theorem ct_F_known_no (X : fr_X) (n : Nat) (I : fr_I) (J : fr_J) (p1 : Int32) (hx : f_F_isRelay I p1 = 0) : fr_Ct X y_F_known c_F_known 2 (some .int) (fr_rm 1) [.ref (fr_ad X 0 0), .int p1] (fr_Z0 X n) (fr_Z0 X n) I J (fr_pi (fun x I' J' => (f_F_known_no I p1) = x ∧ I = I' ∧ J = J')) := by
  refine fr_ct (by decide) rfl rfl (Nat.le_of_ble_eq_true rfl) rfl (fun E => ?_)
  refine fr_aload_n d_F_known_0 rfl ?_
  refine fr_iload_n d_F_known_1 rfl ?_
  refine fr_callVi fr_q0 d_F_known_2 (ct_F_isRelay X n _ _ _) mv_F_44 rfl rfl rfl (Or.inr ⟨rfl, rfl⟩) rfl rfl ⟨Nat.le_of_ble_eq_true rfl, Nat.le_of_ble_eq_true rfl⟩ ⟨rfl, rfl⟩ ⟨Nat.zero_le _, Nat.zero_le _⟩ (Nat.le_of_ble_eq_true rfl) (fun x I' J' hp1 => ?_)
  obtain ⟨rfl, rfl, rfl⟩ := hp1
  rw [hx]
  refine fr_if_eq 36 d_F_known_5 rfl (fun _ => ?_) (fun h => absurd h (by decide))
  refine fr_iconst d_F_known_36 fr_im1 ?_
  exact fr_iret d_F_known_37 rfl (fr_nar_i _) (Nat.zero_le _) (Nat.zero_le _) ⟨rfl, rfl, rfl⟩
def f_F_effective (I : fr_I) (r : Nat) : Int32 :=
  (I 8 r 5)
set_option maxRecDepth 10000 in
theorem ct_F_effective (X : fr_X) (n : Nat) (r : Nat) (hr : r < n) (I : fr_I) (J : fr_J)  (hw : fr_wf n I) : fr_Ct X y_F_effective c_F_effective 2 (some .int) (fr_rm 1) [.ref (fr_ad X 0 0), .int (nI r)] (fr_Z0 X n) (fr_Z0 X n) I J (fr_pi (fun x I' J' => (f_F_effective I r) = x ∧ I = I' ∧ J = J')) := by
  refine fr_ct (by decide) rfl rfl (Nat.le_of_ble_eq_true rfl) rfl (fun E => ?_)
  refine fr_aload_n d_F_effective_0 rfl ?_
  refine fr_iload_n d_F_effective_1 rfl ?_
  refine fr_callVi fr_q0 d_F_effective_2 (ct_F_isRelay X n _ _ _) mv_F_44 rfl rfl rfl (Or.inr ⟨rfl, rfl⟩) rfl rfl ⟨Nat.le_of_ble_eq_true rfl, Nat.le_of_ble_eq_true rfl⟩ ⟨rfl, rfl⟩ ⟨Nat.zero_le _, Nat.zero_le _⟩ (Nat.le_of_ble_eq_true rfl) (fun x I' J' hp1 => ?_)
  obtain ⟨rfl, rfl, rfl⟩ := hp1
  rw [fr_isR_in hw hr]
  refine fr_if_eq 23 d_F_effective_5 rfl (fun h => absurd h (by decide)) (fun _ => ?_)
  refine fr_aload_n d_F_effective_8 rfl ?_
  refine fr_getr (k' := 1) (r' := 0) d_F_effective_9 fl_F_11 rfl rfl rfl (Or.inr ⟨rfl, rfl⟩) ?_
  refine fr_iload_n d_F_effective_12 rfl ?_
  refine fr_aald (k' := 7) (r' := r) (r) d_F_effective_13 rfl rfl (if_pos hr) (Or.inr ⟨rfl, rfl⟩) rfl (fw_lt8 hw hr) (by decide) ?_
  refine fr_getr (k' := 8) (r' := r) d_F_effective_14 fl_F_51 rfl rfl rfl (Or.inl ⟨rfl, hr⟩) ?_
  refine fr_geti d_F_effective_17 fl_F_140 rfl rfl (Or.inl ⟨rfl, hr⟩) ?_
  refine fr_goto 24 d_F_effective_20 rfl ?_
  exact fr_iret d_F_effective_24 rfl (fr_nar_i _) (Nat.zero_le _) (Nat.zero_le _) ⟨rfl, rfl, rfl⟩
def f_F_effective_no (I : fr_I) (p1 : Int32) : Int32 :=
  (-1)
set_option maxRecDepth 10000 in
theorem ct_F_effective_no (X : fr_X) (n : Nat) (I : fr_I) (J : fr_J) (p1 : Int32) (hx : f_F_isRelay I p1 = 0) : fr_Ct X y_F_effective c_F_effective 2 (some .int) (fr_rm 1) [.ref (fr_ad X 0 0), .int p1] (fr_Z0 X n) (fr_Z0 X n) I J (fr_pi (fun x I' J' => (f_F_effective_no I p1) = x ∧ I = I' ∧ J = J')) := by
  refine fr_ct (by decide) rfl rfl (Nat.le_of_ble_eq_true rfl) rfl (fun E => ?_)
  refine fr_aload_n d_F_effective_0 rfl ?_
  refine fr_iload_n d_F_effective_1 rfl ?_
  refine fr_callVi fr_q0 d_F_effective_2 (ct_F_isRelay X n _ _ _) mv_F_44 rfl rfl rfl (Or.inr ⟨rfl, rfl⟩) rfl rfl ⟨Nat.le_of_ble_eq_true rfl, Nat.le_of_ble_eq_true rfl⟩ ⟨rfl, rfl⟩ ⟨Nat.zero_le _, Nat.zero_le _⟩ (Nat.le_of_ble_eq_true rfl) (fun x I' J' hp1 => ?_)
  obtain ⟨rfl, rfl, rfl⟩ := hp1
  rw [hx]
  refine fr_if_eq 23 d_F_effective_5 rfl (fun _ => ?_) (fun h => absurd h (by decide))
  refine fr_iconst d_F_effective_23 fr_im1 ?_
  exact fr_iret d_F_effective_24 rfl (fr_nar_i _) (Nat.zero_le _) (Nat.zero_le _) ⟨rfl, rfl, rfl⟩
def f_F_events (I : fr_I) : Int32 :=
  (I 4 0 2)
set_option maxRecDepth 10000 in
theorem ct_F_events (X : fr_X) (n : Nat) (I : fr_I) (J : fr_J) : fr_Ct X y_F_events c_F_events 1 (some .int) (fr_rm 0) [.ref (fr_ad X 0 0)] (fr_Z0 X n) (fr_Z0 X n) I J (fr_pi (fun x I' J' => (f_F_events I) = x ∧ I = I' ∧ J = J')) := by
  refine fr_ct (by decide) rfl rfl (Nat.le_of_ble_eq_true rfl) rfl (fun E => ?_)
  refine fr_aload_n d_F_events_0 rfl ?_
  refine fr_getr (k' := 4) (r' := 0) d_F_events_1 fl_F_26 rfl rfl rfl (Or.inr ⟨rfl, rfl⟩) ?_
  refine fr_geti d_F_events_4 fl_F_143 rfl rfl (Or.inr ⟨rfl, rfl⟩) ?_
  exact fr_iret d_F_events_7 rfl (fr_nar_i _) (Nat.zero_le _) (Nat.zero_le _) ⟨rfl, rfl, rfl⟩
