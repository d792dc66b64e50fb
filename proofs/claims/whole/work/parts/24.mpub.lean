def f_O_none (I : fr_I) (p1 : Int32) : Int32 :=
  if p1 < 0 then
    1
  else
    if p1 < (I 20 0 0) then
      0
    else
      1
set_option maxRecDepth 10000 in
theorem ct_O_none (X : fr_X) (n : Nat) (I : fr_I) (J : fr_J) (p1 : Int32) : fr_Ct X y_O_none c_O_none 2 (some .boolean) (fr_rm 0) [.ref (fr_ad X 20 0), .int p1] (fr_Z0 X n) (fr_Z0 X n) I J (fr_pi (fun x I' J' => (f_O_none I p1) = x ∧ I = I' ∧ J = J')) := by
  refine fr_ct (by decide) rfl rfl (Nat.le_of_ble_eq_true rfl) rfl (fun E => ?_)
  refine fr_iload_n d_O_none_0 rfl ?_
  refine fr_if_lt 12 d_O_none_1 rfl (fun h1 => ?_) (fun h1 => ?_)
  · skip
    refine fr_iconst d_O_none_12 fr_i1 ?_
    refine fr_goto 17 d_O_none_13 rfl ?_
    exact fr_iret d_O_none_17 rfl (fr_nar_b (Or.inr rfl)) (Nat.zero_le _) (Nat.zero_le _) ⟨(by unfold f_O_none; rw [if_pos h1]), rfl, rfl⟩
  · skip
    refine fr_iload_n d_O_none_4 rfl ?_
    refine fr_aload_n d_O_none_5 rfl ?_
    refine fr_geti d_O_none_6 fl_O_111 rfl rfl (Or.inr ⟨rfl, rfl⟩) ?_
    refine fr_icmp_lt 16 d_O_none_9 rfl (fun h2 => ?_) (fun h2 => ?_)
    · skip
      refine fr_iconst d_O_none_16 fr_i0 ?_
      exact fr_iret d_O_none_17 rfl (fr_nar_b (Or.inl rfl)) (Nat.zero_le _) (Nat.zero_le _) ⟨(by unfold f_O_none; rw [if_neg h1, if_pos h2]), rfl, rfl⟩
    · skip
      refine fr_iconst d_O_none_12 fr_i1 ?_
      refine fr_goto 17 d_O_none_13 rfl ?_
      exact fr_iret d_O_none_17 rfl (fr_nar_b (Or.inr rfl)) (Nat.zero_le _) (Nat.zero_le _) ⟨(by unfold f_O_none; rw [if_neg h1, if_neg h2]), rfl, rfl⟩
theorem fm_none {n r : Nat} {I : fr_I} (hw : fr_mw n I) (hr : r < n) : f_O_none I (nI r) = 0 := by
  have h8 := hw.1
  unfold f_O_none
  rw [if_neg (nI_pos (by omega)), fm_cnt hw, if_pos (nI_lt hr (by omega))]
def f_O_settings (I : fr_I) (r : Nat) (p2 : Int32) (p3 : Int32) (p4 : Int32) : Int32 × fr_I :=
  if p2 < 0 then
    (0, I)
  else
    if 2 < p2 then
      (0, I)
    else
      if p3 < 1 then
        (0, I)
      else
        if 5000 < p3 then
          (0, I)
        else
          if p4 < 1 then
            (0, I)
          else
            if p4 ≤ 1000 then
              (1, (fr_ui (fr_ui (fr_ui I 47 0 r p2) 48 0 r p3) 49 0 r p4))
            else
              (0, I)
set_option maxRecDepth 10000 in
theorem ct_O_settings (X : fr_X) (n : Nat) (r : Nat) (hr : r < n) (I : fr_I) (J : fr_J) (p2 : Int32) (p3 : Int32) (p4 : Int32) (hw : fr_mw n I) : fr_Ct X y_O_settings c_O_settings 5 (some .boolean) (fr_rm 1) [.ref (fr_ad X 20 0), .int (nI r), .int p2, .int p3, .int p4] (fr_Z0 X n) (fr_Z0 X n) I J (fr_pi (fun x I' J' => (f_O_settings I r p2 p3 p4).1 = x ∧ (f_O_settings I r p2 p3 p4).2 = I' ∧ J = J')) := by
  refine fr_ct (by decide) rfl rfl (Nat.le_of_ble_eq_true rfl) rfl (fun E => ?_)
  refine fr_aload_n d_O_settings_0 rfl ?_
  refine fr_iload_n d_O_settings_1 rfl ?_
  refine fr_callVi fr_q6 d_O_settings_2 (ct_O_none X n _ _ _) mv_O_118 rfl rfl rfl (Or.inr ⟨rfl, rfl⟩) rfl rfl ⟨Nat.le_of_ble_eq_true rfl, Nat.le_of_ble_eq_true rfl⟩ ⟨rfl, rfl⟩ ⟨Nat.zero_le _, Nat.zero_le _⟩ (Nat.le_of_ble_eq_true rfl) (fun x I' J' hp1 => ?_)
  obtain ⟨rfl, rfl, rfl⟩ := hp1
  rw [fm_none hw hr]
  refine fr_if_ne 43 d_O_settings_5 rfl (fun h => absurd h (by decide)) (fun _ => ?_)
  refine fr_iload_n d_O_settings_8 rfl ?_
  refine fr_if_lt 43 d_O_settings_9 rfl (fun h2 => ?_) (fun h2 => ?_)
  · skip
    refine fr_iconst d_O_settings_43 fr_i0 ?_
    exact fr_iret d_O_settings_44 rfl (fr_nar_b (Or.inl rfl)) (Nat.zero_le _) (Nat.zero_le _) (fr_tIx (by unfold f_O_settings; rw [if_pos h2]))
  · skip
    refine fr_iload_n d_O_settings_12 rfl ?_
    refine fr_iconst d_O_settings_13 fr_i2 ?_
    refine fr_icmp_gt 43 d_O_settings_14 rfl (fun h3 => ?_) (fun h3 => ?_)
    · skip
      refine fr_iconst d_O_settings_43 fr_i0 ?_
      exact fr_iret d_O_settings_44 rfl (fr_nar_b (Or.inl rfl)) (Nat.zero_le _) (Nat.zero_le _) (fr_tIx (by unfold f_O_settings; rw [if_neg h2, if_pos h3]))
    · skip
      refine fr_iload_n d_O_settings_17 rfl ?_
      refine fr_iconst d_O_settings_18 fr_i1 ?_
      refine fr_icmp_lt 43 d_O_settings_19 rfl (fun h4 => ?_) (fun h4 => ?_)
      · skip
        refine fr_iconst d_O_settings_43 fr_i0 ?_
        exact fr_iret d_O_settings_44 rfl (fr_nar_b (Or.inl rfl)) (Nat.zero_le _) (Nat.zero_le _) (fr_tIx (by unfold f_O_settings; rw [if_neg h2, if_neg h3, if_pos h4]))
      · skip
        refine fr_iload_n d_O_settings_22 rfl ?_
        refine fr_sipush d_O_settings_23 fr_s5000 ?_
        refine fr_icmp_gt 43 d_O_settings_26 rfl (fun h5 => ?_) (fun h5 => ?_)
        · skip
          refine fr_iconst d_O_settings_43 fr_i0 ?_
          exact fr_iret d_O_settings_44 rfl (fr_nar_b (Or.inl rfl)) (Nat.zero_le _) (Nat.zero_le _) (fr_tIx (by unfold f_O_settings; rw [if_neg h2, if_neg h3, if_neg h4, if_pos h5]))
        · skip
          refine fr_iload d_O_settings_29 rfl ?_
          refine fr_iconst d_O_settings_31 fr_i1 ?_
          refine fr_icmp_lt 43 d_O_settings_32 rfl (fun h6 => ?_) (fun h6 => ?_)
          · skip
            refine fr_iconst d_O_settings_43 fr_i0 ?_
            exact fr_iret d_O_settings_44 rfl (fr_nar_b (Or.inl rfl)) (Nat.zero_le _) (Nat.zero_le _) (fr_tIx (by unfold f_O_settings; rw [if_neg h2, if_neg h3, if_neg h4, if_neg h5, if_pos h6]))
          · skip
            refine fr_iload d_O_settings_35 rfl ?_
            refine fr_sipush d_O_settings_37 fr_s1000 ?_
            refine fr_icmp_le 45 d_O_settings_40 rfl (fun h7 => ?_) (fun h7 => ?_)
            · skip
              refine fr_aload_n d_O_settings_45 rfl ?_
              refine fr_getr (k' := 47) (r' := 0) d_O_settings_46 fl_O_26 rfl rfl rfl (Or.inr ⟨rfl, rfl⟩) ?_
              refine fr_iload_n d_O_settings_49 rfl ?_
              refine fr_iload_n d_O_settings_50 rfl ?_
              refine fr_iast (r) d_O_settings_51 rfl rfl (Or.inr ⟨rfl, rfl⟩) rfl (fm_lt8 hw hr) (by decide) ?_
              refine fr_aload_n d_O_settings_52 rfl ?_
              refine fr_getr (k' := 48) (r' := 0) d_O_settings_53 fl_O_29 rfl rfl rfl (Or.inr ⟨rfl, rfl⟩) ?_
              refine fr_iload_n d_O_settings_56 rfl ?_
              refine fr_iload_n d_O_settings_57 rfl ?_
              refine fr_iast (r) d_O_settings_58 rfl rfl (Or.inr ⟨rfl, rfl⟩) rfl (fm_lt8 hw hr) (by decide) ?_
              refine fr_aload_n d_O_settings_59 rfl ?_
              refine fr_getr (k' := 49) (r' := 0) d_O_settings_60 fl_O_32 rfl rfl rfl (Or.inr ⟨rfl, rfl⟩) ?_
              refine fr_iload_n d_O_settings_63 rfl ?_
              refine fr_iload d_O_settings_64 rfl ?_
              refine fr_iast (r) d_O_settings_66 rfl rfl (Or.inr ⟨rfl, rfl⟩) rfl (fm_lt8 hw hr) (by decide) ?_
              refine fr_iconst d_O_settings_67 fr_i1 ?_
              exact fr_iret d_O_settings_68 rfl (fr_nar_b (Or.inr rfl)) (Nat.zero_le _) (Nat.zero_le _) (fr_tIx (by unfold f_O_settings; rw [if_neg h2, if_neg h3, if_neg h4, if_neg h5, if_neg h6, if_pos h7]))
            · skip
              refine fr_iconst d_O_settings_43 fr_i0 ?_
              exact fr_iret d_O_settings_44 rfl (fr_nar_b (Or.inl rfl)) (Nat.zero_le _) (Nat.zero_le _) (fr_tIx (by unfold f_O_settings; rw [if_neg h2, if_neg h3, if_neg h4, if_neg h5, if_neg h6, if_neg h7]))
theorem fw_O_settings {n : Nat} {I : fr_I} {r : Nat} {p2 : Int32} {p3 : Int32} {p4 : Int32} (hw : fr_mw n I) : fr_mw n (f_O_settings I r p2 p3 p4).2 := by
  unfold f_O_settings
  refine fw_ite_2 (fun h => ?_) (fun h => ?_)
  · skip
    exact hw
  · skip
    refine fw_ite_2 (fun h => ?_) (fun h => ?_)
    · skip
      exact hw
    · skip
      refine fw_ite_2 (fun h => ?_) (fun h => ?_)
      · skip
        exact hw
      · skip
        refine fw_ite_2 (fun h => ?_) (fun h => ?_)
        · skip
          exact hw
        · skip
          refine fw_ite_2 (fun h => ?_) (fun h => ?_)
          · skip
            exact hw
          · skip
            refine fw_ite_2 (fun h => ?_) (fun h => ?_)
            · skip
              exact (fm_ui (k := 49) rfl (fm_ui (k := 48) rfl (fm_ui (k := 47) rfl hw)))
            · skip
              exact hw
theorem fc_O_settings {P : fr_I → Prop} (hP : fr_ost P) {I : fr_I} {r : Nat} {p2 : Int32} {p3 : Int32} {p4 : Int32} (h : P I) : P (f_O_settings I r p2 p3 p4).2 := by
  unfold f_O_settings
  refine fw_ite_2 (fun _ => ?_) (fun _ => ?_)
  · skip
    exact h
  · skip
    refine fw_ite_2 (fun _ => ?_) (fun _ => ?_)
    · skip
      exact h
    · skip
      refine fw_ite_2 (fun _ => ?_) (fun _ => ?_)
      · skip
        exact h
      · skip
        refine fw_ite_2 (fun _ => ?_) (fun _ => ?_)
        · skip
          exact h
        · skip
          refine fw_ite_2 (fun _ => ?_) (fun _ => ?_)
          · skip
            exact h
          · skip
            refine fw_ite_2 (fun _ => ?_) (fun _ => ?_)
            · skip
              exact (hP (k := 49) (by decide) (hP (k := 48) (by decide) (hP (k := 47) (by decide) h)))
            · skip
              exact h
def f_O_settings_no (I : fr_I) (p1 : Int32) (p2 : Int32) (p3 : Int32) (p4 : Int32) : Int32 :=
  0
set_option maxRecDepth 10000 in
theorem ct_O_settings_no (X : fr_X) (n : Nat) (I : fr_I) (J : fr_J) (p1 : Int32) (p2 : Int32) (p3 : Int32) (p4 : Int32) (hx : f_O_none I p1 = 1) : fr_Ct X y_O_settings c_O_settings 5 (some .boolean) (fr_rm 1) [.ref (fr_ad X 20 0), .int p1, .int p2, .int p3, .int p4] (fr_Z0 X n) (fr_Z0 X n) I J (fr_pi (fun x I' J' => (f_O_settings_no I p1 p2 p3 p4) = x ∧ I = I' ∧ J = J')) := by
  refine fr_ct (by decide) rfl rfl (Nat.le_of_ble_eq_true rfl) rfl (fun E => ?_)
  refine fr_aload_n d_O_settings_0 rfl ?_
  refine fr_iload_n d_O_settings_1 rfl ?_
  refine fr_callVi fr_q6 d_O_settings_2 (ct_O_none X n _ _ _) mv_O_118 rfl rfl rfl (Or.inr ⟨rfl, rfl⟩) rfl rfl ⟨Nat.le_of_ble_eq_true rfl, Nat.le_of_ble_eq_true rfl⟩ ⟨rfl, rfl⟩ ⟨Nat.zero_le _, Nat.zero_le _⟩ (Nat.le_of_ble_eq_true rfl) (fun x I' J' hp1 => ?_)
  obtain ⟨rfl, rfl, rfl⟩ := hp1
  rw [hx]
  refine fr_if_ne 43 d_O_settings_5 rfl (fun _ => ?_) (fun h => absurd h (by decide))
  refine fr_iconst d_O_settings_43 fr_i0 ?_
  exact fr_iret d_O_settings_44 rfl (fr_nar_b (Or.inl rfl)) (Nat.zero_le _) (Nat.zero_le _) ⟨rfl, rfl, rfl⟩
def f_O_options (I : fr_I) (r : Nat) (p2 : Int32) (p3 : Int32) (p4 : Int32) : Int32 × fr_I :=
  if p3 < 0 then
    (0, I)
  else
    if 3 < p3 then
      (0, I)
    else
      if p4 < 1 then
        (0, I)
      else
        if p4 ≤ 50 then
          (1, (fr_ui (fr_ui (fr_ui I 50 0 r p2) 51 0 r p3) 52 0 r p4))
        else
          (0, I)
set_option maxRecDepth 10000 in
theorem ct_O_options (X : fr_X) (n : Nat) (r : Nat) (hr : r < n) (I : fr_I) (J : fr_J) (p2 : Int32) (p3 : Int32) (p4 : Int32) (hw : fr_mw n I) (hb : p2 = 0 ∨ p2 = 1) : fr_Ct X y_O_options c_O_options 5 (some .boolean) (fr_rm 1) [.ref (fr_ad X 20 0), .int (nI r), .int p2, .int p3, .int p4] (fr_Z0 X n) (fr_Z0 X n) I J (fr_pi (fun x I' J' => (f_O_options I r p2 p3 p4).1 = x ∧ (f_O_options I r p2 p3 p4).2 = I' ∧ J = J')) := by
  refine fr_ct (by decide) rfl rfl (Nat.le_of_ble_eq_true rfl) rfl (fun E => ?_)
  refine fr_aload_n d_O_options_0 rfl ?_
  refine fr_iload_n d_O_options_1 rfl ?_
  refine fr_callVi fr_q6 d_O_options_2 (ct_O_none X n _ _ _) mv_O_118 rfl rfl rfl (Or.inr ⟨rfl, rfl⟩) rfl rfl ⟨Nat.le_of_ble_eq_true rfl, Nat.le_of_ble_eq_true rfl⟩ ⟨rfl, rfl⟩ ⟨Nat.zero_le _, Nat.zero_le _⟩ (Nat.le_of_ble_eq_true rfl) (fun x I' J' hp1 => ?_)
  obtain ⟨rfl, rfl, rfl⟩ := hp1
  rw [fm_none hw hr]
  refine fr_if_ne 30 d_O_options_5 rfl (fun h => absurd h (by decide)) (fun _ => ?_)
  refine fr_iload_n d_O_options_8 rfl ?_
  refine fr_if_lt 30 d_O_options_9 rfl (fun h2 => ?_) (fun h2 => ?_)
  · skip
    refine fr_iconst d_O_options_30 fr_i0 ?_
    exact fr_iret d_O_options_31 rfl (fr_nar_b (Or.inl rfl)) (Nat.zero_le _) (Nat.zero_le _) (fr_tIx (by unfold f_O_options; rw [if_pos h2]))
  · skip
    refine fr_iload_n d_O_options_12 rfl ?_
    refine fr_iconst d_O_options_13 fr_i3 ?_
    refine fr_icmp_gt 30 d_O_options_14 rfl (fun h3 => ?_) (fun h3 => ?_)
    · skip
      refine fr_iconst d_O_options_30 fr_i0 ?_
      exact fr_iret d_O_options_31 rfl (fr_nar_b (Or.inl rfl)) (Nat.zero_le _) (Nat.zero_le _) (fr_tIx (by unfold f_O_options; rw [if_neg h2, if_pos h3]))
    · skip
      refine fr_iload d_O_options_17 rfl ?_
      refine fr_iconst d_O_options_19 fr_i1 ?_
      refine fr_icmp_lt 30 d_O_options_20 rfl (fun h4 => ?_) (fun h4 => ?_)
      · skip
        refine fr_iconst d_O_options_30 fr_i0 ?_
        exact fr_iret d_O_options_31 rfl (fr_nar_b (Or.inl rfl)) (Nat.zero_le _) (Nat.zero_le _) (fr_tIx (by unfold f_O_options; rw [if_neg h2, if_neg h3, if_pos h4]))
      · skip
        refine fr_iload d_O_options_23 rfl ?_
        refine fr_bipush d_O_options_25 fr_b50 ?_
        refine fr_icmp_le 32 d_O_options_27 rfl (fun h5 => ?_) (fun h5 => ?_)
        · skip
          refine fr_aload_n d_O_options_32 rfl ?_
          refine fr_getr (k' := 50) (r' := 0) d_O_options_33 fl_O_35 rfl rfl rfl (Or.inr ⟨rfl, rfl⟩) ?_
          refine fr_iload_n d_O_options_36 rfl ?_
          refine fr_iload_n d_O_options_37 rfl ?_
          refine fr_zast (r) d_O_options_38 rfl rfl hb (Or.inr ⟨rfl, rfl⟩) rfl (fm_lt8 hw hr) (by decide) ?_
          refine fr_aload_n d_O_options_39 rfl ?_
          refine fr_getr (k' := 51) (r' := 0) d_O_options_40 fl_O_38 rfl rfl rfl (Or.inr ⟨rfl, rfl⟩) ?_
          refine fr_iload_n d_O_options_43 rfl ?_
          refine fr_iload_n d_O_options_44 rfl ?_
          refine fr_iast (r) d_O_options_45 rfl rfl (Or.inr ⟨rfl, rfl⟩) rfl (fm_lt8 hw hr) (by decide) ?_
          refine fr_aload_n d_O_options_46 rfl ?_
          refine fr_getr (k' := 52) (r' := 0) d_O_options_47 fl_O_41 rfl rfl rfl (Or.inr ⟨rfl, rfl⟩) ?_
          refine fr_iload_n d_O_options_50 rfl ?_
          refine fr_iload d_O_options_51 rfl ?_
          refine fr_iast (r) d_O_options_53 rfl rfl (Or.inr ⟨rfl, rfl⟩) rfl (fm_lt8 hw hr) (by decide) ?_
          refine fr_iconst d_O_options_54 fr_i1 ?_
          exact fr_iret d_O_options_55 rfl (fr_nar_b (Or.inr rfl)) (Nat.zero_le _) (Nat.zero_le _) (fr_tIx (by unfold f_O_options; rw [if_neg h2, if_neg h3, if_neg h4, if_pos h5]))
        · skip
          refine fr_iconst d_O_options_30 fr_i0 ?_
          exact fr_iret d_O_options_31 rfl (fr_nar_b (Or.inl rfl)) (Nat.zero_le _) (Nat.zero_le _) (fr_tIx (by unfold f_O_options; rw [if_neg h2, if_neg h3, if_neg h4, if_neg h5]))
theorem fw_O_options {n : Nat} {I : fr_I} {r : Nat} {p2 : Int32} {p3 : Int32} {p4 : Int32} (hw : fr_mw n I) : fr_mw n (f_O_options I r p2 p3 p4).2 := by
  unfold f_O_options
  refine fw_ite_2 (fun h => ?_) (fun h => ?_)
  · skip
    exact hw
  · skip
    refine fw_ite_2 (fun h => ?_) (fun h => ?_)
    · skip
      exact hw
    · skip
      refine fw_ite_2 (fun h => ?_) (fun h => ?_)
      · skip
        exact hw
      · skip
        refine fw_ite_2 (fun h => ?_) (fun h => ?_)
        · skip
          exact (fm_ui (k := 52) rfl (fm_ui (k := 51) rfl (fm_ui (k := 50) rfl hw)))
        · skip
          exact hw
theorem fc_O_options {P : fr_I → Prop} (hP : fr_ost P) {I : fr_I} {r : Nat} {p2 : Int32} {p3 : Int32} {p4 : Int32} (h : P I) : P (f_O_options I r p2 p3 p4).2 := by
  unfold f_O_options
  refine fw_ite_2 (fun _ => ?_) (fun _ => ?_)
  · skip
    exact h
  · skip
    refine fw_ite_2 (fun _ => ?_) (fun _ => ?_)
    · skip
      exact h
    · skip
      refine fw_ite_2 (fun _ => ?_) (fun _ => ?_)
      · skip
        exact h
      · skip
        refine fw_ite_2 (fun _ => ?_) (fun _ => ?_)
        · skip
          exact (hP (k := 52) (by decide) (hP (k := 51) (by decide) (hP (k := 50) (by decide) h)))
        · skip
          exact h
def f_O_options_no (I : fr_I) (p1 : Int32) (p2 : Int32) (p3 : Int32) (p4 : Int32) : Int32 :=
  0
set_option maxRecDepth 10000 in
theorem ct_O_options_no (X : fr_X) (n : Nat) (I : fr_I) (J : fr_J) (p1 : Int32) (p2 : Int32) (p3 : Int32) (p4 : Int32) (hx : f_O_none I p1 = 1) : fr_Ct X y_O_options c_O_options 5 (some .boolean) (fr_rm 1) [.ref (fr_ad X 20 0), .int p1, .int p2, .int p3, .int p4] (fr_Z0 X n) (fr_Z0 X n) I J (fr_pi (fun x I' J' => (f_O_options_no I p1 p2 p3 p4) = x ∧ I = I' ∧ J = J')) := by
  refine fr_ct (by decide) rfl rfl (Nat.le_of_ble_eq_true rfl) rfl (fun E => ?_)
  refine fr_aload_n d_O_options_0 rfl ?_
  refine fr_iload_n d_O_options_1 rfl ?_
  refine fr_callVi fr_q6 d_O_options_2 (ct_O_none X n _ _ _) mv_O_118 rfl rfl rfl (Or.inr ⟨rfl, rfl⟩) rfl rfl ⟨Nat.le_of_ble_eq_true rfl, Nat.le_of_ble_eq_true rfl⟩ ⟨rfl, rfl⟩ ⟨Nat.zero_le _, Nat.zero_le _⟩ (Nat.le_of_ble_eq_true rfl) (fun x I' J' hp1 => ?_)
  obtain ⟨rfl, rfl, rfl⟩ := hp1
  rw [hx]
  refine fr_if_ne 30 d_O_options_5 rfl (fun _ => ?_) (fun h => absurd h (by decide))
  refine fr_iconst d_O_options_30 fr_i0 ?_
  exact fr_iret d_O_options_31 rfl (fr_nar_b (Or.inl rfl)) (Nat.zero_le _) (Nat.zero_le _) ⟨rfl, rfl, rfl⟩
def f_O_load (I : fr_I) (r : Nat) (p2 : Int32) : Int32 × fr_I :=
  if p2 < 0 then
    (0, I)
  else
    if p2 ≤ 2000 then
      (1, (fr_ui I 45 0 r p2))
    else
      (0, I)
set_option maxRecDepth 10000 in
theorem ct_O_load (X : fr_X) (n : Nat) (r : Nat) (hr : r < n) (I : fr_I) (J : fr_J) (p2 : Int32) (hw : fr_mw n I) : fr_Ct X y_O_load c_O_load 3 (some .boolean) (fr_rm 1) [.ref (fr_ad X 20 0), .int (nI r), .int p2] (fr_Z0 X n) (fr_Z0 X n) I J (fr_pi (fun x I' J' => (f_O_load I r p2).1 = x ∧ (f_O_load I r p2).2 = I' ∧ J = J')) := by
  refine fr_ct (by decide) rfl rfl (Nat.le_of_ble_eq_true rfl) rfl (fun E => ?_)
  refine fr_aload_n d_O_load_0 rfl ?_
  refine fr_iload_n d_O_load_1 rfl ?_
  refine fr_callVi fr_q6 d_O_load_2 (ct_O_none X n _ _ _) mv_O_118 rfl rfl rfl (Or.inr ⟨rfl, rfl⟩) rfl rfl ⟨Nat.le_of_ble_eq_true rfl, Nat.le_of_ble_eq_true rfl⟩ ⟨rfl, rfl⟩ ⟨Nat.zero_le _, Nat.zero_le _⟩ (Nat.le_of_ble_eq_true rfl) (fun x I' J' hp1 => ?_)
  obtain ⟨rfl, rfl, rfl⟩ := hp1
  rw [fm_none hw hr]
  refine fr_if_ne 19 d_O_load_5 rfl (fun h => absurd h (by decide)) (fun _ => ?_)
  refine fr_iload_n d_O_load_8 rfl ?_
  refine fr_if_lt 19 d_O_load_9 rfl (fun h2 => ?_) (fun h2 => ?_)
  · skip
    refine fr_iconst d_O_load_19 fr_i0 ?_
    exact fr_iret d_O_load_20 rfl (fr_nar_b (Or.inl rfl)) (Nat.zero_le _) (Nat.zero_le _) (fr_tIx (by unfold f_O_load; rw [if_pos h2]))
  · skip
    refine fr_iload_n d_O_load_12 rfl ?_
    refine fr_sipush d_O_load_13 fr_s2000 ?_
    refine fr_icmp_le 21 d_O_load_16 rfl (fun h3 => ?_) (fun h3 => ?_)
    · skip
      refine fr_aload_n d_O_load_21 rfl ?_
      refine fr_getr (k' := 45) (r' := 0) d_O_load_22 fl_O_20 rfl rfl rfl (Or.inr ⟨rfl, rfl⟩) ?_
      refine fr_iload_n d_O_load_25 rfl ?_
      refine fr_iload_n d_O_load_26 rfl ?_
      refine fr_iast (r) d_O_load_27 rfl rfl (Or.inr ⟨rfl, rfl⟩) rfl (fm_lt8 hw hr) (by decide) ?_
      refine fr_iconst d_O_load_28 fr_i1 ?_
      exact fr_iret d_O_load_29 rfl (fr_nar_b (Or.inr rfl)) (Nat.zero_le _) (Nat.zero_le _) (fr_tIx (by unfold f_O_load; rw [if_neg h2, if_pos h3]))
    · skip
      refine fr_iconst d_O_load_19 fr_i0 ?_
      exact fr_iret d_O_load_20 rfl (fr_nar_b (Or.inl rfl)) (Nat.zero_le _) (Nat.zero_le _) (fr_tIx (by unfold f_O_load; rw [if_neg h2, if_neg h3]))
theorem fw_O_load {n : Nat} {I : fr_I} {r : Nat} {p2 : Int32} (hw : fr_mw n I) : fr_mw n (f_O_load I r p2).2 := by
  unfold f_O_load
  refine fw_ite_2 (fun h => ?_) (fun h => ?_)
  · skip
    exact hw
  · skip
    refine fw_ite_2 (fun h => ?_) (fun h => ?_)
    · skip
      exact (fm_ui (k := 45) rfl hw)
    · skip
      exact hw
theorem fc_O_load {P : fr_I → Prop} (hP : fr_ost P) {I : fr_I} {r : Nat} {p2 : Int32} (h : P I) : P (f_O_load I r p2).2 := by
  unfold f_O_load
  refine fw_ite_2 (fun _ => ?_) (fun _ => ?_)
  · skip
    exact h
  · skip
    refine fw_ite_2 (fun _ => ?_) (fun _ => ?_)
    · skip
      exact (hP (k := 45) (by decide) h)
    · skip
      exact h
def f_O_load_no (I : fr_I) (p1 : Int32) (p2 : Int32) : Int32 :=
  0
set_option maxRecDepth 10000 in
theorem ct_O_load_no (X : fr_X) (n : Nat) (I : fr_I) (J : fr_J) (p1 : Int32) (p2 : Int32) (hx : f_O_none I p1 = 1) : fr_Ct X y_O_load c_O_load 3 (some .boolean) (fr_rm 1) [.ref (fr_ad X 20 0), .int p1, .int p2] (fr_Z0 X n) (fr_Z0 X n) I J (fr_pi (fun x I' J' => (f_O_load_no I p1 p2) = x ∧ I = I' ∧ J = J')) := by
  refine fr_ct (by decide) rfl rfl (Nat.le_of_ble_eq_true rfl) rfl (fun E => ?_)
  refine fr_aload_n d_O_load_0 rfl ?_
  refine fr_iload_n d_O_load_1 rfl ?_
  refine fr_callVi fr_q6 d_O_load_2 (ct_O_none X n _ _ _) mv_O_118 rfl rfl rfl (Or.inr ⟨rfl, rfl⟩) rfl rfl ⟨Nat.le_of_ble_eq_true rfl, Nat.le_of_ble_eq_true rfl⟩ ⟨rfl, rfl⟩ ⟨Nat.zero_le _, Nat.zero_le _⟩ (Nat.le_of_ble_eq_true rfl) (fun x I' J' hp1 => ?_)
  obtain ⟨rfl, rfl, rfl⟩ := hp1
  rw [hx]
  refine fr_if_ne 19 d_O_load_5 rfl (fun _ => ?_) (fun h => absurd h (by decide))
  refine fr_iconst d_O_load_19 fr_i0 ?_
  exact fr_iret d_O_load_20 rfl (fr_nar_b (Or.inl rfl)) (Nat.zero_le _) (Nat.zero_le _) ⟨rfl, rfl, rfl⟩
def f_O_fault (I : fr_I) (r : Nat) (p2 : Int32) : Int32 × fr_I :=
  if p2 < 0 then
    (0, I)
  else
    if p2 ≤ 20000 then
      (1, (fr_ui I 46 0 r p2))
    else
      (0, I)
set_option maxRecDepth 10000 in
theorem ct_O_fault (X : fr_X) (n : Nat) (r : Nat) (hr : r < n) (I : fr_I) (J : fr_J) (p2 : Int32) (hw : fr_mw n I) : fr_Ct X y_O_fault c_O_fault 3 (some .boolean) (fr_rm 1) [.ref (fr_ad X 20 0), .int (nI r), .int p2] (fr_Z0 X n) (fr_Z0 X n) I J (fr_pi (fun x I' J' => (f_O_fault I r p2).1 = x ∧ (f_O_fault I r p2).2 = I' ∧ J = J')) := by
  refine fr_ct (by decide) rfl rfl (Nat.le_of_ble_eq_true rfl) rfl (fun E => ?_)
  refine fr_aload_n d_O_fault_0 rfl ?_
  refine fr_iload_n d_O_fault_1 rfl ?_
  refine fr_callVi fr_q6 d_O_fault_2 (ct_O_none X n _ _ _) mv_O_118 rfl rfl rfl (Or.inr ⟨rfl, rfl⟩) rfl rfl ⟨Nat.le_of_ble_eq_true rfl, Nat.le_of_ble_eq_true rfl⟩ ⟨rfl, rfl⟩ ⟨Nat.zero_le _, Nat.zero_le _⟩ (Nat.le_of_ble_eq_true rfl) (fun x I' J' hp1 => ?_)
  obtain ⟨rfl, rfl, rfl⟩ := hp1
  rw [fm_none hw hr]
  refine fr_if_ne 19 d_O_fault_5 rfl (fun h => absurd h (by decide)) (fun _ => ?_)
  refine fr_iload_n d_O_fault_8 rfl ?_
  refine fr_if_lt 19 d_O_fault_9 rfl (fun h2 => ?_) (fun h2 => ?_)
  · skip
    refine fr_iconst d_O_fault_19 fr_i0 ?_
    exact fr_iret d_O_fault_20 rfl (fr_nar_b (Or.inl rfl)) (Nat.zero_le _) (Nat.zero_le _) (fr_tIx (by unfold f_O_fault; rw [if_pos h2]))
  · skip
    refine fr_iload_n d_O_fault_12 rfl ?_
    refine fr_sipush d_O_fault_13 fr_s20000 ?_
    refine fr_icmp_le 21 d_O_fault_16 rfl (fun h3 => ?_) (fun h3 => ?_)
    · skip
      refine fr_aload_n d_O_fault_21 rfl ?_
      refine fr_getr (k' := 46) (r' := 0) d_O_fault_22 fl_O_23 rfl rfl rfl (Or.inr ⟨rfl, rfl⟩) ?_
      refine fr_iload_n d_O_fault_25 rfl ?_
      refine fr_iload_n d_O_fault_26 rfl ?_
      refine fr_iast (r) d_O_fault_27 rfl rfl (Or.inr ⟨rfl, rfl⟩) rfl (fm_lt8 hw hr) (by decide) ?_
      refine fr_iconst d_O_fault_28 fr_i1 ?_
      exact fr_iret d_O_fault_29 rfl (fr_nar_b (Or.inr rfl)) (Nat.zero_le _) (Nat.zero_le _) (fr_tIx (by unfold f_O_fault; rw [if_neg h2, if_pos h3]))
    · skip
      refine fr_iconst d_O_fault_19 fr_i0 ?_
      exact fr_iret d_O_fault_20 rfl (fr_nar_b (Or.inl rfl)) (Nat.zero_le _) (Nat.zero_le _) (fr_tIx (by unfold f_O_fault; rw [if_neg h2, if_neg h3]))
theorem fw_O_fault {n : Nat} {I : fr_I} {r : Nat} {p2 : Int32} (hw : fr_mw n I) : fr_mw n (f_O_fault I r p2).2 := by
  unfold f_O_fault
  refine fw_ite_2 (fun h => ?_) (fun h => ?_)
  · skip
    exact hw
  · skip
    refine fw_ite_2 (fun h => ?_) (fun h => ?_)
    · skip
      exact (fm_ui (k := 46) rfl hw)
    · skip
      exact hw
theorem fc_O_fault {P : fr_I → Prop} (hP : fr_ost P) {I : fr_I} {r : Nat} {p2 : Int32} (h : P I) : P (f_O_fault I r p2).2 := by
  unfold f_O_fault
  refine fw_ite_2 (fun _ => ?_) (fun _ => ?_)
  · skip
    exact h
  · skip
    refine fw_ite_2 (fun _ => ?_) (fun _ => ?_)
    · skip
      exact (hP (k := 46) (by decide) h)
    · skip
      exact h
def f_O_fault_no (I : fr_I) (p1 : Int32) (p2 : Int32) : Int32 :=
  0
set_option maxRecDepth 10000 in
theorem ct_O_fault_no (X : fr_X) (n : Nat) (I : fr_I) (J : fr_J) (p1 : Int32) (p2 : Int32) (hx : f_O_none I p1 = 1) : fr_Ct X y_O_fault c_O_fault 3 (some .boolean) (fr_rm 1) [.ref (fr_ad X 20 0), .int p1, .int p2] (fr_Z0 X n) (fr_Z0 X n) I J (fr_pi (fun x I' J' => (f_O_fault_no I p1 p2) = x ∧ I = I' ∧ J = J')) := by
  refine fr_ct (by decide) rfl rfl (Nat.le_of_ble_eq_true rfl) rfl (fun E => ?_)
  refine fr_aload_n d_O_fault_0 rfl ?_
  refine fr_iload_n d_O_fault_1 rfl ?_
  refine fr_callVi fr_q6 d_O_fault_2 (ct_O_none X n _ _ _) mv_O_118 rfl rfl rfl (Or.inr ⟨rfl, rfl⟩) rfl rfl ⟨Nat.le_of_ble_eq_true rfl, Nat.le_of_ble_eq_true rfl⟩ ⟨rfl, rfl⟩ ⟨Nat.zero_le _, Nat.zero_le _⟩ (Nat.le_of_ble_eq_true rfl) (fun x I' J' hp1 => ?_)
  obtain ⟨rfl, rfl, rfl⟩ := hp1
  rw [hx]
  refine fr_if_ne 19 d_O_fault_5 rfl (fun _ => ?_) (fun h => absurd h (by decide))
  refine fr_iconst d_O_fault_19 fr_i0 ?_
  exact fr_iret d_O_fault_20 rfl (fr_nar_b (Or.inl rfl)) (Nat.zero_le _) (Nat.zero_le _) ⟨rfl, rfl, rfl⟩
def f_O_jam (I : fr_I) (r : Nat) (p2 : Int32) : Int32 × fr_I :=
  (1, (fr_ui I 44 0 r p2))
set_option maxRecDepth 10000 in
theorem ct_O_jam (X : fr_X) (n : Nat) (r : Nat) (hr : r < n) (I : fr_I) (J : fr_J) (p2 : Int32) (hw : fr_mw n I) (hb : p2 = 0 ∨ p2 = 1) : fr_Ct X y_O_jam c_O_jam 3 (some .boolean) (fr_rm 1) [.ref (fr_ad X 20 0), .int (nI r), .int p2] (fr_Z0 X n) (fr_Z0 X n) I J (fr_pi (fun x I' J' => (f_O_jam I r p2).1 = x ∧ (f_O_jam I r p2).2 = I' ∧ J = J')) := by
  refine fr_ct (by decide) rfl rfl (Nat.le_of_ble_eq_true rfl) rfl (fun E => ?_)
  refine fr_aload_n d_O_jam_0 rfl ?_
  refine fr_iload_n d_O_jam_1 rfl ?_
  refine fr_callVi fr_q6 d_O_jam_2 (ct_O_none X n _ _ _) mv_O_118 rfl rfl rfl (Or.inr ⟨rfl, rfl⟩) rfl rfl ⟨Nat.le_of_ble_eq_true rfl, Nat.le_of_ble_eq_true rfl⟩ ⟨rfl, rfl⟩ ⟨Nat.zero_le _, Nat.zero_le _⟩ (Nat.le_of_ble_eq_true rfl) (fun x I' J' hp1 => ?_)
  obtain ⟨rfl, rfl, rfl⟩ := hp1
  rw [fm_none hw hr]
  refine fr_if_eq 10 d_O_jam_5 rfl (fun _ => ?_) (fun h => absurd h (by decide))
  refine fr_aload_n d_O_jam_10 rfl ?_
  refine fr_getr (k' := 44) (r' := 0) d_O_jam_11 fl_O_17 rfl rfl rfl (Or.inr ⟨rfl, rfl⟩) ?_
  refine fr_iload_n d_O_jam_14 rfl ?_
  refine fr_iload_n d_O_jam_15 rfl ?_
  refine fr_zast (r) d_O_jam_16 rfl rfl hb (Or.inr ⟨rfl, rfl⟩) rfl (fm_lt8 hw hr) (by decide) ?_
  refine fr_iconst d_O_jam_17 fr_i1 ?_
  exact fr_iret d_O_jam_18 rfl (fr_nar_b (Or.inr rfl)) (Nat.zero_le _) (Nat.zero_le _) (fr_tIx (rfl))
theorem fw_O_jam {n : Nat} {I : fr_I} {r : Nat} {p2 : Int32} (hw : fr_mw n I) : fr_mw n (f_O_jam I r p2).2 := by
  unfold f_O_jam
  exact (fm_ui (k := 44) rfl hw)
theorem fc_O_jam {P : fr_I → Prop} (hP : fr_ost P) {I : fr_I} {r : Nat} {p2 : Int32} (h : P I) : P (f_O_jam I r p2).2 := by
  unfold f_O_jam
  exact (hP (k := 44) (by decide) h)
def f_O_jam_no (I : fr_I) (p1 : Int32) (p2 : Int32) : Int32 :=
  0
set_option maxRecDepth 10000 in
theorem ct_O_jam_no (X : fr_X) (n : Nat) (I : fr_I) (J : fr_J) (p1 : Int32) (p2 : Int32) (hx : f_O_none I p1 = 1) : fr_Ct X y_O_jam c_O_jam 3 (some .boolean) (fr_rm 1) [.ref (fr_ad X 20 0), .int p1, .int p2] (fr_Z0 X n) (fr_Z0 X n) I J (fr_pi (fun x I' J' => (f_O_jam_no I p1 p2) = x ∧ I = I' ∧ J = J')) := by
  refine fr_ct (by decide) rfl rfl (Nat.le_of_ble_eq_true rfl) rfl (fun E => ?_)
  refine fr_aload_n d_O_jam_0 rfl ?_
  refine fr_iload_n d_O_jam_1 rfl ?_
  refine fr_callVi fr_q6 d_O_jam_2 (ct_O_none X n _ _ _) mv_O_118 rfl rfl rfl (Or.inr ⟨rfl, rfl⟩) rfl rfl ⟨Nat.le_of_ble_eq_true rfl, Nat.le_of_ble_eq_true rfl⟩ ⟨rfl, rfl⟩ ⟨Nat.zero_le _, Nat.zero_le _⟩ (Nat.le_of_ble_eq_true rfl) (fun x I' J' hp1 => ?_)
  obtain ⟨rfl, rfl, rfl⟩ := hp1
  rw [hx]
  refine fr_if_eq 10 d_O_jam_5 rfl (fun h => absurd h (by decide)) (fun _ => ?_)
  refine fr_iconst d_O_jam_8 fr_i0 ?_
  exact fr_iret d_O_jam_9 rfl (fr_nar_b (Or.inl rfl)) (Nat.zero_le _) (Nat.zero_le _) ⟨rfl, rfl, rfl⟩
def f_O_line (I : fr_I) (r : Nat) (p2 : Int32) : Int32 × fr_I :=
  if p2 < 0 then
    (0, I)
  else
    if p2 ≤ 8 then
      (1, (fr_ui I 53 0 r p2))
    else
      (0, I)
set_option maxRecDepth 10000 in
theorem ct_O_line (X : fr_X) (n : Nat) (r : Nat) (hr : r < n) (I : fr_I) (J : fr_J) (p2 : Int32) (hw : fr_mw n I) : fr_Ct X y_O_line c_O_line 3 (some .boolean) (fr_rm 1) [.ref (fr_ad X 20 0), .int (nI r), .int p2] (fr_Z0 X n) (fr_Z0 X n) I J (fr_pi (fun x I' J' => (f_O_line I r p2).1 = x ∧ (f_O_line I r p2).2 = I' ∧ J = J')) := by
  refine fr_ct (by decide) rfl rfl (Nat.le_of_ble_eq_true rfl) rfl (fun E => ?_)
  refine fr_aload_n d_O_line_0 rfl ?_
  refine fr_iload_n d_O_line_1 rfl ?_
  refine fr_callVi fr_q6 d_O_line_2 (ct_O_none X n _ _ _) mv_O_118 rfl rfl rfl (Or.inr ⟨rfl, rfl⟩) rfl rfl ⟨Nat.le_of_ble_eq_true rfl, Nat.le_of_ble_eq_true rfl⟩ ⟨rfl, rfl⟩ ⟨Nat.zero_le _, Nat.zero_le _⟩ (Nat.le_of_ble_eq_true rfl) (fun x I' J' hp1 => ?_)
  obtain ⟨rfl, rfl, rfl⟩ := hp1
  rw [fm_none hw hr]
  refine fr_if_ne 18 d_O_line_5 rfl (fun h => absurd h (by decide)) (fun _ => ?_)
  refine fr_iload_n d_O_line_8 rfl ?_
  refine fr_if_lt 18 d_O_line_9 rfl (fun h2 => ?_) (fun h2 => ?_)
  · skip
    refine fr_iconst d_O_line_18 fr_i0 ?_
    exact fr_iret d_O_line_19 rfl (fr_nar_b (Or.inl rfl)) (Nat.zero_le _) (Nat.zero_le _) (fr_tIx (by unfold f_O_line; rw [if_pos h2]))
  · skip
    refine fr_iload_n d_O_line_12 rfl ?_
    refine fr_bipush d_O_line_13 fr_b8 ?_
    refine fr_icmp_le 20 d_O_line_15 rfl (fun h3 => ?_) (fun h3 => ?_)
    · skip
      refine fr_aload_n d_O_line_20 rfl ?_
      refine fr_getr (k' := 53) (r' := 0) d_O_line_21 fl_O_44 rfl rfl rfl (Or.inr ⟨rfl, rfl⟩) ?_
      refine fr_iload_n d_O_line_24 rfl ?_
      refine fr_iload_n d_O_line_25 rfl ?_
      refine fr_iast (r) d_O_line_26 rfl rfl (Or.inr ⟨rfl, rfl⟩) rfl (fm_lt8 hw hr) (by decide) ?_
      refine fr_iconst d_O_line_27 fr_i1 ?_
      exact fr_iret d_O_line_28 rfl (fr_nar_b (Or.inr rfl)) (Nat.zero_le _) (Nat.zero_le _) (fr_tIx (by unfold f_O_line; rw [if_neg h2, if_pos h3]))
    · skip
      refine fr_iconst d_O_line_18 fr_i0 ?_
      exact fr_iret d_O_line_19 rfl (fr_nar_b (Or.inl rfl)) (Nat.zero_le _) (Nat.zero_le _) (fr_tIx (by unfold f_O_line; rw [if_neg h2, if_neg h3]))
theorem fw_O_line {n : Nat} {I : fr_I} {r : Nat} {p2 : Int32} (hw : fr_mw n I) : fr_mw n (f_O_line I r p2).2 := by
  unfold f_O_line
  refine fw_ite_2 (fun h => ?_) (fun h => ?_)
  · skip
    exact hw
  · skip
    refine fw_ite_2 (fun h => ?_) (fun h => ?_)
    · skip
      exact (fm_ui (k := 53) rfl hw)
    · skip
      exact hw
theorem fc_O_line {P : fr_I → Prop} (hP : fr_ost P) {I : fr_I} {r : Nat} {p2 : Int32} (h : P I) : P (f_O_line I r p2).2 := by
  unfold f_O_line
  refine fw_ite_2 (fun _ => ?_) (fun _ => ?_)
  · skip
    exact h
  · skip
    refine fw_ite_2 (fun _ => ?_) (fun _ => ?_)
    · skip
      exact (hP (k := 53) (by decide) h)
    · skip
      exact h
def f_O_line_no (I : fr_I) (p1 : Int32) (p2 : Int32) : Int32 :=
  0
set_option maxRecDepth 10000 in
theorem ct_O_line_no (X : fr_X) (n : Nat) (I : fr_I) (J : fr_J) (p1 : Int32) (p2 : Int32) (hx : f_O_none I p1 = 1) : fr_Ct X y_O_line c_O_line 3 (some .boolean) (fr_rm 1) [.ref (fr_ad X 20 0), .int p1, .int p2] (fr_Z0 X n) (fr_Z0 X n) I J (fr_pi (fun x I' J' => (f_O_line_no I p1 p2) = x ∧ I = I' ∧ J = J')) := by
  refine fr_ct (by decide) rfl rfl (Nat.le_of_ble_eq_true rfl) rfl (fun E => ?_)
  refine fr_aload_n d_O_line_0 rfl ?_
  refine fr_iload_n d_O_line_1 rfl ?_
  refine fr_callVi fr_q6 d_O_line_2 (ct_O_none X n _ _ _) mv_O_118 rfl rfl rfl (Or.inr ⟨rfl, rfl⟩) rfl rfl ⟨Nat.le_of_ble_eq_true rfl, Nat.le_of_ble_eq_true rfl⟩ ⟨rfl, rfl⟩ ⟨Nat.zero_le _, Nat.zero_le _⟩ (Nat.le_of_ble_eq_true rfl) (fun x I' J' hp1 => ?_)
  obtain ⟨rfl, rfl, rfl⟩ := hp1
  rw [hx]
  refine fr_if_ne 18 d_O_line_5 rfl (fun _ => ?_) (fun h => absurd h (by decide))
  refine fr_iconst d_O_line_18 fr_i0 ?_
  exact fr_iret d_O_line_19 rfl (fr_nar_b (Or.inl rfl)) (Nat.zero_le _) (Nat.zero_le _) ⟨rfl, rfl, rfl⟩
def f_O_operate (I : fr_I) (r : Nat) (p2 : Int32) : Int32 × fr_I :=
  (1, (fr_ui (fr_ui (fr_ui (fr_ui (fr_ui I 43 0 r p2) 60 0 r 0) 63 0 r 0) 65 0 r (if p2 = 0 then (1 : Int32) else 0)) 66 0 r 0))
set_option maxRecDepth 10000 in
theorem ct_O_operate (X : fr_X) (n : Nat) (r : Nat) (hr : r < n) (I : fr_I) (J : fr_J) (p2 : Int32) (hw : fr_mw n I) (hb : p2 = 0 ∨ p2 = 1) : fr_Ct X y_O_operate c_O_operate 3 (some .boolean) (fr_rm 1) [.ref (fr_ad X 20 0), .int (nI r), .int p2] (fr_Z0 X n) (fr_Z0 X n) I J (fr_pi (fun x I' J' => (f_O_operate I r p2).1 = x ∧ (f_O_operate I r p2).2 = I' ∧ J = J')) := by
  refine fr_ct (by decide) rfl rfl (Nat.le_of_ble_eq_true rfl) rfl (fun E => ?_)
  refine fr_aload_n d_O_operate_0 rfl ?_
  refine fr_iload_n d_O_operate_1 rfl ?_
  refine fr_callVi fr_q6 d_O_operate_2 (ct_O_none X n _ _ _) mv_O_118 rfl rfl rfl (Or.inr ⟨rfl, rfl⟩) rfl rfl ⟨Nat.le_of_ble_eq_true rfl, Nat.le_of_ble_eq_true rfl⟩ ⟨rfl, rfl⟩ ⟨Nat.zero_le _, Nat.zero_le _⟩ (Nat.le_of_ble_eq_true rfl) (fun x I' J' hp1 => ?_)
  obtain ⟨rfl, rfl, rfl⟩ := hp1
  rw [fm_none hw hr]
  refine fr_if_eq 10 d_O_operate_5 rfl (fun _ => ?_) (fun h => absurd h (by decide))
  refine fr_aload_n d_O_operate_10 rfl ?_
  refine fr_getr (k' := 43) (r' := 0) d_O_operate_11 fl_O_13 rfl rfl rfl (Or.inr ⟨rfl, rfl⟩) ?_
  refine fr_iload_n d_O_operate_14 rfl ?_
  refine fr_iload_n d_O_operate_15 rfl ?_
  refine fr_zast (r) d_O_operate_16 rfl rfl hb (Or.inr ⟨rfl, rfl⟩) rfl (fm_lt8 hw hr) (by decide) ?_
  refine fr_aload_n d_O_operate_17 rfl ?_
  refine fr_getr (k' := 60) (r' := 0) d_O_operate_18 fl_O_66 rfl rfl rfl (Or.inr ⟨rfl, rfl⟩) ?_
  refine fr_iload_n d_O_operate_21 rfl ?_
  refine fr_iconst d_O_operate_22 fr_i0 ?_
  refine fr_iast (r) d_O_operate_23 rfl rfl (Or.inr ⟨rfl, rfl⟩) rfl (fm_lt8 hw hr) (by decide) ?_
  refine fr_aload_n d_O_operate_24 rfl ?_
  refine fr_getr (k' := 63) (r' := 0) d_O_operate_25 fl_O_75 rfl rfl rfl (Or.inr ⟨rfl, rfl⟩) ?_
  refine fr_iload_n d_O_operate_28 rfl ?_
  refine fr_iconst d_O_operate_29 fr_i0 ?_
  refine fr_zast (r) d_O_operate_30 rfl rfl (Or.inl rfl) (Or.inr ⟨rfl, rfl⟩) rfl (fm_lt8 hw hr) (by decide) ?_
  refine fr_aload_n d_O_operate_31 rfl ?_
  refine fr_getr (k' := 65) (r' := 0) d_O_operate_32 fl_O_81 rfl rfl rfl (Or.inr ⟨rfl, rfl⟩) ?_
  refine fr_iload_n d_O_operate_35 rfl ?_
  refine fr_iload_n d_O_operate_36 rfl ?_
  refine fr_tif_ne (t := 44) (j := 45) d_O_operate_37 rfl (fun k => fr_iconst d_O_operate_40 fr_i1 (fr_goto 45 d_O_operate_41 rfl k)) (fun k => fr_iconst d_O_operate_44 fr_i0 k) ?_
  refine fr_zast (r) d_O_operate_45 rfl rfl fr_if10 (Or.inr ⟨rfl, rfl⟩) rfl (fm_lt8 hw hr) (by decide) ?_
  refine fr_aload_n d_O_operate_46 rfl ?_
  refine fr_getr (k' := 66) (r' := 0) d_O_operate_47 fl_O_84 rfl rfl rfl (Or.inr ⟨rfl, rfl⟩) ?_
  refine fr_iload_n d_O_operate_50 rfl ?_
  refine fr_iconst d_O_operate_51 fr_i0 ?_
  refine fr_iast (r) d_O_operate_52 rfl rfl (Or.inr ⟨rfl, rfl⟩) rfl (fm_lt8 hw hr) (by decide) ?_
  refine fr_iconst d_O_operate_53 fr_i1 ?_
  exact fr_iret d_O_operate_54 rfl (fr_nar_b (Or.inr rfl)) (Nat.zero_le _) (Nat.zero_le _) (fr_tIx (rfl))
theorem fw_O_operate {n : Nat} {I : fr_I} {r : Nat} {p2 : Int32} (hw : fr_mw n I) : fr_mw n (f_O_operate I r p2).2 := by
  unfold f_O_operate
  exact (fm_ui (k := 66) rfl (fm_ui (k := 65) rfl (fm_ui (k := 63) rfl (fm_ui (k := 60) rfl (fm_ui (k := 43) rfl hw)))))
theorem fc_O_operate {P : fr_I → Prop} (hP : fr_ost P) {I : fr_I} {r : Nat} {p2 : Int32} (h : P I) : P (f_O_operate I r p2).2 := by
  unfold f_O_operate
  exact (hP (k := 66) (by decide) (hP (k := 65) (by decide) (hP (k := 63) (by decide) (hP (k := 60) (by decide) (hP (k := 43) (by decide) h)))))
def f_O_operate_no (I : fr_I) (p1 : Int32) (p2 : Int32) : Int32 :=
  0
set_option maxRecDepth 10000 in
theorem ct_O_operate_no (X : fr_X) (n : Nat) (I : fr_I) (J : fr_J) (p1 : Int32) (p2 : Int32) (hx : f_O_none I p1 = 1) : fr_Ct X y_O_operate c_O_operate 3 (some .boolean) (fr_rm 1) [.ref (fr_ad X 20 0), .int p1, .int p2] (fr_Z0 X n) (fr_Z0 X n) I J (fr_pi (fun x I' J' => (f_O_operate_no I p1 p2) = x ∧ I = I' ∧ J = J')) := by
  refine fr_ct (by decide) rfl rfl (Nat.le_of_ble_eq_true rfl) rfl (fun E => ?_)
  refine fr_aload_n d_O_operate_0 rfl ?_
  refine fr_iload_n d_O_operate_1 rfl ?_
  refine fr_callVi fr_q6 d_O_operate_2 (ct_O_none X n _ _ _) mv_O_118 rfl rfl rfl (Or.inr ⟨rfl, rfl⟩) rfl rfl ⟨Nat.le_of_ble_eq_true rfl, Nat.le_of_ble_eq_true rfl⟩ ⟨rfl, rfl⟩ ⟨Nat.zero_le _, Nat.zero_le _⟩ (Nat.le_of_ble_eq_true rfl) (fun x I' J' hp1 => ?_)
  obtain ⟨rfl, rfl, rfl⟩ := hp1
  rw [hx]
  refine fr_if_eq 10 d_O_operate_5 rfl (fun h => absurd h (by decide)) (fun _ => ?_)
  refine fr_iconst d_O_operate_8 fr_i0 ?_
  exact fr_iret d_O_operate_9 rfl (fr_nar_b (Or.inl rfl)) (Nat.zero_le _) (Nat.zero_le _) ⟨rfl, rfl, rfl⟩
def f_O_time (I : fr_I) : Int32 :=
  (I 20 0 1)
set_option maxRecDepth 10000 in
theorem ct_O_time (X : fr_X) (n : Nat) (I : fr_I) (J : fr_J) : fr_Ct X y_O_time c_O_time 1 (some .int) (fr_rm 0) [.ref (fr_ad X 20 0)] (fr_Z0 X n) (fr_Z0 X n) I J (fr_pi (fun x I' J' => (f_O_time I) = x ∧ I = I' ∧ J = J')) := by
  refine fr_ct (by decide) rfl rfl (Nat.le_of_ble_eq_true rfl) rfl (fun E => ?_)
  refine fr_aload_n d_O_time_0 rfl ?_
  refine fr_geti d_O_time_1 fl_O_115 rfl rfl (Or.inr ⟨rfl, rfl⟩) ?_
  exact fr_iret d_O_time_4 rfl (fr_nar_i _) (Nat.zero_le _) (Nat.zero_le _) ⟨rfl, rfl, rfl⟩
def f_O_sum (I : fr_I) (J : fr_J) (r : Nat) : Int64 :=
  (J 55 0 r)
set_option maxRecDepth 10000 in
theorem ct_O_sum (X : fr_X) (n : Nat) (r : Nat) (hr : r < n) (I : fr_I) (J : fr_J)  (hw : fr_mw n I) : fr_Ct X y_O_sum c_O_sum 2 (some .long) (fr_rm 1) [.ref (fr_ad X 20 0), .int (nI r)] (fr_Z0 X n) (fr_Z0 X n) I J (fr_pl (fun x I' J' => (f_O_sum I J r) = x ∧ I = I' ∧ J = J')) := by
  refine fr_ct (by decide) rfl rfl (Nat.le_of_ble_eq_true rfl) rfl (fun E => ?_)
  refine fr_aload_n d_O_sum_0 rfl ?_
  refine fr_iload_n d_O_sum_1 rfl ?_
  refine fr_callVi fr_q6 d_O_sum_2 (ct_O_none X n _ _ _) mv_O_118 rfl rfl rfl (Or.inr ⟨rfl, rfl⟩) rfl rfl ⟨Nat.le_of_ble_eq_true rfl, Nat.le_of_ble_eq_true rfl⟩ ⟨rfl, rfl⟩ ⟨Nat.zero_le _, Nat.zero_le _⟩ (Nat.le_of_ble_eq_true rfl) (fun x I' J' hp1 => ?_)
  obtain ⟨rfl, rfl, rfl⟩ := hp1
  rw [fm_none hw hr]
  refine fr_if_eq 14 d_O_sum_5 rfl (fun _ => ?_) (fun h => absurd h (by decide))
  refine fr_aload_n d_O_sum_14 rfl ?_
  refine fr_getr (k' := 55) (r' := 0) d_O_sum_15 fl_O_50 rfl rfl rfl (Or.inr ⟨rfl, rfl⟩) ?_
  refine fr_iload_n d_O_sum_18 rfl ?_
  refine fr_lald (r) d_O_sum_19 rfl rfl (Or.inr ⟨rfl, rfl⟩) rfl (fm_lt8 hw hr) (by decide) ?_
  exact fr_lret d_O_sum_20 rfl (Nat.zero_le _) (Nat.zero_le _) ⟨rfl, rfl, rfl⟩
def f_O_sum_no (I : fr_I) (p1 : Int32) : Int64 :=
  (-1)
set_option maxRecDepth 10000 in
theorem ct_O_sum_no (X : fr_X) (n : Nat) (I : fr_I) (J : fr_J) (p1 : Int32) (hx : f_O_none I p1 = 1) : fr_Ct X y_O_sum c_O_sum 2 (some .long) (fr_rm 1) [.ref (fr_ad X 20 0), .int p1] (fr_Z0 X n) (fr_Z0 X n) I J (fr_pl (fun x I' J' => (f_O_sum_no I p1) = x ∧ I = I' ∧ J = J')) := by
  refine fr_ct (by decide) rfl rfl (Nat.le_of_ble_eq_true rfl) rfl (fun E => ?_)
  refine fr_aload_n d_O_sum_0 rfl ?_
  refine fr_iload_n d_O_sum_1 rfl ?_
  refine fr_callVi fr_q6 d_O_sum_2 (ct_O_none X n _ _ _) mv_O_118 rfl rfl rfl (Or.inr ⟨rfl, rfl⟩) rfl rfl ⟨Nat.le_of_ble_eq_true rfl, Nat.le_of_ble_eq_true rfl⟩ ⟨rfl, rfl⟩ ⟨Nat.zero_le _, Nat.zero_le _⟩ (Nat.le_of_ble_eq_true rfl) (fun x I' J' hp1 => ?_)
  obtain ⟨rfl, rfl, rfl⟩ := hp1
  rw [hx]
  refine fr_if_eq 14 d_O_sum_5 rfl (fun h => absurd h (by decide)) (fun _ => ?_)
  refine fr_ldc2 lc_O_173 d_O_sum_8 ?_
  refine fr_goto 20 d_O_sum_11 rfl ?_
  exact fr_lret d_O_sum_20 rfl (Nat.zero_le _) (Nat.zero_le _) ⟨rfl, rfl, rfl⟩
def f_O_used (I : fr_I) (r : Nat) : Int32 :=
  (I 66 0 r)
set_option maxRecDepth 10000 in
theorem ct_O_used (X : fr_X) (n : Nat) (r : Nat) (hr : r < n) (I : fr_I) (J : fr_J)  (hw : fr_mw n I) : fr_Ct X y_O_used c_O_used 2 (some .int) (fr_rm 1) [.ref (fr_ad X 20 0), .int (nI r)] (fr_Z0 X n) (fr_Z0 X n) I J (fr_pi (fun x I' J' => (f_O_used I r) = x ∧ I = I' ∧ J = J')) := by
  refine fr_ct (by decide) rfl rfl (Nat.le_of_ble_eq_true rfl) rfl (fun E => ?_)
  refine fr_aload_n d_O_used_0 rfl ?_
  refine fr_iload_n d_O_used_1 rfl ?_
  refine fr_callVi fr_q6 d_O_used_2 (ct_O_none X n _ _ _) mv_O_118 rfl rfl rfl (Or.inr ⟨rfl, rfl⟩) rfl rfl ⟨Nat.le_of_ble_eq_true rfl, Nat.le_of_ble_eq_true rfl⟩ ⟨rfl, rfl⟩ ⟨Nat.zero_le _, Nat.zero_le _⟩ (Nat.le_of_ble_eq_true rfl) (fun x I' J' hp1 => ?_)
  obtain ⟨rfl, rfl, rfl⟩ := hp1
  rw [fm_none hw hr]
  refine fr_if_eq 12 d_O_used_5 rfl (fun _ => ?_) (fun h => absurd h (by decide))
  refine fr_aload_n d_O_used_12 rfl ?_
  refine fr_getr (k' := 66) (r' := 0) d_O_used_13 fl_O_84 rfl rfl rfl (Or.inr ⟨rfl, rfl⟩) ?_
  refine fr_iload_n d_O_used_16 rfl ?_
  refine fr_iald (r) d_O_used_17 rfl rfl (Or.inr ⟨rfl, rfl⟩) rfl (fm_lt8 hw hr) (by decide) ?_
  exact fr_iret d_O_used_18 rfl (fr_nar_i _) (Nat.zero_le _) (Nat.zero_le _) ⟨rfl, rfl, rfl⟩
def f_O_used_no (I : fr_I) (p1 : Int32) : Int32 :=
  (-1)
set_option maxRecDepth 10000 in
theorem ct_O_used_no (X : fr_X) (n : Nat) (I : fr_I) (J : fr_J) (p1 : Int32) (hx : f_O_none I p1 = 1) : fr_Ct X y_O_used c_O_used 2 (some .int) (fr_rm 1) [.ref (fr_ad X 20 0), .int p1] (fr_Z0 X n) (fr_Z0 X n) I J (fr_pi (fun x I' J' => (f_O_used_no I p1) = x ∧ I = I' ∧ J = J')) := by
  refine fr_ct (by decide) rfl rfl (Nat.le_of_ble_eq_true rfl) rfl (fun E => ?_)
  refine fr_aload_n d_O_used_0 rfl ?_
  refine fr_iload_n d_O_used_1 rfl ?_
  refine fr_callVi fr_q6 d_O_used_2 (ct_O_none X n _ _ _) mv_O_118 rfl rfl rfl (Or.inr ⟨rfl, rfl⟩) rfl rfl ⟨Nat.le_of_ble_eq_true rfl, Nat.le_of_ble_eq_true rfl⟩ ⟨rfl, rfl⟩ ⟨Nat.zero_le _, Nat.zero_le _⟩ (Nat.le_of_ble_eq_true rfl) (fun x I' J' hp1 => ?_)
  obtain ⟨rfl, rfl, rfl⟩ := hp1
  rw [hx]
  refine fr_if_eq 12 d_O_used_5 rfl (fun h => absurd h (by decide)) (fun _ => ?_)
  refine fr_iconst d_O_used_8 fr_im1 ?_
  refine fr_goto 18 d_O_used_9 rfl ?_
  exact fr_iret d_O_used_18 rfl (fr_nar_i _) (Nat.zero_le _) (Nat.zero_le _) ⟨rfl, rfl, rfl⟩
def f_O_changes (I : fr_I) (r : Nat) : Int32 :=
  (I 57 0 r)
set_option maxRecDepth 10000 in
theorem ct_O_changes (X : fr_X) (n : Nat) (r : Nat) (hr : r < n) (I : fr_I) (J : fr_J)  (hw : fr_mw n I) : fr_Ct X y_O_changes c_O_changes 2 (some .int) (fr_rm 1) [.ref (fr_ad X 20 0), .int (nI r)] (fr_Z0 X n) (fr_Z0 X n) I J (fr_pi (fun x I' J' => (f_O_changes I r) = x ∧ I = I' ∧ J = J')) := by
  refine fr_ct (by decide) rfl rfl (Nat.le_of_ble_eq_true rfl) rfl (fun E => ?_)
  refine fr_aload_n d_O_changes_0 rfl ?_
  refine fr_iload_n d_O_changes_1 rfl ?_
  refine fr_callVi fr_q6 d_O_changes_2 (ct_O_none X n _ _ _) mv_O_118 rfl rfl rfl (Or.inr ⟨rfl, rfl⟩) rfl rfl ⟨Nat.le_of_ble_eq_true rfl, Nat.le_of_ble_eq_true rfl⟩ ⟨rfl, rfl⟩ ⟨Nat.zero_le _, Nat.zero_le _⟩ (Nat.le_of_ble_eq_true rfl) (fun x I' J' hp1 => ?_)
  obtain ⟨rfl, rfl, rfl⟩ := hp1
  rw [fm_none hw hr]
  refine fr_if_eq 12 d_O_changes_5 rfl (fun _ => ?_) (fun h => absurd h (by decide))
  refine fr_aload_n d_O_changes_12 rfl ?_
  refine fr_getr (k' := 57) (r' := 0) d_O_changes_13 fl_O_57 rfl rfl rfl (Or.inr ⟨rfl, rfl⟩) ?_
  refine fr_iload_n d_O_changes_16 rfl ?_
  refine fr_iald (r) d_O_changes_17 rfl rfl (Or.inr ⟨rfl, rfl⟩) rfl (fm_lt8 hw hr) (by decide) ?_
  exact fr_iret d_O_changes_18 rfl (fr_nar_i _) (Nat.zero_le _) (Nat.zero_le _) ⟨rfl, rfl, rfl⟩
def f_O_changes_no (I : fr_I) (p1 : Int32) : Int32 :=
  (-1)
set_option maxRecDepth 10000 in
theorem ct_O_changes_no (X : fr_X) (n : Nat) (I : fr_I) (J : fr_J) (p1 : Int32) (hx : f_O_none I p1 = 1) : fr_Ct X y_O_changes c_O_changes 2 (some .int) (fr_rm 1) [.ref (fr_ad X 20 0), .int p1] (fr_Z0 X n) (fr_Z0 X n) I J (fr_pi (fun x I' J' => (f_O_changes_no I p1) = x ∧ I = I' ∧ J = J')) := by
  refine fr_ct (by decide) rfl rfl (Nat.le_of_ble_eq_true rfl) rfl (fun E => ?_)
  refine fr_aload_n d_O_changes_0 rfl ?_
  refine fr_iload_n d_O_changes_1 rfl ?_
  refine fr_callVi fr_q6 d_O_changes_2 (ct_O_none X n _ _ _) mv_O_118 rfl rfl rfl (Or.inr ⟨rfl, rfl⟩) rfl rfl ⟨Nat.le_of_ble_eq_true rfl, Nat.le_of_ble_eq_true rfl⟩ ⟨rfl, rfl⟩ ⟨Nat.zero_le _, Nat.zero_le _⟩ (Nat.le_of_ble_eq_true rfl) (fun x I' J' hp1 => ?_)
  obtain ⟨rfl, rfl, rfl⟩ := hp1
  rw [hx]
  refine fr_if_eq 12 d_O_changes_5 rfl (fun h => absurd h (by decide)) (fun _ => ?_)
  refine fr_iconst d_O_changes_8 fr_im1 ?_
  refine fr_goto 18 d_O_changes_9 rfl ?_
  exact fr_iret d_O_changes_18 rfl (fr_nar_i _) (Nat.zero_le _) (Nat.zero_le _) ⟨rfl, rfl, rfl⟩
def f_O_events (I : fr_I) : Int32 :=
  (I 20 0 33)
set_option maxRecDepth 10000 in
theorem ct_O_events (X : fr_X) (n : Nat) (I : fr_I) (J : fr_J) : fr_Ct X y_O_events c_O_events 1 (some .int) (fr_rm 0) [.ref (fr_ad X 20 0)] (fr_Z0 X n) (fr_Z0 X n) I J (fr_pi (fun x I' J' => (f_O_events I) = x ∧ I = I' ∧ J = J')) := by
  refine fr_ct (by decide) rfl rfl (Nat.le_of_ble_eq_true rfl) rfl (fun E => ?_)
  refine fr_aload_n d_O_events_0 rfl ?_
  refine fr_geti d_O_events_1 fl_O_128 rfl rfl (Or.inr ⟨rfl, rfl⟩) ?_
  exact fr_iret d_O_events_4 rfl (fr_nar_i _) (Nat.zero_le _) (Nat.zero_le _) ⟨rfl, rfl, rfl⟩
