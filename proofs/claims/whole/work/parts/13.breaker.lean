def f_B_takesOrder (I : fr_I) (r : Nat) : Int32 :=
  if (I 10 r 0) = 0 then
    0
  else
    if (I 10 r 6) = 0 then
      1
    else
      0
set_option maxRecDepth 10000 in
theorem ct_B_takesOrder (X : fr_X) (n : Nat) (r : Nat) (hr : r < n) (I : fr_I) (J : fr_J) : fr_Ct X y_B_takesOrder c_B_takesOrder 1 (some .boolean) (fr_rm 0) [.ref (fr_ad X 10 r)] (fr_Z0 X n) (fr_Z0 X n) I J (fr_pi (fun x I' J' => (f_B_takesOrder I r) = x ∧ I = I' ∧ J = J')) := by
  refine fr_ct (by decide) rfl rfl (Nat.le_of_ble_eq_true rfl) rfl (fun E => ?_)
  refine fr_aload_n d_B_takesOrder_0 rfl ?_
  refine fr_geti d_B_takesOrder_1 fl_B_7 rfl rfl (Or.inl ⟨rfl, hr⟩) ?_
  refine fr_if_eq 18 d_B_takesOrder_4 rfl (fun h1 => ?_) (fun h1 => ?_)
  · skip
    refine fr_iconst d_B_takesOrder_18 fr_i0 ?_
    exact fr_iret d_B_takesOrder_19 rfl (fr_nar_b (Or.inl rfl)) (Nat.zero_le _) (Nat.zero_le _) ⟨(by unfold f_B_takesOrder; rw [if_pos h1]), rfl, rfl⟩
  · skip
    refine fr_aload_n d_B_takesOrder_7 rfl ?_
    refine fr_geti d_B_takesOrder_8 fl_B_13 rfl rfl (Or.inl ⟨rfl, hr⟩) ?_
    refine fr_if_ne 18 d_B_takesOrder_11 rfl (fun h2 => ?_) (fun h2 => ?_)
    · skip
      refine fr_iconst d_B_takesOrder_18 fr_i0 ?_
      exact fr_iret d_B_takesOrder_19 rfl (fr_nar_b (Or.inl rfl)) (Nat.zero_le _) (Nat.zero_le _) ⟨(by unfold f_B_takesOrder; rw [if_neg h1, if_neg h2]), rfl, rfl⟩
    · skip
      refine fr_iconst d_B_takesOrder_14 fr_i1 ?_
      refine fr_goto 19 d_B_takesOrder_15 rfl ?_
      exact fr_iret d_B_takesOrder_19 rfl (fr_nar_b (Or.inr rfl)) (Nat.zero_le _) (Nat.zero_le _) ⟨(by unfold f_B_takesOrder; rw [if_neg h1, if_pos h2]), rfl, rfl⟩
def f_B_giveOrder (I : fr_I) (r : Nat) (p1 : Int32) (p2 : Int32) : fr_I :=
  (fr_ui (fr_ui (fr_ui (fr_ui I 10 r 6 1) 10 r 4 p2) 10 r 7 p1) 10 r 3 0)
set_option maxRecDepth 10000 in
theorem ct_B_giveOrder (X : fr_X) (n : Nat) (r : Nat) (hr : r < n) (I : fr_I) (J : fr_J) (p1 : Int32) (p2 : Int32) (hb : p2 = 0 ∨ p2 = 1) : fr_Ct X y_B_giveOrder c_B_giveOrder 3 none (fr_rm 0) [.ref (fr_ad X 10 r), .int p1, .int p2] (fr_Z0 X n) (fr_Z0 X n) I J (fr_pv (fun I' J' => (f_B_giveOrder I r p1 p2) = I' ∧ J = J')) := by
  refine fr_ct (by decide) rfl rfl (Nat.le_of_ble_eq_true rfl) rfl (fun E => ?_)
  refine fr_aload_n d_B_giveOrder_0 rfl ?_
  refine fr_iconst d_B_giveOrder_1 fr_i1 ?_
  refine fr_putz d_B_giveOrder_2 fl_B_13 rfl rfl (Or.inr rfl) (Or.inl ⟨rfl, hr⟩) ?_
  refine fr_aload_n d_B_giveOrder_5 rfl ?_
  refine fr_iload_n d_B_giveOrder_6 rfl ?_
  refine fr_putz d_B_giveOrder_7 fl_B_16 rfl rfl hb (Or.inl ⟨rfl, hr⟩) ?_
  refine fr_aload_n d_B_giveOrder_10 rfl ?_
  refine fr_iload_n d_B_giveOrder_11 rfl ?_
  refine fr_puti d_B_giveOrder_12 fl_B_19 rfl rfl (Or.inl ⟨rfl, hr⟩) ?_
  refine fr_aload_n d_B_giveOrder_15 rfl ?_
  refine fr_iconst d_B_giveOrder_16 fr_i0 ?_
  refine fr_putz d_B_giveOrder_17 fl_B_23 rfl rfl (Or.inl rfl) (Or.inl ⟨rfl, hr⟩) ?_
  exact fr_vret d_B_giveOrder_20 rfl (Nat.zero_le _) (Nat.zero_le _) ⟨rfl, rfl⟩
theorem fw_B_giveOrder {n : Nat} {I : fr_I} {r : Nat} {p1 : Int32} {p2 : Int32} (hw : fr_wf n I) : fr_wf n (f_B_giveOrder I r p1 p2) := by
  unfold f_B_giveOrder
  exact (fw_ui (k := 10) (j := 3) rfl (fw_ui (k := 10) (j := 7) rfl (fw_ui (k := 10) (j := 4) rfl (fw_ui (k := 10) (j := 6) rfl hw))))
theorem fc_B_giveOrder {P : fr_I → Prop} (hP : fr_cst P) {I : fr_I} {r : Nat} {p1 : Int32} {p2 : Int32} (h : P I) : P (f_B_giveOrder I r p1 p2) := by
  unfold f_B_giveOrder
  exact (hP (k := 10) (by decide) (hP (k := 10) (by decide) (hP (k := 10) (by decide) (hP (k := 10) (by decide) h))))
def f_B_isOverdue (I : fr_I) (r : Nat) (p1 : Int32) (p2 : Int32) : Int32 :=
  if (I 10 r 6) = 0 then
    0
  else
    if (I 10 r 3) = 0 then
      if (p1 - (I 10 r 7)) < p2 then
        0
      else
        1
    else
      0
set_option maxRecDepth 10000 in
theorem ct_B_isOverdue (X : fr_X) (n : Nat) (r : Nat) (hr : r < n) (I : fr_I) (J : fr_J) (p1 : Int32) (p2 : Int32) : fr_Ct X y_B_isOverdue c_B_isOverdue 3 (some .boolean) (fr_rm 0) [.ref (fr_ad X 10 r), .int p1, .int p2] (fr_Z0 X n) (fr_Z0 X n) I J (fr_pi (fun x I' J' => (f_B_isOverdue I r p1 p2) = x ∧ I = I' ∧ J = J')) := by
  refine fr_ct (by decide) rfl rfl (Nat.le_of_ble_eq_true rfl) rfl (fun E => ?_)
  refine fr_aload_n d_B_isOverdue_0 rfl ?_
  refine fr_geti d_B_isOverdue_1 fl_B_13 rfl rfl (Or.inl ⟨rfl, hr⟩) ?_
  refine fr_if_eq 28 d_B_isOverdue_4 rfl (fun h1 => ?_) (fun h1 => ?_)
  · skip
    refine fr_iconst d_B_isOverdue_28 fr_i0 ?_
    exact fr_iret d_B_isOverdue_29 rfl (fr_nar_b (Or.inl rfl)) (Nat.zero_le _) (Nat.zero_le _) ⟨(by unfold f_B_isOverdue; rw [if_pos h1]), rfl, rfl⟩
  · skip
    refine fr_aload_n d_B_isOverdue_7 rfl ?_
    refine fr_geti d_B_isOverdue_8 fl_B_23 rfl rfl (Or.inl ⟨rfl, hr⟩) ?_
    refine fr_if_ne 28 d_B_isOverdue_11 rfl (fun h2 => ?_) (fun h2 => ?_)
    · skip
      refine fr_iconst d_B_isOverdue_28 fr_i0 ?_
      exact fr_iret d_B_isOverdue_29 rfl (fr_nar_b (Or.inl rfl)) (Nat.zero_le _) (Nat.zero_le _) ⟨(by unfold f_B_isOverdue; rw [if_neg h1, if_neg h2]), rfl, rfl⟩
    · skip
      refine fr_iload_n d_B_isOverdue_14 rfl ?_
      refine fr_aload_n d_B_isOverdue_15 rfl ?_
      refine fr_geti d_B_isOverdue_16 fl_B_19 rfl rfl (Or.inl ⟨rfl, hr⟩) ?_
      refine fr_isub d_B_isOverdue_19 ?_
      refine fr_iload_n d_B_isOverdue_20 rfl ?_
      refine fr_icmp_lt 28 d_B_isOverdue_21 rfl (fun h3 => ?_) (fun h3 => ?_)
      · skip
        refine fr_iconst d_B_isOverdue_28 fr_i0 ?_
        exact fr_iret d_B_isOverdue_29 rfl (fr_nar_b (Or.inl rfl)) (Nat.zero_le _) (Nat.zero_le _) ⟨(by unfold f_B_isOverdue; rw [if_neg h1, if_pos h2, if_pos h3]), rfl, rfl⟩
      · skip
        refine fr_iconst d_B_isOverdue_24 fr_i1 ?_
        refine fr_goto 29 d_B_isOverdue_25 rfl ?_
        exact fr_iret d_B_isOverdue_29 rfl (fr_nar_b (Or.inr rfl)) (Nat.zero_le _) (Nat.zero_le _) ⟨(by unfold f_B_isOverdue; rw [if_neg h1, if_pos h2, if_neg h3]), rfl, rfl⟩
def f_B_mustOpen (I : fr_I) (r : Nat) (p1 : Int32) : Int32 :=
  if (I 10 r 6) = 0 then
    0
  else
    if (I 10 r 1) = 0 then
      if (p1 - (I 10 r 7)) < 2 then
        0
      else
        1
    else
      0
set_option maxRecDepth 10000 in
theorem ct_B_mustOpen (X : fr_X) (n : Nat) (r : Nat) (hr : r < n) (I : fr_I) (J : fr_J) (p1 : Int32) : fr_Ct X y_B_mustOpen c_B_mustOpen 2 (some .boolean) (fr_rm 0) [.ref (fr_ad X 10 r), .int p1] (fr_Z0 X n) (fr_Z0 X n) I J (fr_pi (fun x I' J' => (f_B_mustOpen I r p1) = x ∧ I = I' ∧ J = J')) := by
  refine fr_ct (by decide) rfl rfl (Nat.le_of_ble_eq_true rfl) rfl (fun E => ?_)
  refine fr_aload_n d_B_mustOpen_0 rfl ?_
  refine fr_geti d_B_mustOpen_1 fl_B_13 rfl rfl (Or.inl ⟨rfl, hr⟩) ?_
  refine fr_if_eq 28 d_B_mustOpen_4 rfl (fun h1 => ?_) (fun h1 => ?_)
  · skip
    refine fr_iconst d_B_mustOpen_28 fr_i0 ?_
    exact fr_iret d_B_mustOpen_29 rfl (fr_nar_b (Or.inl rfl)) (Nat.zero_le _) (Nat.zero_le _) ⟨(by unfold f_B_mustOpen; rw [if_pos h1]), rfl, rfl⟩
  · skip
    refine fr_aload_n d_B_mustOpen_7 rfl ?_
    refine fr_geti d_B_mustOpen_8 fl_B_26 rfl rfl (Or.inl ⟨rfl, hr⟩) ?_
    refine fr_if_ne 28 d_B_mustOpen_11 rfl (fun h2 => ?_) (fun h2 => ?_)
    · skip
      refine fr_iconst d_B_mustOpen_28 fr_i0 ?_
      exact fr_iret d_B_mustOpen_29 rfl (fr_nar_b (Or.inl rfl)) (Nat.zero_le _) (Nat.zero_le _) ⟨(by unfold f_B_mustOpen; rw [if_neg h1, if_neg h2]), rfl, rfl⟩
    · skip
      refine fr_iload_n d_B_mustOpen_14 rfl ?_
      refine fr_aload_n d_B_mustOpen_15 rfl ?_
      refine fr_geti d_B_mustOpen_16 fl_B_19 rfl rfl (Or.inl ⟨rfl, hr⟩) ?_
      refine fr_isub d_B_mustOpen_19 ?_
      refine fr_iconst d_B_mustOpen_20 fr_i2 ?_
      refine fr_icmp_lt 28 d_B_mustOpen_21 rfl (fun h3 => ?_) (fun h3 => ?_)
      · skip
        refine fr_iconst d_B_mustOpen_28 fr_i0 ?_
        exact fr_iret d_B_mustOpen_29 rfl (fr_nar_b (Or.inl rfl)) (Nat.zero_le _) (Nat.zero_le _) ⟨(by unfold f_B_mustOpen; rw [if_neg h1, if_pos h2, if_pos h3]), rfl, rfl⟩
      · skip
        refine fr_iconst d_B_mustOpen_24 fr_i1 ?_
        refine fr_goto 29 d_B_mustOpen_25 rfl ?_
        exact fr_iret d_B_mustOpen_29 rfl (fr_nar_b (Or.inr rfl)) (Nat.zero_le _) (Nat.zero_le _) ⟨(by unfold f_B_mustOpen; rw [if_neg h1, if_pos h2, if_neg h3]), rfl, rfl⟩
def f_B_open (I : fr_I) (r : Nat) : fr_I :=
  (fr_ui (fr_ui I 10 r 0 0) 10 r 6 0)
set_option maxRecDepth 10000 in
theorem ct_B_open (X : fr_X) (n : Nat) (r : Nat) (hr : r < n) (I : fr_I) (J : fr_J) : fr_Ct X y_B_open c_B_open 1 none (fr_rm 0) [.ref (fr_ad X 10 r)] (fr_Z0 X n) (fr_Z0 X n) I J (fr_pv (fun I' J' => (f_B_open I r) = I' ∧ J = J')) := by
  refine fr_ct (by decide) rfl rfl (Nat.le_of_ble_eq_true rfl) rfl (fun E => ?_)
  refine fr_aload_n d_B_open_0 rfl ?_
  refine fr_iconst d_B_open_1 fr_i0 ?_
  refine fr_putz d_B_open_2 fl_B_7 rfl rfl (Or.inl rfl) (Or.inl ⟨rfl, hr⟩) ?_
  refine fr_aload_n d_B_open_5 rfl ?_
  refine fr_iconst d_B_open_6 fr_i0 ?_
  refine fr_putz d_B_open_7 fl_B_13 rfl rfl (Or.inl rfl) (Or.inl ⟨rfl, hr⟩) ?_
  exact fr_vret d_B_open_10 rfl (Nat.zero_le _) (Nat.zero_le _) ⟨rfl, rfl⟩
theorem fw_B_open {n : Nat} {I : fr_I} {r : Nat} (hw : fr_wf n I) : fr_wf n (f_B_open I r) := by
  unfold f_B_open
  exact (fw_ui (k := 10) (j := 6) rfl (fw_ui (k := 10) (j := 0) rfl hw))
theorem fc_B_open {P : fr_I → Prop} (hP : fr_cst P) {I : fr_I} {r : Nat} (h : P I) : P (f_B_open I r) := by
  unfold f_B_open
  exact (hP (k := 10) (by decide) (hP (k := 10) (by decide) h))
def f_B_pauseAfter (I : fr_I) (p1 : Int32) : Int32 :=
  if p1 = 0 then
    5
  else
    if p1 = 1 then
      20
    else
      50
set_option maxRecDepth 10000 in
theorem ct_B_pauseAfter (X : fr_X) (n : Nat) (I : fr_I) (J : fr_J) (p1 : Int32) : fr_Ct X y_B_pauseAfter c_B_pauseAfter 1 (some .int) (fr_rm 0) [.int p1] (fr_Z0 X n) (fr_Z0 X n) I J (fr_pi (fun x I' J' => (f_B_pauseAfter I p1) = x ∧ I = I' ∧ J = J')) := by
  refine fr_ct (by decide) rfl rfl (Nat.le_of_ble_eq_true rfl) rfl (fun E => ?_)
  refine fr_iload_n d_B_pauseAfter_0 rfl ?_
  refine fr_if_ne 6 d_B_pauseAfter_1 rfl (fun h1 => ?_) (fun h1 => ?_)
  · skip
    refine fr_iload_n d_B_pauseAfter_6 rfl ?_
    refine fr_iconst d_B_pauseAfter_7 fr_i1 ?_
    refine fr_icmp_ne 16 d_B_pauseAfter_8 rfl (fun h2 => ?_) (fun h2 => ?_)
    · skip
      refine fr_bipush d_B_pauseAfter_16 fr_b50 ?_
      exact fr_iret d_B_pauseAfter_18 rfl (fr_nar_i _) (Nat.zero_le _) (Nat.zero_le _) ⟨(by unfold f_B_pauseAfter; rw [if_neg h1, if_neg h2]), rfl, rfl⟩
    · skip
      refine fr_bipush d_B_pauseAfter_11 fr_b20 ?_
      refine fr_goto 18 d_B_pauseAfter_13 rfl ?_
      exact fr_iret d_B_pauseAfter_18 rfl (fr_nar_i _) (Nat.zero_le _) (Nat.zero_le _) ⟨(by unfold f_B_pauseAfter; rw [if_neg h1, if_pos h2]), rfl, rfl⟩
  · skip
    refine fr_iconst d_B_pauseAfter_4 fr_i5 ?_
    exact fr_iret d_B_pauseAfter_5 rfl (fr_nar_i _) (Nat.zero_le _) (Nat.zero_le _) ⟨(by unfold f_B_pauseAfter; rw [if_pos h1]), rfl, rfl⟩
def f_B_awaitClosing (I : fr_I) (r : Nat) (p1 : Int32) : fr_I :=
  (fr_ui (fr_ui I 10 r 8 1) 10 r 9 (p1 + (f_B_pauseAfter ((fr_ui I 10 r 8 1)) ((fr_ui I 10 r 8 1) 10 r 5))))
set_option maxRecDepth 10000 in
theorem ct_B_awaitClosing (X : fr_X) (n : Nat) (r : Nat) (hr : r < n) (I : fr_I) (J : fr_J) (p1 : Int32) : fr_Ct X y_B_awaitClosing c_B_awaitClosing 2 none (fr_rm 1) [.ref (fr_ad X 10 r), .int p1] (fr_Z0 X n) (fr_Z0 X n) I J (fr_pv (fun I' J' => (f_B_awaitClosing I r p1) = I' ∧ J = J')) := by
  refine fr_ct (by decide) rfl rfl (Nat.le_of_ble_eq_true rfl) rfl (fun E => ?_)
  refine fr_aload_n d_B_awaitClosing_0 rfl ?_
  refine fr_iconst d_B_awaitClosing_1 fr_i1 ?_
  refine fr_putz d_B_awaitClosing_2 fl_B_29 rfl rfl (Or.inr rfl) (Or.inl ⟨rfl, hr⟩) ?_
  refine fr_aload_n d_B_awaitClosing_5 rfl ?_
  refine fr_iload_n d_B_awaitClosing_6 rfl ?_
  refine fr_aload_n d_B_awaitClosing_7 rfl ?_
  refine fr_geti d_B_awaitClosing_8 fl_B_32 rfl rfl (Or.inl ⟨rfl, hr⟩) ?_
  refine fr_callSi d_B_awaitClosing_11 (ct_B_pauseAfter X n _ _ _) ms_B_35 rfl rfl ⟨Nat.le_of_ble_eq_true rfl, Nat.le_of_ble_eq_true rfl⟩ ⟨rfl, rfl⟩ ⟨Nat.zero_le _, Nat.zero_le _⟩ (Nat.le_of_ble_eq_true rfl) (fun x I' J' hp1 => ?_)
  obtain ⟨rfl, rfl, rfl⟩ := hp1
  refine fr_iadd d_B_awaitClosing_14 ?_
  refine fr_puti d_B_awaitClosing_15 fl_B_39 rfl rfl (Or.inl ⟨rfl, hr⟩) ?_
  exact fr_vret d_B_awaitClosing_18 rfl (Nat.zero_le _) (Nat.zero_le _) ⟨rfl, rfl⟩
theorem fw_B_awaitClosing {n : Nat} {I : fr_I} {r : Nat} {p1 : Int32} (hw : fr_wf n I) : fr_wf n (f_B_awaitClosing I r p1) := by
  unfold f_B_awaitClosing
  exact (fw_ui (k := 10) (j := 9) rfl (fw_ui (k := 10) (j := 8) rfl hw))
theorem fc_B_awaitClosing {P : fr_I → Prop} (hP : fr_cst P) {I : fr_I} {r : Nat} {p1 : Int32} (h : P I) : P (f_B_awaitClosing I r p1) := by
  unfold f_B_awaitClosing
  exact (hP (k := 10) (by decide) (hP (k := 10) (by decide) h))
def f_B_mustClose (I : fr_I) (r : Nat) (p1 : Int32) : Int32 :=
  if (I 10 r 8) = 0 then
    0
  else
    if p1 < (I 10 r 9) then
      0
    else
      1
set_option maxRecDepth 10000 in
theorem ct_B_mustClose (X : fr_X) (n : Nat) (r : Nat) (hr : r < n) (I : fr_I) (J : fr_J) (p1 : Int32) : fr_Ct X y_B_mustClose c_B_mustClose 2 (some .boolean) (fr_rm 0) [.ref (fr_ad X 10 r), .int p1] (fr_Z0 X n) (fr_Z0 X n) I J (fr_pi (fun x I' J' => (f_B_mustClose I r p1) = x ∧ I = I' ∧ J = J')) := by
  refine fr_ct (by decide) rfl rfl (Nat.le_of_ble_eq_true rfl) rfl (fun E => ?_)
  refine fr_aload_n d_B_mustClose_0 rfl ?_
  refine fr_geti d_B_mustClose_1 fl_B_29 rfl rfl (Or.inl ⟨rfl, hr⟩) ?_
  refine fr_if_eq 19 d_B_mustClose_4 rfl (fun h1 => ?_) (fun h1 => ?_)
  · skip
    refine fr_iconst d_B_mustClose_19 fr_i0 ?_
    exact fr_iret d_B_mustClose_20 rfl (fr_nar_b (Or.inl rfl)) (Nat.zero_le _) (Nat.zero_le _) ⟨(by unfold f_B_mustClose; rw [if_pos h1]), rfl, rfl⟩
  · skip
    refine fr_iload_n d_B_mustClose_7 rfl ?_
    refine fr_aload_n d_B_mustClose_8 rfl ?_
    refine fr_geti d_B_mustClose_9 fl_B_39 rfl rfl (Or.inl ⟨rfl, hr⟩) ?_
    refine fr_icmp_lt 19 d_B_mustClose_12 rfl (fun h2 => ?_) (fun h2 => ?_)
    · skip
      refine fr_iconst d_B_mustClose_19 fr_i0 ?_
      exact fr_iret d_B_mustClose_20 rfl (fr_nar_b (Or.inl rfl)) (Nat.zero_le _) (Nat.zero_le _) ⟨(by unfold f_B_mustClose; rw [if_neg h1, if_pos h2]), rfl, rfl⟩
    · skip
      refine fr_iconst d_B_mustClose_15 fr_i1 ?_
      refine fr_goto 20 d_B_mustClose_16 rfl ?_
      exact fr_iret d_B_mustClose_20 rfl (fr_nar_b (Or.inr rfl)) (Nat.zero_le _) (Nat.zero_le _) ⟨(by unfold f_B_mustClose; rw [if_neg h1, if_neg h2]), rfl, rfl⟩
def f_B_closeAgain (I : fr_I) (r : Nat) (p1 : Int32) : fr_I :=
  (fr_ui (fr_ui (fr_ui (fr_ui I 10 r 0 1) 10 r 8 0) 10 r 5 (((fr_ui (fr_ui I 10 r 0 1) 10 r 8 0) 10 r 5) + 1)) 10 r 10 (p1 + 30))
set_option maxRecDepth 10000 in
theorem ct_B_closeAgain (X : fr_X) (n : Nat) (r : Nat) (hr : r < n) (I : fr_I) (J : fr_J) (p1 : Int32) : fr_Ct X y_B_closeAgain c_B_closeAgain 2 none (fr_rm 0) [.ref (fr_ad X 10 r), .int p1] (fr_Z0 X n) (fr_Z0 X n) I J (fr_pv (fun I' J' => (f_B_closeAgain I r p1) = I' ∧ J = J')) := by
  refine fr_ct (by decide) rfl rfl (Nat.le_of_ble_eq_true rfl) rfl (fun E => ?_)
  refine fr_aload_n d_B_closeAgain_0 rfl ?_
  refine fr_iconst d_B_closeAgain_1 fr_i1 ?_
  refine fr_putz d_B_closeAgain_2 fl_B_7 rfl rfl (Or.inr rfl) (Or.inl ⟨rfl, hr⟩) ?_
  refine fr_aload_n d_B_closeAgain_5 rfl ?_
  refine fr_iconst d_B_closeAgain_6 fr_i0 ?_
  refine fr_putz d_B_closeAgain_7 fl_B_29 rfl rfl (Or.inl rfl) (Or.inl ⟨rfl, hr⟩) ?_
  refine fr_aload_n d_B_closeAgain_10 rfl ?_
  refine fr_dup d_B_closeAgain_11 rfl ?_
  refine fr_geti d_B_closeAgain_12 fl_B_32 rfl rfl (Or.inl ⟨rfl, hr⟩) ?_
  refine fr_iconst d_B_closeAgain_15 fr_i1 ?_
  refine fr_iadd d_B_closeAgain_16 ?_
  refine fr_puti d_B_closeAgain_17 fl_B_32 rfl rfl (Or.inl ⟨rfl, hr⟩) ?_
  refine fr_aload_n d_B_closeAgain_20 rfl ?_
  refine fr_iload_n d_B_closeAgain_21 rfl ?_
  refine fr_bipush d_B_closeAgain_22 fr_b30 ?_
  refine fr_iadd d_B_closeAgain_24 ?_
  refine fr_puti d_B_closeAgain_25 fl_B_42 rfl rfl (Or.inl ⟨rfl, hr⟩) ?_
  exact fr_vret d_B_closeAgain_28 rfl (Nat.zero_le _) (Nat.zero_le _) ⟨rfl, rfl⟩
theorem fw_B_closeAgain {n : Nat} {I : fr_I} {r : Nat} {p1 : Int32} (hw : fr_wf n I) : fr_wf n (f_B_closeAgain I r p1) := by
  unfold f_B_closeAgain
  exact (fw_ui (k := 10) (j := 10) rfl (fw_ui (k := 10) (j := 5) rfl (fw_ui (k := 10) (j := 8) rfl (fw_ui (k := 10) (j := 0) rfl hw))))
theorem fc_B_closeAgain {P : fr_I → Prop} (hP : fr_cst P) {I : fr_I} {r : Nat} {p1 : Int32} (h : P I) : P (f_B_closeAgain I r p1) := by
  unfold f_B_closeAgain
  exact (hP (k := 10) (by decide) (hP (k := 10) (by decide) (hP (k := 10) (by decide) (hP (k := 10) (by decide) h))))
def f_B_mustReclaim (I : fr_I) (r : Nat) (p1 : Int32) : Int32 :=
  if (I 10 r 5) ≤ 0 then
    0
  else
    if (I 10 r 0) = 0 then
      0
    else
      if (I 10 r 6) = 0 then
        if p1 < (I 10 r 10) then
          0
        else
          1
      else
        0
set_option maxRecDepth 10000 in
theorem ct_B_mustReclaim (X : fr_X) (n : Nat) (r : Nat) (hr : r < n) (I : fr_I) (J : fr_J) (p1 : Int32) : fr_Ct X y_B_mustReclaim c_B_mustReclaim 2 (some .boolean) (fr_rm 0) [.ref (fr_ad X 10 r), .int p1] (fr_Z0 X n) (fr_Z0 X n) I J (fr_pi (fun x I' J' => (f_B_mustReclaim I r p1) = x ∧ I = I' ∧ J = J')) := by
  refine fr_ct (by decide) rfl rfl (Nat.le_of_ble_eq_true rfl) rfl (fun E => ?_)
  refine fr_aload_n d_B_mustReclaim_0 rfl ?_
  refine fr_geti d_B_mustReclaim_1 fl_B_32 rfl rfl (Or.inl ⟨rfl, hr⟩) ?_
  refine fr_if_le 33 d_B_mustReclaim_4 rfl (fun h1 => ?_) (fun h1 => ?_)
  · skip
    refine fr_iconst d_B_mustReclaim_33 fr_i0 ?_
    exact fr_iret d_B_mustReclaim_34 rfl (fr_nar_b (Or.inl rfl)) (Nat.zero_le _) (Nat.zero_le _) ⟨(by unfold f_B_mustReclaim; rw [if_pos h1]), rfl, rfl⟩
  · skip
    refine fr_aload_n d_B_mustReclaim_7 rfl ?_
    refine fr_geti d_B_mustReclaim_8 fl_B_7 rfl rfl (Or.inl ⟨rfl, hr⟩) ?_
    refine fr_if_eq 33 d_B_mustReclaim_11 rfl (fun h2 => ?_) (fun h2 => ?_)
    · skip
      refine fr_iconst d_B_mustReclaim_33 fr_i0 ?_
      exact fr_iret d_B_mustReclaim_34 rfl (fr_nar_b (Or.inl rfl)) (Nat.zero_le _) (Nat.zero_le _) ⟨(by unfold f_B_mustReclaim; rw [if_neg h1, if_pos h2]), rfl, rfl⟩
    · skip
      refine fr_aload_n d_B_mustReclaim_14 rfl ?_
      refine fr_geti d_B_mustReclaim_15 fl_B_13 rfl rfl (Or.inl ⟨rfl, hr⟩) ?_
      refine fr_if_ne 33 d_B_mustReclaim_18 rfl (fun h3 => ?_) (fun h3 => ?_)
      · skip
        refine fr_iconst d_B_mustReclaim_33 fr_i0 ?_
        exact fr_iret d_B_mustReclaim_34 rfl (fr_nar_b (Or.inl rfl)) (Nat.zero_le _) (Nat.zero_le _) ⟨(by unfold f_B_mustReclaim; rw [if_neg h1, if_neg h2, if_neg h3]), rfl, rfl⟩
      · skip
        refine fr_iload_n d_B_mustReclaim_21 rfl ?_
        refine fr_aload_n d_B_mustReclaim_22 rfl ?_
        refine fr_geti d_B_mustReclaim_23 fl_B_42 rfl rfl (Or.inl ⟨rfl, hr⟩) ?_
        refine fr_icmp_lt 33 d_B_mustReclaim_26 rfl (fun h4 => ?_) (fun h4 => ?_)
        · skip
          refine fr_iconst d_B_mustReclaim_33 fr_i0 ?_
          exact fr_iret d_B_mustReclaim_34 rfl (fr_nar_b (Or.inl rfl)) (Nat.zero_le _) (Nat.zero_le _) ⟨(by unfold f_B_mustReclaim; rw [if_neg h1, if_neg h2, if_pos h3, if_pos h4]), rfl, rfl⟩
        · skip
          refine fr_iconst d_B_mustReclaim_29 fr_i1 ?_
          refine fr_goto 34 d_B_mustReclaim_30 rfl ?_
          exact fr_iret d_B_mustReclaim_34 rfl (fr_nar_b (Or.inr rfl)) (Nat.zero_le _) (Nat.zero_le _) ⟨(by unfold f_B_mustReclaim; rw [if_neg h1, if_neg h2, if_pos h3, if_neg h4]), rfl, rfl⟩
def f_B_forget (I : fr_I) (r : Nat) : fr_I :=
  (fr_ui (fr_ui (fr_ui (fr_ui I 10 r 6 0) 10 r 8 0) 10 r 5 0) 10 r 2 (if ((fr_ui (fr_ui (fr_ui I 10 r 6 0) 10 r 8 0) 10 r 5 0) 10 r 0) = 0 then (1 : Int32) else 0))
set_option maxRecDepth 10000 in
theorem ct_B_forget (X : fr_X) (n : Nat) (r : Nat) (hr : r < n) (I : fr_I) (J : fr_J) : fr_Ct X y_B_forget c_B_forget 1 none (fr_rm 0) [.ref (fr_ad X 10 r)] (fr_Z0 X n) (fr_Z0 X n) I J (fr_pv (fun I' J' => (f_B_forget I r) = I' ∧ J = J')) := by
  refine fr_ct (by decide) rfl rfl (Nat.le_of_ble_eq_true rfl) rfl (fun E => ?_)
  refine fr_aload_n d_B_forget_0 rfl ?_
  refine fr_iconst d_B_forget_1 fr_i0 ?_
  refine fr_putz d_B_forget_2 fl_B_13 rfl rfl (Or.inl rfl) (Or.inl ⟨rfl, hr⟩) ?_
  refine fr_aload_n d_B_forget_5 rfl ?_
  refine fr_iconst d_B_forget_6 fr_i0 ?_
  refine fr_putz d_B_forget_7 fl_B_29 rfl rfl (Or.inl rfl) (Or.inl ⟨rfl, hr⟩) ?_
  refine fr_aload_n d_B_forget_10 rfl ?_
  refine fr_iconst d_B_forget_11 fr_i0 ?_
  refine fr_puti d_B_forget_12 fl_B_32 rfl rfl (Or.inl ⟨rfl, hr⟩) ?_
  refine fr_aload_n d_B_forget_15 rfl ?_
  refine fr_aload_n d_B_forget_16 rfl ?_
  refine fr_geti d_B_forget_17 fl_B_7 rfl rfl (Or.inl ⟨rfl, hr⟩) ?_
  refine fr_tif_ne (t := 27) (j := 28) d_B_forget_20 rfl (fun k => fr_iconst d_B_forget_23 fr_i1 (fr_goto 28 d_B_forget_24 rfl k)) (fun k => fr_iconst d_B_forget_27 fr_i0 k) ?_
  refine fr_putz d_B_forget_28 fl_B_45 rfl rfl fr_if10 (Or.inl ⟨rfl, hr⟩) ?_
  exact fr_vret d_B_forget_31 rfl (Nat.zero_le _) (Nat.zero_le _) ⟨rfl, rfl⟩
theorem fw_B_forget {n : Nat} {I : fr_I} {r : Nat} (hw : fr_wf n I) : fr_wf n (f_B_forget I r) := by
  unfold f_B_forget
  exact (fw_ui (k := 10) (j := 2) rfl (fw_ui (k := 10) (j := 5) rfl (fw_ui (k := 10) (j := 8) rfl (fw_ui (k := 10) (j := 6) rfl hw))))
theorem fc_B_forget {P : fr_I → Prop} (hP : fr_cst P) {I : fr_I} {r : Nat} (h : P I) : P (f_B_forget I r) := by
  unfold f_B_forget
  exact (hP (k := 10) (by decide) (hP (k := 10) (by decide) (hP (k := 10) (by decide) (hP (k := 10) (by decide) h))))
def f_B_bits (I : fr_I) (r : Nat) : Int32 :=
  (((((if (I 10 r 0) = 0 then (0 : Int32) else 1) + (if (I 10 r 6) = 0 then (0 : Int32) else 4)) + (if (I 10 r 8) = 0 then (0 : Int32) else 8)) + (if (I 10 r 2) = 0 then (0 : Int32) else 16)) + (if (I 10 r 1) = 0 then (0 : Int32) else 32))
set_option maxRecDepth 10000 in
theorem ct_B_bits (X : fr_X) (n : Nat) (r : Nat) (hr : r < n) (I : fr_I) (J : fr_J) : fr_Ct X y_B_bits c_B_bits 2 (some .int) (fr_rm 0) [.ref (fr_ad X 10 r)] (fr_Z0 X n) (fr_Z0 X n) I J (fr_pi (fun x I' J' => (f_B_bits I r) = x ∧ I = I' ∧ J = J')) := by
  refine fr_ct (by decide) rfl rfl (Nat.le_of_ble_eq_true rfl) rfl (fun E => ?_)
  refine fr_aload_n d_B_bits_0 rfl ?_
  refine fr_geti d_B_bits_1 fl_B_7 rfl rfl (Or.inl ⟨rfl, hr⟩) ?_
  refine fr_tif_eq (t := 11) (j := 12) d_B_bits_4 rfl (fun k => fr_iconst d_B_bits_7 fr_i1 (fr_goto 12 d_B_bits_8 rfl k)) (fun k => fr_iconst d_B_bits_11 fr_i0 k) ?_
  refine fr_istore_n (L' := [(1, .int _), (0, .ref _)]) d_B_bits_12 (by decide) rfl ?_
  refine fr_iload_n d_B_bits_13 rfl ?_
  refine fr_aload_n d_B_bits_14 rfl ?_
  refine fr_geti d_B_bits_15 fl_B_13 rfl rfl (Or.inl ⟨rfl, hr⟩) ?_
  refine fr_tif_eq (t := 25) (j := 26) d_B_bits_18 rfl (fun k => fr_iconst d_B_bits_21 fr_i4 (fr_goto 26 d_B_bits_22 rfl k)) (fun k => fr_iconst d_B_bits_25 fr_i0 k) ?_
  refine fr_iadd d_B_bits_26 ?_
  refine fr_istore_n (L' := [(1, .int _), (0, .ref _)]) d_B_bits_27 (by decide) rfl ?_
  refine fr_iload_n d_B_bits_28 rfl ?_
  refine fr_aload_n d_B_bits_29 rfl ?_
  refine fr_geti d_B_bits_30 fl_B_29 rfl rfl (Or.inl ⟨rfl, hr⟩) ?_
  refine fr_tif_eq (t := 41) (j := 42) d_B_bits_33 rfl (fun k => fr_bipush d_B_bits_36 fr_b8 (fr_goto 42 d_B_bits_38 rfl k)) (fun k => fr_iconst d_B_bits_41 fr_i0 k) ?_
  refine fr_iadd d_B_bits_42 ?_
  refine fr_istore_n (L' := [(1, .int _), (0, .ref _)]) d_B_bits_43 (by decide) rfl ?_
  refine fr_iload_n d_B_bits_44 rfl ?_
  refine fr_aload_n d_B_bits_45 rfl ?_
  refine fr_geti d_B_bits_46 fl_B_45 rfl rfl (Or.inl ⟨rfl, hr⟩) ?_
  refine fr_tif_eq (t := 57) (j := 58) d_B_bits_49 rfl (fun k => fr_bipush d_B_bits_52 fr_b16 (fr_goto 58 d_B_bits_54 rfl k)) (fun k => fr_iconst d_B_bits_57 fr_i0 k) ?_
  refine fr_iadd d_B_bits_58 ?_
  refine fr_istore_n (L' := [(1, .int _), (0, .ref _)]) d_B_bits_59 (by decide) rfl ?_
  refine fr_iload_n d_B_bits_60 rfl ?_
  refine fr_aload_n d_B_bits_61 rfl ?_
  refine fr_geti d_B_bits_62 fl_B_26 rfl rfl (Or.inl ⟨rfl, hr⟩) ?_
  refine fr_tif_eq (t := 73) (j := 74) d_B_bits_65 rfl (fun k => fr_bipush d_B_bits_68 fr_b32 (fr_goto 74 d_B_bits_70 rfl k)) (fun k => fr_iconst d_B_bits_73 fr_i0 k) ?_
  refine fr_iadd d_B_bits_74 ?_
  refine fr_istore_n (L' := [(1, .int _), (0, .ref _)]) d_B_bits_75 (by decide) rfl ?_
  refine fr_iload_n d_B_bits_76 rfl ?_
  exact fr_iret d_B_bits_77 rfl (fr_nar_i _) (Nat.zero_le _) (Nat.zero_le _) ⟨rfl, rfl, rfl⟩
