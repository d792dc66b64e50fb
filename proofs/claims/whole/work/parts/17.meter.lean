def f_M_set (I : fr_I) (r : Nat) (p1 : Int32) (p2 : Int32) (p3 : Int32) : fr_I :=
  (fr_ui (fr_ui (fr_ui I 8 r 2 p1) 8 r 3 p2) 8 r 4 p3)
set_option maxRecDepth 10000 in
theorem ct_M_set (X : fr_X) (n : Nat) (r : Nat) (hr : r < n) (I : fr_I) (J : fr_J) (p1 : Int32) (p2 : Int32) (p3 : Int32) : fr_Ct X y_M_set c_M_set 4 none (fr_rm 0) [.ref (fr_ad X 8 r), .int p1, .int p2, .int p3] (fr_Z0 X n) (fr_Z0 X n) I J (fr_pv (fun I' J' => (f_M_set I r p1 p2 p3) = I' ∧ J = J')) := by
  refine fr_ct (by decide) rfl rfl (Nat.le_of_ble_eq_true rfl) rfl (fun E => ?_)
  refine fr_aload_n d_M_set_0 rfl ?_
  refine fr_iload_n d_M_set_1 rfl ?_
  refine fr_puti d_M_set_2 fl_M_20 rfl rfl (Or.inl ⟨rfl, hr⟩) ?_
  refine fr_aload_n d_M_set_5 rfl ?_
  refine fr_iload_n d_M_set_6 rfl ?_
  refine fr_puti d_M_set_7 fl_M_13 rfl rfl (Or.inl ⟨rfl, hr⟩) ?_
  refine fr_aload_n d_M_set_10 rfl ?_
  refine fr_iload_n d_M_set_11 rfl ?_
  refine fr_puti d_M_set_12 fl_M_17 rfl rfl (Or.inl ⟨rfl, hr⟩) ?_
  exact fr_vret d_M_set_15 rfl (Nat.zero_le _) (Nat.zero_le _) ⟨rfl, rfl⟩
theorem fw_M_set {n : Nat} {I : fr_I} {r : Nat} {p1 : Int32} {p2 : Int32} {p3 : Int32} (hw : fr_wf n I) : fr_wf n (f_M_set I r p1 p2 p3) := by
  unfold f_M_set
  exact (fw_ui (k := 8) (j := 4) rfl (fw_ui (k := 8) (j := 3) rfl (fw_ui (k := 8) (j := 2) rfl hw)))
theorem fc_M_set {P : fr_I → Prop} (hP : fr_cst P) {I : fr_I} {r : Nat} {p1 : Int32} {p2 : Int32} {p3 : Int32} (h : P I) : P (f_M_set I r p1 p2 p3) := by
  unfold f_M_set
  exact (hP (k := 8) (by decide) (hP (k := 8) (by decide) (hP (k := 8) (by decide) h)))
def f_M_growth (I : fr_I) (r : Nat) : Int64 :=
  if (I 8 r 2) = 0 then
    1
  else
    if (I 8 r 2) = 1 then
      (((I 8 r 5) - (I 8 r 3))).toInt64
    else
      ((((I 8 r 5)).toInt64 * ((I 8 r 5)).toInt64) - (((I 8 r 3)).toInt64 * ((I 8 r 3)).toInt64))
set_option maxRecDepth 10000 in
theorem ct_M_growth (X : fr_X) (n : Nat) (r : Nat) (hr : r < n) (I : fr_I) (J : fr_J) : fr_Ct X y_M_growth c_M_growth 1 (some .long) (fr_rm 0) [.ref (fr_ad X 8 r)] (fr_Z0 X n) (fr_Z0 X n) I J (fr_pl (fun x I' J' => (f_M_growth I r) = x ∧ I = I' ∧ J = J')) := by
  refine fr_ct (by decide) rfl rfl (Nat.le_of_ble_eq_true rfl) rfl (fun E => ?_)
  refine fr_aload_n d_M_growth_0 rfl ?_
  refine fr_geti d_M_growth_1 fl_M_20 rfl rfl (Or.inl ⟨rfl, hr⟩) ?_
  refine fr_if_ne 9 d_M_growth_4 rfl (fun h1 => ?_) (fun h1 => ?_)
  · skip
    refine fr_aload_n d_M_growth_9 rfl ?_
    refine fr_geti d_M_growth_10 fl_M_20 rfl rfl (Or.inl ⟨rfl, hr⟩) ?_
    refine fr_iconst d_M_growth_13 fr_i1 ?_
    refine fr_icmp_ne 28 d_M_growth_14 rfl (fun h2 => ?_) (fun h2 => ?_)
    · skip
      refine fr_aload_n d_M_growth_28 rfl ?_
      refine fr_geti d_M_growth_29 fl_M_30 rfl rfl (Or.inl ⟨rfl, hr⟩) ?_
      refine fr_i2l d_M_growth_32 rfl ?_
      refine fr_aload_n d_M_growth_33 rfl ?_
      refine fr_geti d_M_growth_34 fl_M_30 rfl rfl (Or.inl ⟨rfl, hr⟩) ?_
      refine fr_i2l d_M_growth_37 rfl ?_
      refine fr_lmul d_M_growth_38 ?_
      refine fr_aload_n d_M_growth_39 rfl ?_
      refine fr_geti d_M_growth_40 fl_M_13 rfl rfl (Or.inl ⟨rfl, hr⟩) ?_
      refine fr_i2l d_M_growth_43 rfl ?_
      refine fr_aload_n d_M_growth_44 rfl ?_
      refine fr_geti d_M_growth_45 fl_M_13 rfl rfl (Or.inl ⟨rfl, hr⟩) ?_
      refine fr_i2l d_M_growth_48 rfl ?_
      refine fr_lmul d_M_growth_49 ?_
      refine fr_lsub d_M_growth_50 ?_
      exact fr_lret d_M_growth_51 rfl (Nat.zero_le _) (Nat.zero_le _) ⟨(by unfold f_M_growth; rw [if_neg h1, if_neg h2]), rfl, rfl⟩
    · skip
      refine fr_aload_n d_M_growth_17 rfl ?_
      refine fr_geti d_M_growth_18 fl_M_30 rfl rfl (Or.inl ⟨rfl, hr⟩) ?_
      refine fr_aload_n d_M_growth_21 rfl ?_
      refine fr_geti d_M_growth_22 fl_M_13 rfl rfl (Or.inl ⟨rfl, hr⟩) ?_
      refine fr_isub d_M_growth_25 ?_
      refine fr_i2l d_M_growth_26 rfl ?_
      exact fr_lret d_M_growth_27 rfl (Nat.zero_le _) (Nat.zero_le _) ⟨(by unfold f_M_growth; rw [if_neg h1, if_pos h2]), rfl, rfl⟩
  · skip
    refine fr_lconst d_M_growth_7 fr_l1 ?_
    exact fr_lret d_M_growth_8 rfl (Nat.zero_le _) (Nat.zero_le _) ⟨(by unfold f_M_growth; rw [if_pos h1]), rfl, rfl⟩
def f_M_limit (I : fr_I) (r : Nat) : Int64 :=
  if (I 8 r 2) = 0 then
    ((I 8 r 4)).toInt64
  else
    if (I 8 r 2) = 1 then
      (((I 8 r 4)).toInt64 * ((I 8 r 3)).toInt64)
    else
      ((((I 8 r 4)).toInt64 * ((I 8 r 3)).toInt64) * ((I 8 r 3)).toInt64)
set_option maxRecDepth 10000 in
theorem ct_M_limit (X : fr_X) (n : Nat) (r : Nat) (hr : r < n) (I : fr_I) (J : fr_J) : fr_Ct X y_M_limit c_M_limit 1 (some .long) (fr_rm 0) [.ref (fr_ad X 8 r)] (fr_Z0 X n) (fr_Z0 X n) I J (fr_pl (fun x I' J' => (f_M_limit I r) = x ∧ I = I' ∧ J = J')) := by
  refine fr_ct (by decide) rfl rfl (Nat.le_of_ble_eq_true rfl) rfl (fun E => ?_)
  refine fr_aload_n d_M_limit_0 rfl ?_
  refine fr_geti d_M_limit_1 fl_M_20 rfl rfl (Or.inl ⟨rfl, hr⟩) ?_
  refine fr_if_ne 13 d_M_limit_4 rfl (fun h1 => ?_) (fun h1 => ?_)
  · skip
    refine fr_aload_n d_M_limit_13 rfl ?_
    refine fr_geti d_M_limit_14 fl_M_20 rfl rfl (Or.inl ⟨rfl, hr⟩) ?_
    refine fr_iconst d_M_limit_17 fr_i1 ?_
    refine fr_icmp_ne 33 d_M_limit_18 rfl (fun h2 => ?_) (fun h2 => ?_)
    · skip
      refine fr_aload_n d_M_limit_33 rfl ?_
      refine fr_geti d_M_limit_34 fl_M_17 rfl rfl (Or.inl ⟨rfl, hr⟩) ?_
      refine fr_i2l d_M_limit_37 rfl ?_
      refine fr_aload_n d_M_limit_38 rfl ?_
      refine fr_geti d_M_limit_39 fl_M_13 rfl rfl (Or.inl ⟨rfl, hr⟩) ?_
      refine fr_i2l d_M_limit_42 rfl ?_
      refine fr_lmul d_M_limit_43 ?_
      refine fr_aload_n d_M_limit_44 rfl ?_
      refine fr_geti d_M_limit_45 fl_M_13 rfl rfl (Or.inl ⟨rfl, hr⟩) ?_
      refine fr_i2l d_M_limit_48 rfl ?_
      refine fr_lmul d_M_limit_49 ?_
      exact fr_lret d_M_limit_50 rfl (Nat.zero_le _) (Nat.zero_le _) ⟨(by unfold f_M_limit; rw [if_neg h1, if_neg h2]), rfl, rfl⟩
    · skip
      refine fr_aload_n d_M_limit_21 rfl ?_
      refine fr_geti d_M_limit_22 fl_M_17 rfl rfl (Or.inl ⟨rfl, hr⟩) ?_
      refine fr_i2l d_M_limit_25 rfl ?_
      refine fr_aload_n d_M_limit_26 rfl ?_
      refine fr_geti d_M_limit_27 fl_M_13 rfl rfl (Or.inl ⟨rfl, hr⟩) ?_
      refine fr_i2l d_M_limit_30 rfl ?_
      refine fr_lmul d_M_limit_31 ?_
      exact fr_lret d_M_limit_32 rfl (Nat.zero_le _) (Nat.zero_le _) ⟨(by unfold f_M_limit; rw [if_neg h1, if_pos h2]), rfl, rfl⟩
  · skip
    refine fr_aload_n d_M_limit_7 rfl ?_
    refine fr_geti d_M_limit_8 fl_M_17 rfl rfl (Or.inl ⟨rfl, hr⟩) ?_
    refine fr_i2l d_M_limit_11 rfl ?_
    exact fr_lret d_M_limit_12 rfl (Nat.zero_le _) (Nat.zero_le _) ⟨(by unfold f_M_limit; rw [if_pos h1]), rfl, rfl⟩
def f_M_isOverLimit (I : fr_I) (J : fr_J) (r : Nat) : Int32 :=
  if (I 8 r 6) = 0 then
    0
  else
    if (lg_cmp (J 8 r 7) (f_M_limit I r)) < 0 then
      0
    else
      1
set_option maxRecDepth 10000 in
theorem ct_M_isOverLimit (X : fr_X) (n : Nat) (r : Nat) (hr : r < n) (I : fr_I) (J : fr_J) : fr_Ct X y_M_isOverLimit c_M_isOverLimit 1 (some .boolean) (fr_rm 1) [.ref (fr_ad X 8 r)] (fr_Z0 X n) (fr_Z0 X n) I J (fr_pi (fun x I' J' => (f_M_isOverLimit I J r) = x ∧ I = I' ∧ J = J')) := by
  refine fr_ct (by decide) rfl rfl (Nat.le_of_ble_eq_true rfl) rfl (fun E => ?_)
  refine fr_aload_n d_M_isOverLimit_0 rfl ?_
  refine fr_geti d_M_isOverLimit_1 fl_M_33 rfl rfl (Or.inl ⟨rfl, hr⟩) ?_
  refine fr_if_eq 23 d_M_isOverLimit_4 rfl (fun h1 => ?_) (fun h1 => ?_)
  · skip
    refine fr_iconst d_M_isOverLimit_23 fr_i0 ?_
    exact fr_iret d_M_isOverLimit_24 rfl (fr_nar_b (Or.inl rfl)) (Nat.zero_le _) (Nat.zero_le _) ⟨(by unfold f_M_isOverLimit; rw [if_pos h1]), rfl, rfl⟩
  · skip
    refine fr_aload_n d_M_isOverLimit_7 rfl ?_
    refine fr_getl d_M_isOverLimit_8 fl_M_37 rfl rfl (Or.inl ⟨rfl, hr⟩) ?_
    refine fr_aload_n d_M_isOverLimit_11 rfl ?_
    refine fr_callVl fr_q3 d_M_isOverLimit_12 (ct_M_limit X n r hr _ _) mv_M_45 rfl rfl rfl (Or.inl ⟨rfl, hr⟩) rfl rfl ⟨Nat.le_of_ble_eq_true rfl, Nat.le_of_ble_eq_true rfl⟩ ⟨rfl, rfl⟩ ⟨Nat.zero_le _, Nat.zero_le _⟩ (Nat.le_of_ble_eq_true rfl) (fun x I' J' hp2 => ?_)
    obtain ⟨rfl, rfl, rfl⟩ := hp2
    refine fr_lcmp d_M_isOverLimit_15 ?_
    refine fr_if_lt 23 d_M_isOverLimit_16 rfl (fun h3 => ?_) (fun h3 => ?_)
    · skip
      refine fr_iconst d_M_isOverLimit_23 fr_i0 ?_
      exact fr_iret d_M_isOverLimit_24 rfl (fr_nar_b (Or.inl rfl)) (Nat.zero_le _) (Nat.zero_le _) ⟨(by unfold f_M_isOverLimit; rw [if_neg h1, if_pos h3]), rfl, rfl⟩
    · skip
      refine fr_iconst d_M_isOverLimit_19 fr_i1 ?_
      refine fr_goto 24 d_M_isOverLimit_20 rfl ?_
      exact fr_iret d_M_isOverLimit_24 rfl (fr_nar_b (Or.inr rfl)) (Nat.zero_le _) (Nat.zero_le _) ⟨(by unfold f_M_isOverLimit; rw [if_neg h1, if_neg h3]), rfl, rfl⟩
def f_M_forget (I : fr_I) (J : fr_J) (r : Nat) : fr_I × fr_J :=
  ((fr_ui (fr_ui (f_A_fill_9 I r 0) 8 r 5 0) 8 r 6 0), (fr_uj J 8 r 7 0))
set_option maxRecDepth 10000 in
theorem ct_M_forget (X : fr_X) (n : Nat) (r : Nat) (hr : r < n) (I : fr_I) (J : fr_J) : fr_Ct X y_M_forget c_M_forget 1 none (fr_rm 1) [.ref (fr_ad X 8 r)] (fr_Z0 X n) (fr_Z0 X n) I J (fr_pv (fun I' J' => (f_M_forget I J r).1 = I' ∧ (f_M_forget I J r).2 = J')) := by
  refine fr_ct (by decide) rfl rfl (Nat.le_of_ble_eq_true rfl) rfl (fun E => ?_)
  refine fr_aload_n d_M_forget_0 rfl ?_
  refine fr_getr (k' := 9) (r' := r) d_M_forget_1 fl_M_9 rfl rfl rfl (Or.inl ⟨rfl, hr⟩) ?_
  refine fr_iconst d_M_forget_4 fr_i0 ?_
  refine fr_callSv d_M_forget_5 (ct_A_fill_9 X n r hr _ _ _) ms_M_48 rfl rfl ⟨Nat.le_of_ble_eq_true rfl, Nat.le_of_ble_eq_true rfl⟩ ⟨rfl, rfl⟩ ⟨Nat.zero_le _, Nat.zero_le _⟩ (Nat.le_of_ble_eq_true rfl) (fun I' J' hp1 => ?_)
  obtain ⟨rfl, rfl⟩ := hp1
  refine fr_aload_n d_M_forget_8 rfl ?_
  refine fr_iconst d_M_forget_9 fr_i0 ?_
  refine fr_puti d_M_forget_10 fl_M_30 rfl rfl (Or.inl ⟨rfl, hr⟩) ?_
  refine fr_aload_n d_M_forget_13 rfl ?_
  refine fr_iconst d_M_forget_14 fr_i0 ?_
  refine fr_putz d_M_forget_15 fl_M_33 rfl rfl (Or.inl rfl) (Or.inl ⟨rfl, hr⟩) ?_
  refine fr_aload_n d_M_forget_18 rfl ?_
  refine fr_lconst d_M_forget_19 fr_l0 ?_
  refine fr_putl d_M_forget_20 fl_M_37 rfl rfl (Or.inl ⟨rfl, hr⟩) ?_
  exact fr_vret d_M_forget_23 rfl (Nat.zero_le _) (Nat.zero_le _) (fr_tIJ (rfl))
theorem fw_M_forget {n : Nat} {I : fr_I} {J : fr_J} {r : Nat} (hw : fr_wf n I) : fr_wf n (f_M_forget I J r).1 := by
  unfold f_M_forget
  exact (fw_ui (k := 8) (j := 6) rfl (fw_ui (k := 8) (j := 5) rfl (fw_A_fill_9 hw)))
theorem fc_M_forget {P : fr_I → Prop} (hP : fr_cst P) {I : fr_I} {J : fr_J} {r : Nat} (h : P I) : P (f_M_forget I J r).1 := by
  unfold f_M_forget
  refine fw_pr (P := P) ?_
  exact (hP (k := 8) (by decide) (hP (k := 8) (by decide) (fc_A_fill_9 hP h)))
theorem fcj_M_forget {P : fr_J → Prop} (hP : fr_cstJ P) {I : fr_I} {J : fr_J} {r : Nat} (h : P J) : P (f_M_forget I J r).2 := by
  unfold f_M_forget
  refine fw_pr2 (P := P) ?_
  exact (hP (k := 8) (by decide) h)
def f_M_rootOfMeanSquare (I : fr_I) (r : Nat) : Int32 :=
  (fr_rb (((((0 + (((I 9 r 0)).toInt64 * ((I 9 r 0)).toInt64)) + (((I 9 r 1)).toInt64 * ((I 9 r 1)).toInt64)) + (((I 9 r 2)).toInt64 * ((I 9 r 2)).toInt64)) + (((I 9 r 3)).toInt64 * ((I 9 r 3)).toInt64)) / 4) 18 0)
set_option maxRecDepth 10000 in
theorem ct_M_rootOfMeanSquare (X : fr_X) (n : Nat) (r : Nat) (hr : r < n) (I : fr_I) (J : fr_J) : fr_Ct X y_M_rootOfMeanSquare c_M_rootOfMeanSquare 9 (some .int) (fr_rm 0) [.ref (fr_ad X 8 r)] (fr_Z0 X n) (fr_Z0 X n) I J (fr_pi (fun x I' J' => (f_M_rootOfMeanSquare I r) = x ∧ I = I' ∧ J = J')) := by
  refine fr_ct (by decide) rfl rfl (Nat.le_of_ble_eq_true rfl) rfl (fun E => ?_)
  refine fr_lconst d_M_rootOfMeanSquare_0 fr_l0 ?_
  refine fr_lstore_n (L' := [(1, .long _), (0, .ref _)]) d_M_rootOfMeanSquare_1 (by decide) rfl ?_
  refine fr_iconst d_M_rootOfMeanSquare_2 fr_i0 ?_
  refine fr_istore_n (L' := [(3, .int _), (1, .long _), (0, .ref _)]) d_M_rootOfMeanSquare_3 (by decide) rfl ?_
  refine fr_iload_n d_M_rootOfMeanSquare_4 rfl ?_
  refine fr_iconst d_M_rootOfMeanSquare_5 fr_i4 ?_
  refine fr_icmp_ge 33 d_M_rootOfMeanSquare_6 rfl (fun h => absurd h (by decide)) (fun _ => ?_)
  refine fr_lload_n d_M_rootOfMeanSquare_9 rfl ?_
  refine fr_aload_n d_M_rootOfMeanSquare_10 rfl ?_
  refine fr_getr (k' := 9) (r' := r) d_M_rootOfMeanSquare_11 fl_M_9 rfl rfl rfl (Or.inl ⟨rfl, hr⟩) ?_
  refine fr_iload_n d_M_rootOfMeanSquare_14 rfl ?_
  refine fr_iald (0) d_M_rootOfMeanSquare_15 rfl rfl (Or.inl ⟨rfl, hr⟩) rfl (by decide) (by decide) ?_
  refine fr_i2l d_M_rootOfMeanSquare_16 rfl ?_
  refine fr_aload_n d_M_rootOfMeanSquare_17 rfl ?_
  refine fr_getr (k' := 9) (r' := r) d_M_rootOfMeanSquare_18 fl_M_9 rfl rfl rfl (Or.inl ⟨rfl, hr⟩) ?_
  refine fr_iload_n d_M_rootOfMeanSquare_21 rfl ?_
  refine fr_iald (0) d_M_rootOfMeanSquare_22 rfl rfl (Or.inl ⟨rfl, hr⟩) rfl (by decide) (by decide) ?_
  refine fr_i2l d_M_rootOfMeanSquare_23 rfl ?_
  refine fr_lmul d_M_rootOfMeanSquare_24 ?_
  refine fr_ladd d_M_rootOfMeanSquare_25 ?_
  refine fr_lstore_n (L' := [(1, .long _), (3, .int _), (0, .ref _)]) d_M_rootOfMeanSquare_26 (by decide) rfl ?_
  refine fr_iinc (v := 1) (L' := [(3, .int _), (1, .long _), (0, .ref _)]) d_M_rootOfMeanSquare_27 rfl (by decide) (by decide) rfl ?_
  refine fr_goto 4 d_M_rootOfMeanSquare_30 rfl ?_
  refine fr_iload_n d_M_rootOfMeanSquare_4 rfl ?_
  refine fr_iconst d_M_rootOfMeanSquare_5 fr_i4 ?_
  refine fr_icmp_ge 33 d_M_rootOfMeanSquare_6 rfl (fun h => absurd h (by decide)) (fun _ => ?_)
  refine fr_lload_n d_M_rootOfMeanSquare_9 rfl ?_
  refine fr_aload_n d_M_rootOfMeanSquare_10 rfl ?_
  refine fr_getr (k' := 9) (r' := r) d_M_rootOfMeanSquare_11 fl_M_9 rfl rfl rfl (Or.inl ⟨rfl, hr⟩) ?_
  refine fr_iload_n d_M_rootOfMeanSquare_14 rfl ?_
  refine fr_iald (1) d_M_rootOfMeanSquare_15 rfl rfl (Or.inl ⟨rfl, hr⟩) rfl (by decide) (by decide) ?_
  refine fr_i2l d_M_rootOfMeanSquare_16 rfl ?_
  refine fr_aload_n d_M_rootOfMeanSquare_17 rfl ?_
  refine fr_getr (k' := 9) (r' := r) d_M_rootOfMeanSquare_18 fl_M_9 rfl rfl rfl (Or.inl ⟨rfl, hr⟩) ?_
  refine fr_iload_n d_M_rootOfMeanSquare_21 rfl ?_
  refine fr_iald (1) d_M_rootOfMeanSquare_22 rfl rfl (Or.inl ⟨rfl, hr⟩) rfl (by decide) (by decide) ?_
  refine fr_i2l d_M_rootOfMeanSquare_23 rfl ?_
  refine fr_lmul d_M_rootOfMeanSquare_24 ?_
  refine fr_ladd d_M_rootOfMeanSquare_25 ?_
  refine fr_lstore_n (L' := [(1, .long _), (3, .int _), (0, .ref _)]) d_M_rootOfMeanSquare_26 (by decide) rfl ?_
  refine fr_iinc (v := 2) (L' := [(3, .int _), (1, .long _), (0, .ref _)]) d_M_rootOfMeanSquare_27 rfl (by decide) (by decide) rfl ?_
  refine fr_goto 4 d_M_rootOfMeanSquare_30 rfl ?_
  refine fr_iload_n d_M_rootOfMeanSquare_4 rfl ?_
  refine fr_iconst d_M_rootOfMeanSquare_5 fr_i4 ?_
  refine fr_icmp_ge 33 d_M_rootOfMeanSquare_6 rfl (fun h => absurd h (by decide)) (fun _ => ?_)
  refine fr_lload_n d_M_rootOfMeanSquare_9 rfl ?_
  refine fr_aload_n d_M_rootOfMeanSquare_10 rfl ?_
  refine fr_getr (k' := 9) (r' := r) d_M_rootOfMeanSquare_11 fl_M_9 rfl rfl rfl (Or.inl ⟨rfl, hr⟩) ?_
  refine fr_iload_n d_M_rootOfMeanSquare_14 rfl ?_
  refine fr_iald (2) d_M_rootOfMeanSquare_15 rfl rfl (Or.inl ⟨rfl, hr⟩) rfl (by decide) (by decide) ?_
  refine fr_i2l d_M_rootOfMeanSquare_16 rfl ?_
  refine fr_aload_n d_M_rootOfMeanSquare_17 rfl ?_
  refine fr_getr (k' := 9) (r' := r) d_M_rootOfMeanSquare_18 fl_M_9 rfl rfl rfl (Or.inl ⟨rfl, hr⟩) ?_
  refine fr_iload_n d_M_rootOfMeanSquare_21 rfl ?_
  refine fr_iald (2) d_M_rootOfMeanSquare_22 rfl rfl (Or.inl ⟨rfl, hr⟩) rfl (by decide) (by decide) ?_
  refine fr_i2l d_M_rootOfMeanSquare_23 rfl ?_
  refine fr_lmul d_M_rootOfMeanSquare_24 ?_
  refine fr_ladd d_M_rootOfMeanSquare_25 ?_
  refine fr_lstore_n (L' := [(1, .long _), (3, .int _), (0, .ref _)]) d_M_rootOfMeanSquare_26 (by decide) rfl ?_
  refine fr_iinc (v := 3) (L' := [(3, .int _), (1, .long _), (0, .ref _)]) d_M_rootOfMeanSquare_27 rfl (by decide) (by decide) rfl ?_
  refine fr_goto 4 d_M_rootOfMeanSquare_30 rfl ?_
  refine fr_iload_n d_M_rootOfMeanSquare_4 rfl ?_
  refine fr_iconst d_M_rootOfMeanSquare_5 fr_i4 ?_
  refine fr_icmp_ge 33 d_M_rootOfMeanSquare_6 rfl (fun h => absurd h (by decide)) (fun _ => ?_)
  refine fr_lload_n d_M_rootOfMeanSquare_9 rfl ?_
  refine fr_aload_n d_M_rootOfMeanSquare_10 rfl ?_
  refine fr_getr (k' := 9) (r' := r) d_M_rootOfMeanSquare_11 fl_M_9 rfl rfl rfl (Or.inl ⟨rfl, hr⟩) ?_
  refine fr_iload_n d_M_rootOfMeanSquare_14 rfl ?_
  refine fr_iald (3) d_M_rootOfMeanSquare_15 rfl rfl (Or.inl ⟨rfl, hr⟩) rfl (by decide) (by decide) ?_
  refine fr_i2l d_M_rootOfMeanSquare_16 rfl ?_
  refine fr_aload_n d_M_rootOfMeanSquare_17 rfl ?_
  refine fr_getr (k' := 9) (r' := r) d_M_rootOfMeanSquare_18 fl_M_9 rfl rfl rfl (Or.inl ⟨rfl, hr⟩) ?_
  refine fr_iload_n d_M_rootOfMeanSquare_21 rfl ?_
  refine fr_iald (3) d_M_rootOfMeanSquare_22 rfl rfl (Or.inl ⟨rfl, hr⟩) rfl (by decide) (by decide) ?_
  refine fr_i2l d_M_rootOfMeanSquare_23 rfl ?_
  refine fr_lmul d_M_rootOfMeanSquare_24 ?_
  refine fr_ladd d_M_rootOfMeanSquare_25 ?_
  refine fr_lstore_n (L' := [(1, .long _), (3, .int _), (0, .ref _)]) d_M_rootOfMeanSquare_26 (by decide) rfl ?_
  refine fr_iinc (v := 4) (L' := [(3, .int _), (1, .long _), (0, .ref _)]) d_M_rootOfMeanSquare_27 rfl (by decide) (by decide) rfl ?_
  refine fr_goto 4 d_M_rootOfMeanSquare_30 rfl ?_
  refine fr_iload_n d_M_rootOfMeanSquare_4 rfl ?_
  refine fr_iconst d_M_rootOfMeanSquare_5 fr_i4 ?_
  refine fr_icmp_ge 33 d_M_rootOfMeanSquare_6 rfl (fun _ => ?_) (fun h => absurd h (by decide))
  refine fr_lload_n d_M_rootOfMeanSquare_33 rfl ?_
  refine fr_ldc2 lc_M_54 d_M_rootOfMeanSquare_34 ?_
  refine fr_ldiv d_M_rootOfMeanSquare_37 (by decide) ?_
  refine fr_lstore_n (L' := [(3, .long _), (1, .long _), (0, .ref _)]) d_M_rootOfMeanSquare_38 (by decide) rfl ?_
  refine fr_iconst d_M_rootOfMeanSquare_39 fr_i0 ?_
  refine fr_istore (L' := [(5, .int _), (3, .long _), (1, .long _), (0, .ref _)]) d_M_rootOfMeanSquare_40 (by decide) rfl ?_
  refine fr_ldc lc_M_56 d_M_rootOfMeanSquare_42 ?_
  refine fr_istore (L' := [(6, .int _), (5, .int _), (3, .long _), (1, .long _), (0, .ref _)]) d_M_rootOfMeanSquare_44 (by decide) rfl ?_
  refine fr_pick (L' := [(6, .int _), (5, .int _), (3, .long _)]) [0, 1, 2] rfl ?_
  refine fr_ind (fun K (a : Int32) => [(6, .int (fr_bt K)), (5, .int a), (3, .long (((((0 + (((I 9 r 0)).toInt64 * ((I 9 r 0)).toInt64)) + (((I 9 r 1)).toInt64 * ((I 9 r 1)).toInt64)) + (((I 9 r 2)).toInt64 * ((I 9 r 2)).toInt64)) + (((I 9 r 3)).toInt64 * ((I 9 r 3)).toInt64)) / 4))]) (fun K a => fr_rb (((((0 + (((I 9 r 0)).toInt64 * ((I 9 r 0)).toInt64)) + (((I 9 r 1)).toInt64 * ((I 9 r 1)).toInt64)) + (((I 9 r 2)).toInt64 * ((I 9 r 2)).toInt64)) + (((I 9 r 3)).toInt64 * ((I 9 r 3)).toInt64)) / 4) K a = fr_rb (((((0 + (((I 9 r 0)).toInt64 * ((I 9 r 0)).toInt64)) + (((I 9 r 1)).toInt64 * ((I 9 r 1)).toInt64)) + (((I 9 r 2)).toInt64 * ((I 9 r 2)).toInt64)) + (((I 9 r 3)).toInt64 * ((I 9 r 3)).toInt64)) / 4) 18 0) 18 0 rfl rfl (fun a ha => ?_) (fun K a hK ha ih => ?_)
  · skip
    refine fr_iload d_M_rootOfMeanSquare_46 rfl ?_
    refine fr_if_le 85 d_M_rootOfMeanSquare_48 rfl (fun _ => ?_) (fun h => absurd (by decide) h)
    refine fr_iload d_M_rootOfMeanSquare_85 rfl ?_
    exact fr_iret d_M_rootOfMeanSquare_87 rfl (fr_nar_i _) (Nat.zero_le _) (Nat.zero_le _) ⟨ha.symm, rfl, rfl⟩
  · skip
    refine fr_iload d_M_rootOfMeanSquare_46 rfl ?_
    refine fr_if_le 85 d_M_rootOfMeanSquare_48 rfl (fun h => absurd h (fr_bt_pos hK)) (fun _ => ?_)
    refine fr_iload d_M_rootOfMeanSquare_51 rfl ?_
    refine fr_iload d_M_rootOfMeanSquare_53 rfl ?_
    refine fr_iadd d_M_rootOfMeanSquare_55 ?_
    refine fr_i2l d_M_rootOfMeanSquare_56 rfl ?_
    refine fr_lstore (L' := [(7, .long _), (6, .int _), (5, .int _), (3, .long _)]) d_M_rootOfMeanSquare_57 (by decide) rfl ?_
    refine fr_lload d_M_rootOfMeanSquare_59 rfl ?_
    refine fr_lload d_M_rootOfMeanSquare_61 rfl ?_
    refine fr_lmul d_M_rootOfMeanSquare_63 ?_
    refine fr_lload_n d_M_rootOfMeanSquare_64 rfl ?_
    refine fr_lcmp d_M_rootOfMeanSquare_65 ?_
    refine fr_if_gt 76 d_M_rootOfMeanSquare_66 rfl (fun h1 => ?_) (fun h1 => ?_)
    · skip
      refine fr_iload d_M_rootOfMeanSquare_76 rfl ?_
      refine fr_iconst d_M_rootOfMeanSquare_78 fr_i1 ?_
      refine fr_ishr d_M_rootOfMeanSquare_79 ?_
      refine fr_istore (L' := [(6, .int _), (7, .long _), (5, .int _), (3, .long _)]) d_M_rootOfMeanSquare_80 (by decide) rfl ?_
      refine fr_goto 46 d_M_rootOfMeanSquare_82 rfl ?_
      refine fr_pick (L' := [(6, .int _), (5, .int _), (3, .long _)]) [0, 2, 3] rfl ?_
      rw [fr_bt_shr hK]
      exact ih _ ((fr_rb_gt h1).symm.trans ha)
    · skip
      refine fr_iload d_M_rootOfMeanSquare_69 rfl ?_
      refine fr_iload d_M_rootOfMeanSquare_71 rfl ?_
      refine fr_iadd d_M_rootOfMeanSquare_73 ?_
      refine fr_istore (L' := [(5, .int _), (7, .long _), (6, .int _), (3, .long _)]) d_M_rootOfMeanSquare_74 (by decide) rfl ?_
      refine fr_iload d_M_rootOfMeanSquare_76 rfl ?_
      refine fr_iconst d_M_rootOfMeanSquare_78 fr_i1 ?_
      refine fr_ishr d_M_rootOfMeanSquare_79 ?_
      refine fr_istore (L' := [(6, .int _), (5, .int _), (7, .long _), (3, .long _)]) d_M_rootOfMeanSquare_80 (by decide) rfl ?_
      refine fr_goto 46 d_M_rootOfMeanSquare_82 rfl ?_
      refine fr_pick (L' := [(6, .int _), (5, .int _), (3, .long _)]) [0, 1, 3] rfl ?_
      rw [fr_bt_shr hK]
      exact ih _ ((fr_rb_le h1).symm.trans ha)
