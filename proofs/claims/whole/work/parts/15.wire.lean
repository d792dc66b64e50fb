def f_A_fill_9 (I : fr_I) (r : Nat) (p1 : Int32) : fr_I :=
  (fr_ui (fr_ui (fr_ui (fr_ui I 9 r 0 p1) 9 r 1 p1) 9 r 2 p1) 9 r 3 p1)
set_option maxRecDepth 10000 in
theorem ct_A_fill_9 (X : fr_X) (n : Nat) (r : Nat) (hr : r < n) (I : fr_I) (J : fr_J) (p1 : Int32) : fr_Ct X y_A_fill c_A_fill 4 none (fr_rm 0) [.ref (fr_ad X 9 r), .int p1] (fr_Z0 X n) (fr_Z0 X n) I J (fr_pv (fun I' J' => (f_A_fill_9 I r p1) = I' ∧ J = J')) := by
  refine fr_ct (by decide) rfl rfl (Nat.le_of_ble_eq_true rfl) rfl (fun E => ?_)
  refine fr_iconst d_A_fill_0 fr_i0 ?_
  refine fr_istore_n (L' := [(2, .int _), (0, .ref _), (1, .int _)]) d_A_fill_1 (by decide) rfl ?_
  refine fr_aload_n d_A_fill_2 rfl ?_
  refine fr_alen (v := 4) d_A_fill_3 rfl (Or.inl ⟨rfl, hr⟩) rfl ?_
  refine fr_istore_n (L' := [(3, .int _), (2, .int _), (0, .ref _), (1, .int _)]) d_A_fill_4 (by decide) rfl ?_
  refine fr_iload_n d_A_fill_5 rfl ?_
  refine fr_iload_n d_A_fill_6 rfl ?_
  refine fr_icmp_ge 20 d_A_fill_7 rfl (fun h => absurd h (by decide)) (fun _ => ?_)
  refine fr_aload_n d_A_fill_10 rfl ?_
  refine fr_iload_n d_A_fill_11 rfl ?_
  refine fr_iload_n d_A_fill_12 rfl ?_
  refine fr_iast (0) d_A_fill_13 rfl rfl (Or.inl ⟨rfl, hr⟩) rfl (by decide) (by decide) ?_
  refine fr_iinc (v := 1) (L' := [(2, .int _), (3, .int _), (0, .ref _), (1, .int _)]) d_A_fill_14 rfl (by decide) (by decide) rfl ?_
  refine fr_goto 5 d_A_fill_17 rfl ?_
  refine fr_iload_n d_A_fill_5 rfl ?_
  refine fr_iload_n d_A_fill_6 rfl ?_
  refine fr_icmp_ge 20 d_A_fill_7 rfl (fun h => absurd h (by decide)) (fun _ => ?_)
  refine fr_aload_n d_A_fill_10 rfl ?_
  refine fr_iload_n d_A_fill_11 rfl ?_
  refine fr_iload_n d_A_fill_12 rfl ?_
  refine fr_iast (1) d_A_fill_13 rfl rfl (Or.inl ⟨rfl, hr⟩) rfl (by decide) (by decide) ?_
  refine fr_iinc (v := 2) (L' := [(2, .int _), (3, .int _), (0, .ref _), (1, .int _)]) d_A_fill_14 rfl (by decide) (by decide) rfl ?_
  refine fr_goto 5 d_A_fill_17 rfl ?_
  refine fr_iload_n d_A_fill_5 rfl ?_
  refine fr_iload_n d_A_fill_6 rfl ?_
  refine fr_icmp_ge 20 d_A_fill_7 rfl (fun h => absurd h (by decide)) (fun _ => ?_)
  refine fr_aload_n d_A_fill_10 rfl ?_
  refine fr_iload_n d_A_fill_11 rfl ?_
  refine fr_iload_n d_A_fill_12 rfl ?_
  refine fr_iast (2) d_A_fill_13 rfl rfl (Or.inl ⟨rfl, hr⟩) rfl (by decide) (by decide) ?_
  refine fr_iinc (v := 3) (L' := [(2, .int _), (3, .int _), (0, .ref _), (1, .int _)]) d_A_fill_14 rfl (by decide) (by decide) rfl ?_
  refine fr_goto 5 d_A_fill_17 rfl ?_
  refine fr_iload_n d_A_fill_5 rfl ?_
  refine fr_iload_n d_A_fill_6 rfl ?_
  refine fr_icmp_ge 20 d_A_fill_7 rfl (fun h => absurd h (by decide)) (fun _ => ?_)
  refine fr_aload_n d_A_fill_10 rfl ?_
  refine fr_iload_n d_A_fill_11 rfl ?_
  refine fr_iload_n d_A_fill_12 rfl ?_
  refine fr_iast (3) d_A_fill_13 rfl rfl (Or.inl ⟨rfl, hr⟩) rfl (by decide) (by decide) ?_
  refine fr_iinc (v := 4) (L' := [(2, .int _), (3, .int _), (0, .ref _), (1, .int _)]) d_A_fill_14 rfl (by decide) (by decide) rfl ?_
  refine fr_goto 5 d_A_fill_17 rfl ?_
  refine fr_iload_n d_A_fill_5 rfl ?_
  refine fr_iload_n d_A_fill_6 rfl ?_
  refine fr_icmp_ge 20 d_A_fill_7 rfl (fun _ => ?_) (fun h => absurd h (by decide))
  exact fr_vret d_A_fill_20 rfl (Nat.zero_le _) (Nat.zero_le _) ⟨rfl, rfl⟩
theorem fw_A_fill_9 {n : Nat} {I : fr_I} {r : Nat} {p1 : Int32} (hw : fr_wf n I) : fr_wf n (f_A_fill_9 I r p1) := by
  unfold f_A_fill_9
  exact (fw_ui (k := 9) rfl (fw_ui (k := 9) rfl (fw_ui (k := 9) rfl (fw_ui (k := 9) rfl hw))))
theorem fc_A_fill_9 {P : fr_I → Prop} (hP : fr_cst P) {I : fr_I} {r : Nat} {p1 : Int32} (h : P I) : P (f_A_fill_9 I r p1) := by
  unfold f_A_fill_9
  exact (hP (k := 9) (by decide) (hP (k := 9) (by decide) (hP (k := 9) (by decide) (hP (k := 9) (by decide) h))))
def f_A_fill_13 (I : fr_I) (r : Nat) (p1 : Int32) : fr_I :=
  (fr_ui (fr_ui (fr_ui (fr_ui (fr_ui (fr_ui (fr_ui (fr_ui I 13 r 0 p1) 13 r 1 p1) 13 r 2 p1) 13 r 3 p1) 13 r 4 p1) 13 r 5 p1) 13 r 6 p1) 13 r 7 p1)
set_option maxRecDepth 10000 in
theorem ct_A_fill_13 (X : fr_X) (n : Nat) (r : Nat) (hr : r < n) (I : fr_I) (J : fr_J) (p1 : Int32) : fr_Ct X y_A_fill c_A_fill 4 none (fr_rm 0) [.ref (fr_ad X 13 r), .int p1] (fr_Z0 X n) (fr_Z0 X n) I J (fr_pv (fun I' J' => (f_A_fill_13 I r p1) = I' ∧ J = J')) := by
  refine fr_ct (by decide) rfl rfl (Nat.le_of_ble_eq_true rfl) rfl (fun E => ?_)
  refine fr_iconst d_A_fill_0 fr_i0 ?_
  refine fr_istore_n (L' := [(2, .int _), (0, .ref _), (1, .int _)]) d_A_fill_1 (by decide) rfl ?_
  refine fr_aload_n d_A_fill_2 rfl ?_
  refine fr_alen (v := 8) d_A_fill_3 rfl (Or.inl ⟨rfl, hr⟩) rfl ?_
  refine fr_istore_n (L' := [(3, .int _), (2, .int _), (0, .ref _), (1, .int _)]) d_A_fill_4 (by decide) rfl ?_
  refine fr_iload_n d_A_fill_5 rfl ?_
  refine fr_iload_n d_A_fill_6 rfl ?_
  refine fr_icmp_ge 20 d_A_fill_7 rfl (fun h => absurd h (by decide)) (fun _ => ?_)
  refine fr_aload_n d_A_fill_10 rfl ?_
  refine fr_iload_n d_A_fill_11 rfl ?_
  refine fr_iload_n d_A_fill_12 rfl ?_
  refine fr_iast (0) d_A_fill_13 rfl rfl (Or.inl ⟨rfl, hr⟩) rfl (by decide) (by decide) ?_
  refine fr_iinc (v := 1) (L' := [(2, .int _), (3, .int _), (0, .ref _), (1, .int _)]) d_A_fill_14 rfl (by decide) (by decide) rfl ?_
  refine fr_goto 5 d_A_fill_17 rfl ?_
  refine fr_iload_n d_A_fill_5 rfl ?_
  refine fr_iload_n d_A_fill_6 rfl ?_
  refine fr_icmp_ge 20 d_A_fill_7 rfl (fun h => absurd h (by decide)) (fun _ => ?_)
  refine fr_aload_n d_A_fill_10 rfl ?_
  refine fr_iload_n d_A_fill_11 rfl ?_
  refine fr_iload_n d_A_fill_12 rfl ?_
  refine fr_iast (1) d_A_fill_13 rfl rfl (Or.inl ⟨rfl, hr⟩) rfl (by decide) (by decide) ?_
  refine fr_iinc (v := 2) (L' := [(2, .int _), (3, .int _), (0, .ref _), (1, .int _)]) d_A_fill_14 rfl (by decide) (by decide) rfl ?_
  refine fr_goto 5 d_A_fill_17 rfl ?_
  refine fr_iload_n d_A_fill_5 rfl ?_
  refine fr_iload_n d_A_fill_6 rfl ?_
  refine fr_icmp_ge 20 d_A_fill_7 rfl (fun h => absurd h (by decide)) (fun _ => ?_)
  refine fr_aload_n d_A_fill_10 rfl ?_
  refine fr_iload_n d_A_fill_11 rfl ?_
  refine fr_iload_n d_A_fill_12 rfl ?_
  refine fr_iast (2) d_A_fill_13 rfl rfl (Or.inl ⟨rfl, hr⟩) rfl (by decide) (by decide) ?_
  refine fr_iinc (v := 3) (L' := [(2, .int _), (3, .int _), (0, .ref _), (1, .int _)]) d_A_fill_14 rfl (by decide) (by decide) rfl ?_
  refine fr_goto 5 d_A_fill_17 rfl ?_
  refine fr_iload_n d_A_fill_5 rfl ?_
  refine fr_iload_n d_A_fill_6 rfl ?_
  refine fr_icmp_ge 20 d_A_fill_7 rfl (fun h => absurd h (by decide)) (fun _ => ?_)
  refine fr_aload_n d_A_fill_10 rfl ?_
  refine fr_iload_n d_A_fill_11 rfl ?_
  refine fr_iload_n d_A_fill_12 rfl ?_
  refine fr_iast (3) d_A_fill_13 rfl rfl (Or.inl ⟨rfl, hr⟩) rfl (by decide) (by decide) ?_
  refine fr_iinc (v := 4) (L' := [(2, .int _), (3, .int _), (0, .ref _), (1, .int _)]) d_A_fill_14 rfl (by decide) (by decide) rfl ?_
  refine fr_goto 5 d_A_fill_17 rfl ?_
  refine fr_iload_n d_A_fill_5 rfl ?_
  refine fr_iload_n d_A_fill_6 rfl ?_
  refine fr_icmp_ge 20 d_A_fill_7 rfl (fun h => absurd h (by decide)) (fun _ => ?_)
  refine fr_aload_n d_A_fill_10 rfl ?_
  refine fr_iload_n d_A_fill_11 rfl ?_
  refine fr_iload_n d_A_fill_12 rfl ?_
  refine fr_iast (4) d_A_fill_13 rfl rfl (Or.inl ⟨rfl, hr⟩) rfl (by decide) (by decide) ?_
  refine fr_iinc (v := 5) (L' := [(2, .int _), (3, .int _), (0, .ref _), (1, .int _)]) d_A_fill_14 rfl (by decide) (by decide) rfl ?_
  refine fr_goto 5 d_A_fill_17 rfl ?_
  refine fr_iload_n d_A_fill_5 rfl ?_
  refine fr_iload_n d_A_fill_6 rfl ?_
  refine fr_icmp_ge 20 d_A_fill_7 rfl (fun h => absurd h (by decide)) (fun _ => ?_)
  refine fr_aload_n d_A_fill_10 rfl ?_
  refine fr_iload_n d_A_fill_11 rfl ?_
  refine fr_iload_n d_A_fill_12 rfl ?_
  refine fr_iast (5) d_A_fill_13 rfl rfl (Or.inl ⟨rfl, hr⟩) rfl (by decide) (by decide) ?_
  refine fr_iinc (v := 6) (L' := [(2, .int _), (3, .int _), (0, .ref _), (1, .int _)]) d_A_fill_14 rfl (by decide) (by decide) rfl ?_
  refine fr_goto 5 d_A_fill_17 rfl ?_
  refine fr_iload_n d_A_fill_5 rfl ?_
  refine fr_iload_n d_A_fill_6 rfl ?_
  refine fr_icmp_ge 20 d_A_fill_7 rfl (fun h => absurd h (by decide)) (fun _ => ?_)
  refine fr_aload_n d_A_fill_10 rfl ?_
  refine fr_iload_n d_A_fill_11 rfl ?_
  refine fr_iload_n d_A_fill_12 rfl ?_
  refine fr_iast (6) d_A_fill_13 rfl rfl (Or.inl ⟨rfl, hr⟩) rfl (by decide) (by decide) ?_
  refine fr_iinc (v := 7) (L' := [(2, .int _), (3, .int _), (0, .ref _), (1, .int _)]) d_A_fill_14 rfl (by decide) (by decide) rfl ?_
  refine fr_goto 5 d_A_fill_17 rfl ?_
  refine fr_iload_n d_A_fill_5 rfl ?_
  refine fr_iload_n d_A_fill_6 rfl ?_
  refine fr_icmp_ge 20 d_A_fill_7 rfl (fun h => absurd h (by decide)) (fun _ => ?_)
  refine fr_aload_n d_A_fill_10 rfl ?_
  refine fr_iload_n d_A_fill_11 rfl ?_
  refine fr_iload_n d_A_fill_12 rfl ?_
  refine fr_iast (7) d_A_fill_13 rfl rfl (Or.inl ⟨rfl, hr⟩) rfl (by decide) (by decide) ?_
  refine fr_iinc (v := 8) (L' := [(2, .int _), (3, .int _), (0, .ref _), (1, .int _)]) d_A_fill_14 rfl (by decide) (by decide) rfl ?_
  refine fr_goto 5 d_A_fill_17 rfl ?_
  refine fr_iload_n d_A_fill_5 rfl ?_
  refine fr_iload_n d_A_fill_6 rfl ?_
  refine fr_icmp_ge 20 d_A_fill_7 rfl (fun _ => ?_) (fun h => absurd h (by decide))
  exact fr_vret d_A_fill_20 rfl (Nat.zero_le _) (Nat.zero_le _) ⟨rfl, rfl⟩
theorem fw_A_fill_13 {n : Nat} {I : fr_I} {r : Nat} {p1 : Int32} (hw : fr_wf n I) : fr_wf n (f_A_fill_13 I r p1) := by
  unfold f_A_fill_13
  exact (fw_ui (k := 13) rfl (fw_ui (k := 13) rfl (fw_ui (k := 13) rfl (fw_ui (k := 13) rfl (fw_ui (k := 13) rfl (fw_ui (k := 13) rfl (fw_ui (k := 13) rfl (fw_ui (k := 13) rfl hw))))))))
theorem fc_A_fill_13 {P : fr_I → Prop} (hP : fr_cst P) {I : fr_I} {r : Nat} {p1 : Int32} (h : P I) : P (f_A_fill_13 I r p1) := by
  unfold f_A_fill_13
  exact (hP (k := 13) (by decide) (hP (k := 13) (by decide) (hP (k := 13) (by decide) (hP (k := 13) (by decide) (hP (k := 13) (by decide) (hP (k := 13) (by decide) (hP (k := 13) (by decide) (hP (k := 13) (by decide) h))))))))
def f_W_placeOf (I : fr_I) (p1 : Int32) : Int32 :=
  (p1 &&& 7)
set_option maxRecDepth 10000 in
theorem ct_W_placeOf (X : fr_X) (n : Nat) (I : fr_I) (J : fr_J) (p1 : Int32) : fr_Ct X y_W_placeOf c_W_placeOf 1 (some .int) (fr_rm 0) [.int p1] (fr_Z0 X n) (fr_Z0 X n) I J (fr_pi (fun x I' J' => (f_W_placeOf I p1) = x ∧ I = I' ∧ J = J')) := by
  refine fr_ct (by decide) rfl rfl (Nat.le_of_ble_eq_true rfl) rfl (fun E => ?_)
  refine fr_iload_n d_W_placeOf_0 rfl ?_
  refine fr_bipush d_W_placeOf_1 fr_b7 ?_
  refine fr_iand d_W_placeOf_3 ?_
  exact fr_iret d_W_placeOf_4 rfl (fr_nar_i _) (Nat.zero_le _) (Nat.zero_le _) ⟨rfl, rfl, rfl⟩
def f_W_learn (I : fr_I) (r : Nat) (p1 : Int32) (p2 : Int32) : fr_I :=
  if (p1 >>> (1 &&& 31)) < ((I 11 r 5) >>> (1 &&& 31)) then
    I
  else
    (fr_ui (fr_ui I 11 r 5 p1) 11 r 6 p2)
set_option maxRecDepth 10000 in
theorem ct_W_learn (X : fr_X) (n : Nat) (r : Nat) (hr : r < n) (I : fr_I) (J : fr_J) (p1 : Int32) (p2 : Int32) : fr_Ct X y_W_learn c_W_learn 3 none (fr_rm 0) [.ref (fr_ad X 11 r), .int p1, .int p2] (fr_Z0 X n) (fr_Z0 X n) I J (fr_pv (fun I' J' => (f_W_learn I r p1 p2) = I' ∧ J = J')) := by
  refine fr_ct (by decide) rfl rfl (Nat.le_of_ble_eq_true rfl) rfl (fun E => ?_)
  refine fr_iload_n d_W_learn_0 rfl ?_
  refine fr_iconst d_W_learn_1 fr_i1 ?_
  refine fr_ishr d_W_learn_2 ?_
  refine fr_aload_n d_W_learn_3 rfl ?_
  refine fr_geti d_W_learn_4 fl_W_50 rfl rfl (Or.inl ⟨rfl, hr⟩) ?_
  refine fr_iconst d_W_learn_7 fr_i1 ?_
  refine fr_ishr d_W_learn_8 ?_
  refine fr_icmp_lt 22 d_W_learn_9 rfl (fun h1 => ?_) (fun h1 => ?_)
  · skip
    exact fr_vret d_W_learn_22 rfl (Nat.zero_le _) (Nat.zero_le _) ⟨(by unfold f_W_learn; rw [if_pos h1]), rfl⟩
  · skip
    refine fr_aload_n d_W_learn_12 rfl ?_
    refine fr_iload_n d_W_learn_13 rfl ?_
    refine fr_puti d_W_learn_14 fl_W_50 rfl rfl (Or.inl ⟨rfl, hr⟩) ?_
    refine fr_aload_n d_W_learn_17 rfl ?_
    refine fr_iload_n d_W_learn_18 rfl ?_
    refine fr_puti d_W_learn_19 fl_W_53 rfl rfl (Or.inl ⟨rfl, hr⟩) ?_
    exact fr_vret d_W_learn_22 rfl (Nat.zero_le _) (Nat.zero_le _) ⟨(by unfold f_W_learn; rw [if_neg h1]), rfl⟩
theorem fw_W_learn {n : Nat} {I : fr_I} {r : Nat} {p1 : Int32} {p2 : Int32} (hw : fr_wf n I) : fr_wf n (f_W_learn I r p1 p2) := by
  unfold f_W_learn
  refine fw_ite (fun h => ?_) (fun h => ?_)
  · skip
    exact hw
  · skip
    exact (fw_ui (k := 11) (j := 6) rfl (fw_ui (k := 11) (j := 5) rfl hw))
theorem fc_W_learn {P : fr_I → Prop} (hP : fr_cst P) {I : fr_I} {r : Nat} {p1 : Int32} {p2 : Int32} (h : P I) : P (f_W_learn I r p1 p2) := by
  unfold f_W_learn
  refine fw_ite (fun _ => ?_) (fun _ => ?_)
  · skip
    exact h
  · skip
    exact (hP (k := 11) (by decide) (hP (k := 11) (by decide) h))
def f_W_holdsBack (I : fr_I) (r : Nat) (p1 : Int32) : Int32 :=
  if ((I 11 r 5) &&& 1) = 1 then
    if 12 < (p1 - (I 11 r 6)) then
      0
    else
      1
  else
    0
set_option maxRecDepth 10000 in
theorem ct_W_holdsBack (X : fr_X) (n : Nat) (r : Nat) (hr : r < n) (I : fr_I) (J : fr_J) (p1 : Int32) : fr_Ct X y_W_holdsBack c_W_holdsBack 2 (some .boolean) (fr_rm 0) [.ref (fr_ad X 11 r), .int p1] (fr_Z0 X n) (fr_Z0 X n) I J (fr_pi (fun x I' J' => (f_W_holdsBack I r p1) = x ∧ I = I' ∧ J = J')) := by
  refine fr_ct (by decide) rfl rfl (Nat.le_of_ble_eq_true rfl) rfl (fun E => ?_)
  refine fr_aload_n d_W_holdsBack_0 rfl ?_
  refine fr_geti d_W_holdsBack_1 fl_W_50 rfl rfl (Or.inl ⟨rfl, hr⟩) ?_
  refine fr_iconst d_W_holdsBack_4 fr_i1 ?_
  refine fr_iand d_W_holdsBack_5 ?_
  refine fr_iconst d_W_holdsBack_6 fr_i1 ?_
  refine fr_icmp_ne 25 d_W_holdsBack_7 rfl (fun h1 => ?_) (fun h1 => ?_)
  · skip
    refine fr_iconst d_W_holdsBack_25 fr_i0 ?_
    exact fr_iret d_W_holdsBack_26 rfl (fr_nar_b (Or.inl rfl)) (Nat.zero_le _) (Nat.zero_le _) ⟨(by unfold f_W_holdsBack; rw [if_neg h1]), rfl, rfl⟩
  · skip
    refine fr_iload_n d_W_holdsBack_10 rfl ?_
    refine fr_aload_n d_W_holdsBack_11 rfl ?_
    refine fr_geti d_W_holdsBack_12 fl_W_53 rfl rfl (Or.inl ⟨rfl, hr⟩) ?_
    refine fr_isub d_W_holdsBack_15 ?_
    refine fr_bipush d_W_holdsBack_16 fr_b12 ?_
    refine fr_icmp_gt 25 d_W_holdsBack_18 rfl (fun h2 => ?_) (fun h2 => ?_)
    · skip
      refine fr_iconst d_W_holdsBack_25 fr_i0 ?_
      exact fr_iret d_W_holdsBack_26 rfl (fr_nar_b (Or.inl rfl)) (Nat.zero_le _) (Nat.zero_le _) ⟨(by unfold f_W_holdsBack; rw [if_pos h1, if_pos h2]), rfl, rfl⟩
    · skip
      refine fr_iconst d_W_holdsBack_21 fr_i1 ?_
      refine fr_goto 26 d_W_holdsBack_22 rfl ?_
      exact fr_iret d_W_holdsBack_26 rfl (fr_nar_b (Or.inr rfl)) (Nat.zero_le _) (Nat.zero_le _) ⟨(by unfold f_W_holdsBack; rw [if_pos h1, if_neg h2]), rfl, rfl⟩
def f_W_send (I : fr_I) (r : Nat) (p1 : Int32) (p2 : Int32) : fr_I :=
  if ((fr_ui I 12 r (((f_W_placeOf I p2)).toNatClampNeg) p1) 11 r 3) = 0 then
    (fr_ui (fr_ui I 12 r (((f_W_placeOf I p2)).toNatClampNeg) p1) 13 r (((f_W_placeOf I p2)).toNatClampNeg) 0)
  else
    (fr_ui (fr_ui I 12 r (((f_W_placeOf I p2)).toNatClampNeg) p1) 13 r (((f_W_placeOf I p2)).toNatClampNeg) (p2 + ((fr_ui I 12 r (((f_W_placeOf I p2)).toNatClampNeg) p1) 11 r 3)))
set_option maxRecDepth 10000 in
theorem ct_W_send (X : fr_X) (n : Nat) (r : Nat) (hr : r < n) (I : fr_I) (J : fr_J) (p1 : Int32) (p2 : Int32) : fr_Ct X y_W_send c_W_send 4 none (fr_rm 1) [.ref (fr_ad X 11 r), .int p1, .int p2] (fr_Z0 X n) (fr_Z0 X n) I J (fr_pv (fun I' J' => (f_W_send I r p1 p2) = I' ∧ J = J')) := by
  refine fr_ct (by decide) rfl rfl (Nat.le_of_ble_eq_true rfl) rfl (fun E => ?_)
  refine fr_iload_n d_W_send_0 rfl ?_
  refine fr_callSi d_W_send_1 (ct_W_placeOf X n _ _ _) ms_W_27 rfl rfl ⟨Nat.le_of_ble_eq_true rfl, Nat.le_of_ble_eq_true rfl⟩ ⟨rfl, rfl⟩ ⟨Nat.zero_le _, Nat.zero_le _⟩ (Nat.le_of_ble_eq_true rfl) (fun x I' J' hp1 => ?_)
  obtain ⟨rfl, rfl, rfl⟩ := hp1
  refine fr_istore_n (L' := [(3, .int _), (0, .ref _), (1, .int _), (2, .int _)]) d_W_send_4 (by decide) rfl ?_
  refine fr_aload_n d_W_send_5 rfl ?_
  refine fr_getr (k' := 12) (r' := r) d_W_send_6 fl_W_9 rfl rfl rfl (Or.inl ⟨rfl, hr⟩) ?_
  refine fr_iload_n d_W_send_9 rfl ?_
  refine fr_iload_n d_W_send_10 rfl ?_
  refine fr_iast (((f_W_placeOf I p2)).toNatClampNeg) d_W_send_11 rfl rfl (Or.inl ⟨rfl, hr⟩) (fr_and7_eq _) (fr_and7_lt _) (by decide) ?_
  refine fr_aload_n d_W_send_12 rfl ?_
  refine fr_getr (k' := 13) (r' := r) d_W_send_13 fl_W_13 rfl rfl rfl (Or.inl ⟨rfl, hr⟩) ?_
  refine fr_iload_n d_W_send_16 rfl ?_
  refine fr_aload_n d_W_send_17 rfl ?_
  refine fr_geti d_W_send_18 fl_W_16 rfl rfl (Or.inl ⟨rfl, hr⟩) ?_
  refine fr_if_ne 28 d_W_send_21 rfl (fun h2 => ?_) (fun h2 => ?_)
  · skip
    refine fr_iload_n d_W_send_28 rfl ?_
    refine fr_aload_n d_W_send_29 rfl ?_
    refine fr_geti d_W_send_30 fl_W_16 rfl rfl (Or.inl ⟨rfl, hr⟩) ?_
    refine fr_iadd d_W_send_33 ?_
    refine fr_iast (((f_W_placeOf I p2)).toNatClampNeg) d_W_send_34 rfl rfl (Or.inl ⟨rfl, hr⟩) (fr_and7_eq _) (fr_and7_lt _) (by decide) ?_
    exact fr_vret d_W_send_35 rfl (Nat.zero_le _) (Nat.zero_le _) ⟨(by unfold f_W_send; rw [if_neg h2]), rfl⟩
  · skip
    refine fr_iconst d_W_send_24 fr_i0 ?_
    refine fr_goto 34 d_W_send_25 rfl ?_
    refine fr_iast (((f_W_placeOf I p2)).toNatClampNeg) d_W_send_34 rfl rfl (Or.inl ⟨rfl, hr⟩) (fr_and7_eq _) (fr_and7_lt _) (by decide) ?_
    exact fr_vret d_W_send_35 rfl (Nat.zero_le _) (Nat.zero_le _) ⟨(by unfold f_W_send; rw [if_pos h2]), rfl⟩
theorem fw_W_send {n : Nat} {I : fr_I} {r : Nat} {p1 : Int32} {p2 : Int32} (hw : fr_wf n I) : fr_wf n (f_W_send I r p1 p2) := by
  unfold f_W_send
  refine fw_ite (fun h => ?_) (fun h => ?_)
  · skip
    exact (fw_ui (k := 13) rfl (fw_ui (k := 12) rfl hw))
  · skip
    exact (fw_ui (k := 13) rfl (fw_ui (k := 12) rfl hw))
theorem fc_W_send {P : fr_I → Prop} (hP : fr_cst P) {I : fr_I} {r : Nat} {p1 : Int32} {p2 : Int32} (h : P I) : P (f_W_send I r p1 p2) := by
  unfold f_W_send
  refine fw_ite (fun _ => ?_) (fun _ => ?_)
  · skip
    exact (hP (k := 13) (by decide) (hP (k := 12) (by decide) h))
  · skip
    exact (hP (k := 13) (by decide) (hP (k := 12) (by decide) h))
def f_W_report (I : fr_I) (r : Nat) (p1 : Int32) (p2 : Int32) (p3 : Int32) : fr_I :=
  if p3 = 0 then
    if (I 11 r 8) = 0 then
      I
    else
      if p1 < (I 11 r 8) then
        I
      else
        if ((fr_ui (fr_ui I 11 r 7 (if 8 < (2 * (I 11 r 7)) then 8 else (2 * (I 11 r 7)))) 11 r 8 (p1 + ((fr_ui I 11 r 7 (if 8 < (2 * (I 11 r 7)) then 8 else (2 * (I 11 r 7)))) 11 r 7))) 11 r 0) = 0 then
          (fr_ui (fr_ui I 11 r 7 (if 8 < (2 * (I 11 r 7)) then 8 else (2 * (I 11 r 7)))) 11 r 8 (p1 + ((fr_ui I 11 r 7 (if 8 < (2 * (I 11 r 7)) then 8 else (2 * (I 11 r 7)))) 11 r 7)))
        else
          (f_W_send ((fr_ui (fr_ui I 11 r 7 (if 8 < (2 * (I 11 r 7)) then 8 else (2 * (I 11 r 7)))) 11 r 8 (p1 + ((fr_ui I 11 r 7 (if 8 < (2 * (I 11 r 7)) then 8 else (2 * (I 11 r 7)))) 11 r 7)))) r ((2 * ((fr_ui (fr_ui I 11 r 7 (if 8 < (2 * (I 11 r 7)) then 8 else (2 * (I 11 r 7)))) 11 r 8 (p1 + ((fr_ui I 11 r 7 (if 8 < (2 * (I 11 r 7)) then 8 else (2 * (I 11 r 7)))) 11 r 7))) 11 r 4)) + (if p2 = 0 then (0 : Int32) else 1)) p1)
  else
    if ((fr_ui (fr_ui (fr_ui I 11 r 4 ((I 11 r 4) + 1)) 11 r 7 1) 11 r 8 (p1 + ((fr_ui (fr_ui I 11 r 4 ((I 11 r 4) + 1)) 11 r 7 1) 11 r 7))) 11 r 0) = 0 then
      (fr_ui (fr_ui (fr_ui I 11 r 4 ((I 11 r 4) + 1)) 11 r 7 1) 11 r 8 (p1 + ((fr_ui (fr_ui I 11 r 4 ((I 11 r 4) + 1)) 11 r 7 1) 11 r 7)))
    else
      (f_W_send ((fr_ui (fr_ui (fr_ui I 11 r 4 ((I 11 r 4) + 1)) 11 r 7 1) 11 r 8 (p1 + ((fr_ui (fr_ui I 11 r 4 ((I 11 r 4) + 1)) 11 r 7 1) 11 r 7)))) r ((2 * ((fr_ui (fr_ui (fr_ui I 11 r 4 ((I 11 r 4) + 1)) 11 r 7 1) 11 r 8 (p1 + ((fr_ui (fr_ui I 11 r 4 ((I 11 r 4) + 1)) 11 r 7 1) 11 r 7))) 11 r 4)) + (if p2 = 0 then (0 : Int32) else 1)) p1)
set_option maxRecDepth 10000 in
theorem ct_W_report (X : fr_X) (n : Nat) (r : Nat) (hr : r < n) (I : fr_I) (J : fr_J) (p1 : Int32) (p2 : Int32) (p3 : Int32) : fr_Ct X y_W_report c_W_report 4 none (fr_rm 2) [.ref (fr_ad X 11 r), .int p1, .int p2, .int p3] (fr_Z0 X n) (fr_Z0 X n) I J (fr_pv (fun I' J' => (f_W_report I r p1 p2 p3) = I' ∧ J = J')) := by
  refine fr_ct (by decide) rfl rfl (Nat.le_of_ble_eq_true rfl) rfl (fun E => ?_)
  refine fr_iload_n d_W_report_0 rfl ?_
  refine fr_if_eq 22 d_W_report_1 rfl (fun h1 => ?_) (fun h1 => ?_)
  · skip
    refine fr_aload_n d_W_report_22 rfl ?_
    refine fr_geti d_W_report_23 fl_W_20 rfl rfl (Or.inl ⟨rfl, hr⟩) ?_
    refine fr_if_eq 55 d_W_report_26 rfl (fun h2 => ?_) (fun h2 => ?_)
    · skip
      exact fr_vret d_W_report_55 rfl (Nat.zero_le _) (Nat.zero_le _) ⟨(by unfold f_W_report; rw [if_pos h1, if_pos h2]), rfl⟩
    · skip
      refine fr_iload_n d_W_report_29 rfl ?_
      refine fr_aload_n d_W_report_30 rfl ?_
      refine fr_geti d_W_report_31 fl_W_20 rfl rfl (Or.inl ⟨rfl, hr⟩) ?_
      refine fr_icmp_lt 55 d_W_report_34 rfl (fun h3 => ?_) (fun h3 => ?_)
      · skip
        exact fr_vret d_W_report_55 rfl (Nat.zero_le _) (Nat.zero_le _) ⟨(by unfold f_W_report; rw [if_pos h1, if_neg h2, if_pos h3]), rfl⟩
      · skip
        refine fr_aload_n d_W_report_37 rfl ?_
        refine fr_iconst d_W_report_38 fr_i2 ?_
        refine fr_aload_n d_W_report_39 rfl ?_
        refine fr_geti d_W_report_40 fl_W_38 rfl rfl (Or.inl ⟨rfl, hr⟩) ?_
        refine fr_imul d_W_report_43 ?_
        refine fr_bipush d_W_report_44 fr_b8 ?_
        refine fr_mmin d_W_report_46 ml_W_41 mw_min1 mw_min2 mw_min3 (Nat.le_of_ble_eq_true rfl) (Nat.le_of_ble_eq_true rfl) (Nat.zero_le _) (Nat.zero_le _) ?_
        refine fr_puti d_W_report_49 fl_W_38 rfl rfl (Or.inl ⟨rfl, hr⟩) ?_
        refine fr_goto 56 d_W_report_52 rfl ?_
        refine fr_aload_n d_W_report_56 rfl ?_
        refine fr_iload_n d_W_report_57 rfl ?_
        refine fr_aload_n d_W_report_58 rfl ?_
        refine fr_geti d_W_report_59 fl_W_38 rfl rfl (Or.inl ⟨rfl, hr⟩) ?_
        refine fr_iadd d_W_report_62 ?_
        refine fr_puti d_W_report_63 fl_W_20 rfl rfl (Or.inl ⟨rfl, hr⟩) ?_
        refine fr_aload_n d_W_report_66 rfl ?_
        refine fr_geti d_W_report_67 fl_W_23 rfl rfl (Or.inl ⟨rfl, hr⟩) ?_
        refine fr_if_eq 94 d_W_report_70 rfl (fun h4 => ?_) (fun h4 => ?_)
        · skip
          exact fr_vret d_W_report_94 rfl (Nat.zero_le _) (Nat.zero_le _) ⟨(by unfold f_W_report; rw [if_pos h1, if_neg h2, if_neg h3, if_pos h4]), rfl⟩
        · skip
          refine fr_aload_n d_W_report_73 rfl ?_
          refine fr_iconst d_W_report_74 fr_i2 ?_
          refine fr_aload_n d_W_report_75 rfl ?_
          refine fr_geti d_W_report_76 fl_W_35 rfl rfl (Or.inl ⟨rfl, hr⟩) ?_
          refine fr_imul d_W_report_79 ?_
          refine fr_iload_n d_W_report_80 rfl ?_
          refine fr_tif_eq (t := 88) (j := 89) d_W_report_81 rfl (fun k => fr_iconst d_W_report_84 fr_i1 (fr_goto 89 d_W_report_85 rfl k)) (fun k => fr_iconst d_W_report_88 fr_i0 k) ?_
          refine fr_iadd d_W_report_89 ?_
          refine fr_iload_n d_W_report_90 rfl ?_
          refine fr_callVv fr_q5 d_W_report_91 (ct_W_send X n r hr _ _ _ _) mv_W_47 rfl rfl rfl (Or.inl ⟨rfl, hr⟩) rfl rfl ⟨Nat.le_of_ble_eq_true rfl, Nat.le_of_ble_eq_true rfl⟩ ⟨rfl, rfl⟩ ⟨Nat.zero_le _, Nat.zero_le _⟩ (Nat.le_of_ble_eq_true rfl) (fun I' J' hp5 => ?_)
          obtain ⟨rfl, rfl⟩ := hp5
          exact fr_vret d_W_report_94 rfl (Nat.zero_le _) (Nat.zero_le _) ⟨(by unfold f_W_report; rw [if_pos h1, if_neg h2, if_neg h3, if_neg h4]), rfl⟩
  · skip
    refine fr_aload_n d_W_report_4 rfl ?_
    refine fr_dup d_W_report_5 rfl ?_
    refine fr_geti d_W_report_6 fl_W_35 rfl rfl (Or.inl ⟨rfl, hr⟩) ?_
    refine fr_iconst d_W_report_9 fr_i1 ?_
    refine fr_iadd d_W_report_10 ?_
    refine fr_puti d_W_report_11 fl_W_35 rfl rfl (Or.inl ⟨rfl, hr⟩) ?_
    refine fr_aload_n d_W_report_14 rfl ?_
    refine fr_iconst d_W_report_15 fr_i1 ?_
    refine fr_puti d_W_report_16 fl_W_38 rfl rfl (Or.inl ⟨rfl, hr⟩) ?_
    refine fr_goto 56 d_W_report_19 rfl ?_
    refine fr_aload_n d_W_report_56 rfl ?_
    refine fr_iload_n d_W_report_57 rfl ?_
    refine fr_aload_n d_W_report_58 rfl ?_
    refine fr_geti d_W_report_59 fl_W_38 rfl rfl (Or.inl ⟨rfl, hr⟩) ?_
    refine fr_iadd d_W_report_62 ?_
    refine fr_puti d_W_report_63 fl_W_20 rfl rfl (Or.inl ⟨rfl, hr⟩) ?_
    refine fr_aload_n d_W_report_66 rfl ?_
    refine fr_geti d_W_report_67 fl_W_23 rfl rfl (Or.inl ⟨rfl, hr⟩) ?_
    refine fr_if_eq 94 d_W_report_70 rfl (fun h6 => ?_) (fun h6 => ?_)
    · skip
      exact fr_vret d_W_report_94 rfl (Nat.zero_le _) (Nat.zero_le _) ⟨(by unfold f_W_report; rw [if_neg h1, if_pos h6]), rfl⟩
    · skip
      refine fr_aload_n d_W_report_73 rfl ?_
      refine fr_iconst d_W_report_74 fr_i2 ?_
      refine fr_aload_n d_W_report_75 rfl ?_
      refine fr_geti d_W_report_76 fl_W_35 rfl rfl (Or.inl ⟨rfl, hr⟩) ?_
      refine fr_imul d_W_report_79 ?_
      refine fr_iload_n d_W_report_80 rfl ?_
      refine fr_tif_eq (t := 88) (j := 89) d_W_report_81 rfl (fun k => fr_iconst d_W_report_84 fr_i1 (fr_goto 89 d_W_report_85 rfl k)) (fun k => fr_iconst d_W_report_88 fr_i0 k) ?_
      refine fr_iadd d_W_report_89 ?_
      refine fr_iload_n d_W_report_90 rfl ?_
      refine fr_callVv fr_q5 d_W_report_91 (ct_W_send X n r hr _ _ _ _) mv_W_47 rfl rfl rfl (Or.inl ⟨rfl, hr⟩) rfl rfl ⟨Nat.le_of_ble_eq_true rfl, Nat.le_of_ble_eq_true rfl⟩ ⟨rfl, rfl⟩ ⟨Nat.zero_le _, Nat.zero_le _⟩ (Nat.le_of_ble_eq_true rfl) (fun I' J' hp7 => ?_)
      obtain ⟨rfl, rfl⟩ := hp7
      exact fr_vret d_W_report_94 rfl (Nat.zero_le _) (Nat.zero_le _) ⟨(by unfold f_W_report; rw [if_neg h1, if_neg h6]), rfl⟩
theorem fw_W_report {n : Nat} {I : fr_I} {r : Nat} {p1 : Int32} {p2 : Int32} {p3 : Int32} (hw : fr_wf n I) : fr_wf n (f_W_report I r p1 p2 p3) := by
  unfold f_W_report
  refine fw_ite (fun h => ?_) (fun h => ?_)
  · skip
    refine fw_ite (fun h => ?_) (fun h => ?_)
    · skip
      exact hw
    · skip
      refine fw_ite (fun h => ?_) (fun h => ?_)
      · skip
        exact hw
      · skip
        refine fw_ite (fun h => ?_) (fun h => ?_)
        · skip
          exact (fw_ui (k := 11) (j := 8) rfl (fw_ui (k := 11) (j := 7) rfl hw))
        · skip
          exact (fw_W_send (fw_ui (k := 11) (j := 8) rfl (fw_ui (k := 11) (j := 7) rfl hw)))
  · skip
    refine fw_ite (fun h => ?_) (fun h => ?_)
    · skip
      exact (fw_ui (k := 11) (j := 8) rfl (fw_ui (k := 11) (j := 7) rfl (fw_ui (k := 11) (j := 4) rfl hw)))
    · skip
      exact (fw_W_send (fw_ui (k := 11) (j := 8) rfl (fw_ui (k := 11) (j := 7) rfl (fw_ui (k := 11) (j := 4) rfl hw))))
theorem fc_W_report {P : fr_I → Prop} (hP : fr_cst P) {I : fr_I} {r : Nat} {p1 : Int32} {p2 : Int32} {p3 : Int32} (h : P I) : P (f_W_report I r p1 p2 p3) := by
  unfold f_W_report
  refine fw_ite (fun _ => ?_) (fun _ => ?_)
  · skip
    refine fw_ite (fun _ => ?_) (fun _ => ?_)
    · skip
      exact h
    · skip
      refine fw_ite (fun _ => ?_) (fun _ => ?_)
      · skip
        exact h
      · skip
        refine fw_ite (fun _ => ?_) (fun _ => ?_)
        · skip
          exact (hP (k := 11) (by decide) (hP (k := 11) (by decide) h))
        · skip
          exact (fc_W_send hP (hP (k := 11) (by decide) (hP (k := 11) (by decide) h)))
  · skip
    refine fw_ite (fun _ => ?_) (fun _ => ?_)
    · skip
      exact (hP (k := 11) (by decide) (hP (k := 11) (by decide) (hP (k := 11) (by decide) h)))
    · skip
      exact (fc_W_send hP (hP (k := 11) (by decide) (hP (k := 11) (by decide) (hP (k := 11) (by decide) h))))
def f_W_forget (I : fr_I) (r : Nat) : fr_I :=
  (fr_ui (fr_ui (fr_ui (f_A_fill_13 I r 0) 11 r 4 0) 11 r 5 0) 11 r 8 0)
set_option maxRecDepth 10000 in
theorem ct_W_forget (X : fr_X) (n : Nat) (r : Nat) (hr : r < n) (I : fr_I) (J : fr_J) : fr_Ct X y_W_forget c_W_forget 1 none (fr_rm 1) [.ref (fr_ad X 11 r)] (fr_Z0 X n) (fr_Z0 X n) I J (fr_pv (fun I' J' => (f_W_forget I r) = I' ∧ J = J')) := by
  refine fr_ct (by decide) rfl rfl (Nat.le_of_ble_eq_true rfl) rfl (fun E => ?_)
  refine fr_aload_n d_W_forget_0 rfl ?_
  refine fr_getr (k' := 13) (r' := r) d_W_forget_1 fl_W_13 rfl rfl rfl (Or.inl ⟨rfl, hr⟩) ?_
  refine fr_iconst d_W_forget_4 fr_i0 ?_
  refine fr_callSv d_W_forget_5 (ct_A_fill_13 X n r hr _ _ _) ms_W_56 rfl rfl ⟨Nat.le_of_ble_eq_true rfl, Nat.le_of_ble_eq_true rfl⟩ ⟨rfl, rfl⟩ ⟨Nat.zero_le _, Nat.zero_le _⟩ (Nat.le_of_ble_eq_true rfl) (fun I' J' hp1 => ?_)
  obtain ⟨rfl, rfl⟩ := hp1
  refine fr_aload_n d_W_forget_8 rfl ?_
  refine fr_iconst d_W_forget_9 fr_i0 ?_
  refine fr_puti d_W_forget_10 fl_W_35 rfl rfl (Or.inl ⟨rfl, hr⟩) ?_
  refine fr_aload_n d_W_forget_13 rfl ?_
  refine fr_iconst d_W_forget_14 fr_i0 ?_
  refine fr_puti d_W_forget_15 fl_W_50 rfl rfl (Or.inl ⟨rfl, hr⟩) ?_
  refine fr_aload_n d_W_forget_18 rfl ?_
  refine fr_iconst d_W_forget_19 fr_i0 ?_
  refine fr_puti d_W_forget_20 fl_W_20 rfl rfl (Or.inl ⟨rfl, hr⟩) ?_
  exact fr_vret d_W_forget_23 rfl (Nat.zero_le _) (Nat.zero_le _) ⟨rfl, rfl⟩
theorem fw_W_forget {n : Nat} {I : fr_I} {r : Nat} (hw : fr_wf n I) : fr_wf n (f_W_forget I r) := by
  unfold f_W_forget
  exact (fw_ui (k := 11) (j := 8) rfl (fw_ui (k := 11) (j := 5) rfl (fw_ui (k := 11) (j := 4) rfl (fw_A_fill_13 hw))))
theorem fc_W_forget {P : fr_I → Prop} (hP : fr_cst P) {I : fr_I} {r : Nat} (h : P I) : P (f_W_forget I r) := by
  unfold f_W_forget
  exact (hP (k := 11) (by decide) (hP (k := 11) (by decide) (hP (k := 11) (by decide) (fc_A_fill_13 hP h))))
def fb_W_deliver (r : Nat) (p1 : Int32) (I : fr_I) (i : Nat) : fr_I :=
  if (I 13 r (((f_W_placeOf I (p1 + (nI i)))).toNatClampNeg)) = p1 then
    (f_W_learn I r (I 12 r (((f_W_placeOf I (p1 + (nI i)))).toNatClampNeg)) p1)
  else
    I
theorem fb_W_deliver_eq (r : Nat) (p1 : Int32) (I : fr_I) (i : Nat) : fb_W_deliver r p1 I i =
  if (I 13 r (((f_W_placeOf I (p1 + (nI i)))).toNatClampNeg)) = p1 then
    (f_W_learn I r (I 12 r (((f_W_placeOf I (p1 + (nI i)))).toNatClampNeg)) p1)
  else
    I := rfl
theorem fw_fb_W_deliver {n : Nat} {r : Nat} {p1 : Int32} {I : fr_I} {i : Nat} (hw : fr_wf n I) : fr_wf n (fb_W_deliver r p1 I i) := by
  unfold fb_W_deliver
  refine fw_ite (fun h => ?_) (fun h => ?_)
  · skip
    exact (fw_W_learn hw)
  · skip
    exact hw
theorem fc_fb_W_deliver {P : fr_I → Prop} (hP : fr_cst P) {r : Nat} {p1 : Int32} {I : fr_I} {i : Nat} (h : P I) : P (fb_W_deliver r p1 I i) := by
  unfold fb_W_deliver
  refine fw_ite (fun _ => ?_) (fun _ => ?_)
  · skip
    exact (fc_W_learn hP h)
  · skip
    exact h
def f_W_deliver (I : fr_I) (r : Nat) (p1 : Int32) : fr_I :=
  (fr_it (fb_W_deliver r p1) I 8)
set_option maxRecDepth 10000 in
theorem ct_W_deliver (X : fr_X) (n : Nat) (r : Nat) (hr : r < n) (I : fr_I) (J : fr_J) (p1 : Int32) : fr_Ct X y_W_deliver c_W_deliver 4 none (fr_rm 1) [.ref (fr_ad X 11 r), .int p1] (fr_Z0 X n) (fr_Z0 X n) I J (fr_pv (fun I' J' => (f_W_deliver I r p1) = I' ∧ J = J')) := by
  refine fr_ct (by decide) rfl rfl (Nat.le_of_ble_eq_true rfl) rfl (fun E => ?_)
  refine fr_iconst d_W_deliver_0 fr_i0 ?_
  refine fr_istore_n (L' := [(2, .int _), (0, .ref _), (1, .int _)]) d_W_deliver_1 (by decide) rfl ?_
  refine fr_pick (L' := [(2, .int _), (0, .ref _), (1, .int _)]) [0, 1, 2] rfl ?_
  refine fr_loop (fr_it (fb_W_deliver r p1) I) (fun _ => J) (fun i => [(2, .int (nI i)), (0, .ref (fr_ad X 11 r)), (1, .int p1)]) 8 rfl fr_it_0 rfl ?_ (fun i hi ih => ?_)
  · skip
    refine fr_iload_n d_W_deliver_2 rfl ?_
    refine fr_bipush d_W_deliver_3 fr_b8 ?_
    refine fr_icmp_ge 42 d_W_deliver_5 rfl (fun _ => ?_) (fun h => absurd (by decide) h)
    exact fr_vret d_W_deliver_42 rfl (Nat.zero_le _) (Nat.zero_le _) ⟨rfl, rfl⟩
  · skip
    refine fr_iload_n d_W_deliver_2 rfl ?_
    refine fr_bipush d_W_deliver_3 fr_b8 ?_
    refine fr_icmp_ge 42 d_W_deliver_5 rfl (fun h => absurd h (fr_nge (by decide) hi)) (fun _ => ?_)
    refine fr_iload_n d_W_deliver_8 rfl ?_
    refine fr_iload_n d_W_deliver_9 rfl ?_
    refine fr_iadd d_W_deliver_10 ?_
    refine fr_callSi d_W_deliver_11 (ct_W_placeOf X n _ _ _) ms_W_27 rfl rfl ⟨Nat.le_of_ble_eq_true rfl, Nat.le_of_ble_eq_true rfl⟩ ⟨rfl, rfl⟩ ⟨Nat.zero_le _, Nat.zero_le _⟩ (Nat.le_of_ble_eq_true rfl) (fun x I' J' hp1 => ?_)
    obtain ⟨rfl, rfl, rfl⟩ := hp1
    refine fr_istore_n (L' := [(3, .int _), (2, .int _), (0, .ref _), (1, .int _)]) d_W_deliver_14 (by decide) rfl ?_
    refine fr_aload_n d_W_deliver_15 rfl ?_
    refine fr_getr (k' := 13) (r' := r) d_W_deliver_16 fl_W_13 rfl rfl rfl (Or.inl ⟨rfl, hr⟩) ?_
    refine fr_iload_n d_W_deliver_19 rfl ?_
    refine fr_iald (((f_W_placeOf ((fr_it (fb_W_deliver r p1) I i)) (p1 + (nI i)))).toNatClampNeg) d_W_deliver_20 rfl rfl (Or.inl ⟨rfl, hr⟩) (fr_and7_eq _) (fr_and7_lt _) (by decide) ?_
    refine fr_iload_n d_W_deliver_21 rfl ?_
    refine fr_icmp_ne 36 d_W_deliver_22 rfl (fun h2 => ?_) (fun h2 => ?_)
    · skip
      refine fr_iinc (v := (nI (i + 1))) (L' := [(2, .int _), (3, .int _), (0, .ref _), (1, .int _)]) d_W_deliver_36 rfl (fr_inc _) (by decide) rfl ?_
      refine fr_goto 2 d_W_deliver_39 rfl ?_
      refine fr_pick (L' := [(2, .int _), (0, .ref _), (1, .int _)]) [0, 2, 3] rfl ?_
      refine fr_eqI (I' := fr_it (fb_W_deliver r p1) I (i + 1)) (Eq.symm (by rw [fr_it_s, fb_W_deliver_eq, if_neg h2])) rfl ?_
      exact ih
    · skip
      refine fr_aload_n d_W_deliver_25 rfl ?_
      refine fr_aload_n d_W_deliver_26 rfl ?_
      refine fr_getr (k' := 12) (r' := r) d_W_deliver_27 fl_W_9 rfl rfl rfl (Or.inl ⟨rfl, hr⟩) ?_
      refine fr_iload_n d_W_deliver_30 rfl ?_
      refine fr_iald (((f_W_placeOf ((fr_it (fb_W_deliver r p1) I i)) (p1 + (nI i)))).toNatClampNeg) d_W_deliver_31 rfl rfl (Or.inl ⟨rfl, hr⟩) (fr_and7_eq _) (fr_and7_lt _) (by decide) ?_
      refine fr_iload_n d_W_deliver_32 rfl ?_
      refine fr_callVv fr_q5 d_W_deliver_33 (ct_W_learn X n r hr _ _ _ _) mv_W_31 rfl rfl rfl (Or.inl ⟨rfl, hr⟩) rfl rfl ⟨Nat.le_of_ble_eq_true rfl, Nat.le_of_ble_eq_true rfl⟩ ⟨rfl, rfl⟩ ⟨Nat.zero_le _, Nat.zero_le _⟩ (Nat.le_of_ble_eq_true rfl) (fun I' J' hp3 => ?_)
      obtain ⟨rfl, rfl⟩ := hp3
      refine fr_iinc (v := (nI (i + 1))) (L' := [(2, .int _), (3, .int _), (0, .ref _), (1, .int _)]) d_W_deliver_36 rfl (fr_inc _) (by decide) rfl ?_
      refine fr_goto 2 d_W_deliver_39 rfl ?_
      refine fr_pick (L' := [(2, .int _), (0, .ref _), (1, .int _)]) [0, 2, 3] rfl ?_
      refine fr_eqI (I' := fr_it (fb_W_deliver r p1) I (i + 1)) (Eq.symm (by rw [fr_it_s, fb_W_deliver_eq, if_pos h2])) rfl ?_
      exact ih
theorem fw_W_deliver {n : Nat} {I : fr_I} {r : Nat} {p1 : Int32} (hw : fr_wf n I) : fr_wf n (f_W_deliver I r p1) := by
  unfold f_W_deliver
  exact (fw_it 8 (fun I i hi hw => fw_fb_W_deliver  hw) hw 8 (Nat.le_refl _))
theorem fc_W_deliver {P : fr_I → Prop} (hP : fr_cst P) {I : fr_I} {r : Nat} {p1 : Int32} (h : P I) : P (f_W_deliver I r p1) := by
  unfold f_W_deliver
  exact (fw_it 8 (fun I i hi h => fc_fb_W_deliver hP h) h 8 (Nat.le_refl _))
