def f_J_add (I : fr_I) (p1 : Int32) (p2 : Int32) (p3 : Int32) : fr_I :=
  if 200 ≤ (I 4 0 2) then
    I
  else
    (fr_ui (fr_ui (fr_ui I 5 0 ((I 4 0 2).toNatClampNeg) (p1 + (8 * p2))) 6 0 ((I 4 0 2).toNatClampNeg) p3) 4 0 2 (((fr_ui (fr_ui I 5 0 ((I 4 0 2).toNatClampNeg) (p1 + (8 * p2))) 6 0 ((I 4 0 2).toNatClampNeg) p3) 4 0 2) + 1))
set_option maxRecDepth 10000 in
theorem ct_J_add (X : fr_X) (n : Nat) (I : fr_I) (J : fr_J) (p1 : Int32) (p2 : Int32) (p3 : Int32) (hw : fr_wf n I) : fr_Ct X y_J_add c_J_add 4 none (fr_rm 0) [.ref (fr_ad X 4 0), .int p1, .int p2, .int p3] (fr_Z0 X n) (fr_Z0 X n) I J (fr_pv (fun I' J' => (f_J_add I p1 p2 p3) = I' ∧ J = J')) := by
  refine fr_ct (by decide) rfl rfl (Nat.le_of_ble_eq_true rfl) rfl (fun E => ?_)
  refine fr_aload_n d_J_add_0 rfl ?_
  refine fr_geti d_J_add_1 fl_J_16 rfl rfl (Or.inr ⟨rfl, rfl⟩) ?_
  refine fr_sipush d_J_add_4 fr_s200 ?_
  refine fr_icmp_ge 45 d_J_add_7 rfl (fun h1 => ?_) (fun h1 => ?_)
  · skip
    exact fr_vret d_J_add_45 rfl (Nat.zero_le _) (Nat.zero_le _) ⟨(by unfold f_J_add; rw [if_pos h1]), rfl⟩
  · skip
    refine fr_aload_n d_J_add_10 rfl ?_
    refine fr_getr (k' := 5) (r' := 0) d_J_add_11 fl_J_9 rfl rfl rfl (Or.inr ⟨rfl, rfl⟩) ?_
    refine fr_aload_n d_J_add_14 rfl ?_
    refine fr_geti d_J_add_15 fl_J_16 rfl rfl (Or.inr ⟨rfl, rfl⟩) ?_
    refine fr_iload_n d_J_add_18 rfl ?_
    refine fr_bipush d_J_add_19 fr_b8 ?_
    refine fr_iload_n d_J_add_21 rfl ?_
    refine fr_imul d_J_add_22 ?_
    refine fr_iadd d_J_add_23 ?_
    refine fr_iast ((I 4 0 2).toNatClampNeg) d_J_add_24 rfl rfl (Or.inr ⟨rfl, rfl⟩) (fw_rec_eq hw) (fw_rec_lt hw h1) (by decide) ?_
    refine fr_aload_n d_J_add_25 rfl ?_
    refine fr_getr (k' := 6) (r' := 0) d_J_add_26 fl_J_13 rfl rfl rfl (Or.inr ⟨rfl, rfl⟩) ?_
    refine fr_aload_n d_J_add_29 rfl ?_
    refine fr_geti d_J_add_30 fl_J_16 rfl rfl (Or.inr ⟨rfl, rfl⟩) ?_
    refine fr_iload_n d_J_add_33 rfl ?_
    refine fr_iast ((I 4 0 2).toNatClampNeg) d_J_add_34 rfl rfl (Or.inr ⟨rfl, rfl⟩) ((fr_ui_n (fun z => absurd z.1 (by decide))).trans (fw_rec_eq hw)) (fw_rec_lt hw h1) (by decide) ?_
    refine fr_aload_n d_J_add_35 rfl ?_
    refine fr_dup d_J_add_36 rfl ?_
    refine fr_geti d_J_add_37 fl_J_16 rfl rfl (Or.inr ⟨rfl, rfl⟩) ?_
    refine fr_iconst d_J_add_40 fr_i1 ?_
    refine fr_iadd d_J_add_41 ?_
    refine fr_puti d_J_add_42 fl_J_16 rfl rfl (Or.inr ⟨rfl, rfl⟩) ?_
    exact fr_vret d_J_add_45 rfl (Nat.zero_le _) (Nat.zero_le _) ⟨(by unfold f_J_add; rw [if_neg h1]), rfl⟩
theorem fc_J_add {P : fr_I → Prop} (hP : fr_cst P) {I : fr_I} {p1 : Int32} {p2 : Int32} {p3 : Int32} (h : P I) : P (f_J_add I p1 p2 p3) := by
  unfold f_J_add
  refine fw_ite (fun _ => ?_) (fun _ => ?_)
  · skip
    exact h
  · skip
    exact (hP (k := 4) (by decide) (hP (k := 6) (by decide) (hP (k := 5) (by decide) h)))
theorem fw_J_add {n : Nat} {I : fr_I} {p1 p2 p3 : Int32} (hw : fr_wf n I) : fr_wf n (f_J_add I p1 p2 p3) := by
  unfold f_J_add
  split
  · exact hw
  · rename_i h
    have h0 : fr_wf n (fr_ui (fr_ui I 5 0 ((I 4 0 2).toNatClampNeg) (p1 + 8 * p2)) 6 0 ((I 4 0 2).toNatClampNeg) p3) := fw_ui rfl (fw_ui rfl hw)
    have hlt := fw_rec_lt hw h
    have heq := fw_rec_eq hw
    obtain ⟨a1, a2, a3, a4, a5, a6⟩ := h0
    refine ⟨a1, (fr_ui_n (fun z => absurd z.1 (by decide))).trans a2, ?_, fun q hq => ?_, fun q hq => ?_, (by rw [fr_ui_n (fun z => absurd z.2.2 (by decide))]; exact a6)⟩
    · rw [fr_ui_s, fr_ui_n (fun z => absurd z.1 (by decide)), fr_ui_n (fun z => absurd z.1 (by decide))]
      exact ⟨(I 4 0 2).toNatClampNeg + 1, by omega, by rw [← nI_1, ← heq]⟩
    · rw [fr_ui_n (fun z => absurd z.1 (by decide))]; exact a4 q hq
    · rw [fr_ui_n (fun z => absurd z.1 (by decide))]; exact a5 q hq
def f_J_has (I : fr_I) (p1 : Int32) : Int32 :=
  if p1 < 0 then
    0
  else
    if (I 4 0 2) ≤ p1 then
      0
    else
      1
set_option maxRecDepth 10000 in
theorem ct_J_has (X : fr_X) (n : Nat) (I : fr_I) (J : fr_J) (p1 : Int32) : fr_Ct X y_J_has c_J_has 2 (some .boolean) (fr_rm 0) [.ref (fr_ad X 4 0), .int p1] (fr_Z0 X n) (fr_Z0 X n) I J (fr_pi (fun x I' J' => (f_J_has I p1) = x ∧ I = I' ∧ J = J')) := by
  refine fr_ct (by decide) rfl rfl (Nat.le_of_ble_eq_true rfl) rfl (fun E => ?_)
  refine fr_iload_n d_J_has_0 rfl ?_
  refine fr_if_lt 16 d_J_has_1 rfl (fun h1 => ?_) (fun h1 => ?_)
  · skip
    refine fr_iconst d_J_has_16 fr_i0 ?_
    exact fr_iret d_J_has_17 rfl (fr_nar_b (Or.inl rfl)) (Nat.zero_le _) (Nat.zero_le _) ⟨(by unfold f_J_has; rw [if_pos h1]), rfl, rfl⟩
  · skip
    refine fr_iload_n d_J_has_4 rfl ?_
    refine fr_aload_n d_J_has_5 rfl ?_
    refine fr_geti d_J_has_6 fl_J_16 rfl rfl (Or.inr ⟨rfl, rfl⟩) ?_
    refine fr_icmp_ge 16 d_J_has_9 rfl (fun h2 => ?_) (fun h2 => ?_)
    · skip
      refine fr_iconst d_J_has_16 fr_i0 ?_
      exact fr_iret d_J_has_17 rfl (fr_nar_b (Or.inl rfl)) (Nat.zero_le _) (Nat.zero_le _) ⟨(by unfold f_J_has; rw [if_neg h1, if_pos h2]), rfl, rfl⟩
    · skip
      refine fr_iconst d_J_has_12 fr_i1 ?_
      refine fr_goto 17 d_J_has_13 rfl ?_
      exact fr_iret d_J_has_17 rfl (fr_nar_b (Or.inr rfl)) (Nat.zero_le _) (Nat.zero_le _) ⟨(by unfold f_J_has; rw [if_neg h1, if_neg h2]), rfl, rfl⟩
def f_J_store (I : fr_I) : fr_I :=
  (fr_ui I 4 0 3 (if (I 4 0 2) < ((I 4 0 3) + 2) then (I 4 0 2) else ((I 4 0 3) + 2)))
set_option maxRecDepth 10000 in
theorem ct_J_store (X : fr_X) (n : Nat) (I : fr_I) (J : fr_J) : fr_Ct X y_J_store c_J_store 1 none (fr_rm 1) [.ref (fr_ad X 4 0)] (fr_Z0 X n) (fr_Z0 X n) I J (fr_pv (fun I' J' => (f_J_store I) = I' ∧ J = J')) := by
  refine fr_ct (by decide) rfl rfl (Nat.le_of_ble_eq_true rfl) rfl (fun E => ?_)
  refine fr_aload_n d_J_store_0 rfl ?_
  refine fr_aload_n d_J_store_1 rfl ?_
  refine fr_geti d_J_store_2 fl_J_20 rfl rfl (Or.inr ⟨rfl, rfl⟩) ?_
  refine fr_iconst d_J_store_5 fr_i2 ?_
  refine fr_iadd d_J_store_6 ?_
  refine fr_aload_n d_J_store_7 rfl ?_
  refine fr_geti d_J_store_8 fl_J_16 rfl rfl (Or.inr ⟨rfl, rfl⟩) ?_
  refine fr_mmin d_J_store_11 ml_J_23 mw_min1 mw_min2 mw_min3 (Nat.le_of_ble_eq_true rfl) (Nat.le_of_ble_eq_true rfl) (Nat.zero_le _) (Nat.zero_le _) ?_
  refine fr_puti d_J_store_14 fl_J_20 rfl rfl (Or.inr ⟨rfl, rfl⟩) ?_
  exact fr_vret d_J_store_17 rfl (Nat.zero_le _) (Nat.zero_le _) ⟨rfl, rfl⟩
theorem fw_J_store {n : Nat} {I : fr_I} (hw : fr_wf n I) : fr_wf n (f_J_store I) := by
  unfold f_J_store
  obtain ⟨a1, a2, a3, a4, a5, a6⟩ := hw
  refine ⟨a1, (fr_ui_n (fun z => absurd z.1 (by decide))).trans a2, (by rw [fr_ui_n (fun z => absurd z.2.2 (by decide))]; exact a3), fun q hq => (by rw [fr_ui_n (fun z => absurd z.1 (by decide))]; exact a4 q hq), fun q hq => (by rw [fr_ui_n (fun z => absurd z.1 (by decide))]; exact a5 q hq), ?_⟩
  rw [fr_ui_s]
  split
  · exact a3
  · rename_i h
    obtain ⟨e, he, h1⟩ := a6
    obtain ⟨e2, he2, h2⟩ := a3
    rw [h1, h2, show (2 : Int32) = nI 2 from rfl, nI_add] at h
    rw [h1, show (2 : Int32) = nI 2 from rfl, nI_add]
    have : ¬ e2 < e + 2 := fun q => h (nI_lt q (by omega))
    exact ⟨e + 2, by omega, rfl⟩
theorem fc_J_store {P : fr_I → Prop} (hP : fr_cst P) {I : fr_I} (h : P I) : P (f_J_store I) := by
  unfold f_J_store
  exact (hP (k := 4) (by decide) h)
def f_J_dropUnstored (I : fr_I) : Int32 × fr_I :=
  (((I 4 0 2) - (I 4 0 3)), (fr_ui I 4 0 2 (I 4 0 3)))
set_option maxRecDepth 10000 in
theorem ct_J_dropUnstored (X : fr_X) (n : Nat) (I : fr_I) (J : fr_J) : fr_Ct X y_J_dropUnstored c_J_dropUnstored 2 (some .int) (fr_rm 0) [.ref (fr_ad X 4 0)] (fr_Z0 X n) (fr_Z0 X n) I J (fr_pi (fun x I' J' => (f_J_dropUnstored I).1 = x ∧ (f_J_dropUnstored I).2 = I' ∧ J = J')) := by
  refine fr_ct (by decide) rfl rfl (Nat.le_of_ble_eq_true rfl) rfl (fun E => ?_)
  refine fr_aload_n d_J_dropUnstored_0 rfl ?_
  refine fr_geti d_J_dropUnstored_1 fl_J_16 rfl rfl (Or.inr ⟨rfl, rfl⟩) ?_
  refine fr_aload_n d_J_dropUnstored_4 rfl ?_
  refine fr_geti d_J_dropUnstored_5 fl_J_20 rfl rfl (Or.inr ⟨rfl, rfl⟩) ?_
  refine fr_isub d_J_dropUnstored_8 ?_
  refine fr_istore_n (L' := [(1, .int _), (0, .ref _)]) d_J_dropUnstored_9 (by decide) rfl ?_
  refine fr_aload_n d_J_dropUnstored_10 rfl ?_
  refine fr_aload_n d_J_dropUnstored_11 rfl ?_
  refine fr_geti d_J_dropUnstored_12 fl_J_20 rfl rfl (Or.inr ⟨rfl, rfl⟩) ?_
  refine fr_puti d_J_dropUnstored_15 fl_J_16 rfl rfl (Or.inr ⟨rfl, rfl⟩) ?_
  refine fr_iload_n d_J_dropUnstored_18 rfl ?_
  exact fr_iret d_J_dropUnstored_19 rfl (fr_nar_i _) (Nat.zero_le _) (Nat.zero_le _) (fr_tIx (rfl))
theorem fw_J_dropUnstored {n : Nat} {I : fr_I} (hw : fr_wf n I) : fr_wf n (f_J_dropUnstored I).2 := by
  show fr_wf n (fr_ui I 4 0 2 (I 4 0 3))
  obtain ⟨a1, a2, a3, a4, a5, a6⟩ := hw
  refine ⟨a1, (fr_ui_n (fun z => absurd z.1 (by decide))).trans a2, (by rw [fr_ui_s]; exact a6), fun q hq => (by rw [fr_ui_n (fun z => absurd z.1 (by decide))]; exact a4 q hq), fun q hq => (by rw [fr_ui_n (fun z => absurd z.1 (by decide))]; exact a5 q hq), (by rw [fr_ui_n (fun z => absurd z.2.2 (by decide))]; exact a6)⟩
theorem fc_J_dropUnstored {P : fr_I → Prop} (hP : fr_cst P) {I : fr_I} (h : P I) : P (f_J_dropUnstored I).2 := by
  unfold f_J_dropUnstored
  exact (hP (k := 4) (by decide) h)
