def f_O_known (I : fr_I) (r : Nat) : Int32 :=
  if (nI r) = 0 then
    (-1)
  else
    (I 71 0 r)
set_option maxRecDepth 10000 in
theorem ct_O_known (X : fr_X) (n : Nat) (r : Nat) (hr : r < n) (I : fr_I) (J : fr_J)  (hw : fr_mw n I) : fr_Ct X y_O_known c_O_known 2 (some .int) (fr_rm 1) [.ref (fr_ad X 20 0), .int (nI r)] (fr_Z0 X n) (fr_Z0 X n) I J (fr_pi (fun x I' J' => (f_O_known I r) = x ∧ I = I' ∧ J = J')) := by
  refine fr_ct (by decide) rfl rfl (Nat.le_of_ble_eq_true rfl) rfl (fun E => ?_)
  refine fr_aload_n d_O_known_0 rfl ?_
  refine fr_iload_n d_O_known_1 rfl ?_
  refine fr_callVi fr_q6 d_O_known_2 (ct_O_none X n _ _ _) mv_O_118 rfl rfl rfl (Or.inr ⟨rfl, rfl⟩) rfl rfl ⟨Nat.le_of_ble_eq_true rfl, Nat.le_of_ble_eq_true rfl⟩ ⟨rfl, rfl⟩ ⟨Nat.zero_le _, Nat.zero_le _⟩ (Nat.le_of_ble_eq_true rfl) (fun x I' J' hp1 => ?_)
  obtain ⟨rfl, rfl, rfl⟩ := hp1
  rw [fm_none hw hr]
  refine fr_if_ne 12 d_O_known_5 rfl (fun h => absurd h (by decide)) (fun _ => ?_)
  refine fr_iload_n d_O_known_8 rfl ?_
  refine fr_if_ne 16 d_O_known_9 rfl (fun h2 => ?_) (fun h2 => ?_)
  · skip
    refine fr_aload_n d_O_known_16 rfl ?_
    refine fr_getr (k' := 71) (r' := 0) d_O_known_17 fl_O_99 rfl rfl rfl (Or.inr ⟨rfl, rfl⟩) ?_
    refine fr_iload_n d_O_known_20 rfl ?_
    refine fr_iald (r) d_O_known_21 rfl rfl (Or.inr ⟨rfl, rfl⟩) rfl (fm_lt8 hw hr) (by decide) ?_
    exact fr_iret d_O_known_22 rfl (fr_nar_i _) (Nat.zero_le _) (Nat.zero_le _) ⟨(by unfold f_O_known; rw [if_neg h2]), rfl, rfl⟩
  · skip
    refine fr_iconst d_O_known_12 fr_im1 ?_
    refine fr_goto 22 d_O_known_13 rfl ?_
    exact fr_iret d_O_known_22 rfl (fr_nar_i _) (Nat.zero_le _) (Nat.zero_le _) ⟨(by unfold f_O_known; rw [if_pos h2]), rfl, rfl⟩
def f_O_known_no (I : fr_I) (p1 : Int32) : Int32 :=
  (-1)
set_option maxRecDepth 10000 in
theorem ct_O_known_no (X : fr_X) (n : Nat) (I : fr_I) (J : fr_J) (p1 : Int32) (hx : f_O_none I p1 = 1) : fr_Ct X y_O_known c_O_known 2 (some .int) (fr_rm 1) [.ref (fr_ad X 20 0), .int p1] (fr_Z0 X n) (fr_Z0 X n) I J (fr_pi (fun x I' J' => (f_O_known_no I p1) = x ∧ I = I' ∧ J = J')) := by
  refine fr_ct (by decide) rfl rfl (Nat.le_of_ble_eq_true rfl) rfl (fun E => ?_)
  refine fr_aload_n d_O_known_0 rfl ?_
  refine fr_iload_n d_O_known_1 rfl ?_
  refine fr_callVi fr_q6 d_O_known_2 (ct_O_none X n _ _ _) mv_O_118 rfl rfl rfl (Or.inr ⟨rfl, rfl⟩) rfl rfl ⟨Nat.le_of_ble_eq_true rfl, Nat.le_of_ble_eq_true rfl⟩ ⟨rfl, rfl⟩ ⟨Nat.zero_le _, Nat.zero_le _⟩ (Nat.le_of_ble_eq_true rfl) (fun x I' J' hp1 => ?_)
  obtain ⟨rfl, rfl, rfl⟩ := hp1
  rw [hx]
  refine fr_if_ne 12 d_O_known_5 rfl (fun _ => ?_) (fun h => absurd h (by decide))
  refine fr_iconst d_O_known_12 fr_im1 ?_
  refine fr_goto 22 d_O_known_13 rfl ?_
  exact fr_iret d_O_known_22 rfl (fr_nar_i _) (Nat.zero_le _) (Nat.zero_le _) ⟨rfl, rfl, rfl⟩
def f_O_event (I : fr_I) (q : Nat) : Int32 :=
  (I 75 0 q)
set_option maxRecDepth 10000 in
theorem ct_O_event (X : fr_X) (n : Nat) (q e : Nat) (I : fr_I) (J : fr_J)  (hq : q < e) (he : I 20 0 33 = nI e) (he2 : e ≤ 200) : fr_Ct X y_O_event c_O_event 2 (some .int) (fr_rm 0) [.ref (fr_ad X 20 0), .int (nI q)] (fr_Z0 X n) (fr_Z0 X n) I J (fr_pi (fun x I' J' => (f_O_event I q) = x ∧ I = I' ∧ J = J')) := by
  refine fr_ct (by decide) rfl rfl (Nat.le_of_ble_eq_true rfl) rfl (fun E => ?_)
  refine fr_iload_n d_O_event_0 rfl ?_
  refine fr_if_lt 12 d_O_event_1 rfl (fun h => absurd h (nI_pos (by omega))) (fun _ => ?_)
  refine fr_iload_n d_O_event_4 rfl ?_
  refine fr_aload_n d_O_event_5 rfl ?_
  refine fr_geti d_O_event_6 fl_O_128 rfl rfl (Or.inr ⟨rfl, rfl⟩) ?_
  refine fr_icmp_lt 16 d_O_event_9 rfl (fun _ => ?_) (fun h => absurd (by rw [he]; exact nI_lt hq (by omega)) h)
  refine fr_aload_n d_O_event_16 rfl ?_
  refine fr_getr (k' := 75) (r' := 0) d_O_event_17 fl_O_105 rfl rfl rfl (Or.inr ⟨rfl, rfl⟩) ?_
  refine fr_iload_n d_O_event_20 rfl ?_
  refine fr_iald (q) d_O_event_21 rfl rfl (Or.inr ⟨rfl, rfl⟩) rfl (Nat.lt_of_lt_of_le hq he2) (by decide) ?_
  exact fr_iret d_O_event_22 rfl (fr_nar_i _) (Nat.zero_le _) (Nat.zero_le _) ⟨rfl, rfl, rfl⟩
def f_O_event_no (I : fr_I) (p1 : Int32) : Int32 :=
  if p1 < 0 then
    (-1)
  else
    (-1)
set_option maxRecDepth 10000 in
theorem ct_O_event_no (X : fr_X) (n : Nat) (I : fr_I) (J : fr_J) (p1 : Int32) (hx : p1 < 0 ∨ I 20 0 33 ≤ p1) : fr_Ct X y_O_event c_O_event 2 (some .int) (fr_rm 0) [.ref (fr_ad X 20 0), .int p1] (fr_Z0 X n) (fr_Z0 X n) I J (fr_pi (fun x I' J' => (f_O_event_no I p1) = x ∧ I = I' ∧ J = J')) := by
  refine fr_ct (by decide) rfl rfl (Nat.le_of_ble_eq_true rfl) rfl (fun E => ?_)
  refine fr_iload_n d_O_event_0 rfl ?_
  refine fr_if_lt 12 d_O_event_1 rfl (fun h1 => ?_) (fun h1 => ?_)
  · skip
    refine fr_iconst d_O_event_12 fr_im1 ?_
    refine fr_goto 22 d_O_event_13 rfl ?_
    exact fr_iret d_O_event_22 rfl (fr_nar_i _) (Nat.zero_le _) (Nat.zero_le _) ⟨(by unfold f_O_event_no; rw [if_pos h1]), rfl, rfl⟩
  · skip
    refine fr_iload_n d_O_event_4 rfl ?_
    refine fr_aload_n d_O_event_5 rfl ?_
    refine fr_geti d_O_event_6 fl_O_128 rfl rfl (Or.inr ⟨rfl, rfl⟩) ?_
    refine fr_icmp_lt 16 d_O_event_9 rfl (fun h => absurd h (hx.elim (fun q => absurd q h1) (fun q => k2_nlt q))) (fun _ => ?_)
    refine fr_iconst d_O_event_12 fr_im1 ?_
    refine fr_goto 22 d_O_event_13 rfl ?_
    exact fr_iret d_O_event_22 rfl (fr_nar_i _) (Nat.zero_le _) (Nat.zero_le _) ⟨(by unfold f_O_event_no; rw [if_neg h1]), rfl, rfl⟩
def f_O_when (I : fr_I) (q : Nat) : Int32 :=
  (I 76 0 q)
set_option maxRecDepth 10000 in
theorem ct_O_when (X : fr_X) (n : Nat) (q e : Nat) (I : fr_I) (J : fr_J)  (hq : q < e) (he : I 20 0 33 = nI e) (he2 : e ≤ 200) : fr_Ct X y_O_when c_O_when 2 (some .int) (fr_rm 0) [.ref (fr_ad X 20 0), .int (nI q)] (fr_Z0 X n) (fr_Z0 X n) I J (fr_pi (fun x I' J' => (f_O_when I q) = x ∧ I = I' ∧ J = J')) := by
  refine fr_ct (by decide) rfl rfl (Nat.le_of_ble_eq_true rfl) rfl (fun E => ?_)
  refine fr_iload_n d_O_when_0 rfl ?_
  refine fr_if_lt 12 d_O_when_1 rfl (fun h => absurd h (nI_pos (by omega))) (fun _ => ?_)
  refine fr_iload_n d_O_when_4 rfl ?_
  refine fr_aload_n d_O_when_5 rfl ?_
  refine fr_geti d_O_when_6 fl_O_128 rfl rfl (Or.inr ⟨rfl, rfl⟩) ?_
  refine fr_icmp_lt 16 d_O_when_9 rfl (fun _ => ?_) (fun h => absurd (by rw [he]; exact nI_lt hq (by omega)) h)
  refine fr_aload_n d_O_when_16 rfl ?_
  refine fr_getr (k' := 76) (r' := 0) d_O_when_17 fl_O_108 rfl rfl rfl (Or.inr ⟨rfl, rfl⟩) ?_
  refine fr_iload_n d_O_when_20 rfl ?_
  refine fr_iald (q) d_O_when_21 rfl rfl (Or.inr ⟨rfl, rfl⟩) rfl (Nat.lt_of_lt_of_le hq he2) (by decide) ?_
  exact fr_iret d_O_when_22 rfl (fr_nar_i _) (Nat.zero_le _) (Nat.zero_le _) ⟨rfl, rfl, rfl⟩
def f_O_when_no (I : fr_I) (p1 : Int32) : Int32 :=
  if p1 < 0 then
    (-1)
  else
    (-1)
set_option maxRecDepth 10000 in
theorem ct_O_when_no (X : fr_X) (n : Nat) (I : fr_I) (J : fr_J) (p1 : Int32) (hx : p1 < 0 ∨ I 20 0 33 ≤ p1) : fr_Ct X y_O_when c_O_when 2 (some .int) (fr_rm 0) [.ref (fr_ad X 20 0), .int p1] (fr_Z0 X n) (fr_Z0 X n) I J (fr_pi (fun x I' J' => (f_O_when_no I p1) = x ∧ I = I' ∧ J = J')) := by
  refine fr_ct (by decide) rfl rfl (Nat.le_of_ble_eq_true rfl) rfl (fun E => ?_)
  refine fr_iload_n d_O_when_0 rfl ?_
  refine fr_if_lt 12 d_O_when_1 rfl (fun h1 => ?_) (fun h1 => ?_)
  · skip
    refine fr_iconst d_O_when_12 fr_im1 ?_
    refine fr_goto 22 d_O_when_13 rfl ?_
    exact fr_iret d_O_when_22 rfl (fr_nar_i _) (Nat.zero_le _) (Nat.zero_le _) ⟨(by unfold f_O_when_no; rw [if_pos h1]), rfl, rfl⟩
  · skip
    refine fr_iload_n d_O_when_4 rfl ?_
    refine fr_aload_n d_O_when_5 rfl ?_
    refine fr_geti d_O_when_6 fl_O_128 rfl rfl (Or.inr ⟨rfl, rfl⟩) ?_
    refine fr_icmp_lt 16 d_O_when_9 rfl (fun h => absurd h (hx.elim (fun q => absurd q h1) (fun q => k2_nlt q))) (fun _ => ?_)
    refine fr_iconst d_O_when_12 fr_im1 ?_
    refine fr_goto 22 d_O_when_13 rfl ?_
    exact fr_iret d_O_when_22 rfl (fr_nar_i _) (Nat.zero_le _) (Nat.zero_le _) ⟨(by unfold f_O_when_no; rw [if_neg h1]), rfl, rfl⟩
def f_O_note (I : fr_I) (p1 : Int32) (p2 : Int32) : fr_I :=
  if 200 ≤ (I 20 0 33) then
    I
  else
    (fr_ui (fr_ui (fr_ui I 75 0 ((I 20 0 33).toNatClampNeg) (p1 + (8 * p2))) 76 0 ((I 20 0 33).toNatClampNeg) ((fr_ui I 75 0 ((I 20 0 33).toNatClampNeg) (p1 + (8 * p2))) 20 0 1)) 20 0 33 (((fr_ui (fr_ui I 75 0 ((I 20 0 33).toNatClampNeg) (p1 + (8 * p2))) 76 0 ((I 20 0 33).toNatClampNeg) ((fr_ui I 75 0 ((I 20 0 33).toNatClampNeg) (p1 + (8 * p2))) 20 0 1)) 20 0 33) + 1))
set_option maxRecDepth 10000 in
theorem ct_O_note (X : fr_X) (n : Nat) (I : fr_I) (J : fr_J) (p1 : Int32) (p2 : Int32) (hw : fr_mw n I) : fr_Ct X y_O_note c_O_note 3 none (fr_rm 0) [.ref (fr_ad X 20 0), .int p1, .int p2] (fr_Z0 X n) (fr_Z0 X n) I J (fr_pv (fun I' J' => (f_O_note I p1 p2) = I' ∧ J = J')) := by
  refine fr_ct (by decide) rfl rfl (Nat.le_of_ble_eq_true rfl) rfl (fun E => ?_)
  refine fr_aload_n d_O_note_0 rfl ?_
  refine fr_geti d_O_note_1 fl_O_128 rfl rfl (Or.inr ⟨rfl, rfl⟩) ?_
  refine fr_sipush d_O_note_4 fr_s200 ?_
  refine fr_icmp_ge 48 d_O_note_7 rfl (fun h1 => ?_) (fun h1 => ?_)
  · skip
    exact fr_vret d_O_note_48 rfl (Nat.zero_le _) (Nat.zero_le _) ⟨(by unfold f_O_note; rw [if_pos h1]), rfl⟩
  · skip
    refine fr_aload_n d_O_note_10 rfl ?_
    refine fr_getr (k' := 75) (r' := 0) d_O_note_11 fl_O_105 rfl rfl rfl (Or.inr ⟨rfl, rfl⟩) ?_
    refine fr_aload_n d_O_note_14 rfl ?_
    refine fr_geti d_O_note_15 fl_O_128 rfl rfl (Or.inr ⟨rfl, rfl⟩) ?_
    refine fr_iload_n d_O_note_18 rfl ?_
    refine fr_bipush d_O_note_19 fr_b8 ?_
    refine fr_iload_n d_O_note_21 rfl ?_
    refine fr_imul d_O_note_22 ?_
    refine fr_iadd d_O_note_23 ?_
    refine fr_iast ((I 20 0 33).toNatClampNeg) d_O_note_24 rfl rfl (Or.inr ⟨rfl, rfl⟩) (fm_ev_eq hw) (fm_ev_lt hw h1) (by decide) ?_
    refine fr_aload_n d_O_note_25 rfl ?_
    refine fr_getr (k' := 76) (r' := 0) d_O_note_26 fl_O_108 rfl rfl rfl (Or.inr ⟨rfl, rfl⟩) ?_
    refine fr_aload_n d_O_note_29 rfl ?_
    refine fr_geti d_O_note_30 fl_O_128 rfl rfl (Or.inr ⟨rfl, rfl⟩) ?_
    refine fr_aload_n d_O_note_33 rfl ?_
    refine fr_geti d_O_note_34 fl_O_115 rfl rfl (Or.inr ⟨rfl, rfl⟩) ?_
    refine fr_iast ((I 20 0 33).toNatClampNeg) d_O_note_37 rfl rfl (Or.inr ⟨rfl, rfl⟩) ((fr_ui_n (fun z => absurd z.1 (by decide))).trans (fm_ev_eq hw)) (fm_ev_lt hw h1) (by decide) ?_
    refine fr_aload_n d_O_note_38 rfl ?_
    refine fr_dup d_O_note_39 rfl ?_
    refine fr_geti d_O_note_40 fl_O_128 rfl rfl (Or.inr ⟨rfl, rfl⟩) ?_
    refine fr_iconst d_O_note_43 fr_i1 ?_
    refine fr_iadd d_O_note_44 ?_
    refine fr_puti d_O_note_45 fl_O_128 rfl rfl (Or.inr ⟨rfl, rfl⟩) ?_
    exact fr_vret d_O_note_48 rfl (Nat.zero_le _) (Nat.zero_le _) ⟨(by unfold f_O_note; rw [if_neg h1]), rfl⟩
theorem fw_O_note {n : Nat} {I : fr_I} {p1 : Int32} {p2 : Int32} (hw : fr_mw n I) : fr_mw n (f_O_note I p1 p2) := by
  unfold f_O_note
  refine fw_ite (fun h => ?_) (fun h => ?_)
  · exact hw
  · exact fm_note (c1 := 0) (c2 := 0) hw h
theorem fc_O_note {P : fr_I → Prop} (hP : fr_ost P) {I : fr_I} {p1 : Int32} {p2 : Int32} (h : P I) : P (f_O_note I p1 p2) := by
  unfold f_O_note
  refine fw_ite (fun _ => ?_) (fun _ => ?_)
  · skip
    exact h
  · skip
    exact (hP (k := 20) (by decide) (hP (k := 76) (by decide) (hP (k := 75) (by decide) h)))
def f_O_give (I : fr_I) (r : Nat) (p2 : Int32) : fr_I :=
  (fr_ui (fr_ui (fr_ui I 60 0 r p2) 61 0 r ((fr_ui I 60 0 r p2) 20 0 1)) 62 0 r 0)
set_option maxRecDepth 10000 in
theorem ct_O_give (X : fr_X) (n : Nat) (r : Nat) (hr : r < n) (I : fr_I) (J : fr_J) (p2 : Int32) (hw : fr_mw n I) : fr_Ct X y_O_give c_O_give 3 none (fr_rm 0) [.ref (fr_ad X 20 0), .int (nI r), .int p2] (fr_Z0 X n) (fr_Z0 X n) I J (fr_pv (fun I' J' => (f_O_give I r p2) = I' ∧ J = J')) := by
  refine fr_ct (by decide) rfl rfl (Nat.le_of_ble_eq_true rfl) rfl (fun E => ?_)
  refine fr_aload_n d_O_give_0 rfl ?_
  refine fr_getr (k' := 60) (r' := 0) d_O_give_1 fl_O_66 rfl rfl rfl (Or.inr ⟨rfl, rfl⟩) ?_
  refine fr_iload_n d_O_give_4 rfl ?_
  refine fr_iload_n d_O_give_5 rfl ?_
  refine fr_iast (r) d_O_give_6 rfl rfl (Or.inr ⟨rfl, rfl⟩) rfl (fm_lt8 hw hr) (by decide) ?_
  refine fr_aload_n d_O_give_7 rfl ?_
  refine fr_getr (k' := 61) (r' := 0) d_O_give_8 fl_O_69 rfl rfl rfl (Or.inr ⟨rfl, rfl⟩) ?_
  refine fr_iload_n d_O_give_11 rfl ?_
  refine fr_aload_n d_O_give_12 rfl ?_
  refine fr_geti d_O_give_13 fl_O_115 rfl rfl (Or.inr ⟨rfl, rfl⟩) ?_
  refine fr_iast (r) d_O_give_16 rfl rfl (Or.inr ⟨rfl, rfl⟩) rfl (fm_lt8 hw hr) (by decide) ?_
  refine fr_aload_n d_O_give_17 rfl ?_
  refine fr_getr (k' := 62) (r' := 0) d_O_give_18 fl_O_72 rfl rfl rfl (Or.inr ⟨rfl, rfl⟩) ?_
  refine fr_iload_n d_O_give_21 rfl ?_
  refine fr_iconst d_O_give_22 fr_i0 ?_
  refine fr_zast (r) d_O_give_23 rfl rfl (Or.inl rfl) (Or.inr ⟨rfl, rfl⟩) rfl (fm_lt8 hw hr) (by decide) ?_
  exact fr_vret d_O_give_24 rfl (Nat.zero_le _) (Nat.zero_le _) ⟨rfl, rfl⟩
theorem fw_O_give {n : Nat} {I : fr_I} {r : Nat} {p2 : Int32} (hw : fr_mw n I) : fr_mw n (f_O_give I r p2) := by
  unfold f_O_give
  exact (fm_ui (k := 62) rfl (fm_ui (k := 61) rfl (fm_ui (k := 60) rfl hw)))
theorem fc_O_give {P : fr_I → Prop} (hP : fr_ost P) {I : fr_I} {r : Nat} {p2 : Int32} (h : P I) : P (f_O_give I r p2) := by
  unfold f_O_give
  exact (hP (k := 62) (by decide) (hP (k := 61) (by decide) (hP (k := 60) (by decide) h)))
def f_O_send (I : fr_I) (r : Nat) : fr_I :=
  if (I 42 0 r) < 0 then
    I
  else
    if (I 53 0 r) = 0 then
      I
    else
      (fr_ui (fr_ui (fr_ui I 69 0 (16 * r + (I 68 0 r).toNatClampNeg) ((I 20 0 1) + (I 53 0 r))) 70 0 (16 * r + (I 68 0 r).toNatClampNeg) ((2 * ((fr_ui I 69 0 (16 * r + (I 68 0 r).toNatClampNeg) ((I 20 0 1) + (I 53 0 r))) 57 0 r)) + (if ((fr_ui I 69 0 (16 * r + (I 68 0 r).toNatClampNeg) ((I 20 0 1) + (I 53 0 r))) 56 0 r) = 0 then (0 : Int32) else 1))) 68 0 r (((fr_ui (fr_ui I 69 0 (16 * r + (I 68 0 r).toNatClampNeg) ((I 20 0 1) + (I 53 0 r))) 70 0 (16 * r + (I 68 0 r).toNatClampNeg) ((2 * ((fr_ui I 69 0 (16 * r + (I 68 0 r).toNatClampNeg) ((I 20 0 1) + (I 53 0 r))) 57 0 r)) + (if ((fr_ui I 69 0 (16 * r + (I 68 0 r).toNatClampNeg) ((I 20 0 1) + (I 53 0 r))) 56 0 r) = 0 then (0 : Int32) else 1))) 68 0 r) + 1))
set_option maxRecDepth 10000 in
theorem ct_O_send (X : fr_X) (n : Nat) (r : Nat) (hr : r < n) (I : fr_I) (J : fr_J)  (hw : fr_mw n I) : fr_Ct X y_O_send c_O_send 3 none (fr_rm 0) [.ref (fr_ad X 20 0), .int (nI r)] (fr_Z0 X n) (fr_Z0 X n) I J (fr_pv (fun I' J' => (f_O_send I r) = I' ∧ J = J')) := by
  refine fr_ct (by decide) rfl rfl (Nat.le_of_ble_eq_true rfl) rfl (fun E => ?_)
  refine fr_aload_n d_O_send_0 rfl ?_
  refine fr_getr (k' := 42) (r' := 0) d_O_send_1 fl_O_7 rfl rfl rfl (Or.inr ⟨rfl, rfl⟩) ?_
  refine fr_iload_n d_O_send_4 rfl ?_
  refine fr_iald (r) d_O_send_5 rfl rfl (Or.inr ⟨rfl, rfl⟩) rfl (fm_lt8 hw hr) (by decide) ?_
  refine fr_if_lt 18 d_O_send_6 rfl (fun h1 => ?_) (fun h1 => ?_)
  · skip
    exact fr_vret d_O_send_18 rfl (Nat.zero_le _) (Nat.zero_le _) ⟨(by unfold f_O_send; rw [if_pos h1]), rfl⟩
  · skip
    refine fr_aload_n d_O_send_9 rfl ?_
    refine fr_getr (k' := 53) (r' := 0) d_O_send_10 fl_O_44 rfl rfl rfl (Or.inr ⟨rfl, rfl⟩) ?_
    refine fr_iload_n d_O_send_13 rfl ?_
    refine fr_iald (r) d_O_send_14 rfl rfl (Or.inr ⟨rfl, rfl⟩) rfl (fm_lt8 hw hr) (by decide) ?_
    refine fr_if_ne 19 d_O_send_15 rfl (fun h2 => ?_) (fun h2 => ?_)
    · skip
      refine fr_bipush d_O_send_19 fr_b16 ?_
      refine fr_iload_n d_O_send_21 rfl ?_
      refine fr_imul d_O_send_22 ?_
      refine fr_teq (x' := nI (16 * r)) (pk_mul (16) (r)) ?_
      refine fr_aload_n d_O_send_23 rfl ?_
      refine fr_getr (k' := 68) (r' := 0) d_O_send_24 fl_O_90 rfl rfl rfl (Or.inr ⟨rfl, rfl⟩) ?_
      refine fr_iload_n d_O_send_27 rfl ?_
      refine fr_iald (r) d_O_send_28 rfl rfl (Or.inr ⟨rfl, rfl⟩) rfl (fm_lt8 hw hr) (by decide) ?_
      refine fr_teq (fm_un_eq hw hr) ?_
      refine fr_iadd d_O_send_29 ?_
      refine fr_teq (x' := nI (16 * r + (I 68 0 r).toNatClampNeg)) (nI_add (16 * r) ((I 68 0 r).toNatClampNeg)) ?_
      refine fr_istore_n (L' := [(2, .int _), (0, .ref _), (1, .int _)]) d_O_send_30 (by decide) rfl ?_
      refine fr_aload_n d_O_send_31 rfl ?_
      refine fr_getr (k' := 69) (r' := 0) d_O_send_32 fl_O_93 rfl rfl rfl (Or.inr ⟨rfl, rfl⟩) ?_
      refine fr_iload_n d_O_send_35 rfl ?_
      refine fr_aload_n d_O_send_36 rfl ?_
      refine fr_geti d_O_send_37 fl_O_115 rfl rfl (Or.inr ⟨rfl, rfl⟩) ?_
      refine fr_aload_n d_O_send_40 rfl ?_
      refine fr_getr (k' := 53) (r' := 0) d_O_send_41 fl_O_44 rfl rfl rfl (Or.inr ⟨rfl, rfl⟩) ?_
      refine fr_iload_n d_O_send_44 rfl ?_
      refine fr_iald (r) d_O_send_45 rfl rfl (Or.inr ⟨rfl, rfl⟩) rfl (fm_lt8 hw hr) (by decide) ?_
      refine fr_iadd d_O_send_46 ?_
      refine fr_iast (16 * r + (I 68 0 r).toNatClampNeg) d_O_send_47 rfl rfl (Or.inr ⟨rfl, rfl⟩) rfl (fm_q128 hw hr) (by decide) ?_
      refine fr_aload_n d_O_send_48 rfl ?_
      refine fr_getr (k' := 70) (r' := 0) d_O_send_49 fl_O_96 rfl rfl rfl (Or.inr ⟨rfl, rfl⟩) ?_
      refine fr_iload_n d_O_send_52 rfl ?_
      refine fr_iconst d_O_send_53 fr_i2 ?_
      refine fr_aload_n d_O_send_54 rfl ?_
      refine fr_getr (k' := 57) (r' := 0) d_O_send_55 fl_O_57 rfl rfl rfl (Or.inr ⟨rfl, rfl⟩) ?_
      refine fr_iload_n d_O_send_58 rfl ?_
      refine fr_iald (r) d_O_send_59 rfl rfl (Or.inr ⟨rfl, rfl⟩) rfl (fm_lt8 hw hr) (by decide) ?_
      refine fr_imul d_O_send_60 ?_
      refine fr_aload_n d_O_send_61 rfl ?_
      refine fr_getr (k' := 56) (r' := 0) d_O_send_62 fl_O_54 rfl rfl rfl (Or.inr ⟨rfl, rfl⟩) ?_
      refine fr_iload_n d_O_send_65 rfl ?_
      refine fr_zald (r) d_O_send_66 rfl rfl (Or.inr ⟨rfl, rfl⟩) rfl (fm_lt8 hw hr) (by decide) ?_
      refine fr_tif_eq (t := 74) (j := 75) d_O_send_67 rfl (fun k => fr_iconst d_O_send_70 fr_i1 (fr_goto 75 d_O_send_71 rfl k)) (fun k => fr_iconst d_O_send_74 fr_i0 k) ?_
      refine fr_iadd d_O_send_75 ?_
      refine fr_iast (16 * r + (I 68 0 r).toNatClampNeg) d_O_send_76 rfl rfl (Or.inr ⟨rfl, rfl⟩) rfl (fm_q128 hw hr) (by decide) ?_
      refine fr_aload_n d_O_send_77 rfl ?_
      refine fr_getr (k' := 68) (r' := 0) d_O_send_78 fl_O_90 rfl rfl rfl (Or.inr ⟨rfl, rfl⟩) ?_
      refine fr_iload_n d_O_send_81 rfl ?_
      refine fr_dup2 d_O_send_82 rfl rfl ?_
      refine fr_iald (r) d_O_send_83 rfl rfl (Or.inr ⟨rfl, rfl⟩) rfl (fm_lt8 hw hr) (by decide) ?_
      refine fr_iconst d_O_send_84 fr_i1 ?_
      refine fr_iadd d_O_send_85 ?_
      refine fr_iast (r) d_O_send_86 rfl rfl (Or.inr ⟨rfl, rfl⟩) rfl (fm_lt8 hw hr) (by decide) ?_
      exact fr_vret d_O_send_87 rfl (Nat.zero_le _) (Nat.zero_le _) ⟨(by unfold f_O_send; rw [if_neg h1, if_neg h2]), rfl⟩
    · skip
      exact fr_vret d_O_send_18 rfl (Nat.zero_le _) (Nat.zero_le _) ⟨(by unfold f_O_send; rw [if_neg h1, if_pos h2]), rfl⟩
theorem fw_O_send {n : Nat} {I : fr_I} {r : Nat} (hu : fr_nn (I 68 0 r) 15) (hw : fr_mw n I) : fr_mw n (f_O_send I r) := by
  unfold f_O_send
  refine fw_ite (fun h => ?_) (fun h => ?_)
  · skip
    exact hw
  · skip
    refine fw_ite (fun h => ?_) (fun h => ?_)
    · skip
      exact hw
    · skip
      exact (fm_unp (fm_un1 hu) (fm_ui (k := 70) rfl (fm_ui (k := 69) rfl hw)))
theorem fc_O_send {P : fr_I → Prop} (hP : fr_ost P) {I : fr_I} {r : Nat} (h : P I) : P (f_O_send I r) := by
  unfold f_O_send
  refine fw_ite (fun _ => ?_) (fun _ => ?_)
  · skip
    exact h
  · skip
    refine fw_ite (fun _ => ?_) (fun _ => ?_)
    · skip
      exact h
    · skip
      exact (hP (k := 68) (by decide) (hP (k := 70) (by decide) (hP (k := 69) (by decide) h)))
def f_O_breaker (I : fr_I) (r : Nat) : fr_I :=
  if (I 60 0 r) ≤ 0 then
    if (I 63 0 r) = 0 then
      if (I 66 0 r) ≤ 0 then
        I
      else
        if (I 43 0 r) = 0 then
          I
        else
          if (I 60 0 r) = 0 then
            if (I 20 0 1) < (I 67 0 r) then
              I
            else
              (f_O_note ((fr_ui I 66 0 r 0)) 4 (nI r))
          else
            I
    else
      if (I 20 0 1) < (I 64 0 r) then
        if (I 66 0 r) ≤ 0 then
          I
        else
          if (I 43 0 r) = 0 then
            I
          else
            if (I 60 0 r) = 0 then
              if (I 20 0 1) < (I 67 0 r) then
                I
              else
                (f_O_note ((fr_ui I 66 0 r 0)) 4 (nI r))
            else
              I
      else
        (f_O_note ((fr_ui (fr_ui (fr_ui (fr_ui I 43 0 r 1) 63 0 r 0) 66 0 r (((fr_ui (fr_ui I 43 0 r 1) 63 0 r 0) 66 0 r) + 1)) 67 0 r (((fr_ui (fr_ui (fr_ui I 43 0 r 1) 63 0 r 0) 66 0 r (((fr_ui (fr_ui I 43 0 r 1) 63 0 r 0) 66 0 r) + 1)) 20 0 1) + 30))) 3 (nI r))
  else
    if ((I 20 0 1) - (I 61 0 r)) < 2 then
      if (I 63 0 r) = 0 then
        if (I 66 0 r) ≤ 0 then
          I
        else
          if (I 43 0 r) = 0 then
            I
          else
            if (I 60 0 r) = 0 then
              if (I 20 0 1) < (I 67 0 r) then
                I
              else
                (f_O_note ((fr_ui I 66 0 r 0)) 4 (nI r))
            else
              I
      else
        if (I 20 0 1) < (I 64 0 r) then
          if (I 66 0 r) ≤ 0 then
            I
          else
            if (I 43 0 r) = 0 then
              I
            else
              if (I 60 0 r) = 0 then
                if (I 20 0 1) < (I 67 0 r) then
                  I
                else
                  (f_O_note ((fr_ui I 66 0 r 0)) 4 (nI r))
              else
                I
        else
          (f_O_note ((fr_ui (fr_ui (fr_ui (fr_ui I 43 0 r 1) 63 0 r 0) 66 0 r (((fr_ui (fr_ui I 43 0 r 1) 63 0 r 0) 66 0 r) + 1)) 67 0 r (((fr_ui (fr_ui (fr_ui I 43 0 r 1) 63 0 r 0) 66 0 r (((fr_ui (fr_ui I 43 0 r 1) 63 0 r 0) 66 0 r) + 1)) 20 0 1) + 30))) 3 (nI r))
    else
      if (I 44 0 r) = 0 then
        if (if (I 60 0 r) = 1 then (1 : Int32) else 0) = 0 then
          (f_O_note ((fr_ui (f_O_note ((fr_ui (fr_ui I 43 0 r 0) 60 0 r 0)) 2 (nI r)) 65 0 r 1)) 5 (nI r))
        else
          if ((f_O_note ((fr_ui (fr_ui I 43 0 r 0) 60 0 r 0)) 2 (nI r)) 51 0 r) ≤ ((f_O_note ((fr_ui (fr_ui I 43 0 r 0) 60 0 r 0)) 2 (nI r)) 66 0 r) then
            (f_O_note ((fr_ui (f_O_note ((fr_ui (fr_ui I 43 0 r 0) 60 0 r 0)) 2 (nI r)) 65 0 r 1)) 5 (nI r))
          else
            if ((fr_ui (f_O_note ((fr_ui (fr_ui I 43 0 r 0) 60 0 r 0)) 2 (nI r)) 63 0 r 1) 66 0 r) = 0 then
              (fr_ui (fr_ui (f_O_note ((fr_ui (fr_ui I 43 0 r 0) 60 0 r 0)) 2 (nI r)) 63 0 r 1) 64 0 r (((fr_ui (f_O_note ((fr_ui (fr_ui I 43 0 r 0) 60 0 r 0)) 2 (nI r)) 63 0 r 1) 20 0 1) + 5))
            else
              (fr_ui (fr_ui (f_O_note ((fr_ui (fr_ui I 43 0 r 0) 60 0 r 0)) 2 (nI r)) 63 0 r 1) 64 0 r (((fr_ui (f_O_note ((fr_ui (fr_ui I 43 0 r 0) 60 0 r 0)) 2 (nI r)) 63 0 r 1) 20 0 1) + (if ((fr_ui (f_O_note ((fr_ui (fr_ui I 43 0 r 0) 60 0 r 0)) 2 (nI r)) 63 0 r 1) 66 0 r) = 1 then (20 : Int32) else 50)))
      else
        if (I 63 0 r) = 0 then
          if (I 66 0 r) ≤ 0 then
            I
          else
            if (I 43 0 r) = 0 then
              I
            else
              if (I 60 0 r) = 0 then
                if (I 20 0 1) < (I 67 0 r) then
                  I
                else
                  (f_O_note ((fr_ui I 66 0 r 0)) 4 (nI r))
              else
                I
        else
          if (I 20 0 1) < (I 64 0 r) then
            if (I 66 0 r) ≤ 0 then
              I
            else
              if (I 43 0 r) = 0 then
                I
              else
                if (I 60 0 r) = 0 then
                  if (I 20 0 1) < (I 67 0 r) then
                    I
                  else
                    (f_O_note ((fr_ui I 66 0 r 0)) 4 (nI r))
                else
                  I
          else
            (f_O_note ((fr_ui (fr_ui (fr_ui (fr_ui I 43 0 r 1) 63 0 r 0) 66 0 r (((fr_ui (fr_ui I 43 0 r 1) 63 0 r 0) 66 0 r) + 1)) 67 0 r (((fr_ui (fr_ui (fr_ui I 43 0 r 1) 63 0 r 0) 66 0 r (((fr_ui (fr_ui I 43 0 r 1) 63 0 r 0) 66 0 r) + 1)) 20 0 1) + 30))) 3 (nI r))
set_option maxRecDepth 10000 in
theorem ct_O_breaker (X : fr_X) (n : Nat) (r : Nat) (hr : r < n) (I : fr_I) (J : fr_J)  (hw : fr_mw n I) : fr_Ct X y_O_breaker c_O_breaker 3 none (fr_rm 1) [.ref (fr_ad X 20 0), .int (nI r)] (fr_Z0 X n) (fr_Z0 X n) I J (fr_pv (fun I' J' => (f_O_breaker I r) = I' ∧ J = J')) := by
  refine fr_ct (by decide) rfl rfl (Nat.le_of_ble_eq_true rfl) rfl (fun E => ?_)
  refine fr_aload_n d_O_breaker_0 rfl ?_
  refine fr_getr (k' := 60) (r' := 0) d_O_breaker_1 fl_O_66 rfl rfl rfl (Or.inr ⟨rfl, rfl⟩) ?_
  refine fr_iload_n d_O_breaker_4 rfl ?_
  refine fr_iald (r) d_O_breaker_5 rfl rfl (Or.inr ⟨rfl, rfl⟩) rfl (fm_lt8 hw hr) (by decide) ?_
  refine fr_if_le 155 d_O_breaker_6 rfl (fun h1 => ?_) (fun h1 => ?_)
  · skip
    refine fr_aload_n d_O_breaker_155 rfl ?_
    refine fr_getr (k' := 63) (r' := 0) d_O_breaker_156 fl_O_75 rfl rfl rfl (Or.inr ⟨rfl, rfl⟩) ?_
    refine fr_iload_n d_O_breaker_159 rfl ?_
    refine fr_zald (r) d_O_breaker_160 rfl rfl (Or.inr ⟨rfl, rfl⟩) rfl (fm_lt8 hw hr) (by decide) ?_
    refine fr_if_eq 223 d_O_breaker_161 rfl (fun h2 => ?_) (fun h2 => ?_)
    · skip
      refine fr_aload_n d_O_breaker_223 rfl ?_
      refine fr_getr (k' := 66) (r' := 0) d_O_breaker_224 fl_O_84 rfl rfl rfl (Or.inr ⟨rfl, rfl⟩) ?_
      refine fr_iload_n d_O_breaker_227 rfl ?_
      refine fr_iald (r) d_O_breaker_228 rfl rfl (Or.inr ⟨rfl, rfl⟩) rfl (fm_lt8 hw hr) (by decide) ?_
      refine fr_if_le 276 d_O_breaker_229 rfl (fun h3 => ?_) (fun h3 => ?_)
      · skip
        exact fr_vret d_O_breaker_276 rfl (Nat.zero_le _) (Nat.zero_le _) ⟨(by unfold f_O_breaker; rw [if_pos h1, if_pos h2, if_pos h3]), rfl⟩
      · skip
        refine fr_aload_n d_O_breaker_232 rfl ?_
        refine fr_getr (k' := 43) (r' := 0) d_O_breaker_233 fl_O_13 rfl rfl rfl (Or.inr ⟨rfl, rfl⟩) ?_
        refine fr_iload_n d_O_breaker_236 rfl ?_
        refine fr_zald (r) d_O_breaker_237 rfl rfl (Or.inr ⟨rfl, rfl⟩) rfl (fm_lt8 hw hr) (by decide) ?_
        refine fr_if_eq 276 d_O_breaker_238 rfl (fun h4 => ?_) (fun h4 => ?_)
        · skip
          exact fr_vret d_O_breaker_276 rfl (Nat.zero_le _) (Nat.zero_le _) ⟨(by unfold f_O_breaker; rw [if_pos h1, if_pos h2, if_neg h3, if_pos h4]), rfl⟩
        · skip
          refine fr_aload_n d_O_breaker_241 rfl ?_
          refine fr_getr (k' := 60) (r' := 0) d_O_breaker_242 fl_O_66 rfl rfl rfl (Or.inr ⟨rfl, rfl⟩) ?_
          refine fr_iload_n d_O_breaker_245 rfl ?_
          refine fr_iald (r) d_O_breaker_246 rfl rfl (Or.inr ⟨rfl, rfl⟩) rfl (fm_lt8 hw hr) (by decide) ?_
          refine fr_if_ne 276 d_O_breaker_247 rfl (fun h5 => ?_) (fun h5 => ?_)
          · skip
            exact fr_vret d_O_breaker_276 rfl (Nat.zero_le _) (Nat.zero_le _) ⟨(by unfold f_O_breaker; rw [if_pos h1, if_pos h2, if_neg h3, if_neg h4, if_neg h5]), rfl⟩
          · skip
            refine fr_aload_n d_O_breaker_250 rfl ?_
            refine fr_geti d_O_breaker_251 fl_O_115 rfl rfl (Or.inr ⟨rfl, rfl⟩) ?_
            refine fr_aload_n d_O_breaker_254 rfl ?_
            refine fr_getr (k' := 67) (r' := 0) d_O_breaker_255 fl_O_87 rfl rfl rfl (Or.inr ⟨rfl, rfl⟩) ?_
            refine fr_iload_n d_O_breaker_258 rfl ?_
            refine fr_iald (r) d_O_breaker_259 rfl rfl (Or.inr ⟨rfl, rfl⟩) rfl (fm_lt8 hw hr) (by decide) ?_
            refine fr_icmp_lt 276 d_O_breaker_260 rfl (fun h6 => ?_) (fun h6 => ?_)
            · skip
              exact fr_vret d_O_breaker_276 rfl (Nat.zero_le _) (Nat.zero_le _) ⟨(by unfold f_O_breaker; rw [if_pos h1, if_pos h2, if_neg h3, if_neg h4, if_pos h5, if_pos h6]), rfl⟩
            · skip
              refine fr_aload_n d_O_breaker_263 rfl ?_
              refine fr_getr (k' := 66) (r' := 0) d_O_breaker_264 fl_O_84 rfl rfl rfl (Or.inr ⟨rfl, rfl⟩) ?_
              refine fr_iload_n d_O_breaker_267 rfl ?_
              refine fr_iconst d_O_breaker_268 fr_i0 ?_
              refine fr_iast (r) d_O_breaker_269 rfl rfl (Or.inr ⟨rfl, rfl⟩) rfl (fm_lt8 hw hr) (by decide) ?_
              refine fr_aload_n d_O_breaker_270 rfl ?_
              refine fr_iconst d_O_breaker_271 fr_i4 ?_
              refine fr_iload_n d_O_breaker_272 rfl ?_
              refine fr_callVv fr_q6 d_O_breaker_273 (ct_O_note X n _ _ _ _ (fm_ui (k := 66) rfl hw)) mv_O_131 rfl rfl rfl (Or.inr ⟨rfl, rfl⟩) rfl rfl ⟨Nat.le_of_ble_eq_true rfl, Nat.le_of_ble_eq_true rfl⟩ ⟨rfl, rfl⟩ ⟨Nat.zero_le _, Nat.zero_le _⟩ (Nat.le_of_ble_eq_true rfl) (fun I' J' hp7 => ?_)
              obtain ⟨rfl, rfl⟩ := hp7
              exact fr_vret d_O_breaker_276 rfl (Nat.zero_le _) (Nat.zero_le _) ⟨(by unfold f_O_breaker; rw [if_pos h1, if_pos h2, if_neg h3, if_neg h4, if_pos h5, if_neg h6]), rfl⟩
    · skip
      refine fr_aload_n d_O_breaker_164 rfl ?_
      refine fr_geti d_O_breaker_165 fl_O_115 rfl rfl (Or.inr ⟨rfl, rfl⟩) ?_
      refine fr_aload_n d_O_breaker_168 rfl ?_
      refine fr_getr (k' := 64) (r' := 0) d_O_breaker_169 fl_O_78 rfl rfl rfl (Or.inr ⟨rfl, rfl⟩) ?_
      refine fr_iload_n d_O_breaker_172 rfl ?_
      refine fr_iald (r) d_O_breaker_173 rfl rfl (Or.inr ⟨rfl, rfl⟩) rfl (fm_lt8 hw hr) (by decide) ?_
      refine fr_icmp_lt 223 d_O_breaker_174 rfl (fun h8 => ?_) (fun h8 => ?_)
      · skip
        refine fr_aload_n d_O_breaker_223 rfl ?_
        refine fr_getr (k' := 66) (r' := 0) d_O_breaker_224 fl_O_84 rfl rfl rfl (Or.inr ⟨rfl, rfl⟩) ?_
        refine fr_iload_n d_O_breaker_227 rfl ?_
        refine fr_iald (r) d_O_breaker_228 rfl rfl (Or.inr ⟨rfl, rfl⟩) rfl (fm_lt8 hw hr) (by decide) ?_
        refine fr_if_le 276 d_O_breaker_229 rfl (fun h9 => ?_) (fun h9 => ?_)
        · skip
          exact fr_vret d_O_breaker_276 rfl (Nat.zero_le _) (Nat.zero_le _) ⟨(by unfold f_O_breaker; rw [if_pos h1, if_neg h2, if_pos h8, if_pos h9]), rfl⟩
        · skip
          refine fr_aload_n d_O_breaker_232 rfl ?_
          refine fr_getr (k' := 43) (r' := 0) d_O_breaker_233 fl_O_13 rfl rfl rfl (Or.inr ⟨rfl, rfl⟩) ?_
          refine fr_iload_n d_O_breaker_236 rfl ?_
          refine fr_zald (r) d_O_breaker_237 rfl rfl (Or.inr ⟨rfl, rfl⟩) rfl (fm_lt8 hw hr) (by decide) ?_
          refine fr_if_eq 276 d_O_breaker_238 rfl (fun h10 => ?_) (fun h10 => ?_)
          · skip
            exact fr_vret d_O_breaker_276 rfl (Nat.zero_le _) (Nat.zero_le _) ⟨(by unfold f_O_breaker; rw [if_pos h1, if_neg h2, if_pos h8, if_neg h9, if_pos h10]), rfl⟩
          · skip
            refine fr_aload_n d_O_breaker_241 rfl ?_
            refine fr_getr (k' := 60) (r' := 0) d_O_breaker_242 fl_O_66 rfl rfl rfl (Or.inr ⟨rfl, rfl⟩) ?_
            refine fr_iload_n d_O_breaker_245 rfl ?_
            refine fr_iald (r) d_O_breaker_246 rfl rfl (Or.inr ⟨rfl, rfl⟩) rfl (fm_lt8 hw hr) (by decide) ?_
            refine fr_if_ne 276 d_O_breaker_247 rfl (fun h11 => ?_) (fun h11 => ?_)
            · skip
              exact fr_vret d_O_breaker_276 rfl (Nat.zero_le _) (Nat.zero_le _) ⟨(by unfold f_O_breaker; rw [if_pos h1, if_neg h2, if_pos h8, if_neg h9, if_neg h10, if_neg h11]), rfl⟩
            · skip
              refine fr_aload_n d_O_breaker_250 rfl ?_
              refine fr_geti d_O_breaker_251 fl_O_115 rfl rfl (Or.inr ⟨rfl, rfl⟩) ?_
              refine fr_aload_n d_O_breaker_254 rfl ?_
              refine fr_getr (k' := 67) (r' := 0) d_O_breaker_255 fl_O_87 rfl rfl rfl (Or.inr ⟨rfl, rfl⟩) ?_
              refine fr_iload_n d_O_breaker_258 rfl ?_
              refine fr_iald (r) d_O_breaker_259 rfl rfl (Or.inr ⟨rfl, rfl⟩) rfl (fm_lt8 hw hr) (by decide) ?_
              refine fr_icmp_lt 276 d_O_breaker_260 rfl (fun h12 => ?_) (fun h12 => ?_)
              · skip
                exact fr_vret d_O_breaker_276 rfl (Nat.zero_le _) (Nat.zero_le _) ⟨(by unfold f_O_breaker; rw [if_pos h1, if_neg h2, if_pos h8, if_neg h9, if_neg h10, if_pos h11, if_pos h12]), rfl⟩
              · skip
                refine fr_aload_n d_O_breaker_263 rfl ?_
                refine fr_getr (k' := 66) (r' := 0) d_O_breaker_264 fl_O_84 rfl rfl rfl (Or.inr ⟨rfl, rfl⟩) ?_
                refine fr_iload_n d_O_breaker_267 rfl ?_
                refine fr_iconst d_O_breaker_268 fr_i0 ?_
                refine fr_iast (r) d_O_breaker_269 rfl rfl (Or.inr ⟨rfl, rfl⟩) rfl (fm_lt8 hw hr) (by decide) ?_
                refine fr_aload_n d_O_breaker_270 rfl ?_
                refine fr_iconst d_O_breaker_271 fr_i4 ?_
                refine fr_iload_n d_O_breaker_272 rfl ?_
                refine fr_callVv fr_q6 d_O_breaker_273 (ct_O_note X n _ _ _ _ (fm_ui (k := 66) rfl hw)) mv_O_131 rfl rfl rfl (Or.inr ⟨rfl, rfl⟩) rfl rfl ⟨Nat.le_of_ble_eq_true rfl, Nat.le_of_ble_eq_true rfl⟩ ⟨rfl, rfl⟩ ⟨Nat.zero_le _, Nat.zero_le _⟩ (Nat.le_of_ble_eq_true rfl) (fun I' J' hp13 => ?_)
                obtain ⟨rfl, rfl⟩ := hp13
                exact fr_vret d_O_breaker_276 rfl (Nat.zero_le _) (Nat.zero_le _) ⟨(by unfold f_O_breaker; rw [if_pos h1, if_neg h2, if_pos h8, if_neg h9, if_neg h10, if_pos h11, if_neg h12]), rfl⟩
      · skip
        refine fr_aload_n d_O_breaker_177 rfl ?_
        refine fr_getr (k' := 43) (r' := 0) d_O_breaker_178 fl_O_13 rfl rfl rfl (Or.inr ⟨rfl, rfl⟩) ?_
        refine fr_iload_n d_O_breaker_181 rfl ?_
        refine fr_iconst d_O_breaker_182 fr_i1 ?_
        refine fr_zast (r) d_O_breaker_183 rfl rfl (Or.inr rfl) (Or.inr ⟨rfl, rfl⟩) rfl (fm_lt8 hw hr) (by decide) ?_
        refine fr_aload_n d_O_breaker_184 rfl ?_
        refine fr_getr (k' := 63) (r' := 0) d_O_breaker_185 fl_O_75 rfl rfl rfl (Or.inr ⟨rfl, rfl⟩) ?_
        refine fr_iload_n d_O_breaker_188 rfl ?_
        refine fr_iconst d_O_breaker_189 fr_i0 ?_
        refine fr_zast (r) d_O_breaker_190 rfl rfl (Or.inl rfl) (Or.inr ⟨rfl, rfl⟩) rfl (fm_lt8 hw hr) (by decide) ?_
        refine fr_aload_n d_O_breaker_191 rfl ?_
        refine fr_getr (k' := 66) (r' := 0) d_O_breaker_192 fl_O_84 rfl rfl rfl (Or.inr ⟨rfl, rfl⟩) ?_
        refine fr_iload_n d_O_breaker_195 rfl ?_
        refine fr_dup2 d_O_breaker_196 rfl rfl ?_
        refine fr_iald (r) d_O_breaker_197 rfl rfl (Or.inr ⟨rfl, rfl⟩) rfl (fm_lt8 hw hr) (by decide) ?_
        refine fr_iconst d_O_breaker_198 fr_i1 ?_
        refine fr_iadd d_O_breaker_199 ?_
        refine fr_iast (r) d_O_breaker_200 rfl rfl (Or.inr ⟨rfl, rfl⟩) rfl (fm_lt8 hw hr) (by decide) ?_
        refine fr_aload_n d_O_breaker_201 rfl ?_
        refine fr_getr (k' := 67) (r' := 0) d_O_breaker_202 fl_O_87 rfl rfl rfl (Or.inr ⟨rfl, rfl⟩) ?_
        refine fr_iload_n d_O_breaker_205 rfl ?_
        refine fr_aload_n d_O_breaker_206 rfl ?_
        refine fr_geti d_O_breaker_207 fl_O_115 rfl rfl (Or.inr ⟨rfl, rfl⟩) ?_
        refine fr_bipush d_O_breaker_210 fr_b30 ?_
        refine fr_iadd d_O_breaker_212 ?_
        refine fr_iast (r) d_O_breaker_213 rfl rfl (Or.inr ⟨rfl, rfl⟩) rfl (fm_lt8 hw hr) (by decide) ?_
        refine fr_aload_n d_O_breaker_214 rfl ?_
        refine fr_iconst d_O_breaker_215 fr_i3 ?_
        refine fr_iload_n d_O_breaker_216 rfl ?_
        refine fr_callVv fr_q6 d_O_breaker_217 (ct_O_note X n _ _ _ _ (fm_ui (k := 67) rfl (fm_ui (k := 66) rfl (fm_ui (k := 63) rfl (fm_ui (k := 43) rfl hw))))) mv_O_131 rfl rfl rfl (Or.inr ⟨rfl, rfl⟩) rfl rfl ⟨Nat.le_of_ble_eq_true rfl, Nat.le_of_ble_eq_true rfl⟩ ⟨rfl, rfl⟩ ⟨Nat.zero_le _, Nat.zero_le _⟩ (Nat.le_of_ble_eq_true rfl) (fun I' J' hp14 => ?_)
        obtain ⟨rfl, rfl⟩ := hp14
        refine fr_goto 276 d_O_breaker_220 rfl ?_
        exact fr_vret d_O_breaker_276 rfl (Nat.zero_le _) (Nat.zero_le _) ⟨(by unfold f_O_breaker; rw [if_pos h1, if_neg h2, if_neg h8]), rfl⟩
  · skip
    refine fr_aload_n d_O_breaker_9 rfl ?_
    refine fr_geti d_O_breaker_10 fl_O_115 rfl rfl (Or.inr ⟨rfl, rfl⟩) ?_
    refine fr_aload_n d_O_breaker_13 rfl ?_
    refine fr_getr (k' := 61) (r' := 0) d_O_breaker_14 fl_O_69 rfl rfl rfl (Or.inr ⟨rfl, rfl⟩) ?_
    refine fr_iload_n d_O_breaker_17 rfl ?_
    refine fr_iald (r) d_O_breaker_18 rfl rfl (Or.inr ⟨rfl, rfl⟩) rfl (fm_lt8 hw hr) (by decide) ?_
    refine fr_isub d_O_breaker_19 ?_
    refine fr_iconst d_O_breaker_20 fr_i2 ?_
    refine fr_icmp_lt 155 d_O_breaker_21 rfl (fun h15 => ?_) (fun h15 => ?_)
    · skip
      refine fr_aload_n d_O_breaker_155 rfl ?_
      refine fr_getr (k' := 63) (r' := 0) d_O_breaker_156 fl_O_75 rfl rfl rfl (Or.inr ⟨rfl, rfl⟩) ?_
      refine fr_iload_n d_O_breaker_159 rfl ?_
      refine fr_zald (r) d_O_breaker_160 rfl rfl (Or.inr ⟨rfl, rfl⟩) rfl (fm_lt8 hw hr) (by decide) ?_
      refine fr_if_eq 223 d_O_breaker_161 rfl (fun h16 => ?_) (fun h16 => ?_)
      · skip
        refine fr_aload_n d_O_breaker_223 rfl ?_
        refine fr_getr (k' := 66) (r' := 0) d_O_breaker_224 fl_O_84 rfl rfl rfl (Or.inr ⟨rfl, rfl⟩) ?_
        refine fr_iload_n d_O_breaker_227 rfl ?_
        refine fr_iald (r) d_O_breaker_228 rfl rfl (Or.inr ⟨rfl, rfl⟩) rfl (fm_lt8 hw hr) (by decide) ?_
        refine fr_if_le 276 d_O_breaker_229 rfl (fun h17 => ?_) (fun h17 => ?_)
        · skip
          exact fr_vret d_O_breaker_276 rfl (Nat.zero_le _) (Nat.zero_le _) ⟨(by unfold f_O_breaker; rw [if_neg h1, if_pos h15, if_pos h16, if_pos h17]), rfl⟩
        · skip
          refine fr_aload_n d_O_breaker_232 rfl ?_
          refine fr_getr (k' := 43) (r' := 0) d_O_breaker_233 fl_O_13 rfl rfl rfl (Or.inr ⟨rfl, rfl⟩) ?_
          refine fr_iload_n d_O_breaker_236 rfl ?_
          refine fr_zald (r) d_O_breaker_237 rfl rfl (Or.inr ⟨rfl, rfl⟩) rfl (fm_lt8 hw hr) (by decide) ?_
          refine fr_if_eq 276 d_O_breaker_238 rfl (fun h18 => ?_) (fun h18 => ?_)
          · skip
            exact fr_vret d_O_breaker_276 rfl (Nat.zero_le _) (Nat.zero_le _) ⟨(by unfold f_O_breaker; rw [if_neg h1, if_pos h15, if_pos h16, if_neg h17, if_pos h18]), rfl⟩
          · skip
            refine fr_aload_n d_O_breaker_241 rfl ?_
            refine fr_getr (k' := 60) (r' := 0) d_O_breaker_242 fl_O_66 rfl rfl rfl (Or.inr ⟨rfl, rfl⟩) ?_
            refine fr_iload_n d_O_breaker_245 rfl ?_
            refine fr_iald (r) d_O_breaker_246 rfl rfl (Or.inr ⟨rfl, rfl⟩) rfl (fm_lt8 hw hr) (by decide) ?_
            refine fr_if_ne 276 d_O_breaker_247 rfl (fun h19 => ?_) (fun h19 => ?_)
            · skip
              exact fr_vret d_O_breaker_276 rfl (Nat.zero_le _) (Nat.zero_le _) ⟨(by unfold f_O_breaker; rw [if_neg h1, if_pos h15, if_pos h16, if_neg h17, if_neg h18, if_neg h19]), rfl⟩
            · skip
              refine fr_aload_n d_O_breaker_250 rfl ?_
              refine fr_geti d_O_breaker_251 fl_O_115 rfl rfl (Or.inr ⟨rfl, rfl⟩) ?_
              refine fr_aload_n d_O_breaker_254 rfl ?_
              refine fr_getr (k' := 67) (r' := 0) d_O_breaker_255 fl_O_87 rfl rfl rfl (Or.inr ⟨rfl, rfl⟩) ?_
              refine fr_iload_n d_O_breaker_258 rfl ?_
              refine fr_iald (r) d_O_breaker_259 rfl rfl (Or.inr ⟨rfl, rfl⟩) rfl (fm_lt8 hw hr) (by decide) ?_
              refine fr_icmp_lt 276 d_O_breaker_260 rfl (fun h20 => ?_) (fun h20 => ?_)
              · skip
                exact fr_vret d_O_breaker_276 rfl (Nat.zero_le _) (Nat.zero_le _) ⟨(by unfold f_O_breaker; rw [if_neg h1, if_pos h15, if_pos h16, if_neg h17, if_neg h18, if_pos h19, if_pos h20]), rfl⟩
              · skip
                refine fr_aload_n d_O_breaker_263 rfl ?_
                refine fr_getr (k' := 66) (r' := 0) d_O_breaker_264 fl_O_84 rfl rfl rfl (Or.inr ⟨rfl, rfl⟩) ?_
                refine fr_iload_n d_O_breaker_267 rfl ?_
                refine fr_iconst d_O_breaker_268 fr_i0 ?_
                refine fr_iast (r) d_O_breaker_269 rfl rfl (Or.inr ⟨rfl, rfl⟩) rfl (fm_lt8 hw hr) (by decide) ?_
                refine fr_aload_n d_O_breaker_270 rfl ?_
                refine fr_iconst d_O_breaker_271 fr_i4 ?_
                refine fr_iload_n d_O_breaker_272 rfl ?_
                refine fr_callVv fr_q6 d_O_breaker_273 (ct_O_note X n _ _ _ _ (fm_ui (k := 66) rfl hw)) mv_O_131 rfl rfl rfl (Or.inr ⟨rfl, rfl⟩) rfl rfl ⟨Nat.le_of_ble_eq_true rfl, Nat.le_of_ble_eq_true rfl⟩ ⟨rfl, rfl⟩ ⟨Nat.zero_le _, Nat.zero_le _⟩ (Nat.le_of_ble_eq_true rfl) (fun I' J' hp21 => ?_)
                obtain ⟨rfl, rfl⟩ := hp21
                exact fr_vret d_O_breaker_276 rfl (Nat.zero_le _) (Nat.zero_le _) ⟨(by unfold f_O_breaker; rw [if_neg h1, if_pos h15, if_pos h16, if_neg h17, if_neg h18, if_pos h19, if_neg h20]), rfl⟩
      · skip
        refine fr_aload_n d_O_breaker_164 rfl ?_
        refine fr_geti d_O_breaker_165 fl_O_115 rfl rfl (Or.inr ⟨rfl, rfl⟩) ?_
        refine fr_aload_n d_O_breaker_168 rfl ?_
        refine fr_getr (k' := 64) (r' := 0) d_O_breaker_169 fl_O_78 rfl rfl rfl (Or.inr ⟨rfl, rfl⟩) ?_
        refine fr_iload_n d_O_breaker_172 rfl ?_
        refine fr_iald (r) d_O_breaker_173 rfl rfl (Or.inr ⟨rfl, rfl⟩) rfl (fm_lt8 hw hr) (by decide) ?_
        refine fr_icmp_lt 223 d_O_breaker_174 rfl (fun h22 => ?_) (fun h22 => ?_)
        · skip
          refine fr_aload_n d_O_breaker_223 rfl ?_
          refine fr_getr (k' := 66) (r' := 0) d_O_breaker_224 fl_O_84 rfl rfl rfl (Or.inr ⟨rfl, rfl⟩) ?_
          refine fr_iload_n d_O_breaker_227 rfl ?_
          refine fr_iald (r) d_O_breaker_228 rfl rfl (Or.inr ⟨rfl, rfl⟩) rfl (fm_lt8 hw hr) (by decide) ?_
          refine fr_if_le 276 d_O_breaker_229 rfl (fun h23 => ?_) (fun h23 => ?_)
          · skip
            exact fr_vret d_O_breaker_276 rfl (Nat.zero_le _) (Nat.zero_le _) ⟨(by unfold f_O_breaker; rw [if_neg h1, if_pos h15, if_neg h16, if_pos h22, if_pos h23]), rfl⟩
          · skip
            refine fr_aload_n d_O_breaker_232 rfl ?_
            refine fr_getr (k' := 43) (r' := 0) d_O_breaker_233 fl_O_13 rfl rfl rfl (Or.inr ⟨rfl, rfl⟩) ?_
            refine fr_iload_n d_O_breaker_236 rfl ?_
            refine fr_zald (r) d_O_breaker_237 rfl rfl (Or.inr ⟨rfl, rfl⟩) rfl (fm_lt8 hw hr) (by decide) ?_
            refine fr_if_eq 276 d_O_breaker_238 rfl (fun h24 => ?_) (fun h24 => ?_)
            · skip
              exact fr_vret d_O_breaker_276 rfl (Nat.zero_le _) (Nat.zero_le _) ⟨(by unfold f_O_breaker; rw [if_neg h1, if_pos h15, if_neg h16, if_pos h22, if_neg h23, if_pos h24]), rfl⟩
            · skip
              refine fr_aload_n d_O_breaker_241 rfl ?_
              refine fr_getr (k' := 60) (r' := 0) d_O_breaker_242 fl_O_66 rfl rfl rfl (Or.inr ⟨rfl, rfl⟩) ?_
              refine fr_iload_n d_O_breaker_245 rfl ?_
              refine fr_iald (r) d_O_breaker_246 rfl rfl (Or.inr ⟨rfl, rfl⟩) rfl (fm_lt8 hw hr) (by decide) ?_
              refine fr_if_ne 276 d_O_breaker_247 rfl (fun h25 => ?_) (fun h25 => ?_)
              · skip
                exact fr_vret d_O_breaker_276 rfl (Nat.zero_le _) (Nat.zero_le _) ⟨(by unfold f_O_breaker; rw [if_neg h1, if_pos h15, if_neg h16, if_pos h22, if_neg h23, if_neg h24, if_neg h25]), rfl⟩
              · skip
                refine fr_aload_n d_O_breaker_250 rfl ?_
                refine fr_geti d_O_breaker_251 fl_O_115 rfl rfl (Or.inr ⟨rfl, rfl⟩) ?_
                refine fr_aload_n d_O_breaker_254 rfl ?_
                refine fr_getr (k' := 67) (r' := 0) d_O_breaker_255 fl_O_87 rfl rfl rfl (Or.inr ⟨rfl, rfl⟩) ?_
                refine fr_iload_n d_O_breaker_258 rfl ?_
                refine fr_iald (r) d_O_breaker_259 rfl rfl (Or.inr ⟨rfl, rfl⟩) rfl (fm_lt8 hw hr) (by decide) ?_
                refine fr_icmp_lt 276 d_O_breaker_260 rfl (fun h26 => ?_) (fun h26 => ?_)
                · skip
                  exact fr_vret d_O_breaker_276 rfl (Nat.zero_le _) (Nat.zero_le _) ⟨(by unfold f_O_breaker; rw [if_neg h1, if_pos h15, if_neg h16, if_pos h22, if_neg h23, if_neg h24, if_pos h25, if_pos h26]), rfl⟩
                · skip
                  refine fr_aload_n d_O_breaker_263 rfl ?_
                  refine fr_getr (k' := 66) (r' := 0) d_O_breaker_264 fl_O_84 rfl rfl rfl (Or.inr ⟨rfl, rfl⟩) ?_
                  refine fr_iload_n d_O_breaker_267 rfl ?_
                  refine fr_iconst d_O_breaker_268 fr_i0 ?_
                  refine fr_iast (r) d_O_breaker_269 rfl rfl (Or.inr ⟨rfl, rfl⟩) rfl (fm_lt8 hw hr) (by decide) ?_
                  refine fr_aload_n d_O_breaker_270 rfl ?_
                  refine fr_iconst d_O_breaker_271 fr_i4 ?_
                  refine fr_iload_n d_O_breaker_272 rfl ?_
                  refine fr_callVv fr_q6 d_O_breaker_273 (ct_O_note X n _ _ _ _ (fm_ui (k := 66) rfl hw)) mv_O_131 rfl rfl rfl (Or.inr ⟨rfl, rfl⟩) rfl rfl ⟨Nat.le_of_ble_eq_true rfl, Nat.le_of_ble_eq_true rfl⟩ ⟨rfl, rfl⟩ ⟨Nat.zero_le _, Nat.zero_le _⟩ (Nat.le_of_ble_eq_true rfl) (fun I' J' hp27 => ?_)
                  obtain ⟨rfl, rfl⟩ := hp27
                  exact fr_vret d_O_breaker_276 rfl (Nat.zero_le _) (Nat.zero_le _) ⟨(by unfold f_O_breaker; rw [if_neg h1, if_pos h15, if_neg h16, if_pos h22, if_neg h23, if_neg h24, if_pos h25, if_neg h26]), rfl⟩
        · skip
          refine fr_aload_n d_O_breaker_177 rfl ?_
          refine fr_getr (k' := 43) (r' := 0) d_O_breaker_178 fl_O_13 rfl rfl rfl (Or.inr ⟨rfl, rfl⟩) ?_
          refine fr_iload_n d_O_breaker_181 rfl ?_
          refine fr_iconst d_O_breaker_182 fr_i1 ?_
          refine fr_zast (r) d_O_breaker_183 rfl rfl (Or.inr rfl) (Or.inr ⟨rfl, rfl⟩) rfl (fm_lt8 hw hr) (by decide) ?_
          refine fr_aload_n d_O_breaker_184 rfl ?_
          refine fr_getr (k' := 63) (r' := 0) d_O_breaker_185 fl_O_75 rfl rfl rfl (Or.inr ⟨rfl, rfl⟩) ?_
          refine fr_iload_n d_O_breaker_188 rfl ?_
          refine fr_iconst d_O_breaker_189 fr_i0 ?_
          refine fr_zast (r) d_O_breaker_190 rfl rfl (Or.inl rfl) (Or.inr ⟨rfl, rfl⟩) rfl (fm_lt8 hw hr) (by decide) ?_
          refine fr_aload_n d_O_breaker_191 rfl ?_
          refine fr_getr (k' := 66) (r' := 0) d_O_breaker_192 fl_O_84 rfl rfl rfl (Or.inr ⟨rfl, rfl⟩) ?_
          refine fr_iload_n d_O_breaker_195 rfl ?_
          refine fr_dup2 d_O_breaker_196 rfl rfl ?_
          refine fr_iald (r) d_O_breaker_197 rfl rfl (Or.inr ⟨rfl, rfl⟩) rfl (fm_lt8 hw hr) (by decide) ?_
          refine fr_iconst d_O_breaker_198 fr_i1 ?_
          refine fr_iadd d_O_breaker_199 ?_
          refine fr_iast (r) d_O_breaker_200 rfl rfl (Or.inr ⟨rfl, rfl⟩) rfl (fm_lt8 hw hr) (by decide) ?_
          refine fr_aload_n d_O_breaker_201 rfl ?_
          refine fr_getr (k' := 67) (r' := 0) d_O_breaker_202 fl_O_87 rfl rfl rfl (Or.inr ⟨rfl, rfl⟩) ?_
          refine fr_iload_n d_O_breaker_205 rfl ?_
          refine fr_aload_n d_O_breaker_206 rfl ?_
          refine fr_geti d_O_breaker_207 fl_O_115 rfl rfl (Or.inr ⟨rfl, rfl⟩) ?_
          refine fr_bipush d_O_breaker_210 fr_b30 ?_
          refine fr_iadd d_O_breaker_212 ?_
          refine fr_iast (r) d_O_breaker_213 rfl rfl (Or.inr ⟨rfl, rfl⟩) rfl (fm_lt8 hw hr) (by decide) ?_
          refine fr_aload_n d_O_breaker_214 rfl ?_
          refine fr_iconst d_O_breaker_215 fr_i3 ?_
          refine fr_iload_n d_O_breaker_216 rfl ?_
          refine fr_callVv fr_q6 d_O_breaker_217 (ct_O_note X n _ _ _ _ (fm_ui (k := 67) rfl (fm_ui (k := 66) rfl (fm_ui (k := 63) rfl (fm_ui (k := 43) rfl hw))))) mv_O_131 rfl rfl rfl (Or.inr ⟨rfl, rfl⟩) rfl rfl ⟨Nat.le_of_ble_eq_true rfl, Nat.le_of_ble_eq_true rfl⟩ ⟨rfl, rfl⟩ ⟨Nat.zero_le _, Nat.zero_le _⟩ (Nat.le_of_ble_eq_true rfl) (fun I' J' hp28 => ?_)
          obtain ⟨rfl, rfl⟩ := hp28
          refine fr_goto 276 d_O_breaker_220 rfl ?_
          exact fr_vret d_O_breaker_276 rfl (Nat.zero_le _) (Nat.zero_le _) ⟨(by unfold f_O_breaker; rw [if_neg h1, if_pos h15, if_neg h16, if_neg h22]), rfl⟩
    · skip
      refine fr_aload_n d_O_breaker_24 rfl ?_
      refine fr_getr (k' := 44) (r' := 0) d_O_breaker_25 fl_O_17 rfl rfl rfl (Or.inr ⟨rfl, rfl⟩) ?_
      refine fr_iload_n d_O_breaker_28 rfl ?_
      refine fr_zald (r) d_O_breaker_29 rfl rfl (Or.inr ⟨rfl, rfl⟩) rfl (fm_lt8 hw hr) (by decide) ?_
      refine fr_if_ne 155 d_O_breaker_30 rfl (fun h29 => ?_) (fun h29 => ?_)
      · skip
        refine fr_aload_n d_O_breaker_155 rfl ?_
        refine fr_getr (k' := 63) (r' := 0) d_O_breaker_156 fl_O_75 rfl rfl rfl (Or.inr ⟨rfl, rfl⟩) ?_
        refine fr_iload_n d_O_breaker_159 rfl ?_
        refine fr_zald (r) d_O_breaker_160 rfl rfl (Or.inr ⟨rfl, rfl⟩) rfl (fm_lt8 hw hr) (by decide) ?_
        refine fr_if_eq 223 d_O_breaker_161 rfl (fun h30 => ?_) (fun h30 => ?_)
        · skip
          refine fr_aload_n d_O_breaker_223 rfl ?_
          refine fr_getr (k' := 66) (r' := 0) d_O_breaker_224 fl_O_84 rfl rfl rfl (Or.inr ⟨rfl, rfl⟩) ?_
          refine fr_iload_n d_O_breaker_227 rfl ?_
          refine fr_iald (r) d_O_breaker_228 rfl rfl (Or.inr ⟨rfl, rfl⟩) rfl (fm_lt8 hw hr) (by decide) ?_
          refine fr_if_le 276 d_O_breaker_229 rfl (fun h31 => ?_) (fun h31 => ?_)
          · skip
            exact fr_vret d_O_breaker_276 rfl (Nat.zero_le _) (Nat.zero_le _) ⟨(by unfold f_O_breaker; rw [if_neg h1, if_neg h15, if_neg h29, if_pos h30, if_pos h31]), rfl⟩
          · skip
            refine fr_aload_n d_O_breaker_232 rfl ?_
            refine fr_getr (k' := 43) (r' := 0) d_O_breaker_233 fl_O_13 rfl rfl rfl (Or.inr ⟨rfl, rfl⟩) ?_
            refine fr_iload_n d_O_breaker_236 rfl ?_
            refine fr_zald (r) d_O_breaker_237 rfl rfl (Or.inr ⟨rfl, rfl⟩) rfl (fm_lt8 hw hr) (by decide) ?_
            refine fr_if_eq 276 d_O_breaker_238 rfl (fun h32 => ?_) (fun h32 => ?_)
            · skip
              exact fr_vret d_O_breaker_276 rfl (Nat.zero_le _) (Nat.zero_le _) ⟨(by unfold f_O_breaker; rw [if_neg h1, if_neg h15, if_neg h29, if_pos h30, if_neg h31, if_pos h32]), rfl⟩
            · skip
              refine fr_aload_n d_O_breaker_241 rfl ?_
              refine fr_getr (k' := 60) (r' := 0) d_O_breaker_242 fl_O_66 rfl rfl rfl (Or.inr ⟨rfl, rfl⟩) ?_
              refine fr_iload_n d_O_breaker_245 rfl ?_
              refine fr_iald (r) d_O_breaker_246 rfl rfl (Or.inr ⟨rfl, rfl⟩) rfl (fm_lt8 hw hr) (by decide) ?_
              refine fr_if_ne 276 d_O_breaker_247 rfl (fun h33 => ?_) (fun h33 => ?_)
              · skip
                exact fr_vret d_O_breaker_276 rfl (Nat.zero_le _) (Nat.zero_le _) ⟨(by unfold f_O_breaker; rw [if_neg h1, if_neg h15, if_neg h29, if_pos h30, if_neg h31, if_neg h32, if_neg h33]), rfl⟩
              · skip
                refine fr_aload_n d_O_breaker_250 rfl ?_
                refine fr_geti d_O_breaker_251 fl_O_115 rfl rfl (Or.inr ⟨rfl, rfl⟩) ?_
                refine fr_aload_n d_O_breaker_254 rfl ?_
                refine fr_getr (k' := 67) (r' := 0) d_O_breaker_255 fl_O_87 rfl rfl rfl (Or.inr ⟨rfl, rfl⟩) ?_
                refine fr_iload_n d_O_breaker_258 rfl ?_
                refine fr_iald (r) d_O_breaker_259 rfl rfl (Or.inr ⟨rfl, rfl⟩) rfl (fm_lt8 hw hr) (by decide) ?_
                refine fr_icmp_lt 276 d_O_breaker_260 rfl (fun h34 => ?_) (fun h34 => ?_)
                · skip
                  exact fr_vret d_O_breaker_276 rfl (Nat.zero_le _) (Nat.zero_le _) ⟨(by unfold f_O_breaker; rw [if_neg h1, if_neg h15, if_neg h29, if_pos h30, if_neg h31, if_neg h32, if_pos h33, if_pos h34]), rfl⟩
                · skip
                  refine fr_aload_n d_O_breaker_263 rfl ?_
                  refine fr_getr (k' := 66) (r' := 0) d_O_breaker_264 fl_O_84 rfl rfl rfl (Or.inr ⟨rfl, rfl⟩) ?_
                  refine fr_iload_n d_O_breaker_267 rfl ?_
                  refine fr_iconst d_O_breaker_268 fr_i0 ?_
                  refine fr_iast (r) d_O_breaker_269 rfl rfl (Or.inr ⟨rfl, rfl⟩) rfl (fm_lt8 hw hr) (by decide) ?_
                  refine fr_aload_n d_O_breaker_270 rfl ?_
                  refine fr_iconst d_O_breaker_271 fr_i4 ?_
                  refine fr_iload_n d_O_breaker_272 rfl ?_
                  refine fr_callVv fr_q6 d_O_breaker_273 (ct_O_note X n _ _ _ _ (fm_ui (k := 66) rfl hw)) mv_O_131 rfl rfl rfl (Or.inr ⟨rfl, rfl⟩) rfl rfl ⟨Nat.le_of_ble_eq_true rfl, Nat.le_of_ble_eq_true rfl⟩ ⟨rfl, rfl⟩ ⟨Nat.zero_le _, Nat.zero_le _⟩ (Nat.le_of_ble_eq_true rfl) (fun I' J' hp35 => ?_)
                  obtain ⟨rfl, rfl⟩ := hp35
                  exact fr_vret d_O_breaker_276 rfl (Nat.zero_le _) (Nat.zero_le _) ⟨(by unfold f_O_breaker; rw [if_neg h1, if_neg h15, if_neg h29, if_pos h30, if_neg h31, if_neg h32, if_pos h33, if_neg h34]), rfl⟩
        · skip
          refine fr_aload_n d_O_breaker_164 rfl ?_
          refine fr_geti d_O_breaker_165 fl_O_115 rfl rfl (Or.inr ⟨rfl, rfl⟩) ?_
          refine fr_aload_n d_O_breaker_168 rfl ?_
          refine fr_getr (k' := 64) (r' := 0) d_O_breaker_169 fl_O_78 rfl rfl rfl (Or.inr ⟨rfl, rfl⟩) ?_
          refine fr_iload_n d_O_breaker_172 rfl ?_
          refine fr_iald (r) d_O_breaker_173 rfl rfl (Or.inr ⟨rfl, rfl⟩) rfl (fm_lt8 hw hr) (by decide) ?_
          refine fr_icmp_lt 223 d_O_breaker_174 rfl (fun h36 => ?_) (fun h36 => ?_)
          · skip
            refine fr_aload_n d_O_breaker_223 rfl ?_
            refine fr_getr (k' := 66) (r' := 0) d_O_breaker_224 fl_O_84 rfl rfl rfl (Or.inr ⟨rfl, rfl⟩) ?_
            refine fr_iload_n d_O_breaker_227 rfl ?_
            refine fr_iald (r) d_O_breaker_228 rfl rfl (Or.inr ⟨rfl, rfl⟩) rfl (fm_lt8 hw hr) (by decide) ?_
            refine fr_if_le 276 d_O_breaker_229 rfl (fun h37 => ?_) (fun h37 => ?_)
            · skip
              exact fr_vret d_O_breaker_276 rfl (Nat.zero_le _) (Nat.zero_le _) ⟨(by unfold f_O_breaker; rw [if_neg h1, if_neg h15, if_neg h29, if_neg h30, if_pos h36, if_pos h37]), rfl⟩
            · skip
              refine fr_aload_n d_O_breaker_232 rfl ?_
              refine fr_getr (k' := 43) (r' := 0) d_O_breaker_233 fl_O_13 rfl rfl rfl (Or.inr ⟨rfl, rfl⟩) ?_
              refine fr_iload_n d_O_breaker_236 rfl ?_
              refine fr_zald (r) d_O_breaker_237 rfl rfl (Or.inr ⟨rfl, rfl⟩) rfl (fm_lt8 hw hr) (by decide) ?_
              refine fr_if_eq 276 d_O_breaker_238 rfl (fun h38 => ?_) (fun h38 => ?_)
              · skip
                exact fr_vret d_O_breaker_276 rfl (Nat.zero_le _) (Nat.zero_le _) ⟨(by unfold f_O_breaker; rw [if_neg h1, if_neg h15, if_neg h29, if_neg h30, if_pos h36, if_neg h37, if_pos h38]), rfl⟩
              · skip
                refine fr_aload_n d_O_breaker_241 rfl ?_
                refine fr_getr (k' := 60) (r' := 0) d_O_breaker_242 fl_O_66 rfl rfl rfl (Or.inr ⟨rfl, rfl⟩) ?_
                refine fr_iload_n d_O_breaker_245 rfl ?_
                refine fr_iald (r) d_O_breaker_246 rfl rfl (Or.inr ⟨rfl, rfl⟩) rfl (fm_lt8 hw hr) (by decide) ?_
                refine fr_if_ne 276 d_O_breaker_247 rfl (fun h39 => ?_) (fun h39 => ?_)
                · skip
                  exact fr_vret d_O_breaker_276 rfl (Nat.zero_le _) (Nat.zero_le _) ⟨(by unfold f_O_breaker; rw [if_neg h1, if_neg h15, if_neg h29, if_neg h30, if_pos h36, if_neg h37, if_neg h38, if_neg h39]), rfl⟩
                · skip
                  refine fr_aload_n d_O_breaker_250 rfl ?_
                  refine fr_geti d_O_breaker_251 fl_O_115 rfl rfl (Or.inr ⟨rfl, rfl⟩) ?_
                  refine fr_aload_n d_O_breaker_254 rfl ?_
                  refine fr_getr (k' := 67) (r' := 0) d_O_breaker_255 fl_O_87 rfl rfl rfl (Or.inr ⟨rfl, rfl⟩) ?_
                  refine fr_iload_n d_O_breaker_258 rfl ?_
                  refine fr_iald (r) d_O_breaker_259 rfl rfl (Or.inr ⟨rfl, rfl⟩) rfl (fm_lt8 hw hr) (by decide) ?_
                  refine fr_icmp_lt 276 d_O_breaker_260 rfl (fun h40 => ?_) (fun h40 => ?_)
                  · skip
                    exact fr_vret d_O_breaker_276 rfl (Nat.zero_le _) (Nat.zero_le _) ⟨(by unfold f_O_breaker; rw [if_neg h1, if_neg h15, if_neg h29, if_neg h30, if_pos h36, if_neg h37, if_neg h38, if_pos h39, if_pos h40]), rfl⟩
                  · skip
                    refine fr_aload_n d_O_breaker_263 rfl ?_
                    refine fr_getr (k' := 66) (r' := 0) d_O_breaker_264 fl_O_84 rfl rfl rfl (Or.inr ⟨rfl, rfl⟩) ?_
                    refine fr_iload_n d_O_breaker_267 rfl ?_
                    refine fr_iconst d_O_breaker_268 fr_i0 ?_
                    refine fr_iast (r) d_O_breaker_269 rfl rfl (Or.inr ⟨rfl, rfl⟩) rfl (fm_lt8 hw hr) (by decide) ?_
                    refine fr_aload_n d_O_breaker_270 rfl ?_
                    refine fr_iconst d_O_breaker_271 fr_i4 ?_
                    refine fr_iload_n d_O_breaker_272 rfl ?_
                    refine fr_callVv fr_q6 d_O_breaker_273 (ct_O_note X n _ _ _ _ (fm_ui (k := 66) rfl hw)) mv_O_131 rfl rfl rfl (Or.inr ⟨rfl, rfl⟩) rfl rfl ⟨Nat.le_of_ble_eq_true rfl, Nat.le_of_ble_eq_true rfl⟩ ⟨rfl, rfl⟩ ⟨Nat.zero_le _, Nat.zero_le _⟩ (Nat.le_of_ble_eq_true rfl) (fun I' J' hp41 => ?_)
                    obtain ⟨rfl, rfl⟩ := hp41
                    exact fr_vret d_O_breaker_276 rfl (Nat.zero_le _) (Nat.zero_le _) ⟨(by unfold f_O_breaker; rw [if_neg h1, if_neg h15, if_neg h29, if_neg h30, if_pos h36, if_neg h37, if_neg h38, if_pos h39, if_neg h40]), rfl⟩
          · skip
            refine fr_aload_n d_O_breaker_177 rfl ?_
            refine fr_getr (k' := 43) (r' := 0) d_O_breaker_178 fl_O_13 rfl rfl rfl (Or.inr ⟨rfl, rfl⟩) ?_
            refine fr_iload_n d_O_breaker_181 rfl ?_
            refine fr_iconst d_O_breaker_182 fr_i1 ?_
            refine fr_zast (r) d_O_breaker_183 rfl rfl (Or.inr rfl) (Or.inr ⟨rfl, rfl⟩) rfl (fm_lt8 hw hr) (by decide) ?_
            refine fr_aload_n d_O_breaker_184 rfl ?_
            refine fr_getr (k' := 63) (r' := 0) d_O_breaker_185 fl_O_75 rfl rfl rfl (Or.inr ⟨rfl, rfl⟩) ?_
            refine fr_iload_n d_O_breaker_188 rfl ?_
            refine fr_iconst d_O_breaker_189 fr_i0 ?_
            refine fr_zast (r) d_O_breaker_190 rfl rfl (Or.inl rfl) (Or.inr ⟨rfl, rfl⟩) rfl (fm_lt8 hw hr) (by decide) ?_
            refine fr_aload_n d_O_breaker_191 rfl ?_
            refine fr_getr (k' := 66) (r' := 0) d_O_breaker_192 fl_O_84 rfl rfl rfl (Or.inr ⟨rfl, rfl⟩) ?_
            refine fr_iload_n d_O_breaker_195 rfl ?_
            refine fr_dup2 d_O_breaker_196 rfl rfl ?_
            refine fr_iald (r) d_O_breaker_197 rfl rfl (Or.inr ⟨rfl, rfl⟩) rfl (fm_lt8 hw hr) (by decide) ?_
            refine fr_iconst d_O_breaker_198 fr_i1 ?_
            refine fr_iadd d_O_breaker_199 ?_
            refine fr_iast (r) d_O_breaker_200 rfl rfl (Or.inr ⟨rfl, rfl⟩) rfl (fm_lt8 hw hr) (by decide) ?_
            refine fr_aload_n d_O_breaker_201 rfl ?_
            refine fr_getr (k' := 67) (r' := 0) d_O_breaker_202 fl_O_87 rfl rfl rfl (Or.inr ⟨rfl, rfl⟩) ?_
            refine fr_iload_n d_O_breaker_205 rfl ?_
            refine fr_aload_n d_O_breaker_206 rfl ?_
            refine fr_geti d_O_breaker_207 fl_O_115 rfl rfl (Or.inr ⟨rfl, rfl⟩) ?_
            refine fr_bipush d_O_breaker_210 fr_b30 ?_
            refine fr_iadd d_O_breaker_212 ?_
            refine fr_iast (r) d_O_breaker_213 rfl rfl (Or.inr ⟨rfl, rfl⟩) rfl (fm_lt8 hw hr) (by decide) ?_
            refine fr_aload_n d_O_breaker_214 rfl ?_
            refine fr_iconst d_O_breaker_215 fr_i3 ?_
            refine fr_iload_n d_O_breaker_216 rfl ?_
            refine fr_callVv fr_q6 d_O_breaker_217 (ct_O_note X n _ _ _ _ (fm_ui (k := 67) rfl (fm_ui (k := 66) rfl (fm_ui (k := 63) rfl (fm_ui (k := 43) rfl hw))))) mv_O_131 rfl rfl rfl (Or.inr ⟨rfl, rfl⟩) rfl rfl ⟨Nat.le_of_ble_eq_true rfl, Nat.le_of_ble_eq_true rfl⟩ ⟨rfl, rfl⟩ ⟨Nat.zero_le _, Nat.zero_le _⟩ (Nat.le_of_ble_eq_true rfl) (fun I' J' hp42 => ?_)
            obtain ⟨rfl, rfl⟩ := hp42
            refine fr_goto 276 d_O_breaker_220 rfl ?_
            exact fr_vret d_O_breaker_276 rfl (Nat.zero_le _) (Nat.zero_le _) ⟨(by unfold f_O_breaker; rw [if_neg h1, if_neg h15, if_neg h29, if_neg h30, if_neg h36]), rfl⟩
      · skip
        refine fr_aload_n d_O_breaker_33 rfl ?_
        refine fr_getr (k' := 60) (r' := 0) d_O_breaker_34 fl_O_66 rfl rfl rfl (Or.inr ⟨rfl, rfl⟩) ?_
        refine fr_iload_n d_O_breaker_37 rfl ?_
        refine fr_iald (r) d_O_breaker_38 rfl rfl (Or.inr ⟨rfl, rfl⟩) rfl (fm_lt8 hw hr) (by decide) ?_
        refine fr_iconst d_O_breaker_39 fr_i1 ?_
        refine fr_ticmp_ne (t := 47) (j := 48) d_O_breaker_40 rfl (fun k => fr_iconst d_O_breaker_43 fr_i1 (fr_goto 48 d_O_breaker_44 rfl k)) (fun k => fr_iconst d_O_breaker_47 fr_i0 k) ?_
        refine fr_istore_n (L' := [(2, .int _), (0, .ref _), (1, .int _)]) d_O_breaker_48 (by decide) rfl ?_
        refine fr_aload_n d_O_breaker_49 rfl ?_
        refine fr_getr (k' := 43) (r' := 0) d_O_breaker_50 fl_O_13 rfl rfl rfl (Or.inr ⟨rfl, rfl⟩) ?_
        refine fr_iload_n d_O_breaker_53 rfl ?_
        refine fr_iconst d_O_breaker_54 fr_i0 ?_
        refine fr_zast (r) d_O_breaker_55 rfl rfl (Or.inl rfl) (Or.inr ⟨rfl, rfl⟩) rfl (fm_lt8 hw hr) (by decide) ?_
        refine fr_aload_n d_O_breaker_56 rfl ?_
        refine fr_getr (k' := 60) (r' := 0) d_O_breaker_57 fl_O_66 rfl rfl rfl (Or.inr ⟨rfl, rfl⟩) ?_
        refine fr_iload_n d_O_breaker_60 rfl ?_
        refine fr_iconst d_O_breaker_61 fr_i0 ?_
        refine fr_iast (r) d_O_breaker_62 rfl rfl (Or.inr ⟨rfl, rfl⟩) rfl (fm_lt8 hw hr) (by decide) ?_
        refine fr_aload_n d_O_breaker_63 rfl ?_
        refine fr_iconst d_O_breaker_64 fr_i2 ?_
        refine fr_iload_n d_O_breaker_65 rfl ?_
        refine fr_callVv fr_q6 d_O_breaker_66 (ct_O_note X n _ _ _ _ (fm_ui (k := 60) rfl (fm_ui (k := 43) rfl hw))) mv_O_131 rfl rfl rfl (Or.inr ⟨rfl, rfl⟩) rfl rfl ⟨Nat.le_of_ble_eq_true rfl, Nat.le_of_ble_eq_true rfl⟩ ⟨rfl, rfl⟩ ⟨Nat.zero_le _, Nat.zero_le _⟩ (Nat.le_of_ble_eq_true rfl) (fun I' J' hp43 => ?_)
        obtain ⟨rfl, rfl⟩ := hp43
        refine fr_iload_n d_O_breaker_69 rfl ?_
        refine fr_if_eq 139 d_O_breaker_70 rfl (fun h44 => ?_) (fun h44 => ?_)
        · skip
          refine fr_aload_n d_O_breaker_139 rfl ?_
          refine fr_getr (k' := 65) (r' := 0) d_O_breaker_140 fl_O_81 rfl rfl rfl (Or.inr ⟨rfl, rfl⟩) ?_
          refine fr_iload_n d_O_breaker_143 rfl ?_
          refine fr_iconst d_O_breaker_144 fr_i1 ?_
          refine fr_zast (r) d_O_breaker_145 rfl rfl (Or.inr rfl) (Or.inr ⟨rfl, rfl⟩) rfl (fm_lt8 hw hr) (by decide) ?_
          refine fr_aload_n d_O_breaker_146 rfl ?_
          refine fr_iconst d_O_breaker_147 fr_i5 ?_
          refine fr_iload_n d_O_breaker_148 rfl ?_
          refine fr_callVv fr_q6 d_O_breaker_149 (ct_O_note X n _ _ _ _ (fm_ui (k := 65) rfl (fw_O_note (fm_ui (k := 60) rfl (fm_ui (k := 43) rfl hw))))) mv_O_131 rfl rfl rfl (Or.inr ⟨rfl, rfl⟩) rfl rfl ⟨Nat.le_of_ble_eq_true rfl, Nat.le_of_ble_eq_true rfl⟩ ⟨rfl, rfl⟩ ⟨Nat.zero_le _, Nat.zero_le _⟩ (Nat.le_of_ble_eq_true rfl) (fun I' J' hp45 => ?_)
          obtain ⟨rfl, rfl⟩ := hp45
          refine fr_goto 276 d_O_breaker_152 rfl ?_
          exact fr_vret d_O_breaker_276 rfl (Nat.zero_le _) (Nat.zero_le _) ⟨(by unfold f_O_breaker; rw [if_neg h1, if_neg h15, if_pos h29, if_pos h44]), rfl⟩
        · skip
          refine fr_aload_n d_O_breaker_73 rfl ?_
          refine fr_getr (k' := 66) (r' := 0) d_O_breaker_74 fl_O_84 rfl rfl rfl (Or.inr ⟨rfl, rfl⟩) ?_
          refine fr_iload_n d_O_breaker_77 rfl ?_
          refine fr_iald (r) d_O_breaker_78 rfl rfl (Or.inr ⟨rfl, rfl⟩) rfl (fm_lt8 hw hr) (by decide) ?_
          refine fr_aload_n d_O_breaker_79 rfl ?_
          refine fr_getr (k' := 51) (r' := 0) d_O_breaker_80 fl_O_38 rfl rfl rfl (Or.inr ⟨rfl, rfl⟩) ?_
          refine fr_iload_n d_O_breaker_83 rfl ?_
          refine fr_iald (r) d_O_breaker_84 rfl rfl (Or.inr ⟨rfl, rfl⟩) rfl (fm_lt8 hw hr) (by decide) ?_
          refine fr_icmp_ge 139 d_O_breaker_85 rfl (fun h46 => ?_) (fun h46 => ?_)
          · skip
            refine fr_aload_n d_O_breaker_139 rfl ?_
            refine fr_getr (k' := 65) (r' := 0) d_O_breaker_140 fl_O_81 rfl rfl rfl (Or.inr ⟨rfl, rfl⟩) ?_
            refine fr_iload_n d_O_breaker_143 rfl ?_
            refine fr_iconst d_O_breaker_144 fr_i1 ?_
            refine fr_zast (r) d_O_breaker_145 rfl rfl (Or.inr rfl) (Or.inr ⟨rfl, rfl⟩) rfl (fm_lt8 hw hr) (by decide) ?_
            refine fr_aload_n d_O_breaker_146 rfl ?_
            refine fr_iconst d_O_breaker_147 fr_i5 ?_
            refine fr_iload_n d_O_breaker_148 rfl ?_
            refine fr_callVv fr_q6 d_O_breaker_149 (ct_O_note X n _ _ _ _ (fm_ui (k := 65) rfl (fw_O_note (fm_ui (k := 60) rfl (fm_ui (k := 43) rfl hw))))) mv_O_131 rfl rfl rfl (Or.inr ⟨rfl, rfl⟩) rfl rfl ⟨Nat.le_of_ble_eq_true rfl, Nat.le_of_ble_eq_true rfl⟩ ⟨rfl, rfl⟩ ⟨Nat.zero_le _, Nat.zero_le _⟩ (Nat.le_of_ble_eq_true rfl) (fun I' J' hp47 => ?_)
            obtain ⟨rfl, rfl⟩ := hp47
            refine fr_goto 276 d_O_breaker_152 rfl ?_
            exact fr_vret d_O_breaker_276 rfl (Nat.zero_le _) (Nat.zero_le _) ⟨(by unfold f_O_breaker; rw [if_neg h1, if_neg h15, if_pos h29, if_neg h44, if_pos h46]), rfl⟩
          · skip
            refine fr_aload_n d_O_breaker_88 rfl ?_
            refine fr_getr (k' := 63) (r' := 0) d_O_breaker_89 fl_O_75 rfl rfl rfl (Or.inr ⟨rfl, rfl⟩) ?_
            refine fr_iload_n d_O_breaker_92 rfl ?_
            refine fr_iconst d_O_breaker_93 fr_i1 ?_
            refine fr_zast (r) d_O_breaker_94 rfl rfl (Or.inr rfl) (Or.inr ⟨rfl, rfl⟩) rfl (fm_lt8 hw hr) (by decide) ?_
            refine fr_aload_n d_O_breaker_95 rfl ?_
            refine fr_getr (k' := 64) (r' := 0) d_O_breaker_96 fl_O_78 rfl rfl rfl (Or.inr ⟨rfl, rfl⟩) ?_
            refine fr_iload_n d_O_breaker_99 rfl ?_
            refine fr_aload_n d_O_breaker_100 rfl ?_
            refine fr_geti d_O_breaker_101 fl_O_115 rfl rfl (Or.inr ⟨rfl, rfl⟩) ?_
            refine fr_aload_n d_O_breaker_104 rfl ?_
            refine fr_getr (k' := 66) (r' := 0) d_O_breaker_105 fl_O_84 rfl rfl rfl (Or.inr ⟨rfl, rfl⟩) ?_
            refine fr_iload_n d_O_breaker_108 rfl ?_
            refine fr_iald (r) d_O_breaker_109 rfl rfl (Or.inr ⟨rfl, rfl⟩) rfl (fm_lt8 hw hr) (by decide) ?_
            refine fr_if_ne 117 d_O_breaker_110 rfl (fun h48 => ?_) (fun h48 => ?_)
            · skip
              refine fr_aload_n d_O_breaker_117 rfl ?_
              refine fr_getr (k' := 66) (r' := 0) d_O_breaker_118 fl_O_84 rfl rfl rfl (Or.inr ⟨rfl, rfl⟩) ?_
              refine fr_iload_n d_O_breaker_121 rfl ?_
              refine fr_iald (r) d_O_breaker_122 rfl rfl (Or.inr ⟨rfl, rfl⟩) rfl (fm_lt8 hw hr) (by decide) ?_
              refine fr_iconst d_O_breaker_123 fr_i1 ?_
              refine fr_ticmp_ne (t := 132) (j := 134) d_O_breaker_124 rfl (fun k => fr_bipush d_O_breaker_127 fr_b20 (fr_goto 134 d_O_breaker_129 rfl k)) (fun k => fr_bipush d_O_breaker_132 fr_b50 k) ?_
              refine fr_iadd d_O_breaker_134 ?_
              refine fr_iast (r) d_O_breaker_135 rfl rfl (Or.inr ⟨rfl, rfl⟩) rfl (fm_lt8 hw hr) (by decide) ?_
              refine fr_goto 152 d_O_breaker_136 rfl ?_
              refine fr_goto 276 d_O_breaker_152 rfl ?_
              exact fr_vret d_O_breaker_276 rfl (Nat.zero_le _) (Nat.zero_le _) ⟨(by unfold f_O_breaker; rw [if_neg h1, if_neg h15, if_pos h29, if_neg h44, if_neg h46, if_neg h48]), rfl⟩
            · skip
              refine fr_iconst d_O_breaker_113 fr_i5 ?_
              refine fr_goto 134 d_O_breaker_114 rfl ?_
              refine fr_iadd d_O_breaker_134 ?_
              refine fr_iast (r) d_O_breaker_135 rfl rfl (Or.inr ⟨rfl, rfl⟩) rfl (fm_lt8 hw hr) (by decide) ?_
              refine fr_goto 152 d_O_breaker_136 rfl ?_
              refine fr_goto 276 d_O_breaker_152 rfl ?_
              exact fr_vret d_O_breaker_276 rfl (Nat.zero_le _) (Nat.zero_le _) ⟨(by unfold f_O_breaker; rw [if_neg h1, if_neg h15, if_pos h29, if_neg h44, if_neg h46, if_pos h48]), rfl⟩
theorem fw_O_breaker {n : Nat} {I : fr_I} {r : Nat} (hw : fr_mw n I) : fr_mw n (f_O_breaker I r) := by
  unfold f_O_breaker
  refine fw_ite (fun h => ?_) (fun h => ?_)
  · skip
    refine fw_ite (fun h => ?_) (fun h => ?_)
    · skip
      refine fw_ite (fun h => ?_) (fun h => ?_)
      · skip
        exact hw
      · skip
        refine fw_ite (fun h => ?_) (fun h => ?_)
        · skip
          exact hw
        · skip
          refine fw_ite (fun h => ?_) (fun h => ?_)
          · skip
            refine fw_ite (fun h => ?_) (fun h => ?_)
            · skip
              exact hw
            · skip
              exact (fw_O_note (fm_ui (k := 66) rfl hw))
          · skip
            exact hw
    · skip
      refine fw_ite (fun h => ?_) (fun h => ?_)
      · skip
        refine fw_ite (fun h => ?_) (fun h => ?_)
        · skip
          exact hw
        · skip
          refine fw_ite (fun h => ?_) (fun h => ?_)
          · skip
            exact hw
          · skip
            refine fw_ite (fun h => ?_) (fun h => ?_)
            · skip
              refine fw_ite (fun h => ?_) (fun h => ?_)
              · skip
                exact hw
              · skip
                exact (fw_O_note (fm_ui (k := 66) rfl hw))
            · skip
              exact hw
      · skip
        exact (fw_O_note (fm_ui (k := 67) rfl (fm_ui (k := 66) rfl (fm_ui (k := 63) rfl (fm_ui (k := 43) rfl hw)))))
  · skip
    refine fw_ite (fun h => ?_) (fun h => ?_)
    · skip
      refine fw_ite (fun h => ?_) (fun h => ?_)
      · skip
        refine fw_ite (fun h => ?_) (fun h => ?_)
        · skip
          exact hw
        · skip
          refine fw_ite (fun h => ?_) (fun h => ?_)
          · skip
            exact hw
          · skip
            refine fw_ite (fun h => ?_) (fun h => ?_)
            · skip
              refine fw_ite (fun h => ?_) (fun h => ?_)
              · skip
                exact hw
              · skip
                exact (fw_O_note (fm_ui (k := 66) rfl hw))
            · skip
              exact hw
      · skip
        refine fw_ite (fun h => ?_) (fun h => ?_)
        · skip
          refine fw_ite (fun h => ?_) (fun h => ?_)
          · skip
            exact hw
          · skip
            refine fw_ite (fun h => ?_) (fun h => ?_)
            · skip
              exact hw
            · skip
              refine fw_ite (fun h => ?_) (fun h => ?_)
              · skip
                refine fw_ite (fun h => ?_) (fun h => ?_)
                · skip
                  exact hw
                · skip
                  exact (fw_O_note (fm_ui (k := 66) rfl hw))
              · skip
                exact hw
        · skip
          exact (fw_O_note (fm_ui (k := 67) rfl (fm_ui (k := 66) rfl (fm_ui (k := 63) rfl (fm_ui (k := 43) rfl hw)))))
    · skip
      refine fw_ite (fun h => ?_) (fun h => ?_)
      · skip
        refine fw_ite (fun h => ?_) (fun h => ?_)
        · skip
          exact (fw_O_note (fm_ui (k := 65) rfl (fw_O_note (fm_ui (k := 60) rfl (fm_ui (k := 43) rfl hw)))))
        · skip
          refine fw_ite (fun h => ?_) (fun h => ?_)
          · skip
            exact (fw_O_note (fm_ui (k := 65) rfl (fw_O_note (fm_ui (k := 60) rfl (fm_ui (k := 43) rfl hw)))))
          · skip
            refine fw_ite (fun h => ?_) (fun h => ?_)
            · skip
              exact (fm_ui (k := 64) rfl (fm_ui (k := 63) rfl (fw_O_note (fm_ui (k := 60) rfl (fm_ui (k := 43) rfl hw)))))
            · skip
              exact (fm_ui (k := 64) rfl (fm_ui (k := 63) rfl (fw_O_note (fm_ui (k := 60) rfl (fm_ui (k := 43) rfl hw)))))
      · skip
        refine fw_ite (fun h => ?_) (fun h => ?_)
        · skip
          refine fw_ite (fun h => ?_) (fun h => ?_)
          · skip
            exact hw
          · skip
            refine fw_ite (fun h => ?_) (fun h => ?_)
            · skip
              exact hw
            · skip
              refine fw_ite (fun h => ?_) (fun h => ?_)
              · skip
                refine fw_ite (fun h => ?_) (fun h => ?_)
                · skip
                  exact hw
                · skip
                  exact (fw_O_note (fm_ui (k := 66) rfl hw))
              · skip
                exact hw
        · skip
          refine fw_ite (fun h => ?_) (fun h => ?_)
          · skip
            refine fw_ite (fun h => ?_) (fun h => ?_)
            · skip
              exact hw
            · skip
              refine fw_ite (fun h => ?_) (fun h => ?_)
              · skip
                exact hw
              · skip
                refine fw_ite (fun h => ?_) (fun h => ?_)
                · skip
                  refine fw_ite (fun h => ?_) (fun h => ?_)
                  · skip
                    exact hw
                  · skip
                    exact (fw_O_note (fm_ui (k := 66) rfl hw))
                · skip
                  exact hw
          · skip
            exact (fw_O_note (fm_ui (k := 67) rfl (fm_ui (k := 66) rfl (fm_ui (k := 63) rfl (fm_ui (k := 43) rfl hw)))))
theorem fc_O_breaker {P : fr_I → Prop} (hP : fr_ost P) {I : fr_I} {r : Nat} (h : P I) : P (f_O_breaker I r) := by
  unfold f_O_breaker
  refine fw_ite (fun _ => ?_) (fun _ => ?_)
  · skip
    refine fw_ite (fun _ => ?_) (fun _ => ?_)
    · skip
      refine fw_ite (fun _ => ?_) (fun _ => ?_)
      · skip
        exact h
      · skip
        refine fw_ite (fun _ => ?_) (fun _ => ?_)
        · skip
          exact h
        · skip
          refine fw_ite (fun _ => ?_) (fun _ => ?_)
          · skip
            refine fw_ite (fun _ => ?_) (fun _ => ?_)
            · skip
              exact h
            · skip
              exact (fc_O_note hP (hP (k := 66) (by decide) h))
          · skip
            exact h
    · skip
      refine fw_ite (fun _ => ?_) (fun _ => ?_)
      · skip
        refine fw_ite (fun _ => ?_) (fun _ => ?_)
        · skip
          exact h
        · skip
          refine fw_ite (fun _ => ?_) (fun _ => ?_)
          · skip
            exact h
          · skip
            refine fw_ite (fun _ => ?_) (fun _ => ?_)
            · skip
              refine fw_ite (fun _ => ?_) (fun _ => ?_)
              · skip
                exact h
              · skip
                exact (fc_O_note hP (hP (k := 66) (by decide) h))
            · skip
              exact h
      · skip
        exact (fc_O_note hP (hP (k := 67) (by decide) (hP (k := 66) (by decide) (hP (k := 63) (by decide) (hP (k := 43) (by decide) h)))))
  · skip
    refine fw_ite (fun _ => ?_) (fun _ => ?_)
    · skip
      refine fw_ite (fun _ => ?_) (fun _ => ?_)
      · skip
        refine fw_ite (fun _ => ?_) (fun _ => ?_)
        · skip
          exact h
        · skip
          refine fw_ite (fun _ => ?_) (fun _ => ?_)
          · skip
            exact h
          · skip
            refine fw_ite (fun _ => ?_) (fun _ => ?_)
            · skip
              refine fw_ite (fun _ => ?_) (fun _ => ?_)
              · skip
                exact h
              · skip
                exact (fc_O_note hP (hP (k := 66) (by decide) h))
            · skip
              exact h
      · skip
        refine fw_ite (fun _ => ?_) (fun _ => ?_)
        · skip
          refine fw_ite (fun _ => ?_) (fun _ => ?_)
          · skip
            exact h
          · skip
            refine fw_ite (fun _ => ?_) (fun _ => ?_)
            · skip
              exact h
            · skip
              refine fw_ite (fun _ => ?_) (fun _ => ?_)
              · skip
                refine fw_ite (fun _ => ?_) (fun _ => ?_)
                · skip
                  exact h
                · skip
                  exact (fc_O_note hP (hP (k := 66) (by decide) h))
              · skip
                exact h
        · skip
          exact (fc_O_note hP (hP (k := 67) (by decide) (hP (k := 66) (by decide) (hP (k := 63) (by decide) (hP (k := 43) (by decide) h)))))
    · skip
      refine fw_ite (fun _ => ?_) (fun _ => ?_)
      · skip
        refine fw_ite (fun _ => ?_) (fun _ => ?_)
        · skip
          exact (fc_O_note hP (hP (k := 65) (by decide) (fc_O_note hP (hP (k := 60) (by decide) (hP (k := 43) (by decide) h)))))
        · skip
          refine fw_ite (fun _ => ?_) (fun _ => ?_)
          · skip
            exact (fc_O_note hP (hP (k := 65) (by decide) (fc_O_note hP (hP (k := 60) (by decide) (hP (k := 43) (by decide) h)))))
          · skip
            refine fw_ite (fun _ => ?_) (fun _ => ?_)
            · skip
              exact (hP (k := 64) (by decide) (hP (k := 63) (by decide) (fc_O_note hP (hP (k := 60) (by decide) (hP (k := 43) (by decide) h)))))
            · skip
              exact (hP (k := 64) (by decide) (hP (k := 63) (by decide) (fc_O_note hP (hP (k := 60) (by decide) (hP (k := 43) (by decide) h)))))
      · skip
        refine fw_ite (fun _ => ?_) (fun _ => ?_)
        · skip
          refine fw_ite (fun _ => ?_) (fun _ => ?_)
          · skip
            exact h
          · skip
            refine fw_ite (fun _ => ?_) (fun _ => ?_)
            · skip
              exact h
            · skip
              refine fw_ite (fun _ => ?_) (fun _ => ?_)
              · skip
                refine fw_ite (fun _ => ?_) (fun _ => ?_)
                · skip
                  exact h
                · skip
                  exact (fc_O_note hP (hP (k := 66) (by decide) h))
              · skip
                exact h
        · skip
          refine fw_ite (fun _ => ?_) (fun _ => ?_)
          · skip
            refine fw_ite (fun _ => ?_) (fun _ => ?_)
            · skip
              exact h
            · skip
              refine fw_ite (fun _ => ?_) (fun _ => ?_)
              · skip
                exact h
              · skip
                refine fw_ite (fun _ => ?_) (fun _ => ?_)
                · skip
                  refine fw_ite (fun _ => ?_) (fun _ => ?_)
                  · skip
                    exact h
                  · skip
                    exact (fc_O_note hP (hP (k := 66) (by decide) h))
                · skip
                  exact h
          · skip
            exact (fc_O_note hP (hP (k := 67) (by decide) (hP (k := 66) (by decide) (hP (k := 63) (by decide) (hP (k := 43) (by decide) h)))))
def f_O_fail (I : fr_I) (r : Nat) : fr_I :=
  if (I 60 0 r) = 0 then
    I
  else
    if ((I 20 0 1) - (I 61 0 r)) < (I 52 0 r) then
      I
    else
      if (I 62 0 r) = 0 then
        if (I 56 0 r) = 0 then
          I
        else
          if ((f_O_note ((fr_ui I 62 0 r 1)) 6 (nI r)) 42 0 r) < 0 then
            (f_O_note ((fr_ui I 62 0 r 1)) 6 (nI r))
          else
            if ((f_O_note ((fr_ui I 62 0 r 1)) 6 (nI r)) 43 0 (((f_O_note ((fr_ui I 62 0 r 1)) 6 (nI r)) 42 0 r).toNatClampNeg)) = 0 then
              (f_O_note ((fr_ui I 62 0 r 1)) 6 (nI r))
            else
              if ((f_O_note ((fr_ui I 62 0 r 1)) 6 (nI r)) 60 0 (((f_O_note ((fr_ui I 62 0 r 1)) 6 (nI r)) 42 0 r).toNatClampNeg)) = 0 then
                (f_O_note ((f_O_give ((f_O_note ((fr_ui I 62 0 r 1)) 6 (nI r))) (((f_O_note ((fr_ui I 62 0 r 1)) 6 (nI r)) 42 0 r).toNatClampNeg) 2)) 7 ((f_O_note ((fr_ui I 62 0 r 1)) 6 (nI r)) 42 0 r))
              else
                (f_O_note ((fr_ui I 62 0 r 1)) 6 (nI r))
      else
        I
set_option maxRecDepth 10000 in
theorem ct_O_fail (X : fr_X) (n : Nat) (r : Nat) (hr : r < n) (I : fr_I) (J : fr_J)  (hw : fr_mw n I) : fr_Ct X y_O_fail c_O_fail 3 none (fr_rm 1) [.ref (fr_ad X 20 0), .int (nI r)] (fr_Z0 X n) (fr_Z0 X n) I J (fr_pv (fun I' J' => (f_O_fail I r) = I' ∧ J = J')) := by
  refine fr_ct (by decide) rfl rfl (Nat.le_of_ble_eq_true rfl) rfl (fun E => ?_)
  refine fr_aload_n d_O_fail_0 rfl ?_
  refine fr_getr (k' := 60) (r' := 0) d_O_fail_1 fl_O_66 rfl rfl rfl (Or.inr ⟨rfl, rfl⟩) ?_
  refine fr_iload_n d_O_fail_4 rfl ?_
  refine fr_iald (r) d_O_fail_5 rfl rfl (Or.inr ⟨rfl, rfl⟩) rfl (fm_lt8 hw hr) (by decide) ?_
  refine fr_if_eq 47 d_O_fail_6 rfl (fun h1 => ?_) (fun h1 => ?_)
  · skip
    exact fr_vret d_O_fail_47 rfl (Nat.zero_le _) (Nat.zero_le _) ⟨(by unfold f_O_fail; rw [if_pos h1]), rfl⟩
  · skip
    refine fr_aload_n d_O_fail_9 rfl ?_
    refine fr_geti d_O_fail_10 fl_O_115 rfl rfl (Or.inr ⟨rfl, rfl⟩) ?_
    refine fr_aload_n d_O_fail_13 rfl ?_
    refine fr_getr (k' := 61) (r' := 0) d_O_fail_14 fl_O_69 rfl rfl rfl (Or.inr ⟨rfl, rfl⟩) ?_
    refine fr_iload_n d_O_fail_17 rfl ?_
    refine fr_iald (r) d_O_fail_18 rfl rfl (Or.inr ⟨rfl, rfl⟩) rfl (fm_lt8 hw hr) (by decide) ?_
    refine fr_isub d_O_fail_19 ?_
    refine fr_aload_n d_O_fail_20 rfl ?_
    refine fr_getr (k' := 52) (r' := 0) d_O_fail_21 fl_O_41 rfl rfl rfl (Or.inr ⟨rfl, rfl⟩) ?_
    refine fr_iload_n d_O_fail_24 rfl ?_
    refine fr_iald (r) d_O_fail_25 rfl rfl (Or.inr ⟨rfl, rfl⟩) rfl (fm_lt8 hw hr) (by decide) ?_
    refine fr_icmp_lt 47 d_O_fail_26 rfl (fun h2 => ?_) (fun h2 => ?_)
    · skip
      exact fr_vret d_O_fail_47 rfl (Nat.zero_le _) (Nat.zero_le _) ⟨(by unfold f_O_fail; rw [if_neg h1, if_pos h2]), rfl⟩
    · skip
      refine fr_aload_n d_O_fail_29 rfl ?_
      refine fr_getr (k' := 62) (r' := 0) d_O_fail_30 fl_O_72 rfl rfl rfl (Or.inr ⟨rfl, rfl⟩) ?_
      refine fr_iload_n d_O_fail_33 rfl ?_
      refine fr_zald (r) d_O_fail_34 rfl rfl (Or.inr ⟨rfl, rfl⟩) rfl (fm_lt8 hw hr) (by decide) ?_
      refine fr_if_ne 47 d_O_fail_35 rfl (fun h3 => ?_) (fun h3 => ?_)
      · skip
        exact fr_vret d_O_fail_47 rfl (Nat.zero_le _) (Nat.zero_le _) ⟨(by unfold f_O_fail; rw [if_neg h1, if_neg h2, if_neg h3]), rfl⟩
      · skip
        refine fr_aload_n d_O_fail_38 rfl ?_
        refine fr_getr (k' := 56) (r' := 0) d_O_fail_39 fl_O_54 rfl rfl rfl (Or.inr ⟨rfl, rfl⟩) ?_
        refine fr_iload_n d_O_fail_42 rfl ?_
        refine fr_zald (r) d_O_fail_43 rfl rfl (Or.inr ⟨rfl, rfl⟩) rfl (fm_lt8 hw hr) (by decide) ?_
        refine fr_if_ne 48 d_O_fail_44 rfl (fun h4 => ?_) (fun h4 => ?_)
        · skip
          refine fr_aload_n d_O_fail_48 rfl ?_
          refine fr_getr (k' := 62) (r' := 0) d_O_fail_49 fl_O_72 rfl rfl rfl (Or.inr ⟨rfl, rfl⟩) ?_
          refine fr_iload_n d_O_fail_52 rfl ?_
          refine fr_iconst d_O_fail_53 fr_i1 ?_
          refine fr_zast (r) d_O_fail_54 rfl rfl (Or.inr rfl) (Or.inr ⟨rfl, rfl⟩) rfl (fm_lt8 hw hr) (by decide) ?_
          refine fr_aload_n d_O_fail_55 rfl ?_
          refine fr_bipush d_O_fail_56 fr_b6 ?_
          refine fr_iload_n d_O_fail_58 rfl ?_
          refine fr_callVv fr_q6 d_O_fail_59 (ct_O_note X n _ _ _ _ (fm_ui (k := 62) rfl hw)) mv_O_131 rfl rfl rfl (Or.inr ⟨rfl, rfl⟩) rfl rfl ⟨Nat.le_of_ble_eq_true rfl, Nat.le_of_ble_eq_true rfl⟩ ⟨rfl, rfl⟩ ⟨Nat.zero_le _, Nat.zero_le _⟩ (Nat.le_of_ble_eq_true rfl) (fun I' J' hp5 => ?_)
          obtain ⟨rfl, rfl⟩ := hp5
          refine fr_aload_n d_O_fail_62 rfl ?_
          refine fr_getr (k' := 42) (r' := 0) d_O_fail_63 fl_O_7 rfl rfl rfl (Or.inr ⟨rfl, rfl⟩) ?_
          refine fr_iload_n d_O_fail_66 rfl ?_
          refine fr_iald (r) d_O_fail_67 rfl rfl (Or.inr ⟨rfl, rfl⟩) rfl (fm_lt8 hw hr) (by decide) ?_
          refine fr_istore_n (L' := [(2, .int _), (0, .ref _), (1, .int _)]) d_O_fail_68 (by decide) rfl ?_
          refine fr_iload_n d_O_fail_69 rfl ?_
          refine fr_if_lt 104 d_O_fail_70 rfl (fun h6 => ?_) (fun h6 => ?_)
          · skip
            exact fr_vret d_O_fail_104 rfl (Nat.zero_le _) (Nat.zero_le _) ⟨(by unfold f_O_fail; rw [if_neg h1, if_neg h2, if_pos h3, if_neg h4, if_pos h6]), rfl⟩
          · skip
            refine fr_aload_n d_O_fail_73 rfl ?_
            refine fr_getr (k' := 43) (r' := 0) d_O_fail_74 fl_O_13 rfl rfl rfl (Or.inr ⟨rfl, rfl⟩) ?_
            refine fr_iload_n d_O_fail_77 rfl ?_
            refine fr_zald (((f_O_note ((fr_ui I 62 0 r 1)) 6 (nI r)) 42 0 r).toNatClampNeg) d_O_fail_78 rfl rfl (Or.inr ⟨rfl, rfl⟩) (fm_abv_eq (fw_O_note (fm_ui (k := 62) rfl hw)) hr h6) (fm_lt8 hw (Nat.lt_trans (fm_abv_lt (fw_O_note (fm_ui (k := 62) rfl hw)) hr h6) hr)) (by decide) ?_
            refine fr_if_eq 104 d_O_fail_79 rfl (fun h7 => ?_) (fun h7 => ?_)
            · skip
              exact fr_vret d_O_fail_104 rfl (Nat.zero_le _) (Nat.zero_le _) ⟨(by unfold f_O_fail; rw [if_neg h1, if_neg h2, if_pos h3, if_neg h4, if_neg h6, if_pos h7]), rfl⟩
            · skip
              refine fr_aload_n d_O_fail_82 rfl ?_
              refine fr_getr (k' := 60) (r' := 0) d_O_fail_83 fl_O_66 rfl rfl rfl (Or.inr ⟨rfl, rfl⟩) ?_
              refine fr_iload_n d_O_fail_86 rfl ?_
              refine fr_iald (((f_O_note ((fr_ui I 62 0 r 1)) 6 (nI r)) 42 0 r).toNatClampNeg) d_O_fail_87 rfl rfl (Or.inr ⟨rfl, rfl⟩) (fm_abv_eq (fw_O_note (fm_ui (k := 62) rfl hw)) hr h6) (fm_lt8 hw (Nat.lt_trans (fm_abv_lt (fw_O_note (fm_ui (k := 62) rfl hw)) hr h6) hr)) (by decide) ?_
              refine fr_if_ne 104 d_O_fail_88 rfl (fun h8 => ?_) (fun h8 => ?_)
              · skip
                exact fr_vret d_O_fail_104 rfl (Nat.zero_le _) (Nat.zero_le _) ⟨(by unfold f_O_fail; rw [if_neg h1, if_neg h2, if_pos h3, if_neg h4, if_neg h6, if_neg h7, if_neg h8]), rfl⟩
              · skip
                refine fr_aload_n d_O_fail_91 rfl ?_
                refine fr_iload_n d_O_fail_92 rfl ?_
                refine fr_teq (fm_abv_eq (fw_O_note (fm_ui (k := 62) rfl hw)) hr h6) ?_
                refine fr_iconst d_O_fail_93 fr_i2 ?_
                refine fr_callVv fr_q6 d_O_fail_94 (ct_O_give X n (((f_O_note ((fr_ui I 62 0 r 1)) 6 (nI r)) 42 0 r).toNatClampNeg) (Nat.lt_trans (fm_abv_lt (fw_O_note (fm_ui (k := 62) rfl hw)) hr h6) hr) _ _ _ (fw_O_note (fm_ui (k := 62) rfl hw))) mv_O_149 rfl rfl rfl (Or.inr ⟨rfl, rfl⟩) rfl rfl ⟨Nat.le_of_ble_eq_true rfl, Nat.le_of_ble_eq_true rfl⟩ ⟨rfl, rfl⟩ ⟨Nat.zero_le _, Nat.zero_le _⟩ (Nat.le_of_ble_eq_true rfl) (fun I' J' hp9 => ?_)
                obtain ⟨rfl, rfl⟩ := hp9
                refine fr_aload_n d_O_fail_97 rfl ?_
                refine fr_bipush d_O_fail_98 fr_b7 ?_
                refine fr_iload_n d_O_fail_100 rfl ?_
                refine fr_callVv fr_q6 d_O_fail_101 (ct_O_note X n _ _ _ _ (fw_O_give (fw_O_note (fm_ui (k := 62) rfl hw)))) mv_O_131 rfl rfl rfl (Or.inr ⟨rfl, rfl⟩) rfl rfl ⟨Nat.le_of_ble_eq_true rfl, Nat.le_of_ble_eq_true rfl⟩ ⟨rfl, rfl⟩ ⟨Nat.zero_le _, Nat.zero_le _⟩ (Nat.le_of_ble_eq_true rfl) (fun I' J' hp10 => ?_)
                obtain ⟨rfl, rfl⟩ := hp10
                exact fr_vret d_O_fail_104 rfl (Nat.zero_le _) (Nat.zero_le _) ⟨(by unfold f_O_fail; rw [if_neg h1, if_neg h2, if_pos h3, if_neg h4, if_neg h6, if_neg h7, if_pos h8]), rfl⟩
        · skip
          exact fr_vret d_O_fail_47 rfl (Nat.zero_le _) (Nat.zero_le _) ⟨(by unfold f_O_fail; rw [if_neg h1, if_neg h2, if_pos h3, if_pos h4]), rfl⟩
theorem fw_O_fail {n : Nat} {I : fr_I} {r : Nat} (hw : fr_mw n I) : fr_mw n (f_O_fail I r) := by
  unfold f_O_fail
  refine fw_ite (fun h => ?_) (fun h => ?_)
  · skip
    exact hw
  · skip
    refine fw_ite (fun h => ?_) (fun h => ?_)
    · skip
      exact hw
    · skip
      refine fw_ite (fun h => ?_) (fun h => ?_)
      · skip
        refine fw_ite (fun h => ?_) (fun h => ?_)
        · skip
          exact hw
        · skip
          refine fw_ite (fun h => ?_) (fun h => ?_)
          · skip
            exact (fw_O_note (fm_ui (k := 62) rfl hw))
          · skip
            refine fw_ite (fun h => ?_) (fun h => ?_)
            · skip
              exact (fw_O_note (fm_ui (k := 62) rfl hw))
            · skip
              refine fw_ite (fun h => ?_) (fun h => ?_)
              · skip
                exact (fw_O_note (fw_O_give (fw_O_note (fm_ui (k := 62) rfl hw))))
              · skip
                exact (fw_O_note (fm_ui (k := 62) rfl hw))
      · skip
        exact hw
theorem fc_O_fail {P : fr_I → Prop} (hP : fr_ost P) {I : fr_I} {r : Nat} (h : P I) : P (f_O_fail I r) := by
  unfold f_O_fail
  refine fw_ite (fun _ => ?_) (fun _ => ?_)
  · skip
    exact h
  · skip
    refine fw_ite (fun _ => ?_) (fun _ => ?_)
    · skip
      exact h
    · skip
      refine fw_ite (fun _ => ?_) (fun _ => ?_)
      · skip
        refine fw_ite (fun _ => ?_) (fun _ => ?_)
        · skip
          exact h
        · skip
          refine fw_ite (fun _ => ?_) (fun _ => ?_)
          · skip
            exact (fc_O_note hP (hP (k := 62) (by decide) h))
          · skip
            refine fw_ite (fun _ => ?_) (fun _ => ?_)
            · skip
              exact (fc_O_note hP (hP (k := 62) (by decide) h))
            · skip
              refine fw_ite (fun _ => ?_) (fun _ => ?_)
              · skip
                exact (fc_O_note hP (fc_O_give hP (fc_O_note hP (hP (k := 62) (by decide) h))))
              · skip
                exact (fc_O_note hP (hP (k := 62) (by decide) h))
      · skip
        exact h
