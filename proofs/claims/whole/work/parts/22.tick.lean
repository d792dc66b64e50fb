def fb_F_measureAll  (s : fr_I × fr_J) (i : Nat) : fr_I × fr_J :=
  ((f_W_report ((f_M_measure (s.1) (s.2) i (s.1 2 0 i)).1) i ((f_M_measure (s.1) (s.2) i (s.1 2 0 i)).1 0 0 5) ((f_M_measure (s.1) (s.2) i (s.1 2 0 i)).1 8 i 6) (if ((f_M_measure (s.1) (s.2) i (s.1 2 0 i)).1 8 i 6) = (s.1 8 i 6) then (0 : Int32) else 1)), (f_M_measure (s.1) (s.2) i (s.1 2 0 i)).2)
theorem fb_F_measureAll_eq  (s : fr_I × fr_J) (i : Nat) : fb_F_measureAll  s i =
  ((f_W_report ((f_M_measure (s.1) (s.2) i (s.1 2 0 i)).1) i ((f_M_measure (s.1) (s.2) i (s.1 2 0 i)).1 0 0 5) ((f_M_measure (s.1) (s.2) i (s.1 2 0 i)).1 8 i 6) (if ((f_M_measure (s.1) (s.2) i (s.1 2 0 i)).1 8 i 6) = (s.1 8 i 6) then (0 : Int32) else 1)), (f_M_measure (s.1) (s.2) i (s.1 2 0 i)).2) := rfl
theorem fw_fb_F_measureAll {n : Nat} {s : fr_I × fr_J} {i : Nat} (hi : i < n) (hw : fr_wf n s.1) : fr_wf n (fb_F_measureAll  s i).1 := by
  unfold fb_F_measureAll
  refine fw_pr (P := fr_wf n) ?_
  exact (fw_W_report (fw_M_measure hi hw))
theorem fc_fb_F_measureAll {P : fr_I → Prop} (hP : fr_cst P) {s : fr_I × fr_J} {i : Nat} (h : P s.1) : P (fb_F_measureAll  s i).1 := by
  unfold fb_F_measureAll
  refine fw_pr (P := P) ?_
  exact (fc_W_report hP (fc_M_measure hP h))
theorem fcj_fb_F_measureAll {P : fr_J → Prop} (hP : fr_cstJ P) {s : fr_I × fr_J} {i : Nat} (h : P s.2) : P (fb_F_measureAll  s i).2 := by
  unfold fb_F_measureAll
  refine fw_pr2 (P := P) ?_
  exact (fcj_M_measure hP h)
def f_F_measureAll (I : fr_I) (J : fr_J) (n : Nat) : fr_I × fr_J :=
  ((fr_jt (fb_F_measureAll ) ((f_F_findFlows I n), J) n).1, (fr_jt (fb_F_measureAll ) ((f_F_findFlows I n), J) n).2)
set_option maxRecDepth 10000 in
theorem ct_F_measureAll (X : fr_X) (n : Nat) (I : fr_I) (J : fr_J)  (hw : fr_wf n I) : fr_Ct X y_F_measureAll c_F_measureAll 4 none (fr_rm 3) [.ref (fr_ad X 0 0)] (fr_Z0 X n) (fr_Z0 X n) I J (fr_pv (fun I' J' => (f_F_measureAll I J n).1 = I' ∧ (f_F_measureAll I J n).2 = J')) := by
  refine fr_ct (by decide) rfl rfl (Nat.le_of_ble_eq_true rfl) rfl (fun E => ?_)
  refine fr_aload_n d_F_measureAll_0 rfl ?_
  refine fr_callVv fr_q0 d_F_measureAll_1 (ct_F_findFlows X n _ _ hw) mv_F_110 rfl rfl rfl (Or.inr ⟨rfl, rfl⟩) rfl rfl ⟨Nat.le_of_ble_eq_true rfl, Nat.le_of_ble_eq_true rfl⟩ ⟨rfl, rfl⟩ ⟨Nat.zero_le _, Nat.zero_le _⟩ (Nat.le_of_ble_eq_true rfl) (fun I' J' hp1 => ?_)
  obtain ⟨rfl, rfl⟩ := hp1
  refine fr_iconst d_F_measureAll_4 fr_i0 ?_
  refine fr_istore_n (L' := [(1, .int _), (0, .ref _)]) d_F_measureAll_5 (by decide) rfl ?_
  refine fr_pick (L' := [(1, .int _), (0, .ref _)]) [0, 1] rfl ?_
  refine fr_loop (fun i => (fr_jt (fb_F_measureAll ) ((f_F_findFlows I n), J) i).1) (fun i => (fr_jt (fb_F_measureAll ) ((f_F_findFlows I n), J) i).2) (fun i => [(1, .int (nI i)), (0, .ref (fr_ad X 0 0))]) n rfl fr_jt_1 fr_jt_2 ?_ (fun i hi ih => ?_)
  · skip
    have hwe1 : fr_wf n ((fr_jt (fb_F_measureAll ) ((f_F_findFlows I n), J) n).1) := (fw_jt n (fun s i hi hw => fw_fb_F_measureAll hi hw) (fw_F_findFlows hw) n (Nat.le_refl _))
    refine fr_iload_n d_F_measureAll_6 rfl ?_
    refine fr_aload_n d_F_measureAll_7 rfl ?_
    refine fr_geti d_F_measureAll_8 fl_F_30 rfl rfl (Or.inr ⟨rfl, rfl⟩) ?_
    refine fr_icmp_ge 78 d_F_measureAll_11 rfl (fun _ => ?_) (fun h => absurd (by rw [fw_cnt hwe1]; exact nI_le (Nat.le_refl _) (by have := fw_n8 hw; omega)) h)
    exact fr_vret d_F_measureAll_78 rfl (Nat.zero_le _) (Nat.zero_le _) (fr_tIJ (rfl))
  · skip
    have hwi1 : fr_wf n ((fr_jt (fb_F_measureAll ) ((f_F_findFlows I n), J) i).1) := (fw_jt n (fun s i hi hw => fw_fb_F_measureAll hi hw) (fw_F_findFlows hw) i (Nat.le_of_lt hi))
    refine fr_iload_n d_F_measureAll_6 rfl ?_
    refine fr_aload_n d_F_measureAll_7 rfl ?_
    refine fr_geti d_F_measureAll_8 fl_F_30 rfl rfl (Or.inr ⟨rfl, rfl⟩) ?_
    refine fr_icmp_ge 78 d_F_measureAll_11 rfl (fun h => absurd h (by rw [fw_cnt hwi1]; exact nI_ge hi (by have := fw_n8 hw; omega))) (fun _ => ?_)
    refine fr_aload_n d_F_measureAll_14 rfl ?_
    refine fr_getr (k' := 1) (r' := 0) d_F_measureAll_15 fl_F_11 rfl rfl rfl (Or.inr ⟨rfl, rfl⟩) ?_
    refine fr_iload_n d_F_measureAll_18 rfl ?_
    refine fr_aald (k' := 7) (r' := i) (i) d_F_measureAll_19 rfl rfl (if_pos hi) (Or.inr ⟨rfl, rfl⟩) rfl (fw_lt8 hw hi) (by decide) ?_
    refine fr_getr (k' := 8) (r' := i) d_F_measureAll_20 fl_F_51 rfl rfl rfl (Or.inl ⟨rfl, hi⟩) ?_
    refine fr_astore_n (L' := [(2, .ref _), (1, .int _), (0, .ref _)]) d_F_measureAll_23 (by decide) rfl ?_
    refine fr_aload_n d_F_measureAll_24 rfl ?_
    refine fr_geti d_F_measureAll_25 fl_F_116 rfl rfl (Or.inl ⟨rfl, hi⟩) ?_
    refine fr_istore_n (L' := [(3, .int _), (2, .ref _), (1, .int _), (0, .ref _)]) d_F_measureAll_28 (by decide) rfl ?_
    refine fr_aload_n d_F_measureAll_29 rfl ?_
    refine fr_aload_n d_F_measureAll_30 rfl ?_
    refine fr_getr (k' := 2) (r' := 0) d_F_measureAll_31 fl_F_15 rfl rfl rfl (Or.inr ⟨rfl, rfl⟩) ?_
    refine fr_iload_n d_F_measureAll_34 rfl ?_
    refine fr_iald (i) d_F_measureAll_35 rfl rfl (Or.inr ⟨rfl, rfl⟩) rfl (fw_lt8 hw hi) (by decide) ?_
    refine fr_callVv fr_q3 d_F_measureAll_36 (ct_M_measure X n i hi _ _ _ hwi1) mv_F_200 rfl rfl rfl (Or.inl ⟨rfl, hi⟩) rfl rfl ⟨Nat.le_of_ble_eq_true rfl, Nat.le_of_ble_eq_true rfl⟩ ⟨rfl, rfl⟩ ⟨Nat.zero_le _, Nat.zero_le _⟩ (Nat.le_of_ble_eq_true rfl) (fun I' J' hp2 => ?_)
    obtain ⟨rfl, rfl⟩ := hp2
    refine fr_aload_n d_F_measureAll_39 rfl ?_
    refine fr_getr (k' := 1) (r' := 0) d_F_measureAll_40 fl_F_11 rfl rfl rfl (Or.inr ⟨rfl, rfl⟩) ?_
    refine fr_iload_n d_F_measureAll_43 rfl ?_
    refine fr_aald (k' := 7) (r' := i) (i) d_F_measureAll_44 rfl rfl (if_pos hi) (Or.inr ⟨rfl, rfl⟩) rfl (fw_lt8 hw hi) (by decide) ?_
    refine fr_getr (k' := 11) (r' := i) d_F_measureAll_45 fl_F_86 rfl rfl rfl (Or.inl ⟨rfl, hi⟩) ?_
    refine fr_aload_n d_F_measureAll_48 rfl ?_
    refine fr_geti d_F_measureAll_49 fl_F_34 rfl rfl (Or.inr ⟨rfl, rfl⟩) ?_
    refine fr_aload_n d_F_measureAll_52 rfl ?_
    refine fr_geti d_F_measureAll_53 fl_F_116 rfl rfl (Or.inl ⟨rfl, hi⟩) ?_
    refine fr_aload_n d_F_measureAll_56 rfl ?_
    refine fr_geti d_F_measureAll_57 fl_F_116 rfl rfl (Or.inl ⟨rfl, hi⟩) ?_
    refine fr_iload_n d_F_measureAll_60 rfl ?_
    refine fr_ticmp_eq (t := 68) (j := 69) d_F_measureAll_61 rfl (fun k => fr_iconst d_F_measureAll_64 fr_i1 (fr_goto 69 d_F_measureAll_65 rfl k)) (fun k => fr_iconst d_F_measureAll_68 fr_i0 k) ?_
    refine fr_callVv fr_q5 d_F_measureAll_69 (ct_W_report X n i hi _ _ _ _ _) mv_F_203 rfl rfl rfl (Or.inl ⟨rfl, hi⟩) rfl rfl ⟨Nat.le_of_ble_eq_true rfl, Nat.le_of_ble_eq_true rfl⟩ ⟨rfl, rfl⟩ ⟨Nat.zero_le _, Nat.zero_le _⟩ (Nat.le_of_ble_eq_true rfl) (fun I' J' hp3 => ?_)
    obtain ⟨rfl, rfl⟩ := hp3
    refine fr_iinc (v := (nI (i + 1))) (L' := [(1, .int _), (3, .int _), (2, .ref _), (0, .ref _)]) d_F_measureAll_72 rfl (fr_inc _) (by decide) rfl ?_
    refine fr_goto 6 d_F_measureAll_75 rfl ?_
    refine fr_pick (L' := [(1, .int _), (0, .ref _)]) [0, 3] rfl ?_
    have he : fr_jt (fb_F_measureAll ) ((f_F_findFlows I n), J) (i + 1) = ((f_W_report ((f_M_measure ((fr_jt (fb_F_measureAll ) ((f_F_findFlows I n), J) i).1) ((fr_jt (fb_F_measureAll ) ((f_F_findFlows I n), J) i).2) i ((fr_jt (fb_F_measureAll ) ((f_F_findFlows I n), J) i).1 2 0 i)).1) i ((f_M_measure ((fr_jt (fb_F_measureAll ) ((f_F_findFlows I n), J) i).1) ((fr_jt (fb_F_measureAll ) ((f_F_findFlows I n), J) i).2) i ((fr_jt (fb_F_measureAll ) ((f_F_findFlows I n), J) i).1 2 0 i)).1 0 0 5) ((f_M_measure ((fr_jt (fb_F_measureAll ) ((f_F_findFlows I n), J) i).1) ((fr_jt (fb_F_measureAll ) ((f_F_findFlows I n), J) i).2) i ((fr_jt (fb_F_measureAll ) ((f_F_findFlows I n), J) i).1 2 0 i)).1 8 i 6) (if ((f_M_measure ((fr_jt (fb_F_measureAll ) ((f_F_findFlows I n), J) i).1) ((fr_jt (fb_F_measureAll ) ((f_F_findFlows I n), J) i).2) i ((fr_jt (fb_F_measureAll ) ((f_F_findFlows I n), J) i).1 2 0 i)).1 8 i 6) = ((fr_jt (fb_F_measureAll ) ((f_F_findFlows I n), J) i).1 8 i 6) then (0 : Int32) else 1)), (f_M_measure ((fr_jt (fb_F_measureAll ) ((f_F_findFlows I n), J) i).1) ((fr_jt (fb_F_measureAll ) ((f_F_findFlows I n), J) i).2) i ((fr_jt (fb_F_measureAll ) ((f_F_findFlows I n), J) i).1 2 0 i)).2) := by rw [fr_jt_s, fb_F_measureAll_eq]
    refine fr_eqI (fr_pr1 (J' := J) (I' := I) he) (fr_pr2 (J' := J) (I' := I) he) ?_
    exact ih
theorem fw_F_measureAll {n : Nat} {I : fr_I} {J : fr_J} (hw : fr_wf n I) : fr_wf n (f_F_measureAll I J n).1 := by
  unfold f_F_measureAll
  exact (fw_jt n (fun s i hi hw => fw_fb_F_measureAll hi hw) (fw_F_findFlows hw) n (Nat.le_refl _))
theorem fc_F_measureAll {P : fr_I → Prop} (hP : fr_cst P) {n : Nat} {I : fr_I} {J : fr_J} (h : P I) : P (f_F_measureAll I J n).1 := by
  unfold f_F_measureAll
  refine fw_pr (P := P) ?_
  exact (fw_jt n (fun s i hi h => fc_fb_F_measureAll hP h) (fc_F_findFlows hP h) n (Nat.le_refl _))
theorem fcj_F_measureAll {P : fr_J → Prop} (hP : fr_cstJ P) {n : Nat} {I : fr_I} {J : fr_J} (h : P J) : P (f_F_measureAll I J n).2 := by
  unfold f_F_measureAll
  refine fw_pr2 (P := P) ?_
  exact (fw_jt2 n (fun s i hi h => fcj_fb_F_measureAll hP h) h n (Nat.le_refl _))
def fb_F_tick1  (I : fr_I) (i : Nat) : fr_I :=
  (f_W_deliver I i (I 0 0 5))
theorem fb_F_tick1_eq  (I : fr_I) (i : Nat) : fb_F_tick1  I i =
  (f_W_deliver I i (I 0 0 5)) := rfl
theorem fw_fb_F_tick1 {n : Nat} {I : fr_I} {i : Nat} (hw : fr_wf n I) : fr_wf n (fb_F_tick1  I i) := by
  unfold fb_F_tick1
  exact (fw_W_deliver hw)
theorem fc_fb_F_tick1 {P : fr_I → Prop} (hP : fr_cst P) {I : fr_I} {i : Nat} (h : P I) : P (fb_F_tick1  I i) := by
  unfold fb_F_tick1
  exact (fc_W_deliver hP h)
def fb_F_tick2  (I : fr_I) (i : Nat) : fr_I :=
  (f_F_moveBreaker I i)
theorem fb_F_tick2_eq  (I : fr_I) (i : Nat) : fb_F_tick2  I i =
  (f_F_moveBreaker I i) := rfl
theorem fw_fb_F_tick2 {n : Nat} {I : fr_I} {i : Nat} (hw : fr_wf n I) : fr_wf n (fb_F_tick2  I i) := by
  unfold fb_F_tick2
  exact (fw_F_moveBreaker hw)
theorem fc_fb_F_tick2 {P : fr_I → Prop} (hP : fr_cst P) {I : fr_I} {i : Nat} (h : P I) : P (fb_F_tick2  I i) := by
  unfold fb_F_tick2
  exact (fc_F_moveBreaker hP h)
def fb_F_tick3 (n : Nat) (J : fr_J) (I : fr_I) (i : Nat) : fr_I :=
  (f_F_tripIfDue I J n i)
theorem fb_F_tick3_eq (n : Nat) (J : fr_J) (I : fr_I) (i : Nat) : fb_F_tick3 n J I i =
  (f_F_tripIfDue I J n i) := rfl
theorem fw_fb_F_tick3 {n : Nat} {J : fr_J} {I : fr_I} {i : Nat} (hw : fr_wf n I) : fr_wf n (fb_F_tick3 n J I i) := by
  unfold fb_F_tick3
  exact (fw_F_tripIfDue hw)
theorem fc_fb_F_tick3 {P : fr_I → Prop} (hP : fr_cst P) {n : Nat} {J : fr_J} {I : fr_I} {i : Nat} (h : P I) : P (fb_F_tick3 n J I i) := by
  unfold fb_F_tick3
  exact (fc_F_tripIfDue hP h)
def fb_F_tick4  (I : fr_I) (i : Nat) : fr_I :=
  (f_F_failIfDue I i)
theorem fb_F_tick4_eq  (I : fr_I) (i : Nat) : fb_F_tick4  I i =
  (f_F_failIfDue I i) := rfl
theorem fw_fb_F_tick4 {n : Nat} {I : fr_I} {i : Nat} (hw : fr_wf n I) : fr_wf n (fb_F_tick4  I i) := by
  unfold fb_F_tick4
  exact (fw_F_failIfDue hw)
theorem fc_fb_F_tick4 {P : fr_I → Prop} (hP : fr_cst P) {I : fr_I} {i : Nat} (h : P I) : P (fb_F_tick4  I i) := by
  unfold fb_F_tick4
  exact (fc_F_failIfDue hP h)
def f_F_tick (I : fr_I) (J : fr_J) (n : Nat) : fr_I × fr_J :=
  ((f_J_store ((fr_it (fb_F_tick4 ) ((fr_it (fb_F_tick3 n ((f_F_measureAll ((fr_it (fb_F_tick2 ) ((fr_it (fb_F_tick1 ) ((fr_ui I 0 0 5 ((I 0 0 5) + 1))) n)) n)) J n).2)) ((f_F_measureAll ((fr_it (fb_F_tick2 ) ((fr_it (fb_F_tick1 ) ((fr_ui I 0 0 5 ((I 0 0 5) + 1))) n)) n)) J n).1) n)) n))), (f_F_measureAll ((fr_it (fb_F_tick2 ) ((fr_it (fb_F_tick1 ) ((fr_ui I 0 0 5 ((I 0 0 5) + 1))) n)) n)) J n).2)
set_option maxRecDepth 10000 in
theorem ct_F_tick (X : fr_X) (n : Nat) (I : fr_I) (J : fr_J)  (hw : fr_wf n I) : fr_Ct X y_F_tick c_F_tick 2 none (fr_rm 4) [.ref (fr_ad X 0 0)] (fr_Z0 X n) (fr_Z0 X n) I J (fr_pv (fun I' J' => (f_F_tick I J n).1 = I' ∧ (f_F_tick I J n).2 = J')) := by
  refine fr_ct (by decide) rfl rfl (Nat.le_of_ble_eq_true rfl) rfl (fun E => ?_)
  refine fr_aload_n d_F_tick_0 rfl ?_
  refine fr_dup d_F_tick_1 rfl ?_
  refine fr_geti d_F_tick_2 fl_F_34 rfl rfl (Or.inr ⟨rfl, rfl⟩) ?_
  refine fr_iconst d_F_tick_5 fr_i1 ?_
  refine fr_iadd d_F_tick_6 ?_
  refine fr_puti d_F_tick_7 fl_F_34 rfl rfl (Or.inr ⟨rfl, rfl⟩) ?_
  refine fr_iconst d_F_tick_10 fr_i0 ?_
  refine fr_istore_n (L' := [(1, .int _), (0, .ref _)]) d_F_tick_11 (by decide) rfl ?_
  refine fr_pick (L' := [(1, .int _), (0, .ref _)]) [0, 1] rfl ?_
  refine fr_loop (fr_it (fb_F_tick1 ) ((fr_ui I 0 0 5 ((I 0 0 5) + 1)))) (fun _ => J) (fun i => [(1, .int (nI i)), (0, .ref (fr_ad X 0 0))]) n rfl fr_it_0 rfl ?_ (fun i hi ih => ?_)
  · skip
    have hwe1 : fr_wf n ((fr_it (fb_F_tick1 ) ((fr_ui I 0 0 5 ((I 0 0 5) + 1))) n)) := (fw_it n (fun I i hi hw => fw_fb_F_tick1  hw) (fw_ui (k := 0) (j := 5) rfl hw) n (Nat.le_refl _))
    refine fr_iload_n d_F_tick_12 rfl ?_
    refine fr_aload_n d_F_tick_13 rfl ?_
    refine fr_geti d_F_tick_14 fl_F_30 rfl rfl (Or.inr ⟨rfl, rfl⟩) ?_
    refine fr_icmp_ge 42 d_F_tick_17 rfl (fun _ => ?_) (fun h => absurd (by rw [fw_cnt hwe1]; exact nI_le (Nat.le_refl _) (by have := fw_n8 hw; omega)) h)
    refine fr_iconst d_F_tick_42 fr_i0 ?_
    refine fr_istore_n (L' := [(1, .int _), (0, .ref _)]) d_F_tick_43 (by decide) rfl ?_
    refine fr_pick (L' := [(1, .int _), (0, .ref _)]) [0, 1] rfl ?_
    refine fr_loop (fr_it (fb_F_tick2 ) ((fr_it (fb_F_tick1 ) ((fr_ui I 0 0 5 ((I 0 0 5) + 1))) n))) (fun _ => J) (fun i => [(1, .int (nI i)), (0, .ref (fr_ad X 0 0))]) n rfl fr_it_0 rfl ?_ (fun i hi ih => ?_)
    · skip
      have hwe2 : fr_wf n ((fr_it (fb_F_tick2 ) ((fr_it (fb_F_tick1 ) ((fr_ui I 0 0 5 ((I 0 0 5) + 1))) n)) n)) := (fw_it n (fun I i hi hw => fw_fb_F_tick2  hw) hwe1 n (Nat.le_refl _))
      refine fr_iload_n d_F_tick_44 rfl ?_
      refine fr_aload_n d_F_tick_45 rfl ?_
      refine fr_geti d_F_tick_46 fl_F_30 rfl rfl (Or.inr ⟨rfl, rfl⟩) ?_
      refine fr_icmp_ge 63 d_F_tick_49 rfl (fun _ => ?_) (fun h => absurd (by rw [fw_cnt hwe2]; exact nI_le (Nat.le_refl _) (by have := fw_n8 hw; omega)) h)
      refine fr_aload_n d_F_tick_63 rfl ?_
      refine fr_callVv fr_q0 d_F_tick_64 (ct_F_measureAll X n _ _ hwe2) mv_F_161 rfl rfl rfl (Or.inr ⟨rfl, rfl⟩) rfl rfl ⟨Nat.le_of_ble_eq_true rfl, Nat.le_of_ble_eq_true rfl⟩ ⟨rfl, rfl⟩ ⟨Nat.zero_le _, Nat.zero_le _⟩ (Nat.le_of_ble_eq_true rfl) (fun I' J' hp1 => ?_)
      obtain ⟨rfl, rfl⟩ := hp1
      refine fr_iconst d_F_tick_67 fr_i0 ?_
      refine fr_istore_n (L' := [(1, .int _), (0, .ref _)]) d_F_tick_68 (by decide) rfl ?_
      refine fr_pick (L' := [(1, .int _), (0, .ref _)]) [0, 1] rfl ?_
      refine fr_loop (fr_it (fb_F_tick3 n ((f_F_measureAll ((fr_it (fb_F_tick2 ) ((fr_it (fb_F_tick1 ) ((fr_ui I 0 0 5 ((I 0 0 5) + 1))) n)) n)) J n).2)) ((f_F_measureAll ((fr_it (fb_F_tick2 ) ((fr_it (fb_F_tick1 ) ((fr_ui I 0 0 5 ((I 0 0 5) + 1))) n)) n)) J n).1)) (fun _ => (f_F_measureAll ((fr_it (fb_F_tick2 ) ((fr_it (fb_F_tick1 ) ((fr_ui I 0 0 5 ((I 0 0 5) + 1))) n)) n)) J n).2) (fun i => [(1, .int (nI i)), (0, .ref (fr_ad X 0 0))]) n rfl fr_it_0 rfl ?_ (fun i hi ih => ?_)
      · skip
        have hwe3 : fr_wf n ((fr_it (fb_F_tick3 n ((f_F_measureAll ((fr_it (fb_F_tick2 ) ((fr_it (fb_F_tick1 ) ((fr_ui I 0 0 5 ((I 0 0 5) + 1))) n)) n)) J n).2)) ((f_F_measureAll ((fr_it (fb_F_tick2 ) ((fr_it (fb_F_tick1 ) ((fr_ui I 0 0 5 ((I 0 0 5) + 1))) n)) n)) J n).1) n)) := (fw_it n (fun I i hi hw => fw_fb_F_tick3  hw) (fw_F_measureAll hwe2) n (Nat.le_refl _))
        refine fr_iload_n d_F_tick_69 rfl ?_
        refine fr_aload_n d_F_tick_70 rfl ?_
        refine fr_geti d_F_tick_71 fl_F_30 rfl rfl (Or.inr ⟨rfl, rfl⟩) ?_
        refine fr_icmp_ge 88 d_F_tick_74 rfl (fun _ => ?_) (fun h => absurd (by rw [fw_cnt hwe3]; exact nI_le (Nat.le_refl _) (by have := fw_n8 hw; omega)) h)
        refine fr_iconst d_F_tick_88 fr_i0 ?_
        refine fr_istore_n (L' := [(1, .int _), (0, .ref _)]) d_F_tick_89 (by decide) rfl ?_
        refine fr_pick (L' := [(1, .int _), (0, .ref _)]) [0, 1] rfl ?_
        refine fr_loop (fr_it (fb_F_tick4 ) ((fr_it (fb_F_tick3 n ((f_F_measureAll ((fr_it (fb_F_tick2 ) ((fr_it (fb_F_tick1 ) ((fr_ui I 0 0 5 ((I 0 0 5) + 1))) n)) n)) J n).2)) ((f_F_measureAll ((fr_it (fb_F_tick2 ) ((fr_it (fb_F_tick1 ) ((fr_ui I 0 0 5 ((I 0 0 5) + 1))) n)) n)) J n).1) n))) (fun _ => (f_F_measureAll ((fr_it (fb_F_tick2 ) ((fr_it (fb_F_tick1 ) ((fr_ui I 0 0 5 ((I 0 0 5) + 1))) n)) n)) J n).2) (fun i => [(1, .int (nI i)), (0, .ref (fr_ad X 0 0))]) n rfl fr_it_0 rfl ?_ (fun i hi ih => ?_)
        · skip
          have hwe4 : fr_wf n ((fr_it (fb_F_tick4 ) ((fr_it (fb_F_tick3 n ((f_F_measureAll ((fr_it (fb_F_tick2 ) ((fr_it (fb_F_tick1 ) ((fr_ui I 0 0 5 ((I 0 0 5) + 1))) n)) n)) J n).2)) ((f_F_measureAll ((fr_it (fb_F_tick2 ) ((fr_it (fb_F_tick1 ) ((fr_ui I 0 0 5 ((I 0 0 5) + 1))) n)) n)) J n).1) n)) n)) := (fw_it n (fun I i hi hw => fw_fb_F_tick4  hw) hwe3 n (Nat.le_refl _))
          refine fr_iload_n d_F_tick_90 rfl ?_
          refine fr_aload_n d_F_tick_91 rfl ?_
          refine fr_geti d_F_tick_92 fl_F_30 rfl rfl (Or.inr ⟨rfl, rfl⟩) ?_
          refine fr_icmp_ge 109 d_F_tick_95 rfl (fun _ => ?_) (fun h => absurd (by rw [fw_cnt hwe4]; exact nI_le (Nat.le_refl _) (by have := fw_n8 hw; omega)) h)
          refine fr_aload_n d_F_tick_109 rfl ?_
          refine fr_getr (k' := 4) (r' := 0) d_F_tick_110 fl_F_26 rfl rfl rfl (Or.inr ⟨rfl, rfl⟩) ?_
          refine fr_callVv fr_q1 d_F_tick_113 (ct_J_store X n _ _) mv_F_170 rfl rfl rfl (Or.inr ⟨rfl, rfl⟩) rfl rfl ⟨Nat.le_of_ble_eq_true rfl, Nat.le_of_ble_eq_true rfl⟩ ⟨rfl, rfl⟩ ⟨Nat.zero_le _, Nat.zero_le _⟩ (Nat.le_of_ble_eq_true rfl) (fun I' J' hp2 => ?_)
          obtain ⟨rfl, rfl⟩ := hp2
          exact fr_vret d_F_tick_116 rfl (Nat.zero_le _) (Nat.zero_le _) (fr_tIJ (rfl))
        · skip
          have hwi4 : fr_wf n ((fr_it (fb_F_tick4 ) ((fr_it (fb_F_tick3 n ((f_F_measureAll ((fr_it (fb_F_tick2 ) ((fr_it (fb_F_tick1 ) ((fr_ui I 0 0 5 ((I 0 0 5) + 1))) n)) n)) J n).2)) ((f_F_measureAll ((fr_it (fb_F_tick2 ) ((fr_it (fb_F_tick1 ) ((fr_ui I 0 0 5 ((I 0 0 5) + 1))) n)) n)) J n).1) n)) i)) := (fw_it n (fun I i hi hw => fw_fb_F_tick4  hw) hwe3 i (Nat.le_of_lt hi))
          refine fr_iload_n d_F_tick_90 rfl ?_
          refine fr_aload_n d_F_tick_91 rfl ?_
          refine fr_geti d_F_tick_92 fl_F_30 rfl rfl (Or.inr ⟨rfl, rfl⟩) ?_
          refine fr_icmp_ge 109 d_F_tick_95 rfl (fun h => absurd h (by rw [fw_cnt hwi4]; exact nI_ge hi (by have := fw_n8 hw; omega))) (fun _ => ?_)
          refine fr_aload_n d_F_tick_98 rfl ?_
          refine fr_iload_n d_F_tick_99 rfl ?_
          refine fr_callVv fr_q0 d_F_tick_100 (ct_F_failIfDue X n i hi _ _ hwi4) mv_F_167 rfl rfl rfl (Or.inr ⟨rfl, rfl⟩) rfl rfl ⟨Nat.le_of_ble_eq_true rfl, Nat.le_of_ble_eq_true rfl⟩ ⟨rfl, rfl⟩ ⟨Nat.zero_le _, Nat.zero_le _⟩ (Nat.le_of_ble_eq_true rfl) (fun I' J' hp3 => ?_)
          obtain ⟨rfl, rfl⟩ := hp3
          refine fr_iinc (v := (nI (i + 1))) (L' := [(1, .int _), (0, .ref _)]) d_F_tick_103 rfl (fr_inc _) (by decide) rfl ?_
          refine fr_goto 90 d_F_tick_106 rfl ?_
          refine fr_pick (L' := [(1, .int _), (0, .ref _)]) [0, 1] rfl ?_
          refine fr_eqI (I' := fr_it (fb_F_tick4 ) ((fr_it (fb_F_tick3 n ((f_F_measureAll ((fr_it (fb_F_tick2 ) ((fr_it (fb_F_tick1 ) ((fr_ui I 0 0 5 ((I 0 0 5) + 1))) n)) n)) J n).2)) ((f_F_measureAll ((fr_it (fb_F_tick2 ) ((fr_it (fb_F_tick1 ) ((fr_ui I 0 0 5 ((I 0 0 5) + 1))) n)) n)) J n).1) n)) (i + 1)) (Eq.symm (by rw [fr_it_s, fb_F_tick4_eq])) rfl ?_
          exact ih
      · skip
        have hwi3 : fr_wf n ((fr_it (fb_F_tick3 n ((f_F_measureAll ((fr_it (fb_F_tick2 ) ((fr_it (fb_F_tick1 ) ((fr_ui I 0 0 5 ((I 0 0 5) + 1))) n)) n)) J n).2)) ((f_F_measureAll ((fr_it (fb_F_tick2 ) ((fr_it (fb_F_tick1 ) ((fr_ui I 0 0 5 ((I 0 0 5) + 1))) n)) n)) J n).1) i)) := (fw_it n (fun I i hi hw => fw_fb_F_tick3  hw) (fw_F_measureAll hwe2) i (Nat.le_of_lt hi))
        refine fr_iload_n d_F_tick_69 rfl ?_
        refine fr_aload_n d_F_tick_70 rfl ?_
        refine fr_geti d_F_tick_71 fl_F_30 rfl rfl (Or.inr ⟨rfl, rfl⟩) ?_
        refine fr_icmp_ge 88 d_F_tick_74 rfl (fun h => absurd h (by rw [fw_cnt hwi3]; exact nI_ge hi (by have := fw_n8 hw; omega))) (fun _ => ?_)
        refine fr_aload_n d_F_tick_77 rfl ?_
        refine fr_iload_n d_F_tick_78 rfl ?_
        refine fr_callVv fr_q0 d_F_tick_79 (ct_F_tripIfDue X n i hi _ _ hwi3) mv_F_164 rfl rfl rfl (Or.inr ⟨rfl, rfl⟩) rfl rfl ⟨Nat.le_of_ble_eq_true rfl, Nat.le_of_ble_eq_true rfl⟩ ⟨rfl, rfl⟩ ⟨Nat.zero_le _, Nat.zero_le _⟩ (Nat.le_of_ble_eq_true rfl) (fun I' J' hp4 => ?_)
        obtain ⟨rfl, rfl⟩ := hp4
        refine fr_iinc (v := (nI (i + 1))) (L' := [(1, .int _), (0, .ref _)]) d_F_tick_82 rfl (fr_inc _) (by decide) rfl ?_
        refine fr_goto 69 d_F_tick_85 rfl ?_
        refine fr_pick (L' := [(1, .int _), (0, .ref _)]) [0, 1] rfl ?_
        refine fr_eqI (I' := fr_it (fb_F_tick3 n ((f_F_measureAll ((fr_it (fb_F_tick2 ) ((fr_it (fb_F_tick1 ) ((fr_ui I 0 0 5 ((I 0 0 5) + 1))) n)) n)) J n).2)) ((f_F_measureAll ((fr_it (fb_F_tick2 ) ((fr_it (fb_F_tick1 ) ((fr_ui I 0 0 5 ((I 0 0 5) + 1))) n)) n)) J n).1) (i + 1)) (Eq.symm (by rw [fr_it_s, fb_F_tick3_eq])) rfl ?_
        exact ih
    · skip
      have hwi2 : fr_wf n ((fr_it (fb_F_tick2 ) ((fr_it (fb_F_tick1 ) ((fr_ui I 0 0 5 ((I 0 0 5) + 1))) n)) i)) := (fw_it n (fun I i hi hw => fw_fb_F_tick2  hw) hwe1 i (Nat.le_of_lt hi))
      refine fr_iload_n d_F_tick_44 rfl ?_
      refine fr_aload_n d_F_tick_45 rfl ?_
      refine fr_geti d_F_tick_46 fl_F_30 rfl rfl (Or.inr ⟨rfl, rfl⟩) ?_
      refine fr_icmp_ge 63 d_F_tick_49 rfl (fun h => absurd h (by rw [fw_cnt hwi2]; exact nI_ge hi (by have := fw_n8 hw; omega))) (fun _ => ?_)
      refine fr_aload_n d_F_tick_52 rfl ?_
      refine fr_iload_n d_F_tick_53 rfl ?_
      refine fr_callVv fr_q0 d_F_tick_54 (ct_F_moveBreaker X n i hi _ _ hwi2) mv_F_158 rfl rfl rfl (Or.inr ⟨rfl, rfl⟩) rfl rfl ⟨Nat.le_of_ble_eq_true rfl, Nat.le_of_ble_eq_true rfl⟩ ⟨rfl, rfl⟩ ⟨Nat.zero_le _, Nat.zero_le _⟩ (Nat.le_of_ble_eq_true rfl) (fun I' J' hp5 => ?_)
      obtain ⟨rfl, rfl⟩ := hp5
      refine fr_iinc (v := (nI (i + 1))) (L' := [(1, .int _), (0, .ref _)]) d_F_tick_57 rfl (fr_inc _) (by decide) rfl ?_
      refine fr_goto 44 d_F_tick_60 rfl ?_
      refine fr_pick (L' := [(1, .int _), (0, .ref _)]) [0, 1] rfl ?_
      refine fr_eqI (I' := fr_it (fb_F_tick2 ) ((fr_it (fb_F_tick1 ) ((fr_ui I 0 0 5 ((I 0 0 5) + 1))) n)) (i + 1)) (Eq.symm (by rw [fr_it_s, fb_F_tick2_eq])) rfl ?_
      exact ih
  · skip
    have hwi1 : fr_wf n ((fr_it (fb_F_tick1 ) ((fr_ui I 0 0 5 ((I 0 0 5) + 1))) i)) := (fw_it n (fun I i hi hw => fw_fb_F_tick1  hw) (fw_ui (k := 0) (j := 5) rfl hw) i (Nat.le_of_lt hi))
    refine fr_iload_n d_F_tick_12 rfl ?_
    refine fr_aload_n d_F_tick_13 rfl ?_
    refine fr_geti d_F_tick_14 fl_F_30 rfl rfl (Or.inr ⟨rfl, rfl⟩) ?_
    refine fr_icmp_ge 42 d_F_tick_17 rfl (fun h => absurd h (by rw [fw_cnt hwi1]; exact nI_ge hi (by have := fw_n8 hw; omega))) (fun _ => ?_)
    refine fr_aload_n d_F_tick_20 rfl ?_
    refine fr_getr (k' := 1) (r' := 0) d_F_tick_21 fl_F_11 rfl rfl rfl (Or.inr ⟨rfl, rfl⟩) ?_
    refine fr_iload_n d_F_tick_24 rfl ?_
    refine fr_aald (k' := 7) (r' := i) (i) d_F_tick_25 rfl rfl (if_pos hi) (Or.inr ⟨rfl, rfl⟩) rfl (fw_lt8 hw hi) (by decide) ?_
    refine fr_getr (k' := 11) (r' := i) d_F_tick_26 fl_F_86 rfl rfl rfl (Or.inl ⟨rfl, hi⟩) ?_
    refine fr_aload_n d_F_tick_29 rfl ?_
    refine fr_geti d_F_tick_30 fl_F_34 rfl rfl (Or.inr ⟨rfl, rfl⟩) ?_
    refine fr_callVv fr_q5 d_F_tick_33 (ct_W_deliver X n i hi _ _ _) mv_F_155 rfl rfl rfl (Or.inl ⟨rfl, hi⟩) rfl rfl ⟨Nat.le_of_ble_eq_true rfl, Nat.le_of_ble_eq_true rfl⟩ ⟨rfl, rfl⟩ ⟨Nat.zero_le _, Nat.zero_le _⟩ (Nat.le_of_ble_eq_true rfl) (fun I' J' hp6 => ?_)
    obtain ⟨rfl, rfl⟩ := hp6
    refine fr_iinc (v := (nI (i + 1))) (L' := [(1, .int _), (0, .ref _)]) d_F_tick_36 rfl (fr_inc _) (by decide) rfl ?_
    refine fr_goto 12 d_F_tick_39 rfl ?_
    refine fr_pick (L' := [(1, .int _), (0, .ref _)]) [0, 1] rfl ?_
    refine fr_eqI (I' := fr_it (fb_F_tick1 ) ((fr_ui I 0 0 5 ((I 0 0 5) + 1))) (i + 1)) (Eq.symm (by rw [fr_it_s, fb_F_tick1_eq])) rfl ?_
    exact ih
theorem fw_F_tick {n : Nat} {I : fr_I} {J : fr_J} (hw : fr_wf n I) : fr_wf n (f_F_tick I J n).1 := by
  unfold f_F_tick
  exact (fw_J_store (fw_it n (fun I i hi hw => fw_fb_F_tick4  hw) (fw_it n (fun I i hi hw => fw_fb_F_tick3  hw) (fw_F_measureAll (fw_it n (fun I i hi hw => fw_fb_F_tick2  hw) (fw_it n (fun I i hi hw => fw_fb_F_tick1  hw) (fw_ui (k := 0) (j := 5) rfl hw) n (Nat.le_refl _)) n (Nat.le_refl _))) n (Nat.le_refl _)) n (Nat.le_refl _)))
theorem fc_F_tick {P : fr_I → Prop} (hP : fr_cst P) {n : Nat} {I : fr_I} {J : fr_J} (h : P I) : P (f_F_tick I J n).1 := by
  unfold f_F_tick
  refine fw_pr (P := P) ?_
  exact (fc_J_store hP (fw_it n (fun I i hi h => fc_fb_F_tick4 hP h) (fw_it n (fun I i hi h => fc_fb_F_tick3 hP h) (fc_F_measureAll hP (fw_it n (fun I i hi h => fc_fb_F_tick2 hP h) (fw_it n (fun I i hi h => fc_fb_F_tick1 hP h) (hP (k := 0) (by decide) h) n (Nat.le_refl _)) n (Nat.le_refl _))) n (Nat.le_refl _)) n (Nat.le_refl _)))
theorem fcj_F_tick {P : fr_J → Prop} (hP : fr_cstJ P) {n : Nat} {I : fr_I} {J : fr_J} (h : P J) : P (f_F_tick I J n).2 := by
  unfold f_F_tick
  refine fw_pr2 (P := P) ?_
  exact (fcj_F_measureAll hP h)
theorem fr_win {I : fr_I} {k a b : Nat} (h1 : a ≤ k) (h2 : k ≤ b) (hb : b < 2 ^ 31) : f_F_isWithin I (nI k) (nI a) (nI b) = 1 := by
  unfold f_F_isWithin
  rw [if_neg (nI_nlt h1 (by omega)), if_neg (nI_nlt h2 (by omega))]
def fb_F_run (n : Nat) (s : fr_I × fr_J) (i : Nat) : fr_I × fr_J :=
  ((f_F_tick (s.1) (s.2) n).1, (f_F_tick (s.1) (s.2) n).2)
theorem fb_F_run_eq (n : Nat) (s : fr_I × fr_J) (i : Nat) : fb_F_run n s i =
  ((f_F_tick (s.1) (s.2) n).1, (f_F_tick (s.1) (s.2) n).2) := rfl
theorem fw_fb_F_run {n : Nat} {s : fr_I × fr_J} {i : Nat} (hw : fr_wf n s.1) : fr_wf n (fb_F_run n s i).1 := by
  unfold fb_F_run
  refine fw_pr (P := fr_wf n) ?_
  exact (fw_F_tick hw)
theorem fc_fb_F_run {P : fr_I → Prop} (hP : fr_cst P) {n : Nat} {s : fr_I × fr_J} {i : Nat} (h : P s.1) : P (fb_F_run n s i).1 := by
  unfold fb_F_run
  refine fw_pr (P := P) ?_
  exact (fc_F_tick hP h)
theorem fcj_fb_F_run {P : fr_J → Prop} (hP : fr_cstJ P) {n : Nat} {s : fr_I × fr_J} {i : Nat} (h : P s.2) : P (fb_F_run n s i).2 := by
  unfold fb_F_run
  refine fw_pr2 (P := P) ?_
  exact (fcj_F_tick hP h)
def f_F_run (I : fr_I) (J : fr_J) (n : Nat) (k : Nat) : Int32 × fr_I × fr_J :=
  (((fr_jt (fb_F_run n) (I, J) k).1 0 0 5), (fr_jt (fb_F_run n) (I, J) k).1, (fr_jt (fb_F_run n) (I, J) k).2)
set_option maxRecDepth 10000 in
theorem ct_F_run (X : fr_X) (n : Nat) (k : Nat) (I : fr_I) (J : fr_J)  (hw : fr_wf n I) (hk1 : 1 ≤ k) (hk2 : k ≤ 20) : fr_Ct X y_F_run c_F_run 3 (some .int) (fr_rm 5) [.ref (fr_ad X 0 0), .int (nI k)] (fr_Z0 X n) (fr_Z0 X n) I J (fr_pi (fun x I' J' => (f_F_run I J n k).1 = x ∧ (f_F_run I J n k).2.1 = I' ∧ (f_F_run I J n k).2.2 = J')) := by
  refine fr_ct (by decide) rfl rfl (Nat.le_of_ble_eq_true rfl) rfl (fun E => ?_)
  refine fr_iload_n d_F_run_0 rfl ?_
  refine fr_iconst d_F_run_1 fr_i1 ?_
  refine fr_bipush d_F_run_2 fr_b20 ?_
  refine fr_callSi d_F_run_4 (ct_F_isWithin X n _ _ _ _ _) ms_F_47 rfl rfl ⟨Nat.le_of_ble_eq_true rfl, Nat.le_of_ble_eq_true rfl⟩ ⟨rfl, rfl⟩ ⟨Nat.zero_le _, Nat.zero_le _⟩ (Nat.le_of_ble_eq_true rfl) (fun x I' J' hp1 => ?_)
  obtain ⟨rfl, rfl, rfl⟩ := hp1
  rw [show f_F_isWithin I (nI k) 1 20 = 1 from fr_win (a := 1) (b := 20) hk1 hk2 (by decide)]
  refine fr_if_ne 12 d_F_run_7 rfl (fun _ => ?_) (fun h => absurd h (by decide))
  refine fr_iconst d_F_run_12 fr_i0 ?_
  refine fr_istore_n (L' := [(2, .int _), (0, .ref _), (1, .int _)]) d_F_run_13 (by decide) rfl ?_
  refine fr_pick (L' := [(2, .int _), (0, .ref _), (1, .int _)]) [0, 1, 2] rfl ?_
  refine fr_loop (fun i => (fr_jt (fb_F_run n) (I, J) i).1) (fun i => (fr_jt (fb_F_run n) (I, J) i).2) (fun i => [(2, .int (nI i)), (0, .ref (fr_ad X 0 0)), (1, .int (nI k))]) k rfl fr_jt_1 fr_jt_2 ?_ (fun i hi ih => ?_)
  · skip
    have hwe1 : fr_wf n ((fr_jt (fb_F_run n) (I, J) k).1) := (fw_jt k (fun s i hi hw => fw_fb_F_run  hw) hw k (Nat.le_refl _))
    refine fr_iload_n d_F_run_14 rfl ?_
    refine fr_iload_n d_F_run_15 rfl ?_
    refine fr_icmp_ge 29 d_F_run_16 rfl (fun _ => ?_) (fun h => absurd (nI_le (Nat.le_refl _) (by omega)) h)
    refine fr_aload_n d_F_run_29 rfl ?_
    refine fr_geti d_F_run_30 fl_F_34 rfl rfl (Or.inr ⟨rfl, rfl⟩) ?_
    exact fr_iret d_F_run_33 rfl (fr_nar_i _) (Nat.zero_le _) (Nat.zero_le _) (fr_tIJx (rfl))
  · skip
    have hwi1 : fr_wf n ((fr_jt (fb_F_run n) (I, J) i).1) := (fw_jt k (fun s i hi hw => fw_fb_F_run  hw) hw i (Nat.le_of_lt hi))
    refine fr_iload_n d_F_run_14 rfl ?_
    refine fr_iload_n d_F_run_15 rfl ?_
    refine fr_icmp_ge 29 d_F_run_16 rfl (fun h => absurd h (nI_ge hi (by omega))) (fun _ => ?_)
    refine fr_aload_n d_F_run_19 rfl ?_
    refine fr_callVv fr_q0 d_F_run_20 (ct_F_tick X n _ _ hwi1) mv_F_101 rfl rfl rfl (Or.inr ⟨rfl, rfl⟩) rfl rfl ⟨Nat.le_of_ble_eq_true rfl, Nat.le_of_ble_eq_true rfl⟩ ⟨rfl, rfl⟩ ⟨Nat.zero_le _, Nat.zero_le _⟩ (Nat.le_of_ble_eq_true rfl) (fun I' J' hp2 => ?_)
    obtain ⟨rfl, rfl⟩ := hp2
    refine fr_iinc (v := (nI (i + 1))) (L' := [(2, .int _), (0, .ref _), (1, .int _)]) d_F_run_23 rfl (fr_inc _) (by decide) rfl ?_
    refine fr_goto 14 d_F_run_26 rfl ?_
    refine fr_pick (L' := [(2, .int _), (0, .ref _), (1, .int _)]) [0, 1, 2] rfl ?_
    have he : fr_jt (fb_F_run n) (I, J) (i + 1) = ((f_F_tick ((fr_jt (fb_F_run n) (I, J) i).1) ((fr_jt (fb_F_run n) (I, J) i).2) n).1, (f_F_tick ((fr_jt (fb_F_run n) (I, J) i).1) ((fr_jt (fb_F_run n) (I, J) i).2) n).2) := by rw [fr_jt_s, fb_F_run_eq]
    refine fr_eqI (fr_pr1 (J' := J) (I' := I) he) (fr_pr2 (J' := J) (I' := I) he) ?_
    exact ih
theorem fw_F_run {n : Nat} {I : fr_I} {J : fr_J} {k : Nat} (hw : fr_wf n I) : fr_wf n (f_F_run I J n k).2.1 := by
  unfold f_F_run
  exact (fw_jt k (fun s i hi hw => fw_fb_F_run  hw) hw k (Nat.le_refl _))
theorem fc_F_run {P : fr_I → Prop} (hP : fr_cst P) {n : Nat} {I : fr_I} {J : fr_J} {k : Nat} (h : P I) : P (f_F_run I J n k).2.1 := by
  unfold f_F_run
  exact (fw_jt k (fun s i hi h => fc_fb_F_run hP h) h k (Nat.le_refl _))
theorem fcj_F_run {P : fr_J → Prop} (hP : fr_cstJ P) {n : Nat} {I : fr_I} {J : fr_J} {k : Nat} (h : P J) : P (f_F_run I J n k).2.2 := by
  unfold f_F_run
  exact (fw_jt2 k (fun s i hi h => fcj_fb_F_run hP h) h k (Nat.le_refl _))
def f_F_run_no (I : fr_I) (p1 : Int32) : Int32 :=
  (-1)
set_option maxRecDepth 10000 in
theorem ct_F_run_no (X : fr_X) (n : Nat) (I : fr_I) (J : fr_J) (p1 : Int32) (hx : f_F_isWithin I p1 1 20 = 0) : fr_Ct X y_F_run c_F_run 3 (some .int) (fr_rm 5) [.ref (fr_ad X 0 0), .int p1] (fr_Z0 X n) (fr_Z0 X n) I J (fr_pi (fun x I' J' => (f_F_run_no I p1) = x ∧ I = I' ∧ J = J')) := by
  refine fr_ct (by decide) rfl rfl (Nat.le_of_ble_eq_true rfl) rfl (fun E => ?_)
  refine fr_iload_n d_F_run_0 rfl ?_
  refine fr_iconst d_F_run_1 fr_i1 ?_
  refine fr_bipush d_F_run_2 fr_b20 ?_
  refine fr_callSi d_F_run_4 (ct_F_isWithin X n _ _ _ _ _) ms_F_47 rfl rfl ⟨Nat.le_of_ble_eq_true rfl, Nat.le_of_ble_eq_true rfl⟩ ⟨rfl, rfl⟩ ⟨Nat.zero_le _, Nat.zero_le _⟩ (Nat.le_of_ble_eq_true rfl) (fun x I' J' hp1 => ?_)
  obtain ⟨rfl, rfl, rfl⟩ := hp1
  rw [hx]
  refine fr_if_ne 12 d_F_run_7 rfl (fun h => absurd h (by decide)) (fun _ => ?_)
  refine fr_iconst d_F_run_10 fr_im1 ?_
  exact fr_iret d_F_run_11 rfl (fr_nar_i _) (Nat.zero_le _) (Nat.zero_le _) ⟨rfl, rfl, rfl⟩
def fb_F_crash  (s : fr_I × fr_J) (i : Nat) : fr_I × fr_J :=
  ((f_B_forget ((f_W_forget ((f_M_forget (s.1) (s.2) i).1) i)) i), (f_M_forget (s.1) (s.2) i).2)
theorem fb_F_crash_eq  (s : fr_I × fr_J) (i : Nat) : fb_F_crash  s i =
  ((f_B_forget ((f_W_forget ((f_M_forget (s.1) (s.2) i).1) i)) i), (f_M_forget (s.1) (s.2) i).2) := rfl
theorem fw_fb_F_crash {n : Nat} {s : fr_I × fr_J} {i : Nat} (hw : fr_wf n s.1) : fr_wf n (fb_F_crash  s i).1 := by
  unfold fb_F_crash
  refine fw_pr (P := fr_wf n) ?_
  exact (fw_B_forget (fw_W_forget (fw_M_forget hw)))
theorem fc_fb_F_crash {P : fr_I → Prop} (hP : fr_cst P) {s : fr_I × fr_J} {i : Nat} (h : P s.1) : P (fb_F_crash  s i).1 := by
  unfold fb_F_crash
  refine fw_pr (P := P) ?_
  exact (fc_B_forget hP (fc_W_forget hP (fc_M_forget hP h)))
theorem fcj_fb_F_crash {P : fr_J → Prop} (hP : fr_cstJ P) {s : fr_I × fr_J} {i : Nat} (h : P s.2) : P (fb_F_crash  s i).2 := by
  unfold fb_F_crash
  refine fw_pr2 (P := P) ?_
  exact (fcj_M_forget hP h)
def f_F_crash (I : fr_I) (J : fr_J) (n : Nat) : Int32 × fr_I × fr_J :=
  ((f_J_dropUnstored ((fr_jt (fb_F_crash ) (I, J) n).1)).1, (f_J_dropUnstored ((fr_jt (fb_F_crash ) (I, J) n).1)).2, (fr_jt (fb_F_crash ) (I, J) n).2)
set_option maxRecDepth 10000 in
theorem ct_F_crash (X : fr_X) (n : Nat) (I : fr_I) (J : fr_J)  (hw : fr_wf n I) : fr_Ct X y_F_crash c_F_crash 2 (some .int) (fr_rm 2) [.ref (fr_ad X 0 0)] (fr_Z0 X n) (fr_Z0 X n) I J (fr_pi (fun x I' J' => (f_F_crash I J n).1 = x ∧ (f_F_crash I J n).2.1 = I' ∧ (f_F_crash I J n).2.2 = J')) := by
  refine fr_ct (by decide) rfl rfl (Nat.le_of_ble_eq_true rfl) rfl (fun E => ?_)
  refine fr_iconst d_F_crash_0 fr_i0 ?_
  refine fr_istore_n (L' := [(1, .int _), (0, .ref _)]) d_F_crash_1 (by decide) rfl ?_
  refine fr_pick (L' := [(1, .int _), (0, .ref _)]) [0, 1] rfl ?_
  refine fr_loop (fun i => (fr_jt (fb_F_crash ) (I, J) i).1) (fun i => (fr_jt (fb_F_crash ) (I, J) i).2) (fun i => [(1, .int (nI i)), (0, .ref (fr_ad X 0 0))]) n rfl fr_jt_1 fr_jt_2 ?_ (fun i hi ih => ?_)
  · skip
    have hwe1 : fr_wf n ((fr_jt (fb_F_crash ) (I, J) n).1) := (fw_jt n (fun s i hi hw => fw_fb_F_crash  hw) hw n (Nat.le_refl _))
    refine fr_iload_n d_F_crash_2 rfl ?_
    refine fr_aload_n d_F_crash_3 rfl ?_
    refine fr_geti d_F_crash_4 fl_F_30 rfl rfl (Or.inr ⟨rfl, rfl⟩) ?_
    refine fr_icmp_ge 52 d_F_crash_7 rfl (fun _ => ?_) (fun h => absurd (by rw [fw_cnt hwe1]; exact nI_le (Nat.le_refl _) (by have := fw_n8 hw; omega)) h)
    refine fr_aload_n d_F_crash_52 rfl ?_
    refine fr_getr (k' := 4) (r' := 0) d_F_crash_53 fl_F_26 rfl rfl rfl (Or.inr ⟨rfl, rfl⟩) ?_
    refine fr_callVi fr_q1 d_F_crash_56 (ct_J_dropUnstored X n _ _) mv_F_106 rfl rfl rfl (Or.inr ⟨rfl, rfl⟩) rfl rfl ⟨Nat.le_of_ble_eq_true rfl, Nat.le_of_ble_eq_true rfl⟩ ⟨rfl, rfl⟩ ⟨Nat.zero_le _, Nat.zero_le _⟩ (Nat.le_of_ble_eq_true rfl) (fun x I' J' hp1 => ?_)
    obtain ⟨rfl, rfl, rfl⟩ := hp1
    exact fr_iret d_F_crash_59 rfl (fr_nar_i _) (Nat.zero_le _) (Nat.zero_le _) (fr_tIJx (rfl))
  · skip
    have hwi1 : fr_wf n ((fr_jt (fb_F_crash ) (I, J) i).1) := (fw_jt n (fun s i hi hw => fw_fb_F_crash  hw) hw i (Nat.le_of_lt hi))
    refine fr_iload_n d_F_crash_2 rfl ?_
    refine fr_aload_n d_F_crash_3 rfl ?_
    refine fr_geti d_F_crash_4 fl_F_30 rfl rfl (Or.inr ⟨rfl, rfl⟩) ?_
    refine fr_icmp_ge 52 d_F_crash_7 rfl (fun h => absurd h (by rw [fw_cnt hwi1]; exact nI_ge hi (by have := fw_n8 hw; omega))) (fun _ => ?_)
    refine fr_aload_n d_F_crash_10 rfl ?_
    refine fr_getr (k' := 1) (r' := 0) d_F_crash_11 fl_F_11 rfl rfl rfl (Or.inr ⟨rfl, rfl⟩) ?_
    refine fr_iload_n d_F_crash_14 rfl ?_
    refine fr_aald (k' := 7) (r' := i) (i) d_F_crash_15 rfl rfl (if_pos hi) (Or.inr ⟨rfl, rfl⟩) rfl (fw_lt8 hw hi) (by decide) ?_
    refine fr_getr (k' := 8) (r' := i) d_F_crash_16 fl_F_51 rfl rfl rfl (Or.inl ⟨rfl, hi⟩) ?_
    refine fr_callVv fr_q3 d_F_crash_19 (ct_M_forget X n i hi _ _) mv_F_104 rfl rfl rfl (Or.inl ⟨rfl, hi⟩) rfl rfl ⟨Nat.le_of_ble_eq_true rfl, Nat.le_of_ble_eq_true rfl⟩ ⟨rfl, rfl⟩ ⟨Nat.zero_le _, Nat.zero_le _⟩ (Nat.le_of_ble_eq_true rfl) (fun I' J' hp2 => ?_)
    obtain ⟨rfl, rfl⟩ := hp2
    refine fr_aload_n d_F_crash_22 rfl ?_
    refine fr_getr (k' := 1) (r' := 0) d_F_crash_23 fl_F_11 rfl rfl rfl (Or.inr ⟨rfl, rfl⟩) ?_
    refine fr_iload_n d_F_crash_26 rfl ?_
    refine fr_aald (k' := 7) (r' := i) (i) d_F_crash_27 rfl rfl (if_pos hi) (Or.inr ⟨rfl, rfl⟩) rfl (fw_lt8 hw hi) (by decide) ?_
    refine fr_getr (k' := 11) (r' := i) d_F_crash_28 fl_F_86 rfl rfl rfl (Or.inl ⟨rfl, hi⟩) ?_
    refine fr_callVv fr_q5 d_F_crash_31 (ct_W_forget X n i hi _ _) mv_F_105 rfl rfl rfl (Or.inl ⟨rfl, hi⟩) rfl rfl ⟨Nat.le_of_ble_eq_true rfl, Nat.le_of_ble_eq_true rfl⟩ ⟨rfl, rfl⟩ ⟨Nat.zero_le _, Nat.zero_le _⟩ (Nat.le_of_ble_eq_true rfl) (fun I' J' hp3 => ?_)
    obtain ⟨rfl, rfl⟩ := hp3
    refine fr_aload_n d_F_crash_34 rfl ?_
    refine fr_getr (k' := 1) (r' := 0) d_F_crash_35 fl_F_11 rfl rfl rfl (Or.inr ⟨rfl, rfl⟩) ?_
    refine fr_iload_n d_F_crash_38 rfl ?_
    refine fr_aald (k' := 7) (r' := i) (i) d_F_crash_39 rfl rfl (if_pos hi) (Or.inr ⟨rfl, rfl⟩) rfl (fw_lt8 hw hi) (by decide) ?_
    refine fr_getr (k' := 10) (r' := i) d_F_crash_40 fl_F_77 rfl rfl rfl (Or.inl ⟨rfl, hi⟩) ?_
    refine fr_callVv fr_q4 d_F_crash_43 (ct_B_forget X n i hi _ _) mv_F_98 rfl rfl rfl (Or.inl ⟨rfl, hi⟩) rfl rfl ⟨Nat.le_of_ble_eq_true rfl, Nat.le_of_ble_eq_true rfl⟩ ⟨rfl, rfl⟩ ⟨Nat.zero_le _, Nat.zero_le _⟩ (Nat.le_of_ble_eq_true rfl) (fun I' J' hp4 => ?_)
    obtain ⟨rfl, rfl⟩ := hp4
    refine fr_iinc (v := (nI (i + 1))) (L' := [(1, .int _), (0, .ref _)]) d_F_crash_46 rfl (fr_inc _) (by decide) rfl ?_
    refine fr_goto 2 d_F_crash_49 rfl ?_
    refine fr_pick (L' := [(1, .int _), (0, .ref _)]) [0, 1] rfl ?_
    have he : fr_jt (fb_F_crash ) (I, J) (i + 1) = ((f_B_forget ((f_W_forget ((f_M_forget ((fr_jt (fb_F_crash ) (I, J) i).1) ((fr_jt (fb_F_crash ) (I, J) i).2) i).1) i)) i), (f_M_forget ((fr_jt (fb_F_crash ) (I, J) i).1) ((fr_jt (fb_F_crash ) (I, J) i).2) i).2) := by rw [fr_jt_s, fb_F_crash_eq]
    refine fr_eqI (fr_pr1 (J' := J) (I' := I) he) (fr_pr2 (J' := J) (I' := I) he) ?_
    exact ih
theorem fw_F_crash {n : Nat} {I : fr_I} {J : fr_J} (hw : fr_wf n I) : fr_wf n (f_F_crash I J n).2.1 := by
  unfold f_F_crash
  exact (fw_J_dropUnstored (fw_jt n (fun s i hi hw => fw_fb_F_crash  hw) hw n (Nat.le_refl _)))
theorem fc_F_crash {P : fr_I → Prop} (hP : fr_cst P) {n : Nat} {I : fr_I} {J : fr_J} (h : P I) : P (f_F_crash I J n).2.1 := by
  unfold f_F_crash
  exact (fc_J_dropUnstored hP (fw_jt n (fun s i hi h => fc_fb_F_crash hP h) h n (Nat.le_refl _)))
theorem fcj_F_crash {P : fr_J → Prop} (hP : fr_cstJ P) {n : Nat} {I : fr_I} {J : fr_J} (h : P J) : P (f_F_crash I J n).2.2 := by
  unfold f_F_crash
  exact (fw_jt2 n (fun s i hi h => fcj_fb_F_crash hP h) h n (Nat.le_refl _))
