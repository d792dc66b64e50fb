theorem wn_t {I : fr_I} {v a b : Int32} (h1 : ¬ v < a) (h2 : ¬ b < v) : f_F_isWithin I v a b = 1 := by unfold f_F_isWithin; rw [if_neg h1, if_neg h2]
theorem wn_l {I : fr_I} {v a b : Int32} (h1 : v < a) : f_F_isWithin I v a b = 0 := by unfold f_F_isWithin; rw [if_pos h1]
theorem wn_r {I : fr_I} {v a b : Int32} (h1 : ¬ v < a) (h2 : b < v) : f_F_isWithin I v a b = 0 := by unfold f_F_isWithin; rw [if_neg h1, if_pos h2]
theorem wn_nn {v a b : Int32} {lo hi : Nat} (ha : a.toInt = lo) (hb : b.toInt = hi) (h1 : ¬ v < a) (h2 : ¬ b < v) : ∃ e, lo ≤ e ∧ e ≤ hi ∧ v = nI e := by
  rw [Int32.lt_iff_toInt_lt] at h1 h2
  have h0 : ¬ v < 0 := by rw [Int32.lt_iff_toInt_lt]; show ¬ v.toInt < 0; omega
  obtain ⟨j, hj, rfl⟩ := nI_of h0
  rw [nI_toInt hj] at h1 h2
  exact ⟨j, by omega, by omega, rfl⟩
theorem st_load {n T : Nat} {I : fr_I} {J : fr_J} {A : fr_I} {B : fr_J} {r : Nat} (p2 : Int32) (h : rl_all n T I J A B) : (f_F_load I r p2).1 = (f_O_load A r p2).1 ∧ rl_all n T (f_F_load I r p2).2 J (f_O_load A r p2).2 B := by
  unfold f_F_load f_O_load
  by_cases a0 : p2 < 0
  · rw [wn_l a0, if_pos rfl, if_pos a0]; exact ⟨rfl, h⟩
  by_cases b0 : (2000 : Int32) < p2
  · rw [wn_r a0 b0, if_pos rfl, if_neg a0, if_neg (k2_nle b0)]; exact ⟨rfl, h⟩
  rw [wn_t a0 b0, if_neg (by decide), if_neg a0, if_pos (k2_le b0)]
  obtain ⟨e0, l0, u0, z0⟩ := wn_nn (lo := 0) (hi := 2000) (by decide) (by decide) a0 b0
  exact ⟨rfl, up_load p2 ⟨e0, by omega, z0⟩ h⟩
theorem st_fault {n T : Nat} {I : fr_I} {J : fr_J} {A : fr_I} {B : fr_J} {r : Nat} (p2 : Int32) (h : rl_all n T I J A B) : (f_F_fault I r p2).1 = (f_O_fault A r p2).1 ∧ rl_all n T (f_F_fault I r p2).2 J (f_O_fault A r p2).2 B := by
  unfold f_F_fault f_O_fault
  by_cases a0 : p2 < 0
  · rw [wn_l a0, if_pos rfl, if_pos a0]; exact ⟨rfl, h⟩
  by_cases b0 : (20000 : Int32) < p2
  · rw [wn_r a0 b0, if_pos rfl, if_neg a0, if_neg (k2_nle b0)]; exact ⟨rfl, h⟩
  rw [wn_t a0 b0, if_neg (by decide), if_neg a0, if_pos (k2_le b0)]
  obtain ⟨e0, l0, u0, z0⟩ := wn_nn (lo := 0) (hi := 20000) (by decide) (by decide) a0 b0
  exact ⟨rfl, up_fault p2 ⟨e0, by omega, z0⟩ h⟩
theorem st_line {n T : Nat} {I : fr_I} {J : fr_J} {A : fr_I} {B : fr_J} {r : Nat} (p2 : Int32) (h : rl_all n T I J A B) : (f_F_line I r p2).1 = (f_O_line A r p2).1 ∧ rl_all n T (f_F_line I r p2).2 J (f_O_line A r p2).2 B := by
  unfold f_F_line f_O_line
  by_cases a0 : p2 < 0
  · rw [wn_l a0, if_pos rfl, if_pos a0]; exact ⟨rfl, h⟩
  by_cases b0 : (8 : Int32) < p2
  · rw [wn_r a0 b0, if_pos rfl, if_neg a0, if_neg (k2_nle b0)]; exact ⟨rfl, h⟩
  rw [wn_t a0 b0, if_neg (by decide), if_neg a0, if_pos (k2_le b0)]
  obtain ⟨e0, l0, u0, z0⟩ := wn_nn (lo := 0) (hi := 8) (by decide) (by decide) a0 b0
  exact ⟨rfl, up_line p2 ⟨e0, by omega, z0⟩ h⟩
theorem st_options {n T : Nat} {I : fr_I} {J : fr_J} {A : fr_I} {B : fr_J} {r : Nat} (p2 p3 p4 : Int32) (h : rl_all n T I J A B) : (f_F_options I r p2 p3 p4).1 = (f_O_options A r p2 p3 p4).1 ∧ rl_all n T (f_F_options I r p2 p3 p4).2 J (f_O_options A r p2 p3 p4).2 B := by
  unfold f_F_options f_O_options
  by_cases a0 : p3 < 0
  · rw [wn_l a0, if_pos rfl, if_pos a0]; exact ⟨rfl, h⟩
  by_cases b0 : (3 : Int32) < p3
  · rw [wn_r a0 b0, if_pos rfl, if_neg a0, if_pos b0]; exact ⟨rfl, h⟩
  rw [wn_t a0 b0, if_neg (by decide), if_neg a0, if_neg b0]
  by_cases a1 : p4 < 1
  · rw [wn_l a1, if_pos rfl, if_pos a1]; exact ⟨rfl, h⟩
  by_cases b1 : (50 : Int32) < p4
  · rw [wn_r a1 b1, if_pos rfl, if_neg a1, if_neg (k2_nle b1)]; exact ⟨rfl, h⟩
  rw [wn_t a1 b1, if_neg (by decide), if_neg a1, if_pos (k2_le b1)]
  exact ⟨rfl, up_options p2 p3 p4 h⟩
theorem st_settings {n T : Nat} {I : fr_I} {J : fr_J} {A : fr_I} {B : fr_J} {r : Nat} (p2 p3 p4 : Int32) (h : rl_all n T I J A B) : (f_F_settings I r p2 p3 p4).1 = (f_O_settings A r p2 p3 p4).1 ∧ rl_all n T (f_F_settings I r p2 p3 p4).2 J (f_O_settings A r p2 p3 p4).2 B := by
  unfold f_F_settings f_O_settings
  by_cases a0 : p2 < 0
  · rw [wn_l a0, if_pos rfl, if_pos a0]; exact ⟨rfl, h⟩
  by_cases b0 : (2 : Int32) < p2
  · rw [wn_r a0 b0, if_pos rfl, if_neg a0, if_pos b0]; exact ⟨rfl, h⟩
  rw [wn_t a0 b0, if_neg (by decide), if_neg a0, if_neg b0]
  by_cases a1 : p3 < 1
  · rw [wn_l a1, if_pos rfl, if_pos a1]; exact ⟨rfl, h⟩
  by_cases b1 : (5000 : Int32) < p3
  · rw [wn_r a1 b1, if_pos rfl, if_neg a1, if_pos b1]; exact ⟨rfl, h⟩
  rw [wn_t a1 b1, if_neg (by decide), if_neg a1, if_neg b1]
  by_cases a2 : p4 < 1
  · rw [wn_l a2, if_pos rfl, if_pos a2]; exact ⟨rfl, h⟩
  by_cases b2 : (1000 : Int32) < p4
  · rw [wn_r a2 b2, if_pos rfl, if_neg a2, if_neg (k2_nle b2)]; exact ⟨rfl, h⟩
  rw [wn_t a2 b2, if_neg (by decide), if_neg a2, if_pos (k2_le b2)]
  obtain ⟨e0, l0, u0, z0⟩ := wn_nn (lo := 0) (hi := 2) (by decide) (by decide) a0 b0
  obtain ⟨e1, l1, u1, z1⟩ := wn_nn (lo := 1) (hi := 5000) (by decide) (by decide) a1 b1
  obtain ⟨e2, l2, u2, z2⟩ := wn_nn (lo := 1) (hi := 1000) (by decide) (by decide) a2 b2
  have hk : p2 = 0 ∨ p2 = 1 ∨ p2 = 2 := by
    rcases (by omega : e0 = 0 ∨ e0 = 1 ∨ e0 = 2) with h | h | h <;> subst h <;> simp [z0, nI]
  exact ⟨rfl, up_settings p2 p3 p4 hk ⟨e1, by omega, z1⟩ ⟨e2, by omega, z2⟩ h⟩
theorem st_jam {n T : Nat} {I : fr_I} {J : fr_J} {A : fr_I} {B : fr_J} {r : Nat} (p2 : Int32) (h : rl_all n T I J A B) : (f_F_jam I r p2).1 = (f_O_jam A r p2).1 ∧ rl_all n T (f_F_jam I r p2).2 J (f_O_jam A r p2).2 B := ⟨rfl, up_jam p2 h⟩
theorem up_operate0 {n T : Nat} {I : fr_I} {J : fr_J} {A : fr_I} {B : fr_J} {r : Nat} (p2 : Int32)  (h : rl_all n T I J A B) : rl_all n T (fr_ui (fr_ui (fr_ui (fr_ui (fr_ui I 10 r 0 p2) 10 r 6 0) 10 r 8 0) 10 r 5 0) 10 r 2 (if p2 = 0 then (1 : Int32) else 0)) J (fr_ui (fr_ui (fr_ui (fr_ui (fr_ui A 43 0 r p2) 60 0 r 0) 63 0 r 0) 65 0 r (if p2 = 0 then (1 : Int32) else 0)) 66 0 r 0) B := by
  obtain ⟨hw, hm, t1, t2, ⟨j1, j2, j3, j4⟩, hq⟩ := h
  refine ⟨(fw_ui (k := 10) (j := 2) rfl (fw_ui (k := 10) (j := 5) rfl (fw_ui (k := 10) (j := 8) rfl (fw_ui (k := 10) (j := 6) rfl (fw_ui (k := 10) (j := 0) rfl hw))))), (fm_ui (k := 66) rfl (fm_ui (k := 65) rfl (fm_ui (k := 63) rfl (fm_ui (k := 60) rfl (fm_ui (k := 43) rfl hm))))), t1, t2, ⟨j1, j2, j3, j4⟩, fun q hqn => ?_⟩
  by_cases e : q = r
  · subst e
    obtain ⟨hs, hv2, hb, hme, hwi, hqu⟩ := hq q hqn
    refine ⟨?_, ?_, ?_, ?_, ?_, ?_⟩
    · first | exact hs | (unfold rl_set at hs ⊢; simp [fr_ui] at hs ⊢; exact hs) | (unfold rl_set at hs ⊢; simp [fr_ui] at hs ⊢; simp [hs])
    · first | exact hv2 | (unfold rl_val at hv2 ⊢; simp [fr_ui] at hv2 ⊢; exact hv2) | (unfold rl_val at hv2 ⊢; simp [fr_ui] at hv2 ⊢; simp [hv2])
    · unfold rl_brk at hb ⊢
      simp [fr_ui] at hb ⊢
      simp [hb]
    · first | exact hme | (unfold rl_met f_M_rootOfMeanSquare at hme ⊢; simp [fr_ui] at hme ⊢; exact hme) | (unfold rl_met f_M_rootOfMeanSquare at hme ⊢; simp [fr_ui] at hme ⊢; simp [hme])
    · first | exact hwi | (unfold rl_wir at hwi ⊢; simp [fr_ui] at hwi ⊢; exact hwi) | (unfold rl_wir at hwi ⊢; simp [fr_ui] at hwi ⊢; simp [hwi])
    · first | exact hqu | (unfold rl_que rl_qR rl_qC at hqu ⊢; simp [fr_ui] at hqu ⊢; exact hqu) | (unfold rl_que rl_qR rl_qC at hqu ⊢; simp [fr_ui] at hqu ⊢; simp [hqu])
  · exact rl_one_off (fun k j _ _ => ((fr_ui_n (fun z => e z.2.1)).trans ((fr_ui_n (fun z => e z.2.1)).trans ((fr_ui_n (fun z => e z.2.1)).trans ((fr_ui_n (fun z => e z.2.1)).trans (fr_ui_n (fun z => e z.2.1))))))) rfl (fun k _ _ _ => ((fr_ui_n (fun z => e z.2.2)).trans ((fr_ui_n (fun z => e z.2.2)).trans ((fr_ui_n (fun z => e z.2.2)).trans ((fr_ui_n (fun z => e z.2.2)).trans (fr_ui_n (fun z => e z.2.2))))))) (fun i _ => ((fr_ui_n (fun z => absurd z.1 (by decide))).trans ((fr_ui_n (fun z => absurd z.1 (by decide))).trans ((fr_ui_n (fun z => absurd z.1 (by decide))).trans ((fr_ui_n (fun z => absurd z.1 (by decide))).trans (fr_ui_n (fun z => absurd z.1 (by decide)))))))) (fun i _ => ((fr_ui_n (fun z => absurd z.1 (by decide))).trans ((fr_ui_n (fun z => absurd z.1 (by decide))).trans ((fr_ui_n (fun z => absurd z.1 (by decide))).trans ((fr_ui_n (fun z => absurd z.1 (by decide))).trans (fr_ui_n (fun z => absurd z.1 (by decide)))))))) (fun i _ => ((fr_ui_n (fun z => absurd z.1 (by decide))).trans ((fr_ui_n (fun z => absurd z.1 (by decide))).trans ((fr_ui_n (fun z => absurd z.1 (by decide))).trans ((fr_ui_n (fun z => absurd z.1 (by decide))).trans (fr_ui_n (fun z => absurd z.1 (by decide)))))))) rfl (hq q hqn)
theorem st_operate {n T : Nat} {I : fr_I} {J : fr_J} {A : fr_I} {B : fr_J} {r : Nat} (p2 : Int32) (h : rl_all n T I J A B) : (f_F_operate I r p2).1 = (f_O_operate A r p2).1 ∧ rl_all n T (f_F_operate I r p2).2 J (f_O_operate A r p2).2 B := by
  have e : (f_F_operate I r p2).2 = fr_ui (fr_ui (fr_ui (fr_ui (fr_ui I 10 r 0 p2) 10 r 6 0) 10 r 8 0) 10 r 5 0) 10 r 2 (if p2 = 0 then (1 : Int32) else 0) := by
    show f_B_forget (fr_ui I 10 r 0 p2) r = _
    unfold f_B_forget
    rw [show (fr_ui (fr_ui (fr_ui (fr_ui I 10 r 0 p2) 10 r 6 0) 10 r 8 0) 10 r 5 0) 10 r 0 = p2 by simp [fr_ui]]
  rw [e]
  exact ⟨rfl, up_operate0 p2 h⟩
theorem fre_settings {n r : Nat} {A : fr_I} {B : fr_J} {p2 p3 p4 : Int32} (hr : r < n) (h : rl_fre n A B) : rl_fre n (f_O_settings A r p2 p3 p4).2 B := by
  unfold f_O_settings
  repeat' split
  all_goals first | exact h | exact rl_fre_ui (by decide) hr h | exact rl_fre_ui (by decide) hr (rl_fre_ui (by decide) hr (rl_fre_ui (by decide) hr h)) | exact rl_fre_ui (by decide) hr (rl_fre_ui (by decide) hr (rl_fre_ui (by decide) hr (rl_fre_ui (by decide) hr (rl_fre_ui (by decide) hr h))))
theorem fre_options {n r : Nat} {A : fr_I} {B : fr_J} {p2 p3 p4 : Int32} (hr : r < n) (h : rl_fre n A B) : rl_fre n (f_O_options A r p2 p3 p4).2 B := by
  unfold f_O_options
  repeat' split
  all_goals first | exact h | exact rl_fre_ui (by decide) hr h | exact rl_fre_ui (by decide) hr (rl_fre_ui (by decide) hr (rl_fre_ui (by decide) hr h)) | exact rl_fre_ui (by decide) hr (rl_fre_ui (by decide) hr (rl_fre_ui (by decide) hr (rl_fre_ui (by decide) hr (rl_fre_ui (by decide) hr h))))
theorem fre_load {n r : Nat} {A : fr_I} {B : fr_J} {p2 : Int32} (hr : r < n) (h : rl_fre n A B) : rl_fre n (f_O_load A r p2).2 B := by
  unfold f_O_load
  repeat' split
  all_goals first | exact h | exact rl_fre_ui (by decide) hr h | exact rl_fre_ui (by decide) hr (rl_fre_ui (by decide) hr (rl_fre_ui (by decide) hr h)) | exact rl_fre_ui (by decide) hr (rl_fre_ui (by decide) hr (rl_fre_ui (by decide) hr (rl_fre_ui (by decide) hr (rl_fre_ui (by decide) hr h))))
theorem fre_fault {n r : Nat} {A : fr_I} {B : fr_J} {p2 : Int32} (hr : r < n) (h : rl_fre n A B) : rl_fre n (f_O_fault A r p2).2 B := by
  unfold f_O_fault
  repeat' split
  all_goals first | exact h | exact rl_fre_ui (by decide) hr h | exact rl_fre_ui (by decide) hr (rl_fre_ui (by decide) hr (rl_fre_ui (by decide) hr h)) | exact rl_fre_ui (by decide) hr (rl_fre_ui (by decide) hr (rl_fre_ui (by decide) hr (rl_fre_ui (by decide) hr (rl_fre_ui (by decide) hr h))))
theorem fre_jam {n r : Nat} {A : fr_I} {B : fr_J} {p2 : Int32} (hr : r < n) (h : rl_fre n A B) : rl_fre n (f_O_jam A r p2).2 B := by
  unfold f_O_jam
  repeat' split
  all_goals first | exact h | exact rl_fre_ui (by decide) hr h | exact rl_fre_ui (by decide) hr (rl_fre_ui (by decide) hr (rl_fre_ui (by decide) hr h)) | exact rl_fre_ui (by decide) hr (rl_fre_ui (by decide) hr (rl_fre_ui (by decide) hr (rl_fre_ui (by decide) hr (rl_fre_ui (by decide) hr h))))
theorem fre_line {n r : Nat} {A : fr_I} {B : fr_J} {p2 : Int32} (hr : r < n) (h : rl_fre n A B) : rl_fre n (f_O_line A r p2).2 B := by
  unfold f_O_line
  repeat' split
  all_goals first | exact h | exact rl_fre_ui (by decide) hr h | exact rl_fre_ui (by decide) hr (rl_fre_ui (by decide) hr (rl_fre_ui (by decide) hr h)) | exact rl_fre_ui (by decide) hr (rl_fre_ui (by decide) hr (rl_fre_ui (by decide) hr (rl_fre_ui (by decide) hr (rl_fre_ui (by decide) hr h))))
theorem fre_operate {n r : Nat} {A : fr_I} {B : fr_J} {p2 : Int32} (hr : r < n) (h : rl_fre n A B) : rl_fre n (f_O_operate A r p2).2 B := by
  unfold f_O_operate
  repeat' split
  all_goals first | exact h | exact rl_fre_ui (by decide) hr h | exact rl_fre_ui (by decide) hr (rl_fre_ui (by decide) hr (rl_fre_ui (by decide) hr h)) | exact rl_fre_ui (by decide) hr (rl_fre_ui (by decide) hr (rl_fre_ui (by decide) hr (rl_fre_ui (by decide) hr (rl_fre_ui (by decide) hr h))))
theorem op_settings (X : fr_X) {c : Nat} (n : Nat) (I : fr_I) (J : fr_J) (a1 a2 a3 a4 : Int32) (h : rl_inv c n I J) : lx_P X (rl_inv (c + 1)) y_F_settings c_F_settings 5 (some .boolean) y_O_settings c_O_settings 5 (some .boolean) [.int a1, .int a2, .int a3, .int a4] n I J := by
  obtain ⟨T, hT, hR, hZ⟩ := h
  by_cases hx : f_F_isRelay I a1 = 0
  · exact lx_mk (ct_F_settings_no X n I J a1 a2 a3 a4 hx) (ct_O_settings_no X n I J a1 a2 a3 a4 (rl_none hR hx)) (by decide) (by decide) rfl ⟨T, by omega, hR, hZ⟩
  · obtain ⟨r, hr, rfl⟩ := fr_isR_1 hR.1 hx
    have kO : rl_kO I (f_F_settings I r a2 a3 a4).2 := fc_F_settings rl_kO_st (fun _ _ _ _ => rfl)
    have kC : rl_kC (f_F_settings I r a2 a3 a4).2 (f_O_settings (f_F_settings I r a2 a3 a4).2 r a2 a3 a4).2 := fc_O_settings rl_kC_st (fun _ _ _ _ => rfl)
    have hA : rl_all n T I J (f_F_settings I r a2 a3 a4).2 J := hR.congr (fun _ _ _ _ => rfl) (fun _ _ _ _ => rfl) kO (fun _ _ _ _ => rfl)
    exact lx_mk (ct_F_settings X n r hr I J a2 a3 a4 hR.1 ) (ct_O_settings X n r hr _ J a2 a3 a4 hA.2.1 ) (by decide) (by decide) (st_settings a2 a3 a4 hA).1 (op_I hT hR hZ kO kC (fre_settings hr) (fun h => (st_settings a2 a3 a4 h).2))
theorem op_options (X : fr_X) {c : Nat} (n : Nat) (I : fr_I) (J : fr_J) (a1 a2 a3 a4 : Int32) (h : rl_inv c n I J) (ha2 : a2 = 0 ∨ a2 = 1) : lx_P X (rl_inv (c + 1)) y_F_options c_F_options 6 (some .boolean) y_O_options c_O_options 5 (some .boolean) [.int a1, .int a2, .int a3, .int a4] n I J := by
  obtain ⟨T, hT, hR, hZ⟩ := h
  by_cases hx : f_F_isRelay I a1 = 0
  · exact lx_mk (ct_F_options_no X n I J a1 a2 a3 a4 hx) (ct_O_options_no X n I J a1 a2 a3 a4 (rl_none hR hx)) (by decide) (by decide) rfl ⟨T, by omega, hR, hZ⟩
  · obtain ⟨r, hr, rfl⟩ := fr_isR_1 hR.1 hx
    have kO : rl_kO I (f_F_options I r a2 a3 a4).2 := fc_F_options rl_kO_st (fun _ _ _ _ => rfl)
    have kC : rl_kC (f_F_options I r a2 a3 a4).2 (f_O_options (f_F_options I r a2 a3 a4).2 r a2 a3 a4).2 := fc_O_options rl_kC_st (fun _ _ _ _ => rfl)
    have hA : rl_all n T I J (f_F_options I r a2 a3 a4).2 J := hR.congr (fun _ _ _ _ => rfl) (fun _ _ _ _ => rfl) kO (fun _ _ _ _ => rfl)
    exact lx_mk (ct_F_options X n r hr I J a2 a3 a4 hR.1 ha2) (ct_O_options X n r hr _ J a2 a3 a4 hA.2.1 ha2) (by decide) (by decide) (st_options a2 a3 a4 hA).1 (op_I hT hR hZ kO kC (fre_options hr) (fun h => (st_options a2 a3 a4 h).2))
theorem op_load (X : fr_X) {c : Nat} (n : Nat) (I : fr_I) (J : fr_J) (a1 a2 : Int32) (h : rl_inv c n I J) : lx_P X (rl_inv (c + 1)) y_F_load c_F_load 3 (some .boolean) y_O_load c_O_load 3 (some .boolean) [.int a1, .int a2] n I J := by
  obtain ⟨T, hT, hR, hZ⟩ := h
  by_cases hx : f_F_isRelay I a1 = 0
  · exact lx_mk (ct_F_load_no X n I J a1 a2 hx) (ct_O_load_no X n I J a1 a2 (rl_none hR hx)) (by decide) (by decide) rfl ⟨T, by omega, hR, hZ⟩
  · obtain ⟨r, hr, rfl⟩ := fr_isR_1 hR.1 hx
    have kO : rl_kO I (f_F_load I r a2).2 := fc_F_load rl_kO_st (fun _ _ _ _ => rfl)
    have kC : rl_kC (f_F_load I r a2).2 (f_O_load (f_F_load I r a2).2 r a2).2 := fc_O_load rl_kC_st (fun _ _ _ _ => rfl)
    have hA : rl_all n T I J (f_F_load I r a2).2 J := hR.congr (fun _ _ _ _ => rfl) (fun _ _ _ _ => rfl) kO (fun _ _ _ _ => rfl)
    exact lx_mk (ct_F_load X n r hr I J a2 hR.1 ) (ct_O_load X n r hr _ J a2 hA.2.1 ) (by decide) (by decide) (st_load a2 hA).1 (op_I hT hR hZ kO kC (fre_load hr) (fun h => (st_load a2 h).2))
theorem op_fault (X : fr_X) {c : Nat} (n : Nat) (I : fr_I) (J : fr_J) (a1 a2 : Int32) (h : rl_inv c n I J) : lx_P X (rl_inv (c + 1)) y_F_fault c_F_fault 3 (some .boolean) y_O_fault c_O_fault 3 (some .boolean) [.int a1, .int a2] n I J := by
  obtain ⟨T, hT, hR, hZ⟩ := h
  by_cases hx : f_F_isRelay I a1 = 0
  · exact lx_mk (ct_F_fault_no X n I J a1 a2 hx) (ct_O_fault_no X n I J a1 a2 (rl_none hR hx)) (by decide) (by decide) rfl ⟨T, by omega, hR, hZ⟩
  · obtain ⟨r, hr, rfl⟩ := fr_isR_1 hR.1 hx
    have kO : rl_kO I (f_F_fault I r a2).2 := fc_F_fault rl_kO_st (fun _ _ _ _ => rfl)
    have kC : rl_kC (f_F_fault I r a2).2 (f_O_fault (f_F_fault I r a2).2 r a2).2 := fc_O_fault rl_kC_st (fun _ _ _ _ => rfl)
    have hA : rl_all n T I J (f_F_fault I r a2).2 J := hR.congr (fun _ _ _ _ => rfl) (fun _ _ _ _ => rfl) kO (fun _ _ _ _ => rfl)
    exact lx_mk (ct_F_fault X n r hr I J a2 hR.1 ) (ct_O_fault X n r hr _ J a2 hA.2.1 ) (by decide) (by decide) (st_fault a2 hA).1 (op_I hT hR hZ kO kC (fre_fault hr) (fun h => (st_fault a2 h).2))
theorem op_jam (X : fr_X) {c : Nat} (n : Nat) (I : fr_I) (J : fr_J) (a1 a2 : Int32) (h : rl_inv c n I J) (ha2 : a2 = 0 ∨ a2 = 1) : lx_P X (rl_inv (c + 1)) y_F_jam c_F_jam 3 (some .boolean) y_O_jam c_O_jam 3 (some .boolean) [.int a1, .int a2] n I J := by
  obtain ⟨T, hT, hR, hZ⟩ := h
  by_cases hx : f_F_isRelay I a1 = 0
  · exact lx_mk (ct_F_jam_no X n I J a1 a2 hx) (ct_O_jam_no X n I J a1 a2 (rl_none hR hx)) (by decide) (by decide) rfl ⟨T, by omega, hR, hZ⟩
  · obtain ⟨r, hr, rfl⟩ := fr_isR_1 hR.1 hx
    have kO : rl_kO I (f_F_jam I r a2).2 := fc_F_jam rl_kO_st (fun _ _ _ _ => rfl)
    have kC : rl_kC (f_F_jam I r a2).2 (f_O_jam (f_F_jam I r a2).2 r a2).2 := fc_O_jam rl_kC_st (fun _ _ _ _ => rfl)
    have hA : rl_all n T I J (f_F_jam I r a2).2 J := hR.congr (fun _ _ _ _ => rfl) (fun _ _ _ _ => rfl) kO (fun _ _ _ _ => rfl)
    exact lx_mk (ct_F_jam X n r hr I J a2 hR.1 ha2) (ct_O_jam X n r hr _ J a2 hA.2.1 ha2) (by decide) (by decide) (st_jam a2 hA).1 (op_I hT hR hZ kO kC (fre_jam hr) (fun h => (st_jam a2 h).2))
theorem op_line (X : fr_X) {c : Nat} (n : Nat) (I : fr_I) (J : fr_J) (a1 a2 : Int32) (h : rl_inv c n I J) : lx_P X (rl_inv (c + 1)) y_F_line c_F_line 3 (some .boolean) y_O_line c_O_line 3 (some .boolean) [.int a1, .int a2] n I J := by
  obtain ⟨T, hT, hR, hZ⟩ := h
  by_cases hx : f_F_isRelay I a1 = 0
  · exact lx_mk (ct_F_line_no X n I J a1 a2 hx) (ct_O_line_no X n I J a1 a2 (rl_none hR hx)) (by decide) (by decide) rfl ⟨T, by omega, hR, hZ⟩
  · obtain ⟨r, hr, rfl⟩ := fr_isR_1 hR.1 hx
    have kO : rl_kO I (f_F_line I r a2).2 := fc_F_line rl_kO_st (fun _ _ _ _ => rfl)
    have kC : rl_kC (f_F_line I r a2).2 (f_O_line (f_F_line I r a2).2 r a2).2 := fc_O_line rl_kC_st (fun _ _ _ _ => rfl)
    have hA : rl_all n T I J (f_F_line I r a2).2 J := hR.congr (fun _ _ _ _ => rfl) (fun _ _ _ _ => rfl) kO (fun _ _ _ _ => rfl)
    exact lx_mk (ct_F_line X n r hr I J a2 hR.1 ) (ct_O_line X n r hr _ J a2 hA.2.1 ) (by decide) (by decide) (st_line a2 hA).1 (op_I hT hR hZ kO kC (fre_line hr) (fun h => (st_line a2 h).2))
theorem op_operate (X : fr_X) {c : Nat} (n : Nat) (I : fr_I) (J : fr_J) (a1 a2 : Int32) (h : rl_inv c n I J) (ha2 : a2 = 0 ∨ a2 = 1) : lx_P X (rl_inv (c + 1)) y_F_operate c_F_operate 3 (some .boolean) y_O_operate c_O_operate 3 (some .boolean) [.int a1, .int a2] n I J := by
  obtain ⟨T, hT, hR, hZ⟩ := h
  by_cases hx : f_F_isRelay I a1 = 0
  · exact lx_mk (ct_F_operate_no X n I J a1 a2 hx) (ct_O_operate_no X n I J a1 a2 (rl_none hR hx)) (by decide) (by decide) rfl ⟨T, by omega, hR, hZ⟩
  · obtain ⟨r, hr, rfl⟩ := fr_isR_1 hR.1 hx
    have kO : rl_kO I (f_F_operate I r a2).2 := fc_F_operate rl_kO_st (fun _ _ _ _ => rfl)
    have kC : rl_kC (f_F_operate I r a2).2 (f_O_operate (f_F_operate I r a2).2 r a2).2 := fc_O_operate rl_kC_st (fun _ _ _ _ => rfl)
    have hA : rl_all n T I J (f_F_operate I r a2).2 J := hR.congr (fun _ _ _ _ => rfl) (fun _ _ _ _ => rfl) kO (fun _ _ _ _ => rfl)
    exact lx_mk (ct_F_operate X n r hr I J a2 hR.1 ha2) (ct_O_operate X n r hr _ J a2 hA.2.1 ha2) (by decide) (by decide) (st_operate a2 hA).1 (op_I hT hR hZ kO kC (fre_operate hr) (fun h => (st_operate a2 h).2))
theorem op_used (X : fr_X) {c : Nat} (n : Nat) (I : fr_I) (J : fr_J) (a1 : Int32) (h : rl_inv c n I J) : lx_P X (rl_inv (c + 1)) y_F_used c_F_used 2 (some .int) y_O_used c_O_used 2 (some .int) [.int a1] n I J := by
  obtain ⟨T, hT, hR, hZ⟩ := h
  by_cases hx : f_F_isRelay I a1 = 0
  · exact lx_mk (ct_F_used_no X n I J a1 hx) (ct_O_used_no X n I J a1 (rl_none hR hx)) (by decide) (by decide) rfl ⟨T, by omega, hR, hZ⟩
  · obtain ⟨r, hr, rfl⟩ := fr_isR_1 hR.1 hx
    obtain ⟨hs, hv, hb, hm, hwi, hq⟩ := hR.2.2.2.2.2 r hr
    exact lx_mk (ct_F_used X n r hr I J hR.1) (ct_O_used X n r hr I J hR.2.1) (by decide) (by decide) hb.2.2.2.1 ⟨T, by omega, hR, hZ⟩
theorem op_changes (X : fr_X) {c : Nat} (n : Nat) (I : fr_I) (J : fr_J) (a1 : Int32) (h : rl_inv c n I J) : lx_P X (rl_inv (c + 1)) y_F_changes c_F_changes 2 (some .int) y_O_changes c_O_changes 2 (some .int) [.int a1] n I J := by
  obtain ⟨T, hT, hR, hZ⟩ := h
  by_cases hx : f_F_isRelay I a1 = 0
  · exact lx_mk (ct_F_changes_no X n I J a1 hx) (ct_O_changes_no X n I J a1 (rl_none hR hx)) (by decide) (by decide) rfl ⟨T, by omega, hR, hZ⟩
  · obtain ⟨r, hr, rfl⟩ := fr_isR_1 hR.1 hx
    obtain ⟨hs, hv, hb, hm, hwi, hq⟩ := hR.2.2.2.2.2 r hr
    exact lx_mk (ct_F_changes X n r hr I J hR.1) (ct_O_changes X n r hr I J hR.2.1) (by decide) (by decide) hwi.1 ⟨T, by omega, hR, hZ⟩
theorem op_sum (X : fr_X) {c : Nat} (n : Nat) (I : fr_I) (J : fr_J) (a1 : Int32) (h : rl_inv c n I J) : lx_PL X (rl_inv (c + 1)) y_F_sum c_F_sum 2 (some .long) y_O_sum c_O_sum 2 (some .long) [.int a1] n I J := by
  obtain ⟨T, hT, hR, hZ⟩ := h
  by_cases hx : f_F_isRelay I a1 = 0
  · exact lx_mkL (ct_F_sum_no X n I J a1 hx) (ct_O_sum_no X n I J a1 (rl_none hR hx)) (by decide) (by decide) rfl ⟨T, by omega, hR, hZ⟩
  · obtain ⟨r, hr, rfl⟩ := fr_isR_1 hR.1 hx
    obtain ⟨hs, hv, hb, hm, hwi, hq⟩ := hR.2.2.2.2.2 r hr
    exact lx_mkL (ct_F_sum X n r hr I J hR.1) (ct_O_sum X n r hr I J hR.2.1) (by decide) (by decide) hm.2.1 ⟨T, by omega, hR, hZ⟩
theorem rl_known {n T : Nat} {I : fr_I} {J : fr_J} {A : fr_I} {B : fr_J} {r : Nat} (hr : r < n) (h : rl_all n T I J A B) : f_F_known I r = f_O_known A r := by
  obtain ⟨hs, hv, hb, hm, hwi, hq⟩ := h.2.2.2.2.2 r hr
  have h8 := h.1.1
  unfold f_F_known f_O_known
  by_cases e : r = 0
  · subst e
    rw [if_pos (show nI 0 = 0 from rfl)]
    rcases h.1.2.2.2.2.1 0 hr with ⟨_, h1⟩ | ⟨a, ha, _⟩
    · rw [if_pos h1]
    · omega
  · rw [if_neg (nI_ne0 (by omega) (by omega)), if_neg (fw_abv_n h.1 hr (by omega))]
    exact hwi.2.2.2.1
theorem op_known (X : fr_X) {c : Nat} (n : Nat) (I : fr_I) (J : fr_J) (a1 : Int32) (h : rl_inv c n I J) : lx_P X (rl_inv (c + 1)) y_F_known c_F_known 2 (some .int) y_O_known c_O_known 2 (some .int) [.int a1] n I J := by
  obtain ⟨T, hT, hR, hZ⟩ := h
  by_cases hx : f_F_isRelay I a1 = 0
  · exact lx_mk (ct_F_known_no X n I J a1 hx) (ct_O_known_no X n I J a1 (rl_none hR hx)) (by decide) (by decide) rfl ⟨T, by omega, hR, hZ⟩
  · obtain ⟨r, hr, rfl⟩ := fr_isR_1 hR.1 hx
    obtain ⟨hs, hv, hb, hm, hwi, hq⟩ := hR.2.2.2.2.2 r hr
    exact lx_mk (ct_F_known X n r hr I J hR.1) (ct_O_known X n r hr I J hR.2.1) (by decide) (by decide) (rl_known hr hR) ⟨T, by omega, hR, hZ⟩
theorem op_time (X : fr_X) {c : Nat} (n : Nat) (I : fr_I) (J : fr_J) (h : rl_inv c n I J) : lx_P X (rl_inv (c + 1)) y_F_time c_F_time 1 (some .int) y_O_time c_O_time 1 (some .int) [] n I J := by
  obtain ⟨T, hT, hR, hZ⟩ := h
  exact lx_mk (ct_F_time X n I J) (ct_O_time X n I J) (by decide) (by decide) (hR.2.2.1.trans hR.2.2.2.1.symm) ⟨T, by omega, hR, hZ⟩
theorem op_events (X : fr_X) {c : Nat} (n : Nat) (I : fr_I) (J : fr_J) (h : rl_inv c n I J) : lx_P X (rl_inv (c + 1)) y_F_events c_F_events 1 (some .int) y_O_events c_O_events 1 (some .int) [] n I J := by
  obtain ⟨T, hT, hR, hZ⟩ := h
  exact lx_mk (ct_F_events X n I J) (ct_O_events X n I J) (by decide) (by decide) hR.2.2.2.2.1.1 ⟨T, by omega, hR, hZ⟩
theorem op_event (X : fr_X) {c : Nat} (n : Nat) (I : fr_I) (J : fr_J) (a1 : Int32) (h : rl_inv c n I J) : lx_P X (rl_inv (c + 1)) y_F_event c_F_event 2 (some .int) y_O_event c_O_event 2 (some .int) [.int a1] n I J := by
  obtain ⟨T, hT, hR, hZ⟩ := h
  obtain ⟨e, he, hE⟩ := hR.1.2.2.1
  have hE2 : I 20 0 33 = nI e := hR.2.2.2.2.1.1.symm.trans hE
  rcases pk_ix a1 (n := e) (by omega) with h1 | h1 | ⟨q, hq, rfl⟩
  · have hx : f_J_has I a1 = 0 := by unfold f_J_has; rw [if_pos h1]
    refine lx_mk (ct_F_event_no X n I J a1 hx) (ct_O_event_no X n I J a1 (Or.inl h1)) (by decide) (by decide) ?_ ⟨T, by omega, hR, hZ⟩
    unfold f_F_event_no f_O_event_no
    first | rfl | simp
  · have hx : f_J_has I a1 = 0 := by
      unfold f_J_has
      by_cases h2 : a1 < 0
      · rw [if_pos h2]
      · rw [if_neg h2, hE, if_pos h1]
    refine lx_mk (ct_F_event_no X n I J a1 hx) (ct_O_event_no X n I J a1 (Or.inr (by rw [hE2]; exact h1))) (by decide) (by decide) ?_ ⟨T, by omega, hR, hZ⟩
    unfold f_F_event_no f_O_event_no
    first | rfl | simp
  · exact lx_mk (ct_F_event X n q e I J hq hE (by omega)) (ct_O_event X n q e I J hq hE2 (by omega)) (by decide) (by decide) (hR.2.2.2.2.1.2.2.1 q) ⟨T, by omega, hR, hZ⟩
theorem op_when (X : fr_X) {c : Nat} (n : Nat) (I : fr_I) (J : fr_J) (a1 : Int32) (h : rl_inv c n I J) : lx_P X (rl_inv (c + 1)) y_F_when c_F_when 2 (some .int) y_O_when c_O_when 2 (some .int) [.int a1] n I J := by
  obtain ⟨T, hT, hR, hZ⟩ := h
  obtain ⟨e, he, hE⟩ := hR.1.2.2.1
  have hE2 : I 20 0 33 = nI e := hR.2.2.2.2.1.1.symm.trans hE
  rcases pk_ix a1 (n := e) (by omega) with h1 | h1 | ⟨q, hq, rfl⟩
  · have hx : f_J_has I a1 = 0 := by unfold f_J_has; rw [if_pos h1]
    refine lx_mk (ct_F_when_no X n I J a1 hx) (ct_O_when_no X n I J a1 (Or.inl h1)) (by decide) (by decide) ?_ ⟨T, by omega, hR, hZ⟩
    unfold f_F_when_no f_O_when_no
    first | rfl | simp
  · have hx : f_J_has I a1 = 0 := by
      unfold f_J_has
      by_cases h2 : a1 < 0
      · rw [if_pos h2]
      · rw [if_neg h2, hE, if_pos h1]
    refine lx_mk (ct_F_when_no X n I J a1 hx) (ct_O_when_no X n I J a1 (Or.inr (by rw [hE2]; exact h1))) (by decide) (by decide) ?_ ⟨T, by omega, hR, hZ⟩
    unfold f_F_when_no f_O_when_no
    first | rfl | simp
  · exact lx_mk (ct_F_when X n q e I J hq hE (by omega)) (ct_O_when X n q e I J hq hE2 (by omega)) (by decide) (by decide) (hR.2.2.2.2.1.2.2.2 q) ⟨T, by omega, hR, hZ⟩
