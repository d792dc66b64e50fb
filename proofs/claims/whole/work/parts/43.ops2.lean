theorem up_load {n T : Nat} {I : fr_I} {J : fr_J} {A : fr_I} {B : fr_J} {r : Nat} (v : Int32) (hv : fr_nn v 2001) (h : rl_all n T I J A B) : rl_all n T (fr_ui I 7 r 7 v) J (fr_ui A 45 0 r v) B := by
  obtain ⟨hw, hm, t1, t2, ⟨j1, j2, j3, j4⟩, hq⟩ := h
  refine ⟨(fw_ui (k := 7) (j := 7) rfl hw), (fm_ui (k := 45) rfl hm), t1, t2, ⟨j1, j2, j3, j4⟩, fun q hqn => ?_⟩
  by_cases e : q = r
  · subst e
    obtain ⟨hs, hv2, hb, hme, hwi, hqu⟩ := hq q hqn
    refine ⟨?_, ?_, ?_, ?_, ?_, ?_⟩
    · unfold rl_set at hs ⊢
      simp [fr_ui] at hs ⊢
      simp [hs]
    · unfold rl_val at hv2 ⊢
      simp [fr_ui] at hv2 ⊢
      simp [hv2, hv]
    · first | exact hb | (unfold rl_brk at hb ⊢; simp [fr_ui] at hb ⊢; exact hb) | (unfold rl_brk at hb ⊢; simp [fr_ui] at hb ⊢; simp [hb])
    · first | exact hme | (unfold rl_met f_M_rootOfMeanSquare at hme ⊢; simp [fr_ui] at hme ⊢; exact hme) | (unfold rl_met f_M_rootOfMeanSquare at hme ⊢; simp [fr_ui] at hme ⊢; simp [hme])
    · first | exact hwi | (unfold rl_wir at hwi ⊢; simp [fr_ui] at hwi ⊢; exact hwi) | (unfold rl_wir at hwi ⊢; simp [fr_ui] at hwi ⊢; simp [hwi])
    · first | exact hqu | (unfold rl_que rl_qR rl_qC at hqu ⊢; simp [fr_ui] at hqu ⊢; exact hqu) | (unfold rl_que rl_qR rl_qC at hqu ⊢; simp [fr_ui] at hqu ⊢; simp [hqu])
  · exact rl_one_off (fun k j _ _ => (fr_ui_n (fun z => e z.2.1))) rfl (fun k _ _ _ => (fr_ui_n (fun z => e z.2.2))) (fun i _ => (fr_ui_n (fun z => absurd z.1 (by decide)))) (fun i _ => (fr_ui_n (fun z => absurd z.1 (by decide)))) (fun i _ => (fr_ui_n (fun z => absurd z.1 (by decide)))) rfl (hq q hqn)
theorem up_fault {n T : Nat} {I : fr_I} {J : fr_J} {A : fr_I} {B : fr_J} {r : Nat} (v : Int32) (hv : fr_nn v 20001) (h : rl_all n T I J A B) : rl_all n T (fr_ui I 7 r 8 v) J (fr_ui A 46 0 r v) B := by
  obtain ⟨hw, hm, t1, t2, ⟨j1, j2, j3, j4⟩, hq⟩ := h
  refine ⟨(fw_ui (k := 7) (j := 8) rfl hw), (fm_ui (k := 46) rfl hm), t1, t2, ⟨j1, j2, j3, j4⟩, fun q hqn => ?_⟩
  by_cases e : q = r
  · subst e
    obtain ⟨hs, hv2, hb, hme, hwi, hqu⟩ := hq q hqn
    refine ⟨?_, ?_, ?_, ?_, ?_, ?_⟩
    · unfold rl_set at hs ⊢
      simp [fr_ui] at hs ⊢
      simp [hs]
    · unfold rl_val at hv2 ⊢
      simp [fr_ui] at hv2 ⊢
      simp [hv2, hv]
    · first | exact hb | (unfold rl_brk at hb ⊢; simp [fr_ui] at hb ⊢; exact hb) | (unfold rl_brk at hb ⊢; simp [fr_ui] at hb ⊢; simp [hb])
    · first | exact hme | (unfold rl_met f_M_rootOfMeanSquare at hme ⊢; simp [fr_ui] at hme ⊢; exact hme) | (unfold rl_met f_M_rootOfMeanSquare at hme ⊢; simp [fr_ui] at hme ⊢; simp [hme])
    · first | exact hwi | (unfold rl_wir at hwi ⊢; simp [fr_ui] at hwi ⊢; exact hwi) | (unfold rl_wir at hwi ⊢; simp [fr_ui] at hwi ⊢; simp [hwi])
    · first | exact hqu | (unfold rl_que rl_qR rl_qC at hqu ⊢; simp [fr_ui] at hqu ⊢; exact hqu) | (unfold rl_que rl_qR rl_qC at hqu ⊢; simp [fr_ui] at hqu ⊢; simp [hqu])
  · exact rl_one_off (fun k j _ _ => (fr_ui_n (fun z => e z.2.1))) rfl (fun k _ _ _ => (fr_ui_n (fun z => e z.2.2))) (fun i _ => (fr_ui_n (fun z => absurd z.1 (by decide)))) (fun i _ => (fr_ui_n (fun z => absurd z.1 (by decide)))) (fun i _ => (fr_ui_n (fun z => absurd z.1 (by decide)))) rfl (hq q hqn)
theorem up_line {n T : Nat} {I : fr_I} {J : fr_J} {A : fr_I} {B : fr_J} {r : Nat} (v : Int32) (hv : fr_nn v 9) (h : rl_all n T I J A B) : rl_all n T (fr_ui I 11 r 3 v) J (fr_ui A 53 0 r v) B := by
  obtain ⟨hw, hm, t1, t2, ⟨j1, j2, j3, j4⟩, hq⟩ := h
  refine ⟨(fw_ui (k := 11) (j := 3) rfl hw), (fm_ui (k := 53) rfl hm), t1, t2, ⟨j1, j2, j3, j4⟩, fun q hqn => ?_⟩
  by_cases e : q = r
  · subst e
    obtain ⟨hs, hv2, hb, hme, hwi, hqu⟩ := hq q hqn
    refine ⟨?_, ?_, ?_, ?_, ?_, ?_⟩
    · unfold rl_set at hs ⊢
      simp [fr_ui] at hs ⊢
      simp [hs]
    · unfold rl_val at hv2 ⊢
      simp [fr_ui] at hv2 ⊢
      simp [hv2, hv]
    · first | exact hb | (unfold rl_brk at hb ⊢; simp [fr_ui] at hb ⊢; exact hb) | (unfold rl_brk at hb ⊢; simp [fr_ui] at hb ⊢; simp [hb])
    · first | exact hme | (unfold rl_met f_M_rootOfMeanSquare at hme ⊢; simp [fr_ui] at hme ⊢; exact hme) | (unfold rl_met f_M_rootOfMeanSquare at hme ⊢; simp [fr_ui] at hme ⊢; simp [hme])
    · first | exact hwi | (unfold rl_wir at hwi ⊢; simp [fr_ui] at hwi ⊢; exact hwi) | (unfold rl_wir at hwi ⊢; simp [fr_ui] at hwi ⊢; simp [hwi])
    · first | exact hqu | (unfold rl_que rl_qR rl_qC at hqu ⊢; simp [fr_ui] at hqu ⊢; exact hqu) | (unfold rl_que rl_qR rl_qC at hqu ⊢; simp [fr_ui] at hqu ⊢; simp [hqu])
  · exact rl_one_off (fun k j _ _ => (fr_ui_n (fun z => e z.2.1))) rfl (fun k _ _ _ => (fr_ui_n (fun z => e z.2.2))) (fun i _ => (fr_ui_n (fun z => absurd z.1 (by decide)))) (fun i _ => (fr_ui_n (fun z => absurd z.1 (by decide)))) (fun i _ => (fr_ui_n (fun z => absurd z.1 (by decide)))) rfl (hq q hqn)
theorem up_jam {n T : Nat} {I : fr_I} {J : fr_J} {A : fr_I} {B : fr_J} {r : Nat} (v : Int32)  (h : rl_all n T I J A B) : rl_all n T (fr_ui I 10 r 1 v) J (fr_ui A 44 0 r v) B := by
  obtain ⟨hw, hm, t1, t2, ⟨j1, j2, j3, j4⟩, hq⟩ := h
  refine ⟨(fw_ui (k := 10) (j := 1) rfl hw), (fm_ui (k := 44) rfl hm), t1, t2, ⟨j1, j2, j3, j4⟩, fun q hqn => ?_⟩
  by_cases e : q = r
  · subst e
    obtain ⟨hs, hv2, hb, hme, hwi, hqu⟩ := hq q hqn
    refine ⟨?_, ?_, ?_, ?_, ?_, ?_⟩
    · unfold rl_set at hs ⊢
      simp [fr_ui] at hs ⊢
      simp [hs]
    · first | exact hv2 | (unfold rl_val at hv2 ⊢; simp [fr_ui] at hv2 ⊢; exact hv2) | (unfold rl_val at hv2 ⊢; simp [fr_ui] at hv2 ⊢; simp [hv2])
    · first | exact hb | (unfold rl_brk at hb ⊢; simp [fr_ui] at hb ⊢; exact hb) | (unfold rl_brk at hb ⊢; simp [fr_ui] at hb ⊢; simp [hb])
    · first | exact hme | (unfold rl_met f_M_rootOfMeanSquare at hme ⊢; simp [fr_ui] at hme ⊢; exact hme) | (unfold rl_met f_M_rootOfMeanSquare at hme ⊢; simp [fr_ui] at hme ⊢; simp [hme])
    · first | exact hwi | (unfold rl_wir at hwi ⊢; simp [fr_ui] at hwi ⊢; exact hwi) | (unfold rl_wir at hwi ⊢; simp [fr_ui] at hwi ⊢; simp [hwi])
    · first | exact hqu | (unfold rl_que rl_qR rl_qC at hqu ⊢; simp [fr_ui] at hqu ⊢; exact hqu) | (unfold rl_que rl_qR rl_qC at hqu ⊢; simp [fr_ui] at hqu ⊢; simp [hqu])
  · exact rl_one_off (fun k j _ _ => (fr_ui_n (fun z => e z.2.1))) rfl (fun k _ _ _ => (fr_ui_n (fun z => e z.2.2))) (fun i _ => (fr_ui_n (fun z => absurd z.1 (by decide)))) (fun i _ => (fr_ui_n (fun z => absurd z.1 (by decide)))) (fun i _ => (fr_ui_n (fun z => absurd z.1 (by decide)))) rfl (hq q hqn)
theorem up_options {n T : Nat} {I : fr_I} {J : fr_J} {A : fr_I} {B : fr_J} {r : Nat} (p2 p3 p4 : Int32)  (h : rl_all n T I J A B) : rl_all n T (fr_ui (fr_ui (fr_ui I 7 r 4 p2) 7 r 5 p3) 7 r 6 p4) J (fr_ui (fr_ui (fr_ui A 50 0 r p2) 51 0 r p3) 52 0 r p4) B := by
  obtain ⟨hw, hm, t1, t2, ⟨j1, j2, j3, j4⟩, hq⟩ := h
  refine ⟨(fw_ui (k := 7) (j := 6) rfl (fw_ui (k := 7) (j := 5) rfl (fw_ui (k := 7) (j := 4) rfl hw))), (fm_ui (k := 52) rfl (fm_ui (k := 51) rfl (fm_ui (k := 50) rfl hm))), t1, t2, ⟨j1, j2, j3, j4⟩, fun q hqn => ?_⟩
  by_cases e : q = r
  · subst e
    obtain ⟨hs, hv2, hb, hme, hwi, hqu⟩ := hq q hqn
    refine ⟨?_, ?_, ?_, ?_, ?_, ?_⟩
    · unfold rl_set at hs ⊢
      simp [fr_ui] at hs ⊢
      simp [hs]
    · first | exact hv2 | (unfold rl_val at hv2 ⊢; simp [fr_ui] at hv2 ⊢; exact hv2) | (unfold rl_val at hv2 ⊢; simp [fr_ui] at hv2 ⊢; simp [hv2])
    · first | exact hb | (unfold rl_brk at hb ⊢; simp [fr_ui] at hb ⊢; exact hb) | (unfold rl_brk at hb ⊢; simp [fr_ui] at hb ⊢; simp [hb])
    · first | exact hme | (unfold rl_met f_M_rootOfMeanSquare at hme ⊢; simp [fr_ui] at hme ⊢; exact hme) | (unfold rl_met f_M_rootOfMeanSquare at hme ⊢; simp [fr_ui] at hme ⊢; simp [hme])
    · first | exact hwi | (unfold rl_wir at hwi ⊢; simp [fr_ui] at hwi ⊢; exact hwi) | (unfold rl_wir at hwi ⊢; simp [fr_ui] at hwi ⊢; simp [hwi])
    · first | exact hqu | (unfold rl_que rl_qR rl_qC at hqu ⊢; simp [fr_ui] at hqu ⊢; exact hqu) | (unfold rl_que rl_qR rl_qC at hqu ⊢; simp [fr_ui] at hqu ⊢; simp [hqu])
  · exact rl_one_off (fun k j _ _ => ((fr_ui_n (fun z => e z.2.1)).trans ((fr_ui_n (fun z => e z.2.1)).trans (fr_ui_n (fun z => e z.2.1))))) rfl (fun k _ _ _ => ((fr_ui_n (fun z => e z.2.2)).trans ((fr_ui_n (fun z => e z.2.2)).trans (fr_ui_n (fun z => e z.2.2))))) (fun i _ => ((fr_ui_n (fun z => absurd z.1 (by decide))).trans ((fr_ui_n (fun z => absurd z.1 (by decide))).trans (fr_ui_n (fun z => absurd z.1 (by decide)))))) (fun i _ => ((fr_ui_n (fun z => absurd z.1 (by decide))).trans ((fr_ui_n (fun z => absurd z.1 (by decide))).trans (fr_ui_n (fun z => absurd z.1 (by decide)))))) (fun i _ => ((fr_ui_n (fun z => absurd z.1 (by decide))).trans ((fr_ui_n (fun z => absurd z.1 (by decide))).trans (fr_ui_n (fun z => absurd z.1 (by decide)))))) rfl (hq q hqn)
theorem up_settings {n T : Nat} {I : fr_I} {J : fr_J} {A : fr_I} {B : fr_J} {r : Nat} (p2 p3 p4 : Int32) (hk : p2 = 0 ∨ p2 = 1 ∨ p2 = 2) (h3 : fr_nn p3 5001) (h4 : fr_nn p4 1001) (h : rl_all n T I J A B) : rl_all n T (fr_ui (fr_ui (fr_ui I 8 r 2 p2) 8 r 3 p3) 8 r 4 p4) J (fr_ui (fr_ui (fr_ui A 47 0 r p2) 48 0 r p3) 49 0 r p4) B := by
  obtain ⟨hw, hm, t1, t2, ⟨j1, j2, j3, j4⟩, hq⟩ := h
  refine ⟨(fw_ui (k := 8) (j := 4) rfl (fw_ui (k := 8) (j := 3) rfl (fw_ui (k := 8) (j := 2) rfl hw))), (fm_ui (k := 49) rfl (fm_ui (k := 48) rfl (fm_ui (k := 47) rfl hm))), t1, t2, ⟨j1, j2, j3, j4⟩, fun q hqn => ?_⟩
  by_cases e : q = r
  · subst e
    obtain ⟨hs, hv2, hb, hme, hwi, hqu⟩ := hq q hqn
    refine ⟨?_, ?_, ?_, ?_, ?_, ?_⟩
    · unfold rl_set at hs ⊢
      simp [fr_ui] at hs ⊢
      simp [hs]
    · unfold rl_val at hv2 ⊢
      simp [fr_ui] at hv2 ⊢
      exact ⟨hv2.1, hv2.2.1, hv2.2.2.1, hk, h3, h4⟩
    · first | exact hb | (unfold rl_brk at hb ⊢; simp [fr_ui] at hb ⊢; exact hb) | (unfold rl_brk at hb ⊢; simp [fr_ui] at hb ⊢; simp [hb])
    · first | exact hme | (unfold rl_met f_M_rootOfMeanSquare at hme ⊢; simp [fr_ui] at hme ⊢; exact hme) | (unfold rl_met f_M_rootOfMeanSquare at hme ⊢; simp [fr_ui] at hme ⊢; simp [hme])
    · first | exact hwi | (unfold rl_wir at hwi ⊢; simp [fr_ui] at hwi ⊢; exact hwi) | (unfold rl_wir at hwi ⊢; simp [fr_ui] at hwi ⊢; simp [hwi])
    · first | exact hqu | (unfold rl_que rl_qR rl_qC at hqu ⊢; simp [fr_ui] at hqu ⊢; exact hqu) | (unfold rl_que rl_qR rl_qC at hqu ⊢; simp [fr_ui] at hqu ⊢; simp [hqu])
  · exact rl_one_off (fun k j _ _ => ((fr_ui_n (fun z => e z.2.1)).trans ((fr_ui_n (fun z => e z.2.1)).trans (fr_ui_n (fun z => e z.2.1))))) rfl (fun k _ _ _ => ((fr_ui_n (fun z => e z.2.2)).trans ((fr_ui_n (fun z => e z.2.2)).trans (fr_ui_n (fun z => e z.2.2))))) (fun i _ => ((fr_ui_n (fun z => absurd z.1 (by decide))).trans ((fr_ui_n (fun z => absurd z.1 (by decide))).trans (fr_ui_n (fun z => absurd z.1 (by decide)))))) (fun i _ => ((fr_ui_n (fun z => absurd z.1 (by decide))).trans ((fr_ui_n (fun z => absurd z.1 (by decide))).trans (fr_ui_n (fun z => absurd z.1 (by decide)))))) (fun i _ => ((fr_ui_n (fun z => absurd z.1 (by decide))).trans ((fr_ui_n (fun z => absurd z.1 (by decide))).trans (fr_ui_n (fun z => absurd z.1 (by decide)))))) rfl (hq q hqn)
