-- what the reference's own steps rest on
def fr_mw (n : Nat) (I : fr_I) : Prop := n ≤ 8 ∧ I 20 0 0 = nI n ∧ fr_nn (I 20 0 33) 201 ∧ fr_nn (I 20 0 34) 201 ∧ (∀ r, r < n → (r = 0 ∧ I 42 0 r = -1) ∨ ∃ a, a < r ∧ I 42 0 r = nI a) ∧ (∀ r, r < n → fr_nn (I 68 0 r) 16)
def fr_mws (k j : Nat) : Bool := (k == 20 && (j == 0 || (j == 33 || j == 34))) || (k == 42 || k == 68)
theorem fm_of {n : Nat} {I I' : fr_I} (key : ∀ a b c, fr_mws a c = true → I' a b c = I a b c) (hw : fr_mw n I) : fr_mw n I' := by
  obtain ⟨h1, h2, h3, h4, h5, h6⟩ := hw
  exact ⟨h1, (key 20 0 0 rfl).trans h2, by rw [key 20 0 33 rfl]; exact h3, by rw [key 20 0 34 rfl]; exact h4, fun q hq => by rw [key 42 0 q rfl]; exact h5 q hq, fun q hq => by rw [key 68 0 q rfl]; exact h6 q hq⟩
theorem fm_ui {n : Nat} {I : fr_I} {k r j : Nat} {v : Int32} (h : fr_mws k j = false) (hw : fr_mw n I) : fr_mw n (fr_ui I k r j v) :=
  fm_of (fun a b c hs => fr_ui_n (fun z => by rw [z.1, z.2.2, h] at hs; cases hs)) hw
theorem fm_cnt {n : Nat} {I : fr_I} (hw : fr_mw n I) : I 20 0 0 = nI n := hw.2.1
theorem fm_n8 {n : Nat} {I : fr_I} (hw : fr_mw n I) : n ≤ 8 := hw.1
theorem fm_lt8 {n r : Nat} {I : fr_I} (hw : fr_mw n I) (hr : r < n) : r < 8 := Nat.lt_of_lt_of_le hr hw.1
theorem fm_ev_eq {n : Nat} {I : fr_I} (hw : fr_mw n I) : I 20 0 33 = nI (I 20 0 33).toNatClampNeg := fr_nn_eq (by decide) hw.2.2.1
theorem fm_ev_lt {n : Nat} {I : fr_I} (hw : fr_mw n I) (h : ¬ (200 : Int32) ≤ I 20 0 33) : (I 20 0 33).toNatClampNeg < 200 := by
  obtain ⟨e, he, h2⟩ := hw.2.2.1
  rw [h2] at h ⊢
  rw [nI_clamp (by omega)]
  rcases Nat.lt_or_ge e 200 with h3 | h3
  · exact h3
  · exact absurd (nI_le h3 (by omega)) h
theorem fm_abv_eq {n r : Nat} {I : fr_I} (hw : fr_mw n I) (hr : r < n) (h : ¬ I 42 0 r < 0) : I 42 0 r = nI (I 42 0 r).toNatClampNeg := by
  rcases hw.2.2.2.2.1 r hr with ⟨_, h1⟩ | ⟨a, ha, h1⟩
  · exact absurd (by rw [h1]; decide) h
  · have := hw.1
    rw [h1, nI_clamp (by omega)]
theorem fm_abv_lt {n r : Nat} {I : fr_I} (hw : fr_mw n I) (hr : r < n) (h : ¬ I 42 0 r < 0) : (I 42 0 r).toNatClampNeg < r := by
  rcases hw.2.2.2.2.1 r hr with ⟨_, h1⟩ | ⟨a, ha, h1⟩
  · exact absurd (by rw [h1]; decide) h
  · have := hw.1
    rw [h1, nI_clamp (by omega)]
    exact ha
theorem fm_un_eq {n r : Nat} {I : fr_I} (hw : fr_mw n I) (hr : r < n) : I 68 0 r = nI (I 68 0 r).toNatClampNeg := fr_nn_eq (by decide) (hw.2.2.2.2.2 r hr)
theorem fm_un_lt {n r : Nat} {I : fr_I} (hw : fr_mw n I) (hr : r < n) : (I 68 0 r).toNatClampNeg < 16 := fr_nn_lt (by decide) (hw.2.2.2.2.2 r hr)
/-- a message more under way -/
theorem fm_unp {n r : Nat} {I : fr_I} {v : Int32} (hv : fr_nn v 16) (hw : fr_mw n I) : fr_mw n (fr_ui I 68 0 r v) := by
  obtain ⟨h1, h2, h3, h4, h5, h6⟩ := hw
  refine ⟨h1, (fr_ui_n (fun z => absurd z.1 (by decide))).trans h2, by rw [fr_ui_n (fun z => absurd z.1 (by decide))]; exact h3, by rw [fr_ui_n (fun z => absurd z.1 (by decide))]; exact h4, fun q hq => by rw [fr_ui_n (fun z => absurd z.1 (by decide))]; exact h5 q hq, fun q hq => ?_⟩
  by_cases e : q = r
  · subst e
    rw [fr_ui_s]; exact hv
  · rw [fr_ui_n (fun z => e z.2.2)]; exact h6 q hq
