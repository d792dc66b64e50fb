theorem fm_un1 {x : Int32} (h : fr_nn x 15) : fr_nn (x + 1) 16 := by
  obtain ⟨e, he, rfl⟩ := h
  exact ⟨e + 1, by omega, nI_1 e⟩
theorem fm_q128 {n r : Nat} {I : fr_I} (hw : fr_mw n I) (hr : r < n) : 16 * r + (I 68 0 r).toNatClampNeg < 128 := by
  have h1 := fm_un_lt hw hr
  have h2 := fm_lt8 hw hr
  omega
theorem fm_note {n : Nat} {I : fr_I} {c1 c2 v1 v2 : Int32} {q1 q2 : Nat} (hw : fr_mw n I) (h : ¬ (200 : Int32) ≤ I 20 0 33) : fr_mw n (fr_ui (fr_ui (fr_ui I 75 0 q1 v1) 76 0 q2 v2) 20 0 33 ((fr_ui (fr_ui I 75 0 q1 v1) 76 0 q2 v2) 20 0 33 + 1)) := by
  have h0 : fr_mw n (fr_ui (fr_ui I 75 0 q1 v1) 76 0 q2 v2) := fm_ui (k := 76) rfl (fm_ui (k := 75) rfl hw)
  have hlt := fm_ev_lt hw h
  have heq := fm_ev_eq hw
  obtain ⟨a1, a2, a3, a4, a5, a6⟩ := h0
  refine ⟨a1, (fr_ui_n (fun z => absurd z.2.2 (by decide))).trans a2, ?_, by rw [fr_ui_n (fun z => absurd z.2.2 (by decide))]; exact a4, fun q hq => by rw [fr_ui_n (fun z => absurd z.1 (by decide))]; exact a5 q hq, fun q hq => by rw [fr_ui_n (fun z => absurd z.1 (by decide))]; exact a6 q hq⟩
  rw [fr_ui_s, fr_ui_n (fun z => absurd z.1 (by decide)), fr_ui_n (fun z => absurd z.1 (by decide))]
  exact ⟨(I 20 0 33).toNatClampNeg + 1, by omega, by rw [← nI_1, ← heq]⟩
def fr_vt (f : Nat → Int32 → Int32) (v : Int32) : Nat → Int32
  | 0 => v
  | i + 1 => f i (fr_vt f v i)
theorem fr_vt_s {f : Nat → Int32 → Int32} {v : Int32} {i : Nat} : fr_vt f v (i + 1) = f i (fr_vt f v i) := rfl
section FRcut
variable {X : fr_X} {E : fr_E} {own nm : String} {cc : ByteArray} {nL : Nat} {ret : Option FieldType} {R : Room} {Q : State → Prop} {cs sl : Nat} {Z : fr_Z} {pc : Nat} {L : List (Nat × Value)} {st : List Value} {I : fr_I} {J : fr_J}
theorem fr_Leq {L' : List (Nat × Value)} (h : L = L') (kk : fr_Ev X E own nm cc nL ret R Q cs sl Z pc L' st I J) : fr_Ev X E own nm cc nL ret R Q cs sl Z pc L st I J := by subst h; exact kk
theorem fr_cut (pc' : Nat) (L' : List (Nat × Value)) (st' : List Value) (I' : fr_I) (J' : fr_J) (h1 : fr_Ev X E own nm cc nL ret R Q cs sl Z pc' L' st' I' J') (h2 : fr_Ev X E own nm cc nL ret R Q cs sl Z pc' L' st' I' J' → fr_Ev X E own nm cc nL ret R Q cs sl Z pc L st I J) : fr_Ev X E own nm cc nL ret R Q cs sl Z pc L st I J := h2 h1
end FRcut
-- the reference's root
def fr_bl2 : Nat → Int64
  | 0 => 0
  | K + 1 => lN (2 ^ K)
def fr_rl (s : Int64) : Nat → Int64 → Int64
  | 0, e => e
  | K + 1, e => if 0 < lg_cmp ((4 * (e + fr_bl2 (K + 1))) * (e + fr_bl2 (K + 1))) s then fr_rl s K e else fr_rl s K (e + fr_bl2 (K + 1))
theorem fr_rl_gt {s : Int64} {K : Nat} {e : Int64} (h : 0 < lg_cmp ((4 * (e + fr_bl2 (K + 1))) * (e + fr_bl2 (K + 1))) s) : fr_rl s (K + 1) e = fr_rl s K e := if_pos h
theorem fr_rl_le {s : Int64} {K : Nat} {e : Int64} (h : ¬ 0 < lg_cmp ((4 * (e + fr_bl2 (K + 1))) * (e + fr_bl2 (K + 1))) s) : fr_rl s (K + 1) e = fr_rl s K (e + fr_bl2 (K + 1)) := if_neg h
theorem fr_bl2_pos {K : Nat} (h : K < 21) : ¬ lg_cmp (fr_bl2 (K + 1)) 0 ≤ 0 := by
  have : ∀ K, K < 21 → ¬ lg_cmp (fr_bl2 (K + 1)) 0 ≤ 0 := by decide
  exact this K h
theorem fr_bl2_half {K : Nat} (h : K < 21) : fr_bl2 (K + 1) / 2 = fr_bl2 K := by
  have : ∀ K, K < 21 → fr_bl2 (K + 1) / 2 = fr_bl2 K := by decide
  exact this K h
-- the reference's way up from a section: what it goes by
def fr_wy (I : fr_I) (r : Nat) : Nat → Int32 → Int32 → Int32 → Int32 × Int32
  | 0, u, f, _ => (u, f)
  | K + 1, u, f, x => if x < 0 then (u, f) else fr_wy I r K (if u = 0 then (if x = nI r then 1 else 0) else 1) (if f = 0 then 0 else (if I 43 0 x.toNatClampNeg = 0 then 0 else 1)) (I 42 0 x.toNatClampNeg)
theorem fr_wy_x {I : fr_I} {r K : Nat} {u f x : Int32} (h : x < 0) : fr_wy I r (K + 1) u f x = (u, f) := if_pos h
theorem fr_wy_s {I : fr_I} {r K : Nat} {u f x : Int32} (h : ¬ x < 0) : fr_wy I r (K + 1) u f x = fr_wy I r K (if u = 0 then (if x = nI r then 1 else 0) else 1) (if f = 0 then 0 else (if I 43 0 x.toNatClampNeg = 0 then 0 else 1)) (I 42 0 x.toNatClampNeg) := if_neg h
theorem fm_up {n q : Nat} {I : fr_I} (hw : fr_mw n I) (hq : q < n) : I 42 0 q < 0 ∨ ∃ p, p < n ∧ I 42 0 q = nI p := by
  rcases hw.2.2.2.2.1 q hq with ⟨_, h1⟩ | ⟨a, ha, h1⟩
  · exact Or.inl (by rw [h1]; decide)
  · exact Or.inr ⟨a, by omega, h1⟩
theorem fw_jtq {P : fr_I → Prop} {s : fr_I × fr_J} {f : fr_I × fr_J → Nat → fr_I × fr_J} (e : Nat) (hf : ∀ i, i < e → P (fr_jt f s i).1 → P (f (fr_jt f s i) i).1) (hw : P s.1) : ∀ i, i ≤ e → P (fr_jt f s i).1 := by
  intro i
  induction i with
  | zero => intro _; exact hw
  | succ i ih => intro h; exact hf i (by omega) (ih (by omega))
-- the reference's queue: j of it looked at, l of them kept
def fb_rc (r : Nat) (I : fr_I) (j l : Nat) : Nat × fr_I :=
  if (I 69 0 (16 * r + j)) = (I 20 0 1) then
    (if (I 70 0 (16 * r + j)) / 2 ≤ (I 71 0 r) / 2 then
      (if (I 70 0 (16 * r + j)) / 2 = (I 71 0 r) / 2 then (l, fr_ui I 72 0 r (I 20 0 1)) else (l, I))
    else (l, fr_ui (fr_ui I 71 0 r (I 70 0 (16 * r + j))) 72 0 r ((fr_ui I 71 0 r (I 70 0 (16 * r + j))) 20 0 1)))
  else (l + 1, fr_ui (fr_ui I 69 0 (16 * r + l) (I 69 0 (16 * r + j))) 70 0 (16 * r + l) ((fr_ui I 69 0 (16 * r + l) (I 69 0 (16 * r + j))) 70 0 (16 * r + j)))
theorem fb_rc_eq (r : Nat) (I : fr_I) (j l : Nat) : fb_rc r I j l =
  if (I 69 0 (16 * r + j)) = (I 20 0 1) then
    (if (I 70 0 (16 * r + j)) / 2 ≤ (I 71 0 r) / 2 then
      (if (I 70 0 (16 * r + j)) / 2 = (I 71 0 r) / 2 then (l, fr_ui I 72 0 r (I 20 0 1)) else (l, I))
    else (l, fr_ui (fr_ui I 71 0 r (I 70 0 (16 * r + j))) 72 0 r ((fr_ui I 71 0 r (I 70 0 (16 * r + j))) 20 0 1)))
  else (l + 1, fr_ui (fr_ui I 69 0 (16 * r + l) (I 69 0 (16 * r + j))) 70 0 (16 * r + l) ((fr_ui I 69 0 (16 * r + l) (I 69 0 (16 * r + j))) 70 0 (16 * r + j))) := rfl
def fr_rc (r : Nat) : Nat → Nat → Nat → fr_I → Nat × fr_I
  | 0, _, l, I => (l, I)
  | K + 1, j, l, I => fr_rc r K (j + 1) (fb_rc r I j l).1 (fb_rc r I j l).2
theorem fr_rc_s {r K j l : Nat} {I : fr_I} : fr_rc r (K + 1) j l I = fr_rc r K (j + 1) (fb_rc r I j l).1 (fb_rc r I j l).2 := rfl
theorem fm_fb_rc {n r j l : Nat} {I : fr_I} (hw : fr_mw n I) : fr_mw n (fb_rc r I j l).2 ∧ (fb_rc r I j l).1 ≤ l + 1 := by
  rw [fb_rc_eq]
  by_cases h1 : (I 69 0 (16 * r + j)) = (I 20 0 1)
  · rw [if_pos h1]
    by_cases h2 : (I 70 0 (16 * r + j)) / 2 ≤ (I 71 0 r) / 2
    · rw [if_pos h2]
      by_cases h3 : (I 70 0 (16 * r + j)) / 2 = (I 71 0 r) / 2
      · rw [if_pos h3]; exact ⟨fm_ui (k := 72) rfl hw, Nat.le_succ _⟩
      · rw [if_neg h3]; exact ⟨hw, Nat.le_succ _⟩
    · rw [if_neg h2]; exact ⟨fm_ui (k := 72) rfl (fm_ui (k := 71) rfl hw), Nat.le_succ _⟩
  · rw [if_neg h1]; exact ⟨fm_ui (k := 70) rfl (fm_ui (k := 69) rfl hw), Nat.le_refl _⟩
theorem fm_rc {n r : Nat} : ∀ {K j l : Nat} {I : fr_I}, fr_mw n I → fr_mw n (fr_rc r K j l I).2 ∧ (fr_rc r K j l I).1 ≤ l + K := by
  intro K
  induction K with
  | zero => intro j l I hw; exact ⟨hw, Nat.le_refl _⟩
  | succ K ih =>
    intro j l I hw
    obtain ⟨h1, h2⟩ := fm_fb_rc (r := r) (j := j) (l := l) hw
    obtain ⟨h3, h4⟩ := ih (j := j + 1) (l := (fb_rc r I j l).1) h1
    exact ⟨h3, by rw [fr_rc_s]; omega⟩
theorem fm_st1 {n : Nat} {I : fr_I} (hw : fr_mw n I) : fr_mw n (fr_ui I 20 0 34 (I 20 0 33)) := by
  obtain ⟨a1, a2, a3, a4, a5, a6⟩ := hw
  exact ⟨a1, (fr_ui_n (fun z => absurd z.2.2 (by decide))).trans a2, by rw [fr_ui_n (fun z => absurd z.2.2 (by decide))]; exact a3, by rw [fr_ui_s]; exact a3, fun q hq => by rw [fr_ui_n (fun z => absurd z.1 (by decide))]; exact a5 q hq, fun q hq => by rw [fr_ui_n (fun z => absurd z.1 (by decide))]; exact a6 q hq⟩
theorem fm_st2 {n : Nat} {I : fr_I} (h : (I 20 0 34) + 2 ≤ (I 20 0 33)) (hw : fr_mw n I) : fr_mw n (fr_ui I 20 0 34 ((I 20 0 34) + 2)) := by
  obtain ⟨a1, a2, a3, a4, a5, a6⟩ := hw
  refine ⟨a1, (fr_ui_n (fun z => absurd z.2.2 (by decide))).trans a2, by rw [fr_ui_n (fun z => absurd z.2.2 (by decide))]; exact a3, ?_, fun q hq => by rw [fr_ui_n (fun z => absurd z.1 (by decide))]; exact a5 q hq, fun q hq => by rw [fr_ui_n (fun z => absurd z.1 (by decide))]; exact a6 q hq⟩
  rw [fr_ui_s]
  obtain ⟨e, he, h1⟩ := a4
  obtain ⟨e2, he2, h2⟩ := a3
  rw [h1, h2, show (2 : Int32) = nI 2 from rfl, nI_add] at h
  rw [h1, show (2 : Int32) = nI 2 from rfl, nI_add]
  have : e + 2 ≤ e2 := (nI_leI (by omega) (by omega)).mp h
  exact ⟨e + 2, by omega, rfl⟩
theorem fm_cr {n : Nat} {I : fr_I} (hw : fr_mw n I) : fr_mw n (fr_ui I 20 0 33 (I 20 0 34)) := by
  obtain ⟨a1, a2, a3, a4, a5, a6⟩ := hw
  exact ⟨a1, (fr_ui_n (fun z => absurd z.2.2 (by decide))).trans a2, by rw [fr_ui_s]; exact a4, by rw [fr_ui_n (fun z => absurd z.2.2 (by decide))]; exact a4, fun q hq => by rw [fr_ui_n (fun z => absurd z.1 (by decide))]; exact a5 q hq, fun q hq => by rw [fr_ui_n (fun z => absurd z.1 (by decide))]; exact a6 q hq⟩
theorem fc_fb_rc {P : fr_I → Prop} (hP : fr_ost P) {r j l : Nat} {I : fr_I} (h : P I) : P (fb_rc r I j l).2 := by
  rw [fb_rc_eq]
  refine fw_ite_2 (fun _ => ?_) (fun _ => ?_)
  · refine fw_ite_2 (fun _ => ?_) (fun _ => ?_)
    · refine fw_ite_2 (fun _ => ?_) (fun _ => ?_)
      · exact hP (by decide) h
      · exact h
    · exact hP (by decide) (hP (by decide) h)
  · exact hP (by decide) (hP (by decide) h)
theorem fc_rc {P : fr_I → Prop} (hP : fr_ost P) {r : Nat} : ∀ {K j l : Nat} {I : fr_I}, P I → P (fr_rc r K j l I).2 := by
  intro K
  induction K with
  | zero => intro j l I h; exact h
  | succ K ih => intro j l I h; exact ih (fc_fb_rc hP h)
