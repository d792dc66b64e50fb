theorem fm_un1 {x : Int32} (h : fr_nn x 15) : fr_nn (x + 1) 16 := by
  obtain ⟨e, he, rfl⟩ := h
  exact ⟨e + 1, by omega, nI_1 e⟩
theorem fm_q128 {n r : Nat} {I : fr_I} (hw : fr_mw n I) (hr : r < n) : 16 * r + (I 68 0 r).toNatClampNeg < 128 := by
  have h1 := fm_un_lt hw hr
  have h2 := fm_lt8 hw hr
  omega
theorem fm_note {n : Nat} {I : fr_I} {c1 c2 v1 v2 : Int32} {q1 q2 : Nat} (hw : fr_mw n I) (h : ¬ (200 : Int32) ≤ I 20 0 33) : fr_mw n (fr_ui (fr_ui (fr_ui I 75 0 q1 v1) 76 0 q2 v2) 20 0 33 ((fr_ui (fr_ui I 75 0 q1 v1) 76 0 q2 v2) 20 0 33 + 1)) := by
  have h0 : fr_mw n (fr_ui (fr_ui I 75 0 q1 v1) 76 0 q2 v2) := fm_ui (k := 76) rfl (fm_ui (k := 75) rfl hw)
  have hlt := fm_ev_lt hw h
  have heq := fm_ev_eq hw
  obtain ⟨a1, a2, a3, a4, a5, a6⟩ := h0
  refine ⟨a1, (fr_ui_n (fun z => absurd z.2.2 (by decide))).trans a2, ?_, by rw [fr_ui_n (fun z => absurd z.2.2 (by decide))]; exact a4, fun q hq => by rw [fr_ui_n (fun z => absurd z.1 (by decide))]; exact a5 q hq, fun q hq => by rw [fr_ui_n (fun z => absurd z.1 (by decide))]; exact a6 q hq⟩
  rw [fr_ui_s, fr_ui_n (fun z => absurd z.1 (by decide)), fr_ui_n (fun z => absurd z.1 (by decide))]
  exact ⟨(I 20 0 33).toNatClampNeg + 1, by omega, by rw [← nI_1, ← heq]⟩
def fr_vt (f : Nat → Int32 → Int32) (v : Int32) : Nat → Int32
  | 0 => v
  | i + 1 => f i (fr_vt f v i)
theorem fr_vt_s {f : Nat → Int32 → Int32} {v : Int32} {i : Nat} : fr_vt f v (i + 1) = f i (fr_vt f v i) := rfl
section FRcut
variable {X : fr_X} {E : fr_E} {own nm : String} {cc : ByteArray} {nL : Nat} {ret : Option FieldType} {R : Room} {Q : State → Prop} {cs sl : Nat} {Z : fr_Z} {pc : Nat} {L : List (Nat × Value)} {st : List Value} {I : fr_I} {J : fr_J}
theorem fr_Leq {L' : List (Nat × Value)} (h : L = L') (kk : fr_Ev X E own nm cc nL ret R Q cs sl Z pc L' st I J) : fr_Ev X E own nm cc nL ret R Q cs sl Z pc L st I J := by subst h; exact kk
theorem fr_cut (pc' : Nat) (L' : List (Nat × Value)) (st' : List Value) (I' : fr_I) (J' : fr_J) (h1 : fr_Ev X E own nm cc nL ret R Q cs sl Z pc' L' st' I' J') (h2 : fr_Ev X E own nm cc nL ret R Q cs sl Z pc' L' st' I' J' → fr_Ev X E own nm cc nL ret R Q cs sl Z pc L st I J) : fr_Ev X E own nm cc nL ret R Q cs sl Z pc L st I J := h2 h1
end FRcut
-- the reference's root
def fr_bl2 : Nat → Int64
  | 0 => 0
  | K + 1 => lN (2 ^ K)
def fr_rl (s : Int64) : Nat → Int64 → Int64
  | 0, e => e
  | K + 1, e => if 0 < lg_cmp ((4 * (e + fr_bl2 (K + 1))) * (e + fr_bl2 (K + 1))) s then fr_rl s K e else fr_rl s K (e + fr_bl2 (K + 1))
theorem fr_rl_gt {s : Int64} {K : Nat} {e : Int64} (h : 0 < lg_cmp ((4 * (e + fr_bl2 (K + 1))) * (e + fr_bl2 (K + 1))) s) : fr_rl s (K + 1) e = fr_rl s K e := if_pos h
theorem fr_rl_le {s : Int64} {K : Nat} {e : Int64} (h : ¬ 0 < lg_cmp ((4 * (e + fr_bl2 (K + 1))) * (e + fr_bl2 (K + 1))) s) : fr_rl s (K + 1) e = fr_rl s K (e + fr_bl2 (K + 1)) := if_neg h
theorem fr_bl2_pos {K : Nat} (h : K < 21) : ¬ lg_cmp (fr_bl2 (K + 1)) 0 ≤ 0 := by
  have : ∀ K, K < 21 → ¬ lg_cmp (fr_bl2 (K + 1)) 0 ≤ 0 := by decide
  exact this K h
theorem fr_bl2_half {K : Nat} (h : K < 21) : fr_bl2 (K + 1) / 2 = fr_bl2 K := by
  have : ∀ K, K < 21 → fr_bl2 (K + 1) / 2 = fr_bl2 K := by decide
  exact this K h
-- the reference's way up from a section: what it goes by
def fr_wy (I : fr_I) (r : Nat) : Nat → Int32 → Int32 → Int32 → Int32 × Int32
  | 0, u, f, _ => (u, f)
  | K + 1, u, f, x => if x < 0 then (u, f) else fr_wy I r K (if u = 0 then (if x = nI r then 1 else 0) else 1) (if f = 0 then 0 else (if I 43 0 x.toNatClampNeg = 0 then 0 else 1)) (I 42 0 x.toNatClampNeg)
theorem fr_wy_x {I : fr_I} {r K : Nat} {u f x : Int32} (h : x < 0) : fr_wy I r (K + 1) u f x = (u, f) := if_pos h
theorem fr_wy_s {I : fr_I} {r K : Nat} {u f x : Int32} (h : ¬ x < 0) : fr_wy I r (K + 1) u f x = fr_wy I r K (if u = 0 then (if x = nI r then 1 else 0) else 1) (if f = 0 then 0 else (if I 43 0 x.toNatClampNeg = 0 then 0 else 1)) (I 42 0 x.toNatClampNeg) := if_neg h
theorem fm_up {n q : Nat} {I : fr_I} (hw : fr_mw n I) (hq : q < n) : I 42 0 q < 0 ∨ ∃ p, p < n ∧ I 42 0 q = nI p := by
  rcases hw.2.2.2.2.1 q hq with ⟨_, h1⟩ | ⟨a, ha, h1⟩
  · exact Or.inl (by rw [h1]; decide)
  · exact Or.inr ⟨a, by omega, h1⟩
