def mo_A3 (I : fr_I) (r : Nat) : fr_I := (fr_ui (fr_ui (fr_ui I 54 0 (4 * r) (I 54 0 (4 * r + 1))) 54 0 (4 * r + 1) ((fr_ui I 54 0 (4 * r) (I 54 0 (4 * r + 1))) 54 0 (4 * r + 2))) 54 0 (4 * r + 2) ((fr_ui (fr_ui I 54 0 (4 * r) (I 54 0 (4 * r + 1))) 54 0 (4 * r + 1) ((fr_ui I 54 0 (4 * r) (I 54 0 (4 * r + 1))) 54 0 (4 * r + 2))) 54 0 (4 * r + 3)))
def mo_A (I : fr_I) (n r : Nat) : fr_I := fr_ui (mo_A3 I r) 54 0 (4 * r + 3) (f_O_flow (mo_A3 I r) n r)
def mo_N (Q : fr_I) (r : Nat) : Int32 := (if (lg_cmp ((f_O_root (Q) r)).toInt64 ((Q 48 0 r)).toInt64) ≤ 0 then (0 : Int32) else 1)
def mo_B (Q : fr_I) (J : fr_J) (r : Nat) : fr_I × fr_J :=
  if (mo_N Q r) = 0 then
    if (mo_N Q r) = (Q 56 0 r) then
      if (Q 58 0 r) = (Q 20 0 1) then
        if ((f_O_send (Q) r) 59 0 r) < 4 then
          ((fr_ui (fr_ui (f_O_send (Q) r) 59 0 r (2 * ((f_O_send (Q) r) 59 0 r))) 58 0 r (((fr_ui (f_O_send (Q) r) 59 0 r (2 * ((f_O_send (Q) r) 59 0 r))) 20 0 1) + ((fr_ui (f_O_send (Q) r) 59 0 r (2 * ((f_O_send (Q) r) 59 0 r))) 59 0 r))), (fr_uj J 55 0 r 0))
        else
          ((fr_ui (fr_ui (f_O_send (Q) r) 59 0 r 8) 58 0 r (((fr_ui (f_O_send (Q) r) 59 0 r 8) 20 0 1) + ((fr_ui (f_O_send (Q) r) 59 0 r 8) 59 0 r))), (fr_uj J 55 0 r 0))
      else
        (Q, (fr_uj J 55 0 r 0))
    else
      ((fr_ui (fr_ui (f_O_send ((fr_ui (fr_ui Q 56 0 r (mo_N Q r)) 57 0 r (((fr_ui Q 56 0 r (mo_N Q r)) 57 0 r) + 1))) r) 59 0 r 1) 58 0 r (((fr_ui (f_O_send ((fr_ui (fr_ui Q 56 0 r (mo_N Q r)) 57 0 r (((fr_ui Q 56 0 r (mo_N Q r)) 57 0 r) + 1))) r) 59 0 r 1) 20 0 1) + 1)), (fr_uj J 55 0 r 0))
  else
    if (Q 47 0 r) = 0 then
      if (mo_N Q r) = (Q 56 0 r) then
        if (Q 58 0 r) = (Q 20 0 1) then
          if ((f_O_send (Q) r) 59 0 r) < 4 then
            ((fr_ui (fr_ui (f_O_send (Q) r) 59 0 r (2 * ((f_O_send (Q) r) 59 0 r))) 58 0 r (((fr_ui (f_O_send (Q) r) 59 0 r (2 * ((f_O_send (Q) r) 59 0 r))) 20 0 1) + ((fr_ui (f_O_send (Q) r) 59 0 r (2 * ((f_O_send (Q) r) 59 0 r))) 59 0 r))), (fr_uj J 55 0 r ((J 55 0 r) + 1)))
          else
            ((fr_ui (fr_ui (f_O_send (Q) r) 59 0 r 8) 58 0 r (((fr_ui (f_O_send (Q) r) 59 0 r 8) 20 0 1) + ((fr_ui (f_O_send (Q) r) 59 0 r 8) 59 0 r))), (fr_uj J 55 0 r ((J 55 0 r) + 1)))
        else
          (Q, (fr_uj J 55 0 r ((J 55 0 r) + 1)))
      else
        ((fr_ui (fr_ui (f_O_send ((fr_ui (fr_ui Q 56 0 r (mo_N Q r)) 57 0 r (((fr_ui Q 56 0 r (mo_N Q r)) 57 0 r) + 1))) r) 59 0 r 1) 58 0 r (((fr_ui (f_O_send ((fr_ui (fr_ui Q 56 0 r (mo_N Q r)) 57 0 r (((fr_ui Q 56 0 r (mo_N Q r)) 57 0 r) + 1))) r) 59 0 r 1) 20 0 1) + 1)), (fr_uj J 55 0 r ((J 55 0 r) + 1)))
    else
      if (Q 47 0 r) = 1 then
        if (mo_N Q r) = (Q 56 0 r) then
          if (Q 58 0 r) = (Q 20 0 1) then
            if ((f_O_send (Q) r) 59 0 r) < 4 then
              ((fr_ui (fr_ui (f_O_send (Q) r) 59 0 r (2 * ((f_O_send (Q) r) 59 0 r))) 58 0 r (((fr_ui (f_O_send (Q) r) 59 0 r (2 * ((f_O_send (Q) r) 59 0 r))) 20 0 1) + ((fr_ui (f_O_send (Q) r) 59 0 r (2 * ((f_O_send (Q) r) 59 0 r))) 59 0 r))), (fr_uj J 55 0 r ((J 55 0 r) + (((f_O_root (Q) r)).toInt64 - ((Q 48 0 r)).toInt64))))
            else
              ((fr_ui (fr_ui (f_O_send (Q) r) 59 0 r 8) 58 0 r (((fr_ui (f_O_send (Q) r) 59 0 r 8) 20 0 1) + ((fr_ui (f_O_send (Q) r) 59 0 r 8) 59 0 r))), (fr_uj J 55 0 r ((J 55 0 r) + (((f_O_root (Q) r)).toInt64 - ((Q 48 0 r)).toInt64))))
          else
            (Q, (fr_uj J 55 0 r ((J 55 0 r) + (((f_O_root (Q) r)).toInt64 - ((Q 48 0 r)).toInt64))))
        else
          ((fr_ui (fr_ui (f_O_send ((fr_ui (fr_ui Q 56 0 r (mo_N Q r)) 57 0 r (((fr_ui Q 56 0 r (mo_N Q r)) 57 0 r) + 1))) r) 59 0 r 1) 58 0 r (((fr_ui (f_O_send ((fr_ui (fr_ui Q 56 0 r (mo_N Q r)) 57 0 r (((fr_ui Q 56 0 r (mo_N Q r)) 57 0 r) + 1))) r) 59 0 r 1) 20 0 1) + 1)), (fr_uj J 55 0 r ((J 55 0 r) + (((f_O_root (Q) r)).toInt64 - ((Q 48 0 r)).toInt64))))
      else
        if (mo_N Q r) = (Q 56 0 r) then
          if (Q 58 0 r) = (Q 20 0 1) then
            if ((f_O_send (Q) r) 59 0 r) < 4 then
              ((fr_ui (fr_ui (f_O_send (Q) r) 59 0 r (2 * ((f_O_send (Q) r) 59 0 r))) 58 0 r (((fr_ui (f_O_send (Q) r) 59 0 r (2 * ((f_O_send (Q) r) 59 0 r))) 20 0 1) + ((fr_ui (f_O_send (Q) r) 59 0 r (2 * ((f_O_send (Q) r) 59 0 r))) 59 0 r))), (fr_uj J 55 0 r ((J 55 0 r) + ((((f_O_root (Q) r)).toInt64 * ((f_O_root (Q) r)).toInt64) - (((Q 48 0 r)).toInt64 * ((Q 48 0 r)).toInt64)))))
            else
              ((fr_ui (fr_ui (f_O_send (Q) r) 59 0 r 8) 58 0 r (((fr_ui (f_O_send (Q) r) 59 0 r 8) 20 0 1) + ((fr_ui (f_O_send (Q) r) 59 0 r 8) 59 0 r))), (fr_uj J 55 0 r ((J 55 0 r) + ((((f_O_root (Q) r)).toInt64 * ((f_O_root (Q) r)).toInt64) - (((Q 48 0 r)).toInt64 * ((Q 48 0 r)).toInt64)))))
          else
            (Q, (fr_uj J 55 0 r ((J 55 0 r) + ((((f_O_root (Q) r)).toInt64 * ((f_O_root (Q) r)).toInt64) - (((Q 48 0 r)).toInt64 * ((Q 48 0 r)).toInt64)))))
        else
          ((fr_ui (fr_ui (f_O_send ((fr_ui (fr_ui Q 56 0 r (mo_N Q r)) 57 0 r (((fr_ui Q 56 0 r (mo_N Q r)) 57 0 r) + 1))) r) 59 0 r 1) 58 0 r (((fr_ui (f_O_send ((fr_ui (fr_ui Q 56 0 r (mo_N Q r)) 57 0 r (((fr_ui Q 56 0 r (mo_N Q r)) 57 0 r) + 1))) r) 59 0 r 1) 20 0 1) + 1)), (fr_uj J 55 0 r ((J 55 0 r) + ((((f_O_root (Q) r)).toInt64 * ((f_O_root (Q) r)).toInt64) - (((Q 48 0 r)).toInt64 * ((Q 48 0 r)).toInt64)))))
theorem mo_m (I : fr_I) (J : fr_J) (n r : Nat) : f_O_measure I J n r = mo_B (mo_A I n r) J r := rfl
def mo_T (Q : fr_I) (J : fr_J) (r : Nat) : Int64 := if mo_N Q r = 0 then 0 else if Q 47 0 r = 0 then J 55 0 r + 1 else if Q 47 0 r = 1 then J 55 0 r + ((f_O_root Q r).toInt64 - (Q 48 0 r).toInt64) else J 55 0 r + ((f_O_root Q r).toInt64 * (f_O_root Q r).toInt64 - (Q 48 0 r).toInt64 * (Q 48 0 r).toInt64)
def mo_G (S : fr_I) (r : Nat) (g : Int32) : fr_I := fr_ui (fr_ui S 59 0 r g) 58 0 r ((fr_ui S 59 0 r g) 20 0 1 + (fr_ui S 59 0 r g) 59 0 r)
def mo_H (Q : fr_I) (r : Nat) : fr_I := fr_ui (fr_ui Q 56 0 r (mo_N Q r)) 57 0 r ((fr_ui Q 56 0 r (mo_N Q r)) 57 0 r + 1)
def mo_R (Q : fr_I) (r : Nat) : fr_I :=
  if mo_N Q r = Q 56 0 r then
    if Q 58 0 r = Q 20 0 1 then
      if (f_O_send Q r) 59 0 r < 4 then mo_G (f_O_send Q r) r (2 * (f_O_send Q r) 59 0 r) else mo_G (f_O_send Q r) r 8
    else Q
  else fr_ui (fr_ui (f_O_send (mo_H Q r) r) 59 0 r 1) 58 0 r ((fr_ui (f_O_send (mo_H Q r) r) 59 0 r 1) 20 0 1 + 1)
theorem mo_eq (I : fr_I) (J : fr_J) (n r : Nat) : f_O_measure I J n r = (mo_R (mo_A I n r) r, fr_uj J 55 0 r (mo_T (mo_A I n r) J r)) := by
  rw [mo_m]
  generalize mo_A I n r = Q
  unfold mo_B mo_R mo_T mo_G mo_H
  by_cases h4 : mo_N Q r = 0
  · by_cases h1 : mo_N Q r = Q 56 0 r
    · by_cases h2 : Q 58 0 r = Q 20 0 1
      · by_cases h3 : (f_O_send Q r) 59 0 r < 4
        · simp only [if_pos h4, if_pos h1, if_pos h2, if_pos h3]
        · simp only [if_pos h4, if_pos h1, if_pos h2, if_neg h3]
      · simp only [if_pos h4, if_pos h1, if_neg h2]
    · simp only [if_pos h4, if_neg h1]
  · by_cases h5 : Q 47 0 r = 0
    · by_cases h1 : mo_N Q r = Q 56 0 r
      · by_cases h2 : Q 58 0 r = Q 20 0 1
        · by_cases h3 : (f_O_send Q r) 59 0 r < 4
          · simp only [if_neg h4, if_pos h5, if_pos h1, if_pos h2, if_pos h3]
          · simp only [if_neg h4, if_pos h5, if_pos h1, if_pos h2, if_neg h3]
        · simp only [if_neg h4, if_pos h5, if_pos h1, if_neg h2]
      · simp only [if_neg h4, if_pos h5, if_neg h1]
    · by_cases h6 : Q 47 0 r = 1
      · by_cases h1 : mo_N Q r = Q 56 0 r
        · by_cases h2 : Q 58 0 r = Q 20 0 1
          · by_cases h3 : (f_O_send Q r) 59 0 r < 4
            · simp only [if_neg h4, if_neg h5, if_pos h6, if_pos h1, if_pos h2, if_pos h3]
            · simp only [if_neg h4, if_neg h5, if_pos h6, if_pos h1, if_pos h2, if_neg h3]
          · simp only [if_neg h4, if_neg h5, if_pos h6, if_pos h1, if_neg h2]
        · simp only [if_neg h4, if_neg h5, if_pos h6, if_neg h1]
      · by_cases h1 : mo_N Q r = Q 56 0 r
        · by_cases h2 : Q 58 0 r = Q 20 0 1
          · by_cases h3 : (f_O_send Q r) 59 0 r < 4
            · simp only [if_neg h4, if_neg h5, if_neg h6, if_pos h1, if_pos h2, if_pos h3]
            · simp only [if_neg h4, if_neg h5, if_neg h6, if_pos h1, if_pos h2, if_neg h3]
          · simp only [if_neg h4, if_neg h5, if_neg h6, if_pos h1, if_neg h2]
        · simp only [if_neg h4, if_neg h5, if_neg h6, if_neg h1]
def mc_2 (I : fr_I) (r : Nat) (p1 : Int32) : fr_I := (fr_ui (fr_ui I 9 r ((I 8 r 1).toNatClampNeg) p1) 8 r 1 ((((fr_ui I 9 r ((I 8 r 1).toNatClampNeg) p1) 8 r 1) + 1) - (((fr_ui I 9 r ((I 8 r 1).toNatClampNeg) p1) 8 r 1) + 1) / 4 * 4))
def mc_3 (I : fr_I) (r : Nat) (p1 : Int32) : fr_I := fr_ui (mc_2 I r p1) 8 r 5 (f_M_rootOfMeanSquare (mc_2 I r p1) r)
def mc_4 (I : fr_I) (r : Nat) (p1 : Int32) : fr_I := fr_ui (mc_3 I r p1) 8 r 6 (if (mc_3 I r p1 8 r 5) ≤ (mc_3 I r p1 8 r 3) then (0 : Int32) else 1)
theorem mc_eq (I : fr_I) (J : fr_J) (r : Nat) (p1 : Int32) : f_M_measure I J r p1 = (mc_4 I r p1, fr_uj J 8 r 7 (if mc_4 I r p1 8 r 6 = 0 then 0 else J 8 r 7 + f_M_growth (mc_4 I r p1) r)) := by
  show (if mc_4 I r p1 8 r 6 = 0 then (mc_4 I r p1, fr_uj J 8 r 7 0) else (mc_4 I r p1, fr_uj J 8 r 7 (J 8 r 7 + f_M_growth (mc_4 I r p1) r))) = _
  split <;> rfl
def rp_s (M : fr_I) (r : Nat) (now w : Int32) : fr_I := if M 11 r 0 = 0 then M else f_W_send M r (2 * M 11 r 4 + (if w = 0 then (0 : Int32) else 1)) now
def rp_g (M : fr_I) (r : Nat) (now : Int32) : fr_I := fr_ui (fr_ui M 11 r 7 (if 8 < (2 * (M 11 r 7)) then 8 else (2 * (M 11 r 7)))) 11 r 8 (now + ((fr_ui M 11 r 7 (if 8 < (2 * (M 11 r 7)) then 8 else (2 * (M 11 r 7)))) 11 r 7))
def rp_h (M : fr_I) (r : Nat) (now : Int32) : fr_I := fr_ui (fr_ui (fr_ui M 11 r 4 ((M 11 r 4) + 1)) 11 r 7 1) 11 r 8 (now + ((fr_ui (fr_ui M 11 r 4 ((M 11 r 4) + 1)) 11 r 7 1) 11 r 7))
theorem rp_eq (M : fr_I) (r : Nat) (now w ch : Int32) : f_W_report M r now w ch = if ch = 0 then (if M 11 r 8 = 0 then M else if now < M 11 r 8 then M else rp_s (rp_g M r now) r now w) else rp_s (rp_h M r now) r now w := rfl
