section TXT
/-- the first text -/
def ip0 : Nat → Int32 := fun j => nI (sCh 0 j)
theorem tn0 : nxT ip0 101 ((0, 0, 0) : Tok) = ((1, 0, 7) : Tok) := by decide +kernel
theorem tn1 : nxT ip0 101 ((1, 0, 7) : Tok) = ((3, 7, 8) : Tok) := by decide +kernel
theorem tn2 : nxT ip0 101 ((3, 7, 8) : Tok) = ((1, 9, 14) : Tok) := by decide +kernel
theorem tn3 : nxT ip0 101 ((1, 9, 14) : Tok) = ((2, 15, 16) : Tok) := by decide +kernel
theorem tn4 : nxT ip0 101 ((2, 15, 16) : Tok) = ((2, 17, 18) : Tok) := by decide +kernel
theorem tn5 : nxT ip0 101 ((2, 17, 18) : Tok) = ((3, 18, 19) : Tok) := by decide +kernel
theorem tn6 : nxT ip0 101 ((3, 18, 19) : Tok) = ((1, 20, 25) : Tok) := by decide +kernel
theorem tn7 : nxT ip0 101 ((1, 20, 25) : Tok) = ((2, 26, 27) : Tok) := by decide +kernel
theorem tn8 : nxT ip0 101 ((2, 26, 27) : Tok) = ((2, 28, 29) : Tok) := by decide +kernel
theorem tn9 : nxT ip0 101 ((2, 28, 29) : Tok) = ((1, 30, 34) : Tok) := by decide +kernel
theorem tn10 : nxT ip0 101 ((1, 30, 34) : Tok) = ((2, 35, 36) : Tok) := by decide +kernel
theorem tn11 : nxT ip0 101 ((2, 35, 36) : Tok) = ((3, 36, 37) : Tok) := by decide +kernel
theorem tn12 : nxT ip0 101 ((3, 36, 37) : Tok) = ((1, 38, 43) : Tok) := by decide +kernel
theorem tn13 : nxT ip0 101 ((1, 38, 43) : Tok) = ((2, 44, 45) : Tok) := by decide +kernel
theorem tn14 : nxT ip0 101 ((2, 44, 45) : Tok) = ((2, 46, 47) : Tok) := by decide +kernel
theorem tn15 : nxT ip0 101 ((2, 46, 47) : Tok) = ((3, 47, 48) : Tok) := by decide +kernel
theorem tn16 : nxT ip0 101 ((3, 47, 48) : Tok) = ((1, 49, 54) : Tok) := by decide +kernel
theorem tn17 : nxT ip0 101 ((1, 49, 54) : Tok) = ((2, 55, 56) : Tok) := by decide +kernel
theorem tn18 : nxT ip0 101 ((2, 55, 56) : Tok) = ((2, 57, 58) : Tok) := by decide +kernel
theorem tn19 : nxT ip0 101 ((2, 57, 58) : Tok) = ((3, 58, 59) : Tok) := by decide +kernel
theorem tn20 : nxT ip0 101 ((3, 58, 59) : Tok) = ((1, 60, 65) : Tok) := by decide +kernel
theorem tn21 : nxT ip0 101 ((1, 60, 65) : Tok) = ((2, 66, 67) : Tok) := by decide +kernel
theorem tn22 : nxT ip0 101 ((2, 66, 67) : Tok) = ((2, 68, 69) : Tok) := by decide +kernel
theorem tn23 : nxT ip0 101 ((2, 68, 69) : Tok) = ((2, 70, 71) : Tok) := by decide +kernel
theorem tn24 : nxT ip0 101 ((2, 70, 71) : Tok) = ((3, 71, 72) : Tok) := by decide +kernel
theorem tn25 : nxT ip0 101 ((3, 71, 72) : Tok) = ((1, 73, 78) : Tok) := by decide +kernel
theorem tn26 : nxT ip0 101 ((1, 73, 78) : Tok) = ((2, 79, 80) : Tok) := by decide +kernel
theorem tn27 : nxT ip0 101 ((2, 79, 80) : Tok) = ((2, 81, 82) : Tok) := by decide +kernel
theorem tn28 : nxT ip0 101 ((2, 81, 82) : Tok) = ((2, 83, 84) : Tok) := by decide +kernel
theorem tn29 : nxT ip0 101 ((2, 83, 84) : Tok) = ((3, 84, 85) : Tok) := by decide +kernel
theorem tn30 : nxT ip0 101 ((3, 84, 85) : Tok) = ((1, 86, 90) : Tok) := by decide +kernel
theorem tn31 : nxT ip0 101 ((1, 86, 90) : Tok) = ((2, 91, 92) : Tok) := by decide +kernel
theorem tn32 : nxT ip0 101 ((2, 91, 92) : Tok) = ((3, 92, 93) : Tok) := by decide +kernel
theorem tn33 : nxT ip0 101 ((3, 92, 93) : Tok) = ((1, 94, 99) : Tok) := by decide +kernel
theorem tn34 : nxT ip0 101 ((1, 94, 99) : Tok) = ((2, 100, 101) : Tok) := by decide +kernel
theorem tn35 : nxT ip0 101 ((2, 100, 101) : Tok) = ((0, 101, 101) : Tok) := by decide +kernel
def S0z : Nat → Nat := fun _ => 0
theorem tk0 : kyM 0 ip0 ((1, 0, 7) : Tok) = true := by decide +kernel
theorem tky1_1 : kyM 1 ip0 ((1, 9, 14) : Tok) = true := by decide +kernel
theorem tp1a : pNum ip0 1 21 ((2, 15, 16) : Tok) = .inr 6 := by decide +kernel
theorem tp1b : pNum ip0 0 10 ((2, 17, 18) : Tok) = .inr 2 := by decide +kernel
theorem tkb1 : kyM 2 ip0 ((3, 18, 19) : Tok) = false := by decide +kernel
def S1z : Nat → Nat := layS S0z 6 2 5 0
theorem th1 : ¬ S0z 1 = 10 := by decide +kernel
theorem tl1 : pLine ip0 101 S0z ((1, 9, 14) : Tok) = .inr (S1z, ((3, 18, 19) : Tok)) := by
  simp only [pLine, pBlock, tn3, tn4, tn5, tky1_1, tp1a, tp1b, tkb1, bdS_r, if_true, if_false, Bool.false_eq_true, th1]
  rfl
theorem tky2_1 : kyM 1 ip0 ((1, 20, 25) : Tok) = true := by decide +kernel
theorem tp2a : pNum ip0 1 21 ((2, 26, 27) : Tok) = .inr 4 := by decide +kernel
theorem tp2b : pNum ip0 0 10 ((2, 28, 29) : Tok) = .inr 7 := by decide +kernel
theorem tkb2 : kyM 2 ip0 ((1, 30, 34) : Tok) = true := by decide +kernel
theorem tp2c : pNum ip0 1 6 ((2, 35, 36) : Tok) = .inr 3 := by decide +kernel
def S2z : Nat → Nat := layS S1z 4 7 3 1
theorem th2 : ¬ S1z 1 = 10 := by decide +kernel
theorem tl2 : pLine ip0 101 S1z ((1, 20, 25) : Tok) = .inr (S2z, ((3, 36, 37) : Tok)) := by
  simp only [pLine, pBlock, tn7, tn8, tn9, tn10, tn11, tky2_1, tp2a, tp2b, tkb2, tp2c, bdS_r, if_true, if_false, Bool.false_eq_true, th2]
  rfl
theorem tky3_1 : kyM 1 ip0 ((1, 38, 43) : Tok) = true := by decide +kernel
theorem tp3a : pNum ip0 1 21 ((2, 44, 45) : Tok) = .inr 8 := by decide +kernel
theorem tp3b : pNum ip0 0 10 ((2, 46, 47) : Tok) = .inr 0 := by decide +kernel
theorem tkb3 : kyM 2 ip0 ((3, 47, 48) : Tok) = false := by decide +kernel
def S3z : Nat → Nat := layS S2z 8 0 5 0
theorem th3 : ¬ S2z 1 = 10 := by decide +kernel
theorem tl3 : pLine ip0 101 S2z ((1, 38, 43) : Tok) = .inr (S3z, ((3, 47, 48) : Tok)) := by
  simp only [pLine, pBlock, tn13, tn14, tn15, tky3_1, tp3a, tp3b, tkb3, bdS_r, if_true, if_false, Bool.false_eq_true, th3]
  rfl
theorem tky4_1 : kyM 1 ip0 ((1, 49, 54) : Tok) = true := by decide +kernel
theorem tp4a : pNum ip0 1 21 ((2, 55, 56) : Tok) = .inr 5 := by decide +kernel
theorem tp4b : pNum ip0 0 10 ((2, 57, 58) : Tok) = .inr 8 := by decide +kernel
theorem tkb4 : kyM 2 ip0 ((3, 58, 59) : Tok) = false := by decide +kernel
def S4z : Nat → Nat := layS S3z 5 8 5 0
theorem th4 : ¬ S3z 1 = 10 := by decide +kernel
theorem tl4 : pLine ip0 101 S3z ((1, 49, 54) : Tok) = .inr (S4z, ((3, 58, 59) : Tok)) := by
  simp only [pLine, pBlock, tn17, tn18, tn19, tky4_1, tp4a, tp4b, tkb4, bdS_r, if_true, if_false, Bool.false_eq_true, th4]
  rfl
theorem tky5_1 : kyM 1 ip0 ((1, 60, 65) : Tok) = false := by decide +kernel
theorem tky5_3 : kyM 3 ip0 ((1, 60, 65) : Tok) = true := by decide +kernel
theorem tp5a : pNum ip0 0 (S4z 1) ((2, 66, 67) : Tok) = .inr 0 := by decide +kernel
theorem tp5b : pNum ip0 1 13 ((2, 68, 69) : Tok) = .inr 5 := by decide +kernel
theorem tp5c : pNum ip0 1 6 ((2, 70, 71) : Tok) = .inr 4 := by decide +kernel
theorem to5 : occ S4z 0 = false := by decide +kernel
def S5z : Nat → Nat := setS S4z 0 5 4
theorem th5 : ¬ S4z 2 = 5 := by decide +kernel
theorem tl5 : pLine ip0 101 S4z ((1, 60, 65) : Tok) = .inr (S5z, ((3, 71, 72) : Tok)) := by
  simp only [pLine, pTrain, tn21, tn22, tn23, tn24, tky5_1, tky5_3, tp5a, tp5b, tp5c, to5, bdS_r, if_true, if_false, Bool.false_eq_true, th5]
  rfl
theorem tky6_1 : kyM 1 ip0 ((1, 73, 78) : Tok) = false := by decide +kernel
theorem tky6_3 : kyM 3 ip0 ((1, 73, 78) : Tok) = true := by decide +kernel
theorem tp6a : pNum ip0 0 (S5z 1) ((2, 79, 80) : Tok) = .inr 3 := by decide +kernel
theorem tp6b : pNum ip0 1 13 ((2, 81, 82) : Tok) = .inr 8 := by decide +kernel
theorem tp6c : pNum ip0 1 6 ((2, 83, 84) : Tok) = .inr 5 := by decide +kernel
theorem to6 : occ S5z 3 = false := by decide +kernel
def S6z : Nat → Nat := setS S5z 3 8 5
theorem th6 : ¬ S5z 2 = 5 := by decide +kernel
theorem tl6 : pLine ip0 101 S5z ((1, 73, 78) : Tok) = .inr (S6z, ((3, 84, 85) : Tok)) := by
  simp only [pLine, pTrain, tn26, tn27, tn28, tn29, tky6_1, tky6_3, tp6a, tp6b, tp6c, to6, bdS_r, if_true, if_false, Bool.false_eq_true, th6]
  rfl
theorem tky7_1 : kyM 1 ip0 ((1, 86, 90) : Tok) = false := by decide +kernel
theorem tky7_3 : kyM 3 ip0 ((1, 86, 90) : Tok) = false := by decide +kernel
theorem tky7_4 : kyM 4 ip0 ((1, 86, 90) : Tok) = true := by decide +kernel
theorem tp7a : pNum ip0 0 (S6z 1) ((2, 91, 92) : Tok) = .inr 1 := by decide +kernel
theorem to7 : rsn S6z 1 = 0 := by decide +kernel
def S7z : Nat → Nat := upN S6z (5 + 6 * 1 + 4) 1
theorem tl7 : pLine ip0 101 S6z ((1, 86, 90) : Tok) = .inr (S7z, ((3, 92, 93) : Tok)) := by
  simp only [pLine, pPull, tn31, tn32, tky7_1, tky7_3, tky7_4, tp7a, to7, bdS_r, if_true, if_false, Bool.false_eq_true]
  rfl
theorem tky8_1 : kyM 1 ip0 ((1, 94, 99) : Tok) = false := by decide +kernel
theorem tky8_3 : kyM 3 ip0 ((1, 94, 99) : Tok) = false := by decide +kernel
theorem tky8_4 : kyM 4 ip0 ((1, 94, 99) : Tok) = false := by decide +kernel
theorem tky8_5 : kyM 5 ip0 ((1, 94, 99) : Tok) = false := by decide +kernel
theorem tky8_6 : kyM 6 ip0 ((1, 94, 99) : Tok) = false := by decide +kernel
theorem tky8_7 : kyM 7 ip0 ((1, 94, 99) : Tok) = true := by decide +kernel
theorem tp8a : pNum ip0 1 ((if 9999 - S7z 0 < 99 then 9999 - S7z 0 else 99) + 1) ((2, 100, 101) : Tok) = .inr 3 := by decide +kernel
def S8z : Nat → Nat := psS 3 S7z
theorem tl8 : pLine ip0 101 S7z ((1, 94, 99) : Tok) = .inr (S8z, ((0, 101, 101) : Tok)) := by
  simp only [pLine, pTicks, tn34, tn35, tky8_1, tky8_3, tky8_4, tky8_5, tky8_6, tky8_7, tp8a, bdS_r, if_true, if_false, Bool.false_eq_true]
  rfl
theorem pt0 : pText ip0 101 = .inr S8z := by
  simp only [pText]
  rw [tn0, if_pos tk0, tn1]
  show pLoop ip0 101 102 S0z _ = _
  rw [pLoop_s, if_neg (by decide), if_pos (by decide), tn2, tl1, bdS_r]
  rw [pLoop_s, if_neg (by decide), if_pos (by decide), tn6, tl2, bdS_r]
  rw [pLoop_s, if_neg (by decide), if_pos (by decide), tn12, tl3, bdS_r]
  rw [pLoop_s, if_neg (by decide), if_pos (by decide), tn16, tl4, bdS_r]
  rw [pLoop_s, if_neg (by decide), if_pos (by decide), tn20, tl5, bdS_r]
  rw [pLoop_s, if_neg (by decide), if_pos (by decide), tn25, tl6, bdS_r]
  rw [pLoop_s, if_neg (by decide), if_pos (by decide), tn30, tl7, bdS_r]
  rw [pLoop_s, if_neg (by decide), if_pos (by decide), tn33, tl8, bdS_r]
  rw [pLoop_s, if_pos (by decide)]
/-- the first state -/
abbrev sg0 : Nat → Nat := S8z
end TXT
