/-! the tags: what stands behind each (written by a program) -/
def tK : Nat → Nat := fun t => match t with
  | 1 => 1
  | 21 => 1
  | 2 => 1
  | 22 => 1
  | 3 => 1
  | 23 => 1
  | 4 => 1
  | 24 => 1
  | 5 => 1
  | 25 => 1
  | 6 => 1
  | 26 => 1
  | 7 => 1
  | 27 => 1
  | 8 => 1
  | 28 => 1
  | 9 => 1
  | 29 => 1
  | 10 => 1
  | 30 => 1
  | 11 => 1
  | 31 => 1
  | 12 => 1
  | 32 => 1
  | 13 => 1
  | 33 => 1
  | 41 => 2
  | 42 => 2
  | 43 => 2
  | 44 => 2
  | 45 => 4
  | 46 => 2
  | 47 => 2
  | 48 => 2
  | 49 => 6
  | 50 => 2
  | 51 => 2
  | 52 => 2
  | 53 => 3
  | 54 => 2
  | 55 => 2
  | 56 => 7
  | 57 => 3
  | 59 => 2
  | 60 => 2
  | 71 => 2
  | 72 => 2
  | 73 => 2
  | 74 => 2
  | 75 => 2
  | 76 => 2
  | 77 => 2
  | 78 => 2
  | 79 => 2
  | 80 => 2
  | 81 => 2
  | 82 => 2
  | 83 => 2
  | 84 => 2
  | 85 => 2
  | 86 => 2
  | 87 => 2
  | 88 => 2
  | 89 => 2
  | 90 => 2
  | 91 => 2
  | 92 => 2
  | 93 => 2
  | 94 => 2
  | 95 => 5
  | 96 => 2
  | 97 => 2
  | 98 => 2
  | 99 => 2
  | 100 => 2
  | 101 => 2
  | 102 => 2
  | 103 => 2
  | 104 => 2
  | 105 => 2
  | 106 => 2
  | 120 => 3
  | _ => 0
def tC : Nat → Nat := fun t => match t with
  | 1 => 0
  | 21 => 0
  | 2 => 1
  | 22 => 1
  | 3 => 2
  | 23 => 2
  | 4 => 3
  | 24 => 3
  | 5 => 4
  | 25 => 4
  | 6 => 5
  | 26 => 5
  | 7 => 6
  | 27 => 6
  | 8 => 7
  | 28 => 7
  | 9 => 8
  | 29 => 8
  | 10 => 9
  | 30 => 9
  | 11 => 10
  | 31 => 10
  | 12 => 11
  | 32 => 11
  | 13 => 12
  | 33 => 12
  | _ => 0
def tN : Nat → Nat := fun t => match t with
  | 1 => 9
  | 21 => 9
  | 2 => 3
  | 22 => 3
  | 3 => 8
  | 23 => 8
  | 4 => 14
  | 24 => 14
  | 5 => 6
  | 25 => 6
  | 6 => 3
  | 26 => 3
  | 7 => 2
  | 27 => 2
  | 8 => 2
  | 28 => 2
  | 9 => 6
  | 29 => 6
  | 10 => 6
  | 30 => 6
  | 11 => 9
  | 31 => 9
  | 12 => 16
  | 32 => 16
  | 13 => 59
  | 33 => 59
  | _ => 0
def sK : Nat → Nat → Nat := fun t => match t with
  | 1 => (fun k => match k with | 0 => 2 | 1 => 2 | 2 => 2 | 3 => 2 | 4 => 2 | 5 => 2 | 6 => 2 | _ => 0)
  | 21 => (fun k => match k with | 0 => 3 | 1 => 3 | 2 => 3 | 3 => 3 | 4 => 3 | 5 => 3 | 6 => 3 | _ => 0)
  | 2 => (fun k => match k with | 0 => 2 | 1 => 2 | _ => 0)
  | 22 => (fun k => match k with | 0 => 3 | 1 => 3 | _ => 0)
  | 3 => (fun k => match k with | 0 => 2 | 1 => 2 | 2 => 2 | 3 => 2 | _ => 0)
  | 23 => (fun k => match k with | 0 => 3 | 1 => 3 | 2 => 3 | 3 => 3 | _ => 0)
  | 4 => (fun k => match k with | 0 => 2 | 1 => 2 | 2 => 2 | 3 => 2 | 4 => 2 | 5 => 2 | 6 => 2 | _ => 0)
  | 24 => (fun k => match k with | 0 => 3 | 1 => 3 | 2 => 3 | 3 => 3 | 4 => 3 | 5 => 3 | 6 => 3 | _ => 0)
  | 5 => (fun k => match k with | 0 => 2 | 1 => 2 | 2 => 2 | 3 => 2 | _ => 0)
  | 25 => (fun k => match k with | 0 => 3 | 1 => 3 | 2 => 3 | 3 => 3 | _ => 0)
  | 6 => (fun k => match k with | 0 => 2 | 1 => 2 | 2 => 2 | _ => 0)
  | 26 => (fun k => match k with | 0 => 3 | 1 => 3 | 2 => 3 | _ => 0)
  | 7 => (fun k => match k with | 0 => 2 | _ => 0)
  | 27 => (fun k => match k with | 0 => 3 | _ => 0)
  | 8 => (fun k => match k with | 0 => 2 | _ => 0)
  | 28 => (fun k => match k with | 0 => 3 | _ => 0)
  | 9 => (fun k => match k with | 0 => 2 | 1 => 2 | 2 => 2 | 3 => 2 | _ => 0)
  | 29 => (fun k => match k with | 0 => 3 | 1 => 3 | 2 => 3 | 3 => 3 | _ => 0)
  | 10 => (fun k => match k with | 0 => 2 | _ => 0)
  | 30 => (fun k => match k with | 0 => 3 | _ => 0)
  | 11 => (fun k => match k with | 0 => 2 | 1 => 2 | 7 => 1 | 8 => 1 | _ => 0)
  | 31 => (fun k => match k with | 0 => 3 | 1 => 3 | 7 => 1 | 8 => 1 | _ => 0)
  | 12 => (fun k => match k with | 0 => 2 | 1 => 2 | 2 => 2 | 3 => 2 | 4 => 2 | 5 => 2 | 6 => 2 | 7 => 2 | 8 => 2 | 9 => 2 | 10 => 2 | 11 => 2 | 12 => 2 | _ => 0)
  | 32 => (fun k => match k with | 0 => 3 | 1 => 3 | 2 => 3 | 3 => 3 | 4 => 3 | 5 => 3 | 6 => 3 | 7 => 3 | 8 => 3 | 9 => 3 | 10 => 3 | 11 => 3 | 12 => 3 | _ => 0)
  | 13 => (fun k => match k with | 1 => 2 | 9 => 2 | 10 => 2 | 11 => 2 | 12 => 2 | 13 => 2 | 14 => 2 | 15 => 2 | 16 => 2 | 17 => 2 | 18 => 2 | 19 => 2 | 20 => 2 | 27 => 2 | 28 => 2 | 29 => 2 | 30 => 2 | 31 => 2 | 32 => 2 | 33 => 2 | 34 => 2 | 35 => 2 | 36 => 2 | 37 => 2 | 39 => 2 | 40 => 2 | 42 => 2 | 45 => 2 | 46 => 2 | 47 => 2 | 48 => 2 | 49 => 2 | 50 => 2 | 55 => 2 | 56 => 2 | 57 => 2 | _ => 0)
  | 33 => (fun k => match k with | 1 => 3 | 9 => 3 | 10 => 3 | 11 => 3 | 12 => 3 | 13 => 3 | 14 => 3 | 15 => 3 | 16 => 3 | 17 => 3 | 18 => 3 | 19 => 3 | 20 => 3 | 27 => 3 | 28 => 3 | 29 => 3 | 30 => 3 | 31 => 3 | 32 => 3 | 33 => 3 | 34 => 3 | 35 => 3 | 36 => 3 | 37 => 3 | 39 => 3 | 40 => 3 | 42 => 3 | 45 => 3 | 46 => 3 | 47 => 3 | 48 => 3 | 49 => 3 | 50 => 3 | 55 => 3 | 56 => 3 | 57 => 3 | _ => 0)
  | _ => fun _ => 0
def fq : Nat → Nat → Option (Int × Int) := fun t => match t with
  | 1 => (fun k => match k with | 7 => some (0, 3) | 8 => some (0, 3) | _ => none)
  | 2 => (fun k => match k with | 2 => some ((-2147483648), 2147483647) | _ => none)
  | 3 => (fun k => match k with | 4 => some ((-2147483648), 2147483647) | 5 => some ((-2147483648), 2147483647) | 6 => some ((-2147483648), 2147483647) | 7 => some ((-2147483648), 2147483647) | _ => none)
  | 4 => (fun k => match k with | 7 => some (0, 1) | 8 => some (0, 1) | 9 => some ((-2147483648), 2147483647) | 10 => some ((-2147483648), 2147483647) | 11 => some ((-2147483648), 2147483647) | 12 => some ((-2147483648), 2147483647) | 13 => some (0, 1) | _ => none)
  | 5 => (fun k => match k with | 4 => some ((-2147483648), 2147483647) | 5 => some ((-2147483648), 2147483647) | _ => none)
  | 6 => fun _ => none
  | 7 => (fun k => match k with | 1 => some (0, 60) | _ => none)
  | 8 => (fun k => match k with | 1 => some (0, 150) | _ => none)
  | 9 => (fun k => match k with | 4 => some (0, 3) | 5 => some (0, 12) | _ => none)
  | 10 => (fun k => match k with | 1 => some ((-2147483648), 2147483647) | 2 => some ((-2147483648), 2147483647) | 3 => some ((-2147483648), 2147483647) | 4 => some ((-2147483648), 2147483647) | 5 => some ((-2147483648), 2147483647) | _ => none)
  | 11 => (fun k => match k with | 2 => some ((-2147483648), 2147483647) | 3 => some ((-2147483648), 2147483647) | 4 => some ((-2147483648), 2147483647) | 5 => some ((-2147483648), 2147483647) | 6 => some ((-2147483648), 2147483647) | 7 => some ((-9223372036854775808), 9223372036854775807) | 8 => some ((-9223372036854775808), 9223372036854775807) | _ => none)
  | 12 => (fun k => match k with | 13 => some ((-2147483648), 2147483647) | 14 => some ((-2147483648), 2147483647) | 15 => some ((-2147483648), 2147483647) | _ => none)
  | 13 => (fun k => match k with | 0 => some (0, 2) | 2 => some (0, 600) | 3 => some (0, 600) | 4 => some (0, 700) | 5 => some ((-1), 700) | 6 => some (0, 4) | 7 => some (0, 8) | 8 => some ((-1), 700) | 21 => some (0, 3) | 22 => some (0, 60) | 23 => some (0, 12) | 24 => some (0, 3) | 25 => some (0, 60) | 26 => some (0, 12) | 38 => some (0, 150) | 41 => some (0, 12) | 43 => some (0, 59) | 44 => some (0, 1) | 51 => some ((-1), 2) | 52 => some (0, 3000) | 53 => some ((-2147483648), 2147483647) | 54 => some ((-1), 2) | 58 => some (0, 3) | _ => none)
  | _ => fun _ => none
def rq : Nat → Nat → Option Nat := fun t => match t with
  | 1 => (fun k => match k with | 0 => some 7 | 1 => some 7 | 2 => some 7 | 3 => some 7 | 4 => some 7 | 5 => some 7 | 6 => some 7 | _ => none)
  | 2 => (fun k => match k with | 0 => some 47 | 1 => some 48 | _ => none)
  | 3 => (fun k => match k with | 0 => some 4 | 1 => some 53 | 2 => some 54 | 3 => some 55 | _ => none)
  | 4 => (fun k => match k with | 0 => some 9 | 1 => some 1 | 2 => some 44 | 3 => some 49 | 4 => some 50 | 5 => some 51 | 6 => some 52 | _ => none)
  | 5 => (fun k => match k with | 0 => some 57 | 1 => some 53 | 2 => some 59 | 3 => some 60 | _ => none)
  | 6 => (fun k => match k with | 0 => some 4 | 1 => some 10 | 2 => some 57 | _ => none)
  | 7 => (fun k => match k with | 0 => some 41 | _ => none)
  | 8 => (fun k => match k with | 0 => some 46 | _ => none)
  | 9 => (fun k => match k with | 0 => some 42 | 1 => some 43 | 2 => some 44 | 3 => some 1 | _ => none)
  | 10 => (fun k => match k with | 0 => some 45 | _ => none)
  | 11 => (fun k => match k with | 0 => some 9 | 1 => some 56 | _ => none)
  | 12 => (fun k => match k with | 0 => some 10 | 1 => some 9 | 2 => some 9 | 3 => some 8 | 4 => some 2 | 5 => some 2 | 6 => some 4 | 7 => some 3 | 8 => some 11 | 9 => some 5 | 10 => some 6 | 11 => some 6 | 12 => some 6 | _ => none)
  | 13 => (fun k => match k with | 1 => some 71 | 9 => some 72 | 10 => some 73 | 11 => some 74 | 12 => some 75 | 13 => some 76 | 14 => some 77 | 15 => some 78 | 16 => some 79 | 17 => some 80 | 18 => some 81 | 19 => some 82 | 20 => some 83 | 27 => some 84 | 28 => some 85 | 29 => some 86 | 30 => some 87 | 31 => some 88 | 32 => some 89 | 33 => some 90 | 34 => some 91 | 35 => some 92 | 36 => some 93 | 37 => some 94 | 39 => some 96 | 40 => some 97 | 42 => some 95 | 45 => some 98 | 46 => some 99 | 47 => some 100 | 48 => some 101 | 49 => some 102 | 50 => some 103 | 55 => some 104 | 56 => some 105 | 57 => some 106 | _ => none)
  | _ => fun _ => none
def axS (k : Nat) : Int × Int := if k < 420 then (0, 59) else if k < 480 then (0, 1) else if k < 487 then (0, 60) else if k < 488 then ((-1), 2) else if k < 489 then (0, 600000) else if k < 490 then ((-2147483648), 2147483647) else if k < 491 then (0, 1) else if k < 494 then (0, 2) else ((-2147483648), 2147483647)
theorem axS_0 (k : Nat) (h : 0 ≤ k ∧ k ≤ 419) : axS k = (0, 59) := by
  unfold axS
  rw [if_pos (show k < 420 by omega)]
theorem axS_1 (k : Nat) (h : 420 ≤ k ∧ k ≤ 479) : axS k = (0, 1) := by
  unfold axS
  rw [if_neg (show ¬ k < 420 by omega), if_pos (show k < 480 by omega)]
theorem axS_2 (k : Nat) (h : 480 ≤ k ∧ k ≤ 486) : axS k = (0, 60) := by
  unfold axS
  rw [if_neg (show ¬ k < 420 by omega), if_neg (show ¬ k < 480 by omega), if_pos (show k < 487 by omega)]
theorem axS_3 (k : Nat) (h : 487 ≤ k ∧ k ≤ 487) : axS k = ((-1), 2) := by
  unfold axS
  rw [if_neg (show ¬ k < 420 by omega), if_neg (show ¬ k < 480 by omega), if_neg (show ¬ k < 487 by omega), if_pos (show k < 488 by omega)]
theorem axS_4 (k : Nat) (h : 488 ≤ k ∧ k ≤ 488) : axS k = (0, 600000) := by
  unfold axS
  rw [if_neg (show ¬ k < 420 by omega), if_neg (show ¬ k < 480 by omega), if_neg (show ¬ k < 487 by omega), if_neg (show ¬ k < 488 by omega), if_pos (show k < 489 by omega)]
theorem axS_5 (k : Nat) (h : 489 ≤ k ∧ k ≤ 489) : axS k = ((-2147483648), 2147483647) := by
  unfold axS
  rw [if_neg (show ¬ k < 420 by omega), if_neg (show ¬ k < 480 by omega), if_neg (show ¬ k < 487 by omega), if_neg (show ¬ k < 488 by omega), if_neg (show ¬ k < 489 by omega), if_pos (show k < 490 by omega)]
theorem axS_6 (k : Nat) (h : 490 ≤ k ∧ k ≤ 490) : axS k = (0, 1) := by
  unfold axS
  rw [if_neg (show ¬ k < 420 by omega), if_neg (show ¬ k < 480 by omega), if_neg (show ¬ k < 487 by omega), if_neg (show ¬ k < 488 by omega), if_neg (show ¬ k < 489 by omega), if_neg (show ¬ k < 490 by omega), if_pos (show k < 491 by omega)]
theorem axS_7 (k : Nat) (h : 491 ≤ k ∧ k ≤ 493) : axS k = (0, 2) := by
  unfold axS
  rw [if_neg (show ¬ k < 420 by omega), if_neg (show ¬ k < 480 by omega), if_neg (show ¬ k < 487 by omega), if_neg (show ¬ k < 488 by omega), if_neg (show ¬ k < 489 by omega), if_neg (show ¬ k < 490 by omega), if_neg (show ¬ k < 491 by omega), if_pos (show k < 494 by omega)]
theorem axS_8 (k : Nat) (h : 494 ≤ k ∧ k ≤ 514) : axS k = ((-2147483648), 2147483647) := by
  unfold axS
  rw [if_neg (show ¬ k < 420 by omega), if_neg (show ¬ k < 480 by omega), if_neg (show ¬ k < 487 by omega), if_neg (show ¬ k < 488 by omega), if_neg (show ¬ k < 489 by omega), if_neg (show ¬ k < 490 by omega), if_neg (show ¬ k < 491 by omega), if_neg (show ¬ k < 494 by omega)]
theorem axS_h (k : Nat) : -2147483648 ≤ (axS k).1 ∧ (axS k).2 ≤ 2147483647 ∧ (axS k).1 ≤ 0 ∧ 0 ≤ (axS k).2 := by
  unfold axS
  repeat (split; (first | (refine ⟨?_, ?_, ?_, ?_⟩ <;> decide)))
  refine ⟨?_, ?_, ?_, ?_⟩ <;> decide
def axI (k : Nat) : Int × Int := if k < 420 then (0, 59) else if k < 480 then (0, 1) else if k < 487 then (0, 60) else if k < 488 then ((-1), 2) else if k < 489 then (0, 600000) else if k < 490 then ((-2147483648), 2147483647) else if k < 491 then (0, 1) else if k < 494 then (0, 2) else if k < 515 then ((-2147483648), 2147483647) else if k < 10515 then ((-2147483648), 2147483647) else if k < 11415 then (0, 22) else if k < 13215 then ((-2147483648), 2147483647) else (0, 150)
theorem axI_0 (k : Nat) (h : 0 ≤ k ∧ k ≤ 419) : axI k = (0, 59) := by
  unfold axI
  rw [if_pos (show k < 420 by omega)]
theorem axI_1 (k : Nat) (h : 420 ≤ k ∧ k ≤ 479) : axI k = (0, 1) := by
  unfold axI
  rw [if_neg (show ¬ k < 420 by omega), if_pos (show k < 480 by omega)]
theorem axI_2 (k : Nat) (h : 480 ≤ k ∧ k ≤ 486) : axI k = (0, 60) := by
  unfold axI
  rw [if_neg (show ¬ k < 420 by omega), if_neg (show ¬ k < 480 by omega), if_pos (show k < 487 by omega)]
theorem axI_3 (k : Nat) (h : 487 ≤ k ∧ k ≤ 487) : axI k = ((-1), 2) := by
  unfold axI
  rw [if_neg (show ¬ k < 420 by omega), if_neg (show ¬ k < 480 by omega), if_neg (show ¬ k < 487 by omega), if_pos (show k < 488 by omega)]
theorem axI_4 (k : Nat) (h : 488 ≤ k ∧ k ≤ 488) : axI k = (0, 600000) := by
  unfold axI
  rw [if_neg (show ¬ k < 420 by omega), if_neg (show ¬ k < 480 by omega), if_neg (show ¬ k < 487 by omega), if_neg (show ¬ k < 488 by omega), if_pos (show k < 489 by omega)]
theorem axI_5 (k : Nat) (h : 489 ≤ k ∧ k ≤ 489) : axI k = ((-2147483648), 2147483647) := by
  unfold axI
  rw [if_neg (show ¬ k < 420 by omega), if_neg (show ¬ k < 480 by omega), if_neg (show ¬ k < 487 by omega), if_neg (show ¬ k < 488 by omega), if_neg (show ¬ k < 489 by omega), if_pos (show k < 490 by omega)]
theorem axI_6 (k : Nat) (h : 490 ≤ k ∧ k ≤ 490) : axI k = (0, 1) := by
  unfold axI
  rw [if_neg (show ¬ k < 420 by omega), if_neg (show ¬ k < 480 by omega), if_neg (show ¬ k < 487 by omega), if_neg (show ¬ k < 488 by omega), if_neg (show ¬ k < 489 by omega), if_neg (show ¬ k < 490 by omega), if_pos (show k < 491 by omega)]
theorem axI_7 (k : Nat) (h : 491 ≤ k ∧ k ≤ 493) : axI k = (0, 2) := by
  unfold axI
  rw [if_neg (show ¬ k < 420 by omega), if_neg (show ¬ k < 480 by omega), if_neg (show ¬ k < 487 by omega), if_neg (show ¬ k < 488 by omega), if_neg (show ¬ k < 489 by omega), if_neg (show ¬ k < 490 by omega), if_neg (show ¬ k < 491 by omega), if_pos (show k < 494 by omega)]
theorem axI_8 (k : Nat) (h : 494 ≤ k ∧ k ≤ 514) : axI k = ((-2147483648), 2147483647) := by
  unfold axI
  rw [if_neg (show ¬ k < 420 by omega), if_neg (show ¬ k < 480 by omega), if_neg (show ¬ k < 487 by omega), if_neg (show ¬ k < 488 by omega), if_neg (show ¬ k < 489 by omega), if_neg (show ¬ k < 490 by omega), if_neg (show ¬ k < 491 by omega), if_neg (show ¬ k < 494 by omega), if_pos (show k < 515 by omega)]
theorem axI_9 (k : Nat) (h : 515 ≤ k ∧ k ≤ 10514) : axI k = ((-2147483648), 2147483647) := by
  unfold axI
  rw [if_neg (show ¬ k < 420 by omega), if_neg (show ¬ k < 480 by omega), if_neg (show ¬ k < 487 by omega), if_neg (show ¬ k < 488 by omega), if_neg (show ¬ k < 489 by omega), if_neg (show ¬ k < 490 by omega), if_neg (show ¬ k < 491 by omega), if_neg (show ¬ k < 494 by omega), if_neg (show ¬ k < 515 by omega), if_pos (show k < 10515 by omega)]
theorem axI_10 (k : Nat) (h : 10515 ≤ k ∧ k ≤ 11414) : axI k = (0, 22) := by
  unfold axI
  rw [if_neg (show ¬ k < 420 by omega), if_neg (show ¬ k < 480 by omega), if_neg (show ¬ k < 487 by omega), if_neg (show ¬ k < 488 by omega), if_neg (show ¬ k < 489 by omega), if_neg (show ¬ k < 490 by omega), if_neg (show ¬ k < 491 by omega), if_neg (show ¬ k < 494 by omega), if_neg (show ¬ k < 515 by omega), if_neg (show ¬ k < 10515 by omega), if_pos (show k < 11415 by omega)]
theorem axI_11 (k : Nat) (h : 11415 ≤ k ∧ k ≤ 13214) : axI k = ((-2147483648), 2147483647) := by
  unfold axI
  rw [if_neg (show ¬ k < 420 by omega), if_neg (show ¬ k < 480 by omega), if_neg (show ¬ k < 487 by omega), if_neg (show ¬ k < 488 by omega), if_neg (show ¬ k < 489 by omega), if_neg (show ¬ k < 490 by omega), if_neg (show ¬ k < 491 by omega), if_neg (show ¬ k < 494 by omega), if_neg (show ¬ k < 515 by omega), if_neg (show ¬ k < 10515 by omega), if_neg (show ¬ k < 11415 by omega), if_pos (show k < 13215 by omega)]
theorem axI_12 (k : Nat) (h : 13215 ≤ k ∧ k ≤ 13220) : axI k = (0, 150) := by
  unfold axI
  rw [if_neg (show ¬ k < 420 by omega), if_neg (show ¬ k < 480 by omega), if_neg (show ¬ k < 487 by omega), if_neg (show ¬ k < 488 by omega), if_neg (show ¬ k < 489 by omega), if_neg (show ¬ k < 490 by omega), if_neg (show ¬ k < 491 by omega), if_neg (show ¬ k < 494 by omega), if_neg (show ¬ k < 515 by omega), if_neg (show ¬ k < 10515 by omega), if_neg (show ¬ k < 11415 by omega), if_neg (show ¬ k < 13215 by omega)]
theorem axI_h (k : Nat) : -2147483648 ≤ (axI k).1 ∧ (axI k).2 ≤ 2147483647 ∧ (axI k).1 ≤ 0 ∧ 0 ≤ (axI k).2 := by
  unfold axI
  repeat (split; (first | (refine ⟨?_, ?_, ?_, ?_⟩ <;> decide)))
  refine ⟨?_, ?_, ?_, ?_⟩ <;> decide
def aq : Nat → Nat → Option (Int × Int) := fun t => match t with
  | 41 => fun _ => some ((-2147483648), 2147483647)
  | 42 => fun _ => some ((-2147483648), 2147483647)
  | 43 => fun _ => some ((-2147483648), 2147483647)
  | 44 => fun _ => some ((-2147483648), 2147483647)
  | 45 => fun _ => some ((-128), 127)
  | 46 => fun _ => some ((-2147483648), 2147483647)
  | 47 => fun _ => some ((-2147483648), 2147483647)
  | 48 => fun _ => some ((-2147483648), 2147483647)
  | 50 => fun _ => some ((-2147483648), 2147483647)
  | 51 => fun _ => some ((-2147483648), 2147483647)
  | 52 => fun _ => some ((-2147483648), 2147483647)
  | 53 => fun _ => some ((-9223372036854775808), 9223372036854775807)
  | 54 => fun _ => some ((-2147483648), 2147483647)
  | 55 => fun _ => some ((-2147483648), 2147483647)
  | 57 => fun _ => some ((-9223372036854775808), 9223372036854775807)
  | 59 => fun _ => some ((-2147483648), 2147483647)
  | 60 => fun _ => some ((-2147483648), 2147483647)
  | 71 => fun _ => some ((-2147483648), 2147483647)
  | 72 => fun _ => some (0, 255)
  | 73 => fun _ => some (0, 60)
  | 74 => fun _ => some ((-2147483648), 2147483647)
  | 75 => fun _ => some ((-2147483648), 2147483647)
  | 76 => fun _ => some (0, 60)
  | 77 => fun _ => some (0, 60)
  | 78 => fun _ => some (0, 2)
  | 79 => fun _ => some (0, 9)
  | 80 => fun _ => some (0, 60)
  | 81 => fun _ => some ((-2147483648), 2147483647)
  | 82 => fun _ => some ((-2147483648), 2147483647)
  | 83 => fun _ => some (0, 9)
  | 84 => fun k => some (axS k)
  | 85 => fun k => some (axS k)
  | 86 => fun _ => some ((-2147483648), 2147483647)
  | 87 => fun _ => some ((-2147483648), 2147483647)
  | 88 => fun _ => some (0, 22)
  | 89 => fun _ => some ((-2147483648), 2147483647)
  | 90 => fun _ => some ((-2147483648), 2147483647)
  | 91 => fun _ => some (0, 22)
  | 92 => fun _ => some ((-2147483648), 2147483647)
  | 93 => fun _ => some ((-2147483648), 2147483647)
  | 94 => fun _ => some (0, 150)
  | 95 => fun _ => some (0, 1)
  | 96 => fun _ => some (0, 9999)
  | 97 => fun _ => some (0, 9999)
  | 98 => fun _ => some ((-2147483648), 2147483647)
  | 99 => fun k => some (axS k)
  | 100 => fun _ => some ((-2147483648), 2147483647)
  | 101 => fun _ => some ((-2147483648), 2147483647)
  | 102 => fun _ => some ((-1), 3000)
  | 103 => fun _ => some ((-1), 3000)
  | 104 => fun k => some (axS (k % 515))
  | 105 => fun _ => some ((-2147483648), 2147483647)
  | 106 => fun k => some (axI (k % 13221))
  | 120 => fun _ => some ((-9223372036854775808), 9223372036854775807)
  | _ => fun _ => none
def dq : Nat → Option Nat := fun t => match t with
  | 49 => some 8
  | 56 => some 1
  | _ => none
def lq : Nat → Option Nat := fun t => match t with
  | 41 => some 60
  | 42 => some 15
  | 43 => some 12
  | 44 => some 3
  | 45 => some 600
  | 47 => some 12
  | 48 => some 12
  | 49 => some 6
  | 50 => some 21
  | 51 => some 5
  | 52 => some 3
  | 54 => some 4096
  | 55 => some 3001
  | 56 => some 13
  | 57 => some 323
  | 59 => some 10752
  | 60 => some 512
  | 71 => some 2
  | 72 => some 600
  | 73 => some 12
  | 74 => some 3
  | 75 => some 180
  | 76 => some 3
  | 77 => some 3
  | 78 => some 3
  | 79 => some 12
  | 80 => some 12
  | 81 => some 3
  | 82 => some 60
  | 83 => some 12
  | 84 => some 515
  | 85 => some 515
  | 86 => some 10000
  | 87 => some 5
  | 88 => some 150
  | 89 => some 150
  | 90 => some 150
  | 91 => some 900
  | 92 => some 900
  | 93 => some 900
  | 94 => some 6
  | 95 => some 150
  | 96 => some 24
  | 97 => some 24
  | 98 => some 3
  | 99 => some 515
  | 100 => some 5
  | 101 => some 210070
  | 102 => some 3001
  | 103 => some 8192
  | 104 => some 6695
  | 105 => some 6
  | 106 => some 39663
  | 120 => some 1
  | _ => none
def f0 : Nat → Nat → Option Int := fun t => match t with
  | 1 => (fun k => match k with | 7 => some 0 | 8 => some 0 | _ => none)
  | 2 => (fun k => match k with | 2 => some 0 | _ => none)
  | 3 => (fun k => match k with | 4 => some 0 | 5 => some 0 | 6 => some 0 | 7 => some 0 | _ => none)
  | 4 => (fun k => match k with | 7 => some 0 | 8 => some 0 | 9 => some 0 | 10 => some 0 | 11 => some (-1) | 12 => some 0 | 13 => some 0 | _ => none)
  | 5 => (fun k => match k with | 4 => some 0 | 5 => some 0 | _ => none)
  | 6 => fun _ => none
  | 7 => (fun k => match k with | 1 => some 0 | _ => none)
  | 8 => fun _ => none
  | 9 => (fun k => match k with | 4 => some 0 | 5 => some 0 | _ => none)
  | 10 => (fun k => match k with | 1 => some 0 | 2 => some 0 | 3 => some 0 | 4 => some 0 | 5 => some (-1) | _ => none)
  | 11 => (fun k => match k with | 2 => some 0 | 3 => some 0 | 4 => some 0 | 5 => some 0 | 6 => some 0 | 7 => some 0 | 8 => some 0 | _ => none)
  | 12 => (fun k => match k with | 13 => some 0 | 14 => some 0 | 15 => some 0 | _ => none)
  | 13 => (fun k => match k with | 0 => some 0 | 2 => some 0 | 3 => some 0 | 4 => some 0 | 5 => some 0 | 6 => some 0 | 7 => some 0 | 8 => some (-1) | 21 => some 0 | 22 => some 0 | 23 => some 0 | 24 => some 0 | 25 => some 0 | 26 => some 0 | 38 => some 0 | 41 => some 0 | 43 => some 0 | 44 => some 0 | 51 => some 0 | 52 => some 0 | 53 => some 0 | 54 => some 0 | 58 => some 0 | _ => none)
  | _ => fun _ => none
def ay84 (k : Nat) : Option Int := if k = 487 then some (-1) else some 0
def ay85 (k : Nat) : Option Int := if k = 487 then some (-1) else some 0
def ay94 (k : Nat) : Option Int := if k = 0 then some 1 else if k = 1 then some 1 else if k = 2 then some 1 else some 0
def a0 : Nat → Nat → Option Int := fun t => match t with
  | 41 => fun _ => some 0
  | 42 => fun _ => some 0
  | 43 => fun _ => some 0
  | 44 => fun _ => some 0
  | 45 => fun _ => some 0
  | 46 => fun _ => none
  | 47 => fun _ => some 0
  | 48 => fun _ => some 0
  | 49 => fun _ => some 0
  | 50 => fun _ => some 0
  | 51 => fun _ => some 0
  | 52 => fun _ => some 0
  | 53 => fun _ => some 0
  | 54 => fun _ => some 0
  | 55 => fun _ => some 0
  | 56 => fun _ => none
  | 57 => fun _ => some 0
  | 59 => fun _ => some 0
  | 60 => fun _ => some 0
  | 71 => fun _ => some 0
  | 72 => fun _ => some 0
  | 73 => fun _ => some 0
  | 74 => fun _ => some 5
  | 75 => fun _ => some 0
  | 76 => fun _ => some 0
  | 77 => fun _ => some 0
  | 78 => fun _ => some 0
  | 79 => fun _ => some 0
  | 80 => fun _ => some 0
  | 81 => fun _ => some 5
  | 82 => fun _ => some 0
  | 83 => fun _ => some 0
  | 84 => ay84
  | 85 => ay85
  | 86 => fun _ => some 0
  | 87 => fun _ => some (-1)
  | 88 => fun _ => some 0
  | 89 => fun _ => some 0
  | 90 => fun _ => some 0
  | 91 => fun _ => none
  | 92 => fun _ => some 0
  | 93 => fun _ => some 0
  | 94 => ay94
  | 95 => fun _ => some 0
  | 96 => fun _ => some 0
  | 97 => fun _ => some 0
  | 98 => fun _ => some 0
  | 99 => fun _ => some 0
  | 100 => fun _ => some 0
  | 101 => fun _ => some 0
  | 102 => fun _ => some 0
  | 103 => fun _ => some 0
  | 104 => fun _ => some 0
  | 105 => fun _ => some 0
  | 106 => fun _ => some 0
  | 120 => fun _ => none
  | _ => fun _ => none
theorem a0D_84 (k : Nat) (h : k ≠ 487) : a0 84 k = some 0 := by
  show ay84 k = _
  unfold ay84
  rw [if_neg (show k ≠ 487 by omega)]
theorem a0D_85 (k : Nat) (h : k ≠ 487) : a0 85 k = some 0 := by
  show ay85 k = _
  unfold ay85
  rw [if_neg (show k ≠ 487 by omega)]
theorem a0D_94 (k : Nat) (h : k ≠ 0 ∧ k ≠ 1 ∧ k ≠ 2) : a0 94 k = some 0 := by
  show ay94 k = _
  unfold ay94
  rw [if_neg (show k ≠ 0 by omega), if_neg (show k ≠ 1 by omega), if_neg (show k ≠ 2 by omega)]
/-! THE TYPED HEAP: every cell of the system has a tag; a world is (addresses, tags, lengths, fixed references); what the cells hold is a function of address and place, in whole numbers -/
abbrev zG : Type := List Nat × (Nat → Nat) × (Nat → Nat) × (Nat → Nat → Nat)
abbrev zS : Type := Nat → Nat → Int
abbrev zE : Type := va_G × (Nat → ClassId) × Nat × (Nat → Nat) × (Nat → Nat)
abbrev zX : Type := Program × Launch × Env × Room × State × MethodId × Array Value × List Frame × Method × Code × (State → Prop)
def gT (Γ : zG) (a : Nat) : Nat := Γ.2.1 a
def gN (Γ : zG) (a : Nat) : Nat := Γ.2.2.1 a
def gP (Γ : zG) (a k : Nat) : Nat := Γ.2.2.2 a k
def zI (n : Int) : Int32 := Int32.ofInt n
def zL (n : Int) : Int64 := Int64.ofInt n
def zQ (n : Int) : Option Nat := if n = 0 then none else some (n.toNat - 1)
def zV (kd r : Nat) (x : Int) : Value := match kd with
  | 0 => .int (zI x)
  | 1 => .long (zL x)
  | 2 => .ref r
  | _ => va_rf (zQ x)
def zC (E : zE) (t n : Nat) (r : Nat → Nat) (f : Nat → Int) : va_E := match tK t with
  | 1 => .inr (tC t, (List.range (tN t)).map (fun k => zV (sK t k) (r k) (f k)))
  | 2 => .inl (E.2.1 2, n, .inl (fun j => zI (f j)))
  | 3 => .inl (E.2.1 3, n, .inr (.inl (fun j => zL (f j))))
  | 4 => .inl (E.2.1 4, n, .inl (fun j => zI (f j)))
  | 5 => .inl (E.2.1 5, n, .inl (fun j => zI (f j)))
  | 6 => .inl (E.2.1 6, n, .inr (.inr (.inr (.inr (fun j => zQ (f j))))))
  | _ => .inl (E.2.1 7, n, .inr (.inr (.inr (.inr (fun j => zQ (f j))))))
def zF (E : zE) (Γ : zG) (σ : zS) (a : Nat) : va_E := zC E (gT Γ a) (gN Γ a) (gP Γ a) (σ a)
def zW (E : zE) (Γ : zG) (σ : zS) : va_W := va_pl Γ.1 (zF E Γ σ)
abbrev zA (E : zE) : Nat → Prop := fun q => E.2.2.1 ≤ q
def zTy (E : zE) : List (ClassId × FieldType) := [(E.2.1 2, .int), (E.2.1 3, .long), (E.2.1 4, .byte), (E.2.1 5, .boolean), (E.2.1 6, .object "SnapHeaps$Plan"), (E.2.1 7, .object "SnapHeaps$Board")]
def zR (E : zE) (Γ : zG) (σ : zS) (H : Heap) : Prop := va_P E.1 vwCl (zW E Γ σ) H ∧ va_D (zA E) (zW E Γ σ)
def zU (σ : zS) (a k : Nat) (v : Int) : zS := fun b => if b = a then (fun j => if j = k then v else σ a j) else σ b
theorem zU_eq (σ : zS) (a k : Nat) (v : Int) : zU σ a k v a k = v := by simp [zU]
theorem zU_ne {σ : zS} {a k b : Nat} {v : Int} (h : b ≠ a) : zU σ a k v b = σ b := by simp [zU, h]
theorem zU_nk {σ : zS} {a k j : Nat} {v : Int} (h : j ≠ k) : zU σ a k v a j = σ a j := by simp [zU, h]
theorem zU_at {σ : zS} {a k b j : Nat} {v : Int} (h : b ≠ a ∨ j ≠ k) : zU σ a k v b j = σ b j := by
  rcases h with h | h
  · rw [zU_ne h]
  · by_cases hb : b = a
    · subst hb; rw [zU_nk h]
    · rw [zU_ne hb]
/-- the tags fit: each tagged address is in the list; fixed references lead to their tags; fixed lengths -/
def zGK (Γ : zG) : Prop := (∀ a, gT Γ a ≠ 0 → a ∈ Γ.1) ∧ (∀ a k t, rq (gT Γ a) k = some t → gT Γ (gP Γ a k) = t) ∧ (∀ a n, lq (gT Γ a) = some n → gN Γ a = n) ∧ (∀ a, gN Γ a ≤ 1000000 ∧ (gT Γ a = 46 → gN Γ a ≤ 150))
/-- what the places may hold -/
def zSK (Γ : zG) (σ : zS) : Prop := (∀ a k q, fq (gT Γ a) k = some q → q.1 ≤ σ a k ∧ σ a k ≤ q.2) ∧ (∀ a k q, k < gN Γ a → aq (gT Γ a) k = some q → q.1 ≤ σ a k ∧ σ a k ≤ q.2) ∧ (∀ a k t, k < gN Γ a → dq (gT Γ a) = some t → σ a k = 0 ∨ (0 < σ a k ∧ gT Γ ((σ a k).toNat - 1) = t))
theorem zf {Γ : zG} {σ : zS} {a k t : Nat} {lo hi : Int} (hS : zSK Γ σ) (ht : gT Γ a = t) (h : fq t k = some (lo, hi)) : lo ≤ σ a k ∧ σ a k ≤ hi := hS.1 a k (lo, hi) (by rw [ht]; exact h)
theorem za {Γ : zG} {σ : zS} {a k t : Nat} {lo hi : Int} (hS : zSK Γ σ) (ht : gT Γ a = t) (h : aq t k = some (lo, hi)) (hk : k < gN Γ a) : lo ≤ σ a k ∧ σ a k ≤ hi := hS.2.1 a k (lo, hi) hk (by rw [ht]; exact h)
theorem zr {Γ : zG} {a k t t2 : Nat} (hG : zGK Γ) (ht : gT Γ a = t) (h : rq t k = some t2) : gT Γ (gP Γ a k) = t2 := hG.2.1 a k t2 (by rw [ht]; exact h)
theorem zn {Γ : zG} {a t n : Nat} (hG : zGK Γ) (ht : gT Γ a = t) (h : lq t = some n) : gN Γ a = n := hG.2.2.1 a n (by rw [ht]; exact h)
theorem zin {Γ : zG} {a t : Nat} (hG : zGK Γ) (ht : gT Γ a = t) (h : t ≠ 0) : a ∈ Γ.1 := hG.1 a (by rw [ht]; exact h)
/-- a store into a field, into an array of numbers -/
theorem zSK_f {Γ : zG} {σ : zS} {a k t : Nat} {v : Int} {q : Int × Int} (hS : zSK Γ σ) (ht : gT Γ a = t) (h1 : aq t k = none) (h2 : dq t = none) (h : fq t k = some q) (hv : q.1 ≤ v ∧ v ≤ q.2) : zSK Γ (zU σ a k v) := by
  refine ⟨fun b j r hr => ?_, fun b j r hj hr => ?_, fun b j r hj hr => ?_⟩
  · by_cases hb : b = a ∧ j = k
    · obtain ⟨rfl, rfl⟩ := hb
      rw [ht, h] at hr; cases hr
      rw [zU_eq]; exact hv
    · rw [zU_at (by omega)]; exact hS.1 b j r hr
  · by_cases hb : b = a ∧ j = k
    · obtain ⟨rfl, rfl⟩ := hb
      rw [ht, h1] at hr; cases hr
    · rw [zU_at (by omega)]; exact hS.2.1 b j r hj hr
  · by_cases hb : b = a
    · subst hb
      rw [ht, h2] at hr; cases hr
    · rw [zU_ne hb]; exact hS.2.2 b j r hj hr
theorem zSK_a {Γ : zG} {σ : zS} {a k t : Nat} {v : Int} {q : Int × Int} (hS : zSK Γ σ) (ht : gT Γ a = t) (h1 : fq t k = none) (h2 : dq t = none) (h : aq t k = some q) (hv : q.1 ≤ v ∧ v ≤ q.2) : zSK Γ (zU σ a k v) := by
  refine ⟨fun b j r hr => ?_, fun b j r hj hr => ?_, fun b j r hj hr => ?_⟩
  · by_cases hb : b = a ∧ j = k
    · obtain ⟨rfl, rfl⟩ := hb
      rw [ht, h1] at hr; cases hr
    · rw [zU_at (by omega)]; exact hS.1 b j r hr
  · by_cases hb : b = a ∧ j = k
    · obtain ⟨rfl, rfl⟩ := hb
      rw [ht, h] at hr; cases hr
      rw [zU_eq]; exact hv
    · rw [zU_at (by omega)]; exact hS.2.1 b j r hj hr
  · by_cases hb : b = a
    · subst hb
      rw [ht, h2] at hr; cases hr
    · rw [zU_ne hb]; exact hS.2.2 b j r hj hr
/-- a store into an array of references -/
theorem zSK_d {Γ : zG} {σ : zS} {a k t t2 : Nat} {v : Int} (hS : zSK Γ σ) (ht : gT Γ a = t) (h1 : ∀ j, fq t j = none) (h2 : ∀ j, aq t j = none) (h : dq t = some t2) (hv : v = 0 ∨ (0 < v ∧ gT Γ (v.toNat - 1) = t2)) : zSK Γ (zU σ a k v) := by
  refine ⟨fun b j r hr => ?_, fun b j r hj hr => ?_, fun b j r hj hr => ?_⟩
  · by_cases hb : b = a
    · subst hb; rw [ht, h1] at hr; cases hr
    · rw [zU_ne hb]; exact hS.1 b j r hr
  · by_cases hb : b = a
    · subst hb; rw [ht, h2] at hr; cases hr
    · rw [zU_ne hb]; exact hS.2.1 b j r hj hr
  · by_cases hb : b = a ∧ j = k
    · obtain ⟨rfl, rfl⟩ := hb
      rw [ht, h] at hr; cases hr
      rw [zU_eq]; exact hv
    · rw [zU_at (by omega)]; exact hS.2.2 b j r hj hr
/-! numbers -/
theorem zI_int {n : Int} (h1 : -2147483648 ≤ n) (h2 : n ≤ 2147483647) : (zI n).toInt = n := Int32.toInt_ofInt_of_le (by omega) (by omega)
theorem zI_add (a b : Int) : zI a + zI b = zI (a + b) := (Int32.ofInt_add a b).symm
theorem zI_sub (a b : Int) : zI a - zI b = zI (a - b) := (Int32.ofInt_sub a b).symm
theorem zI_mul (a b : Int) : zI a * zI b = zI (a * b) := (Int32.ofInt_mul a b).symm
theorem zI_neg (a : Int) : - zI a = zI (-a) := (Int32.ofInt_neg a).symm
theorem zI_self (x : Int32) : zI x.toInt = x := Int32.ofInt_toInt x
theorem zI_rg (x : Int32) : -2147483648 ≤ x.toInt ∧ x.toInt ≤ 2147483647 := by
  have h1 := Int32.le_toInt x
  have h2 := Int32.toInt_lt x
  omega
theorem zI_lt {a b : Int} (ha : -2147483648 ≤ a ∧ a ≤ 2147483647) (hb : -2147483648 ≤ b ∧ b ≤ 2147483647) : zI a < zI b ↔ a < b := by
  rw [Int32.lt_iff_toInt_lt, zI_int ha.1 ha.2, zI_int hb.1 hb.2]
theorem zI_le {a b : Int} (ha : -2147483648 ≤ a ∧ a ≤ 2147483647) (hb : -2147483648 ≤ b ∧ b ≤ 2147483647) : zI a ≤ zI b ↔ a ≤ b := by
  rw [Int32.le_iff_toInt_le, zI_int ha.1 ha.2, zI_int hb.1 hb.2]
theorem zI_eq {a b : Int} (ha : -2147483648 ≤ a ∧ a ≤ 2147483647) (hb : -2147483648 ≤ b ∧ b ≤ 2147483647) : zI a = zI b ↔ a = b := by
  rw [← Int32.toInt_inj, zI_int ha.1 ha.2, zI_int hb.1 hb.2]
theorem zI_0 : zI 0 = 0 := rfl
theorem zI_nat {i : Int} (h0 : 0 ≤ i) (h1 : i ≤ 2147483647) : (zI i).toNatClampNeg = i.toNat := Int32.toNatClampNeg_ofInt_of_le (by omega) (by omega)
theorem zI_in {i : Int} {n : Nat} (h0 : 0 ≤ i) (h1 : i < n) (hn : n ≤ 1000000) : vp_in (zI i) n := by
  rw [vp_in_iff, zI_int (by omega) (by omega)]
  exact ⟨h0, h1⟩
theorem zL_int {n : Int} (h1 : -9223372036854775808 ≤ n) (h2 : n ≤ 9223372036854775807) : (zL n).toInt = n := Int64.toInt_ofInt_of_le (by omega) (by omega)
theorem zL_self (x : Int64) : zL x.toInt = x := Int64.ofInt_toInt x
theorem zL_rg (x : Int64) : -9223372036854775808 ≤ x.toInt ∧ x.toInt ≤ 9223372036854775807 := by
  have h1 := Int64.le_toInt x
  have h2 := Int64.toInt_lt x
  omega
/-! what lies outside the world: the classes, nest mates' links, some more words, two texts, two statics of Throwable -/
def isMore : Cond → Bool
  | .declares _ => true
  | .castable _ _ => true
  | _ => false
def tblM : List Cond := lw_tbl.filter isMore
theorem tblM_is : ∀ w ∈ tblM, isMore w = true := fun w h => (List.mem_filter.mp h).2
/-! the texts (written by a program): tN of them, tK constants that name them -/
def txN : Nat := 18
def tK9 : Nat := 38
def tLen : List Nat := [6, 6, 3, 4, 4, 5, 3, 4, 3, 5, 4, 4, 3, 4, 4, 4, 3, 2]
def tByt : List (List Int32) := [[112, 108, 97, 121, 101, 114], [109, 111, 109, 101, 110, 116], [114, 111, 119], [112, 97, 99, 101], [111, 112, 101, 110], [102, 97, 108, 115, 101], [116, 105, 101], [112, 111, 111, 108], [110, 111, 116], [97, 108, 105, 107, 101], [109, 105, 110, 101], [107, 110, 111, 119], [116, 111, 112], [110, 101, 97, 114], [104, 101, 97, 112], [116, 117, 114, 110], [97, 110, 100], [111, 114]]
def tOwn : Nat → String := fun i => match i with
  | 0 => RX8
  | 1 => RX8
  | 2 => RX8
  | 3 => RX8
  | 4 => RX8
  | 5 => RX8
  | 6 => RX8
  | 7 => RX8
  | 8 => RX7
  | 9 => RX7
  | 10 => RX7
  | 11 => RX7
  | 12 => RX7
  | 13 => RX7
  | 14 => RX7
  | 15 => RX7
  | 16 => RX7
  | 17 => RX7
  | 18 => RX7
  | 19 => RX7
  | 20 => RX12
  | 21 => RX12
  | 22 => RX12
  | 23 => RX12
  | 24 => RX12
  | 25 => RX12
  | 26 => RX12
  | 27 => RX12
  | 28 => RX12
  | 29 => RX12
  | 30 => RX12
  | 31 => RX12
  | 32 => RX12
  | 33 => RX12
  | 34 => RX12
  | 35 => RX12
  | 36 => RX12
  | 37 => RX12
  | _ => ""
def tIdx : Nat → Nat := fun i => match i with
  | 0 => 73
  | 1 => 87
  | 2 => 92
  | 3 => 97
  | 4 => 106
  | 5 => 127
  | 6 => 129
  | 7 => 131
  | 8 => 78
  | 9 => 84
  | 10 => 86
  | 11 => 88
  | 12 => 90
  | 13 => 95
  | 14 => 97
  | 15 => 103
  | 16 => 105
  | 17 => 107
  | 18 => 61
  | 19 => 48
  | 20 => 213
  | 21 => 223
  | 22 => 229
  | 23 => 234
  | 24 => 236
  | 25 => 238
  | 26 => 230
  | 27 => 232
  | 28 => 292
  | 29 => 294
  | 30 => 296
  | 31 => 298
  | 32 => 300
  | 33 => 302
  | 34 => 304
  | 35 => 306
  | 36 => 284
  | 37 => 275
  | _ => 0
def tTxt : Nat → String := fun i => match i with
  | 0 => "player"
  | 1 => "moment"
  | 2 => "row"
  | 3 => "pace"
  | 4 => "open"
  | 5 => "false"
  | 6 => "tie"
  | 7 => "pool"
  | 8 => "not"
  | 9 => "alike"
  | 10 => "mine"
  | 11 => "know"
  | 12 => "top"
  | 13 => "near"
  | 14 => "heap"
  | 15 => "row"
  | 16 => "pool"
  | 17 => "turn"
  | 18 => "and"
  | 19 => "or"
  | 20 => "player"
  | 21 => "row"
  | 22 => "pace"
  | 23 => "false"
  | 24 => "tie"
  | 25 => "pool"
  | 26 => "open"
  | 27 => "moment"
  | 28 => "not"
  | 29 => "alike"
  | 30 => "mine"
  | 31 => "top"
  | 32 => "near"
  | 33 => "know"
  | 34 => "heap"
  | 35 => "turn"
  | 36 => "and"
  | 37 => "or"
  | _ => ""
def tMap : Nat → Nat := fun i => match i with
  | 0 => 0
  | 1 => 1
  | 2 => 2
  | 3 => 3
  | 4 => 4
  | 5 => 5
  | 6 => 6
  | 7 => 7
  | 8 => 8
  | 9 => 9
  | 10 => 10
  | 11 => 11
  | 12 => 12
  | 13 => 13
  | 14 => 14
  | 15 => 2
  | 16 => 7
  | 17 => 15
  | 18 => 16
  | 19 => 17
  | 20 => 0
  | 21 => 2
  | 22 => 3
  | 23 => 5
  | 24 => 6
  | 25 => 7
  | 26 => 4
  | 27 => 1
  | 28 => 8
  | 29 => 9
  | 30 => 10
  | 31 => 12
  | 32 => 13
  | 33 => 11
  | 34 => 14
  | 35 => 15
  | 36 => 16
  | 37 => 17
  | _ => 0
def zTx (E : zE) (U : State) (H : Heap) : Prop := vk_S txN tLen tByt E.2.2.2.1 E.2.2.2.2 (zA E) U H ∧ (∀ i, i < tK9 → vk_R (tOwn i) (tIdx i) (tTxt i) (E.2.2.2.1 (tMap i)) U) ∧ va_Z "java/lang/String" "COMPACT_STRINGS" "Z" (.int 1) (zA E) U H ∧ va_Zq "jdk/internal/util/Preconditions" "SIOOBE_FORMATTER" "Ljava/util/function/BiFunction;" (zA E) U H
theorem zTx_go {E : zE} {s U : State} {H : Heap} {locs : List Loc} (h : zTx E s s.heap) (hW : s.WarmedH U.vm) (hS : va_S (zA E) s.heap H locs) : zTx E U H := ⟨(h.1.moved hW.alike).kept hS.2.1, fun i hi => (h.2.1 i hi).warm hW, (va_Z.moved hW.alike h.2.2.1).kept hS.2.1, (va_Zq.moved hW.alike h.2.2.2).kept hS.2.1⟩
theorem zTx_blind {E : zE} {U V : State} (hv : V.vm = U.vm) {H : Heap} (h : zTx E U H) : zTx E V H := by
  have ha : U.vm.Alike V.vm := by rw [hv]; exact Vm.Alike.refl _
  exact ⟨h.1.moved ha, fun i hi => (h.2.1 i hi).same hv, va_Z.moved ha h.2.2.1, va_Zq.moved ha h.2.2.2⟩
def zO (E : zE) (U : State) (H : Heap) : Prop := va_K E.1 vwCl (zTy E) U ∧ (∀ w ∈ tblN, va_Nw w U) ∧ (vk_R RX11 351 "a number out of its range" (E.2.2.2.1 100) U ∧ zTx E U H) ∧ vk_R RX11 344 "no such player" (E.2.2.2.1 101) U ∧ vx_Zq Bundle.tN "UNASSIGNED_STACK" Bundle.steD (zA E) U H ∧ vx_Zq Bundle.tN "SUPPRESSED_SENTINEL" Bundle.listD (zA E) U H ∧ (∀ w ∈ tblM, va_Nw w U) ∧ va_AO "SnapHeaps$Plan" U ∧ va_AO "SnapHeaps$Board" U ∧ va_Nc "java/lang/IllegalArgumentException" "java/util/NoSuchElementException" U
theorem zNest_warm {w : Cond} (h : isNest w = true) {s U : State} (hW : s.WarmedH U.vm) (hZ : va_Nw w s) : va_Nw w U := by
  cases w <;> first | exact hZ.warmF hW | exact hZ.warmM hW | exact absurd h Bool.false_ne_true
theorem zNest_same {w : Cond} (h : isNest w = true) {U V : State} (hv : V.vm = U.vm) (hZ : va_Nw w U) : va_Nw w V := by
  cases w <;> first | exact va_Nw.same rfl hv.symm hZ | exact absurd h Bool.false_ne_true
theorem zMore_warm {w : Cond} (h : isMore w = true) {s U : State} (hW : s.WarmedH U.vm) (hZ : va_Nw w s) : va_Nw w U := by
  cases w <;> first | exact hZ.warmD hW | exact hZ.warmC hW | exact absurd h Bool.false_ne_true
theorem zMore_same {w : Cond} (h : isMore w = true) {U V : State} (hv : V.vm = U.vm) (hZ : va_Nw w U) : va_Nw w V := by
  cases w <;> first | exact va_Nw.same rfl hv.symm hZ | exact absurd h Bool.false_ne_true
theorem zMore_use {w : Cond} (h : isMore w = true) {A : Array Value} {U : State} (hZ : va_Nw w U) : w.before A U = true := by
  cases w <;> first | exact va_Nw.use rfl hZ | exact absurd h Bool.false_ne_true
theorem zO_go {E : zE} {s U : State} {H : Heap} {locs : List Loc} (h : zO E s s.heap) (hW : s.WarmedH U.vm) (hS : va_S (zA E) s.heap H locs) : zO E U H := by
  obtain ⟨h1, h0, h2, h3, h4, h5, h6, h7, h8, h9⟩ := h
  exact ⟨va_K.moved hW.alike h1, fun w hw => zNest_warm (tblN_is w hw) hW (h0 w hw), ⟨h2.1.warm hW, zTx_go h2.2 hW hS⟩, h3.warm hW, (h4.moved hW.alike).kept hS.2.1, (h5.moved hW.alike).kept hS.2.1, fun w hw => zMore_warm (tblM_is w hw) hW (h6 w hw), h7.moved hW.alike, h8.moved hW.alike, h9.moved hW.alike⟩
theorem zO_blind {E : zE} {U V : State} (hv : V.vm = U.vm) {H : Heap} (h : zO E U H) : zO E V H := by
  obtain ⟨h1, h0, h2, h3, h4, h5, h6, h7, h8, h9⟩ := h
  have ha : U.vm.Alike V.vm := by rw [hv]; exact Vm.Alike.refl _
  exact ⟨va_K.moved ha h1, fun w hw => zNest_same (tblN_is w hw) hv (h0 w hw), ⟨h2.1.same hv, zTx_blind hv h2.2⟩, h3.same hv, h4.moved ha, h5.moved ha, fun w hw => zMore_same (tblM_is w hw) hv (h6 w hw), h7.moved ha, h8.moved ha, h9.moved ha⟩
/-! a new object's cells -/
def zS0 (Γ : zG) (σ : zS) : Prop := (∀ a k v, f0 (gT Γ a) k = some v → σ a k = v) ∧ (∀ a k v, k < gN Γ a → a0 (gT Γ a) k = some v → σ a k = v)
theorem z0f {Γ : zG} {σ : zS} {a k t : Nat} {v : Int} (hS : zS0 Γ σ) (ht : gT Γ a = t) (h : f0 t k = some v) : σ a k = v := hS.1 a k v (by rw [ht]; exact h)
theorem z0a {Γ : zG} {σ : zS} {a t j : Nat} {v i m : Int} (hS : zS0 Γ σ) (ht : gT Γ a = t) (h : a0 t j = some v) (hm : (gN Γ a : Int) = m) (h0 : 0 ≤ i) (h1 : i < m) (hj : i.toNat = j) : σ a j = v := hS.2 a j v (by omega) (by rw [ht]; exact h)
abbrev isM (t : Nat) : Prop := t = 13 ∨ (70 < t ∧ t < 120)
def zS0m (Γ : zG) (σ : zS) : Prop := (∀ a k v, isM (gT Γ a) → f0 (gT Γ a) k = some v → σ a k = v) ∧ (∀ a k v, isM (gT Γ a) → k < gN Γ a → a0 (gT Γ a) k = some v → σ a k = v)
theorem z0fm {Γ : zG} {σ : zS} {a k t : Nat} {v : Int} (hS : zS0m Γ σ) (ht : gT Γ a = t) (hm : isM t) (h : f0 t k = some v) : σ a k = v := hS.1 a k v (by rw [ht]; exact hm) (by rw [ht]; exact h)
theorem z0am {Γ : zG} {σ : zS} {a t j : Nat} {v i m : Int} (hS : zS0m Γ σ) (ht : gT Γ a = t) (hM : isM t) (h : a0 t j = some v) (hm : (gN Γ a : Int) = m) (h0 : 0 ≤ i) (h1 : i < m) (hj : i.toNat = j) : σ a j = v := hS.2 a j v (by rw [ht]; exact hM) (by omega) (by rw [ht]; exact h)
