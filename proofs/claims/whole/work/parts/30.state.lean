/-! THE STATE: 86 cells, made of four families by places: ints, longs, fields of int, fields of long -/
def mk (ai : Nat → Nat → Int32) (al : Nat → Nat → Int64) (fi : Nat → Nat → Int32) (fl : Nat → Nat → Int64) : xSt := [
  .inr (6, [.ref 1, .ref 9, .ref 15, .ref 26, .ref 42, .ref 50, .ref 54, .int (fi 0 7), .int (fi 0 8), .long (fl 0 9), .long (fl 0 10)]),
  .inr (5, [.ref 2, .ref 7, .ref 8]),
  .inl (4, 4, .inr (.inr (.inr (.inr fun j => if j < 4 then some (3 + j) else none)))),
  .inl (1, 40, .inr (.inl (al 3))),
  .inl (1, 40, .inr (.inl (al 4))),
  .inl (1, 40, .inr (.inl (al 5))),
  .inl (1, 40, .inr (.inl (al 6))),
  .inl (0, 4, .inl (ai 7)),
  .inl (0, 4, .inl (ai 8)),
  .inr (4, [.ref 10, .ref 11, .ref 12, .ref 13, .ref 14, .int (fi 9 5)]),
  .inl (0, 60, .inl (ai 10)),
  .inl (0, 60, .inl (ai 11)),
  .inl (0, 60, .inl (ai 12)),
  .inl (0, 60, .inl (ai 13)),
  .inl (0, 60, .inl (ai 14)),
  .inr (2, [.ref 16, .ref 23, .ref 24, .ref 25, .int (fi 15 4), .int (fi 15 5)]),
  .inl (3, 6, .inr (.inr (.inr (.inr fun j => if j < 6 then some (17 + j) else none)))),
  .inl (0, 6, .inl (ai 17)),
  .inl (0, 6, .inl (ai 18)),
  .inl (0, 6, .inl (ai 19)),
  .inl (0, 6, .inl (ai 20)),
  .inl (0, 6, .inl (ai 21)),
  .inl (0, 6, .inl (ai 22)),
  .inl (0, 64, .inl (ai 23)),
  .inl (0, 6, .inl (ai 24)),
  .inl (0, 6, .inl (ai 25)),
  .inr (0, [.ref 27, .ref 38, .ref 39, .ref 40, .ref 41, .int (fi 26 5)]),
  .inl (3, 10, .inr (.inr (.inr (.inr fun j => if j < 10 then some (28 + j) else none)))),
  .inl (0, 24, .inl (ai 28)),
  .inl (0, 24, .inl (ai 29)),
  .inl (0, 24, .inl (ai 30)),
  .inl (0, 24, .inl (ai 31)),
  .inl (0, 24, .inl (ai 32)),
  .inl (0, 24, .inl (ai 33)),
  .inl (0, 24, .inl (ai 34)),
  .inl (0, 24, .inl (ai 35)),
  .inl (0, 24, .inl (ai 36)),
  .inl (0, 24, .inl (ai 37)),
  .inl (0, 24, .inl (ai 38)),
  .inl (0, 24, .inl (ai 39)),
  .inl (0, 24, .inl (ai 40)),
  .inl (0, 24, .inl (ai 41)),
  .inr (1, [.ref 43, .ref 44, .ref 45, .ref 46, .ref 47, .ref 48, .ref 49, .int (fi 42 7), .int (fi 42 8), .int (fi 42 9), .int (fi 42 10)]),
  .inl (1, 10, .inr (.inl (al 43))),
  .inl (1, 10, .inr (.inl (al 44))),
  .inl (0, 10, .inl (ai 45)),
  .inl (0, 1024, .inl (ai 46)),
  .inl (0, 10, .inl (ai 47)),
  .inl (0, 10, .inl (ai 48)),
  .inl (1, 10, .inr (.inl (al 49))),
  .inr (3, [.ref 51, .ref 52, .ref 53]),
  .inl (1, 40, .inr (.inl (al 51))),
  .inl (1, 40, .inr (.inl (al 52))),
  .inl (1, 40, .inr (.inl (al 53))),
  .inl (0, 10, .inl (ai 54)),
  .inr (7, [.int (fi 55 0), .int (fi 55 1), .long (fl 55 2), .long (fl 55 3), .ref 56, .ref 57, .ref 58, .int (fi 55 7), .int (fi 55 8), .ref 59, .ref 60, .ref 61, .ref 62, .ref 63, .ref 64, .int (fi 55 15), .int (fi 55 16), .ref 65, .ref 66, .ref 67, .ref 68, .int (fi 55 21), .ref 69, .ref 70, .ref 71, .ref 72, .int (fi 55 26), .ref 73, .ref 74, .ref 75, .ref 76, .ref 77, .ref 78, .ref 79, .ref 80, .ref 81, .int (fi 55 36), .ref 82, .ref 83, .ref 84, .ref 85]),
  .inl (0, 4, .inl (ai 56)),
  .inl (0, 4, .inl (ai 57)),
  .inl (1, 160, .inr (.inl (al 58))),
  .inl (0, 60, .inl (ai 59)),
  .inl (0, 60, .inl (ai 60)),
  .inl (0, 60, .inl (ai 61)),
  .inl (0, 60, .inl (ai 62)),
  .inl (0, 60, .inl (ai 63)),
  .inl (2, 10000, .inl (ai 64)),
  .inl (0, 36, .inl (ai 65)),
  .inl (0, 6, .inl (ai 66)),
  .inl (0, 6, .inl (ai 67)),
  .inl (1, 36, .inr (.inl (al 68))),
  .inl (0, 240, .inl (ai 69)),
  .inl (0, 24, .inl (ai 70)),
  .inl (0, 25, .inl (ai 71)),
  .inl (2, 275, .inl (ai 72)),
  .inl (0, 200, .inl (ai 73)),
  .inl (0, 200, .inl (ai 74)),
  .inl (0, 200, .inl (ai 75)),
  .inl (1, 10, .inr (.inl (al 76))),
  .inl (1, 1024, .inr (.inl (al 77))),
  .inl (0, 1024, .inl (ai 78)),
  .inl (0, 10, .inl (ai 79)),
  .inl (0, 10, .inl (ai 80)),
  .inl (1, 10, .inr (.inl (al 81))),
  .inl (0, 10, .inl (ai 82)),
  .inl (1, 40, .inr (.inl (al 83))),
  .inl (1, 40, .inr (.inl (al 84))),
  .inl (1, 40, .inr (.inl (al 85)))]
section MK
variable {ai : Nat → Nat → Int32} {al : Nat → Nat → Int64} {fi : Nat → Nat → Int32} {fl : Nat → Nat → Int64}
theorem mk_len : (mk ai al fi fl).length = 86 := rfl
theorem fd_0_0 : xFd (mk ai al fi fl) 0 6 0 = some (.ref 1) := rfl
theorem fd_0_1 : xFd (mk ai al fi fl) 0 6 1 = some (.ref 9) := rfl
theorem fd_0_2 : xFd (mk ai al fi fl) 0 6 2 = some (.ref 15) := rfl
theorem fd_0_3 : xFd (mk ai al fi fl) 0 6 3 = some (.ref 26) := rfl
theorem fd_0_4 : xFd (mk ai al fi fl) 0 6 4 = some (.ref 42) := rfl
theorem fd_0_5 : xFd (mk ai al fi fl) 0 6 5 = some (.ref 50) := rfl
theorem fd_0_6 : xFd (mk ai al fi fl) 0 6 6 = some (.ref 54) := rfl
theorem fd_0_7 : xFd (mk ai al fi fl) 0 6 7 = some (.int (fi 0 7)) := rfl
theorem pf_0_7 {i : Nat} {v : Int32} : xPf i (mk ai al fi fl) 0 6 7 (.int v) = some (mk ai al (va_up fi 0 (va_up (fi 0) 7 v)) fl) := rfl
theorem fd_0_8 : xFd (mk ai al fi fl) 0 6 8 = some (.int (fi 0 8)) := rfl
theorem pf_0_8 {i : Nat} {v : Int32} : xPf i (mk ai al fi fl) 0 6 8 (.int v) = some (mk ai al (va_up fi 0 (va_up (fi 0) 8 v)) fl) := rfl
theorem fd_0_9 : xFd (mk ai al fi fl) 0 6 9 = some (.long (fl 0 9)) := rfl
theorem pf_0_9 {i : Nat} {v : Int64} : xPf i (mk ai al fi fl) 0 6 9 (.long v) = some (mk ai al fi (va_up fl 0 (va_up (fl 0) 9 v))) := rfl
theorem fd_0_10 : xFd (mk ai al fi fl) 0 6 10 = some (.long (fl 0 10)) := rfl
theorem pf_0_10 {i : Nat} {v : Int64} : xPf i (mk ai al fi fl) 0 6 10 (.long v) = some (mk ai al fi (va_up fl 0 (va_up (fl 0) 10 v))) := rfl
theorem fd_1_0 : xFd (mk ai al fi fl) 1 5 0 = some (.ref 2) := rfl
theorem fd_1_1 : xFd (mk ai al fi fl) 1 5 1 = some (.ref 7) := rfl
theorem fd_1_2 : xFd (mk ai al fi fl) 1 5 2 = some (.ref 8) := rfl
theorem aq_2 : xAq (mk ai al fi fl) 2 = some (4, fun j => if j < 4 then some (3 + j) else none) := rfl
theorem row2_get {j : Nat} (hj : j < 4) : xAl (mk ai al fi fl) (3 + j) = some (40, al (3 + j)) := by
  match j, hj with
  | 0, _ => rfl
  | 1, _ => rfl
  | 2, _ => rfl
  | 3, _ => rfl
theorem ar_3 : xAl (mk ai al fi fl) 3 = some (40, al 3) := rfl
theorem as_3 {f : Nat → Int64} : List.set (mk ai al fi fl) 3 (.inl (1, 40, .inr (.inl f))) = (mk ai (va_up al 3 f) fi fl) := rfl
theorem ar_4 : xAl (mk ai al fi fl) 4 = some (40, al 4) := rfl
theorem as_4 {f : Nat → Int64} : List.set (mk ai al fi fl) 4 (.inl (1, 40, .inr (.inl f))) = (mk ai (va_up al 4 f) fi fl) := rfl
theorem ar_5 : xAl (mk ai al fi fl) 5 = some (40, al 5) := rfl
theorem as_5 {f : Nat → Int64} : List.set (mk ai al fi fl) 5 (.inl (1, 40, .inr (.inl f))) = (mk ai (va_up al 5 f) fi fl) := rfl
theorem ar_6 : xAl (mk ai al fi fl) 6 = some (40, al 6) := rfl
theorem as_6 {f : Nat → Int64} : List.set (mk ai al fi fl) 6 (.inl (1, 40, .inr (.inl f))) = (mk ai (va_up al 6 f) fi fl) := rfl
theorem ar_7 : xAi (mk ai al fi fl) 7 = some (4, ai 7) := rfl
theorem as_7 {f : Nat → Int32} : List.set (mk ai al fi fl) 7 (.inl (0, 4, .inl f)) = (mk (va_up ai 7 f) al fi fl) := rfl
theorem ar_8 : xAi (mk ai al fi fl) 8 = some (4, ai 8) := rfl
theorem as_8 {f : Nat → Int32} : List.set (mk ai al fi fl) 8 (.inl (0, 4, .inl f)) = (mk (va_up ai 8 f) al fi fl) := rfl
theorem fd_9_0 : xFd (mk ai al fi fl) 9 4 0 = some (.ref 10) := rfl
theorem fd_9_1 : xFd (mk ai al fi fl) 9 4 1 = some (.ref 11) := rfl
theorem fd_9_2 : xFd (mk ai al fi fl) 9 4 2 = some (.ref 12) := rfl
theorem fd_9_3 : xFd (mk ai al fi fl) 9 4 3 = some (.ref 13) := rfl
theorem fd_9_4 : xFd (mk ai al fi fl) 9 4 4 = some (.ref 14) := rfl
theorem fd_9_5 : xFd (mk ai al fi fl) 9 4 5 = some (.int (fi 9 5)) := rfl
theorem pf_9_5 {i : Nat} {v : Int32} : xPf i (mk ai al fi fl) 9 4 5 (.int v) = some (mk ai al (va_up fi 9 (va_up (fi 9) 5 v)) fl) := rfl
theorem ar_10 : xAi (mk ai al fi fl) 10 = some (60, ai 10) := rfl
theorem as_10 {f : Nat → Int32} : List.set (mk ai al fi fl) 10 (.inl (0, 60, .inl f)) = (mk (va_up ai 10 f) al fi fl) := rfl
theorem ar_11 : xAi (mk ai al fi fl) 11 = some (60, ai 11) := rfl
theorem as_11 {f : Nat → Int32} : List.set (mk ai al fi fl) 11 (.inl (0, 60, .inl f)) = (mk (va_up ai 11 f) al fi fl) := rfl
theorem ar_12 : xAi (mk ai al fi fl) 12 = some (60, ai 12) := rfl
theorem as_12 {f : Nat → Int32} : List.set (mk ai al fi fl) 12 (.inl (0, 60, .inl f)) = (mk (va_up ai 12 f) al fi fl) := rfl
theorem ar_13 : xAi (mk ai al fi fl) 13 = some (60, ai 13) := rfl
theorem as_13 {f : Nat → Int32} : List.set (mk ai al fi fl) 13 (.inl (0, 60, .inl f)) = (mk (va_up ai 13 f) al fi fl) := rfl
theorem ar_14 : xAi (mk ai al fi fl) 14 = some (60, ai 14) := rfl
theorem as_14 {f : Nat → Int32} : List.set (mk ai al fi fl) 14 (.inl (0, 60, .inl f)) = (mk (va_up ai 14 f) al fi fl) := rfl
theorem fd_15_0 : xFd (mk ai al fi fl) 15 2 0 = some (.ref 16) := rfl
theorem fd_15_1 : xFd (mk ai al fi fl) 15 2 1 = some (.ref 23) := rfl
theorem fd_15_2 : xFd (mk ai al fi fl) 15 2 2 = some (.ref 24) := rfl
theorem fd_15_3 : xFd (mk ai al fi fl) 15 2 3 = some (.ref 25) := rfl
theorem fd_15_4 : xFd (mk ai al fi fl) 15 2 4 = some (.int (fi 15 4)) := rfl
theorem pf_15_4 {i : Nat} {v : Int32} : xPf i (mk ai al fi fl) 15 2 4 (.int v) = some (mk ai al (va_up fi 15 (va_up (fi 15) 4 v)) fl) := rfl
theorem fd_15_5 : xFd (mk ai al fi fl) 15 2 5 = some (.int (fi 15 5)) := rfl
theorem pf_15_5 {i : Nat} {v : Int32} : xPf i (mk ai al fi fl) 15 2 5 (.int v) = some (mk ai al (va_up fi 15 (va_up (fi 15) 5 v)) fl) := rfl
theorem aq_16 : xAq (mk ai al fi fl) 16 = some (6, fun j => if j < 6 then some (17 + j) else none) := rfl
theorem row16_get {j : Nat} (hj : j < 6) : xAi (mk ai al fi fl) (17 + j) = some (6, ai (17 + j)) := by
  match j, hj with
  | 0, _ => rfl
  | 1, _ => rfl
  | 2, _ => rfl
  | 3, _ => rfl
  | 4, _ => rfl
  | 5, _ => rfl
theorem ar_17 : xAi (mk ai al fi fl) 17 = some (6, ai 17) := rfl
theorem as_17 {f : Nat → Int32} : List.set (mk ai al fi fl) 17 (.inl (0, 6, .inl f)) = (mk (va_up ai 17 f) al fi fl) := rfl
theorem ar_18 : xAi (mk ai al fi fl) 18 = some (6, ai 18) := rfl
theorem as_18 {f : Nat → Int32} : List.set (mk ai al fi fl) 18 (.inl (0, 6, .inl f)) = (mk (va_up ai 18 f) al fi fl) := rfl
theorem ar_19 : xAi (mk ai al fi fl) 19 = some (6, ai 19) := rfl
theorem as_19 {f : Nat → Int32} : List.set (mk ai al fi fl) 19 (.inl (0, 6, .inl f)) = (mk (va_up ai 19 f) al fi fl) := rfl
theorem ar_20 : xAi (mk ai al fi fl) 20 = some (6, ai 20) := rfl
theorem as_20 {f : Nat → Int32} : List.set (mk ai al fi fl) 20 (.inl (0, 6, .inl f)) = (mk (va_up ai 20 f) al fi fl) := rfl
theorem ar_21 : xAi (mk ai al fi fl) 21 = some (6, ai 21) := rfl
theorem as_21 {f : Nat → Int32} : List.set (mk ai al fi fl) 21 (.inl (0, 6, .inl f)) = (mk (va_up ai 21 f) al fi fl) := rfl
theorem ar_22 : xAi (mk ai al fi fl) 22 = some (6, ai 22) := rfl
theorem as_22 {f : Nat → Int32} : List.set (mk ai al fi fl) 22 (.inl (0, 6, .inl f)) = (mk (va_up ai 22 f) al fi fl) := rfl
theorem ar_23 : xAi (mk ai al fi fl) 23 = some (64, ai 23) := rfl
theorem as_23 {f : Nat → Int32} : List.set (mk ai al fi fl) 23 (.inl (0, 64, .inl f)) = (mk (va_up ai 23 f) al fi fl) := rfl
theorem ar_24 : xAi (mk ai al fi fl) 24 = some (6, ai 24) := rfl
theorem as_24 {f : Nat → Int32} : List.set (mk ai al fi fl) 24 (.inl (0, 6, .inl f)) = (mk (va_up ai 24 f) al fi fl) := rfl
theorem ar_25 : xAi (mk ai al fi fl) 25 = some (6, ai 25) := rfl
theorem as_25 {f : Nat → Int32} : List.set (mk ai al fi fl) 25 (.inl (0, 6, .inl f)) = (mk (va_up ai 25 f) al fi fl) := rfl
theorem fd_26_0 : xFd (mk ai al fi fl) 26 0 0 = some (.ref 27) := rfl
theorem fd_26_1 : xFd (mk ai al fi fl) 26 0 1 = some (.ref 38) := rfl
theorem fd_26_2 : xFd (mk ai al fi fl) 26 0 2 = some (.ref 39) := rfl
theorem fd_26_3 : xFd (mk ai al fi fl) 26 0 3 = some (.ref 40) := rfl
theorem fd_26_4 : xFd (mk ai al fi fl) 26 0 4 = some (.ref 41) := rfl
theorem fd_26_5 : xFd (mk ai al fi fl) 26 0 5 = some (.int (fi 26 5)) := rfl
theorem pf_26_5 {i : Nat} {v : Int32} : xPf i (mk ai al fi fl) 26 0 5 (.int v) = some (mk ai al (va_up fi 26 (va_up (fi 26) 5 v)) fl) := rfl
theorem aq_27 : xAq (mk ai al fi fl) 27 = some (10, fun j => if j < 10 then some (28 + j) else none) := rfl
theorem row27_get {j : Nat} (hj : j < 10) : xAi (mk ai al fi fl) (28 + j) = some (24, ai (28 + j)) := by
  match j, hj with
  | 0, _ => rfl
  | 1, _ => rfl
  | 2, _ => rfl
  | 3, _ => rfl
  | 4, _ => rfl
  | 5, _ => rfl
  | 6, _ => rfl
  | 7, _ => rfl
  | 8, _ => rfl
  | 9, _ => rfl
theorem ar_28 : xAi (mk ai al fi fl) 28 = some (24, ai 28) := rfl
theorem as_28 {f : Nat → Int32} : List.set (mk ai al fi fl) 28 (.inl (0, 24, .inl f)) = (mk (va_up ai 28 f) al fi fl) := rfl
theorem ar_29 : xAi (mk ai al fi fl) 29 = some (24, ai 29) := rfl
theorem as_29 {f : Nat → Int32} : List.set (mk ai al fi fl) 29 (.inl (0, 24, .inl f)) = (mk (va_up ai 29 f) al fi fl) := rfl
theorem ar_30 : xAi (mk ai al fi fl) 30 = some (24, ai 30) := rfl
theorem as_30 {f : Nat → Int32} : List.set (mk ai al fi fl) 30 (.inl (0, 24, .inl f)) = (mk (va_up ai 30 f) al fi fl) := rfl
theorem ar_31 : xAi (mk ai al fi fl) 31 = some (24, ai 31) := rfl
theorem as_31 {f : Nat → Int32} : List.set (mk ai al fi fl) 31 (.inl (0, 24, .inl f)) = (mk (va_up ai 31 f) al fi fl) := rfl
theorem ar_32 : xAi (mk ai al fi fl) 32 = some (24, ai 32) := rfl
theorem as_32 {f : Nat → Int32} : List.set (mk ai al fi fl) 32 (.inl (0, 24, .inl f)) = (mk (va_up ai 32 f) al fi fl) := rfl
theorem ar_33 : xAi (mk ai al fi fl) 33 = some (24, ai 33) := rfl
theorem as_33 {f : Nat → Int32} : List.set (mk ai al fi fl) 33 (.inl (0, 24, .inl f)) = (mk (va_up ai 33 f) al fi fl) := rfl
theorem ar_34 : xAi (mk ai al fi fl) 34 = some (24, ai 34) := rfl
theorem as_34 {f : Nat → Int32} : List.set (mk ai al fi fl) 34 (.inl (0, 24, .inl f)) = (mk (va_up ai 34 f) al fi fl) := rfl
theorem ar_35 : xAi (mk ai al fi fl) 35 = some (24, ai 35) := rfl
theorem as_35 {f : Nat → Int32} : List.set (mk ai al fi fl) 35 (.inl (0, 24, .inl f)) = (mk (va_up ai 35 f) al fi fl) := rfl
theorem ar_36 : xAi (mk ai al fi fl) 36 = some (24, ai 36) := rfl
theorem as_36 {f : Nat → Int32} : List.set (mk ai al fi fl) 36 (.inl (0, 24, .inl f)) = (mk (va_up ai 36 f) al fi fl) := rfl
theorem ar_37 : xAi (mk ai al fi fl) 37 = some (24, ai 37) := rfl
theorem as_37 {f : Nat → Int32} : List.set (mk ai al fi fl) 37 (.inl (0, 24, .inl f)) = (mk (va_up ai 37 f) al fi fl) := rfl
theorem ar_38 : xAi (mk ai al fi fl) 38 = some (24, ai 38) := rfl
theorem as_38 {f : Nat → Int32} : List.set (mk ai al fi fl) 38 (.inl (0, 24, .inl f)) = (mk (va_up ai 38 f) al fi fl) := rfl
theorem ar_39 : xAi (mk ai al fi fl) 39 = some (24, ai 39) := rfl
theorem as_39 {f : Nat → Int32} : List.set (mk ai al fi fl) 39 (.inl (0, 24, .inl f)) = (mk (va_up ai 39 f) al fi fl) := rfl
theorem ar_40 : xAi (mk ai al fi fl) 40 = some (24, ai 40) := rfl
theorem as_40 {f : Nat → Int32} : List.set (mk ai al fi fl) 40 (.inl (0, 24, .inl f)) = (mk (va_up ai 40 f) al fi fl) := rfl
theorem ar_41 : xAi (mk ai al fi fl) 41 = some (24, ai 41) := rfl
theorem as_41 {f : Nat → Int32} : List.set (mk ai al fi fl) 41 (.inl (0, 24, .inl f)) = (mk (va_up ai 41 f) al fi fl) := rfl
theorem fd_42_0 : xFd (mk ai al fi fl) 42 1 0 = some (.ref 43) := rfl
theorem fd_42_1 : xFd (mk ai al fi fl) 42 1 1 = some (.ref 44) := rfl
theorem fd_42_2 : xFd (mk ai al fi fl) 42 1 2 = some (.ref 45) := rfl
theorem fd_42_3 : xFd (mk ai al fi fl) 42 1 3 = some (.ref 46) := rfl
theorem fd_42_4 : xFd (mk ai al fi fl) 42 1 4 = some (.ref 47) := rfl
theorem fd_42_5 : xFd (mk ai al fi fl) 42 1 5 = some (.ref 48) := rfl
theorem fd_42_6 : xFd (mk ai al fi fl) 42 1 6 = some (.ref 49) := rfl
theorem fd_42_7 : xFd (mk ai al fi fl) 42 1 7 = some (.int (fi 42 7)) := rfl
theorem pf_42_7 {i : Nat} {v : Int32} : xPf i (mk ai al fi fl) 42 1 7 (.int v) = some (mk ai al (va_up fi 42 (va_up (fi 42) 7 v)) fl) := rfl
theorem fd_42_8 : xFd (mk ai al fi fl) 42 1 8 = some (.int (fi 42 8)) := rfl
theorem pf_42_8 {i : Nat} {v : Int32} : xPf i (mk ai al fi fl) 42 1 8 (.int v) = some (mk ai al (va_up fi 42 (va_up (fi 42) 8 v)) fl) := rfl
theorem fd_42_9 : xFd (mk ai al fi fl) 42 1 9 = some (.int (fi 42 9)) := rfl
theorem pf_42_9 {i : Nat} {v : Int32} : xPf i (mk ai al fi fl) 42 1 9 (.int v) = some (mk ai al (va_up fi 42 (va_up (fi 42) 9 v)) fl) := rfl
theorem fd_42_10 : xFd (mk ai al fi fl) 42 1 10 = some (.int (fi 42 10)) := rfl
theorem pf_42_10_0 {i : Nat} : xPf i (mk ai al fi fl) 42 1 10 (.int 0) = some (mk ai al (va_up fi 42 (va_up (fi 42) 10 0)) fl) := rfl
theorem pf_42_10_1 {i : Nat} : xPf i (mk ai al fi fl) 42 1 10 (.int 1) = some (mk ai al (va_up fi 42 (va_up (fi 42) 10 1)) fl) := rfl
theorem ar_43 : xAl (mk ai al fi fl) 43 = some (10, al 43) := rfl
theorem as_43 {f : Nat → Int64} : List.set (mk ai al fi fl) 43 (.inl (1, 10, .inr (.inl f))) = (mk ai (va_up al 43 f) fi fl) := rfl
theorem ar_44 : xAl (mk ai al fi fl) 44 = some (10, al 44) := rfl
theorem as_44 {f : Nat → Int64} : List.set (mk ai al fi fl) 44 (.inl (1, 10, .inr (.inl f))) = (mk ai (va_up al 44 f) fi fl) := rfl
theorem ar_45 : xAi (mk ai al fi fl) 45 = some (10, ai 45) := rfl
theorem as_45 {f : Nat → Int32} : List.set (mk ai al fi fl) 45 (.inl (0, 10, .inl f)) = (mk (va_up ai 45 f) al fi fl) := rfl
theorem ar_46 : xAi (mk ai al fi fl) 46 = some (1024, ai 46) := rfl
theorem as_46 {f : Nat → Int32} : List.set (mk ai al fi fl) 46 (.inl (0, 1024, .inl f)) = (mk (va_up ai 46 f) al fi fl) := rfl
theorem ar_47 : xAi (mk ai al fi fl) 47 = some (10, ai 47) := rfl
theorem as_47 {f : Nat → Int32} : List.set (mk ai al fi fl) 47 (.inl (0, 10, .inl f)) = (mk (va_up ai 47 f) al fi fl) := rfl
theorem ar_48 : xAi (mk ai al fi fl) 48 = some (10, ai 48) := rfl
theorem as_48 {f : Nat → Int32} : List.set (mk ai al fi fl) 48 (.inl (0, 10, .inl f)) = (mk (va_up ai 48 f) al fi fl) := rfl
theorem ar_49 : xAl (mk ai al fi fl) 49 = some (10, al 49) := rfl
theorem as_49 {f : Nat → Int64} : List.set (mk ai al fi fl) 49 (.inl (1, 10, .inr (.inl f))) = (mk ai (va_up al 49 f) fi fl) := rfl
theorem fd_50_0 : xFd (mk ai al fi fl) 50 3 0 = some (.ref 51) := rfl
theorem fd_50_1 : xFd (mk ai al fi fl) 50 3 1 = some (.ref 52) := rfl
theorem fd_50_2 : xFd (mk ai al fi fl) 50 3 2 = some (.ref 53) := rfl
theorem ar_51 : xAl (mk ai al fi fl) 51 = some (40, al 51) := rfl
theorem as_51 {f : Nat → Int64} : List.set (mk ai al fi fl) 51 (.inl (1, 40, .inr (.inl f))) = (mk ai (va_up al 51 f) fi fl) := rfl
theorem ar_52 : xAl (mk ai al fi fl) 52 = some (40, al 52) := rfl
theorem as_52 {f : Nat → Int64} : List.set (mk ai al fi fl) 52 (.inl (1, 40, .inr (.inl f))) = (mk ai (va_up al 52 f) fi fl) := rfl
theorem ar_53 : xAl (mk ai al fi fl) 53 = some (40, al 53) := rfl
theorem as_53 {f : Nat → Int64} : List.set (mk ai al fi fl) 53 (.inl (1, 40, .inr (.inl f))) = (mk ai (va_up al 53 f) fi fl) := rfl
theorem ar_54 : xAi (mk ai al fi fl) 54 = some (10, ai 54) := rfl
theorem as_54 {f : Nat → Int32} : List.set (mk ai al fi fl) 54 (.inl (0, 10, .inl f)) = (mk (va_up ai 54 f) al fi fl) := rfl
theorem fd_55_0 : xFd (mk ai al fi fl) 55 7 0 = some (.int (fi 55 0)) := rfl
theorem pf_55_0 {i : Nat} {v : Int32} : xPf i (mk ai al fi fl) 55 7 0 (.int v) = some (mk ai al (va_up fi 55 (va_up (fi 55) 0 v)) fl) := rfl
theorem fd_55_1 : xFd (mk ai al fi fl) 55 7 1 = some (.int (fi 55 1)) := rfl
theorem pf_55_1 {i : Nat} {v : Int32} : xPf i (mk ai al fi fl) 55 7 1 (.int v) = some (mk ai al (va_up fi 55 (va_up (fi 55) 1 v)) fl) := rfl
theorem fd_55_2 : xFd (mk ai al fi fl) 55 7 2 = some (.long (fl 55 2)) := rfl
theorem pf_55_2 {i : Nat} {v : Int64} : xPf i (mk ai al fi fl) 55 7 2 (.long v) = some (mk ai al fi (va_up fl 55 (va_up (fl 55) 2 v))) := rfl
theorem fd_55_3 : xFd (mk ai al fi fl) 55 7 3 = some (.long (fl 55 3)) := rfl
theorem pf_55_3 {i : Nat} {v : Int64} : xPf i (mk ai al fi fl) 55 7 3 (.long v) = some (mk ai al fi (va_up fl 55 (va_up (fl 55) 3 v))) := rfl
theorem fd_55_4 : xFd (mk ai al fi fl) 55 7 4 = some (.ref 56) := rfl
theorem fd_55_5 : xFd (mk ai al fi fl) 55 7 5 = some (.ref 57) := rfl
theorem fd_55_6 : xFd (mk ai al fi fl) 55 7 6 = some (.ref 58) := rfl
theorem fd_55_7 : xFd (mk ai al fi fl) 55 7 7 = some (.int (fi 55 7)) := rfl
theorem pf_55_7 {i : Nat} {v : Int32} : xPf i (mk ai al fi fl) 55 7 7 (.int v) = some (mk ai al (va_up fi 55 (va_up (fi 55) 7 v)) fl) := rfl
theorem fd_55_8 : xFd (mk ai al fi fl) 55 7 8 = some (.int (fi 55 8)) := rfl
theorem pf_55_8 {i : Nat} {v : Int32} : xPf i (mk ai al fi fl) 55 7 8 (.int v) = some (mk ai al (va_up fi 55 (va_up (fi 55) 8 v)) fl) := rfl
theorem fd_55_9 : xFd (mk ai al fi fl) 55 7 9 = some (.ref 59) := rfl
theorem fd_55_10 : xFd (mk ai al fi fl) 55 7 10 = some (.ref 60) := rfl
theorem fd_55_11 : xFd (mk ai al fi fl) 55 7 11 = some (.ref 61) := rfl
theorem fd_55_12 : xFd (mk ai al fi fl) 55 7 12 = some (.ref 62) := rfl
theorem fd_55_13 : xFd (mk ai al fi fl) 55 7 13 = some (.ref 63) := rfl
theorem fd_55_14 : xFd (mk ai al fi fl) 55 7 14 = some (.ref 64) := rfl
theorem fd_55_15 : xFd (mk ai al fi fl) 55 7 15 = some (.int (fi 55 15)) := rfl
theorem pf_55_15 {i : Nat} {v : Int32} : xPf i (mk ai al fi fl) 55 7 15 (.int v) = some (mk ai al (va_up fi 55 (va_up (fi 55) 15 v)) fl) := rfl
theorem fd_55_16 : xFd (mk ai al fi fl) 55 7 16 = some (.int (fi 55 16)) := rfl
theorem pf_55_16 {i : Nat} {v : Int32} : xPf i (mk ai al fi fl) 55 7 16 (.int v) = some (mk ai al (va_up fi 55 (va_up (fi 55) 16 v)) fl) := rfl
theorem fd_55_17 : xFd (mk ai al fi fl) 55 7 17 = some (.ref 65) := rfl
theorem fd_55_18 : xFd (mk ai al fi fl) 55 7 18 = some (.ref 66) := rfl
theorem fd_55_19 : xFd (mk ai al fi fl) 55 7 19 = some (.ref 67) := rfl
theorem fd_55_20 : xFd (mk ai al fi fl) 55 7 20 = some (.ref 68) := rfl
theorem fd_55_21 : xFd (mk ai al fi fl) 55 7 21 = some (.int (fi 55 21)) := rfl
theorem pf_55_21 {i : Nat} {v : Int32} : xPf i (mk ai al fi fl) 55 7 21 (.int v) = some (mk ai al (va_up fi 55 (va_up (fi 55) 21 v)) fl) := rfl
theorem fd_55_22 : xFd (mk ai al fi fl) 55 7 22 = some (.ref 69) := rfl
theorem fd_55_23 : xFd (mk ai al fi fl) 55 7 23 = some (.ref 70) := rfl
theorem fd_55_24 : xFd (mk ai al fi fl) 55 7 24 = some (.ref 71) := rfl
theorem fd_55_25 : xFd (mk ai al fi fl) 55 7 25 = some (.ref 72) := rfl
theorem fd_55_26 : xFd (mk ai al fi fl) 55 7 26 = some (.int (fi 55 26)) := rfl
theorem pf_55_26 {i : Nat} {v : Int32} : xPf i (mk ai al fi fl) 55 7 26 (.int v) = some (mk ai al (va_up fi 55 (va_up (fi 55) 26 v)) fl) := rfl
theorem fd_55_27 : xFd (mk ai al fi fl) 55 7 27 = some (.ref 73) := rfl
theorem fd_55_28 : xFd (mk ai al fi fl) 55 7 28 = some (.ref 74) := rfl
theorem fd_55_29 : xFd (mk ai al fi fl) 55 7 29 = some (.ref 75) := rfl
theorem fd_55_30 : xFd (mk ai al fi fl) 55 7 30 = some (.ref 76) := rfl
theorem fd_55_31 : xFd (mk ai al fi fl) 55 7 31 = some (.ref 77) := rfl
theorem fd_55_32 : xFd (mk ai al fi fl) 55 7 32 = some (.ref 78) := rfl
theorem fd_55_33 : xFd (mk ai al fi fl) 55 7 33 = some (.ref 79) := rfl
theorem fd_55_34 : xFd (mk ai al fi fl) 55 7 34 = some (.ref 80) := rfl
theorem fd_55_35 : xFd (mk ai al fi fl) 55 7 35 = some (.ref 81) := rfl
theorem fd_55_36 : xFd (mk ai al fi fl) 55 7 36 = some (.int (fi 55 36)) := rfl
theorem pf_55_36 {i : Nat} {v : Int32} : xPf i (mk ai al fi fl) 55 7 36 (.int v) = some (mk ai al (va_up fi 55 (va_up (fi 55) 36 v)) fl) := rfl
theorem fd_55_37 : xFd (mk ai al fi fl) 55 7 37 = some (.ref 82) := rfl
theorem fd_55_38 : xFd (mk ai al fi fl) 55 7 38 = some (.ref 83) := rfl
theorem fd_55_39 : xFd (mk ai al fi fl) 55 7 39 = some (.ref 84) := rfl
theorem fd_55_40 : xFd (mk ai al fi fl) 55 7 40 = some (.ref 85) := rfl
theorem ar_56 : xAi (mk ai al fi fl) 56 = some (4, ai 56) := rfl
theorem as_56 {f : Nat → Int32} : List.set (mk ai al fi fl) 56 (.inl (0, 4, .inl f)) = (mk (va_up ai 56 f) al fi fl) := rfl
theorem ar_57 : xAi (mk ai al fi fl) 57 = some (4, ai 57) := rfl
theorem as_57 {f : Nat → Int32} : List.set (mk ai al fi fl) 57 (.inl (0, 4, .inl f)) = (mk (va_up ai 57 f) al fi fl) := rfl
theorem ar_58 : xAl (mk ai al fi fl) 58 = some (160, al 58) := rfl
theorem as_58 {f : Nat → Int64} : List.set (mk ai al fi fl) 58 (.inl (1, 160, .inr (.inl f))) = (mk ai (va_up al 58 f) fi fl) := rfl
theorem ar_59 : xAi (mk ai al fi fl) 59 = some (60, ai 59) := rfl
theorem as_59 {f : Nat → Int32} : List.set (mk ai al fi fl) 59 (.inl (0, 60, .inl f)) = (mk (va_up ai 59 f) al fi fl) := rfl
theorem ar_60 : xAi (mk ai al fi fl) 60 = some (60, ai 60) := rfl
theorem as_60 {f : Nat → Int32} : List.set (mk ai al fi fl) 60 (.inl (0, 60, .inl f)) = (mk (va_up ai 60 f) al fi fl) := rfl
theorem ar_61 : xAi (mk ai al fi fl) 61 = some (60, ai 61) := rfl
theorem as_61 {f : Nat → Int32} : List.set (mk ai al fi fl) 61 (.inl (0, 60, .inl f)) = (mk (va_up ai 61 f) al fi fl) := rfl
theorem ar_62 : xAi (mk ai al fi fl) 62 = some (60, ai 62) := rfl
theorem as_62 {f : Nat → Int32} : List.set (mk ai al fi fl) 62 (.inl (0, 60, .inl f)) = (mk (va_up ai 62 f) al fi fl) := rfl
theorem ar_63 : xAi (mk ai al fi fl) 63 = some (60, ai 63) := rfl
theorem as_63 {f : Nat → Int32} : List.set (mk ai al fi fl) 63 (.inl (0, 60, .inl f)) = (mk (va_up ai 63 f) al fi fl) := rfl
theorem ar_64 : xAz (mk ai al fi fl) 64 = some (10000, ai 64) := rfl
theorem as_64 {f : Nat → Int32} : List.set (mk ai al fi fl) 64 (.inl (2, 10000, .inl f)) = (mk (va_up ai 64 f) al fi fl) := rfl
theorem ar_65 : xAi (mk ai al fi fl) 65 = some (36, ai 65) := rfl
theorem as_65 {f : Nat → Int32} : List.set (mk ai al fi fl) 65 (.inl (0, 36, .inl f)) = (mk (va_up ai 65 f) al fi fl) := rfl
theorem ar_66 : xAi (mk ai al fi fl) 66 = some (6, ai 66) := rfl
theorem as_66 {f : Nat → Int32} : List.set (mk ai al fi fl) 66 (.inl (0, 6, .inl f)) = (mk (va_up ai 66 f) al fi fl) := rfl
theorem ar_67 : xAi (mk ai al fi fl) 67 = some (6, ai 67) := rfl
theorem as_67 {f : Nat → Int32} : List.set (mk ai al fi fl) 67 (.inl (0, 6, .inl f)) = (mk (va_up ai 67 f) al fi fl) := rfl
theorem ar_68 : xAl (mk ai al fi fl) 68 = some (36, al 68) := rfl
theorem as_68 {f : Nat → Int64} : List.set (mk ai al fi fl) 68 (.inl (1, 36, .inr (.inl f))) = (mk ai (va_up al 68 f) fi fl) := rfl
theorem ar_69 : xAi (mk ai al fi fl) 69 = some (240, ai 69) := rfl
theorem as_69 {f : Nat → Int32} : List.set (mk ai al fi fl) 69 (.inl (0, 240, .inl f)) = (mk (va_up ai 69 f) al fi fl) := rfl
theorem ar_70 : xAi (mk ai al fi fl) 70 = some (24, ai 70) := rfl
theorem as_70 {f : Nat → Int32} : List.set (mk ai al fi fl) 70 (.inl (0, 24, .inl f)) = (mk (va_up ai 70 f) al fi fl) := rfl
theorem ar_71 : xAi (mk ai al fi fl) 71 = some (25, ai 71) := rfl
theorem as_71 {f : Nat → Int32} : List.set (mk ai al fi fl) 71 (.inl (0, 25, .inl f)) = (mk (va_up ai 71 f) al fi fl) := rfl
theorem ar_72 : xAz (mk ai al fi fl) 72 = some (275, ai 72) := rfl
theorem as_72 {f : Nat → Int32} : List.set (mk ai al fi fl) 72 (.inl (2, 275, .inl f)) = (mk (va_up ai 72 f) al fi fl) := rfl
theorem ar_73 : xAi (mk ai al fi fl) 73 = some (200, ai 73) := rfl
theorem as_73 {f : Nat → Int32} : List.set (mk ai al fi fl) 73 (.inl (0, 200, .inl f)) = (mk (va_up ai 73 f) al fi fl) := rfl
theorem ar_74 : xAi (mk ai al fi fl) 74 = some (200, ai 74) := rfl
theorem as_74 {f : Nat → Int32} : List.set (mk ai al fi fl) 74 (.inl (0, 200, .inl f)) = (mk (va_up ai 74 f) al fi fl) := rfl
theorem ar_75 : xAi (mk ai al fi fl) 75 = some (200, ai 75) := rfl
theorem as_75 {f : Nat → Int32} : List.set (mk ai al fi fl) 75 (.inl (0, 200, .inl f)) = (mk (va_up ai 75 f) al fi fl) := rfl
theorem ar_76 : xAl (mk ai al fi fl) 76 = some (10, al 76) := rfl
theorem as_76 {f : Nat → Int64} : List.set (mk ai al fi fl) 76 (.inl (1, 10, .inr (.inl f))) = (mk ai (va_up al 76 f) fi fl) := rfl
theorem ar_77 : xAl (mk ai al fi fl) 77 = some (1024, al 77) := rfl
theorem as_77 {f : Nat → Int64} : List.set (mk ai al fi fl) 77 (.inl (1, 1024, .inr (.inl f))) = (mk ai (va_up al 77 f) fi fl) := rfl
theorem ar_78 : xAi (mk ai al fi fl) 78 = some (1024, ai 78) := rfl
theorem as_78 {f : Nat → Int32} : List.set (mk ai al fi fl) 78 (.inl (0, 1024, .inl f)) = (mk (va_up ai 78 f) al fi fl) := rfl
theorem ar_79 : xAi (mk ai al fi fl) 79 = some (10, ai 79) := rfl
theorem as_79 {f : Nat → Int32} : List.set (mk ai al fi fl) 79 (.inl (0, 10, .inl f)) = (mk (va_up ai 79 f) al fi fl) := rfl
theorem ar_80 : xAi (mk ai al fi fl) 80 = some (10, ai 80) := rfl
theorem as_80 {f : Nat → Int32} : List.set (mk ai al fi fl) 80 (.inl (0, 10, .inl f)) = (mk (va_up ai 80 f) al fi fl) := rfl
theorem ar_81 : xAl (mk ai al fi fl) 81 = some (10, al 81) := rfl
theorem as_81 {f : Nat → Int64} : List.set (mk ai al fi fl) 81 (.inl (1, 10, .inr (.inl f))) = (mk ai (va_up al 81 f) fi fl) := rfl
theorem ar_82 : xAi (mk ai al fi fl) 82 = some (10, ai 82) := rfl
theorem as_82 {f : Nat → Int32} : List.set (mk ai al fi fl) 82 (.inl (0, 10, .inl f)) = (mk (va_up ai 82 f) al fi fl) := rfl
theorem ar_83 : xAl (mk ai al fi fl) 83 = some (40, al 83) := rfl
theorem as_83 {f : Nat → Int64} : List.set (mk ai al fi fl) 83 (.inl (1, 40, .inr (.inl f))) = (mk ai (va_up al 83 f) fi fl) := rfl
theorem ar_84 : xAl (mk ai al fi fl) 84 = some (40, al 84) := rfl
theorem as_84 {f : Nat → Int64} : List.set (mk ai al fi fl) 84 (.inl (1, 40, .inr (.inl f))) = (mk ai (va_up al 84 f) fi fl) := rfl
theorem ar_85 : xAl (mk ai al fi fl) 85 = some (40, al 85) := rfl
theorem as_85 {f : Nat → Int64} : List.set (mk ai al fi fl) 85 (.inl (1, 40, .inr (.inl f))) = (mk ai (va_up al 85 f) fi fl) := rfl
theorem row2_set {f : Nat → Int64} {j : Nat} (hj : j < 4) : List.set (mk ai al fi fl) (3 + j) (.inl (1, 40, .inr (.inl f))) = mk ai (va_up al (3 + j) f) fi fl := by
  match j, hj with
  | 0, _ => exact as_3
  | 1, _ => exact as_4
  | 2, _ => exact as_5
  | 3, _ => exact as_6
theorem row16_set {f : Nat → Int32} {j : Nat} (hj : j < 6) : List.set (mk ai al fi fl) (17 + j) (.inl (0, 6, .inl f)) = mk (va_up ai (17 + j) f) al fi fl := by
  match j, hj with
  | 0, _ => exact as_17
  | 1, _ => exact as_18
  | 2, _ => exact as_19
  | 3, _ => exact as_20
  | 4, _ => exact as_21
  | 5, _ => exact as_22
theorem row27_set {f : Nat → Int32} {j : Nat} (hj : j < 10) : List.set (mk ai al fi fl) (28 + j) (.inl (0, 24, .inl f)) = mk (va_up ai (28 + j) f) al fi fl := by
  match j, hj with
  | 0, _ => exact as_28
  | 1, _ => exact as_29
  | 2, _ => exact as_30
  | 3, _ => exact as_31
  | 4, _ => exact as_32
  | 5, _ => exact as_33
  | 6, _ => exact as_34
  | 7, _ => exact as_35
  | 8, _ => exact as_36
  | 9, _ => exact as_37
variable {t : List Value}
theorem rc_1 : xRc (mk ai al fi fl) 1 (.ref 26 :: t) = true := rfl
theorem rc_2 : xRc (mk ai al fi fl) 2 (.ref 26 :: t) = true := rfl
theorem rc_3 : xRc (mk ai al fi fl) 3 (.ref 26 :: t) = true := rfl
theorem rc_4 : xRc (mk ai al fi fl) 4 (.ref 26 :: t) = true := rfl
theorem rc_5 : xRc (mk ai al fi fl) 5 (.ref 26 :: t) = true := rfl
theorem rc_6 : xRc (mk ai al fi fl) 6 (.ref 26 :: t) = true := rfl
theorem rc_7 : xRc (mk ai al fi fl) 7 (.ref 26 :: t) = true := rfl
theorem rc_8 : xRc (mk ai al fi fl) 8 (.ref 26 :: t) = true := rfl
theorem rc_9 : xRc (mk ai al fi fl) 9 (.ref 26 :: t) = true := rfl
theorem rc_10 : xRc (mk ai al fi fl) 10 (.ref 26 :: t) = true := rfl
theorem rc_11 : xRc (mk ai al fi fl) 11 (.ref 26 :: t) = true := rfl
theorem rc_12 : xRc (mk ai al fi fl) 12 (.ref 26 :: t) = true := rfl
theorem rc_13 : xRc (mk ai al fi fl) 13 (.ref 26 :: t) = true := rfl
theorem rc_14 : xRc (mk ai al fi fl) 14 (.ref 26 :: t) = true := rfl
theorem rc_15 : xRc (mk ai al fi fl) 15 (.ref 26 :: t) = true := rfl
theorem rc_16 : xRc (mk ai al fi fl) 16 (.ref 26 :: t) = true := rfl
theorem rc_17 : xRc (mk ai al fi fl) 17 (.ref 26 :: t) = true := rfl
theorem rc_18 : xRc (mk ai al fi fl) 18 (.ref 26 :: t) = true := rfl
theorem rc_20 : xRc (mk ai al fi fl) 20 (.ref 42 :: t) = true := rfl
theorem rc_21 : xRc (mk ai al fi fl) 21 (.ref 42 :: t) = true := rfl
theorem rc_22 : xRc (mk ai al fi fl) 22 (.ref 42 :: t) = true := rfl
theorem rc_23 : xRc (mk ai al fi fl) 23 (.ref 42 :: t) = true := rfl
theorem rc_24 : xRc (mk ai al fi fl) 24 (.ref 42 :: t) = true := rfl
theorem rc_25 : xRc (mk ai al fi fl) 25 (.ref 42 :: t) = true := rfl
theorem rc_26 : xRc (mk ai al fi fl) 26 (.ref 42 :: t) = true := rfl
theorem rc_27 : xRc (mk ai al fi fl) 27 (.ref 42 :: t) = true := rfl
theorem rc_28 : xRc (mk ai al fi fl) 28 (.ref 42 :: t) = true := rfl
theorem rc_29 : xRc (mk ai al fi fl) 29 (.ref 42 :: t) = true := rfl
theorem rc_30 : xRc (mk ai al fi fl) 30 (.ref 42 :: t) = true := rfl
theorem rc_31 : xRc (mk ai al fi fl) 31 (.ref 42 :: t) = true := rfl
theorem rc_32 : xRc (mk ai al fi fl) 32 (.ref 42 :: t) = true := rfl
theorem rc_33 : xRc (mk ai al fi fl) 33 (.ref 42 :: t) = true := rfl
theorem rc_35 : xRc (mk ai al fi fl) 35 (.ref 15 :: t) = true := rfl
theorem rc_36 : xRc (mk ai al fi fl) 36 (.ref 15 :: t) = true := rfl
theorem rc_37 : xRc (mk ai al fi fl) 37 (.ref 15 :: t) = true := rfl
theorem rc_38 : xRc (mk ai al fi fl) 38 (.ref 15 :: t) = true := rfl
theorem rc_39 : xRc (mk ai al fi fl) 39 (.ref 15 :: t) = true := rfl
theorem rc_40 : xRc (mk ai al fi fl) 40 (.ref 15 :: t) = true := rfl
theorem rc_41 : xRc (mk ai al fi fl) 41 (.ref 15 :: t) = true := rfl
theorem rc_42 : xRc (mk ai al fi fl) 42 (.ref 15 :: t) = true := rfl
theorem rc_43 : xRc (mk ai al fi fl) 43 (.ref 15 :: t) = true := rfl
theorem rc_44 : xRc (mk ai al fi fl) 44 (.ref 15 :: t) = true := rfl
theorem rc_45 : xRc (mk ai al fi fl) 45 (.ref 15 :: t) = true := rfl
theorem rc_47 : xRc (mk ai al fi fl) 47 (.ref 50 :: t) = true := rfl
theorem rc_48 : xRc (mk ai al fi fl) 48 (.ref 50 :: t) = true := rfl
theorem rc_49 : xRc (mk ai al fi fl) 49 (.ref 50 :: t) = true := rfl
theorem rc_50 : xRc (mk ai al fi fl) 50 (.ref 50 :: t) = true := rfl
theorem rc_51 : xRc (mk ai al fi fl) 51 (.ref 50 :: t) = true := rfl
theorem rc_53 : xRc (mk ai al fi fl) 53 (.ref 9 :: t) = true := rfl
theorem rc_54 : xRc (mk ai al fi fl) 54 (.ref 9 :: t) = true := rfl
theorem rc_55 : xRc (mk ai al fi fl) 55 (.ref 9 :: t) = true := rfl
theorem rc_56 : xRc (mk ai al fi fl) 56 (.ref 9 :: t) = true := rfl
theorem rc_57 : xRc (mk ai al fi fl) 57 (.ref 9 :: t) = true := rfl
theorem rc_58 : xRc (mk ai al fi fl) 58 (.ref 9 :: t) = true := rfl
theorem rc_59 : xRc (mk ai al fi fl) 59 (.ref 9 :: t) = true := rfl
theorem rc_60 : xRc (mk ai al fi fl) 60 (.ref 9 :: t) = true := rfl
theorem rc_62 : xRc (mk ai al fi fl) 62 (.ref 1 :: t) = true := rfl
theorem rc_63 : xRc (mk ai al fi fl) 63 (.ref 1 :: t) = true := rfl
theorem rc_64 : xRc (mk ai al fi fl) 64 (.ref 1 :: t) = true := rfl
theorem rc_65 : xRc (mk ai al fi fl) 65 (.ref 1 :: t) = true := rfl
theorem rc_66 : xRc (mk ai al fi fl) 66 (.ref 1 :: t) = true := rfl
theorem rc_67 : xRc (mk ai al fi fl) 67 (.ref 1 :: t) = true := rfl
theorem rc_68 : xRc (mk ai al fi fl) 68 (.ref 1 :: t) = true := rfl
theorem rc_69 : xRc (mk ai al fi fl) 69 (.ref 1 :: t) = true := rfl
theorem rc_71 : xRc (mk ai al fi fl) 71 (.ref 1 :: t) = true := rfl
theorem rc_74 : xRc (mk ai al fi fl) 74 (.ref 0 :: t) = true := rfl
theorem rc_75 : xRc (mk ai al fi fl) 75 (.ref 0 :: t) = true := rfl
theorem rc_76 : xRc (mk ai al fi fl) 76 (.ref 0 :: t) = true := rfl
theorem rc_77 : xRc (mk ai al fi fl) 77 (.ref 0 :: t) = true := rfl
theorem rc_78 : xRc (mk ai al fi fl) 78 (.ref 0 :: t) = true := rfl
theorem rc_79 : xRc (mk ai al fi fl) 79 (.ref 0 :: t) = true := rfl
theorem rc_80 : xRc (mk ai al fi fl) 80 (.ref 0 :: t) = true := rfl
theorem rc_81 : xRc (mk ai al fi fl) 81 (.ref 0 :: t) = true := rfl
theorem rc_82 : xRc (mk ai al fi fl) 82 (.ref 0 :: t) = true := rfl
theorem rc_83 : xRc (mk ai al fi fl) 83 (.ref 0 :: t) = true := rfl
theorem rc_84 : xRc (mk ai al fi fl) 84 (.ref 0 :: t) = true := rfl
theorem rc_85 : xRc (mk ai al fi fl) 85 (.ref 0 :: t) = true := rfl
theorem rc_86 : xRc (mk ai al fi fl) 86 (.ref 0 :: t) = true := rfl
theorem rc_87 : xRc (mk ai al fi fl) 87 (.ref 0 :: t) = true := rfl
theorem rc_88 : xRc (mk ai al fi fl) 88 (.ref 0 :: t) = true := rfl
theorem rc_89 : xRc (mk ai al fi fl) 89 (.ref 0 :: t) = true := rfl
theorem rc_90 : xRc (mk ai al fi fl) 90 (.ref 0 :: t) = true := rfl
theorem rc_91 : xRc (mk ai al fi fl) 91 (.ref 0 :: t) = true := rfl
theorem rc_92 : xRc (mk ai al fi fl) 92 (.ref 0 :: t) = true := rfl
theorem rc_93 : xRc (mk ai al fi fl) 93 (.ref 0 :: t) = true := rfl
theorem rc_94 : xRc (mk ai al fi fl) 94 (.ref 0 :: t) = true := rfl
theorem rc_95 : xRc (mk ai al fi fl) 95 (.ref 0 :: t) = true := rfl
theorem rc_96 : xRc (mk ai al fi fl) 96 (.ref 0 :: t) = true := rfl
theorem rc_97 : xRc (mk ai al fi fl) 97 (.ref 0 :: t) = true := rfl
theorem rc_98 : xRc (mk ai al fi fl) 98 (.ref 0 :: t) = true := rfl
theorem rc_99 : xRc (mk ai al fi fl) 99 (.ref 0 :: t) = true := rfl
theorem rc_100 : xRc (mk ai al fi fl) 100 (.ref 0 :: t) = true := rfl
theorem rc_101 : xRc (mk ai al fi fl) 101 (.ref 0 :: t) = true := rfl
theorem rc_102 : xRc (mk ai al fi fl) 102 (.ref 0 :: t) = true := rfl
theorem rc_103 : xRc (mk ai al fi fl) 103 (.ref 0 :: t) = true := rfl
theorem rc_104 : xRc (mk ai al fi fl) 104 (.ref 0 :: t) = true := rfl
theorem rc_105 : xRc (mk ai al fi fl) 105 (.ref 0 :: t) = true := rfl
theorem rc_106 : xRc (mk ai al fi fl) 106 (.ref 0 :: t) = true := rfl
theorem rc_111 : xRc (mk ai al fi fl) 111 (.ref 0 :: t) = true := rfl
theorem rc_112 : xRc (mk ai al fi fl) 112 (.ref 0 :: t) = true := rfl
theorem rc_113 : xRc (mk ai al fi fl) 113 (.ref 0 :: t) = true := rfl
theorem rc_114 : xRc (mk ai al fi fl) 114 (.ref 0 :: t) = true := rfl
theorem rc_115 : xRc (mk ai al fi fl) 115 (.ref 0 :: t) = true := rfl
theorem rc_116 : xRc (mk ai al fi fl) 116 (.ref 0 :: t) = true := rfl
theorem rc_117 : xRc (mk ai al fi fl) 117 (.ref 0 :: t) = true := rfl
theorem rc_118 : xRc (mk ai al fi fl) 118 (.ref 0 :: t) = true := rfl
theorem rc_119 : xRc (mk ai al fi fl) 119 (.ref 0 :: t) = true := rfl
theorem rc_120 : xRc (mk ai al fi fl) 120 (.ref 0 :: t) = true := rfl
theorem rc_121 : xRc (mk ai al fi fl) 121 (.ref 0 :: t) = true := rfl
theorem rc_122 : xRc (mk ai al fi fl) 122 (.ref 0 :: t) = true := rfl
theorem rc_123 : xRc (mk ai al fi fl) 123 (.ref 0 :: t) = true := rfl
theorem rc_124 : xRc (mk ai al fi fl) 124 (.ref 0 :: t) = true := rfl
theorem rc_125 : xRc (mk ai al fi fl) 125 (.ref 0 :: t) = true := rfl
theorem rc_126 : xRc (mk ai al fi fl) 126 (.ref 0 :: t) = true := rfl
theorem rc_127 : xRc (mk ai al fi fl) 127 (.ref 0 :: t) = true := rfl
theorem rc_128 : xRc (mk ai al fi fl) 128 (.ref 0 :: t) = true := rfl
theorem rc_130 : xRc (mk ai al fi fl) 130 (.ref 55 :: t) = true := rfl
theorem rc_131 : xRc (mk ai al fi fl) 131 (.ref 55 :: t) = true := rfl
theorem rc_132 : xRc (mk ai al fi fl) 132 (.ref 55 :: t) = true := rfl
theorem rc_134 : xRc (mk ai al fi fl) 134 (.ref 55 :: t) = true := rfl
theorem rc_135 : xRc (mk ai al fi fl) 135 (.ref 55 :: t) = true := rfl
theorem rc_136 : xRc (mk ai al fi fl) 136 (.ref 55 :: t) = true := rfl
theorem rc_137 : xRc (mk ai al fi fl) 137 (.ref 55 :: t) = true := rfl
theorem rc_138 : xRc (mk ai al fi fl) 138 (.ref 55 :: t) = true := rfl
theorem rc_139 : xRc (mk ai al fi fl) 139 (.ref 55 :: t) = true := rfl
theorem rc_140 : xRc (mk ai al fi fl) 140 (.ref 55 :: t) = true := rfl
theorem rc_142 : xRc (mk ai al fi fl) 142 (.ref 55 :: t) = true := rfl
theorem rc_143 : xRc (mk ai al fi fl) 143 (.ref 55 :: t) = true := rfl
theorem rc_144 : xRc (mk ai al fi fl) 144 (.ref 55 :: t) = true := rfl
theorem rc_145 : xRc (mk ai al fi fl) 145 (.ref 55 :: t) = true := rfl
theorem rc_146 : xRc (mk ai al fi fl) 146 (.ref 55 :: t) = true := rfl
theorem rc_147 : xRc (mk ai al fi fl) 147 (.ref 55 :: t) = true := rfl
theorem rc_148 : xRc (mk ai al fi fl) 148 (.ref 55 :: t) = true := rfl
theorem rc_149 : xRc (mk ai al fi fl) 149 (.ref 55 :: t) = true := rfl
theorem rc_150 : xRc (mk ai al fi fl) 150 (.ref 55 :: t) = true := rfl
theorem rc_151 : xRc (mk ai al fi fl) 151 (.ref 55 :: t) = true := rfl
theorem rc_152 : xRc (mk ai al fi fl) 152 (.ref 55 :: t) = true := rfl
theorem rc_154 : xRc (mk ai al fi fl) 154 (.ref 55 :: t) = true := rfl
theorem rc_155 : xRc (mk ai al fi fl) 155 (.ref 55 :: t) = true := rfl
theorem rc_156 : xRc (mk ai al fi fl) 156 (.ref 55 :: t) = true := rfl
theorem rc_157 : xRc (mk ai al fi fl) 157 (.ref 55 :: t) = true := rfl
theorem rc_158 : xRc (mk ai al fi fl) 158 (.ref 55 :: t) = true := rfl
theorem rc_159 : xRc (mk ai al fi fl) 159 (.ref 55 :: t) = true := rfl
theorem rc_160 : xRc (mk ai al fi fl) 160 (.ref 55 :: t) = true := rfl
theorem rc_161 : xRc (mk ai al fi fl) 161 (.ref 55 :: t) = true := rfl
theorem rc_162 : xRc (mk ai al fi fl) 162 (.ref 55 :: t) = true := rfl
theorem rc_163 : xRc (mk ai al fi fl) 163 (.ref 55 :: t) = true := rfl
theorem rc_164 : xRc (mk ai al fi fl) 164 (.ref 55 :: t) = true := rfl
theorem rc_165 : xRc (mk ai al fi fl) 165 (.ref 55 :: t) = true := rfl
theorem rc_166 : xRc (mk ai al fi fl) 166 (.ref 55 :: t) = true := rfl
theorem rc_167 : xRc (mk ai al fi fl) 167 (.ref 55 :: t) = true := rfl
theorem rc_168 : xRc (mk ai al fi fl) 168 (.ref 55 :: t) = true := rfl
theorem rc_169 : xRc (mk ai al fi fl) 169 (.ref 55 :: t) = true := rfl
theorem rc_170 : xRc (mk ai al fi fl) 170 (.ref 55 :: t) = true := rfl
theorem rc_171 : xRc (mk ai al fi fl) 171 (.ref 55 :: t) = true := rfl
theorem rc_172 : xRc (mk ai al fi fl) 172 (.ref 55 :: t) = true := rfl
theorem rc_173 : xRc (mk ai al fi fl) 173 (.ref 55 :: t) = true := rfl
theorem rc_174 : xRc (mk ai al fi fl) 174 (.ref 55 :: t) = true := rfl
theorem rc_175 : xRc (mk ai al fi fl) 175 (.ref 55 :: t) = true := rfl
theorem rc_176 : xRc (mk ai al fi fl) 176 (.ref 55 :: t) = true := rfl
theorem rc_177 : xRc (mk ai al fi fl) 177 (.ref 55 :: t) = true := rfl
theorem rc_178 : xRc (mk ai al fi fl) 178 (.ref 55 :: t) = true := rfl
theorem rc_179 : xRc (mk ai al fi fl) 179 (.ref 55 :: t) = true := rfl
theorem rc_180 : xRc (mk ai al fi fl) 180 (.ref 55 :: t) = true := rfl
theorem rc_181 : xRc (mk ai al fi fl) 181 (.ref 55 :: t) = true := rfl
theorem rc_182 : xRc (mk ai al fi fl) 182 (.ref 55 :: t) = true := rfl
theorem rc_183 : xRc (mk ai al fi fl) 183 (.ref 55 :: t) = true := rfl
theorem rc_184 : xRc (mk ai al fi fl) 184 (.ref 55 :: t) = true := rfl
end MK
theorem cat_i {z : Int32} : (Value.int z).category = 1 := rfl
theorem cat_l {z : Int64} : (Value.long z).category = 2 := rfl
theorem cat_r {z : Nat} : (Value.ref z).category = 1 := rfl
theorem mW_11 : mW 11 = 21 := rfl
theorem mW_30 : mW 30 = 21 := rfl
theorem mW_32 : mW 32 = 24 := rfl
theorem mW_45 : mW 45 = 21 := rfl
theorem mW_58 : mW 58 = 48 := rfl
theorem mW_69 : mW 69 = 40 := rfl
theorem mW_147 : mW 147 = 23 := rfl
theorem mW_153 : mW 153 = 21 := rfl
theorem mW_154 : mW 154 = 50 := rfl
theorem mW_164 : mW 164 = 24 := rfl
theorem mW_173 : mW 173 = 44 := rfl
theorem mW_175 : mW 175 = 23 := rfl
