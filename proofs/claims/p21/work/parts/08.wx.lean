def wX (cI cZ cC cJ cA : ClassId) (P : Nat → Nat) (M : Mm) : va_W := [
  (P 0, .inr (0, [.ref (P 1), .ref (P 21), .ref (P 23), .ref (P 24), .ref (P 50), .ref (P 60), .ref (P 65), .ref (P 69), .ref (P 73)])),
  (P 1, .inr (4, [.int (M.1 1 0), .ref (P 2), .ref (P 3), .ref (P 4), .ref (P 5), .ref (P 6), .int (M.1 1 6), .ref (P 7), .ref (P 8), .ref (P 9), .ref (P 10), .ref (P 11), .ref (P 12), .ref (P 13), .ref (P 14)])),
  (P 2, .inl (cI, 16, .inl (M.1 2))),
  (P 3, .inl (cI, 16, .inl (M.1 3))),
  (P 4, .inl (cI, 16, .inl (M.1 4))),
  (P 5, .inl (cI, 16, .inl (M.1 5))),
  (P 6, .inl (cI, 16, .inl (M.1 6))),
  (P 7, .inl (cI, 128, .inl (M.1 7))),
  (P 8, .inl (cI, 128, .inl (M.1 8))),
  (P 9, .inl (cI, 128, .inl (M.1 9))),
  (P 10, .inl (cI, 128, .inl (M.1 10))),
  (P 11, .inl (cI, 128, .inl (M.1 11))),
  (P 12, .inl (cI, 128, .inl (M.1 12))),
  (P 13, .inl (cI, 128, .inl (M.1 13))),
  (P 14, .inr (11, [.int (M.1 14 0), .ref (P 15), .ref (P 16), .ref (P 17), .ref (P 18), .ref (P 19), .ref (P 20)])),
  (P 15, .inl (cI, 12, .inl (M.1 15))),
  (P 16, .inl (cI, 12, .inl (M.1 16))),
  (P 17, .inl (cI, 12, .inl (M.1 17))),
  (P 18, .inl (cI, 12, .inl (M.1 18))),
  (P 19, .inl (cI, 12, .inl (M.1 19))),
  (P 20, .inl (cI, 12, .inl (M.1 20))),
  (P 21, .inr (10, [.ref (P 1), .ref (P 22), .int (M.1 21 2), .int (M.1 21 3)])),
  (P 22, .inl (cC, 480, .inl (M.1 22))),
  (P 23, .inr (5, [.ref (P 1), .int (M.1 23 1), .int (M.1 23 2)])),
  (P 24, .inr (6, [.int (M.1 24 0), .ref (P 25), .ref (P 26), .ref (P 27), .ref (P 28), .ref (P 29), .ref (P 30), .ref (P 38), .ref (P 39), .ref (P 40), .ref (P 41), .ref (P 42), .ref (P 43)])),
  (P 25, .inl (cI, 16, .inl (M.1 25))),
  (P 26, .inl (cI, 16, .inl (M.1 26))),
  (P 27, .inl (cI, 16, .inl (M.1 27))),
  (P 28, .inl (cI, 16, .inl (M.1 28))),
  (P 29, .inl (cI, 16, .inl (M.1 29))),
  (P 30, .inl (cA, 7, .inr (.inr (.inr (.inr (fun i => some (P (31 + i)))))))),
  (P 31, .inl (cI, 16, .inl (M.1 31))),
  (P 32, .inl (cI, 16, .inl (M.1 32))),
  (P 33, .inl (cI, 16, .inl (M.1 33))),
  (P 34, .inl (cI, 16, .inl (M.1 34))),
  (P 35, .inl (cI, 16, .inl (M.1 35))),
  (P 36, .inl (cI, 16, .inl (M.1 36))),
  (P 37, .inl (cI, 16, .inl (M.1 37))),
  (P 38, .inl (cI, 26, .inl (M.1 38))),
  (P 39, .inl (cI, 26, .inl (M.1 39))),
  (P 40, .inl (cI, 26, .inl (M.1 40))),
  (P 41, .inl (cI, 26, .inl (M.1 41))),
  (P 42, .inl (cI, 26, .inl (M.1 42))),
  (P 43, .inr (11, [.int (M.1 43 0), .ref (P 44), .ref (P 45), .ref (P 46), .ref (P 47), .ref (P 48), .ref (P 49)])),
  (P 44, .inl (cI, 12, .inl (M.1 44))),
  (P 45, .inl (cI, 12, .inl (M.1 45))),
  (P 46, .inl (cI, 12, .inl (M.1 46))),
  (P 47, .inl (cI, 12, .inl (M.1 47))),
  (P 48, .inl (cI, 12, .inl (M.1 48))),
  (P 49, .inl (cI, 12, .inl (M.1 49))),
  (P 50, .inr (3, [.ref (P 24), .ref (P 51), .ref (P 53), .int (M.1 50 3), .ref (P 57), .ref (P 58), .ref (P 59)])),
  (P 51, .inr (8, [.ref (P 24), .ref (P 52), .int (M.1 51 2)])),
  (P 52, .inl (cI, 16, .inl (M.1 52))),
  (P 53, .inr (7, [.int (M.1 53 0), .ref (P 54), .ref (P 55), .ref (P 56)])),
  (P 54, .inl (cI, 64, .inl (M.1 54))),
  (P 55, .inl (cI, 64, .inl (M.1 55))),
  (P 56, .inl (cI, 64, .inl (M.1 56))),
  (P 57, .inl (cI, 16, .inl (M.1 57))),
  (P 58, .inl (cI, 16, .inl (M.1 58))),
  (P 59, .inl (cI, 26, .inl (M.1 59))),
  (P 60, .inr (9, [.ref (P 24), .ref (P 61), .int (M.1 60 2), .ref (P 63), .ref (P 64), .int (M.1 60 5)])),
  (P 61, .inr (8, [.ref (P 24), .ref (P 62), .int (M.1 61 2)])),
  (P 62, .inl (cI, 16, .inl (M.1 62))),
  (P 63, .inl (cI, 16, .inl (M.1 63))),
  (P 64, .inl (cI, 16, .inl (M.1 64))),
  (P 65, .inr (12, [.int (M.1 65 0), .ref (P 66), .ref (P 67), .ref (P 68)])),
  (P 66, .inl (cI, 8, .inl (M.1 66))),
  (P 67, .inl (cI, 8, .inl (M.1 67))),
  (P 68, .inl (cI, 8, .inl (M.1 68))),
  (P 69, .inr (12, [.int (M.1 69 0), .ref (P 70), .ref (P 71), .ref (P 72)])),
  (P 70, .inl (cI, 40, .inl (M.1 70))),
  (P 71, .inl (cI, 40, .inl (M.1 71))),
  (P 72, .inl (cI, 40, .inl (M.1 72))),
  (P 73, .inr (2, [.ref (P 24), .ref (P 69), .ref (P 60), .ref (P 74), .ref (P 75), .ref (P 76), .int (M.1 73 6), .int (M.1 73 7), .int (M.1 73 8), .int (M.1 73 9)])),
  (P 74, .inl (cJ, 5000, .inr (.inl (M.2 74)))),
  (P 75, .inl (cJ, 5, .inr (.inl (M.2 75)))),
  (P 76, .inl (cI, 2048, .inl (M.1 76)))]
theorem gX_0 {cI cZ cC cJ cA : ClassId} {P : Nat → Nat} {M : Mm} : ((wX cI cZ cC cJ cA P) M)[0]? = some (P 0, .inr (0, [.ref (P 1), .ref (P 21), .ref (P 23), .ref (P 24), .ref (P 50), .ref (P 60), .ref (P 65), .ref (P 69), .ref (P 73)])) := rfl
theorem gX_1 {cI cZ cC cJ cA : ClassId} {P : Nat → Nat} {M : Mm} : ((wX cI cZ cC cJ cA P) M)[1]? = some (P 1, .inr (4, [.int (M.1 1 0), .ref (P 2), .ref (P 3), .ref (P 4), .ref (P 5), .ref (P 6), .int (M.1 1 6), .ref (P 7), .ref (P 8), .ref (P 9), .ref (P 10), .ref (P 11), .ref (P 12), .ref (P 13), .ref (P 14)])) := rfl
theorem sX_1_0 {cI cZ cC cJ cA : ClassId} {P : Nat → Nat} {M : Mm} : ∀ v : Int32, ((wX cI cZ cC cJ cA P) M).set 1 (P 1, .inr (4, ([.int (M.1 1 0), .ref (P 2), .ref (P 3), .ref (P 4), .ref (P 5), .ref (P 6), .int (M.1 1 6), .ref (P 7), .ref (P 8), .ref (P 9), .ref (P 10), .ref (P 11), .ref (P 12), .ref (P 13), .ref (P 14)] : List Value).set 0 (.int v))) = (wX cI cZ cC cJ cA P) (stI M 1 (upd (M.1 1) 0 v)) := fun _ => rfl
theorem sX_1_6 {cI cZ cC cJ cA : ClassId} {P : Nat → Nat} {M : Mm} : ∀ v : Int32, ((wX cI cZ cC cJ cA P) M).set 1 (P 1, .inr (4, ([.int (M.1 1 0), .ref (P 2), .ref (P 3), .ref (P 4), .ref (P 5), .ref (P 6), .int (M.1 1 6), .ref (P 7), .ref (P 8), .ref (P 9), .ref (P 10), .ref (P 11), .ref (P 12), .ref (P 13), .ref (P 14)] : List Value).set 6 (.int v))) = (wX cI cZ cC cJ cA P) (stI M 1 (upd (M.1 1) 6 v)) := fun _ => rfl
theorem gX_2 {cI cZ cC cJ cA : ClassId} {P : Nat → Nat} {M : Mm} : ((wX cI cZ cC cJ cA P) M)[2]? = some (P 2, .inl (cI, 16, .inl (M.1 2))) := rfl
theorem sX_2 {cI cZ cC cJ cA : ClassId} {P : Nat → Nat} {M : Mm} : ∀ f, ((wX cI cZ cC cJ cA P) M).set 2 (P 2, .inl (cI, 16, .inl f)) = (wX cI cZ cC cJ cA P) (stI M 2 f) := fun _ => rfl
theorem gX_3 {cI cZ cC cJ cA : ClassId} {P : Nat → Nat} {M : Mm} : ((wX cI cZ cC cJ cA P) M)[3]? = some (P 3, .inl (cI, 16, .inl (M.1 3))) := rfl
theorem sX_3 {cI cZ cC cJ cA : ClassId} {P : Nat → Nat} {M : Mm} : ∀ f, ((wX cI cZ cC cJ cA P) M).set 3 (P 3, .inl (cI, 16, .inl f)) = (wX cI cZ cC cJ cA P) (stI M 3 f) := fun _ => rfl
theorem gX_4 {cI cZ cC cJ cA : ClassId} {P : Nat → Nat} {M : Mm} : ((wX cI cZ cC cJ cA P) M)[4]? = some (P 4, .inl (cI, 16, .inl (M.1 4))) := rfl
theorem sX_4 {cI cZ cC cJ cA : ClassId} {P : Nat → Nat} {M : Mm} : ∀ f, ((wX cI cZ cC cJ cA P) M).set 4 (P 4, .inl (cI, 16, .inl f)) = (wX cI cZ cC cJ cA P) (stI M 4 f) := fun _ => rfl
theorem gX_5 {cI cZ cC cJ cA : ClassId} {P : Nat → Nat} {M : Mm} : ((wX cI cZ cC cJ cA P) M)[5]? = some (P 5, .inl (cI, 16, .inl (M.1 5))) := rfl
theorem sX_5 {cI cZ cC cJ cA : ClassId} {P : Nat → Nat} {M : Mm} : ∀ f, ((wX cI cZ cC cJ cA P) M).set 5 (P 5, .inl (cI, 16, .inl f)) = (wX cI cZ cC cJ cA P) (stI M 5 f) := fun _ => rfl
theorem gX_6 {cI cZ cC cJ cA : ClassId} {P : Nat → Nat} {M : Mm} : ((wX cI cZ cC cJ cA P) M)[6]? = some (P 6, .inl (cI, 16, .inl (M.1 6))) := rfl
theorem sX_6 {cI cZ cC cJ cA : ClassId} {P : Nat → Nat} {M : Mm} : ∀ f, ((wX cI cZ cC cJ cA P) M).set 6 (P 6, .inl (cI, 16, .inl f)) = (wX cI cZ cC cJ cA P) (stI M 6 f) := fun _ => rfl
theorem gX_7 {cI cZ cC cJ cA : ClassId} {P : Nat → Nat} {M : Mm} : ((wX cI cZ cC cJ cA P) M)[7]? = some (P 7, .inl (cI, 128, .inl (M.1 7))) := rfl
theorem sX_7 {cI cZ cC cJ cA : ClassId} {P : Nat → Nat} {M : Mm} : ∀ f, ((wX cI cZ cC cJ cA P) M).set 7 (P 7, .inl (cI, 128, .inl f)) = (wX cI cZ cC cJ cA P) (stI M 7 f) := fun _ => rfl
theorem gX_8 {cI cZ cC cJ cA : ClassId} {P : Nat → Nat} {M : Mm} : ((wX cI cZ cC cJ cA P) M)[8]? = some (P 8, .inl (cI, 128, .inl (M.1 8))) := rfl
theorem sX_8 {cI cZ cC cJ cA : ClassId} {P : Nat → Nat} {M : Mm} : ∀ f, ((wX cI cZ cC cJ cA P) M).set 8 (P 8, .inl (cI, 128, .inl f)) = (wX cI cZ cC cJ cA P) (stI M 8 f) := fun _ => rfl
theorem gX_9 {cI cZ cC cJ cA : ClassId} {P : Nat → Nat} {M : Mm} : ((wX cI cZ cC cJ cA P) M)[9]? = some (P 9, .inl (cI, 128, .inl (M.1 9))) := rfl
theorem sX_9 {cI cZ cC cJ cA : ClassId} {P : Nat → Nat} {M : Mm} : ∀ f, ((wX cI cZ cC cJ cA P) M).set 9 (P 9, .inl (cI, 128, .inl f)) = (wX cI cZ cC cJ cA P) (stI M 9 f) := fun _ => rfl
theorem gX_10 {cI cZ cC cJ cA : ClassId} {P : Nat → Nat} {M : Mm} : ((wX cI cZ cC cJ cA P) M)[10]? = some (P 10, .inl (cI, 128, .inl (M.1 10))) := rfl
theorem sX_10 {cI cZ cC cJ cA : ClassId} {P : Nat → Nat} {M : Mm} : ∀ f, ((wX cI cZ cC cJ cA P) M).set 10 (P 10, .inl (cI, 128, .inl f)) = (wX cI cZ cC cJ cA P) (stI M 10 f) := fun _ => rfl
theorem gX_11 {cI cZ cC cJ cA : ClassId} {P : Nat → Nat} {M : Mm} : ((wX cI cZ cC cJ cA P) M)[11]? = some (P 11, .inl (cI, 128, .inl (M.1 11))) := rfl
theorem sX_11 {cI cZ cC cJ cA : ClassId} {P : Nat → Nat} {M : Mm} : ∀ f, ((wX cI cZ cC cJ cA P) M).set 11 (P 11, .inl (cI, 128, .inl f)) = (wX cI cZ cC cJ cA P) (stI M 11 f) := fun _ => rfl
theorem gX_12 {cI cZ cC cJ cA : ClassId} {P : Nat → Nat} {M : Mm} : ((wX cI cZ cC cJ cA P) M)[12]? = some (P 12, .inl (cI, 128, .inl (M.1 12))) := rfl
theorem sX_12 {cI cZ cC cJ cA : ClassId} {P : Nat → Nat} {M : Mm} : ∀ f, ((wX cI cZ cC cJ cA P) M).set 12 (P 12, .inl (cI, 128, .inl f)) = (wX cI cZ cC cJ cA P) (stI M 12 f) := fun _ => rfl
theorem gX_13 {cI cZ cC cJ cA : ClassId} {P : Nat → Nat} {M : Mm} : ((wX cI cZ cC cJ cA P) M)[13]? = some (P 13, .inl (cI, 128, .inl (M.1 13))) := rfl
theorem sX_13 {cI cZ cC cJ cA : ClassId} {P : Nat → Nat} {M : Mm} : ∀ f, ((wX cI cZ cC cJ cA P) M).set 13 (P 13, .inl (cI, 128, .inl f)) = (wX cI cZ cC cJ cA P) (stI M 13 f) := fun _ => rfl
theorem gX_14 {cI cZ cC cJ cA : ClassId} {P : Nat → Nat} {M : Mm} : ((wX cI cZ cC cJ cA P) M)[14]? = some (P 14, .inr (11, [.int (M.1 14 0), .ref (P 15), .ref (P 16), .ref (P 17), .ref (P 18), .ref (P 19), .ref (P 20)])) := rfl
theorem sX_14_0 {cI cZ cC cJ cA : ClassId} {P : Nat → Nat} {M : Mm} : ∀ v : Int32, ((wX cI cZ cC cJ cA P) M).set 14 (P 14, .inr (11, ([.int (M.1 14 0), .ref (P 15), .ref (P 16), .ref (P 17), .ref (P 18), .ref (P 19), .ref (P 20)] : List Value).set 0 (.int v))) = (wX cI cZ cC cJ cA P) (stI M 14 (upd (M.1 14) 0 v)) := fun _ => rfl
theorem gX_15 {cI cZ cC cJ cA : ClassId} {P : Nat → Nat} {M : Mm} : ((wX cI cZ cC cJ cA P) M)[15]? = some (P 15, .inl (cI, 12, .inl (M.1 15))) := rfl
theorem sX_15 {cI cZ cC cJ cA : ClassId} {P : Nat → Nat} {M : Mm} : ∀ f, ((wX cI cZ cC cJ cA P) M).set 15 (P 15, .inl (cI, 12, .inl f)) = (wX cI cZ cC cJ cA P) (stI M 15 f) := fun _ => rfl
theorem gX_16 {cI cZ cC cJ cA : ClassId} {P : Nat → Nat} {M : Mm} : ((wX cI cZ cC cJ cA P) M)[16]? = some (P 16, .inl (cI, 12, .inl (M.1 16))) := rfl
theorem sX_16 {cI cZ cC cJ cA : ClassId} {P : Nat → Nat} {M : Mm} : ∀ f, ((wX cI cZ cC cJ cA P) M).set 16 (P 16, .inl (cI, 12, .inl f)) = (wX cI cZ cC cJ cA P) (stI M 16 f) := fun _ => rfl
theorem gX_17 {cI cZ cC cJ cA : ClassId} {P : Nat → Nat} {M : Mm} : ((wX cI cZ cC cJ cA P) M)[17]? = some (P 17, .inl (cI, 12, .inl (M.1 17))) := rfl
theorem sX_17 {cI cZ cC cJ cA : ClassId} {P : Nat → Nat} {M : Mm} : ∀ f, ((wX cI cZ cC cJ cA P) M).set 17 (P 17, .inl (cI, 12, .inl f)) = (wX cI cZ cC cJ cA P) (stI M 17 f) := fun _ => rfl
theorem gX_18 {cI cZ cC cJ cA : ClassId} {P : Nat → Nat} {M : Mm} : ((wX cI cZ cC cJ cA P) M)[18]? = some (P 18, .inl (cI, 12, .inl (M.1 18))) := rfl
theorem sX_18 {cI cZ cC cJ cA : ClassId} {P : Nat → Nat} {M : Mm} : ∀ f, ((wX cI cZ cC cJ cA P) M).set 18 (P 18, .inl (cI, 12, .inl f)) = (wX cI cZ cC cJ cA P) (stI M 18 f) := fun _ => rfl
theorem gX_19 {cI cZ cC cJ cA : ClassId} {P : Nat → Nat} {M : Mm} : ((wX cI cZ cC cJ cA P) M)[19]? = some (P 19, .inl (cI, 12, .inl (M.1 19))) := rfl
theorem sX_19 {cI cZ cC cJ cA : ClassId} {P : Nat → Nat} {M : Mm} : ∀ f, ((wX cI cZ cC cJ cA P) M).set 19 (P 19, .inl (cI, 12, .inl f)) = (wX cI cZ cC cJ cA P) (stI M 19 f) := fun _ => rfl
theorem gX_20 {cI cZ cC cJ cA : ClassId} {P : Nat → Nat} {M : Mm} : ((wX cI cZ cC cJ cA P) M)[20]? = some (P 20, .inl (cI, 12, .inl (M.1 20))) := rfl
theorem sX_20 {cI cZ cC cJ cA : ClassId} {P : Nat → Nat} {M : Mm} : ∀ f, ((wX cI cZ cC cJ cA P) M).set 20 (P 20, .inl (cI, 12, .inl f)) = (wX cI cZ cC cJ cA P) (stI M 20 f) := fun _ => rfl
theorem gX_21 {cI cZ cC cJ cA : ClassId} {P : Nat → Nat} {M : Mm} : ((wX cI cZ cC cJ cA P) M)[21]? = some (P 21, .inr (10, [.ref (P 1), .ref (P 22), .int (M.1 21 2), .int (M.1 21 3)])) := rfl
theorem sX_21_2 {cI cZ cC cJ cA : ClassId} {P : Nat → Nat} {M : Mm} : ∀ v : Int32, ((wX cI cZ cC cJ cA P) M).set 21 (P 21, .inr (10, ([.ref (P 1), .ref (P 22), .int (M.1 21 2), .int (M.1 21 3)] : List Value).set 2 (.int v))) = (wX cI cZ cC cJ cA P) (stI M 21 (upd (M.1 21) 2 v)) := fun _ => rfl
theorem sX_21_3 {cI cZ cC cJ cA : ClassId} {P : Nat → Nat} {M : Mm} : ∀ v : Int32, ((wX cI cZ cC cJ cA P) M).set 21 (P 21, .inr (10, ([.ref (P 1), .ref (P 22), .int (M.1 21 2), .int (M.1 21 3)] : List Value).set 3 (.int v))) = (wX cI cZ cC cJ cA P) (stI M 21 (upd (M.1 21) 3 v)) := fun _ => rfl
theorem gX_22 {cI cZ cC cJ cA : ClassId} {P : Nat → Nat} {M : Mm} : ((wX cI cZ cC cJ cA P) M)[22]? = some (P 22, .inl (cC, 480, .inl (M.1 22))) := rfl
theorem sX_22 {cI cZ cC cJ cA : ClassId} {P : Nat → Nat} {M : Mm} : ∀ f, ((wX cI cZ cC cJ cA P) M).set 22 (P 22, .inl (cC, 480, .inl f)) = (wX cI cZ cC cJ cA P) (stI M 22 f) := fun _ => rfl
theorem gX_23 {cI cZ cC cJ cA : ClassId} {P : Nat → Nat} {M : Mm} : ((wX cI cZ cC cJ cA P) M)[23]? = some (P 23, .inr (5, [.ref (P 1), .int (M.1 23 1), .int (M.1 23 2)])) := rfl
theorem sX_23_1 {cI cZ cC cJ cA : ClassId} {P : Nat → Nat} {M : Mm} : ∀ v : Int32, ((wX cI cZ cC cJ cA P) M).set 23 (P 23, .inr (5, ([.ref (P 1), .int (M.1 23 1), .int (M.1 23 2)] : List Value).set 1 (.int v))) = (wX cI cZ cC cJ cA P) (stI M 23 (upd (M.1 23) 1 v)) := fun _ => rfl
theorem sX_23_2 {cI cZ cC cJ cA : ClassId} {P : Nat → Nat} {M : Mm} : ∀ v : Int32, ((wX cI cZ cC cJ cA P) M).set 23 (P 23, .inr (5, ([.ref (P 1), .int (M.1 23 1), .int (M.1 23 2)] : List Value).set 2 (.int v))) = (wX cI cZ cC cJ cA P) (stI M 23 (upd (M.1 23) 2 v)) := fun _ => rfl
theorem gX_24 {cI cZ cC cJ cA : ClassId} {P : Nat → Nat} {M : Mm} : ((wX cI cZ cC cJ cA P) M)[24]? = some (P 24, .inr (6, [.int (M.1 24 0), .ref (P 25), .ref (P 26), .ref (P 27), .ref (P 28), .ref (P 29), .ref (P 30), .ref (P 38), .ref (P 39), .ref (P 40), .ref (P 41), .ref (P 42), .ref (P 43)])) := rfl
theorem sX_24_0 {cI cZ cC cJ cA : ClassId} {P : Nat → Nat} {M : Mm} : ∀ v : Int32, ((wX cI cZ cC cJ cA P) M).set 24 (P 24, .inr (6, ([.int (M.1 24 0), .ref (P 25), .ref (P 26), .ref (P 27), .ref (P 28), .ref (P 29), .ref (P 30), .ref (P 38), .ref (P 39), .ref (P 40), .ref (P 41), .ref (P 42), .ref (P 43)] : List Value).set 0 (.int v))) = (wX cI cZ cC cJ cA P) (stI M 24 (upd (M.1 24) 0 v)) := fun _ => rfl
theorem gX_25 {cI cZ cC cJ cA : ClassId} {P : Nat → Nat} {M : Mm} : ((wX cI cZ cC cJ cA P) M)[25]? = some (P 25, .inl (cI, 16, .inl (M.1 25))) := rfl
theorem sX_25 {cI cZ cC cJ cA : ClassId} {P : Nat → Nat} {M : Mm} : ∀ f, ((wX cI cZ cC cJ cA P) M).set 25 (P 25, .inl (cI, 16, .inl f)) = (wX cI cZ cC cJ cA P) (stI M 25 f) := fun _ => rfl
theorem gX_26 {cI cZ cC cJ cA : ClassId} {P : Nat → Nat} {M : Mm} : ((wX cI cZ cC cJ cA P) M)[26]? = some (P 26, .inl (cI, 16, .inl (M.1 26))) := rfl
theorem sX_26 {cI cZ cC cJ cA : ClassId} {P : Nat → Nat} {M : Mm} : ∀ f, ((wX cI cZ cC cJ cA P) M).set 26 (P 26, .inl (cI, 16, .inl f)) = (wX cI cZ cC cJ cA P) (stI M 26 f) := fun _ => rfl
theorem gX_27 {cI cZ cC cJ cA : ClassId} {P : Nat → Nat} {M : Mm} : ((wX cI cZ cC cJ cA P) M)[27]? = some (P 27, .inl (cI, 16, .inl (M.1 27))) := rfl
theorem sX_27 {cI cZ cC cJ cA : ClassId} {P : Nat → Nat} {M : Mm} : ∀ f, ((wX cI cZ cC cJ cA P) M).set 27 (P 27, .inl (cI, 16, .inl f)) = (wX cI cZ cC cJ cA P) (stI M 27 f) := fun _ => rfl
theorem gX_28 {cI cZ cC cJ cA : ClassId} {P : Nat → Nat} {M : Mm} : ((wX cI cZ cC cJ cA P) M)[28]? = some (P 28, .inl (cI, 16, .inl (M.1 28))) := rfl
theorem sX_28 {cI cZ cC cJ cA : ClassId} {P : Nat → Nat} {M : Mm} : ∀ f, ((wX cI cZ cC cJ cA P) M).set 28 (P 28, .inl (cI, 16, .inl f)) = (wX cI cZ cC cJ cA P) (stI M 28 f) := fun _ => rfl
theorem gX_29 {cI cZ cC cJ cA : ClassId} {P : Nat → Nat} {M : Mm} : ((wX cI cZ cC cJ cA P) M)[29]? = some (P 29, .inl (cI, 16, .inl (M.1 29))) := rfl
theorem sX_29 {cI cZ cC cJ cA : ClassId} {P : Nat → Nat} {M : Mm} : ∀ f, ((wX cI cZ cC cJ cA P) M).set 29 (P 29, .inl (cI, 16, .inl f)) = (wX cI cZ cC cJ cA P) (stI M 29 f) := fun _ => rfl
theorem gX_30 {cI cZ cC cJ cA : ClassId} {P : Nat → Nat} {M : Mm} : ((wX cI cZ cC cJ cA P) M)[30]? = some (P 30, .inl (cA, 7, .inr (.inr (.inr (.inr (fun i => some (P (31 + i)))))))) := rfl
theorem gX_b {cI cZ cC cJ cA : ClassId} {P : Nat → Nat} {M : Mm} {j : Nat} (hj : j < 7) : ((wX cI cZ cC cJ cA P) M)[31 + j]? = some (P (31 + j), .inl (cI, 16, .inl (M.1 (31 + j)))) := by
  have h : j = 0 ∨ j = 1 ∨ j = 2 ∨ j = 3 ∨ j = 4 ∨ j = 5 ∨ j = 6 := by omega
  rcases h with rfl | rfl | rfl | rfl | rfl | rfl | rfl <;> rfl
theorem sX_b {cI cZ cC cJ cA : ClassId} {P : Nat → Nat} {M : Mm} {j : Nat} (hj : j < 7) : ∀ f, ((wX cI cZ cC cJ cA P) M).set (31 + j) (P (31 + j), .inl (cI, 16, .inl f)) = (wX cI cZ cC cJ cA P) (stI M (31 + j) f) := by
  have h : j = 0 ∨ j = 1 ∨ j = 2 ∨ j = 3 ∨ j = 4 ∨ j = 5 ∨ j = 6 := by omega
  rcases h with rfl | rfl | rfl | rfl | rfl | rfl | rfl <;> exact fun _ => rfl
theorem gX_31 {cI cZ cC cJ cA : ClassId} {P : Nat → Nat} {M : Mm} : ((wX cI cZ cC cJ cA P) M)[31]? = some (P 31, .inl (cI, 16, .inl (M.1 31))) := rfl
theorem sX_31 {cI cZ cC cJ cA : ClassId} {P : Nat → Nat} {M : Mm} : ∀ f, ((wX cI cZ cC cJ cA P) M).set 31 (P 31, .inl (cI, 16, .inl f)) = (wX cI cZ cC cJ cA P) (stI M 31 f) := fun _ => rfl
theorem gX_32 {cI cZ cC cJ cA : ClassId} {P : Nat → Nat} {M : Mm} : ((wX cI cZ cC cJ cA P) M)[32]? = some (P 32, .inl (cI, 16, .inl (M.1 32))) := rfl
theorem sX_32 {cI cZ cC cJ cA : ClassId} {P : Nat → Nat} {M : Mm} : ∀ f, ((wX cI cZ cC cJ cA P) M).set 32 (P 32, .inl (cI, 16, .inl f)) = (wX cI cZ cC cJ cA P) (stI M 32 f) := fun _ => rfl
theorem gX_33 {cI cZ cC cJ cA : ClassId} {P : Nat → Nat} {M : Mm} : ((wX cI cZ cC cJ cA P) M)[33]? = some (P 33, .inl (cI, 16, .inl (M.1 33))) := rfl
theorem sX_33 {cI cZ cC cJ cA : ClassId} {P : Nat → Nat} {M : Mm} : ∀ f, ((wX cI cZ cC cJ cA P) M).set 33 (P 33, .inl (cI, 16, .inl f)) = (wX cI cZ cC cJ cA P) (stI M 33 f) := fun _ => rfl
theorem gX_34 {cI cZ cC cJ cA : ClassId} {P : Nat → Nat} {M : Mm} : ((wX cI cZ cC cJ cA P) M)[34]? = some (P 34, .inl (cI, 16, .inl (M.1 34))) := rfl
theorem sX_34 {cI cZ cC cJ cA : ClassId} {P : Nat → Nat} {M : Mm} : ∀ f, ((wX cI cZ cC cJ cA P) M).set 34 (P 34, .inl (cI, 16, .inl f)) = (wX cI cZ cC cJ cA P) (stI M 34 f) := fun _ => rfl
theorem gX_35 {cI cZ cC cJ cA : ClassId} {P : Nat → Nat} {M : Mm} : ((wX cI cZ cC cJ cA P) M)[35]? = some (P 35, .inl (cI, 16, .inl (M.1 35))) := rfl
theorem sX_35 {cI cZ cC cJ cA : ClassId} {P : Nat → Nat} {M : Mm} : ∀ f, ((wX cI cZ cC cJ cA P) M).set 35 (P 35, .inl (cI, 16, .inl f)) = (wX cI cZ cC cJ cA P) (stI M 35 f) := fun _ => rfl
theorem gX_36 {cI cZ cC cJ cA : ClassId} {P : Nat → Nat} {M : Mm} : ((wX cI cZ cC cJ cA P) M)[36]? = some (P 36, .inl (cI, 16, .inl (M.1 36))) := rfl
theorem sX_36 {cI cZ cC cJ cA : ClassId} {P : Nat → Nat} {M : Mm} : ∀ f, ((wX cI cZ cC cJ cA P) M).set 36 (P 36, .inl (cI, 16, .inl f)) = (wX cI cZ cC cJ cA P) (stI M 36 f) := fun _ => rfl
theorem gX_37 {cI cZ cC cJ cA : ClassId} {P : Nat → Nat} {M : Mm} : ((wX cI cZ cC cJ cA P) M)[37]? = some (P 37, .inl (cI, 16, .inl (M.1 37))) := rfl
theorem sX_37 {cI cZ cC cJ cA : ClassId} {P : Nat → Nat} {M : Mm} : ∀ f, ((wX cI cZ cC cJ cA P) M).set 37 (P 37, .inl (cI, 16, .inl f)) = (wX cI cZ cC cJ cA P) (stI M 37 f) := fun _ => rfl
theorem gX_38 {cI cZ cC cJ cA : ClassId} {P : Nat → Nat} {M : Mm} : ((wX cI cZ cC cJ cA P) M)[38]? = some (P 38, .inl (cI, 26, .inl (M.1 38))) := rfl
theorem sX_38 {cI cZ cC cJ cA : ClassId} {P : Nat → Nat} {M : Mm} : ∀ f, ((wX cI cZ cC cJ cA P) M).set 38 (P 38, .inl (cI, 26, .inl f)) = (wX cI cZ cC cJ cA P) (stI M 38 f) := fun _ => rfl
theorem gX_39 {cI cZ cC cJ cA : ClassId} {P : Nat → Nat} {M : Mm} : ((wX cI cZ cC cJ cA P) M)[39]? = some (P 39, .inl (cI, 26, .inl (M.1 39))) := rfl
theorem sX_39 {cI cZ cC cJ cA : ClassId} {P : Nat → Nat} {M : Mm} : ∀ f, ((wX cI cZ cC cJ cA P) M).set 39 (P 39, .inl (cI, 26, .inl f)) = (wX cI cZ cC cJ cA P) (stI M 39 f) := fun _ => rfl
theorem gX_40 {cI cZ cC cJ cA : ClassId} {P : Nat → Nat} {M : Mm} : ((wX cI cZ cC cJ cA P) M)[40]? = some (P 40, .inl (cI, 26, .inl (M.1 40))) := rfl
theorem sX_40 {cI cZ cC cJ cA : ClassId} {P : Nat → Nat} {M : Mm} : ∀ f, ((wX cI cZ cC cJ cA P) M).set 40 (P 40, .inl (cI, 26, .inl f)) = (wX cI cZ cC cJ cA P) (stI M 40 f) := fun _ => rfl
theorem gX_41 {cI cZ cC cJ cA : ClassId} {P : Nat → Nat} {M : Mm} : ((wX cI cZ cC cJ cA P) M)[41]? = some (P 41, .inl (cI, 26, .inl (M.1 41))) := rfl
theorem sX_41 {cI cZ cC cJ cA : ClassId} {P : Nat → Nat} {M : Mm} : ∀ f, ((wX cI cZ cC cJ cA P) M).set 41 (P 41, .inl (cI, 26, .inl f)) = (wX cI cZ cC cJ cA P) (stI M 41 f) := fun _ => rfl
theorem gX_42 {cI cZ cC cJ cA : ClassId} {P : Nat → Nat} {M : Mm} : ((wX cI cZ cC cJ cA P) M)[42]? = some (P 42, .inl (cI, 26, .inl (M.1 42))) := rfl
theorem sX_42 {cI cZ cC cJ cA : ClassId} {P : Nat → Nat} {M : Mm} : ∀ f, ((wX cI cZ cC cJ cA P) M).set 42 (P 42, .inl (cI, 26, .inl f)) = (wX cI cZ cC cJ cA P) (stI M 42 f) := fun _ => rfl
theorem gX_43 {cI cZ cC cJ cA : ClassId} {P : Nat → Nat} {M : Mm} : ((wX cI cZ cC cJ cA P) M)[43]? = some (P 43, .inr (11, [.int (M.1 43 0), .ref (P 44), .ref (P 45), .ref (P 46), .ref (P 47), .ref (P 48), .ref (P 49)])) := rfl
theorem sX_43_0 {cI cZ cC cJ cA : ClassId} {P : Nat → Nat} {M : Mm} : ∀ v : Int32, ((wX cI cZ cC cJ cA P) M).set 43 (P 43, .inr (11, ([.int (M.1 43 0), .ref (P 44), .ref (P 45), .ref (P 46), .ref (P 47), .ref (P 48), .ref (P 49)] : List Value).set 0 (.int v))) = (wX cI cZ cC cJ cA P) (stI M 43 (upd (M.1 43) 0 v)) := fun _ => rfl
theorem gX_44 {cI cZ cC cJ cA : ClassId} {P : Nat → Nat} {M : Mm} : ((wX cI cZ cC cJ cA P) M)[44]? = some (P 44, .inl (cI, 12, .inl (M.1 44))) := rfl
theorem sX_44 {cI cZ cC cJ cA : ClassId} {P : Nat → Nat} {M : Mm} : ∀ f, ((wX cI cZ cC cJ cA P) M).set 44 (P 44, .inl (cI, 12, .inl f)) = (wX cI cZ cC cJ cA P) (stI M 44 f) := fun _ => rfl
theorem gX_45 {cI cZ cC cJ cA : ClassId} {P : Nat → Nat} {M : Mm} : ((wX cI cZ cC cJ cA P) M)[45]? = some (P 45, .inl (cI, 12, .inl (M.1 45))) := rfl
theorem sX_45 {cI cZ cC cJ cA : ClassId} {P : Nat → Nat} {M : Mm} : ∀ f, ((wX cI cZ cC cJ cA P) M).set 45 (P 45, .inl (cI, 12, .inl f)) = (wX cI cZ cC cJ cA P) (stI M 45 f) := fun _ => rfl
theorem gX_46 {cI cZ cC cJ cA : ClassId} {P : Nat → Nat} {M : Mm} : ((wX cI cZ cC cJ cA P) M)[46]? = some (P 46, .inl (cI, 12, .inl (M.1 46))) := rfl
theorem sX_46 {cI cZ cC cJ cA : ClassId} {P : Nat → Nat} {M : Mm} : ∀ f, ((wX cI cZ cC cJ cA P) M).set 46 (P 46, .inl (cI, 12, .inl f)) = (wX cI cZ cC cJ cA P) (stI M 46 f) := fun _ => rfl
theorem gX_47 {cI cZ cC cJ cA : ClassId} {P : Nat → Nat} {M : Mm} : ((wX cI cZ cC cJ cA P) M)[47]? = some (P 47, .inl (cI, 12, .inl (M.1 47))) := rfl
theorem sX_47 {cI cZ cC cJ cA : ClassId} {P : Nat → Nat} {M : Mm} : ∀ f, ((wX cI cZ cC cJ cA P) M).set 47 (P 47, .inl (cI, 12, .inl f)) = (wX cI cZ cC cJ cA P) (stI M 47 f) := fun _ => rfl
theorem gX_48 {cI cZ cC cJ cA : ClassId} {P : Nat → Nat} {M : Mm} : ((wX cI cZ cC cJ cA P) M)[48]? = some (P 48, .inl (cI, 12, .inl (M.1 48))) := rfl
theorem sX_48 {cI cZ cC cJ cA : ClassId} {P : Nat → Nat} {M : Mm} : ∀ f, ((wX cI cZ cC cJ cA P) M).set 48 (P 48, .inl (cI, 12, .inl f)) = (wX cI cZ cC cJ cA P) (stI M 48 f) := fun _ => rfl
theorem gX_49 {cI cZ cC cJ cA : ClassId} {P : Nat → Nat} {M : Mm} : ((wX cI cZ cC cJ cA P) M)[49]? = some (P 49, .inl (cI, 12, .inl (M.1 49))) := rfl
theorem sX_49 {cI cZ cC cJ cA : ClassId} {P : Nat → Nat} {M : Mm} : ∀ f, ((wX cI cZ cC cJ cA P) M).set 49 (P 49, .inl (cI, 12, .inl f)) = (wX cI cZ cC cJ cA P) (stI M 49 f) := fun _ => rfl
theorem gX_50 {cI cZ cC cJ cA : ClassId} {P : Nat → Nat} {M : Mm} : ((wX cI cZ cC cJ cA P) M)[50]? = some (P 50, .inr (3, [.ref (P 24), .ref (P 51), .ref (P 53), .int (M.1 50 3), .ref (P 57), .ref (P 58), .ref (P 59)])) := rfl
theorem sX_50_3 {cI cZ cC cJ cA : ClassId} {P : Nat → Nat} {M : Mm} : ∀ v : Int32, ((wX cI cZ cC cJ cA P) M).set 50 (P 50, .inr (3, ([.ref (P 24), .ref (P 51), .ref (P 53), .int (M.1 50 3), .ref (P 57), .ref (P 58), .ref (P 59)] : List Value).set 3 (.int v))) = (wX cI cZ cC cJ cA P) (stI M 50 (upd (M.1 50) 3 v)) := fun _ => rfl
theorem gX_51 {cI cZ cC cJ cA : ClassId} {P : Nat → Nat} {M : Mm} : ((wX cI cZ cC cJ cA P) M)[51]? = some (P 51, .inr (8, [.ref (P 24), .ref (P 52), .int (M.1 51 2)])) := rfl
theorem sX_51_2 {cI cZ cC cJ cA : ClassId} {P : Nat → Nat} {M : Mm} : ∀ v : Int32, ((wX cI cZ cC cJ cA P) M).set 51 (P 51, .inr (8, ([.ref (P 24), .ref (P 52), .int (M.1 51 2)] : List Value).set 2 (.int v))) = (wX cI cZ cC cJ cA P) (stI M 51 (upd (M.1 51) 2 v)) := fun _ => rfl
theorem gX_52 {cI cZ cC cJ cA : ClassId} {P : Nat → Nat} {M : Mm} : ((wX cI cZ cC cJ cA P) M)[52]? = some (P 52, .inl (cI, 16, .inl (M.1 52))) := rfl
theorem sX_52 {cI cZ cC cJ cA : ClassId} {P : Nat → Nat} {M : Mm} : ∀ f, ((wX cI cZ cC cJ cA P) M).set 52 (P 52, .inl (cI, 16, .inl f)) = (wX cI cZ cC cJ cA P) (stI M 52 f) := fun _ => rfl
theorem gX_53 {cI cZ cC cJ cA : ClassId} {P : Nat → Nat} {M : Mm} : ((wX cI cZ cC cJ cA P) M)[53]? = some (P 53, .inr (7, [.int (M.1 53 0), .ref (P 54), .ref (P 55), .ref (P 56)])) := rfl
theorem sX_53_0 {cI cZ cC cJ cA : ClassId} {P : Nat → Nat} {M : Mm} : ∀ v : Int32, ((wX cI cZ cC cJ cA P) M).set 53 (P 53, .inr (7, ([.int (M.1 53 0), .ref (P 54), .ref (P 55), .ref (P 56)] : List Value).set 0 (.int v))) = (wX cI cZ cC cJ cA P) (stI M 53 (upd (M.1 53) 0 v)) := fun _ => rfl
theorem gX_54 {cI cZ cC cJ cA : ClassId} {P : Nat → Nat} {M : Mm} : ((wX cI cZ cC cJ cA P) M)[54]? = some (P 54, .inl (cI, 64, .inl (M.1 54))) := rfl
theorem sX_54 {cI cZ cC cJ cA : ClassId} {P : Nat → Nat} {M : Mm} : ∀ f, ((wX cI cZ cC cJ cA P) M).set 54 (P 54, .inl (cI, 64, .inl f)) = (wX cI cZ cC cJ cA P) (stI M 54 f) := fun _ => rfl
theorem gX_55 {cI cZ cC cJ cA : ClassId} {P : Nat → Nat} {M : Mm} : ((wX cI cZ cC cJ cA P) M)[55]? = some (P 55, .inl (cI, 64, .inl (M.1 55))) := rfl
theorem sX_55 {cI cZ cC cJ cA : ClassId} {P : Nat → Nat} {M : Mm} : ∀ f, ((wX cI cZ cC cJ cA P) M).set 55 (P 55, .inl (cI, 64, .inl f)) = (wX cI cZ cC cJ cA P) (stI M 55 f) := fun _ => rfl
theorem gX_56 {cI cZ cC cJ cA : ClassId} {P : Nat → Nat} {M : Mm} : ((wX cI cZ cC cJ cA P) M)[56]? = some (P 56, .inl (cI, 64, .inl (M.1 56))) := rfl
theorem sX_56 {cI cZ cC cJ cA : ClassId} {P : Nat → Nat} {M : Mm} : ∀ f, ((wX cI cZ cC cJ cA P) M).set 56 (P 56, .inl (cI, 64, .inl f)) = (wX cI cZ cC cJ cA P) (stI M 56 f) := fun _ => rfl
theorem gX_57 {cI cZ cC cJ cA : ClassId} {P : Nat → Nat} {M : Mm} : ((wX cI cZ cC cJ cA P) M)[57]? = some (P 57, .inl (cI, 16, .inl (M.1 57))) := rfl
theorem sX_57 {cI cZ cC cJ cA : ClassId} {P : Nat → Nat} {M : Mm} : ∀ f, ((wX cI cZ cC cJ cA P) M).set 57 (P 57, .inl (cI, 16, .inl f)) = (wX cI cZ cC cJ cA P) (stI M 57 f) := fun _ => rfl
theorem gX_58 {cI cZ cC cJ cA : ClassId} {P : Nat → Nat} {M : Mm} : ((wX cI cZ cC cJ cA P) M)[58]? = some (P 58, .inl (cI, 16, .inl (M.1 58))) := rfl
theorem sX_58 {cI cZ cC cJ cA : ClassId} {P : Nat → Nat} {M : Mm} : ∀ f, ((wX cI cZ cC cJ cA P) M).set 58 (P 58, .inl (cI, 16, .inl f)) = (wX cI cZ cC cJ cA P) (stI M 58 f) := fun _ => rfl
theorem gX_59 {cI cZ cC cJ cA : ClassId} {P : Nat → Nat} {M : Mm} : ((wX cI cZ cC cJ cA P) M)[59]? = some (P 59, .inl (cI, 26, .inl (M.1 59))) := rfl
theorem sX_59 {cI cZ cC cJ cA : ClassId} {P : Nat → Nat} {M : Mm} : ∀ f, ((wX cI cZ cC cJ cA P) M).set 59 (P 59, .inl (cI, 26, .inl f)) = (wX cI cZ cC cJ cA P) (stI M 59 f) := fun _ => rfl
theorem gX_60 {cI cZ cC cJ cA : ClassId} {P : Nat → Nat} {M : Mm} : ((wX cI cZ cC cJ cA P) M)[60]? = some (P 60, .inr (9, [.ref (P 24), .ref (P 61), .int (M.1 60 2), .ref (P 63), .ref (P 64), .int (M.1 60 5)])) := rfl
theorem sX_60_2 {cI cZ cC cJ cA : ClassId} {P : Nat → Nat} {M : Mm} : ∀ v : Int32, ((wX cI cZ cC cJ cA P) M).set 60 (P 60, .inr (9, ([.ref (P 24), .ref (P 61), .int (M.1 60 2), .ref (P 63), .ref (P 64), .int (M.1 60 5)] : List Value).set 2 (.int v))) = (wX cI cZ cC cJ cA P) (stI M 60 (upd (M.1 60) 2 v)) := fun _ => rfl
theorem sX_60_5 {cI cZ cC cJ cA : ClassId} {P : Nat → Nat} {M : Mm} : ∀ v : Int32, ((wX cI cZ cC cJ cA P) M).set 60 (P 60, .inr (9, ([.ref (P 24), .ref (P 61), .int (M.1 60 2), .ref (P 63), .ref (P 64), .int (M.1 60 5)] : List Value).set 5 (.int v))) = (wX cI cZ cC cJ cA P) (stI M 60 (upd (M.1 60) 5 v)) := fun _ => rfl
theorem gX_61 {cI cZ cC cJ cA : ClassId} {P : Nat → Nat} {M : Mm} : ((wX cI cZ cC cJ cA P) M)[61]? = some (P 61, .inr (8, [.ref (P 24), .ref (P 62), .int (M.1 61 2)])) := rfl
theorem sX_61_2 {cI cZ cC cJ cA : ClassId} {P : Nat → Nat} {M : Mm} : ∀ v : Int32, ((wX cI cZ cC cJ cA P) M).set 61 (P 61, .inr (8, ([.ref (P 24), .ref (P 62), .int (M.1 61 2)] : List Value).set 2 (.int v))) = (wX cI cZ cC cJ cA P) (stI M 61 (upd (M.1 61) 2 v)) := fun _ => rfl
theorem gX_62 {cI cZ cC cJ cA : ClassId} {P : Nat → Nat} {M : Mm} : ((wX cI cZ cC cJ cA P) M)[62]? = some (P 62, .inl (cI, 16, .inl (M.1 62))) := rfl
theorem sX_62 {cI cZ cC cJ cA : ClassId} {P : Nat → Nat} {M : Mm} : ∀ f, ((wX cI cZ cC cJ cA P) M).set 62 (P 62, .inl (cI, 16, .inl f)) = (wX cI cZ cC cJ cA P) (stI M 62 f) := fun _ => rfl
theorem gX_63 {cI cZ cC cJ cA : ClassId} {P : Nat → Nat} {M : Mm} : ((wX cI cZ cC cJ cA P) M)[63]? = some (P 63, .inl (cI, 16, .inl (M.1 63))) := rfl
theorem sX_63 {cI cZ cC cJ cA : ClassId} {P : Nat → Nat} {M : Mm} : ∀ f, ((wX cI cZ cC cJ cA P) M).set 63 (P 63, .inl (cI, 16, .inl f)) = (wX cI cZ cC cJ cA P) (stI M 63 f) := fun _ => rfl
theorem gX_64 {cI cZ cC cJ cA : ClassId} {P : Nat → Nat} {M : Mm} : ((wX cI cZ cC cJ cA P) M)[64]? = some (P 64, .inl (cI, 16, .inl (M.1 64))) := rfl
theorem sX_64 {cI cZ cC cJ cA : ClassId} {P : Nat → Nat} {M : Mm} : ∀ f, ((wX cI cZ cC cJ cA P) M).set 64 (P 64, .inl (cI, 16, .inl f)) = (wX cI cZ cC cJ cA P) (stI M 64 f) := fun _ => rfl
theorem gX_65 {cI cZ cC cJ cA : ClassId} {P : Nat → Nat} {M : Mm} : ((wX cI cZ cC cJ cA P) M)[65]? = some (P 65, .inr (12, [.int (M.1 65 0), .ref (P 66), .ref (P 67), .ref (P 68)])) := rfl
theorem sX_65_0 {cI cZ cC cJ cA : ClassId} {P : Nat → Nat} {M : Mm} : ∀ v : Int32, ((wX cI cZ cC cJ cA P) M).set 65 (P 65, .inr (12, ([.int (M.1 65 0), .ref (P 66), .ref (P 67), .ref (P 68)] : List Value).set 0 (.int v))) = (wX cI cZ cC cJ cA P) (stI M 65 (upd (M.1 65) 0 v)) := fun _ => rfl
theorem gX_66 {cI cZ cC cJ cA : ClassId} {P : Nat → Nat} {M : Mm} : ((wX cI cZ cC cJ cA P) M)[66]? = some (P 66, .inl (cI, 8, .inl (M.1 66))) := rfl
theorem sX_66 {cI cZ cC cJ cA : ClassId} {P : Nat → Nat} {M : Mm} : ∀ f, ((wX cI cZ cC cJ cA P) M).set 66 (P 66, .inl (cI, 8, .inl f)) = (wX cI cZ cC cJ cA P) (stI M 66 f) := fun _ => rfl
theorem gX_67 {cI cZ cC cJ cA : ClassId} {P : Nat → Nat} {M : Mm} : ((wX cI cZ cC cJ cA P) M)[67]? = some (P 67, .inl (cI, 8, .inl (M.1 67))) := rfl
theorem sX_67 {cI cZ cC cJ cA : ClassId} {P : Nat → Nat} {M : Mm} : ∀ f, ((wX cI cZ cC cJ cA P) M).set 67 (P 67, .inl (cI, 8, .inl f)) = (wX cI cZ cC cJ cA P) (stI M 67 f) := fun _ => rfl
theorem gX_68 {cI cZ cC cJ cA : ClassId} {P : Nat → Nat} {M : Mm} : ((wX cI cZ cC cJ cA P) M)[68]? = some (P 68, .inl (cI, 8, .inl (M.1 68))) := rfl
theorem sX_68 {cI cZ cC cJ cA : ClassId} {P : Nat → Nat} {M : Mm} : ∀ f, ((wX cI cZ cC cJ cA P) M).set 68 (P 68, .inl (cI, 8, .inl f)) = (wX cI cZ cC cJ cA P) (stI M 68 f) := fun _ => rfl
theorem gX_69 {cI cZ cC cJ cA : ClassId} {P : Nat → Nat} {M : Mm} : ((wX cI cZ cC cJ cA P) M)[69]? = some (P 69, .inr (12, [.int (M.1 69 0), .ref (P 70), .ref (P 71), .ref (P 72)])) := rfl
theorem sX_69_0 {cI cZ cC cJ cA : ClassId} {P : Nat → Nat} {M : Mm} : ∀ v : Int32, ((wX cI cZ cC cJ cA P) M).set 69 (P 69, .inr (12, ([.int (M.1 69 0), .ref (P 70), .ref (P 71), .ref (P 72)] : List Value).set 0 (.int v))) = (wX cI cZ cC cJ cA P) (stI M 69 (upd (M.1 69) 0 v)) := fun _ => rfl
theorem gX_70 {cI cZ cC cJ cA : ClassId} {P : Nat → Nat} {M : Mm} : ((wX cI cZ cC cJ cA P) M)[70]? = some (P 70, .inl (cI, 40, .inl (M.1 70))) := rfl
theorem sX_70 {cI cZ cC cJ cA : ClassId} {P : Nat → Nat} {M : Mm} : ∀ f, ((wX cI cZ cC cJ cA P) M).set 70 (P 70, .inl (cI, 40, .inl f)) = (wX cI cZ cC cJ cA P) (stI M 70 f) := fun _ => rfl
theorem gX_71 {cI cZ cC cJ cA : ClassId} {P : Nat → Nat} {M : Mm} : ((wX cI cZ cC cJ cA P) M)[71]? = some (P 71, .inl (cI, 40, .inl (M.1 71))) := rfl
theorem sX_71 {cI cZ cC cJ cA : ClassId} {P : Nat → Nat} {M : Mm} : ∀ f, ((wX cI cZ cC cJ cA P) M).set 71 (P 71, .inl (cI, 40, .inl f)) = (wX cI cZ cC cJ cA P) (stI M 71 f) := fun _ => rfl
theorem gX_72 {cI cZ cC cJ cA : ClassId} {P : Nat → Nat} {M : Mm} : ((wX cI cZ cC cJ cA P) M)[72]? = some (P 72, .inl (cI, 40, .inl (M.1 72))) := rfl
theorem sX_72 {cI cZ cC cJ cA : ClassId} {P : Nat → Nat} {M : Mm} : ∀ f, ((wX cI cZ cC cJ cA P) M).set 72 (P 72, .inl (cI, 40, .inl f)) = (wX cI cZ cC cJ cA P) (stI M 72 f) := fun _ => rfl
theorem gX_73 {cI cZ cC cJ cA : ClassId} {P : Nat → Nat} {M : Mm} : ((wX cI cZ cC cJ cA P) M)[73]? = some (P 73, .inr (2, [.ref (P 24), .ref (P 69), .ref (P 60), .ref (P 74), .ref (P 75), .ref (P 76), .int (M.1 73 6), .int (M.1 73 7), .int (M.1 73 8), .int (M.1 73 9)])) := rfl
theorem sX_73_6 {cI cZ cC cJ cA : ClassId} {P : Nat → Nat} {M : Mm} : ∀ v : Int32, ((wX cI cZ cC cJ cA P) M).set 73 (P 73, .inr (2, ([.ref (P 24), .ref (P 69), .ref (P 60), .ref (P 74), .ref (P 75), .ref (P 76), .int (M.1 73 6), .int (M.1 73 7), .int (M.1 73 8), .int (M.1 73 9)] : List Value).set 6 (.int v))) = (wX cI cZ cC cJ cA P) (stI M 73 (upd (M.1 73) 6 v)) := fun _ => rfl
theorem sX_73_7 {cI cZ cC cJ cA : ClassId} {P : Nat → Nat} {M : Mm} : ∀ v : Int32, ((wX cI cZ cC cJ cA P) M).set 73 (P 73, .inr (2, ([.ref (P 24), .ref (P 69), .ref (P 60), .ref (P 74), .ref (P 75), .ref (P 76), .int (M.1 73 6), .int (M.1 73 7), .int (M.1 73 8), .int (M.1 73 9)] : List Value).set 7 (.int v))) = (wX cI cZ cC cJ cA P) (stI M 73 (upd (M.1 73) 7 v)) := fun _ => rfl
theorem sX_73_8 {cI cZ cC cJ cA : ClassId} {P : Nat → Nat} {M : Mm} : ∀ v : Int32, ((wX cI cZ cC cJ cA P) M).set 73 (P 73, .inr (2, ([.ref (P 24), .ref (P 69), .ref (P 60), .ref (P 74), .ref (P 75), .ref (P 76), .int (M.1 73 6), .int (M.1 73 7), .int (M.1 73 8), .int (M.1 73 9)] : List Value).set 8 (.int v))) = (wX cI cZ cC cJ cA P) (stI M 73 (upd (M.1 73) 8 v)) := fun _ => rfl
theorem sX_73_9 {cI cZ cC cJ cA : ClassId} {P : Nat → Nat} {M : Mm} : ∀ v : Int32, ((wX cI cZ cC cJ cA P) M).set 73 (P 73, .inr (2, ([.ref (P 24), .ref (P 69), .ref (P 60), .ref (P 74), .ref (P 75), .ref (P 76), .int (M.1 73 6), .int (M.1 73 7), .int (M.1 73 8), .int (M.1 73 9)] : List Value).set 9 (.int v))) = (wX cI cZ cC cJ cA P) (stI M 73 (upd (M.1 73) 9 v)) := fun _ => rfl
theorem gX_74 {cI cZ cC cJ cA : ClassId} {P : Nat → Nat} {M : Mm} : ((wX cI cZ cC cJ cA P) M)[74]? = some (P 74, .inl (cJ, 5000, .inr (.inl (M.2 74)))) := rfl
theorem sX_74 {cI cZ cC cJ cA : ClassId} {P : Nat → Nat} {M : Mm} : ∀ f, ((wX cI cZ cC cJ cA P) M).set 74 (P 74, .inl (cJ, 5000, .inr (.inl f))) = (wX cI cZ cC cJ cA P) (stJ M 74 f) := fun _ => rfl
theorem gX_75 {cI cZ cC cJ cA : ClassId} {P : Nat → Nat} {M : Mm} : ((wX cI cZ cC cJ cA P) M)[75]? = some (P 75, .inl (cJ, 5, .inr (.inl (M.2 75)))) := rfl
theorem sX_75 {cI cZ cC cJ cA : ClassId} {P : Nat → Nat} {M : Mm} : ∀ f, ((wX cI cZ cC cJ cA P) M).set 75 (P 75, .inl (cJ, 5, .inr (.inl f))) = (wX cI cZ cC cJ cA P) (stJ M 75 f) := fun _ => rfl
theorem gX_76 {cI cZ cC cJ cA : ClassId} {P : Nat → Nat} {M : Mm} : ((wX cI cZ cC cJ cA P) M)[76]? = some (P 76, .inl (cI, 2048, .inl (M.1 76))) := rfl
theorem sX_76 {cI cZ cC cJ cA : ClassId} {P : Nat → Nat} {M : Mm} : ∀ f, ((wX cI cZ cC cJ cA P) M).set 76 (P 76, .inl (cI, 2048, .inl f)) = (wX cI cZ cC cJ cA P) (stI M 76 f) := fun _ => rfl
