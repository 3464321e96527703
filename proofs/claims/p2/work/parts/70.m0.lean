
abbrev mE : Type := va_G × Nat × (Nat → Nat) × (Nat → ClassId) × Nat
abbrev mS : Type := (Nat → Int32) × (Nat → Nat → Int32) × (Nat → Nat → Int64)
def upF (F : Nat → Nat → Int32) (k : Nat) (g : Nat → Int32) : Nat → Nat → Int32 := fun i => if i = k then g else F i
def upG (F : Nat → Nat → Int64) (k : Nat) (g : Nat → Int64) : Nat → Nat → Int64 := fun i => if i = k then g else F i
def sZ (S : mS) (k : Nat) (v : Int32) : mS := (upd S.1 k v, S.2.1, S.2.2)
def sF (S : mS) (k j : Nat) (v : Int32) : mS := (S.1, upF S.2.1 k (upd (S.2.1 k) j v), S.2.2)
def sG (S : mS) (k j : Nat) (v : Int64) : mS := (S.1, S.2.1, upG S.2.2 k (vp_updL (S.2.2 k) j v))
def mO (E : mE) (S : mS) : List Value := [.int (S.1 0), .ref (E.2.2.1 0), .int (S.1 1), .int (S.1 2), .ref (E.2.2.1 1), .ref (E.2.2.1 2), .ref (E.2.2.1 3), .int (S.1 3), .int (S.1 4), .ref E.2.2.2.2, .ref (E.2.2.1 4), .int (S.1 5), .int (S.1 6), .ref (E.2.2.1 5), .ref (E.2.2.1 6), .ref (E.2.2.1 7), .ref (E.2.2.1 8), .ref (E.2.2.1 9), .ref (E.2.2.1 10), .ref (E.2.2.1 11), .ref (E.2.2.1 12), .ref (E.2.2.1 13), .ref (E.2.2.1 14), .int (S.1 7), .ref (E.2.2.1 15), .ref (E.2.2.1 16), .ref (E.2.2.1 17), .ref (E.2.2.1 18), .ref (E.2.2.1 19), .ref (E.2.2.1 20), .ref (E.2.2.1 21), .int (S.1 8), .ref (E.2.2.1 22), .ref (E.2.2.1 23), .ref (E.2.2.1 24), .int (S.1 9), .ref (E.2.2.1 25), .ref (E.2.2.1 26), .ref (E.2.2.1 27), .ref (E.2.2.1 28), .ref (E.2.2.1 29), .ref (E.2.2.1 30), .ref (E.2.2.1 31), .ref (E.2.2.1 32), .ref (E.2.2.1 33), .ref (E.2.2.1 34), .ref (E.2.2.1 35), .ref (E.2.2.1 36), .ref (E.2.2.1 37), .ref (E.2.2.1 38), .ref (E.2.2.1 39), .int (S.1 10), .ref (E.2.2.1 40), .ref (E.2.2.1 41), .ref (E.2.2.1 42), .ref (E.2.2.1 43), .ref (E.2.2.1 44), .ref (E.2.2.1 45), .ref (E.2.2.1 46), .ref (E.2.2.1 47), .ref (E.2.2.1 48), .int (S.1 11), .int (S.1 12), .int (S.1 13), .int (S.1 14), .int (S.1 15), .int (S.1 16), .int (S.1 17), .int (S.1 18), .int (S.1 19), .int (S.1 20), .ref (E.2.2.1 49), .ref (E.2.2.1 50), .int (S.1 21), .int (S.1 22), .ref (E.2.2.1 51), .ref (E.2.2.1 52), .ref (E.2.2.1 53), .ref (E.2.2.1 54), .ref (E.2.2.1 55), .ref (E.2.2.1 56), .ref (E.2.2.1 57), .ref (E.2.2.1 58), .ref (E.2.2.1 59), .ref (E.2.2.1 60), .ref (E.2.2.1 61), .ref (E.2.2.1 62), .ref (E.2.2.1 63), .ref (E.2.2.1 64), .ref (E.2.2.1 65), .ref (E.2.2.1 66), .ref (E.2.2.1 67), .ref (E.2.2.1 68), .ref (E.2.2.1 69), .ref (E.2.2.1 70), .ref (E.2.2.1 71), .ref (E.2.2.1 72), .ref (E.2.2.1 73), .int (S.1 23), .int (S.1 24), .int (S.1 25), .int (S.1 26), .int (S.1 27), .ref (E.2.2.1 74), .ref (E.2.2.1 75), .int (S.1 28), .ref (E.2.2.1 76), .ref (E.2.2.1 77), .ref (E.2.2.1 78), .ref (E.2.2.1 79), .int (S.1 29), .ref (E.2.2.1 80), .ref (E.2.2.1 81), .ref (E.2.2.1 82), .ref (E.2.2.1 83), .ref (E.2.2.1 84), .ref (E.2.2.1 85), .ref (E.2.2.1 86), .ref (E.2.2.1 87), .int (S.1 30), .ref (E.2.2.1 88), .int (S.1 31), .int (S.1 32), .int (S.1 33), .int (S.1 34), .int (S.1 35), .int (S.1 36), .int (S.1 37)]
def mW (E : mE) (S : mS) : va_W := [(E.2.1, .inr (12, mO E S)), (E.2.2.1 0, .inl (E.2.2.2.1 0, 4000, .inl (S.2.1 0))), (E.2.2.1 1, .inl (E.2.2.2.1 1, 4002, .inl (S.2.1 1))), (E.2.2.1 2, .inl (E.2.2.2.1 2, 4002, .inl (S.2.1 2))), (E.2.2.1 3, .inl (E.2.2.2.1 3, 4002, .inr (.inl (S.2.2 3)))), (E.2.2.1 4, .inl (E.2.2.2.1 4, 22, .inr (.inl (S.2.2 4)))), (E.2.2.1 5, .inl (E.2.2.2.1 5, 2, .inl (S.2.1 5))), (E.2.2.1 6, .inl (E.2.2.2.1 6, 24, .inr (.inl (S.2.2 6)))), (E.2.2.1 7, .inl (E.2.2.2.1 7, 24, .inl (S.2.1 7))), (E.2.2.1 8, .inl (E.2.2.2.1 8, 24, .inl (S.2.1 8))), (E.2.2.1 9, .inl (E.2.2.2.1 9, 288, .inr (.inl (S.2.2 9)))), (E.2.2.1 10, .inl (E.2.2.2.1 10, 24, .inl (S.2.1 10))), (E.2.2.1 11, .inl (E.2.2.2.1 11, 24, .inl (S.2.1 11))), (E.2.2.1 12, .inl (E.2.2.2.1 12, 24000, .inl (S.2.1 12))), (E.2.2.1 13, .inl (E.2.2.2.1 13, 24000, .inl (S.2.1 13))), (E.2.2.1 14, .inl (E.2.2.2.1 14, 24000, .inl (S.2.1 14))), (E.2.2.1 15, .inl (E.2.2.2.1 15, 24000, .inl (S.2.1 15))), (E.2.2.1 16, .inl (E.2.2.2.1 16, 24000, .inl (S.2.1 16))), (E.2.2.1 17, .inl (E.2.2.2.1 17, 24000, .inl (S.2.1 17))), (E.2.2.1 18, .inl (E.2.2.2.1 18, 24000, .inl (S.2.1 18))), (E.2.2.1 19, .inl (E.2.2.2.1 19, 24000, .inl (S.2.1 19))), (E.2.2.1 20, .inl (E.2.2.2.1 20, 24000, .inl (S.2.1 20))), (E.2.2.1 21, .inl (E.2.2.2.1 21, 24000, .inl (S.2.1 21))), (E.2.2.1 22, .inl (E.2.2.2.1 22, 24, .inl (S.2.1 22))), (E.2.2.1 23, .inl (E.2.2.2.1 23, 24, .inl (S.2.1 23))), (E.2.2.1 24, .inl (E.2.2.2.1 24, 408, .inl (S.2.1 24))), (E.2.2.1 25, .inl (E.2.2.2.1 25, 1000, .inl (S.2.1 25))), (E.2.2.1 26, .inl (E.2.2.2.1 26, 1000, .inl (S.2.1 26))), (E.2.2.1 27, .inl (E.2.2.2.1 27, 1000, .inl (S.2.1 27))), (E.2.2.1 28, .inl (E.2.2.2.1 28, 1000, .inl (S.2.1 28))), (E.2.2.1 29, .inl (E.2.2.2.1 29, 1000, .inl (S.2.1 29))), (E.2.2.1 30, .inl (E.2.2.2.1 30, 1000, .inl (S.2.1 30))), (E.2.2.1 31, .inl (E.2.2.2.1 31, 1000, .inl (S.2.1 31))), (E.2.2.1 32, .inl (E.2.2.2.1 32, 1000, .inl (S.2.1 32))), (E.2.2.1 33, .inl (E.2.2.2.1 33, 1000, .inl (S.2.1 33))), (E.2.2.1 34, .inl (E.2.2.2.1 34, 1000, .inl (S.2.1 34))), (E.2.2.1 35, .inl (E.2.2.2.1 35, 1000, .inl (S.2.1 35))), (E.2.2.1 36, .inl (E.2.2.2.1 36, 1000, .inl (S.2.1 36))), (E.2.2.1 37, .inl (E.2.2.2.1 37, 1000, .inl (S.2.1 37))), (E.2.2.1 38, .inl (E.2.2.2.1 38, 1000, .inl (S.2.1 38))), (E.2.2.1 39, .inl (E.2.2.2.1 39, 1000, .inl (S.2.1 39))), (E.2.2.1 40, .inl (E.2.2.2.1 40, 1000, .inl (S.2.1 40))), (E.2.2.1 41, .inl (E.2.2.2.1 41, 1000, .inl (S.2.1 41))), (E.2.2.1 42, .inl (E.2.2.2.1 42, 1000, .inl (S.2.1 42))), (E.2.2.1 43, .inl (E.2.2.2.1 43, 1000, .inl (S.2.1 43))), (E.2.2.1 44, .inl (E.2.2.2.1 44, 1000, .inl (S.2.1 44))), (E.2.2.1 45, .inl (E.2.2.2.1 45, 1000, .inl (S.2.1 45))), (E.2.2.1 46, .inl (E.2.2.2.1 46, 1000, .inl (S.2.1 46))), (E.2.2.1 47, .inl (E.2.2.2.1 47, 1000, .inl (S.2.1 47))), (E.2.2.1 48, .inl (E.2.2.2.1 48, 1000, .inl (S.2.1 48))), (E.2.2.1 49, .inl (E.2.2.2.1 49, 12000, .inl (S.2.1 49))), (E.2.2.1 50, .inl (E.2.2.2.1 50, 12000, .inl (S.2.1 50))), (E.2.2.1 51, .inl (E.2.2.2.1 51, 200, .inl (S.2.1 51))), (E.2.2.1 52, .inl (E.2.2.2.1 52, 200, .inl (S.2.1 52))), (E.2.2.1 53, .inl (E.2.2.2.1 53, 200, .inl (S.2.1 53))), (E.2.2.1 54, .inl (E.2.2.2.1 54, 200, .inl (S.2.1 54))), (E.2.2.1 55, .inl (E.2.2.2.1 55, 200, .inl (S.2.1 55))), (E.2.2.1 56, .inl (E.2.2.2.1 56, 200, .inl (S.2.1 56))), (E.2.2.1 57, .inl (E.2.2.2.1 57, 200, .inl (S.2.1 57))), (E.2.2.1 58, .inl (E.2.2.2.1 58, 2400, .inl (S.2.1 58))), (E.2.2.1 59, .inl (E.2.2.2.1 59, 200, .inl (S.2.1 59))), (E.2.2.1 60, .inl (E.2.2.2.1 60, 200, .inl (S.2.1 60))), (E.2.2.1 61, .inl (E.2.2.2.1 61, 200, .inl (S.2.1 61))), (E.2.2.1 62, .inl (E.2.2.2.1 62, 200, .inl (S.2.1 62))), (E.2.2.1 63, .inl (E.2.2.2.1 63, 200, .inl (S.2.1 63))), (E.2.2.1 64, .inl (E.2.2.2.1 64, 200, .inl (S.2.1 64))), (E.2.2.1 65, .inl (E.2.2.2.1 65, 200, .inl (S.2.1 65))), (E.2.2.1 66, .inl (E.2.2.2.1 66, 200, .inl (S.2.1 66))), (E.2.2.1 67, .inl (E.2.2.2.1 67, 200, .inl (S.2.1 67))), (E.2.2.1 68, .inl (E.2.2.2.1 68, 200, .inl (S.2.1 68))), (E.2.2.1 69, .inl (E.2.2.2.1 69, 2200, .inl (S.2.1 69))), (E.2.2.1 70, .inl (E.2.2.2.1 70, 2200, .inl (S.2.1 70))), (E.2.2.1 71, .inl (E.2.2.2.1 71, 2200, .inl (S.2.1 71))), (E.2.2.1 72, .inl (E.2.2.2.1 72, 2200, .inl (S.2.1 72))), (E.2.2.1 73, .inl (E.2.2.2.1 73, 200, .inl (S.2.1 73))), (E.2.2.1 74, .inl (E.2.2.2.1 74, 300, .inl (S.2.1 74))), (E.2.2.1 75, .inl (E.2.2.2.1 75, 300, .inl (S.2.1 75))), (E.2.2.1 76, .inl (E.2.2.2.1 76, 300, .inl (S.2.1 76))), (E.2.2.1 77, .inl (E.2.2.2.1 77, 300, .inl (S.2.1 77))), (E.2.2.1 78, .inl (E.2.2.2.1 78, 8, .inl (S.2.1 78))), (E.2.2.1 79, .inl (E.2.2.2.1 79, 400, .inl (S.2.1 79))), (E.2.2.1 80, .inl (E.2.2.2.1 80, 100300, .inl (S.2.1 80))), (E.2.2.1 81, .inl (E.2.2.2.1 81, 100300, .inl (S.2.1 81))), (E.2.2.1 82, .inl (E.2.2.2.1 82, 100300, .inl (S.2.1 82))), (E.2.2.1 83, .inl (E.2.2.2.1 83, 100300, .inl (S.2.1 83))), (E.2.2.1 84, .inl (E.2.2.2.1 84, 100300, .inl (S.2.1 84))), (E.2.2.1 85, .inl (E.2.2.2.1 85, 100300, .inl (S.2.1 85))), (E.2.2.1 86, .inl (E.2.2.2.1 86, 100300, .inr (.inl (S.2.2 86)))), (E.2.2.1 87, .inl (E.2.2.2.1 87, 100300, .inl (S.2.1 87))), (E.2.2.1 88, .inl (E.2.2.2.1 88, 4000, .inl (S.2.1 88)))]
def mT (E : mE) : List (ClassId × FieldType) := [(E.2.2.2.1 0, .int), (E.2.2.2.1 1, .int), (E.2.2.2.1 2, .int), (E.2.2.2.1 3, .long), (E.2.2.2.1 4, .long), (E.2.2.2.1 5, .int), (E.2.2.2.1 6, .long), (E.2.2.2.1 7, .int), (E.2.2.2.1 8, .int), (E.2.2.2.1 9, .long), (E.2.2.2.1 10, .int), (E.2.2.2.1 11, .int), (E.2.2.2.1 12, .int), (E.2.2.2.1 13, .int), (E.2.2.2.1 14, .int), (E.2.2.2.1 15, .int), (E.2.2.2.1 16, .int), (E.2.2.2.1 17, .int), (E.2.2.2.1 18, .int), (E.2.2.2.1 19, .int), (E.2.2.2.1 20, .int), (E.2.2.2.1 21, .int), (E.2.2.2.1 22, .int), (E.2.2.2.1 23, .int), (E.2.2.2.1 24, .int), (E.2.2.2.1 25, .int), (E.2.2.2.1 26, .int), (E.2.2.2.1 27, .int), (E.2.2.2.1 28, .boolean), (E.2.2.2.1 29, .boolean), (E.2.2.2.1 30, .int), (E.2.2.2.1 31, .int), (E.2.2.2.1 32, .int), (E.2.2.2.1 33, .int), (E.2.2.2.1 34, .int), (E.2.2.2.1 35, .int), (E.2.2.2.1 36, .int), (E.2.2.2.1 37, .boolean), (E.2.2.2.1 38, .boolean), (E.2.2.2.1 39, .boolean), (E.2.2.2.1 40, .int), (E.2.2.2.1 41, .int), (E.2.2.2.1 42, .int), (E.2.2.2.1 43, .int), (E.2.2.2.1 44, .int), (E.2.2.2.1 45, .int), (E.2.2.2.1 46, .int), (E.2.2.2.1 47, .int), (E.2.2.2.1 48, .int), (E.2.2.2.1 49, .boolean), (E.2.2.2.1 50, .int), (E.2.2.2.1 51, .int), (E.2.2.2.1 52, .int), (E.2.2.2.1 53, .int), (E.2.2.2.1 54, .int), (E.2.2.2.1 55, .int), (E.2.2.2.1 56, .int), (E.2.2.2.1 57, .int), (E.2.2.2.1 58, .int), (E.2.2.2.1 59, .int), (E.2.2.2.1 60, .int), (E.2.2.2.1 61, .boolean), (E.2.2.2.1 62, .int), (E.2.2.2.1 63, .int), (E.2.2.2.1 64, .int), (E.2.2.2.1 65, .int), (E.2.2.2.1 66, .int), (E.2.2.2.1 67, .int), (E.2.2.2.1 68, .int), (E.2.2.2.1 69, .int), (E.2.2.2.1 70, .int), (E.2.2.2.1 71, .int), (E.2.2.2.1 72, .int), (E.2.2.2.1 73, .int), (E.2.2.2.1 74, .int), (E.2.2.2.1 75, .int), (E.2.2.2.1 76, .int), (E.2.2.2.1 77, .int), (E.2.2.2.1 78, .int), (E.2.2.2.1 79, .int), (E.2.2.2.1 80, .int), (E.2.2.2.1 81, .int), (E.2.2.2.1 82, .int), (E.2.2.2.1 83, .int), (E.2.2.2.1 84, .int), (E.2.2.2.1 85, .int), (E.2.2.2.1 86, .long), (E.2.2.2.1 87, .int), (E.2.2.2.1 88, .int)]
set_option maxRecDepth 1000000 in
theorem mz_0 {E : mE} {S : mS} {v : Int32} : (mO E S).set 0 (.int v) = mO E (sZ S 0 v) := rfl
set_option maxRecDepth 1000000 in
theorem mz_1 {E : mE} {S : mS} {v : Int32} : (mO E S).set 2 (.int v) = mO E (sZ S 1 v) := rfl
set_option maxRecDepth 1000000 in
theorem mz_2 {E : mE} {S : mS} {v : Int32} : (mO E S).set 3 (.int v) = mO E (sZ S 2 v) := rfl
set_option maxRecDepth 1000000 in
theorem mz_3 {E : mE} {S : mS} {v : Int32} : (mO E S).set 7 (.int v) = mO E (sZ S 3 v) := rfl
set_option maxRecDepth 1000000 in
theorem mz_4 {E : mE} {S : mS} {v : Int32} : (mO E S).set 8 (.int v) = mO E (sZ S 4 v) := rfl
set_option maxRecDepth 1000000 in
theorem mz_5 {E : mE} {S : mS} {v : Int32} : (mO E S).set 11 (.int v) = mO E (sZ S 5 v) := rfl
set_option maxRecDepth 1000000 in
theorem mz_6 {E : mE} {S : mS} {v : Int32} : (mO E S).set 12 (.int v) = mO E (sZ S 6 v) := rfl
set_option maxRecDepth 1000000 in
theorem mz_7 {E : mE} {S : mS} {v : Int32} : (mO E S).set 23 (.int v) = mO E (sZ S 7 v) := rfl
set_option maxRecDepth 1000000 in
theorem mz_8 {E : mE} {S : mS} {v : Int32} : (mO E S).set 31 (.int v) = mO E (sZ S 8 v) := rfl
set_option maxRecDepth 1000000 in
theorem mz_9 {E : mE} {S : mS} {v : Int32} : (mO E S).set 35 (.int v) = mO E (sZ S 9 v) := rfl
set_option maxRecDepth 1000000 in
theorem mz_10 {E : mE} {S : mS} {v : Int32} : (mO E S).set 51 (.int v) = mO E (sZ S 10 v) := rfl
set_option maxRecDepth 1000000 in
theorem mz_11 {E : mE} {S : mS} {v : Int32} : (mO E S).set 61 (.int v) = mO E (sZ S 11 v) := rfl
set_option maxRecDepth 1000000 in
theorem mz_12 {E : mE} {S : mS} {v : Int32} : (mO E S).set 62 (.int v) = mO E (sZ S 12 v) := rfl
set_option maxRecDepth 1000000 in
theorem mz_13 {E : mE} {S : mS} {v : Int32} : (mO E S).set 63 (.int v) = mO E (sZ S 13 v) := rfl
set_option maxRecDepth 1000000 in
theorem mz_14 {E : mE} {S : mS} {v : Int32} : (mO E S).set 64 (.int v) = mO E (sZ S 14 v) := rfl
set_option maxRecDepth 1000000 in
theorem mz_15 {E : mE} {S : mS} {v : Int32} : (mO E S).set 65 (.int v) = mO E (sZ S 15 v) := rfl
set_option maxRecDepth 1000000 in
theorem mz_16 {E : mE} {S : mS} {v : Int32} : (mO E S).set 66 (.int v) = mO E (sZ S 16 v) := rfl
set_option maxRecDepth 1000000 in
theorem mz_17 {E : mE} {S : mS} {v : Int32} : (mO E S).set 67 (.int v) = mO E (sZ S 17 v) := rfl
set_option maxRecDepth 1000000 in
theorem mz_18 {E : mE} {S : mS} {v : Int32} : (mO E S).set 68 (.int v) = mO E (sZ S 18 v) := rfl
set_option maxRecDepth 1000000 in
theorem mz_19 {E : mE} {S : mS} {v : Int32} : (mO E S).set 69 (.int v) = mO E (sZ S 19 v) := rfl
set_option maxRecDepth 1000000 in
theorem mz_20 {E : mE} {S : mS} {v : Int32} : (mO E S).set 70 (.int v) = mO E (sZ S 20 v) := rfl
set_option maxRecDepth 1000000 in
theorem mz_21 {E : mE} {S : mS} {v : Int32} : (mO E S).set 73 (.int v) = mO E (sZ S 21 v) := rfl
set_option maxRecDepth 1000000 in
theorem mz_22 {E : mE} {S : mS} {v : Int32} : (mO E S).set 74 (.int v) = mO E (sZ S 22 v) := rfl
set_option maxRecDepth 1000000 in
theorem mz_23 {E : mE} {S : mS} {v : Int32} : (mO E S).set 98 (.int v) = mO E (sZ S 23 v) := rfl
set_option maxRecDepth 1000000 in
theorem mz_24 {E : mE} {S : mS} {v : Int32} : (mO E S).set 99 (.int v) = mO E (sZ S 24 v) := rfl
set_option maxRecDepth 1000000 in
theorem mz_25 {E : mE} {S : mS} {v : Int32} : (mO E S).set 100 (.int v) = mO E (sZ S 25 v) := rfl
set_option maxRecDepth 1000000 in
theorem mz_26 {E : mE} {S : mS} {v : Int32} : (mO E S).set 101 (.int v) = mO E (sZ S 26 v) := rfl
set_option maxRecDepth 1000000 in
theorem mz_27 {E : mE} {S : mS} {v : Int32} : (mO E S).set 102 (.int v) = mO E (sZ S 27 v) := rfl
set_option maxRecDepth 1000000 in
theorem mz_28 {E : mE} {S : mS} {v : Int32} : (mO E S).set 105 (.int v) = mO E (sZ S 28 v) := rfl
set_option maxRecDepth 1000000 in
theorem mz_29 {E : mE} {S : mS} {v : Int32} : (mO E S).set 110 (.int v) = mO E (sZ S 29 v) := rfl
set_option maxRecDepth 1000000 in
theorem mz_30 {E : mE} {S : mS} {v : Int32} : (mO E S).set 119 (.int v) = mO E (sZ S 30 v) := rfl
set_option maxRecDepth 1000000 in
theorem mz_31 {E : mE} {S : mS} {v : Int32} : (mO E S).set 121 (.int v) = mO E (sZ S 31 v) := rfl
set_option maxRecDepth 1000000 in
theorem mz_32 {E : mE} {S : mS} {v : Int32} : (mO E S).set 122 (.int v) = mO E (sZ S 32 v) := rfl
set_option maxRecDepth 1000000 in
theorem mz_33 {E : mE} {S : mS} {v : Int32} : (mO E S).set 123 (.int v) = mO E (sZ S 33 v) := rfl
set_option maxRecDepth 1000000 in
theorem mz_34 {E : mE} {S : mS} {v : Int32} : (mO E S).set 124 (.int v) = mO E (sZ S 34 v) := rfl
set_option maxRecDepth 1000000 in
theorem mz_35 {E : mE} {S : mS} {v : Int32} : (mO E S).set 125 (.int v) = mO E (sZ S 35 v) := rfl
set_option maxRecDepth 1000000 in
theorem mz_36 {E : mE} {S : mS} {v : Int32} : (mO E S).set 126 (.int v) = mO E (sZ S 36 v) := rfl
set_option maxRecDepth 1000000 in
theorem mz_37 {E : mE} {S : mS} {v : Int32} : (mO E S).set 127 (.int v) = mO E (sZ S 37 v) := rfl
theorem mf_0 {E : mE} {S : mS} {j : Nat} {v : Int32} : (mW E S).set 1 (E.2.2.1 0, .inl (E.2.2.2.1 0, 4000, .inl (upd (S.2.1 0) j v))) = mW E (sF S 0 j v) := rfl
theorem mf_1 {E : mE} {S : mS} {j : Nat} {v : Int32} : (mW E S).set 2 (E.2.2.1 1, .inl (E.2.2.2.1 1, 4002, .inl (upd (S.2.1 1) j v))) = mW E (sF S 1 j v) := rfl
theorem mf_2 {E : mE} {S : mS} {j : Nat} {v : Int32} : (mW E S).set 3 (E.2.2.1 2, .inl (E.2.2.2.1 2, 4002, .inl (upd (S.2.1 2) j v))) = mW E (sF S 2 j v) := rfl
theorem mf_3 {E : mE} {S : mS} {j : Nat} {v : Int64} : (mW E S).set 4 (E.2.2.1 3, .inl (E.2.2.2.1 3, 4002, .inr (.inl (vp_updL (S.2.2 3) j v)))) = mW E (sG S 3 j v) := rfl
theorem mf_4 {E : mE} {S : mS} {j : Nat} {v : Int64} : (mW E S).set 5 (E.2.2.1 4, .inl (E.2.2.2.1 4, 22, .inr (.inl (vp_updL (S.2.2 4) j v)))) = mW E (sG S 4 j v) := rfl
theorem mf_5 {E : mE} {S : mS} {j : Nat} {v : Int32} : (mW E S).set 6 (E.2.2.1 5, .inl (E.2.2.2.1 5, 2, .inl (upd (S.2.1 5) j v))) = mW E (sF S 5 j v) := rfl
theorem mf_6 {E : mE} {S : mS} {j : Nat} {v : Int64} : (mW E S).set 7 (E.2.2.1 6, .inl (E.2.2.2.1 6, 24, .inr (.inl (vp_updL (S.2.2 6) j v)))) = mW E (sG S 6 j v) := rfl
theorem mf_7 {E : mE} {S : mS} {j : Nat} {v : Int32} : (mW E S).set 8 (E.2.2.1 7, .inl (E.2.2.2.1 7, 24, .inl (upd (S.2.1 7) j v))) = mW E (sF S 7 j v) := rfl
theorem mf_8 {E : mE} {S : mS} {j : Nat} {v : Int32} : (mW E S).set 9 (E.2.2.1 8, .inl (E.2.2.2.1 8, 24, .inl (upd (S.2.1 8) j v))) = mW E (sF S 8 j v) := rfl
theorem mf_9 {E : mE} {S : mS} {j : Nat} {v : Int64} : (mW E S).set 10 (E.2.2.1 9, .inl (E.2.2.2.1 9, 288, .inr (.inl (vp_updL (S.2.2 9) j v)))) = mW E (sG S 9 j v) := rfl
theorem mf_10 {E : mE} {S : mS} {j : Nat} {v : Int32} : (mW E S).set 11 (E.2.2.1 10, .inl (E.2.2.2.1 10, 24, .inl (upd (S.2.1 10) j v))) = mW E (sF S 10 j v) := rfl
theorem mf_11 {E : mE} {S : mS} {j : Nat} {v : Int32} : (mW E S).set 12 (E.2.2.1 11, .inl (E.2.2.2.1 11, 24, .inl (upd (S.2.1 11) j v))) = mW E (sF S 11 j v) := rfl
theorem mf_12 {E : mE} {S : mS} {j : Nat} {v : Int32} : (mW E S).set 13 (E.2.2.1 12, .inl (E.2.2.2.1 12, 24000, .inl (upd (S.2.1 12) j v))) = mW E (sF S 12 j v) := rfl
theorem mf_13 {E : mE} {S : mS} {j : Nat} {v : Int32} : (mW E S).set 14 (E.2.2.1 13, .inl (E.2.2.2.1 13, 24000, .inl (upd (S.2.1 13) j v))) = mW E (sF S 13 j v) := rfl
theorem mf_14 {E : mE} {S : mS} {j : Nat} {v : Int32} : (mW E S).set 15 (E.2.2.1 14, .inl (E.2.2.2.1 14, 24000, .inl (upd (S.2.1 14) j v))) = mW E (sF S 14 j v) := rfl
theorem mf_15 {E : mE} {S : mS} {j : Nat} {v : Int32} : (mW E S).set 16 (E.2.2.1 15, .inl (E.2.2.2.1 15, 24000, .inl (upd (S.2.1 15) j v))) = mW E (sF S 15 j v) := rfl
theorem mf_16 {E : mE} {S : mS} {j : Nat} {v : Int32} : (mW E S).set 17 (E.2.2.1 16, .inl (E.2.2.2.1 16, 24000, .inl (upd (S.2.1 16) j v))) = mW E (sF S 16 j v) := rfl
theorem mf_17 {E : mE} {S : mS} {j : Nat} {v : Int32} : (mW E S).set 18 (E.2.2.1 17, .inl (E.2.2.2.1 17, 24000, .inl (upd (S.2.1 17) j v))) = mW E (sF S 17 j v) := rfl
theorem mf_18 {E : mE} {S : mS} {j : Nat} {v : Int32} : (mW E S).set 19 (E.2.2.1 18, .inl (E.2.2.2.1 18, 24000, .inl (upd (S.2.1 18) j v))) = mW E (sF S 18 j v) := rfl
theorem mf_19 {E : mE} {S : mS} {j : Nat} {v : Int32} : (mW E S).set 20 (E.2.2.1 19, .inl (E.2.2.2.1 19, 24000, .inl (upd (S.2.1 19) j v))) = mW E (sF S 19 j v) := rfl
theorem mf_20 {E : mE} {S : mS} {j : Nat} {v : Int32} : (mW E S).set 21 (E.2.2.1 20, .inl (E.2.2.2.1 20, 24000, .inl (upd (S.2.1 20) j v))) = mW E (sF S 20 j v) := rfl
theorem mf_21 {E : mE} {S : mS} {j : Nat} {v : Int32} : (mW E S).set 22 (E.2.2.1 21, .inl (E.2.2.2.1 21, 24000, .inl (upd (S.2.1 21) j v))) = mW E (sF S 21 j v) := rfl
theorem mf_22 {E : mE} {S : mS} {j : Nat} {v : Int32} : (mW E S).set 23 (E.2.2.1 22, .inl (E.2.2.2.1 22, 24, .inl (upd (S.2.1 22) j v))) = mW E (sF S 22 j v) := rfl
theorem mf_23 {E : mE} {S : mS} {j : Nat} {v : Int32} : (mW E S).set 24 (E.2.2.1 23, .inl (E.2.2.2.1 23, 24, .inl (upd (S.2.1 23) j v))) = mW E (sF S 23 j v) := rfl
theorem mf_24 {E : mE} {S : mS} {j : Nat} {v : Int32} : (mW E S).set 25 (E.2.2.1 24, .inl (E.2.2.2.1 24, 408, .inl (upd (S.2.1 24) j v))) = mW E (sF S 24 j v) := rfl
theorem mf_25 {E : mE} {S : mS} {j : Nat} {v : Int32} : (mW E S).set 26 (E.2.2.1 25, .inl (E.2.2.2.1 25, 1000, .inl (upd (S.2.1 25) j v))) = mW E (sF S 25 j v) := rfl
theorem mf_26 {E : mE} {S : mS} {j : Nat} {v : Int32} : (mW E S).set 27 (E.2.2.1 26, .inl (E.2.2.2.1 26, 1000, .inl (upd (S.2.1 26) j v))) = mW E (sF S 26 j v) := rfl
theorem mf_27 {E : mE} {S : mS} {j : Nat} {v : Int32} : (mW E S).set 28 (E.2.2.1 27, .inl (E.2.2.2.1 27, 1000, .inl (upd (S.2.1 27) j v))) = mW E (sF S 27 j v) := rfl
theorem mf_28 {E : mE} {S : mS} {j : Nat} {v : Int32} : (mW E S).set 29 (E.2.2.1 28, .inl (E.2.2.2.1 28, 1000, .inl (upd (S.2.1 28) j v))) = mW E (sF S 28 j v) := rfl
theorem mf_29 {E : mE} {S : mS} {j : Nat} {v : Int32} : (mW E S).set 30 (E.2.2.1 29, .inl (E.2.2.2.1 29, 1000, .inl (upd (S.2.1 29) j v))) = mW E (sF S 29 j v) := rfl
theorem mf_30 {E : mE} {S : mS} {j : Nat} {v : Int32} : (mW E S).set 31 (E.2.2.1 30, .inl (E.2.2.2.1 30, 1000, .inl (upd (S.2.1 30) j v))) = mW E (sF S 30 j v) := rfl
theorem mf_31 {E : mE} {S : mS} {j : Nat} {v : Int32} : (mW E S).set 32 (E.2.2.1 31, .inl (E.2.2.2.1 31, 1000, .inl (upd (S.2.1 31) j v))) = mW E (sF S 31 j v) := rfl
theorem mf_32 {E : mE} {S : mS} {j : Nat} {v : Int32} : (mW E S).set 33 (E.2.2.1 32, .inl (E.2.2.2.1 32, 1000, .inl (upd (S.2.1 32) j v))) = mW E (sF S 32 j v) := rfl
theorem mf_33 {E : mE} {S : mS} {j : Nat} {v : Int32} : (mW E S).set 34 (E.2.2.1 33, .inl (E.2.2.2.1 33, 1000, .inl (upd (S.2.1 33) j v))) = mW E (sF S 33 j v) := rfl
theorem mf_34 {E : mE} {S : mS} {j : Nat} {v : Int32} : (mW E S).set 35 (E.2.2.1 34, .inl (E.2.2.2.1 34, 1000, .inl (upd (S.2.1 34) j v))) = mW E (sF S 34 j v) := rfl
theorem mf_35 {E : mE} {S : mS} {j : Nat} {v : Int32} : (mW E S).set 36 (E.2.2.1 35, .inl (E.2.2.2.1 35, 1000, .inl (upd (S.2.1 35) j v))) = mW E (sF S 35 j v) := rfl
theorem mf_36 {E : mE} {S : mS} {j : Nat} {v : Int32} : (mW E S).set 37 (E.2.2.1 36, .inl (E.2.2.2.1 36, 1000, .inl (upd (S.2.1 36) j v))) = mW E (sF S 36 j v) := rfl
theorem mf_37 {E : mE} {S : mS} {j : Nat} {v : Int32} : (mW E S).set 38 (E.2.2.1 37, .inl (E.2.2.2.1 37, 1000, .inl (upd (S.2.1 37) j v))) = mW E (sF S 37 j v) := rfl
theorem mf_38 {E : mE} {S : mS} {j : Nat} {v : Int32} : (mW E S).set 39 (E.2.2.1 38, .inl (E.2.2.2.1 38, 1000, .inl (upd (S.2.1 38) j v))) = mW E (sF S 38 j v) := rfl
theorem mf_39 {E : mE} {S : mS} {j : Nat} {v : Int32} : (mW E S).set 40 (E.2.2.1 39, .inl (E.2.2.2.1 39, 1000, .inl (upd (S.2.1 39) j v))) = mW E (sF S 39 j v) := rfl
theorem mf_40 {E : mE} {S : mS} {j : Nat} {v : Int32} : (mW E S).set 41 (E.2.2.1 40, .inl (E.2.2.2.1 40, 1000, .inl (upd (S.2.1 40) j v))) = mW E (sF S 40 j v) := rfl
theorem mf_41 {E : mE} {S : mS} {j : Nat} {v : Int32} : (mW E S).set 42 (E.2.2.1 41, .inl (E.2.2.2.1 41, 1000, .inl (upd (S.2.1 41) j v))) = mW E (sF S 41 j v) := rfl
theorem mf_42 {E : mE} {S : mS} {j : Nat} {v : Int32} : (mW E S).set 43 (E.2.2.1 42, .inl (E.2.2.2.1 42, 1000, .inl (upd (S.2.1 42) j v))) = mW E (sF S 42 j v) := rfl
theorem mf_43 {E : mE} {S : mS} {j : Nat} {v : Int32} : (mW E S).set 44 (E.2.2.1 43, .inl (E.2.2.2.1 43, 1000, .inl (upd (S.2.1 43) j v))) = mW E (sF S 43 j v) := rfl
theorem mf_44 {E : mE} {S : mS} {j : Nat} {v : Int32} : (mW E S).set 45 (E.2.2.1 44, .inl (E.2.2.2.1 44, 1000, .inl (upd (S.2.1 44) j v))) = mW E (sF S 44 j v) := rfl
theorem mf_45 {E : mE} {S : mS} {j : Nat} {v : Int32} : (mW E S).set 46 (E.2.2.1 45, .inl (E.2.2.2.1 45, 1000, .inl (upd (S.2.1 45) j v))) = mW E (sF S 45 j v) := rfl
theorem mf_46 {E : mE} {S : mS} {j : Nat} {v : Int32} : (mW E S).set 47 (E.2.2.1 46, .inl (E.2.2.2.1 46, 1000, .inl (upd (S.2.1 46) j v))) = mW E (sF S 46 j v) := rfl
theorem mf_47 {E : mE} {S : mS} {j : Nat} {v : Int32} : (mW E S).set 48 (E.2.2.1 47, .inl (E.2.2.2.1 47, 1000, .inl (upd (S.2.1 47) j v))) = mW E (sF S 47 j v) := rfl
theorem mf_48 {E : mE} {S : mS} {j : Nat} {v : Int32} : (mW E S).set 49 (E.2.2.1 48, .inl (E.2.2.2.1 48, 1000, .inl (upd (S.2.1 48) j v))) = mW E (sF S 48 j v) := rfl
theorem mf_49 {E : mE} {S : mS} {j : Nat} {v : Int32} : (mW E S).set 50 (E.2.2.1 49, .inl (E.2.2.2.1 49, 12000, .inl (upd (S.2.1 49) j v))) = mW E (sF S 49 j v) := rfl
theorem mf_50 {E : mE} {S : mS} {j : Nat} {v : Int32} : (mW E S).set 51 (E.2.2.1 50, .inl (E.2.2.2.1 50, 12000, .inl (upd (S.2.1 50) j v))) = mW E (sF S 50 j v) := rfl
theorem mf_51 {E : mE} {S : mS} {j : Nat} {v : Int32} : (mW E S).set 52 (E.2.2.1 51, .inl (E.2.2.2.1 51, 200, .inl (upd (S.2.1 51) j v))) = mW E (sF S 51 j v) := rfl
theorem mf_52 {E : mE} {S : mS} {j : Nat} {v : Int32} : (mW E S).set 53 (E.2.2.1 52, .inl (E.2.2.2.1 52, 200, .inl (upd (S.2.1 52) j v))) = mW E (sF S 52 j v) := rfl
theorem mf_53 {E : mE} {S : mS} {j : Nat} {v : Int32} : (mW E S).set 54 (E.2.2.1 53, .inl (E.2.2.2.1 53, 200, .inl (upd (S.2.1 53) j v))) = mW E (sF S 53 j v) := rfl
theorem mf_54 {E : mE} {S : mS} {j : Nat} {v : Int32} : (mW E S).set 55 (E.2.2.1 54, .inl (E.2.2.2.1 54, 200, .inl (upd (S.2.1 54) j v))) = mW E (sF S 54 j v) := rfl
theorem mf_55 {E : mE} {S : mS} {j : Nat} {v : Int32} : (mW E S).set 56 (E.2.2.1 55, .inl (E.2.2.2.1 55, 200, .inl (upd (S.2.1 55) j v))) = mW E (sF S 55 j v) := rfl
theorem mf_56 {E : mE} {S : mS} {j : Nat} {v : Int32} : (mW E S).set 57 (E.2.2.1 56, .inl (E.2.2.2.1 56, 200, .inl (upd (S.2.1 56) j v))) = mW E (sF S 56 j v) := rfl
theorem mf_57 {E : mE} {S : mS} {j : Nat} {v : Int32} : (mW E S).set 58 (E.2.2.1 57, .inl (E.2.2.2.1 57, 200, .inl (upd (S.2.1 57) j v))) = mW E (sF S 57 j v) := rfl
theorem mf_58 {E : mE} {S : mS} {j : Nat} {v : Int32} : (mW E S).set 59 (E.2.2.1 58, .inl (E.2.2.2.1 58, 2400, .inl (upd (S.2.1 58) j v))) = mW E (sF S 58 j v) := rfl
theorem mf_59 {E : mE} {S : mS} {j : Nat} {v : Int32} : (mW E S).set 60 (E.2.2.1 59, .inl (E.2.2.2.1 59, 200, .inl (upd (S.2.1 59) j v))) = mW E (sF S 59 j v) := rfl
theorem mf_60 {E : mE} {S : mS} {j : Nat} {v : Int32} : (mW E S).set 61 (E.2.2.1 60, .inl (E.2.2.2.1 60, 200, .inl (upd (S.2.1 60) j v))) = mW E (sF S 60 j v) := rfl
theorem mf_61 {E : mE} {S : mS} {j : Nat} {v : Int32} : (mW E S).set 62 (E.2.2.1 61, .inl (E.2.2.2.1 61, 200, .inl (upd (S.2.1 61) j v))) = mW E (sF S 61 j v) := rfl
theorem mf_62 {E : mE} {S : mS} {j : Nat} {v : Int32} : (mW E S).set 63 (E.2.2.1 62, .inl (E.2.2.2.1 62, 200, .inl (upd (S.2.1 62) j v))) = mW E (sF S 62 j v) := rfl
theorem mf_63 {E : mE} {S : mS} {j : Nat} {v : Int32} : (mW E S).set 64 (E.2.2.1 63, .inl (E.2.2.2.1 63, 200, .inl (upd (S.2.1 63) j v))) = mW E (sF S 63 j v) := rfl
theorem mf_64 {E : mE} {S : mS} {j : Nat} {v : Int32} : (mW E S).set 65 (E.2.2.1 64, .inl (E.2.2.2.1 64, 200, .inl (upd (S.2.1 64) j v))) = mW E (sF S 64 j v) := rfl
theorem mf_65 {E : mE} {S : mS} {j : Nat} {v : Int32} : (mW E S).set 66 (E.2.2.1 65, .inl (E.2.2.2.1 65, 200, .inl (upd (S.2.1 65) j v))) = mW E (sF S 65 j v) := rfl
theorem mf_66 {E : mE} {S : mS} {j : Nat} {v : Int32} : (mW E S).set 67 (E.2.2.1 66, .inl (E.2.2.2.1 66, 200, .inl (upd (S.2.1 66) j v))) = mW E (sF S 66 j v) := rfl
theorem mf_67 {E : mE} {S : mS} {j : Nat} {v : Int32} : (mW E S).set 68 (E.2.2.1 67, .inl (E.2.2.2.1 67, 200, .inl (upd (S.2.1 67) j v))) = mW E (sF S 67 j v) := rfl
theorem mf_68 {E : mE} {S : mS} {j : Nat} {v : Int32} : (mW E S).set 69 (E.2.2.1 68, .inl (E.2.2.2.1 68, 200, .inl (upd (S.2.1 68) j v))) = mW E (sF S 68 j v) := rfl
theorem mf_69 {E : mE} {S : mS} {j : Nat} {v : Int32} : (mW E S).set 70 (E.2.2.1 69, .inl (E.2.2.2.1 69, 2200, .inl (upd (S.2.1 69) j v))) = mW E (sF S 69 j v) := rfl
theorem mf_70 {E : mE} {S : mS} {j : Nat} {v : Int32} : (mW E S).set 71 (E.2.2.1 70, .inl (E.2.2.2.1 70, 2200, .inl (upd (S.2.1 70) j v))) = mW E (sF S 70 j v) := rfl
theorem mf_71 {E : mE} {S : mS} {j : Nat} {v : Int32} : (mW E S).set 72 (E.2.2.1 71, .inl (E.2.2.2.1 71, 2200, .inl (upd (S.2.1 71) j v))) = mW E (sF S 71 j v) := rfl
theorem mf_72 {E : mE} {S : mS} {j : Nat} {v : Int32} : (mW E S).set 73 (E.2.2.1 72, .inl (E.2.2.2.1 72, 2200, .inl (upd (S.2.1 72) j v))) = mW E (sF S 72 j v) := rfl
theorem mf_73 {E : mE} {S : mS} {j : Nat} {v : Int32} : (mW E S).set 74 (E.2.2.1 73, .inl (E.2.2.2.1 73, 200, .inl (upd (S.2.1 73) j v))) = mW E (sF S 73 j v) := rfl
theorem mf_74 {E : mE} {S : mS} {j : Nat} {v : Int32} : (mW E S).set 75 (E.2.2.1 74, .inl (E.2.2.2.1 74, 300, .inl (upd (S.2.1 74) j v))) = mW E (sF S 74 j v) := rfl
theorem mf_75 {E : mE} {S : mS} {j : Nat} {v : Int32} : (mW E S).set 76 (E.2.2.1 75, .inl (E.2.2.2.1 75, 300, .inl (upd (S.2.1 75) j v))) = mW E (sF S 75 j v) := rfl
theorem mf_76 {E : mE} {S : mS} {j : Nat} {v : Int32} : (mW E S).set 77 (E.2.2.1 76, .inl (E.2.2.2.1 76, 300, .inl (upd (S.2.1 76) j v))) = mW E (sF S 76 j v) := rfl
theorem mf_77 {E : mE} {S : mS} {j : Nat} {v : Int32} : (mW E S).set 78 (E.2.2.1 77, .inl (E.2.2.2.1 77, 300, .inl (upd (S.2.1 77) j v))) = mW E (sF S 77 j v) := rfl
theorem mf_78 {E : mE} {S : mS} {j : Nat} {v : Int32} : (mW E S).set 79 (E.2.2.1 78, .inl (E.2.2.2.1 78, 8, .inl (upd (S.2.1 78) j v))) = mW E (sF S 78 j v) := rfl
theorem mf_79 {E : mE} {S : mS} {j : Nat} {v : Int32} : (mW E S).set 80 (E.2.2.1 79, .inl (E.2.2.2.1 79, 400, .inl (upd (S.2.1 79) j v))) = mW E (sF S 79 j v) := rfl
theorem mf_80 {E : mE} {S : mS} {j : Nat} {v : Int32} : (mW E S).set 81 (E.2.2.1 80, .inl (E.2.2.2.1 80, 100300, .inl (upd (S.2.1 80) j v))) = mW E (sF S 80 j v) := rfl
theorem mf_81 {E : mE} {S : mS} {j : Nat} {v : Int32} : (mW E S).set 82 (E.2.2.1 81, .inl (E.2.2.2.1 81, 100300, .inl (upd (S.2.1 81) j v))) = mW E (sF S 81 j v) := rfl
theorem mf_82 {E : mE} {S : mS} {j : Nat} {v : Int32} : (mW E S).set 83 (E.2.2.1 82, .inl (E.2.2.2.1 82, 100300, .inl (upd (S.2.1 82) j v))) = mW E (sF S 82 j v) := rfl
theorem mf_83 {E : mE} {S : mS} {j : Nat} {v : Int32} : (mW E S).set 84 (E.2.2.1 83, .inl (E.2.2.2.1 83, 100300, .inl (upd (S.2.1 83) j v))) = mW E (sF S 83 j v) := rfl
theorem mf_84 {E : mE} {S : mS} {j : Nat} {v : Int32} : (mW E S).set 85 (E.2.2.1 84, .inl (E.2.2.2.1 84, 100300, .inl (upd (S.2.1 84) j v))) = mW E (sF S 84 j v) := rfl
theorem mf_85 {E : mE} {S : mS} {j : Nat} {v : Int32} : (mW E S).set 86 (E.2.2.1 85, .inl (E.2.2.2.1 85, 100300, .inl (upd (S.2.1 85) j v))) = mW E (sF S 85 j v) := rfl
theorem mf_86 {E : mE} {S : mS} {j : Nat} {v : Int64} : (mW E S).set 87 (E.2.2.1 86, .inl (E.2.2.2.1 86, 100300, .inr (.inl (vp_updL (S.2.2 86) j v)))) = mW E (sG S 86 j v) := rfl
theorem mf_87 {E : mE} {S : mS} {j : Nat} {v : Int32} : (mW E S).set 88 (E.2.2.1 87, .inl (E.2.2.2.1 87, 100300, .inl (upd (S.2.1 87) j v))) = mW E (sF S 87 j v) := rfl
theorem mf_88 {E : mE} {S : mS} {j : Nat} {v : Int32} : (mW E S).set 89 (E.2.2.1 88, .inl (E.2.2.2.1 88, 4000, .inl (upd (S.2.1 88) j v))) = mW E (sF S 88 j v) := rfl
theorem px_cl {i : Int32} {j : Nat} (h : i.toInt = (j : Int)) : i.toNatClampNeg = j := by
  show i.toInt.toNat = j
  rw [h]; rfl
theorem px_vp {i : Int32} {j n : Nat} (h : i.toInt = (j : Int)) (hn : j < n) : vp_in i n := by
  rw [vp_in_iff]
  omega
theorem ti_lt {x y : Int32} {X Y : Int} (hx : x.toInt = X) (hy : y.toInt = Y) (h : x < y) : X < Y := by rw [← hx, ← hy]; exact Int32.lt_iff_toInt_lt.mp h
theorem ti_le {x y : Int32} {X Y : Int} (hx : x.toInt = X) (hy : y.toInt = Y) (h : x ≤ y) : X ≤ Y := by rw [← hx, ← hy]; exact Int32.le_iff_toInt_le.mp h
theorem ti_nlt {x y : Int32} {X Y : Int} (hx : x.toInt = X) (hy : y.toInt = Y) (h : ¬ x < y) : Y ≤ X := ti_le hy hx (Int32.not_lt.mp h)
theorem ti_nle {x y : Int32} {X Y : Int} (hx : x.toInt = X) (hy : y.toInt = Y) (h : ¬ x ≤ y) : Y < X := ti_lt hy hx (Int32.not_le.mp h)
theorem ti_eq {x y : Int32} {X Y : Int} (hx : x.toInt = X) (hy : y.toInt = Y) (h : x = y) : X = Y := by rw [← hx, ← hy, h]
theorem ti_ne {x y : Int32} {X Y : Int} (hx : x.toInt = X) (hy : y.toInt = Y) (h : ¬ x = y) : X ≠ Y := fun q => h (Int32.toInt_inj.mp (by rw [hx, hy, q]))
theorem ti_rng (x : Int32) : -2147483648 ≤ x.toInt ∧ x.toInt < 2147483648 := ⟨Int32.le_toInt x, Int32.toInt_lt x⟩
theorem ti_bm {a : Int} (h : -2147483648 ≤ a ∧ a < 2147483648) : a.bmod (2 ^ 32) = a := by
  rw [Int.bmod_def]
  omega
theorem ti_add {x y z : Int32} {X Y : Int} (e : z = x + y) (hx : x.toInt = X) (hy : y.toInt = Y) (h : -2147483648 ≤ X + Y ∧ X + Y < 2147483648) : z.toInt = X + Y := by
  rw [e, Int32.toInt_add, hx, hy]; exact ti_bm h
theorem ti_sub {x y z : Int32} {X Y : Int} (e : z = x - y) (hx : x.toInt = X) (hy : y.toInt = Y) (h : -2147483648 ≤ X - Y ∧ X - Y < 2147483648) : z.toInt = X - Y := by
  rw [e, Int32.toInt_sub, hx, hy]; exact ti_bm h
theorem ti_mul {x y z : Int32} {X Y : Int} (e : z = x * y) (hx : x.toInt = X) (hy : y.toInt = Y) (h : -2147483648 ≤ X * Y ∧ X * Y < 2147483648) : z.toInt = X * Y := by
  rw [e, Int32.toInt_mul, hx, hy]; exact ti_bm h
def mC (E : mE) (A : Nat → Prop) (H0 : Heap) (S : mS) (H : Heap) (locs : List Loc) : Prop := va_P E.1 vwCl (mW E S) H ∧ va_D A (mW E S) ∧ va_S A H0 H locs
def mX (p : Program) (s : State) (m : MethodId) (args : Array Value) (c : Code) (cc : ByteArray) (nL : Nat) (E : mE) (A : Nat → Prop) : Prop := CallFix p m c cc nL s args tb RX12 ∧ va_K E.1 vwCl (mT E) s ∧ (∀ q : Nat, s.heap.size ≤ q → A q)
def mPre (E : mE) (As : List Value) (S : mS) (sz : Nat) : Array Value → State → Prop := va_Pc (.ref E.2.1 :: As) (fun U => U.heap.size = sz ∧ va_P E.1 vwCl (mW E S) U.heap ∧ va_K E.1 vwCl (mT E) U ∧ va_D (fun _ => True) (mW E S))
def mB (E : mE) (S : mS) (sz : Nat) (S1 : mS) (t : State) : Prop := va_P E.1 vwCl (mW E S1) t.heap ∧ va_K E.1 vwCl (mT E) t ∧ va_D (va_A (mW E S) sz) (mW E S1)
def mQi (E : mE) (S : mS) (sz : Nat) (Post : mS → Int32 → Prop) : Array Value → State → Outcome → State → Prop := va_Qi (fun (r : Int32) (u : Int32 × mS) => r = u.1) (fun (u : Int32 × mS) t => Post u.2 u.1 ∧ mB E S sz u.2 t) (va_A (mW E S) sz)
def mQv (E : mE) (S : mS) (sz : Nat) (Post : mS → Prop) : Array Value → State → Outcome → State → Prop := va_Qv (fun (_ : mS) => True) (fun (u : mS) t => Post u ∧ mB E S sz u t) (va_A (mW E S) sz)
def mRm (fr lo : Nat) : Room := { frames := fr, cells := 0, slots := 0, locals := lo }
def mMi (l : Launch) (y : MethodName) (cc : ByteArray) (mL : Nat) (ret : Option FieldType) (fr lo : Nat) (As : mE → List Value) (S : mS) (Post : mS → Int32 → Prop) : Prop := ∀ (E : mE) (sz : Nat), Met l y (.code y cc mL ret :: tb) (mRm fr lo) (mPre E (As E) S sz) (mQi E S sz Post) 0 0 (va_A (mW E S) sz)
def mMv (l : Launch) (y : MethodName) (cc : ByteArray) (mL : Nat) (ret : Option FieldType) (fr lo : Nat) (As : mE → List Value) (S : mS) (Post : mS → Prop) : Prop := ∀ (E : mE) (sz : Nat), Met l y (.code y cc mL ret :: tb) (mRm fr lo) (mPre E (As E) S sz) (mQv E S sz Post) 0 0 (va_A (mW E S) sz)
theorem mPre_blind {E : mE} {As : List Value} {S : mS} {sz : Nat} : FrameBlind (mPre E As S sz) := fun a U g mk q => by
  obtain ⟨q0, q1, qP, qK, qD⟩ := q
  exact ⟨q0, q1, qP, va_K.moved (u := U) (U := U.calling g mk a) (Vm.Alike.refl U.vm) qK, qD⟩
section MV
variable {p : Program} {l : Launch} {e : Env} {R : Room} {s : State} {m : MethodId} {args : Array Value} {below : List Frame} {meth : Method} {c : Code} {H : Heap} {locs : List Loc} {cells slots : Nat} {Q : State → Prop} {cc : ByteArray} {nL pc : Nat} {ls : Array Slot} {rest : List Value} {E : mE} {A : Nat → Prop} {S : mS}
theorem mv_get (hX : mX p s m args c cc nL E A) (hC : mC E A s.heap S H locs) (k : Nat) (hk : k < 128) {index : Nat} (hw : Cond.fieldLink RX12 index (TX12 k).1 (TX12 k).2.1 (TX12 k).2.2.1 ∈ tb) {v : Value} (hv : (mO E S)[k]? = some v) (hd : decode cc pc = .ok (.getfield index, 3)) (kk : W p l e R s m args below meth c H locs cells slots Q (F0 m (pc + 3) ls (v :: rest))) : W p l e R s m args below meth c H locs cells slots Q (F0 m pc ls (.ref E.2.1 :: rest)) :=
  va_get (D := E.1) (ci := 12) (C := RX12) (T := TX12) (N := 128) hX.1.1 hX.1.2.1 hX.1.2.2.2.2 in_X12 hX.1.2.2.2.1 hX.2.1 hC.1 0 rfl rfl k hk (hX.1.2.2.2.2 _ hw) (fun _ h9 => h9) hv hd kk
theorem mv_put (hX : mX p s m args c cc nL E A) (hC : mC E A s.heap S H locs) (k j : Nat) (hk : k < 128) {index : Nat} (hw : Cond.fieldLink RX12 index (TX12 k).1 (TX12 k).2.1 (TX12 k).2.2.1 ∈ tb) (hfin : (TX12 k).2.2.2 = false) {v : Int32} (hn : narrow (tyX12 k) (.int v) = .int v) (hfit : fits (tyX12 k) (.int v) = true) (hset : (mO E S).set k (.int v) = mO E (sZ S j v)) (hd : decode cc pc = .ok (.putfield index, 3)) (kk : ∀ (H1 : Heap) (locs1 : List Loc), mC E A s.heap (sZ S j v) H1 locs1 → W p l e R s m args below meth c H1 locs1 cells slots Q (F0 m (pc + 3) ls rest)) : W p l e R s m args below meth c H locs cells slots Q (F0 m pc ls (.int v :: .ref E.2.1 :: rest)) := by
  refine va_put (D := E.1) (ci := 12) (C := RX12) (T := TX12) (N := 128) (ty := tyX12 k) hX.1.1 hX.1.2.1 hX.1.2.2.2.2 in_X12 tyX12 tyX12_ok nmX12 hX.1.2.2.2.1 hX.2.1 hC.1 hC.2.1 hC.2.2 0 rfl rfl k hk (hX.1.2.2.2.2 _ hw) (fun _ h9 => h9) hfin (tyX12_ok k hk) hn hfit hk hd (fun H1 locs1 hP hD hS => kk H1 locs1 ⟨?_, ?_, hS⟩)
  · rw [hset] at hP; exact hP
  · rw [hset] at hD; exact hD
theorem mv_ild (hX : mX p s m args c cc nL E A) (hC : mC E A s.heap S H locs) (k : Nat) {n : Nat} (ha : (mW E S)[k + 1]? = some (E.2.2.1 k, .inl (E.2.2.2.1 k, n, .inl (S.2.1 k)))) (ht : (mT E)[k]? = some (E.2.2.2.1 k, .int)) {i : Int32} {j : Nat} (hj : i.toInt = (j : Int)) (hn : j < n) {v : Int32} (hv : S.2.1 k j = v) (hd : decode cc pc = .ok (.iaload, 1)) (kk : W p l e R s m args below meth c H locs cells slots Q (F0 m (pc + 1) ls (.int v :: rest))) : W p l e R s m args below meth c H locs cells slots Q (F0 m pc ls (.int i :: .ref (E.2.2.1 k) :: rest)) :=
  va_iald hX.1.1 hX.1.2.1 hX.2.1 hC.1 (k + 1) k ha ht (px_vp hj hn) hd (by rw [px_cl hj, hv]; exact kk)
theorem mv_zld (hX : mX p s m args c cc nL E A) (hC : mC E A s.heap S H locs) (k : Nat) {n : Nat} (ha : (mW E S)[k + 1]? = some (E.2.2.1 k, .inl (E.2.2.2.1 k, n, .inl (S.2.1 k)))) (ht : (mT E)[k]? = some (E.2.2.2.1 k, .boolean)) {i : Int32} {j : Nat} (hj : i.toInt = (j : Int)) (hn : j < n) {v : Int32} (hv : S.2.1 k j = v) (hd : decode cc pc = .ok (.baload, 1)) (kk : W p l e R s m args below meth c H locs cells slots Q (F0 m (pc + 1) ls (.int v :: rest))) : W p l e R s m args below meth c H locs cells slots Q (F0 m pc ls (.int i :: .ref (E.2.2.1 k) :: rest)) :=
  va_zald hX.1.1 hX.1.2.1 hX.2.1 hC.1 (k + 1) k ha ht (px_vp hj hn) hd (by rw [px_cl hj, hv]; exact kk)
theorem mv_lld (hX : mX p s m args c cc nL E A) (hC : mC E A s.heap S H locs) (k : Nat) {n : Nat} (ha : (mW E S)[k + 1]? = some (E.2.2.1 k, .inl (E.2.2.2.1 k, n, .inr (.inl (S.2.2 k))))) (ht : (mT E)[k]? = some (E.2.2.2.1 k, .long)) {i : Int32} {j : Nat} (hj : i.toInt = (j : Int)) (hn : j < n) {v : Int64} (hv : S.2.2 k j = v) (hd : decode cc pc = .ok (.laload, 1)) (kk : W p l e R s m args below meth c H locs cells slots Q (F0 m (pc + 1) ls (.long v :: rest))) : W p l e R s m args below meth c H locs cells slots Q (F0 m pc ls (.int i :: .ref (E.2.2.1 k) :: rest)) :=
  va_lald hX.1.1 hX.1.2.1 hX.2.1 hC.1 (k + 1) k ha ht (px_vp hj hn) hd (by rw [px_cl hj, hv]; exact kk)
theorem mv_ist (hX : mX p s m args c cc nL E A) (hC : mC E A s.heap S H locs) (k : Nat) {n : Nat} (ha : (mW E S)[k + 1]? = some (E.2.2.1 k, .inl (E.2.2.2.1 k, n, .inl (S.2.1 k)))) (ht : (mT E)[k]? = some (E.2.2.2.1 k, .int)) {i : Int32} {j : Nat} (hj : i.toInt = (j : Int)) (hn : j < n) {v : Int32} (hset : (mW E S).set (k + 1) (E.2.2.1 k, .inl (E.2.2.2.1 k, n, .inl (upd (S.2.1 k) j v))) = mW E (sF S k j v)) (hd : decode cc pc = .ok (.iastore, 1)) (kk : ∀ (H1 : Heap) (locs1 : List Loc), mC E A s.heap (sF S k j v) H1 locs1 → W p l e R s m args below meth c H1 locs1 cells slots Q (F0 m (pc + 1) ls rest)) : W p l e R s m args below meth c H locs cells slots Q (F0 m pc ls (.int v :: .int i :: .ref (E.2.2.1 k) :: rest)) := by
  refine va_iast hX.1.1 hX.1.2.1 hX.2.1 hC.1 hC.2.1 hC.2.2 (k + 1) k ha ht (px_vp hj hn) hd (fun H1 locs1 hP hD hS => kk H1 locs1 ⟨?_, ?_, hS⟩)
  · rw [px_cl hj, hset] at hP; exact hP
  · rw [px_cl hj, hset] at hD; exact hD
theorem mv_zst (hX : mX p s m args c cc nL E A) (hC : mC E A s.heap S H locs) (k : Nat) {n : Nat} (ha : (mW E S)[k + 1]? = some (E.2.2.1 k, .inl (E.2.2.2.1 k, n, .inl (S.2.1 k)))) (ht : (mT E)[k]? = some (E.2.2.2.1 k, .boolean)) {i : Int32} {j : Nat} (hj : i.toInt = (j : Int)) (hn : j < n) {v : Int32} (hz : vp_nar .boolean v = v) (hset : (mW E S).set (k + 1) (E.2.2.1 k, .inl (E.2.2.2.1 k, n, .inl (upd (S.2.1 k) j v))) = mW E (sF S k j v)) (hd : decode cc pc = .ok (.bastore, 1)) (kk : ∀ (H1 : Heap) (locs1 : List Loc), mC E A s.heap (sF S k j v) H1 locs1 → W p l e R s m args below meth c H1 locs1 cells slots Q (F0 m (pc + 1) ls rest)) : W p l e R s m args below meth c H locs cells slots Q (F0 m pc ls (.int v :: .int i :: .ref (E.2.2.1 k) :: rest)) := by
  refine va_zast hX.1.1 hX.1.2.1 hX.2.1 hC.1 hC.2.1 hC.2.2 (k + 1) k ha ht (px_vp hj hn) hd (fun H1 locs1 hP hD hS => kk H1 locs1 ⟨?_, ?_, hS⟩)
  · rw [px_cl hj, hz, hset] at hP; exact hP
  · rw [px_cl hj, hz, hset] at hD; exact hD
theorem mv_lst (hX : mX p s m args c cc nL E A) (hC : mC E A s.heap S H locs) (k : Nat) {n : Nat} (ha : (mW E S)[k + 1]? = some (E.2.2.1 k, .inl (E.2.2.2.1 k, n, .inr (.inl (S.2.2 k))))) (ht : (mT E)[k]? = some (E.2.2.2.1 k, .long)) {i : Int32} {j : Nat} (hj : i.toInt = (j : Int)) (hn : j < n) {v : Int64} (hset : (mW E S).set (k + 1) (E.2.2.1 k, .inl (E.2.2.2.1 k, n, .inr (.inl (vp_updL (S.2.2 k) j v)))) = mW E (sG S k j v)) (hd : decode cc pc = .ok (.lastore, 1)) (kk : ∀ (H1 : Heap) (locs1 : List Loc), mC E A s.heap (sG S k j v) H1 locs1 → W p l e R s m args below meth c H1 locs1 cells slots Q (F0 m (pc + 1) ls rest)) : W p l e R s m args below meth c H locs cells slots Q (F0 m pc ls (.long v :: .int i :: .ref (E.2.2.1 k) :: rest)) := by
  refine va_last hX.1.1 hX.1.2.1 hX.2.1 hC.1 hC.2.1 hC.2.2 (k + 1) k ha ht (px_vp hj hn) hd (fun H1 locs1 hP hD hS => kk H1 locs1 ⟨?_, ?_, hS⟩)
  · rw [px_cl hj, hset] at hP; exact hP
  · rw [px_cl hj, hset] at hD; exact hD
theorem mC_free (hX : mX p s m args c cc nL E A) (hC : mC E A s.heap S H locs) : ∀ q, va_A (mW E S) H.size q → A q := by
  intro q h
  rcases h with ⟨k, e9, h⟩ | h
  · exact hC.2.1.2 k (q, e9) h
  · exact hX.2.2 q (Nat.le_trans hC.2.2.1 h)
theorem mPre_pay (hX : mX p s m args c cc nL E A) (hC : mC E A s.heap S H locs) (As : List Value) : ∀ U : State, U.heap = H → s.WarmedH U.vm → mPre E As S H.size (Value.ref E.2.1 :: As).toArray U := fun U hU hW => ⟨rfl, by rw [hU], by rw [hU]; exact hC.1, va_K.moved hW.alike hX.2.1, hC.2.1.weaken (fun _ _ _ _ => trivial)⟩
variable {y : MethodName} {bytes : ByteArray} {mL n index fr lo : Nat} {ret : Option FieldType}
theorem mv_calli (As : List Value) {Post : mS → Int32 → Prop} (hX : mX p s m args c cc nL E A) (hC : mC E A s.heap S H locs) (hM : Met l y (.code y bytes mL ret :: tb) (mRm fr lo) (mPre E As S H.size) (mQi E S H.size Post) 0 0 (va_A (mW E S) H.size)) (cw : CallW R s args RX12 RX12 index y bytes mL ret (.code y bytes mL ret :: tb) (mRm fr lo) 0 0 n) (hn : As.length = n) (hls : ls.size = nL) (hW : (rest.map fun v => v.category).sum ≤ 8) (hf : cells ≤ R.cells ∧ slots ≤ R.slots) (hd : decode cc pc = .ok (.invokevirtual index, 3)) (kk : ∀ (r : Int32) (S1 : mS) (H1 : Heap) (locs1 : List Loc), mC E A s.heap S1 H1 locs1 → Post S1 r → W p l e R s m args below meth c H1 locs1 cells slots Q (F0 m (pc + 3) ls (.int r :: rest))) : W p l e R s m args below meth c H locs cells slots Q (F0 m pc ls (As.reverse ++ .ref E.2.1 :: rest)) := by
  have hFc := mC_free hX hC
  refine va_calli (va_runV (As := As) (rest := rest) hX.1 hM cw ⟨mPre_blind, va_recv hX.2.1 hC.1 (ci := 12) (q0 := 0) rfl rfl, mPre_pay hX hC As⟩ rfl hn hls rfl (lv_room hW) hd hf) hC.2.2 (fun q _ h => hFc q h) hFc (fun r u t H1 locs1 ht hvm hw hB hz1 hk1 hS1 => ?_)
  obtain ⟨hp, hP1, hK1, hD1⟩ := hB
  subst hw
  rw [ht] at hP1
  exact kk _ u.2 H1 locs1 ⟨hP1, hD1.weaken (fun k q _ h => hFc q.1 h), hS1⟩ hp
theorem mv_callv (As : List Value) {Post : mS → Prop} (hX : mX p s m args c cc nL E A) (hC : mC E A s.heap S H locs) (hM : Met l y (.code y bytes mL ret :: tb) (mRm fr lo) (mPre E As S H.size) (mQv E S H.size Post) 0 0 (va_A (mW E S) H.size)) (cw : CallW R s args RX12 RX12 index y bytes mL ret (.code y bytes mL ret :: tb) (mRm fr lo) 0 0 n) (hn : As.length = n) (hls : ls.size = nL) (hW : (rest.map fun v => v.category).sum ≤ 8) (hf : cells ≤ R.cells ∧ slots ≤ R.slots) (hd : decode cc pc = .ok (.invokevirtual index, 3)) (kk : ∀ (S1 : mS) (H1 : Heap) (locs1 : List Loc), mC E A s.heap S1 H1 locs1 → Post S1 → W p l e R s m args below meth c H1 locs1 cells slots Q (F0 m (pc + 3) ls rest)) : W p l e R s m args below meth c H locs cells slots Q (F0 m pc ls (As.reverse ++ .ref E.2.1 :: rest)) := by
  have hFc := mC_free hX hC
  refine va_callv (va_runV (As := As) (rest := rest) hX.1 hM cw ⟨mPre_blind, va_recv hX.2.1 hC.1 (ci := 12) (q0 := 0) rfl rfl, mPre_pay hX hC As⟩ rfl hn hls rfl (lv_room hW) hd hf) hC.2.2 (fun q _ h => hFc q h) hFc (fun u t H1 locs1 ht hvm _ hB hz1 hk1 hS1 => ?_)
  obtain ⟨hp, hP1, hK1, hD1⟩ := hB
  rw [ht] at hP1
  exact kk u H1 locs1 ⟨hP1, hD1.weaken (fun k q _ h => hFc q.1 h), hS1⟩ hp
end MV
section MO
variable {l : Launch} {y : MethodName} {cc : ByteArray} {mL fr lo : Nat} {As : mE → List Value} {S : mS}
theorem mv_ofi {Post : mS → Int32 → Prop} (hy : plainName y.cls = true) (hyc : y.cls = RX12) (hlen : ∀ E : mE, (lg_sl (.ref E.2.1 :: As E)).length ≤ mL)
    (body : ∀ (E : mE) (p : Program) (e : Env) (R : Room) (s : State) (m : MethodId) (args : Array Value) (below : List Frame) (meth : Method) (c : Code) (A : Nat → Prop) (ls : Array Slot) (Q : State → Prop), fr ≤ R.frames → lo ≤ R.locals → mX p s m args c cc mL E A → mC E A s.heap S s.heap [] → lv_has ls mL (lv_args 0 (.ref E.2.1 :: As E)) →
      (∀ (r : Int32) (S1 : mS) (H : Heap) (locs : List Loc) (pc : Nat) (ls1 : Array Slot), mC E A s.heap S1 H locs → Post S1 r → decode cc pc = .ok (.ireturn, 1) → W p l e R s m args below meth c H locs 0 0 Q (F0 m pc ls1 [.int r])) → W p l e R s m args below meth c s.heap [] 0 0 Q (F0 m 0 ls [])) : mMi l y cc mL (some .int) fr lo As S Post := by
  intro E sz
  refine Met.ofW (cc := cc) (maxL := mL) (ret := some .int) hy rfl ?_
  intro p e s m args below meth c s₁ B hml hv
  obtain ⟨rfl, hsz, hP, hK, hD0⟩ := hv
  have hr := B.returns
  have hlocks := B.notSynchronized
  have hD := hD0.self (sz := s.heap.size)
  subst hsz
  have hts : ∀ w ∈ tb, w.before _ s = true := fun w h => atoms_spec (ws := (.code y cc mL (some .int) :: tb)) B.pre w (List.mem_cons_of_mem _ h)
  rw [lg_entry_eq]
  refine body E p e _ s m _ below meth c (va_A (mW E S) s.heap.size) _ _ (Nat.le_refl _) (Nat.le_refl _) ⟨⟨B.exec, B.bytes, hml, by rw [← hyc]; exact findClass_of_methodNamed B.named, hts⟩, hK, fun q h => Or.inr h⟩ ⟨hP, hD, va_S.rf⟩ (lv_entry _ (hlen E)) (fun r S1 H locs pc ls1 hC hp hd => ?_)
  exact W.iret (v := r) B.exec B.bytes hr (fun t ht hW => ⟨⟨r, (r, S1), rfl, rfl, hp, by rw [ht]; exact hC.1, va_K.moved hW.alike hK, hC.2.1⟩, hC.2.2.F ht⟩) hC.2.2.2.2 hd
theorem mv_ofz {Post : mS → Int32 → Prop} (hy : plainName y.cls = true) (hyc : y.cls = RX12) (hlen : ∀ E : mE, (lg_sl (.ref E.2.1 :: As E)).length ≤ mL)
    (body : ∀ (E : mE) (p : Program) (e : Env) (R : Room) (s : State) (m : MethodId) (args : Array Value) (below : List Frame) (meth : Method) (c : Code) (A : Nat → Prop) (ls : Array Slot) (Q : State → Prop), fr ≤ R.frames → lo ≤ R.locals → mX p s m args c cc mL E A → mC E A s.heap S s.heap [] → lv_has ls mL (lv_args 0 (.ref E.2.1 :: As E)) →
      (∀ (r : Int32) (S1 : mS) (H : Heap) (locs : List Loc) (pc : Nat) (ls1 : Array Slot), mC E A s.heap S1 H locs → (r = 0 ∨ r = 1) → Post S1 r → decode cc pc = .ok (.ireturn, 1) → W p l e R s m args below meth c H locs 0 0 Q (F0 m pc ls1 [.int r])) → W p l e R s m args below meth c s.heap [] 0 0 Q (F0 m 0 ls [])) : mMi l y cc mL (some .boolean) fr lo As S Post := by
  intro E sz
  refine Met.ofW (cc := cc) (maxL := mL) (ret := some .boolean) hy rfl ?_
  intro p e s m args below meth c s₁ B hml hv
  obtain ⟨rfl, hsz, hP, hK, hD0⟩ := hv
  have hr := B.returns
  have hlocks := B.notSynchronized
  have hD := hD0.self (sz := s.heap.size)
  subst hsz
  have hts : ∀ w ∈ tb, w.before _ s = true := fun w h => atoms_spec (ws := (.code y cc mL (some .boolean) :: tb)) B.pre w (List.mem_cons_of_mem _ h)
  rw [lg_entry_eq]
  refine body E p e _ s m _ below meth c (va_A (mW E S) s.heap.size) _ _ (Nat.le_refl _) (Nat.le_refl _) ⟨⟨B.exec, B.bytes, hml, by rw [← hyc]; exact findClass_of_methodNamed B.named, hts⟩, hK, fun q h => Or.inr h⟩ ⟨hP, hD, va_S.rf⟩ (lv_entry _ (hlen E)) (fun r S1 H locs pc ls1 hC h01 hp hd => ?_)
  exact W.zret (v := r) B.exec B.bytes hr (by rcases h01 with rfl | rfl <;> rfl) (fun t ht hW => ⟨⟨r, (r, S1), rfl, rfl, hp, by rw [ht]; exact hC.1, va_K.moved hW.alike hK, hC.2.1⟩, hC.2.2.F ht⟩) hC.2.2.2.2 hd
theorem mv_ofv {Post : mS → Prop} (hy : plainName y.cls = true) (hyc : y.cls = RX12) (hlen : ∀ E : mE, (lg_sl (.ref E.2.1 :: As E)).length ≤ mL)
    (body : ∀ (E : mE) (p : Program) (e : Env) (R : Room) (s : State) (m : MethodId) (args : Array Value) (below : List Frame) (meth : Method) (c : Code) (A : Nat → Prop) (ls : Array Slot) (Q : State → Prop), fr ≤ R.frames → lo ≤ R.locals → mX p s m args c cc mL E A → mC E A s.heap S s.heap [] → lv_has ls mL (lv_args 0 (.ref E.2.1 :: As E)) →
      (∀ (S1 : mS) (H : Heap) (locs : List Loc) (pc : Nat) (ls1 : Array Slot), mC E A s.heap S1 H locs → Post S1 → decode cc pc = .ok (.return_, 1) → W p l e R s m args below meth c H locs 0 0 Q (F0 m pc ls1 [])) → W p l e R s m args below meth c s.heap [] 0 0 Q (F0 m 0 ls [])) : mMv l y cc mL none fr lo As S Post := by
  intro E sz
  refine Met.ofW (cc := cc) (maxL := mL) (ret := none) hy rfl ?_
  intro p e s m args below meth c s₁ B hml hv
  obtain ⟨rfl, hsz, hP, hK, hD0⟩ := hv
  have hr := B.returns
  have hlocks := B.notSynchronized
  have hD := hD0.self (sz := s.heap.size)
  subst hsz
  have hts : ∀ w ∈ tb, w.before _ s = true := fun w h => atoms_spec (ws := (.code y cc mL none :: tb)) B.pre w (List.mem_cons_of_mem _ h)
  rw [lg_entry_eq]
  refine body E p e _ s m _ below meth c (va_A (mW E S) s.heap.size) _ _ (Nat.le_refl _) (Nat.le_refl _) ⟨⟨B.exec, B.bytes, hml, by rw [← hyc]; exact findClass_of_methodNamed B.named, hts⟩, hK, fun q h => Or.inr h⟩ ⟨hP, hD, va_S.rf⟩ (lv_entry _ (hlen E)) (fun S1 H locs pc ls1 hC hp hd => ?_)
  exact W.vret B.exec B.bytes hr (fun t ht hW => ⟨⟨S1, rfl, trivial, hp, by rw [ht]; exact hC.1, va_K.moved hW.alike hK, hC.2.1⟩, hC.2.2.F ht⟩) hC.2.2.2.2 hd
end MO

