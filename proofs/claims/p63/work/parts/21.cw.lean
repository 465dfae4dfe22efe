/-! the class's world: cell i at a i; its numbers st i (rows of longs: sl i) -/
abbrev CT : Type := Nat → Nat → Int32
abbrev CL : Type := Nat → Nat → Int64
def sw {α : Type} (st : Nat → Nat → α) (q : Nat) (f : Nat → α) : Nat → Nat → α := fun c => if c = q then f else st c
theorem sw_same {α : Type} {st : Nat → Nat → α} {q : Nat} {f : Nat → α} : sw st q f q = f := if_pos rfl
theorem sw_ne {α : Type} {st : Nat → Nat → α} {q c : Nat} {f : Nat → α} (h : c ≠ q) : sw st q f c = st c := if_neg h
theorem sw_at {α : Type} {st st9 : Nat → Nat → α} {q c : Nat} {f : Nat → α} (e : st9 = sw st q f) (h : c ≠ q) : st9 c = st c := by rw [e]; exact sw_ne h
theorem sw_it {α : Type} {st st9 : Nat → Nat → α} {q : Nat} {f : Nat → α} (e : st9 = sw st q f) : st9 q = f := by rw [e]; exact sw_same
def CWS (k : Nat → ClassId) (a : Nat → Nat) (st : CT) (sl : CL) : va_W := [(a 0, .inr (9, [.ref (a 2), .ref (a 1), .ref (a 17), .ref (a 40), .ref (a 110), .ref (a 111), .ref (a 119), .ref (a 125), .ref (a 126), .ref (a 162), .ref (a 166)])), (a 1, .inr (2, [.ref (a 2), .ref (a 4), .int (st 1 2), .int (st 1 3), .int (st 1 4), .int (st 1 5), .int (st 1 6), .int (st 1 7)])), (a 2, .inr (6, [.ref (a 3), .int (st 2 1)])), (a 3, .inl (k 1, 1000, .inl (st 3))), (a 4, .inr (1, [.int (st 4 0), .int (st 4 1), .int (st 4 2), .int (st 4 3), .int (st 4 4), .int (st 4 5), .int (st 4 6), .ref (a 5), .ref (a 6), .ref (a 7), .ref (a 8), .ref (a 9), .ref (a 10), .ref (a 11)])), (a 5, .inl (k 0, 8, .inl (st 5))), (a 6, .inl (k 0, 8, .inl (st 6))), (a 7, .inl (k 0, 8, .inl (st 7))), (a 8, .inl (k 0, 6, .inl (st 8))), (a 9, .inl (k 0, 6, .inl (st 9))), (a 10, .inl (k 0, 6, .inl (st 10))), (a 11, .inr (5, [.ref (a 12), .ref (a 13), .ref (a 14), .ref (a 15), .ref (a 16)])), (a 12, .inl (k 0, 64, .inl (st 12))), (a 13, .inl (k 0, 8, .inl (st 13))), (a 14, .inl (k 0, 8, .inl (st 14))), (a 15, .inl (k 0, 3, .inl (st 15))), (a 16, .inl (k 0, 3, .inl (st 16))), (a 17, .inr (8, [.ref (a 18), .ref (a 31), .int (st 17 2), .ref (a 37), .ref (a 38), .ref (a 39)])), (a 18, .inr (1, [.int (st 18 0), .int (st 18 1), .int (st 18 2), .int (st 18 3), .int (st 18 4), .int (st 18 5), .int (st 18 6), .ref (a 19), .ref (a 20), .ref (a 21), .ref (a 22), .ref (a 23), .ref (a 24), .ref (a 25)])), (a 19, .inl (k 0, 8, .inl (st 19))), (a 20, .inl (k 0, 8, .inl (st 20))), (a 21, .inl (k 0, 8, .inl (st 21))), (a 22, .inl (k 0, 6, .inl (st 22))), (a 23, .inl (k 0, 6, .inl (st 23))), (a 24, .inl (k 0, 6, .inl (st 24))), (a 25, .inr (5, [.ref (a 26), .ref (a 27), .ref (a 28), .ref (a 29), .ref (a 30)])), (a 26, .inl (k 0, 64, .inl (st 26))), (a 27, .inl (k 0, 8, .inl (st 27))), (a 28, .inl (k 0, 8, .inl (st 28))), (a 29, .inl (k 0, 3, .inl (st 29))), (a 30, .inl (k 0, 3, .inl (st 30))), (a 31, .inr (5, [.ref (a 32), .ref (a 33), .ref (a 34), .ref (a 35), .ref (a 36)])), (a 32, .inl (k 0, 64, .inl (st 32))), (a 33, .inl (k 0, 8, .inl (st 33))), (a 34, .inl (k 0, 8, .inl (st 34))), (a 35, .inl (k 0, 3, .inl (st 35))), (a 36, .inl (k 0, 3, .inl (st 36))), (a 37, .inl (k 0, 40, .inl (st 37))), (a 38, .inl (k 0, 40, .inl (st 38))), (a 39, .inl (k 0, 40, .inl (st 39))), (a 40, .inl (k 4, 3, .inr (.inr (.inr (.inr (va_up (va_up (va_up (fun _ => none) 0 (some (a 41))) 1 (some (a 64))) 2 (some (a 87)))))))), (a 41, .inr (8, [.ref (a 42), .ref (a 55), .int (st 41 2), .ref (a 61), .ref (a 62), .ref (a 63)])), (a 42, .inr (1, [.int (st 42 0), .int (st 42 1), .int (st 42 2), .int (st 42 3), .int (st 42 4), .int (st 42 5), .int (st 42 6), .ref (a 43), .ref (a 44), .ref (a 45), .ref (a 46), .ref (a 47), .ref (a 48), .ref (a 49)])), (a 43, .inl (k 0, 8, .inl (st 43))), (a 44, .inl (k 0, 8, .inl (st 44))), (a 45, .inl (k 0, 8, .inl (st 45))), (a 46, .inl (k 0, 6, .inl (st 46))), (a 47, .inl (k 0, 6, .inl (st 47))), (a 48, .inl (k 0, 6, .inl (st 48))), (a 49, .inr (5, [.ref (a 50), .ref (a 51), .ref (a 52), .ref (a 53), .ref (a 54)])), (a 50, .inl (k 0, 64, .inl (st 50))), (a 51, .inl (k 0, 8, .inl (st 51))), (a 52, .inl (k 0, 8, .inl (st 52))), (a 53, .inl (k 0, 3, .inl (st 53))), (a 54, .inl (k 0, 3, .inl (st 54))), (a 55, .inr (5, [.ref (a 56), .ref (a 57), .ref (a 58), .ref (a 59), .ref (a 60)])), (a 56, .inl (k 0, 64, .inl (st 56))), (a 57, .inl (k 0, 8, .inl (st 57))), (a 58, .inl (k 0, 8, .inl (st 58))), (a 59, .inl (k 0, 3, .inl (st 59))), (a 60, .inl (k 0, 3, .inl (st 60))), (a 61, .inl (k 0, 40, .inl (st 61))), (a 62, .inl (k 0, 40, .inl (st 62))), (a 63, .inl (k 0, 40, .inl (st 63))), (a 64, .inr (8, [.ref (a 65), .ref (a 78), .int (st 64 2), .ref (a 84), .ref (a 85), .ref (a 86)])), (a 65, .inr (1, [.int (st 65 0), .int (st 65 1), .int (st 65 2), .int (st 65 3), .int (st 65 4), .int (st 65 5), .int (st 65 6), .ref (a 66), .ref (a 67), .ref (a 68), .ref (a 69), .ref (a 70), .ref (a 71), .ref (a 72)])), (a 66, .inl (k 0, 8, .inl (st 66))), (a 67, .inl (k 0, 8, .inl (st 67))), (a 68, .inl (k 0, 8, .inl (st 68))), (a 69, .inl (k 0, 6, .inl (st 69))), (a 70, .inl (k 0, 6, .inl (st 70))), (a 71, .inl (k 0, 6, .inl (st 71))), (a 72, .inr (5, [.ref (a 73), .ref (a 74), .ref (a 75), .ref (a 76), .ref (a 77)])), (a 73, .inl (k 0, 64, .inl (st 73))), (a 74, .inl (k 0, 8, .inl (st 74))), (a 75, .inl (k 0, 8, .inl (st 75))), (a 76, .inl (k 0, 3, .inl (st 76))), (a 77, .inl (k 0, 3, .inl (st 77))), (a 78, .inr (5, [.ref (a 79), .ref (a 80), .ref (a 81), .ref (a 82), .ref (a 83)])), (a 79, .inl (k 0, 64, .inl (st 79))), (a 80, .inl (k 0, 8, .inl (st 80))), (a 81, .inl (k 0, 8, .inl (st 81))), (a 82, .inl (k 0, 3, .inl (st 82))), (a 83, .inl (k 0, 3, .inl (st 83))), (a 84, .inl (k 0, 40, .inl (st 84))), (a 85, .inl (k 0, 40, .inl (st 85))), (a 86, .inl (k 0, 40, .inl (st 86))), (a 87, .inr (8, [.ref (a 88), .ref (a 101), .int (st 87 2), .ref (a 107), .ref (a 108), .ref (a 109)])), (a 88, .inr (1, [.int (st 88 0), .int (st 88 1), .int (st 88 2), .int (st 88 3), .int (st 88 4), .int (st 88 5), .int (st 88 6), .ref (a 89), .ref (a 90), .ref (a 91), .ref (a 92), .ref (a 93), .ref (a 94), .ref (a 95)])), (a 89, .inl (k 0, 8, .inl (st 89))), (a 90, .inl (k 0, 8, .inl (st 90))), (a 91, .inl (k 0, 8, .inl (st 91))), (a 92, .inl (k 0, 6, .inl (st 92))), (a 93, .inl (k 0, 6, .inl (st 93))), (a 94, .inl (k 0, 6, .inl (st 94))), (a 95, .inr (5, [.ref (a 96), .ref (a 97), .ref (a 98), .ref (a 99), .ref (a 100)])), (a 96, .inl (k 0, 64, .inl (st 96))), (a 97, .inl (k 0, 8, .inl (st 97))), (a 98, .inl (k 0, 8, .inl (st 98))), (a 99, .inl (k 0, 3, .inl (st 99))), (a 100, .inl (k 0, 3, .inl (st 100))), (a 101, .inr (5, [.ref (a 102), .ref (a 103), .ref (a 104), .ref (a 105), .ref (a 106)])), (a 102, .inl (k 0, 64, .inl (st 102))), (a 103, .inl (k 0, 8, .inl (st 103))), (a 104, .inl (k 0, 8, .inl (st 104))), (a 105, .inl (k 0, 3, .inl (st 105))), (a 106, .inl (k 0, 3, .inl (st 106))), (a 107, .inl (k 0, 40, .inl (st 107))), (a 108, .inl (k 0, 40, .inl (st 108))), (a 109, .inl (k 0, 40, .inl (st 109))), (a 110, .inl (k 3, 3, .inl (st 110))), (a 111, .inr (4, [.ref (a 112), .ref (a 113), .ref (a 114)])), (a 112, .inl (k 0, 4, .inl (st 112))), (a 113, .inl (k 0, 4, .inl (st 113))), (a 114, .inl (k 6, 4, .inr (.inr (.inr (.inr (va_up (va_up (va_up (va_up (fun _ => none) 0 (some (a 115))) 1 (some (a 116))) 2 (some (a 117))) 3 (some (a 118)))))))), (a 115, .inl (k 2, 60, .inr (.inl (sl 115)))), (a 116, .inl (k 2, 60, .inr (.inl (sl 116)))), (a 117, .inl (k 2, 60, .inr (.inl (sl 117)))), (a 118, .inl (k 2, 60, .inr (.inl (sl 118)))), (a 119, .inr (5, [.ref (a 120), .ref (a 121), .ref (a 122), .ref (a 123), .ref (a 124)])), (a 120, .inl (k 0, 64, .inl (st 120))), (a 121, .inl (k 0, 8, .inl (st 121))), (a 122, .inl (k 0, 8, .inl (st 122))), (a 123, .inl (k 0, 3, .inl (st 123))), (a 124, .inl (k 0, 3, .inl (st 124))), (a 125, .inr (7, [.int (st 125 0), .int (st 125 1), .int (st 125 2), .int (st 125 3), .int (st 125 4), .int (st 125 5)])), (a 126, .inr (3, [.ref (a 127), .ref (a 158), .ref (a 159), .ref (a 160), .ref (a 161), .int (st 126 5), .int (st 126 6), .int (st 126 7), .int (st 126 8), .int (st 126 9)])), (a 127, .inl (k 5, 5, .inr (.inr (.inr (.inr (va_up (va_up (va_up (va_up (va_up (fun _ => none) 0 (some (a 128))) 1 (some (a 134))) 2 (some (a 140))) 3 (some (a 146))) 4 (some (a 152)))))))), (a 128, .inr (5, [.ref (a 129), .ref (a 130), .ref (a 131), .ref (a 132), .ref (a 133)])), (a 129, .inl (k 0, 64, .inl (st 129))), (a 130, .inl (k 0, 8, .inl (st 130))), (a 131, .inl (k 0, 8, .inl (st 131))), (a 132, .inl (k 0, 3, .inl (st 132))), (a 133, .inl (k 0, 3, .inl (st 133))), (a 134, .inr (5, [.ref (a 135), .ref (a 136), .ref (a 137), .ref (a 138), .ref (a 139)])), (a 135, .inl (k 0, 64, .inl (st 135))), (a 136, .inl (k 0, 8, .inl (st 136))), (a 137, .inl (k 0, 8, .inl (st 137))), (a 138, .inl (k 0, 3, .inl (st 138))), (a 139, .inl (k 0, 3, .inl (st 139))), (a 140, .inr (5, [.ref (a 141), .ref (a 142), .ref (a 143), .ref (a 144), .ref (a 145)])), (a 141, .inl (k 0, 64, .inl (st 141))), (a 142, .inl (k 0, 8, .inl (st 142))), (a 143, .inl (k 0, 8, .inl (st 143))), (a 144, .inl (k 0, 3, .inl (st 144))), (a 145, .inl (k 0, 3, .inl (st 145))), (a 146, .inr (5, [.ref (a 147), .ref (a 148), .ref (a 149), .ref (a 150), .ref (a 151)])), (a 147, .inl (k 0, 64, .inl (st 147))), (a 148, .inl (k 0, 8, .inl (st 148))), (a 149, .inl (k 0, 8, .inl (st 149))), (a 150, .inl (k 0, 3, .inl (st 150))), (a 151, .inl (k 0, 3, .inl (st 151))), (a 152, .inr (5, [.ref (a 153), .ref (a 154), .ref (a 155), .ref (a 156), .ref (a 157)])), (a 153, .inl (k 0, 64, .inl (st 153))), (a 154, .inl (k 0, 8, .inl (st 154))), (a 155, .inl (k 0, 8, .inl (st 155))), (a 156, .inl (k 0, 3, .inl (st 156))), (a 157, .inl (k 0, 3, .inl (st 157))), (a 158, .inl (k 0, 6, .inl (st 158))), (a 159, .inl (k 0, 6, .inl (st 159))), (a 160, .inl (k 0, 4, .inl (st 160))), (a 161, .inl (k 0, 4, .inl (st 161))), (a 162, .inr (0, [.ref (a 163), .ref (a 164), .ref (a 165)])), (a 163, .inl (k 0, 256, .inl (st 163))), (a 164, .inl (k 0, 8, .inl (st 164))), (a 165, .inl (k 0, 8, .inl (st 165))), (a 166, .inl (k 0, 8, .inl (st 166)))]
set_option maxRecDepth 100000 in
theorem cw_0 {k : Nat → ClassId} {a : Nat → Nat} {st : CT} {sl : CL} : (CWS k a st sl)[0]? = some (a 0, .inr (9, [.ref (a 2), .ref (a 1), .ref (a 17), .ref (a 40), .ref (a 110), .ref (a 111), .ref (a 119), .ref (a 125), .ref (a 126), .ref (a 162), .ref (a 166)])) := rfl
set_option maxRecDepth 100000 in
theorem cw_1 {k : Nat → ClassId} {a : Nat → Nat} {st : CT} {sl : CL} : (CWS k a st sl)[1]? = some (a 1, .inr (2, [.ref (a 2), .ref (a 4), .int (st 1 2), .int (st 1 3), .int (st 1 4), .int (st 1 5), .int (st 1 6), .int (st 1 7)])) := rfl
set_option maxRecDepth 100000 in
theorem cw_2 {k : Nat → ClassId} {a : Nat → Nat} {st : CT} {sl : CL} : (CWS k a st sl)[2]? = some (a 2, .inr (6, [.ref (a 3), .int (st 2 1)])) := rfl
set_option maxRecDepth 100000 in
theorem cw_3 {k : Nat → ClassId} {a : Nat → Nat} {st : CT} {sl : CL} : (CWS k a st sl)[3]? = some (a 3, .inl (k 1, 1000, .inl (st 3))) := rfl
set_option maxRecDepth 100000 in
theorem cw_4 {k : Nat → ClassId} {a : Nat → Nat} {st : CT} {sl : CL} : (CWS k a st sl)[4]? = some (a 4, .inr (1, [.int (st 4 0), .int (st 4 1), .int (st 4 2), .int (st 4 3), .int (st 4 4), .int (st 4 5), .int (st 4 6), .ref (a 5), .ref (a 6), .ref (a 7), .ref (a 8), .ref (a 9), .ref (a 10), .ref (a 11)])) := rfl
set_option maxRecDepth 100000 in
theorem cw_5 {k : Nat → ClassId} {a : Nat → Nat} {st : CT} {sl : CL} : (CWS k a st sl)[5]? = some (a 5, .inl (k 0, 8, .inl (st 5))) := rfl
set_option maxRecDepth 100000 in
theorem cw_6 {k : Nat → ClassId} {a : Nat → Nat} {st : CT} {sl : CL} : (CWS k a st sl)[6]? = some (a 6, .inl (k 0, 8, .inl (st 6))) := rfl
set_option maxRecDepth 100000 in
theorem cw_7 {k : Nat → ClassId} {a : Nat → Nat} {st : CT} {sl : CL} : (CWS k a st sl)[7]? = some (a 7, .inl (k 0, 8, .inl (st 7))) := rfl
set_option maxRecDepth 100000 in
theorem cw_8 {k : Nat → ClassId} {a : Nat → Nat} {st : CT} {sl : CL} : (CWS k a st sl)[8]? = some (a 8, .inl (k 0, 6, .inl (st 8))) := rfl
set_option maxRecDepth 100000 in
theorem cw_9 {k : Nat → ClassId} {a : Nat → Nat} {st : CT} {sl : CL} : (CWS k a st sl)[9]? = some (a 9, .inl (k 0, 6, .inl (st 9))) := rfl
set_option maxRecDepth 100000 in
theorem cw_10 {k : Nat → ClassId} {a : Nat → Nat} {st : CT} {sl : CL} : (CWS k a st sl)[10]? = some (a 10, .inl (k 0, 6, .inl (st 10))) := rfl
set_option maxRecDepth 100000 in
theorem cw_11 {k : Nat → ClassId} {a : Nat → Nat} {st : CT} {sl : CL} : (CWS k a st sl)[11]? = some (a 11, .inr (5, [.ref (a 12), .ref (a 13), .ref (a 14), .ref (a 15), .ref (a 16)])) := rfl
set_option maxRecDepth 100000 in
theorem cw_12 {k : Nat → ClassId} {a : Nat → Nat} {st : CT} {sl : CL} : (CWS k a st sl)[12]? = some (a 12, .inl (k 0, 64, .inl (st 12))) := rfl
set_option maxRecDepth 100000 in
theorem cw_13 {k : Nat → ClassId} {a : Nat → Nat} {st : CT} {sl : CL} : (CWS k a st sl)[13]? = some (a 13, .inl (k 0, 8, .inl (st 13))) := rfl
set_option maxRecDepth 100000 in
theorem cw_14 {k : Nat → ClassId} {a : Nat → Nat} {st : CT} {sl : CL} : (CWS k a st sl)[14]? = some (a 14, .inl (k 0, 8, .inl (st 14))) := rfl
set_option maxRecDepth 100000 in
theorem cw_15 {k : Nat → ClassId} {a : Nat → Nat} {st : CT} {sl : CL} : (CWS k a st sl)[15]? = some (a 15, .inl (k 0, 3, .inl (st 15))) := rfl
set_option maxRecDepth 100000 in
theorem cw_16 {k : Nat → ClassId} {a : Nat → Nat} {st : CT} {sl : CL} : (CWS k a st sl)[16]? = some (a 16, .inl (k 0, 3, .inl (st 16))) := rfl
set_option maxRecDepth 100000 in
theorem cw_17 {k : Nat → ClassId} {a : Nat → Nat} {st : CT} {sl : CL} : (CWS k a st sl)[17]? = some (a 17, .inr (8, [.ref (a 18), .ref (a 31), .int (st 17 2), .ref (a 37), .ref (a 38), .ref (a 39)])) := rfl
set_option maxRecDepth 100000 in
theorem cw_18 {k : Nat → ClassId} {a : Nat → Nat} {st : CT} {sl : CL} : (CWS k a st sl)[18]? = some (a 18, .inr (1, [.int (st 18 0), .int (st 18 1), .int (st 18 2), .int (st 18 3), .int (st 18 4), .int (st 18 5), .int (st 18 6), .ref (a 19), .ref (a 20), .ref (a 21), .ref (a 22), .ref (a 23), .ref (a 24), .ref (a 25)])) := rfl
set_option maxRecDepth 100000 in
theorem cw_19 {k : Nat → ClassId} {a : Nat → Nat} {st : CT} {sl : CL} : (CWS k a st sl)[19]? = some (a 19, .inl (k 0, 8, .inl (st 19))) := rfl
set_option maxRecDepth 100000 in
theorem cw_20 {k : Nat → ClassId} {a : Nat → Nat} {st : CT} {sl : CL} : (CWS k a st sl)[20]? = some (a 20, .inl (k 0, 8, .inl (st 20))) := rfl
set_option maxRecDepth 100000 in
theorem cw_21 {k : Nat → ClassId} {a : Nat → Nat} {st : CT} {sl : CL} : (CWS k a st sl)[21]? = some (a 21, .inl (k 0, 8, .inl (st 21))) := rfl
set_option maxRecDepth 100000 in
theorem cw_22 {k : Nat → ClassId} {a : Nat → Nat} {st : CT} {sl : CL} : (CWS k a st sl)[22]? = some (a 22, .inl (k 0, 6, .inl (st 22))) := rfl
set_option maxRecDepth 100000 in
theorem cw_23 {k : Nat → ClassId} {a : Nat → Nat} {st : CT} {sl : CL} : (CWS k a st sl)[23]? = some (a 23, .inl (k 0, 6, .inl (st 23))) := rfl
set_option maxRecDepth 100000 in
theorem cw_24 {k : Nat → ClassId} {a : Nat → Nat} {st : CT} {sl : CL} : (CWS k a st sl)[24]? = some (a 24, .inl (k 0, 6, .inl (st 24))) := rfl
set_option maxRecDepth 100000 in
theorem cw_25 {k : Nat → ClassId} {a : Nat → Nat} {st : CT} {sl : CL} : (CWS k a st sl)[25]? = some (a 25, .inr (5, [.ref (a 26), .ref (a 27), .ref (a 28), .ref (a 29), .ref (a 30)])) := rfl
set_option maxRecDepth 100000 in
theorem cw_26 {k : Nat → ClassId} {a : Nat → Nat} {st : CT} {sl : CL} : (CWS k a st sl)[26]? = some (a 26, .inl (k 0, 64, .inl (st 26))) := rfl
set_option maxRecDepth 100000 in
theorem cw_27 {k : Nat → ClassId} {a : Nat → Nat} {st : CT} {sl : CL} : (CWS k a st sl)[27]? = some (a 27, .inl (k 0, 8, .inl (st 27))) := rfl
set_option maxRecDepth 100000 in
theorem cw_28 {k : Nat → ClassId} {a : Nat → Nat} {st : CT} {sl : CL} : (CWS k a st sl)[28]? = some (a 28, .inl (k 0, 8, .inl (st 28))) := rfl
set_option maxRecDepth 100000 in
theorem cw_29 {k : Nat → ClassId} {a : Nat → Nat} {st : CT} {sl : CL} : (CWS k a st sl)[29]? = some (a 29, .inl (k 0, 3, .inl (st 29))) := rfl
set_option maxRecDepth 100000 in
theorem cw_30 {k : Nat → ClassId} {a : Nat → Nat} {st : CT} {sl : CL} : (CWS k a st sl)[30]? = some (a 30, .inl (k 0, 3, .inl (st 30))) := rfl
set_option maxRecDepth 100000 in
theorem cw_31 {k : Nat → ClassId} {a : Nat → Nat} {st : CT} {sl : CL} : (CWS k a st sl)[31]? = some (a 31, .inr (5, [.ref (a 32), .ref (a 33), .ref (a 34), .ref (a 35), .ref (a 36)])) := rfl
set_option maxRecDepth 100000 in
theorem cw_32 {k : Nat → ClassId} {a : Nat → Nat} {st : CT} {sl : CL} : (CWS k a st sl)[32]? = some (a 32, .inl (k 0, 64, .inl (st 32))) := rfl
set_option maxRecDepth 100000 in
theorem cw_33 {k : Nat → ClassId} {a : Nat → Nat} {st : CT} {sl : CL} : (CWS k a st sl)[33]? = some (a 33, .inl (k 0, 8, .inl (st 33))) := rfl
set_option maxRecDepth 100000 in
theorem cw_34 {k : Nat → ClassId} {a : Nat → Nat} {st : CT} {sl : CL} : (CWS k a st sl)[34]? = some (a 34, .inl (k 0, 8, .inl (st 34))) := rfl
set_option maxRecDepth 100000 in
theorem cw_35 {k : Nat → ClassId} {a : Nat → Nat} {st : CT} {sl : CL} : (CWS k a st sl)[35]? = some (a 35, .inl (k 0, 3, .inl (st 35))) := rfl
set_option maxRecDepth 100000 in
theorem cw_36 {k : Nat → ClassId} {a : Nat → Nat} {st : CT} {sl : CL} : (CWS k a st sl)[36]? = some (a 36, .inl (k 0, 3, .inl (st 36))) := rfl
set_option maxRecDepth 100000 in
theorem cw_37 {k : Nat → ClassId} {a : Nat → Nat} {st : CT} {sl : CL} : (CWS k a st sl)[37]? = some (a 37, .inl (k 0, 40, .inl (st 37))) := rfl
set_option maxRecDepth 100000 in
theorem cw_38 {k : Nat → ClassId} {a : Nat → Nat} {st : CT} {sl : CL} : (CWS k a st sl)[38]? = some (a 38, .inl (k 0, 40, .inl (st 38))) := rfl
set_option maxRecDepth 100000 in
theorem cw_39 {k : Nat → ClassId} {a : Nat → Nat} {st : CT} {sl : CL} : (CWS k a st sl)[39]? = some (a 39, .inl (k 0, 40, .inl (st 39))) := rfl
set_option maxRecDepth 100000 in
theorem cw_40 {k : Nat → ClassId} {a : Nat → Nat} {st : CT} {sl : CL} : (CWS k a st sl)[40]? = some (a 40, .inl (k 4, 3, .inr (.inr (.inr (.inr (va_up (va_up (va_up (fun _ => none) 0 (some (a 41))) 1 (some (a 64))) 2 (some (a 87)))))))) := rfl
set_option maxRecDepth 100000 in
theorem cw_41 {k : Nat → ClassId} {a : Nat → Nat} {st : CT} {sl : CL} : (CWS k a st sl)[41]? = some (a 41, .inr (8, [.ref (a 42), .ref (a 55), .int (st 41 2), .ref (a 61), .ref (a 62), .ref (a 63)])) := rfl
set_option maxRecDepth 100000 in
theorem cw_42 {k : Nat → ClassId} {a : Nat → Nat} {st : CT} {sl : CL} : (CWS k a st sl)[42]? = some (a 42, .inr (1, [.int (st 42 0), .int (st 42 1), .int (st 42 2), .int (st 42 3), .int (st 42 4), .int (st 42 5), .int (st 42 6), .ref (a 43), .ref (a 44), .ref (a 45), .ref (a 46), .ref (a 47), .ref (a 48), .ref (a 49)])) := rfl
set_option maxRecDepth 100000 in
theorem cw_43 {k : Nat → ClassId} {a : Nat → Nat} {st : CT} {sl : CL} : (CWS k a st sl)[43]? = some (a 43, .inl (k 0, 8, .inl (st 43))) := rfl
set_option maxRecDepth 100000 in
theorem cw_44 {k : Nat → ClassId} {a : Nat → Nat} {st : CT} {sl : CL} : (CWS k a st sl)[44]? = some (a 44, .inl (k 0, 8, .inl (st 44))) := rfl
set_option maxRecDepth 100000 in
theorem cw_45 {k : Nat → ClassId} {a : Nat → Nat} {st : CT} {sl : CL} : (CWS k a st sl)[45]? = some (a 45, .inl (k 0, 8, .inl (st 45))) := rfl
set_option maxRecDepth 100000 in
theorem cw_46 {k : Nat → ClassId} {a : Nat → Nat} {st : CT} {sl : CL} : (CWS k a st sl)[46]? = some (a 46, .inl (k 0, 6, .inl (st 46))) := rfl
set_option maxRecDepth 100000 in
theorem cw_47 {k : Nat → ClassId} {a : Nat → Nat} {st : CT} {sl : CL} : (CWS k a st sl)[47]? = some (a 47, .inl (k 0, 6, .inl (st 47))) := rfl
set_option maxRecDepth 100000 in
theorem cw_48 {k : Nat → ClassId} {a : Nat → Nat} {st : CT} {sl : CL} : (CWS k a st sl)[48]? = some (a 48, .inl (k 0, 6, .inl (st 48))) := rfl
set_option maxRecDepth 100000 in
theorem cw_49 {k : Nat → ClassId} {a : Nat → Nat} {st : CT} {sl : CL} : (CWS k a st sl)[49]? = some (a 49, .inr (5, [.ref (a 50), .ref (a 51), .ref (a 52), .ref (a 53), .ref (a 54)])) := rfl
set_option maxRecDepth 100000 in
theorem cw_50 {k : Nat → ClassId} {a : Nat → Nat} {st : CT} {sl : CL} : (CWS k a st sl)[50]? = some (a 50, .inl (k 0, 64, .inl (st 50))) := rfl
set_option maxRecDepth 100000 in
theorem cw_51 {k : Nat → ClassId} {a : Nat → Nat} {st : CT} {sl : CL} : (CWS k a st sl)[51]? = some (a 51, .inl (k 0, 8, .inl (st 51))) := rfl
set_option maxRecDepth 100000 in
theorem cw_52 {k : Nat → ClassId} {a : Nat → Nat} {st : CT} {sl : CL} : (CWS k a st sl)[52]? = some (a 52, .inl (k 0, 8, .inl (st 52))) := rfl
set_option maxRecDepth 100000 in
theorem cw_53 {k : Nat → ClassId} {a : Nat → Nat} {st : CT} {sl : CL} : (CWS k a st sl)[53]? = some (a 53, .inl (k 0, 3, .inl (st 53))) := rfl
set_option maxRecDepth 100000 in
theorem cw_54 {k : Nat → ClassId} {a : Nat → Nat} {st : CT} {sl : CL} : (CWS k a st sl)[54]? = some (a 54, .inl (k 0, 3, .inl (st 54))) := rfl
set_option maxRecDepth 100000 in
theorem cw_55 {k : Nat → ClassId} {a : Nat → Nat} {st : CT} {sl : CL} : (CWS k a st sl)[55]? = some (a 55, .inr (5, [.ref (a 56), .ref (a 57), .ref (a 58), .ref (a 59), .ref (a 60)])) := rfl
set_option maxRecDepth 100000 in
theorem cw_56 {k : Nat → ClassId} {a : Nat → Nat} {st : CT} {sl : CL} : (CWS k a st sl)[56]? = some (a 56, .inl (k 0, 64, .inl (st 56))) := rfl
set_option maxRecDepth 100000 in
theorem cw_57 {k : Nat → ClassId} {a : Nat → Nat} {st : CT} {sl : CL} : (CWS k a st sl)[57]? = some (a 57, .inl (k 0, 8, .inl (st 57))) := rfl
set_option maxRecDepth 100000 in
theorem cw_58 {k : Nat → ClassId} {a : Nat → Nat} {st : CT} {sl : CL} : (CWS k a st sl)[58]? = some (a 58, .inl (k 0, 8, .inl (st 58))) := rfl
set_option maxRecDepth 100000 in
theorem cw_59 {k : Nat → ClassId} {a : Nat → Nat} {st : CT} {sl : CL} : (CWS k a st sl)[59]? = some (a 59, .inl (k 0, 3, .inl (st 59))) := rfl
set_option maxRecDepth 100000 in
theorem cw_60 {k : Nat → ClassId} {a : Nat → Nat} {st : CT} {sl : CL} : (CWS k a st sl)[60]? = some (a 60, .inl (k 0, 3, .inl (st 60))) := rfl
set_option maxRecDepth 100000 in
theorem cw_61 {k : Nat → ClassId} {a : Nat → Nat} {st : CT} {sl : CL} : (CWS k a st sl)[61]? = some (a 61, .inl (k 0, 40, .inl (st 61))) := rfl
set_option maxRecDepth 100000 in
theorem cw_62 {k : Nat → ClassId} {a : Nat → Nat} {st : CT} {sl : CL} : (CWS k a st sl)[62]? = some (a 62, .inl (k 0, 40, .inl (st 62))) := rfl
set_option maxRecDepth 100000 in
theorem cw_63 {k : Nat → ClassId} {a : Nat → Nat} {st : CT} {sl : CL} : (CWS k a st sl)[63]? = some (a 63, .inl (k 0, 40, .inl (st 63))) := rfl
set_option maxRecDepth 100000 in
theorem cw_64 {k : Nat → ClassId} {a : Nat → Nat} {st : CT} {sl : CL} : (CWS k a st sl)[64]? = some (a 64, .inr (8, [.ref (a 65), .ref (a 78), .int (st 64 2), .ref (a 84), .ref (a 85), .ref (a 86)])) := rfl
set_option maxRecDepth 100000 in
theorem cw_65 {k : Nat → ClassId} {a : Nat → Nat} {st : CT} {sl : CL} : (CWS k a st sl)[65]? = some (a 65, .inr (1, [.int (st 65 0), .int (st 65 1), .int (st 65 2), .int (st 65 3), .int (st 65 4), .int (st 65 5), .int (st 65 6), .ref (a 66), .ref (a 67), .ref (a 68), .ref (a 69), .ref (a 70), .ref (a 71), .ref (a 72)])) := rfl
set_option maxRecDepth 100000 in
theorem cw_66 {k : Nat → ClassId} {a : Nat → Nat} {st : CT} {sl : CL} : (CWS k a st sl)[66]? = some (a 66, .inl (k 0, 8, .inl (st 66))) := rfl
set_option maxRecDepth 100000 in
theorem cw_67 {k : Nat → ClassId} {a : Nat → Nat} {st : CT} {sl : CL} : (CWS k a st sl)[67]? = some (a 67, .inl (k 0, 8, .inl (st 67))) := rfl
set_option maxRecDepth 100000 in
theorem cw_68 {k : Nat → ClassId} {a : Nat → Nat} {st : CT} {sl : CL} : (CWS k a st sl)[68]? = some (a 68, .inl (k 0, 8, .inl (st 68))) := rfl
set_option maxRecDepth 100000 in
theorem cw_69 {k : Nat → ClassId} {a : Nat → Nat} {st : CT} {sl : CL} : (CWS k a st sl)[69]? = some (a 69, .inl (k 0, 6, .inl (st 69))) := rfl
set_option maxRecDepth 100000 in
theorem cw_70 {k : Nat → ClassId} {a : Nat → Nat} {st : CT} {sl : CL} : (CWS k a st sl)[70]? = some (a 70, .inl (k 0, 6, .inl (st 70))) := rfl
set_option maxRecDepth 100000 in
theorem cw_71 {k : Nat → ClassId} {a : Nat → Nat} {st : CT} {sl : CL} : (CWS k a st sl)[71]? = some (a 71, .inl (k 0, 6, .inl (st 71))) := rfl
set_option maxRecDepth 100000 in
theorem cw_72 {k : Nat → ClassId} {a : Nat → Nat} {st : CT} {sl : CL} : (CWS k a st sl)[72]? = some (a 72, .inr (5, [.ref (a 73), .ref (a 74), .ref (a 75), .ref (a 76), .ref (a 77)])) := rfl
set_option maxRecDepth 100000 in
theorem cw_73 {k : Nat → ClassId} {a : Nat → Nat} {st : CT} {sl : CL} : (CWS k a st sl)[73]? = some (a 73, .inl (k 0, 64, .inl (st 73))) := rfl
set_option maxRecDepth 100000 in
theorem cw_74 {k : Nat → ClassId} {a : Nat → Nat} {st : CT} {sl : CL} : (CWS k a st sl)[74]? = some (a 74, .inl (k 0, 8, .inl (st 74))) := rfl
set_option maxRecDepth 100000 in
theorem cw_75 {k : Nat → ClassId} {a : Nat → Nat} {st : CT} {sl : CL} : (CWS k a st sl)[75]? = some (a 75, .inl (k 0, 8, .inl (st 75))) := rfl
set_option maxRecDepth 100000 in
theorem cw_76 {k : Nat → ClassId} {a : Nat → Nat} {st : CT} {sl : CL} : (CWS k a st sl)[76]? = some (a 76, .inl (k 0, 3, .inl (st 76))) := rfl
set_option maxRecDepth 100000 in
theorem cw_77 {k : Nat → ClassId} {a : Nat → Nat} {st : CT} {sl : CL} : (CWS k a st sl)[77]? = some (a 77, .inl (k 0, 3, .inl (st 77))) := rfl
set_option maxRecDepth 100000 in
theorem cw_78 {k : Nat → ClassId} {a : Nat → Nat} {st : CT} {sl : CL} : (CWS k a st sl)[78]? = some (a 78, .inr (5, [.ref (a 79), .ref (a 80), .ref (a 81), .ref (a 82), .ref (a 83)])) := rfl
set_option maxRecDepth 100000 in
theorem cw_79 {k : Nat → ClassId} {a : Nat → Nat} {st : CT} {sl : CL} : (CWS k a st sl)[79]? = some (a 79, .inl (k 0, 64, .inl (st 79))) := rfl
set_option maxRecDepth 100000 in
theorem cw_80 {k : Nat → ClassId} {a : Nat → Nat} {st : CT} {sl : CL} : (CWS k a st sl)[80]? = some (a 80, .inl (k 0, 8, .inl (st 80))) := rfl
set_option maxRecDepth 100000 in
theorem cw_81 {k : Nat → ClassId} {a : Nat → Nat} {st : CT} {sl : CL} : (CWS k a st sl)[81]? = some (a 81, .inl (k 0, 8, .inl (st 81))) := rfl
set_option maxRecDepth 100000 in
theorem cw_82 {k : Nat → ClassId} {a : Nat → Nat} {st : CT} {sl : CL} : (CWS k a st sl)[82]? = some (a 82, .inl (k 0, 3, .inl (st 82))) := rfl
set_option maxRecDepth 100000 in
theorem cw_83 {k : Nat → ClassId} {a : Nat → Nat} {st : CT} {sl : CL} : (CWS k a st sl)[83]? = some (a 83, .inl (k 0, 3, .inl (st 83))) := rfl
set_option maxRecDepth 100000 in
theorem cw_84 {k : Nat → ClassId} {a : Nat → Nat} {st : CT} {sl : CL} : (CWS k a st sl)[84]? = some (a 84, .inl (k 0, 40, .inl (st 84))) := rfl
set_option maxRecDepth 100000 in
theorem cw_85 {k : Nat → ClassId} {a : Nat → Nat} {st : CT} {sl : CL} : (CWS k a st sl)[85]? = some (a 85, .inl (k 0, 40, .inl (st 85))) := rfl
set_option maxRecDepth 100000 in
theorem cw_86 {k : Nat → ClassId} {a : Nat → Nat} {st : CT} {sl : CL} : (CWS k a st sl)[86]? = some (a 86, .inl (k 0, 40, .inl (st 86))) := rfl
set_option maxRecDepth 100000 in
theorem cw_87 {k : Nat → ClassId} {a : Nat → Nat} {st : CT} {sl : CL} : (CWS k a st sl)[87]? = some (a 87, .inr (8, [.ref (a 88), .ref (a 101), .int (st 87 2), .ref (a 107), .ref (a 108), .ref (a 109)])) := rfl
set_option maxRecDepth 100000 in
theorem cw_88 {k : Nat → ClassId} {a : Nat → Nat} {st : CT} {sl : CL} : (CWS k a st sl)[88]? = some (a 88, .inr (1, [.int (st 88 0), .int (st 88 1), .int (st 88 2), .int (st 88 3), .int (st 88 4), .int (st 88 5), .int (st 88 6), .ref (a 89), .ref (a 90), .ref (a 91), .ref (a 92), .ref (a 93), .ref (a 94), .ref (a 95)])) := rfl
set_option maxRecDepth 100000 in
theorem cw_89 {k : Nat → ClassId} {a : Nat → Nat} {st : CT} {sl : CL} : (CWS k a st sl)[89]? = some (a 89, .inl (k 0, 8, .inl (st 89))) := rfl
set_option maxRecDepth 100000 in
theorem cw_90 {k : Nat → ClassId} {a : Nat → Nat} {st : CT} {sl : CL} : (CWS k a st sl)[90]? = some (a 90, .inl (k 0, 8, .inl (st 90))) := rfl
set_option maxRecDepth 100000 in
theorem cw_91 {k : Nat → ClassId} {a : Nat → Nat} {st : CT} {sl : CL} : (CWS k a st sl)[91]? = some (a 91, .inl (k 0, 8, .inl (st 91))) := rfl
set_option maxRecDepth 100000 in
theorem cw_92 {k : Nat → ClassId} {a : Nat → Nat} {st : CT} {sl : CL} : (CWS k a st sl)[92]? = some (a 92, .inl (k 0, 6, .inl (st 92))) := rfl
set_option maxRecDepth 100000 in
theorem cw_93 {k : Nat → ClassId} {a : Nat → Nat} {st : CT} {sl : CL} : (CWS k a st sl)[93]? = some (a 93, .inl (k 0, 6, .inl (st 93))) := rfl
set_option maxRecDepth 100000 in
theorem cw_94 {k : Nat → ClassId} {a : Nat → Nat} {st : CT} {sl : CL} : (CWS k a st sl)[94]? = some (a 94, .inl (k 0, 6, .inl (st 94))) := rfl
set_option maxRecDepth 100000 in
theorem cw_95 {k : Nat → ClassId} {a : Nat → Nat} {st : CT} {sl : CL} : (CWS k a st sl)[95]? = some (a 95, .inr (5, [.ref (a 96), .ref (a 97), .ref (a 98), .ref (a 99), .ref (a 100)])) := rfl
set_option maxRecDepth 100000 in
theorem cw_96 {k : Nat → ClassId} {a : Nat → Nat} {st : CT} {sl : CL} : (CWS k a st sl)[96]? = some (a 96, .inl (k 0, 64, .inl (st 96))) := rfl
set_option maxRecDepth 100000 in
theorem cw_97 {k : Nat → ClassId} {a : Nat → Nat} {st : CT} {sl : CL} : (CWS k a st sl)[97]? = some (a 97, .inl (k 0, 8, .inl (st 97))) := rfl
set_option maxRecDepth 100000 in
theorem cw_98 {k : Nat → ClassId} {a : Nat → Nat} {st : CT} {sl : CL} : (CWS k a st sl)[98]? = some (a 98, .inl (k 0, 8, .inl (st 98))) := rfl
set_option maxRecDepth 100000 in
theorem cw_99 {k : Nat → ClassId} {a : Nat → Nat} {st : CT} {sl : CL} : (CWS k a st sl)[99]? = some (a 99, .inl (k 0, 3, .inl (st 99))) := rfl
set_option maxRecDepth 100000 in
theorem cw_100 {k : Nat → ClassId} {a : Nat → Nat} {st : CT} {sl : CL} : (CWS k a st sl)[100]? = some (a 100, .inl (k 0, 3, .inl (st 100))) := rfl
set_option maxRecDepth 100000 in
theorem cw_101 {k : Nat → ClassId} {a : Nat → Nat} {st : CT} {sl : CL} : (CWS k a st sl)[101]? = some (a 101, .inr (5, [.ref (a 102), .ref (a 103), .ref (a 104), .ref (a 105), .ref (a 106)])) := rfl
set_option maxRecDepth 100000 in
theorem cw_102 {k : Nat → ClassId} {a : Nat → Nat} {st : CT} {sl : CL} : (CWS k a st sl)[102]? = some (a 102, .inl (k 0, 64, .inl (st 102))) := rfl
set_option maxRecDepth 100000 in
theorem cw_103 {k : Nat → ClassId} {a : Nat → Nat} {st : CT} {sl : CL} : (CWS k a st sl)[103]? = some (a 103, .inl (k 0, 8, .inl (st 103))) := rfl
set_option maxRecDepth 100000 in
theorem cw_104 {k : Nat → ClassId} {a : Nat → Nat} {st : CT} {sl : CL} : (CWS k a st sl)[104]? = some (a 104, .inl (k 0, 8, .inl (st 104))) := rfl
set_option maxRecDepth 100000 in
theorem cw_105 {k : Nat → ClassId} {a : Nat → Nat} {st : CT} {sl : CL} : (CWS k a st sl)[105]? = some (a 105, .inl (k 0, 3, .inl (st 105))) := rfl
set_option maxRecDepth 100000 in
theorem cw_106 {k : Nat → ClassId} {a : Nat → Nat} {st : CT} {sl : CL} : (CWS k a st sl)[106]? = some (a 106, .inl (k 0, 3, .inl (st 106))) := rfl
set_option maxRecDepth 100000 in
theorem cw_107 {k : Nat → ClassId} {a : Nat → Nat} {st : CT} {sl : CL} : (CWS k a st sl)[107]? = some (a 107, .inl (k 0, 40, .inl (st 107))) := rfl
set_option maxRecDepth 100000 in
theorem cw_108 {k : Nat → ClassId} {a : Nat → Nat} {st : CT} {sl : CL} : (CWS k a st sl)[108]? = some (a 108, .inl (k 0, 40, .inl (st 108))) := rfl
set_option maxRecDepth 100000 in
theorem cw_109 {k : Nat → ClassId} {a : Nat → Nat} {st : CT} {sl : CL} : (CWS k a st sl)[109]? = some (a 109, .inl (k 0, 40, .inl (st 109))) := rfl
set_option maxRecDepth 100000 in
theorem cw_110 {k : Nat → ClassId} {a : Nat → Nat} {st : CT} {sl : CL} : (CWS k a st sl)[110]? = some (a 110, .inl (k 3, 3, .inl (st 110))) := rfl
set_option maxRecDepth 100000 in
theorem cw_111 {k : Nat → ClassId} {a : Nat → Nat} {st : CT} {sl : CL} : (CWS k a st sl)[111]? = some (a 111, .inr (4, [.ref (a 112), .ref (a 113), .ref (a 114)])) := rfl
set_option maxRecDepth 100000 in
theorem cw_112 {k : Nat → ClassId} {a : Nat → Nat} {st : CT} {sl : CL} : (CWS k a st sl)[112]? = some (a 112, .inl (k 0, 4, .inl (st 112))) := rfl
set_option maxRecDepth 100000 in
theorem cw_113 {k : Nat → ClassId} {a : Nat → Nat} {st : CT} {sl : CL} : (CWS k a st sl)[113]? = some (a 113, .inl (k 0, 4, .inl (st 113))) := rfl
set_option maxRecDepth 100000 in
theorem cw_114 {k : Nat → ClassId} {a : Nat → Nat} {st : CT} {sl : CL} : (CWS k a st sl)[114]? = some (a 114, .inl (k 6, 4, .inr (.inr (.inr (.inr (va_up (va_up (va_up (va_up (fun _ => none) 0 (some (a 115))) 1 (some (a 116))) 2 (some (a 117))) 3 (some (a 118)))))))) := rfl
set_option maxRecDepth 100000 in
theorem cw_115 {k : Nat → ClassId} {a : Nat → Nat} {st : CT} {sl : CL} : (CWS k a st sl)[115]? = some (a 115, .inl (k 2, 60, .inr (.inl (sl 115)))) := rfl
set_option maxRecDepth 100000 in
theorem cw_116 {k : Nat → ClassId} {a : Nat → Nat} {st : CT} {sl : CL} : (CWS k a st sl)[116]? = some (a 116, .inl (k 2, 60, .inr (.inl (sl 116)))) := rfl
set_option maxRecDepth 100000 in
theorem cw_117 {k : Nat → ClassId} {a : Nat → Nat} {st : CT} {sl : CL} : (CWS k a st sl)[117]? = some (a 117, .inl (k 2, 60, .inr (.inl (sl 117)))) := rfl
set_option maxRecDepth 100000 in
theorem cw_118 {k : Nat → ClassId} {a : Nat → Nat} {st : CT} {sl : CL} : (CWS k a st sl)[118]? = some (a 118, .inl (k 2, 60, .inr (.inl (sl 118)))) := rfl
set_option maxRecDepth 100000 in
theorem cw_119 {k : Nat → ClassId} {a : Nat → Nat} {st : CT} {sl : CL} : (CWS k a st sl)[119]? = some (a 119, .inr (5, [.ref (a 120), .ref (a 121), .ref (a 122), .ref (a 123), .ref (a 124)])) := rfl
set_option maxRecDepth 100000 in
theorem cw_120 {k : Nat → ClassId} {a : Nat → Nat} {st : CT} {sl : CL} : (CWS k a st sl)[120]? = some (a 120, .inl (k 0, 64, .inl (st 120))) := rfl
set_option maxRecDepth 100000 in
theorem cw_121 {k : Nat → ClassId} {a : Nat → Nat} {st : CT} {sl : CL} : (CWS k a st sl)[121]? = some (a 121, .inl (k 0, 8, .inl (st 121))) := rfl
set_option maxRecDepth 100000 in
theorem cw_122 {k : Nat → ClassId} {a : Nat → Nat} {st : CT} {sl : CL} : (CWS k a st sl)[122]? = some (a 122, .inl (k 0, 8, .inl (st 122))) := rfl
set_option maxRecDepth 100000 in
theorem cw_123 {k : Nat → ClassId} {a : Nat → Nat} {st : CT} {sl : CL} : (CWS k a st sl)[123]? = some (a 123, .inl (k 0, 3, .inl (st 123))) := rfl
set_option maxRecDepth 100000 in
theorem cw_124 {k : Nat → ClassId} {a : Nat → Nat} {st : CT} {sl : CL} : (CWS k a st sl)[124]? = some (a 124, .inl (k 0, 3, .inl (st 124))) := rfl
set_option maxRecDepth 100000 in
theorem cw_125 {k : Nat → ClassId} {a : Nat → Nat} {st : CT} {sl : CL} : (CWS k a st sl)[125]? = some (a 125, .inr (7, [.int (st 125 0), .int (st 125 1), .int (st 125 2), .int (st 125 3), .int (st 125 4), .int (st 125 5)])) := rfl
set_option maxRecDepth 100000 in
theorem cw_126 {k : Nat → ClassId} {a : Nat → Nat} {st : CT} {sl : CL} : (CWS k a st sl)[126]? = some (a 126, .inr (3, [.ref (a 127), .ref (a 158), .ref (a 159), .ref (a 160), .ref (a 161), .int (st 126 5), .int (st 126 6), .int (st 126 7), .int (st 126 8), .int (st 126 9)])) := rfl
set_option maxRecDepth 100000 in
theorem cw_127 {k : Nat → ClassId} {a : Nat → Nat} {st : CT} {sl : CL} : (CWS k a st sl)[127]? = some (a 127, .inl (k 5, 5, .inr (.inr (.inr (.inr (va_up (va_up (va_up (va_up (va_up (fun _ => none) 0 (some (a 128))) 1 (some (a 134))) 2 (some (a 140))) 3 (some (a 146))) 4 (some (a 152)))))))) := rfl
set_option maxRecDepth 100000 in
theorem cw_128 {k : Nat → ClassId} {a : Nat → Nat} {st : CT} {sl : CL} : (CWS k a st sl)[128]? = some (a 128, .inr (5, [.ref (a 129), .ref (a 130), .ref (a 131), .ref (a 132), .ref (a 133)])) := rfl
set_option maxRecDepth 100000 in
theorem cw_129 {k : Nat → ClassId} {a : Nat → Nat} {st : CT} {sl : CL} : (CWS k a st sl)[129]? = some (a 129, .inl (k 0, 64, .inl (st 129))) := rfl
set_option maxRecDepth 100000 in
theorem cw_130 {k : Nat → ClassId} {a : Nat → Nat} {st : CT} {sl : CL} : (CWS k a st sl)[130]? = some (a 130, .inl (k 0, 8, .inl (st 130))) := rfl
set_option maxRecDepth 100000 in
theorem cw_131 {k : Nat → ClassId} {a : Nat → Nat} {st : CT} {sl : CL} : (CWS k a st sl)[131]? = some (a 131, .inl (k 0, 8, .inl (st 131))) := rfl
set_option maxRecDepth 100000 in
theorem cw_132 {k : Nat → ClassId} {a : Nat → Nat} {st : CT} {sl : CL} : (CWS k a st sl)[132]? = some (a 132, .inl (k 0, 3, .inl (st 132))) := rfl
set_option maxRecDepth 100000 in
theorem cw_133 {k : Nat → ClassId} {a : Nat → Nat} {st : CT} {sl : CL} : (CWS k a st sl)[133]? = some (a 133, .inl (k 0, 3, .inl (st 133))) := rfl
set_option maxRecDepth 100000 in
theorem cw_134 {k : Nat → ClassId} {a : Nat → Nat} {st : CT} {sl : CL} : (CWS k a st sl)[134]? = some (a 134, .inr (5, [.ref (a 135), .ref (a 136), .ref (a 137), .ref (a 138), .ref (a 139)])) := rfl
set_option maxRecDepth 100000 in
theorem cw_135 {k : Nat → ClassId} {a : Nat → Nat} {st : CT} {sl : CL} : (CWS k a st sl)[135]? = some (a 135, .inl (k 0, 64, .inl (st 135))) := rfl
set_option maxRecDepth 100000 in
theorem cw_136 {k : Nat → ClassId} {a : Nat → Nat} {st : CT} {sl : CL} : (CWS k a st sl)[136]? = some (a 136, .inl (k 0, 8, .inl (st 136))) := rfl
set_option maxRecDepth 100000 in
theorem cw_137 {k : Nat → ClassId} {a : Nat → Nat} {st : CT} {sl : CL} : (CWS k a st sl)[137]? = some (a 137, .inl (k 0, 8, .inl (st 137))) := rfl
set_option maxRecDepth 100000 in
theorem cw_138 {k : Nat → ClassId} {a : Nat → Nat} {st : CT} {sl : CL} : (CWS k a st sl)[138]? = some (a 138, .inl (k 0, 3, .inl (st 138))) := rfl
set_option maxRecDepth 100000 in
theorem cw_139 {k : Nat → ClassId} {a : Nat → Nat} {st : CT} {sl : CL} : (CWS k a st sl)[139]? = some (a 139, .inl (k 0, 3, .inl (st 139))) := rfl
set_option maxRecDepth 100000 in
theorem cw_140 {k : Nat → ClassId} {a : Nat → Nat} {st : CT} {sl : CL} : (CWS k a st sl)[140]? = some (a 140, .inr (5, [.ref (a 141), .ref (a 142), .ref (a 143), .ref (a 144), .ref (a 145)])) := rfl
set_option maxRecDepth 100000 in
theorem cw_141 {k : Nat → ClassId} {a : Nat → Nat} {st : CT} {sl : CL} : (CWS k a st sl)[141]? = some (a 141, .inl (k 0, 64, .inl (st 141))) := rfl
set_option maxRecDepth 100000 in
theorem cw_142 {k : Nat → ClassId} {a : Nat → Nat} {st : CT} {sl : CL} : (CWS k a st sl)[142]? = some (a 142, .inl (k 0, 8, .inl (st 142))) := rfl
set_option maxRecDepth 100000 in
theorem cw_143 {k : Nat → ClassId} {a : Nat → Nat} {st : CT} {sl : CL} : (CWS k a st sl)[143]? = some (a 143, .inl (k 0, 8, .inl (st 143))) := rfl
set_option maxRecDepth 100000 in
theorem cw_144 {k : Nat → ClassId} {a : Nat → Nat} {st : CT} {sl : CL} : (CWS k a st sl)[144]? = some (a 144, .inl (k 0, 3, .inl (st 144))) := rfl
set_option maxRecDepth 100000 in
theorem cw_145 {k : Nat → ClassId} {a : Nat → Nat} {st : CT} {sl : CL} : (CWS k a st sl)[145]? = some (a 145, .inl (k 0, 3, .inl (st 145))) := rfl
set_option maxRecDepth 100000 in
theorem cw_146 {k : Nat → ClassId} {a : Nat → Nat} {st : CT} {sl : CL} : (CWS k a st sl)[146]? = some (a 146, .inr (5, [.ref (a 147), .ref (a 148), .ref (a 149), .ref (a 150), .ref (a 151)])) := rfl
set_option maxRecDepth 100000 in
theorem cw_147 {k : Nat → ClassId} {a : Nat → Nat} {st : CT} {sl : CL} : (CWS k a st sl)[147]? = some (a 147, .inl (k 0, 64, .inl (st 147))) := rfl
set_option maxRecDepth 100000 in
theorem cw_148 {k : Nat → ClassId} {a : Nat → Nat} {st : CT} {sl : CL} : (CWS k a st sl)[148]? = some (a 148, .inl (k 0, 8, .inl (st 148))) := rfl
set_option maxRecDepth 100000 in
theorem cw_149 {k : Nat → ClassId} {a : Nat → Nat} {st : CT} {sl : CL} : (CWS k a st sl)[149]? = some (a 149, .inl (k 0, 8, .inl (st 149))) := rfl
set_option maxRecDepth 100000 in
theorem cw_150 {k : Nat → ClassId} {a : Nat → Nat} {st : CT} {sl : CL} : (CWS k a st sl)[150]? = some (a 150, .inl (k 0, 3, .inl (st 150))) := rfl
set_option maxRecDepth 100000 in
theorem cw_151 {k : Nat → ClassId} {a : Nat → Nat} {st : CT} {sl : CL} : (CWS k a st sl)[151]? = some (a 151, .inl (k 0, 3, .inl (st 151))) := rfl
set_option maxRecDepth 100000 in
theorem cw_152 {k : Nat → ClassId} {a : Nat → Nat} {st : CT} {sl : CL} : (CWS k a st sl)[152]? = some (a 152, .inr (5, [.ref (a 153), .ref (a 154), .ref (a 155), .ref (a 156), .ref (a 157)])) := rfl
set_option maxRecDepth 100000 in
theorem cw_153 {k : Nat → ClassId} {a : Nat → Nat} {st : CT} {sl : CL} : (CWS k a st sl)[153]? = some (a 153, .inl (k 0, 64, .inl (st 153))) := rfl
set_option maxRecDepth 100000 in
theorem cw_154 {k : Nat → ClassId} {a : Nat → Nat} {st : CT} {sl : CL} : (CWS k a st sl)[154]? = some (a 154, .inl (k 0, 8, .inl (st 154))) := rfl
set_option maxRecDepth 100000 in
theorem cw_155 {k : Nat → ClassId} {a : Nat → Nat} {st : CT} {sl : CL} : (CWS k a st sl)[155]? = some (a 155, .inl (k 0, 8, .inl (st 155))) := rfl
set_option maxRecDepth 100000 in
theorem cw_156 {k : Nat → ClassId} {a : Nat → Nat} {st : CT} {sl : CL} : (CWS k a st sl)[156]? = some (a 156, .inl (k 0, 3, .inl (st 156))) := rfl
set_option maxRecDepth 100000 in
theorem cw_157 {k : Nat → ClassId} {a : Nat → Nat} {st : CT} {sl : CL} : (CWS k a st sl)[157]? = some (a 157, .inl (k 0, 3, .inl (st 157))) := rfl
set_option maxRecDepth 100000 in
theorem cw_158 {k : Nat → ClassId} {a : Nat → Nat} {st : CT} {sl : CL} : (CWS k a st sl)[158]? = some (a 158, .inl (k 0, 6, .inl (st 158))) := rfl
set_option maxRecDepth 100000 in
theorem cw_159 {k : Nat → ClassId} {a : Nat → Nat} {st : CT} {sl : CL} : (CWS k a st sl)[159]? = some (a 159, .inl (k 0, 6, .inl (st 159))) := rfl
set_option maxRecDepth 100000 in
theorem cw_160 {k : Nat → ClassId} {a : Nat → Nat} {st : CT} {sl : CL} : (CWS k a st sl)[160]? = some (a 160, .inl (k 0, 4, .inl (st 160))) := rfl
set_option maxRecDepth 100000 in
theorem cw_161 {k : Nat → ClassId} {a : Nat → Nat} {st : CT} {sl : CL} : (CWS k a st sl)[161]? = some (a 161, .inl (k 0, 4, .inl (st 161))) := rfl
set_option maxRecDepth 100000 in
theorem cw_162 {k : Nat → ClassId} {a : Nat → Nat} {st : CT} {sl : CL} : (CWS k a st sl)[162]? = some (a 162, .inr (0, [.ref (a 163), .ref (a 164), .ref (a 165)])) := rfl
set_option maxRecDepth 100000 in
theorem cw_163 {k : Nat → ClassId} {a : Nat → Nat} {st : CT} {sl : CL} : (CWS k a st sl)[163]? = some (a 163, .inl (k 0, 256, .inl (st 163))) := rfl
set_option maxRecDepth 100000 in
theorem cw_164 {k : Nat → ClassId} {a : Nat → Nat} {st : CT} {sl : CL} : (CWS k a st sl)[164]? = some (a 164, .inl (k 0, 8, .inl (st 164))) := rfl
set_option maxRecDepth 100000 in
theorem cw_165 {k : Nat → ClassId} {a : Nat → Nat} {st : CT} {sl : CL} : (CWS k a st sl)[165]? = some (a 165, .inl (k 0, 8, .inl (st 165))) := rfl
set_option maxRecDepth 100000 in
theorem cw_166 {k : Nat → ClassId} {a : Nat → Nat} {st : CT} {sl : CL} : (CWS k a st sl)[166]? = some (a 166, .inl (k 0, 8, .inl (st 166))) := rfl
set_option maxRecDepth 100000 in
theorem cs_1 {k : Nat → ClassId} {a : Nat → Nat} {st : CT} {sl : CL} (f : Nat → Int32) : (CWS k a st sl).set 1 (a 1, .inr (2, [.ref (a 2), .ref (a 4), .int (f 2), .int (f 3), .int (f 4), .int (f 5), .int (f 6), .int (f 7)])) = CWS k a (sw st 1 f) sl := rfl
set_option maxRecDepth 100000 in
theorem cs_2 {k : Nat → ClassId} {a : Nat → Nat} {st : CT} {sl : CL} (f : Nat → Int32) : (CWS k a st sl).set 2 (a 2, .inr (6, [.ref (a 3), .int (f 1)])) = CWS k a (sw st 2 f) sl := rfl
set_option maxRecDepth 100000 in
theorem cs_3 {k : Nat → ClassId} {a : Nat → Nat} {st : CT} {sl : CL} (f : Nat → Int32) : (CWS k a st sl).set 3 (a 3, .inl (k 1, 1000, .inl f)) = CWS k a (sw st 3 f) sl := rfl
set_option maxRecDepth 100000 in
theorem cs_4 {k : Nat → ClassId} {a : Nat → Nat} {st : CT} {sl : CL} (f : Nat → Int32) : (CWS k a st sl).set 4 (a 4, .inr (1, [.int (f 0), .int (f 1), .int (f 2), .int (f 3), .int (f 4), .int (f 5), .int (f 6), .ref (a 5), .ref (a 6), .ref (a 7), .ref (a 8), .ref (a 9), .ref (a 10), .ref (a 11)])) = CWS k a (sw st 4 f) sl := rfl
set_option maxRecDepth 100000 in
theorem cs_5 {k : Nat → ClassId} {a : Nat → Nat} {st : CT} {sl : CL} (f : Nat → Int32) : (CWS k a st sl).set 5 (a 5, .inl (k 0, 8, .inl f)) = CWS k a (sw st 5 f) sl := rfl
set_option maxRecDepth 100000 in
theorem cs_6 {k : Nat → ClassId} {a : Nat → Nat} {st : CT} {sl : CL} (f : Nat → Int32) : (CWS k a st sl).set 6 (a 6, .inl (k 0, 8, .inl f)) = CWS k a (sw st 6 f) sl := rfl
set_option maxRecDepth 100000 in
theorem cs_7 {k : Nat → ClassId} {a : Nat → Nat} {st : CT} {sl : CL} (f : Nat → Int32) : (CWS k a st sl).set 7 (a 7, .inl (k 0, 8, .inl f)) = CWS k a (sw st 7 f) sl := rfl
set_option maxRecDepth 100000 in
theorem cs_8 {k : Nat → ClassId} {a : Nat → Nat} {st : CT} {sl : CL} (f : Nat → Int32) : (CWS k a st sl).set 8 (a 8, .inl (k 0, 6, .inl f)) = CWS k a (sw st 8 f) sl := rfl
set_option maxRecDepth 100000 in
theorem cs_9 {k : Nat → ClassId} {a : Nat → Nat} {st : CT} {sl : CL} (f : Nat → Int32) : (CWS k a st sl).set 9 (a 9, .inl (k 0, 6, .inl f)) = CWS k a (sw st 9 f) sl := rfl
set_option maxRecDepth 100000 in
theorem cs_10 {k : Nat → ClassId} {a : Nat → Nat} {st : CT} {sl : CL} (f : Nat → Int32) : (CWS k a st sl).set 10 (a 10, .inl (k 0, 6, .inl f)) = CWS k a (sw st 10 f) sl := rfl
set_option maxRecDepth 100000 in
theorem cs_12 {k : Nat → ClassId} {a : Nat → Nat} {st : CT} {sl : CL} (f : Nat → Int32) : (CWS k a st sl).set 12 (a 12, .inl (k 0, 64, .inl f)) = CWS k a (sw st 12 f) sl := rfl
set_option maxRecDepth 100000 in
theorem cs_13 {k : Nat → ClassId} {a : Nat → Nat} {st : CT} {sl : CL} (f : Nat → Int32) : (CWS k a st sl).set 13 (a 13, .inl (k 0, 8, .inl f)) = CWS k a (sw st 13 f) sl := rfl
set_option maxRecDepth 100000 in
theorem cs_14 {k : Nat → ClassId} {a : Nat → Nat} {st : CT} {sl : CL} (f : Nat → Int32) : (CWS k a st sl).set 14 (a 14, .inl (k 0, 8, .inl f)) = CWS k a (sw st 14 f) sl := rfl
set_option maxRecDepth 100000 in
theorem cs_15 {k : Nat → ClassId} {a : Nat → Nat} {st : CT} {sl : CL} (f : Nat → Int32) : (CWS k a st sl).set 15 (a 15, .inl (k 0, 3, .inl f)) = CWS k a (sw st 15 f) sl := rfl
set_option maxRecDepth 100000 in
theorem cs_16 {k : Nat → ClassId} {a : Nat → Nat} {st : CT} {sl : CL} (f : Nat → Int32) : (CWS k a st sl).set 16 (a 16, .inl (k 0, 3, .inl f)) = CWS k a (sw st 16 f) sl := rfl
set_option maxRecDepth 100000 in
theorem cs_17 {k : Nat → ClassId} {a : Nat → Nat} {st : CT} {sl : CL} (f : Nat → Int32) : (CWS k a st sl).set 17 (a 17, .inr (8, [.ref (a 18), .ref (a 31), .int (f 2), .ref (a 37), .ref (a 38), .ref (a 39)])) = CWS k a (sw st 17 f) sl := rfl
set_option maxRecDepth 100000 in
theorem cs_18 {k : Nat → ClassId} {a : Nat → Nat} {st : CT} {sl : CL} (f : Nat → Int32) : (CWS k a st sl).set 18 (a 18, .inr (1, [.int (f 0), .int (f 1), .int (f 2), .int (f 3), .int (f 4), .int (f 5), .int (f 6), .ref (a 19), .ref (a 20), .ref (a 21), .ref (a 22), .ref (a 23), .ref (a 24), .ref (a 25)])) = CWS k a (sw st 18 f) sl := rfl
set_option maxRecDepth 100000 in
theorem cs_19 {k : Nat → ClassId} {a : Nat → Nat} {st : CT} {sl : CL} (f : Nat → Int32) : (CWS k a st sl).set 19 (a 19, .inl (k 0, 8, .inl f)) = CWS k a (sw st 19 f) sl := rfl
set_option maxRecDepth 100000 in
theorem cs_20 {k : Nat → ClassId} {a : Nat → Nat} {st : CT} {sl : CL} (f : Nat → Int32) : (CWS k a st sl).set 20 (a 20, .inl (k 0, 8, .inl f)) = CWS k a (sw st 20 f) sl := rfl
set_option maxRecDepth 100000 in
theorem cs_21 {k : Nat → ClassId} {a : Nat → Nat} {st : CT} {sl : CL} (f : Nat → Int32) : (CWS k a st sl).set 21 (a 21, .inl (k 0, 8, .inl f)) = CWS k a (sw st 21 f) sl := rfl
set_option maxRecDepth 100000 in
theorem cs_22 {k : Nat → ClassId} {a : Nat → Nat} {st : CT} {sl : CL} (f : Nat → Int32) : (CWS k a st sl).set 22 (a 22, .inl (k 0, 6, .inl f)) = CWS k a (sw st 22 f) sl := rfl
set_option maxRecDepth 100000 in
theorem cs_23 {k : Nat → ClassId} {a : Nat → Nat} {st : CT} {sl : CL} (f : Nat → Int32) : (CWS k a st sl).set 23 (a 23, .inl (k 0, 6, .inl f)) = CWS k a (sw st 23 f) sl := rfl
set_option maxRecDepth 100000 in
theorem cs_24 {k : Nat → ClassId} {a : Nat → Nat} {st : CT} {sl : CL} (f : Nat → Int32) : (CWS k a st sl).set 24 (a 24, .inl (k 0, 6, .inl f)) = CWS k a (sw st 24 f) sl := rfl
set_option maxRecDepth 100000 in
theorem cs_26 {k : Nat → ClassId} {a : Nat → Nat} {st : CT} {sl : CL} (f : Nat → Int32) : (CWS k a st sl).set 26 (a 26, .inl (k 0, 64, .inl f)) = CWS k a (sw st 26 f) sl := rfl
set_option maxRecDepth 100000 in
theorem cs_27 {k : Nat → ClassId} {a : Nat → Nat} {st : CT} {sl : CL} (f : Nat → Int32) : (CWS k a st sl).set 27 (a 27, .inl (k 0, 8, .inl f)) = CWS k a (sw st 27 f) sl := rfl
set_option maxRecDepth 100000 in
theorem cs_28 {k : Nat → ClassId} {a : Nat → Nat} {st : CT} {sl : CL} (f : Nat → Int32) : (CWS k a st sl).set 28 (a 28, .inl (k 0, 8, .inl f)) = CWS k a (sw st 28 f) sl := rfl
set_option maxRecDepth 100000 in
theorem cs_29 {k : Nat → ClassId} {a : Nat → Nat} {st : CT} {sl : CL} (f : Nat → Int32) : (CWS k a st sl).set 29 (a 29, .inl (k 0, 3, .inl f)) = CWS k a (sw st 29 f) sl := rfl
set_option maxRecDepth 100000 in
theorem cs_30 {k : Nat → ClassId} {a : Nat → Nat} {st : CT} {sl : CL} (f : Nat → Int32) : (CWS k a st sl).set 30 (a 30, .inl (k 0, 3, .inl f)) = CWS k a (sw st 30 f) sl := rfl
set_option maxRecDepth 100000 in
theorem cs_32 {k : Nat → ClassId} {a : Nat → Nat} {st : CT} {sl : CL} (f : Nat → Int32) : (CWS k a st sl).set 32 (a 32, .inl (k 0, 64, .inl f)) = CWS k a (sw st 32 f) sl := rfl
set_option maxRecDepth 100000 in
theorem cs_33 {k : Nat → ClassId} {a : Nat → Nat} {st : CT} {sl : CL} (f : Nat → Int32) : (CWS k a st sl).set 33 (a 33, .inl (k 0, 8, .inl f)) = CWS k a (sw st 33 f) sl := rfl
set_option maxRecDepth 100000 in
theorem cs_34 {k : Nat → ClassId} {a : Nat → Nat} {st : CT} {sl : CL} (f : Nat → Int32) : (CWS k a st sl).set 34 (a 34, .inl (k 0, 8, .inl f)) = CWS k a (sw st 34 f) sl := rfl
set_option maxRecDepth 100000 in
theorem cs_35 {k : Nat → ClassId} {a : Nat → Nat} {st : CT} {sl : CL} (f : Nat → Int32) : (CWS k a st sl).set 35 (a 35, .inl (k 0, 3, .inl f)) = CWS k a (sw st 35 f) sl := rfl
set_option maxRecDepth 100000 in
theorem cs_36 {k : Nat → ClassId} {a : Nat → Nat} {st : CT} {sl : CL} (f : Nat → Int32) : (CWS k a st sl).set 36 (a 36, .inl (k 0, 3, .inl f)) = CWS k a (sw st 36 f) sl := rfl
set_option maxRecDepth 100000 in
theorem cs_37 {k : Nat → ClassId} {a : Nat → Nat} {st : CT} {sl : CL} (f : Nat → Int32) : (CWS k a st sl).set 37 (a 37, .inl (k 0, 40, .inl f)) = CWS k a (sw st 37 f) sl := rfl
set_option maxRecDepth 100000 in
theorem cs_38 {k : Nat → ClassId} {a : Nat → Nat} {st : CT} {sl : CL} (f : Nat → Int32) : (CWS k a st sl).set 38 (a 38, .inl (k 0, 40, .inl f)) = CWS k a (sw st 38 f) sl := rfl
set_option maxRecDepth 100000 in
theorem cs_39 {k : Nat → ClassId} {a : Nat → Nat} {st : CT} {sl : CL} (f : Nat → Int32) : (CWS k a st sl).set 39 (a 39, .inl (k 0, 40, .inl f)) = CWS k a (sw st 39 f) sl := rfl
set_option maxRecDepth 100000 in
theorem cs_41 {k : Nat → ClassId} {a : Nat → Nat} {st : CT} {sl : CL} (f : Nat → Int32) : (CWS k a st sl).set 41 (a 41, .inr (8, [.ref (a 42), .ref (a 55), .int (f 2), .ref (a 61), .ref (a 62), .ref (a 63)])) = CWS k a (sw st 41 f) sl := rfl
set_option maxRecDepth 100000 in
theorem cs_42 {k : Nat → ClassId} {a : Nat → Nat} {st : CT} {sl : CL} (f : Nat → Int32) : (CWS k a st sl).set 42 (a 42, .inr (1, [.int (f 0), .int (f 1), .int (f 2), .int (f 3), .int (f 4), .int (f 5), .int (f 6), .ref (a 43), .ref (a 44), .ref (a 45), .ref (a 46), .ref (a 47), .ref (a 48), .ref (a 49)])) = CWS k a (sw st 42 f) sl := rfl
set_option maxRecDepth 100000 in
theorem cs_43 {k : Nat → ClassId} {a : Nat → Nat} {st : CT} {sl : CL} (f : Nat → Int32) : (CWS k a st sl).set 43 (a 43, .inl (k 0, 8, .inl f)) = CWS k a (sw st 43 f) sl := rfl
set_option maxRecDepth 100000 in
theorem cs_44 {k : Nat → ClassId} {a : Nat → Nat} {st : CT} {sl : CL} (f : Nat → Int32) : (CWS k a st sl).set 44 (a 44, .inl (k 0, 8, .inl f)) = CWS k a (sw st 44 f) sl := rfl
set_option maxRecDepth 100000 in
theorem cs_45 {k : Nat → ClassId} {a : Nat → Nat} {st : CT} {sl : CL} (f : Nat → Int32) : (CWS k a st sl).set 45 (a 45, .inl (k 0, 8, .inl f)) = CWS k a (sw st 45 f) sl := rfl
set_option maxRecDepth 100000 in
theorem cs_46 {k : Nat → ClassId} {a : Nat → Nat} {st : CT} {sl : CL} (f : Nat → Int32) : (CWS k a st sl).set 46 (a 46, .inl (k 0, 6, .inl f)) = CWS k a (sw st 46 f) sl := rfl
set_option maxRecDepth 100000 in
theorem cs_47 {k : Nat → ClassId} {a : Nat → Nat} {st : CT} {sl : CL} (f : Nat → Int32) : (CWS k a st sl).set 47 (a 47, .inl (k 0, 6, .inl f)) = CWS k a (sw st 47 f) sl := rfl
set_option maxRecDepth 100000 in
theorem cs_48 {k : Nat → ClassId} {a : Nat → Nat} {st : CT} {sl : CL} (f : Nat → Int32) : (CWS k a st sl).set 48 (a 48, .inl (k 0, 6, .inl f)) = CWS k a (sw st 48 f) sl := rfl
set_option maxRecDepth 100000 in
theorem cs_50 {k : Nat → ClassId} {a : Nat → Nat} {st : CT} {sl : CL} (f : Nat → Int32) : (CWS k a st sl).set 50 (a 50, .inl (k 0, 64, .inl f)) = CWS k a (sw st 50 f) sl := rfl
set_option maxRecDepth 100000 in
theorem cs_51 {k : Nat → ClassId} {a : Nat → Nat} {st : CT} {sl : CL} (f : Nat → Int32) : (CWS k a st sl).set 51 (a 51, .inl (k 0, 8, .inl f)) = CWS k a (sw st 51 f) sl := rfl
set_option maxRecDepth 100000 in
theorem cs_52 {k : Nat → ClassId} {a : Nat → Nat} {st : CT} {sl : CL} (f : Nat → Int32) : (CWS k a st sl).set 52 (a 52, .inl (k 0, 8, .inl f)) = CWS k a (sw st 52 f) sl := rfl
set_option maxRecDepth 100000 in
theorem cs_53 {k : Nat → ClassId} {a : Nat → Nat} {st : CT} {sl : CL} (f : Nat → Int32) : (CWS k a st sl).set 53 (a 53, .inl (k 0, 3, .inl f)) = CWS k a (sw st 53 f) sl := rfl
set_option maxRecDepth 100000 in
theorem cs_54 {k : Nat → ClassId} {a : Nat → Nat} {st : CT} {sl : CL} (f : Nat → Int32) : (CWS k a st sl).set 54 (a 54, .inl (k 0, 3, .inl f)) = CWS k a (sw st 54 f) sl := rfl
set_option maxRecDepth 100000 in
theorem cs_56 {k : Nat → ClassId} {a : Nat → Nat} {st : CT} {sl : CL} (f : Nat → Int32) : (CWS k a st sl).set 56 (a 56, .inl (k 0, 64, .inl f)) = CWS k a (sw st 56 f) sl := rfl
set_option maxRecDepth 100000 in
theorem cs_57 {k : Nat → ClassId} {a : Nat → Nat} {st : CT} {sl : CL} (f : Nat → Int32) : (CWS k a st sl).set 57 (a 57, .inl (k 0, 8, .inl f)) = CWS k a (sw st 57 f) sl := rfl
set_option maxRecDepth 100000 in
theorem cs_58 {k : Nat → ClassId} {a : Nat → Nat} {st : CT} {sl : CL} (f : Nat → Int32) : (CWS k a st sl).set 58 (a 58, .inl (k 0, 8, .inl f)) = CWS k a (sw st 58 f) sl := rfl
set_option maxRecDepth 100000 in
theorem cs_59 {k : Nat → ClassId} {a : Nat → Nat} {st : CT} {sl : CL} (f : Nat → Int32) : (CWS k a st sl).set 59 (a 59, .inl (k 0, 3, .inl f)) = CWS k a (sw st 59 f) sl := rfl
set_option maxRecDepth 100000 in
theorem cs_60 {k : Nat → ClassId} {a : Nat → Nat} {st : CT} {sl : CL} (f : Nat → Int32) : (CWS k a st sl).set 60 (a 60, .inl (k 0, 3, .inl f)) = CWS k a (sw st 60 f) sl := rfl
set_option maxRecDepth 100000 in
theorem cs_61 {k : Nat → ClassId} {a : Nat → Nat} {st : CT} {sl : CL} (f : Nat → Int32) : (CWS k a st sl).set 61 (a 61, .inl (k 0, 40, .inl f)) = CWS k a (sw st 61 f) sl := rfl
set_option maxRecDepth 100000 in
theorem cs_62 {k : Nat → ClassId} {a : Nat → Nat} {st : CT} {sl : CL} (f : Nat → Int32) : (CWS k a st sl).set 62 (a 62, .inl (k 0, 40, .inl f)) = CWS k a (sw st 62 f) sl := rfl
set_option maxRecDepth 100000 in
theorem cs_63 {k : Nat → ClassId} {a : Nat → Nat} {st : CT} {sl : CL} (f : Nat → Int32) : (CWS k a st sl).set 63 (a 63, .inl (k 0, 40, .inl f)) = CWS k a (sw st 63 f) sl := rfl
set_option maxRecDepth 100000 in
theorem cs_64 {k : Nat → ClassId} {a : Nat → Nat} {st : CT} {sl : CL} (f : Nat → Int32) : (CWS k a st sl).set 64 (a 64, .inr (8, [.ref (a 65), .ref (a 78), .int (f 2), .ref (a 84), .ref (a 85), .ref (a 86)])) = CWS k a (sw st 64 f) sl := rfl
set_option maxRecDepth 100000 in
theorem cs_65 {k : Nat → ClassId} {a : Nat → Nat} {st : CT} {sl : CL} (f : Nat → Int32) : (CWS k a st sl).set 65 (a 65, .inr (1, [.int (f 0), .int (f 1), .int (f 2), .int (f 3), .int (f 4), .int (f 5), .int (f 6), .ref (a 66), .ref (a 67), .ref (a 68), .ref (a 69), .ref (a 70), .ref (a 71), .ref (a 72)])) = CWS k a (sw st 65 f) sl := rfl
set_option maxRecDepth 100000 in
theorem cs_66 {k : Nat → ClassId} {a : Nat → Nat} {st : CT} {sl : CL} (f : Nat → Int32) : (CWS k a st sl).set 66 (a 66, .inl (k 0, 8, .inl f)) = CWS k a (sw st 66 f) sl := rfl
set_option maxRecDepth 100000 in
theorem cs_67 {k : Nat → ClassId} {a : Nat → Nat} {st : CT} {sl : CL} (f : Nat → Int32) : (CWS k a st sl).set 67 (a 67, .inl (k 0, 8, .inl f)) = CWS k a (sw st 67 f) sl := rfl
set_option maxRecDepth 100000 in
theorem cs_68 {k : Nat → ClassId} {a : Nat → Nat} {st : CT} {sl : CL} (f : Nat → Int32) : (CWS k a st sl).set 68 (a 68, .inl (k 0, 8, .inl f)) = CWS k a (sw st 68 f) sl := rfl
set_option maxRecDepth 100000 in
theorem cs_69 {k : Nat → ClassId} {a : Nat → Nat} {st : CT} {sl : CL} (f : Nat → Int32) : (CWS k a st sl).set 69 (a 69, .inl (k 0, 6, .inl f)) = CWS k a (sw st 69 f) sl := rfl
set_option maxRecDepth 100000 in
theorem cs_70 {k : Nat → ClassId} {a : Nat → Nat} {st : CT} {sl : CL} (f : Nat → Int32) : (CWS k a st sl).set 70 (a 70, .inl (k 0, 6, .inl f)) = CWS k a (sw st 70 f) sl := rfl
set_option maxRecDepth 100000 in
theorem cs_71 {k : Nat → ClassId} {a : Nat → Nat} {st : CT} {sl : CL} (f : Nat → Int32) : (CWS k a st sl).set 71 (a 71, .inl (k 0, 6, .inl f)) = CWS k a (sw st 71 f) sl := rfl
set_option maxRecDepth 100000 in
theorem cs_73 {k : Nat → ClassId} {a : Nat → Nat} {st : CT} {sl : CL} (f : Nat → Int32) : (CWS k a st sl).set 73 (a 73, .inl (k 0, 64, .inl f)) = CWS k a (sw st 73 f) sl := rfl
set_option maxRecDepth 100000 in
theorem cs_74 {k : Nat → ClassId} {a : Nat → Nat} {st : CT} {sl : CL} (f : Nat → Int32) : (CWS k a st sl).set 74 (a 74, .inl (k 0, 8, .inl f)) = CWS k a (sw st 74 f) sl := rfl
set_option maxRecDepth 100000 in
theorem cs_75 {k : Nat → ClassId} {a : Nat → Nat} {st : CT} {sl : CL} (f : Nat → Int32) : (CWS k a st sl).set 75 (a 75, .inl (k 0, 8, .inl f)) = CWS k a (sw st 75 f) sl := rfl
set_option maxRecDepth 100000 in
theorem cs_76 {k : Nat → ClassId} {a : Nat → Nat} {st : CT} {sl : CL} (f : Nat → Int32) : (CWS k a st sl).set 76 (a 76, .inl (k 0, 3, .inl f)) = CWS k a (sw st 76 f) sl := rfl
set_option maxRecDepth 100000 in
theorem cs_77 {k : Nat → ClassId} {a : Nat → Nat} {st : CT} {sl : CL} (f : Nat → Int32) : (CWS k a st sl).set 77 (a 77, .inl (k 0, 3, .inl f)) = CWS k a (sw st 77 f) sl := rfl
set_option maxRecDepth 100000 in
theorem cs_79 {k : Nat → ClassId} {a : Nat → Nat} {st : CT} {sl : CL} (f : Nat → Int32) : (CWS k a st sl).set 79 (a 79, .inl (k 0, 64, .inl f)) = CWS k a (sw st 79 f) sl := rfl
set_option maxRecDepth 100000 in
theorem cs_80 {k : Nat → ClassId} {a : Nat → Nat} {st : CT} {sl : CL} (f : Nat → Int32) : (CWS k a st sl).set 80 (a 80, .inl (k 0, 8, .inl f)) = CWS k a (sw st 80 f) sl := rfl
set_option maxRecDepth 100000 in
theorem cs_81 {k : Nat → ClassId} {a : Nat → Nat} {st : CT} {sl : CL} (f : Nat → Int32) : (CWS k a st sl).set 81 (a 81, .inl (k 0, 8, .inl f)) = CWS k a (sw st 81 f) sl := rfl
set_option maxRecDepth 100000 in
theorem cs_82 {k : Nat → ClassId} {a : Nat → Nat} {st : CT} {sl : CL} (f : Nat → Int32) : (CWS k a st sl).set 82 (a 82, .inl (k 0, 3, .inl f)) = CWS k a (sw st 82 f) sl := rfl
set_option maxRecDepth 100000 in
theorem cs_83 {k : Nat → ClassId} {a : Nat → Nat} {st : CT} {sl : CL} (f : Nat → Int32) : (CWS k a st sl).set 83 (a 83, .inl (k 0, 3, .inl f)) = CWS k a (sw st 83 f) sl := rfl
set_option maxRecDepth 100000 in
theorem cs_84 {k : Nat → ClassId} {a : Nat → Nat} {st : CT} {sl : CL} (f : Nat → Int32) : (CWS k a st sl).set 84 (a 84, .inl (k 0, 40, .inl f)) = CWS k a (sw st 84 f) sl := rfl
set_option maxRecDepth 100000 in
theorem cs_85 {k : Nat → ClassId} {a : Nat → Nat} {st : CT} {sl : CL} (f : Nat → Int32) : (CWS k a st sl).set 85 (a 85, .inl (k 0, 40, .inl f)) = CWS k a (sw st 85 f) sl := rfl
set_option maxRecDepth 100000 in
theorem cs_86 {k : Nat → ClassId} {a : Nat → Nat} {st : CT} {sl : CL} (f : Nat → Int32) : (CWS k a st sl).set 86 (a 86, .inl (k 0, 40, .inl f)) = CWS k a (sw st 86 f) sl := rfl
set_option maxRecDepth 100000 in
theorem cs_87 {k : Nat → ClassId} {a : Nat → Nat} {st : CT} {sl : CL} (f : Nat → Int32) : (CWS k a st sl).set 87 (a 87, .inr (8, [.ref (a 88), .ref (a 101), .int (f 2), .ref (a 107), .ref (a 108), .ref (a 109)])) = CWS k a (sw st 87 f) sl := rfl
set_option maxRecDepth 100000 in
theorem cs_88 {k : Nat → ClassId} {a : Nat → Nat} {st : CT} {sl : CL} (f : Nat → Int32) : (CWS k a st sl).set 88 (a 88, .inr (1, [.int (f 0), .int (f 1), .int (f 2), .int (f 3), .int (f 4), .int (f 5), .int (f 6), .ref (a 89), .ref (a 90), .ref (a 91), .ref (a 92), .ref (a 93), .ref (a 94), .ref (a 95)])) = CWS k a (sw st 88 f) sl := rfl
set_option maxRecDepth 100000 in
theorem cs_89 {k : Nat → ClassId} {a : Nat → Nat} {st : CT} {sl : CL} (f : Nat → Int32) : (CWS k a st sl).set 89 (a 89, .inl (k 0, 8, .inl f)) = CWS k a (sw st 89 f) sl := rfl
set_option maxRecDepth 100000 in
theorem cs_90 {k : Nat → ClassId} {a : Nat → Nat} {st : CT} {sl : CL} (f : Nat → Int32) : (CWS k a st sl).set 90 (a 90, .inl (k 0, 8, .inl f)) = CWS k a (sw st 90 f) sl := rfl
set_option maxRecDepth 100000 in
theorem cs_91 {k : Nat → ClassId} {a : Nat → Nat} {st : CT} {sl : CL} (f : Nat → Int32) : (CWS k a st sl).set 91 (a 91, .inl (k 0, 8, .inl f)) = CWS k a (sw st 91 f) sl := rfl
set_option maxRecDepth 100000 in
theorem cs_92 {k : Nat → ClassId} {a : Nat → Nat} {st : CT} {sl : CL} (f : Nat → Int32) : (CWS k a st sl).set 92 (a 92, .inl (k 0, 6, .inl f)) = CWS k a (sw st 92 f) sl := rfl
set_option maxRecDepth 100000 in
theorem cs_93 {k : Nat → ClassId} {a : Nat → Nat} {st : CT} {sl : CL} (f : Nat → Int32) : (CWS k a st sl).set 93 (a 93, .inl (k 0, 6, .inl f)) = CWS k a (sw st 93 f) sl := rfl
set_option maxRecDepth 100000 in
theorem cs_94 {k : Nat → ClassId} {a : Nat → Nat} {st : CT} {sl : CL} (f : Nat → Int32) : (CWS k a st sl).set 94 (a 94, .inl (k 0, 6, .inl f)) = CWS k a (sw st 94 f) sl := rfl
set_option maxRecDepth 100000 in
theorem cs_96 {k : Nat → ClassId} {a : Nat → Nat} {st : CT} {sl : CL} (f : Nat → Int32) : (CWS k a st sl).set 96 (a 96, .inl (k 0, 64, .inl f)) = CWS k a (sw st 96 f) sl := rfl
set_option maxRecDepth 100000 in
theorem cs_97 {k : Nat → ClassId} {a : Nat → Nat} {st : CT} {sl : CL} (f : Nat → Int32) : (CWS k a st sl).set 97 (a 97, .inl (k 0, 8, .inl f)) = CWS k a (sw st 97 f) sl := rfl
set_option maxRecDepth 100000 in
theorem cs_98 {k : Nat → ClassId} {a : Nat → Nat} {st : CT} {sl : CL} (f : Nat → Int32) : (CWS k a st sl).set 98 (a 98, .inl (k 0, 8, .inl f)) = CWS k a (sw st 98 f) sl := rfl
set_option maxRecDepth 100000 in
theorem cs_99 {k : Nat → ClassId} {a : Nat → Nat} {st : CT} {sl : CL} (f : Nat → Int32) : (CWS k a st sl).set 99 (a 99, .inl (k 0, 3, .inl f)) = CWS k a (sw st 99 f) sl := rfl
set_option maxRecDepth 100000 in
theorem cs_100 {k : Nat → ClassId} {a : Nat → Nat} {st : CT} {sl : CL} (f : Nat → Int32) : (CWS k a st sl).set 100 (a 100, .inl (k 0, 3, .inl f)) = CWS k a (sw st 100 f) sl := rfl
set_option maxRecDepth 100000 in
theorem cs_102 {k : Nat → ClassId} {a : Nat → Nat} {st : CT} {sl : CL} (f : Nat → Int32) : (CWS k a st sl).set 102 (a 102, .inl (k 0, 64, .inl f)) = CWS k a (sw st 102 f) sl := rfl
set_option maxRecDepth 100000 in
theorem cs_103 {k : Nat → ClassId} {a : Nat → Nat} {st : CT} {sl : CL} (f : Nat → Int32) : (CWS k a st sl).set 103 (a 103, .inl (k 0, 8, .inl f)) = CWS k a (sw st 103 f) sl := rfl
set_option maxRecDepth 100000 in
theorem cs_104 {k : Nat → ClassId} {a : Nat → Nat} {st : CT} {sl : CL} (f : Nat → Int32) : (CWS k a st sl).set 104 (a 104, .inl (k 0, 8, .inl f)) = CWS k a (sw st 104 f) sl := rfl
set_option maxRecDepth 100000 in
theorem cs_105 {k : Nat → ClassId} {a : Nat → Nat} {st : CT} {sl : CL} (f : Nat → Int32) : (CWS k a st sl).set 105 (a 105, .inl (k 0, 3, .inl f)) = CWS k a (sw st 105 f) sl := rfl
set_option maxRecDepth 100000 in
theorem cs_106 {k : Nat → ClassId} {a : Nat → Nat} {st : CT} {sl : CL} (f : Nat → Int32) : (CWS k a st sl).set 106 (a 106, .inl (k 0, 3, .inl f)) = CWS k a (sw st 106 f) sl := rfl
set_option maxRecDepth 100000 in
theorem cs_107 {k : Nat → ClassId} {a : Nat → Nat} {st : CT} {sl : CL} (f : Nat → Int32) : (CWS k a st sl).set 107 (a 107, .inl (k 0, 40, .inl f)) = CWS k a (sw st 107 f) sl := rfl
set_option maxRecDepth 100000 in
theorem cs_108 {k : Nat → ClassId} {a : Nat → Nat} {st : CT} {sl : CL} (f : Nat → Int32) : (CWS k a st sl).set 108 (a 108, .inl (k 0, 40, .inl f)) = CWS k a (sw st 108 f) sl := rfl
set_option maxRecDepth 100000 in
theorem cs_109 {k : Nat → ClassId} {a : Nat → Nat} {st : CT} {sl : CL} (f : Nat → Int32) : (CWS k a st sl).set 109 (a 109, .inl (k 0, 40, .inl f)) = CWS k a (sw st 109 f) sl := rfl
set_option maxRecDepth 100000 in
theorem cs_110 {k : Nat → ClassId} {a : Nat → Nat} {st : CT} {sl : CL} (f : Nat → Int32) : (CWS k a st sl).set 110 (a 110, .inl (k 3, 3, .inl f)) = CWS k a (sw st 110 f) sl := rfl
set_option maxRecDepth 100000 in
theorem cs_112 {k : Nat → ClassId} {a : Nat → Nat} {st : CT} {sl : CL} (f : Nat → Int32) : (CWS k a st sl).set 112 (a 112, .inl (k 0, 4, .inl f)) = CWS k a (sw st 112 f) sl := rfl
set_option maxRecDepth 100000 in
theorem cs_113 {k : Nat → ClassId} {a : Nat → Nat} {st : CT} {sl : CL} (f : Nat → Int32) : (CWS k a st sl).set 113 (a 113, .inl (k 0, 4, .inl f)) = CWS k a (sw st 113 f) sl := rfl
set_option maxRecDepth 100000 in
theorem cs_115 {k : Nat → ClassId} {a : Nat → Nat} {st : CT} {sl : CL} (f : Nat → Int64) : (CWS k a st sl).set 115 (a 115, .inl (k 2, 60, .inr (.inl f))) = CWS k a st (sw sl 115 f) := rfl
set_option maxRecDepth 100000 in
theorem cs_116 {k : Nat → ClassId} {a : Nat → Nat} {st : CT} {sl : CL} (f : Nat → Int64) : (CWS k a st sl).set 116 (a 116, .inl (k 2, 60, .inr (.inl f))) = CWS k a st (sw sl 116 f) := rfl
set_option maxRecDepth 100000 in
theorem cs_117 {k : Nat → ClassId} {a : Nat → Nat} {st : CT} {sl : CL} (f : Nat → Int64) : (CWS k a st sl).set 117 (a 117, .inl (k 2, 60, .inr (.inl f))) = CWS k a st (sw sl 117 f) := rfl
set_option maxRecDepth 100000 in
theorem cs_118 {k : Nat → ClassId} {a : Nat → Nat} {st : CT} {sl : CL} (f : Nat → Int64) : (CWS k a st sl).set 118 (a 118, .inl (k 2, 60, .inr (.inl f))) = CWS k a st (sw sl 118 f) := rfl
set_option maxRecDepth 100000 in
theorem cs_120 {k : Nat → ClassId} {a : Nat → Nat} {st : CT} {sl : CL} (f : Nat → Int32) : (CWS k a st sl).set 120 (a 120, .inl (k 0, 64, .inl f)) = CWS k a (sw st 120 f) sl := rfl
set_option maxRecDepth 100000 in
theorem cs_121 {k : Nat → ClassId} {a : Nat → Nat} {st : CT} {sl : CL} (f : Nat → Int32) : (CWS k a st sl).set 121 (a 121, .inl (k 0, 8, .inl f)) = CWS k a (sw st 121 f) sl := rfl
set_option maxRecDepth 100000 in
theorem cs_122 {k : Nat → ClassId} {a : Nat → Nat} {st : CT} {sl : CL} (f : Nat → Int32) : (CWS k a st sl).set 122 (a 122, .inl (k 0, 8, .inl f)) = CWS k a (sw st 122 f) sl := rfl
set_option maxRecDepth 100000 in
theorem cs_123 {k : Nat → ClassId} {a : Nat → Nat} {st : CT} {sl : CL} (f : Nat → Int32) : (CWS k a st sl).set 123 (a 123, .inl (k 0, 3, .inl f)) = CWS k a (sw st 123 f) sl := rfl
set_option maxRecDepth 100000 in
theorem cs_124 {k : Nat → ClassId} {a : Nat → Nat} {st : CT} {sl : CL} (f : Nat → Int32) : (CWS k a st sl).set 124 (a 124, .inl (k 0, 3, .inl f)) = CWS k a (sw st 124 f) sl := rfl
set_option maxRecDepth 100000 in
theorem cs_125 {k : Nat → ClassId} {a : Nat → Nat} {st : CT} {sl : CL} (f : Nat → Int32) : (CWS k a st sl).set 125 (a 125, .inr (7, [.int (f 0), .int (f 1), .int (f 2), .int (f 3), .int (f 4), .int (f 5)])) = CWS k a (sw st 125 f) sl := rfl
set_option maxRecDepth 100000 in
theorem cs_126 {k : Nat → ClassId} {a : Nat → Nat} {st : CT} {sl : CL} (f : Nat → Int32) : (CWS k a st sl).set 126 (a 126, .inr (3, [.ref (a 127), .ref (a 158), .ref (a 159), .ref (a 160), .ref (a 161), .int (f 5), .int (f 6), .int (f 7), .int (f 8), .int (f 9)])) = CWS k a (sw st 126 f) sl := rfl
set_option maxRecDepth 100000 in
theorem cs_129 {k : Nat → ClassId} {a : Nat → Nat} {st : CT} {sl : CL} (f : Nat → Int32) : (CWS k a st sl).set 129 (a 129, .inl (k 0, 64, .inl f)) = CWS k a (sw st 129 f) sl := rfl
set_option maxRecDepth 100000 in
theorem cs_130 {k : Nat → ClassId} {a : Nat → Nat} {st : CT} {sl : CL} (f : Nat → Int32) : (CWS k a st sl).set 130 (a 130, .inl (k 0, 8, .inl f)) = CWS k a (sw st 130 f) sl := rfl
set_option maxRecDepth 100000 in
theorem cs_131 {k : Nat → ClassId} {a : Nat → Nat} {st : CT} {sl : CL} (f : Nat → Int32) : (CWS k a st sl).set 131 (a 131, .inl (k 0, 8, .inl f)) = CWS k a (sw st 131 f) sl := rfl
set_option maxRecDepth 100000 in
theorem cs_132 {k : Nat → ClassId} {a : Nat → Nat} {st : CT} {sl : CL} (f : Nat → Int32) : (CWS k a st sl).set 132 (a 132, .inl (k 0, 3, .inl f)) = CWS k a (sw st 132 f) sl := rfl
set_option maxRecDepth 100000 in
theorem cs_133 {k : Nat → ClassId} {a : Nat → Nat} {st : CT} {sl : CL} (f : Nat → Int32) : (CWS k a st sl).set 133 (a 133, .inl (k 0, 3, .inl f)) = CWS k a (sw st 133 f) sl := rfl
set_option maxRecDepth 100000 in
theorem cs_135 {k : Nat → ClassId} {a : Nat → Nat} {st : CT} {sl : CL} (f : Nat → Int32) : (CWS k a st sl).set 135 (a 135, .inl (k 0, 64, .inl f)) = CWS k a (sw st 135 f) sl := rfl
set_option maxRecDepth 100000 in
theorem cs_136 {k : Nat → ClassId} {a : Nat → Nat} {st : CT} {sl : CL} (f : Nat → Int32) : (CWS k a st sl).set 136 (a 136, .inl (k 0, 8, .inl f)) = CWS k a (sw st 136 f) sl := rfl
set_option maxRecDepth 100000 in
theorem cs_137 {k : Nat → ClassId} {a : Nat → Nat} {st : CT} {sl : CL} (f : Nat → Int32) : (CWS k a st sl).set 137 (a 137, .inl (k 0, 8, .inl f)) = CWS k a (sw st 137 f) sl := rfl
set_option maxRecDepth 100000 in
theorem cs_138 {k : Nat → ClassId} {a : Nat → Nat} {st : CT} {sl : CL} (f : Nat → Int32) : (CWS k a st sl).set 138 (a 138, .inl (k 0, 3, .inl f)) = CWS k a (sw st 138 f) sl := rfl
set_option maxRecDepth 100000 in
theorem cs_139 {k : Nat → ClassId} {a : Nat → Nat} {st : CT} {sl : CL} (f : Nat → Int32) : (CWS k a st sl).set 139 (a 139, .inl (k 0, 3, .inl f)) = CWS k a (sw st 139 f) sl := rfl
set_option maxRecDepth 100000 in
theorem cs_141 {k : Nat → ClassId} {a : Nat → Nat} {st : CT} {sl : CL} (f : Nat → Int32) : (CWS k a st sl).set 141 (a 141, .inl (k 0, 64, .inl f)) = CWS k a (sw st 141 f) sl := rfl
set_option maxRecDepth 100000 in
theorem cs_142 {k : Nat → ClassId} {a : Nat → Nat} {st : CT} {sl : CL} (f : Nat → Int32) : (CWS k a st sl).set 142 (a 142, .inl (k 0, 8, .inl f)) = CWS k a (sw st 142 f) sl := rfl
set_option maxRecDepth 100000 in
theorem cs_143 {k : Nat → ClassId} {a : Nat → Nat} {st : CT} {sl : CL} (f : Nat → Int32) : (CWS k a st sl).set 143 (a 143, .inl (k 0, 8, .inl f)) = CWS k a (sw st 143 f) sl := rfl
set_option maxRecDepth 100000 in
theorem cs_144 {k : Nat → ClassId} {a : Nat → Nat} {st : CT} {sl : CL} (f : Nat → Int32) : (CWS k a st sl).set 144 (a 144, .inl (k 0, 3, .inl f)) = CWS k a (sw st 144 f) sl := rfl
set_option maxRecDepth 100000 in
theorem cs_145 {k : Nat → ClassId} {a : Nat → Nat} {st : CT} {sl : CL} (f : Nat → Int32) : (CWS k a st sl).set 145 (a 145, .inl (k 0, 3, .inl f)) = CWS k a (sw st 145 f) sl := rfl
set_option maxRecDepth 100000 in
theorem cs_147 {k : Nat → ClassId} {a : Nat → Nat} {st : CT} {sl : CL} (f : Nat → Int32) : (CWS k a st sl).set 147 (a 147, .inl (k 0, 64, .inl f)) = CWS k a (sw st 147 f) sl := rfl
set_option maxRecDepth 100000 in
theorem cs_148 {k : Nat → ClassId} {a : Nat → Nat} {st : CT} {sl : CL} (f : Nat → Int32) : (CWS k a st sl).set 148 (a 148, .inl (k 0, 8, .inl f)) = CWS k a (sw st 148 f) sl := rfl
set_option maxRecDepth 100000 in
theorem cs_149 {k : Nat → ClassId} {a : Nat → Nat} {st : CT} {sl : CL} (f : Nat → Int32) : (CWS k a st sl).set 149 (a 149, .inl (k 0, 8, .inl f)) = CWS k a (sw st 149 f) sl := rfl
set_option maxRecDepth 100000 in
theorem cs_150 {k : Nat → ClassId} {a : Nat → Nat} {st : CT} {sl : CL} (f : Nat → Int32) : (CWS k a st sl).set 150 (a 150, .inl (k 0, 3, .inl f)) = CWS k a (sw st 150 f) sl := rfl
set_option maxRecDepth 100000 in
theorem cs_151 {k : Nat → ClassId} {a : Nat → Nat} {st : CT} {sl : CL} (f : Nat → Int32) : (CWS k a st sl).set 151 (a 151, .inl (k 0, 3, .inl f)) = CWS k a (sw st 151 f) sl := rfl
set_option maxRecDepth 100000 in
theorem cs_153 {k : Nat → ClassId} {a : Nat → Nat} {st : CT} {sl : CL} (f : Nat → Int32) : (CWS k a st sl).set 153 (a 153, .inl (k 0, 64, .inl f)) = CWS k a (sw st 153 f) sl := rfl
set_option maxRecDepth 100000 in
theorem cs_154 {k : Nat → ClassId} {a : Nat → Nat} {st : CT} {sl : CL} (f : Nat → Int32) : (CWS k a st sl).set 154 (a 154, .inl (k 0, 8, .inl f)) = CWS k a (sw st 154 f) sl := rfl
set_option maxRecDepth 100000 in
theorem cs_155 {k : Nat → ClassId} {a : Nat → Nat} {st : CT} {sl : CL} (f : Nat → Int32) : (CWS k a st sl).set 155 (a 155, .inl (k 0, 8, .inl f)) = CWS k a (sw st 155 f) sl := rfl
set_option maxRecDepth 100000 in
theorem cs_156 {k : Nat → ClassId} {a : Nat → Nat} {st : CT} {sl : CL} (f : Nat → Int32) : (CWS k a st sl).set 156 (a 156, .inl (k 0, 3, .inl f)) = CWS k a (sw st 156 f) sl := rfl
set_option maxRecDepth 100000 in
theorem cs_157 {k : Nat → ClassId} {a : Nat → Nat} {st : CT} {sl : CL} (f : Nat → Int32) : (CWS k a st sl).set 157 (a 157, .inl (k 0, 3, .inl f)) = CWS k a (sw st 157 f) sl := rfl
set_option maxRecDepth 100000 in
theorem cs_158 {k : Nat → ClassId} {a : Nat → Nat} {st : CT} {sl : CL} (f : Nat → Int32) : (CWS k a st sl).set 158 (a 158, .inl (k 0, 6, .inl f)) = CWS k a (sw st 158 f) sl := rfl
set_option maxRecDepth 100000 in
theorem cs_159 {k : Nat → ClassId} {a : Nat → Nat} {st : CT} {sl : CL} (f : Nat → Int32) : (CWS k a st sl).set 159 (a 159, .inl (k 0, 6, .inl f)) = CWS k a (sw st 159 f) sl := rfl
set_option maxRecDepth 100000 in
theorem cs_160 {k : Nat → ClassId} {a : Nat → Nat} {st : CT} {sl : CL} (f : Nat → Int32) : (CWS k a st sl).set 160 (a 160, .inl (k 0, 4, .inl f)) = CWS k a (sw st 160 f) sl := rfl
set_option maxRecDepth 100000 in
theorem cs_161 {k : Nat → ClassId} {a : Nat → Nat} {st : CT} {sl : CL} (f : Nat → Int32) : (CWS k a st sl).set 161 (a 161, .inl (k 0, 4, .inl f)) = CWS k a (sw st 161 f) sl := rfl
set_option maxRecDepth 100000 in
theorem cs_163 {k : Nat → ClassId} {a : Nat → Nat} {st : CT} {sl : CL} (f : Nat → Int32) : (CWS k a st sl).set 163 (a 163, .inl (k 0, 256, .inl f)) = CWS k a (sw st 163 f) sl := rfl
set_option maxRecDepth 100000 in
theorem cs_164 {k : Nat → ClassId} {a : Nat → Nat} {st : CT} {sl : CL} (f : Nat → Int32) : (CWS k a st sl).set 164 (a 164, .inl (k 0, 8, .inl f)) = CWS k a (sw st 164 f) sl := rfl
set_option maxRecDepth 100000 in
theorem cs_165 {k : Nat → ClassId} {a : Nat → Nat} {st : CT} {sl : CL} (f : Nat → Int32) : (CWS k a st sl).set 165 (a 165, .inl (k 0, 8, .inl f)) = CWS k a (sw st 165 f) sl := rfl
set_option maxRecDepth 100000 in
theorem cs_166 {k : Nat → ClassId} {a : Nat → Nat} {st : CT} {sl : CL} (f : Nat → Int32) : (CWS k a st sl).set 166 (a 166, .inl (k 0, 8, .inl f)) = CWS k a (sw st 166 f) sl := rfl
def SC : List Nat := [11, 25, 31, 49, 55, 72, 78, 95, 101, 119, 128, 134, 140, 146, 152]
set_option maxRecDepth 100000 in
theorem sx_0 {k : Nat → ClassId} {a : Nat → Nat} {st : CT} {sl : CL} {x : Nat} (mx : x ∈ SC) : (CWS k a st sl)[x]? = some (a x, .inr (5, [.ref (a (x + 1)), .ref (a (x + 2)), .ref (a (x + 3)), .ref (a (x + 4)), .ref (a (x + 5))])) := by
  simp only [SC, List.mem_cons, List.not_mem_nil, or_false] at mx
  rcases mx with rfl | rfl | rfl | rfl | rfl | rfl | rfl | rfl | rfl | rfl | rfl | rfl | rfl | rfl | rfl <;> rfl
set_option maxRecDepth 100000 in
theorem sx_1 {k : Nat → ClassId} {a : Nat → Nat} {st : CT} {sl : CL} {x : Nat} (mx : x ∈ SC) : (CWS k a st sl)[x + 1]? = some (a (x + 1), .inl (k 0, 64, .inl (st (x + 1)))) := by
  simp only [SC, List.mem_cons, List.not_mem_nil, or_false] at mx
  rcases mx with rfl | rfl | rfl | rfl | rfl | rfl | rfl | rfl | rfl | rfl | rfl | rfl | rfl | rfl | rfl <;> rfl
set_option maxRecDepth 100000 in
theorem ss_1 {k : Nat → ClassId} {a : Nat → Nat} {st : CT} {sl : CL} {x : Nat} (mx : x ∈ SC) (f : Nat → Int32) : (CWS k a st sl).set (x + 1) (a (x + 1), .inl (k 0, 64, .inl f)) = CWS k a (sw st (x + 1) f) sl := by
  simp only [SC, List.mem_cons, List.not_mem_nil, or_false] at mx
  rcases mx with rfl | rfl | rfl | rfl | rfl | rfl | rfl | rfl | rfl | rfl | rfl | rfl | rfl | rfl | rfl <;> rfl
set_option maxRecDepth 100000 in
theorem sx_2 {k : Nat → ClassId} {a : Nat → Nat} {st : CT} {sl : CL} {x : Nat} (mx : x ∈ SC) : (CWS k a st sl)[x + 2]? = some (a (x + 2), .inl (k 0, 8, .inl (st (x + 2)))) := by
  simp only [SC, List.mem_cons, List.not_mem_nil, or_false] at mx
  rcases mx with rfl | rfl | rfl | rfl | rfl | rfl | rfl | rfl | rfl | rfl | rfl | rfl | rfl | rfl | rfl <;> rfl
set_option maxRecDepth 100000 in
theorem ss_2 {k : Nat → ClassId} {a : Nat → Nat} {st : CT} {sl : CL} {x : Nat} (mx : x ∈ SC) (f : Nat → Int32) : (CWS k a st sl).set (x + 2) (a (x + 2), .inl (k 0, 8, .inl f)) = CWS k a (sw st (x + 2) f) sl := by
  simp only [SC, List.mem_cons, List.not_mem_nil, or_false] at mx
  rcases mx with rfl | rfl | rfl | rfl | rfl | rfl | rfl | rfl | rfl | rfl | rfl | rfl | rfl | rfl | rfl <;> rfl
set_option maxRecDepth 100000 in
theorem sx_3 {k : Nat → ClassId} {a : Nat → Nat} {st : CT} {sl : CL} {x : Nat} (mx : x ∈ SC) : (CWS k a st sl)[x + 3]? = some (a (x + 3), .inl (k 0, 8, .inl (st (x + 3)))) := by
  simp only [SC, List.mem_cons, List.not_mem_nil, or_false] at mx
  rcases mx with rfl | rfl | rfl | rfl | rfl | rfl | rfl | rfl | rfl | rfl | rfl | rfl | rfl | rfl | rfl <;> rfl
set_option maxRecDepth 100000 in
theorem ss_3 {k : Nat → ClassId} {a : Nat → Nat} {st : CT} {sl : CL} {x : Nat} (mx : x ∈ SC) (f : Nat → Int32) : (CWS k a st sl).set (x + 3) (a (x + 3), .inl (k 0, 8, .inl f)) = CWS k a (sw st (x + 3) f) sl := by
  simp only [SC, List.mem_cons, List.not_mem_nil, or_false] at mx
  rcases mx with rfl | rfl | rfl | rfl | rfl | rfl | rfl | rfl | rfl | rfl | rfl | rfl | rfl | rfl | rfl <;> rfl
set_option maxRecDepth 100000 in
theorem sx_4 {k : Nat → ClassId} {a : Nat → Nat} {st : CT} {sl : CL} {x : Nat} (mx : x ∈ SC) : (CWS k a st sl)[x + 4]? = some (a (x + 4), .inl (k 0, 3, .inl (st (x + 4)))) := by
  simp only [SC, List.mem_cons, List.not_mem_nil, or_false] at mx
  rcases mx with rfl | rfl | rfl | rfl | rfl | rfl | rfl | rfl | rfl | rfl | rfl | rfl | rfl | rfl | rfl <;> rfl
set_option maxRecDepth 100000 in
theorem ss_4 {k : Nat → ClassId} {a : Nat → Nat} {st : CT} {sl : CL} {x : Nat} (mx : x ∈ SC) (f : Nat → Int32) : (CWS k a st sl).set (x + 4) (a (x + 4), .inl (k 0, 3, .inl f)) = CWS k a (sw st (x + 4) f) sl := by
  simp only [SC, List.mem_cons, List.not_mem_nil, or_false] at mx
  rcases mx with rfl | rfl | rfl | rfl | rfl | rfl | rfl | rfl | rfl | rfl | rfl | rfl | rfl | rfl | rfl <;> rfl
set_option maxRecDepth 100000 in
theorem sx_5 {k : Nat → ClassId} {a : Nat → Nat} {st : CT} {sl : CL} {x : Nat} (mx : x ∈ SC) : (CWS k a st sl)[x + 5]? = some (a (x + 5), .inl (k 0, 3, .inl (st (x + 5)))) := by
  simp only [SC, List.mem_cons, List.not_mem_nil, or_false] at mx
  rcases mx with rfl | rfl | rfl | rfl | rfl | rfl | rfl | rfl | rfl | rfl | rfl | rfl | rfl | rfl | rfl <;> rfl
set_option maxRecDepth 100000 in
theorem ss_5 {k : Nat → ClassId} {a : Nat → Nat} {st : CT} {sl : CL} {x : Nat} (mx : x ∈ SC) (f : Nat → Int32) : (CWS k a st sl).set (x + 5) (a (x + 5), .inl (k 0, 3, .inl f)) = CWS k a (sw st (x + 5) f) sl := by
  simp only [SC, List.mem_cons, List.not_mem_nil, or_false] at mx
  rcases mx with rfl | rfl | rfl | rfl | rfl | rfl | rfl | rfl | rfl | rfl | rfl | rfl | rfl | rfl | rfl <;> rfl
def kdL : List Nat := [0, 0, 8, 0, 3, 4, 4, 0, 5, 6, 0, 0, 1, 0, 0, 2, 0, 7, 3, 4, 4, 0, 5, 6, 0, 0, 1, 0, 0, 2, 0, 0, 1, 0, 0, 2, 0, 0, 0, 0, 0, 7, 3, 4, 4, 0, 5, 6, 0, 0, 1, 0, 0, 2, 0, 0, 1, 0, 0, 2, 0, 0, 0, 0, 7, 3, 4, 4, 0, 5, 6, 0, 0, 1, 0, 0, 2, 0, 0, 1, 0, 0, 2, 0, 0, 0, 0, 7, 3, 4, 4, 0, 5, 6, 0, 0, 1, 0, 0, 2, 0, 0, 1, 0, 0, 2, 0, 0, 0, 0, 0, 0, 0, 9, 0, 0, 0, 0, 0, 0, 1, 0, 0, 2, 0, 0, 10, 0, 0, 1, 0, 0, 2, 0, 0, 1, 0, 0, 2, 0, 0, 1, 0, 0, 2, 0, 0, 1, 0, 0, 2, 0, 0, 1, 0, 0, 2, 0, 0, 0, 0, 0, 0, 0, 0, 0, 0]
def kd (c : Nat) : Nat := kdL.getD c 0
def KI (t : Nat) (f : Nat → Int32) : Prop := match t with
  | 1 => ∀ j : Nat, j < 64 → Iv 0 9 (f j)
  | 2 => ∀ j : Nat, j < 3 → Iv 0 5 (f j)
  | 3 => Iv 0 6 (f 1) ∧ Iv 0 8 (f 3) ∧ Iv 0 8 (f 4) ∧ Iv 0 3 (f 5) ∧ Iv 0 6 (f 6)
  | 4 => ∀ j : Nat, j < 8 → Iv 0 5 (f j)
  | 5 => ∀ j : Nat, j < 6 → Iv 0 2 (f j)
  | 6 => ∀ j : Nat, j < 6 → Iv 0 5 (f j)
  | 7 => Iv 0 40 (f 2)
  | 8 => Iv 0 1000 (f 1)
  | 9 => ∀ j : Nat, j < 4 → Iv 0 60 (f j)
  | 10 => Iv 0 4 (f 5) ∧ Iv (-1) 2 (f 7)
  | _ => True
def CB (st : CT) : Prop := ∀ c : Nat, KI (kd c) (st c)
theorem cb_sw {st : CT} {q : Nat} {f : Nat → Int32} (hB : CB st) (h : KI (kd q) f) : CB (sw st q f) := fun c => by
  by_cases e : c = q
  · subst e; rw [sw_same]; exact h
  · rw [sw_ne e]; exact hB c
theorem ki_1 {f : Nat → Int32} {i : Nat} {v : Int32} (h : KI 1 f) (hv : Iv 0 9 v) : KI 1 (upd f i v) := fun j hj => by
  by_cases e : j = i
  · subst e; rw [show upd f j v j = v from if_pos rfl]; exact hv
  · rw [show upd f i v j = f j from if_neg e]; exact h j hj
theorem ki_2 {f : Nat → Int32} {i : Nat} {v : Int32} (h : KI 2 f) (hv : Iv 0 5 v) : KI 2 (upd f i v) := fun j hj => by
  by_cases e : j = i
  · subst e; rw [show upd f j v j = v from if_pos rfl]; exact hv
  · rw [show upd f i v j = f j from if_neg e]; exact h j hj
theorem ki_3_0 {f : Nat → Int32} {v : Int32} (h : KI 3 f) : KI 3 (upd f 0 v) := ⟨h.1, h.2.1, h.2.2.1, h.2.2.2.1, h.2.2.2.2⟩
theorem ki_3_1 {f : Nat → Int32} {v : Int32} (h : KI 3 f) (hv : Iv 0 6 v) : KI 3 (upd f 1 v) := ⟨hv, h.2.1, h.2.2.1, h.2.2.2.1, h.2.2.2.2⟩
theorem ki_3_2 {f : Nat → Int32} {v : Int32} (h : KI 3 f) : KI 3 (upd f 2 v) := ⟨h.1, h.2.1, h.2.2.1, h.2.2.2.1, h.2.2.2.2⟩
theorem ki_3_3 {f : Nat → Int32} {v : Int32} (h : KI 3 f) (hv : Iv 0 8 v) : KI 3 (upd f 3 v) := ⟨h.1, hv, h.2.2.1, h.2.2.2.1, h.2.2.2.2⟩
theorem ki_3_4 {f : Nat → Int32} {v : Int32} (h : KI 3 f) (hv : Iv 0 8 v) : KI 3 (upd f 4 v) := ⟨h.1, h.2.1, hv, h.2.2.2.1, h.2.2.2.2⟩
theorem ki_3_5 {f : Nat → Int32} {v : Int32} (h : KI 3 f) (hv : Iv 0 3 v) : KI 3 (upd f 5 v) := ⟨h.1, h.2.1, h.2.2.1, hv, h.2.2.2.2⟩
theorem ki_3_6 {f : Nat → Int32} {v : Int32} (h : KI 3 f) (hv : Iv 0 6 v) : KI 3 (upd f 6 v) := ⟨h.1, h.2.1, h.2.2.1, h.2.2.2.1, hv⟩
theorem ki_4 {f : Nat → Int32} {i : Nat} {v : Int32} (h : KI 4 f) (hv : Iv 0 5 v) : KI 4 (upd f i v) := fun j hj => by
  by_cases e : j = i
  · subst e; rw [show upd f j v j = v from if_pos rfl]; exact hv
  · rw [show upd f i v j = f j from if_neg e]; exact h j hj
theorem ki_5 {f : Nat → Int32} {i : Nat} {v : Int32} (h : KI 5 f) (hv : Iv 0 2 v) : KI 5 (upd f i v) := fun j hj => by
  by_cases e : j = i
  · subst e; rw [show upd f j v j = v from if_pos rfl]; exact hv
  · rw [show upd f i v j = f j from if_neg e]; exact h j hj
theorem ki_6 {f : Nat → Int32} {i : Nat} {v : Int32} (h : KI 6 f) (hv : Iv 0 5 v) : KI 6 (upd f i v) := fun j hj => by
  by_cases e : j = i
  · subst e; rw [show upd f j v j = v from if_pos rfl]; exact hv
  · rw [show upd f i v j = f j from if_neg e]; exact h j hj
theorem ki_7_2 {f : Nat → Int32} {v : Int32} (h : KI 7 f) (hv : Iv 0 40 v) : KI 7 (upd f 2 v) := hv
theorem ki_8_1 {f : Nat → Int32} {v : Int32} (h : KI 8 f) (hv : Iv 0 1000 v) : KI 8 (upd f 1 v) := hv
theorem ki_9 {f : Nat → Int32} {i : Nat} {v : Int32} (h : KI 9 f) (hv : Iv 0 60 v) : KI 9 (upd f i v) := fun j hj => by
  by_cases e : j = i
  · subst e; rw [show upd f j v j = v from if_pos rfl]; exact hv
  · rw [show upd f i v j = f j from if_neg e]; exact h j hj
theorem ki_10_5 {f : Nat → Int32} {v : Int32} (h : KI 10 f) (hv : Iv 0 4 v) : KI 10 (upd f 5 v) := ⟨hv, h.2⟩
theorem ki_10_6 {f : Nat → Int32} {v : Int32} (h : KI 10 f) : KI 10 (upd f 6 v) := ⟨h.1, h.2⟩
theorem ki_10_7 {f : Nat → Int32} {v : Int32} (h : KI 10 f) (hv : Iv (-1) 2 v) : KI 10 (upd f 7 v) := ⟨h.1, hv⟩
theorem ki_10_8 {f : Nat → Int32} {v : Int32} (h : KI 10 f) : KI 10 (upd f 8 v) := ⟨h.1, h.2⟩
theorem ki_10_9 {f : Nat → Int32} {v : Int32} (h : KI 10 f) : KI 10 (upd f 9 v) := ⟨h.1, h.2⟩
theorem rb_2_1 {st : CT} (hB : CB st) : Iv 0 1000 (st 2 1) := (show KI 8 (st 2) from hB 2)
theorem rb_4_1 {st : CT} (hB : CB st) : Iv 0 6 (st 4 1) := (show KI 3 (st 4) from hB 4).1
theorem rb_4_3 {st : CT} (hB : CB st) : Iv 0 8 (st 4 3) := (show KI 3 (st 4) from hB 4).2.1
theorem rb_4_4 {st : CT} (hB : CB st) : Iv 0 8 (st 4 4) := (show KI 3 (st 4) from hB 4).2.2.1
theorem rb_4_5 {st : CT} (hB : CB st) : Iv 0 3 (st 4 5) := (show KI 3 (st 4) from hB 4).2.2.2.1
theorem rb_4_6 {st : CT} (hB : CB st) : Iv 0 6 (st 4 6) := (show KI 3 (st 4) from hB 4).2.2.2.2
theorem rb_5 {st : CT} (hB : CB st) {j : Nat} (h : j < 8) : Iv 0 5 (st 5 j) := hB 5 j h
theorem rb_6 {st : CT} (hB : CB st) {j : Nat} (h : j < 8) : Iv 0 5 (st 6 j) := hB 6 j h
theorem rb_8 {st : CT} (hB : CB st) {j : Nat} (h : j < 6) : Iv 0 2 (st 8 j) := hB 8 j h
theorem rb_9 {st : CT} (hB : CB st) {j : Nat} (h : j < 6) : Iv 0 5 (st 9 j) := hB 9 j h
theorem rb_12 {st : CT} (hB : CB st) {j : Nat} (h : j < 64) : Iv 0 9 (st 12 j) := hB 12 j h
theorem rb_15 {st : CT} (hB : CB st) {j : Nat} (h : j < 3) : Iv 0 5 (st 15 j) := hB 15 j h
theorem rb_17_2 {st : CT} (hB : CB st) : Iv 0 40 (st 17 2) := (show KI 7 (st 17) from hB 17)
theorem rb_18_1 {st : CT} (hB : CB st) : Iv 0 6 (st 18 1) := (show KI 3 (st 18) from hB 18).1
theorem rb_18_3 {st : CT} (hB : CB st) : Iv 0 8 (st 18 3) := (show KI 3 (st 18) from hB 18).2.1
theorem rb_18_4 {st : CT} (hB : CB st) : Iv 0 8 (st 18 4) := (show KI 3 (st 18) from hB 18).2.2.1
theorem rb_18_5 {st : CT} (hB : CB st) : Iv 0 3 (st 18 5) := (show KI 3 (st 18) from hB 18).2.2.2.1
theorem rb_18_6 {st : CT} (hB : CB st) : Iv 0 6 (st 18 6) := (show KI 3 (st 18) from hB 18).2.2.2.2
theorem rb_19 {st : CT} (hB : CB st) {j : Nat} (h : j < 8) : Iv 0 5 (st 19 j) := hB 19 j h
theorem rb_20 {st : CT} (hB : CB st) {j : Nat} (h : j < 8) : Iv 0 5 (st 20 j) := hB 20 j h
theorem rb_22 {st : CT} (hB : CB st) {j : Nat} (h : j < 6) : Iv 0 2 (st 22 j) := hB 22 j h
theorem rb_23 {st : CT} (hB : CB st) {j : Nat} (h : j < 6) : Iv 0 5 (st 23 j) := hB 23 j h
theorem rb_26 {st : CT} (hB : CB st) {j : Nat} (h : j < 64) : Iv 0 9 (st 26 j) := hB 26 j h
theorem rb_29 {st : CT} (hB : CB st) {j : Nat} (h : j < 3) : Iv 0 5 (st 29 j) := hB 29 j h
theorem rb_32 {st : CT} (hB : CB st) {j : Nat} (h : j < 64) : Iv 0 9 (st 32 j) := hB 32 j h
theorem rb_35 {st : CT} (hB : CB st) {j : Nat} (h : j < 3) : Iv 0 5 (st 35 j) := hB 35 j h
theorem rb_41_2 {st : CT} (hB : CB st) : Iv 0 40 (st 41 2) := (show KI 7 (st 41) from hB 41)
theorem rb_42_1 {st : CT} (hB : CB st) : Iv 0 6 (st 42 1) := (show KI 3 (st 42) from hB 42).1
theorem rb_42_3 {st : CT} (hB : CB st) : Iv 0 8 (st 42 3) := (show KI 3 (st 42) from hB 42).2.1
theorem rb_42_4 {st : CT} (hB : CB st) : Iv 0 8 (st 42 4) := (show KI 3 (st 42) from hB 42).2.2.1
theorem rb_42_5 {st : CT} (hB : CB st) : Iv 0 3 (st 42 5) := (show KI 3 (st 42) from hB 42).2.2.2.1
theorem rb_42_6 {st : CT} (hB : CB st) : Iv 0 6 (st 42 6) := (show KI 3 (st 42) from hB 42).2.2.2.2
theorem rb_43 {st : CT} (hB : CB st) {j : Nat} (h : j < 8) : Iv 0 5 (st 43 j) := hB 43 j h
theorem rb_44 {st : CT} (hB : CB st) {j : Nat} (h : j < 8) : Iv 0 5 (st 44 j) := hB 44 j h
theorem rb_46 {st : CT} (hB : CB st) {j : Nat} (h : j < 6) : Iv 0 2 (st 46 j) := hB 46 j h
theorem rb_47 {st : CT} (hB : CB st) {j : Nat} (h : j < 6) : Iv 0 5 (st 47 j) := hB 47 j h
theorem rb_50 {st : CT} (hB : CB st) {j : Nat} (h : j < 64) : Iv 0 9 (st 50 j) := hB 50 j h
theorem rb_53 {st : CT} (hB : CB st) {j : Nat} (h : j < 3) : Iv 0 5 (st 53 j) := hB 53 j h
theorem rb_56 {st : CT} (hB : CB st) {j : Nat} (h : j < 64) : Iv 0 9 (st 56 j) := hB 56 j h
theorem rb_59 {st : CT} (hB : CB st) {j : Nat} (h : j < 3) : Iv 0 5 (st 59 j) := hB 59 j h
theorem rb_64_2 {st : CT} (hB : CB st) : Iv 0 40 (st 64 2) := (show KI 7 (st 64) from hB 64)
theorem rb_65_1 {st : CT} (hB : CB st) : Iv 0 6 (st 65 1) := (show KI 3 (st 65) from hB 65).1
theorem rb_65_3 {st : CT} (hB : CB st) : Iv 0 8 (st 65 3) := (show KI 3 (st 65) from hB 65).2.1
theorem rb_65_4 {st : CT} (hB : CB st) : Iv 0 8 (st 65 4) := (show KI 3 (st 65) from hB 65).2.2.1
theorem rb_65_5 {st : CT} (hB : CB st) : Iv 0 3 (st 65 5) := (show KI 3 (st 65) from hB 65).2.2.2.1
theorem rb_65_6 {st : CT} (hB : CB st) : Iv 0 6 (st 65 6) := (show KI 3 (st 65) from hB 65).2.2.2.2
theorem rb_66 {st : CT} (hB : CB st) {j : Nat} (h : j < 8) : Iv 0 5 (st 66 j) := hB 66 j h
theorem rb_67 {st : CT} (hB : CB st) {j : Nat} (h : j < 8) : Iv 0 5 (st 67 j) := hB 67 j h
theorem rb_69 {st : CT} (hB : CB st) {j : Nat} (h : j < 6) : Iv 0 2 (st 69 j) := hB 69 j h
theorem rb_70 {st : CT} (hB : CB st) {j : Nat} (h : j < 6) : Iv 0 5 (st 70 j) := hB 70 j h
theorem rb_73 {st : CT} (hB : CB st) {j : Nat} (h : j < 64) : Iv 0 9 (st 73 j) := hB 73 j h
theorem rb_76 {st : CT} (hB : CB st) {j : Nat} (h : j < 3) : Iv 0 5 (st 76 j) := hB 76 j h
theorem rb_79 {st : CT} (hB : CB st) {j : Nat} (h : j < 64) : Iv 0 9 (st 79 j) := hB 79 j h
theorem rb_82 {st : CT} (hB : CB st) {j : Nat} (h : j < 3) : Iv 0 5 (st 82 j) := hB 82 j h
theorem rb_87_2 {st : CT} (hB : CB st) : Iv 0 40 (st 87 2) := (show KI 7 (st 87) from hB 87)
theorem rb_88_1 {st : CT} (hB : CB st) : Iv 0 6 (st 88 1) := (show KI 3 (st 88) from hB 88).1
theorem rb_88_3 {st : CT} (hB : CB st) : Iv 0 8 (st 88 3) := (show KI 3 (st 88) from hB 88).2.1
theorem rb_88_4 {st : CT} (hB : CB st) : Iv 0 8 (st 88 4) := (show KI 3 (st 88) from hB 88).2.2.1
theorem rb_88_5 {st : CT} (hB : CB st) : Iv 0 3 (st 88 5) := (show KI 3 (st 88) from hB 88).2.2.2.1
theorem rb_88_6 {st : CT} (hB : CB st) : Iv 0 6 (st 88 6) := (show KI 3 (st 88) from hB 88).2.2.2.2
theorem rb_89 {st : CT} (hB : CB st) {j : Nat} (h : j < 8) : Iv 0 5 (st 89 j) := hB 89 j h
theorem rb_90 {st : CT} (hB : CB st) {j : Nat} (h : j < 8) : Iv 0 5 (st 90 j) := hB 90 j h
theorem rb_92 {st : CT} (hB : CB st) {j : Nat} (h : j < 6) : Iv 0 2 (st 92 j) := hB 92 j h
theorem rb_93 {st : CT} (hB : CB st) {j : Nat} (h : j < 6) : Iv 0 5 (st 93 j) := hB 93 j h
theorem rb_96 {st : CT} (hB : CB st) {j : Nat} (h : j < 64) : Iv 0 9 (st 96 j) := hB 96 j h
theorem rb_99 {st : CT} (hB : CB st) {j : Nat} (h : j < 3) : Iv 0 5 (st 99 j) := hB 99 j h
theorem rb_102 {st : CT} (hB : CB st) {j : Nat} (h : j < 64) : Iv 0 9 (st 102 j) := hB 102 j h
theorem rb_105 {st : CT} (hB : CB st) {j : Nat} (h : j < 3) : Iv 0 5 (st 105 j) := hB 105 j h
theorem rb_113 {st : CT} (hB : CB st) {j : Nat} (h : j < 4) : Iv 0 60 (st 113 j) := hB 113 j h
theorem rb_120 {st : CT} (hB : CB st) {j : Nat} (h : j < 64) : Iv 0 9 (st 120 j) := hB 120 j h
theorem rb_123 {st : CT} (hB : CB st) {j : Nat} (h : j < 3) : Iv 0 5 (st 123 j) := hB 123 j h
theorem rb_126_5 {st : CT} (hB : CB st) : Iv 0 4 (st 126 5) := (show KI 10 (st 126) from hB 126).1
theorem rb_126_7 {st : CT} (hB : CB st) : Iv (-1) 2 (st 126 7) := (show KI 10 (st 126) from hB 126).2
theorem rb_129 {st : CT} (hB : CB st) {j : Nat} (h : j < 64) : Iv 0 9 (st 129 j) := hB 129 j h
theorem rb_132 {st : CT} (hB : CB st) {j : Nat} (h : j < 3) : Iv 0 5 (st 132 j) := hB 132 j h
theorem rb_135 {st : CT} (hB : CB st) {j : Nat} (h : j < 64) : Iv 0 9 (st 135 j) := hB 135 j h
theorem rb_138 {st : CT} (hB : CB st) {j : Nat} (h : j < 3) : Iv 0 5 (st 138 j) := hB 138 j h
theorem rb_141 {st : CT} (hB : CB st) {j : Nat} (h : j < 64) : Iv 0 9 (st 141 j) := hB 141 j h
theorem rb_144 {st : CT} (hB : CB st) {j : Nat} (h : j < 3) : Iv 0 5 (st 144 j) := hB 144 j h
theorem rb_147 {st : CT} (hB : CB st) {j : Nat} (h : j < 64) : Iv 0 9 (st 147 j) := hB 147 j h
theorem rb_150 {st : CT} (hB : CB st) {j : Nat} (h : j < 3) : Iv 0 5 (st 150 j) := hB 150 j h
theorem rb_153 {st : CT} (hB : CB st) {j : Nat} (h : j < 64) : Iv 0 9 (st 153 j) := hB 153 j h
theorem rb_156 {st : CT} (hB : CB st) {j : Nat} (h : j < 3) : Iv 0 5 (st 156 j) := hB 156 j h
theorem kx_1 {x : Nat} (mx : x ∈ SC) : kd (x + 1) = 1 := by
  simp only [SC, List.mem_cons, List.not_mem_nil, or_false] at mx
  rcases mx with rfl | rfl | rfl | rfl | rfl | rfl | rfl | rfl | rfl | rfl | rfl | rfl | rfl | rfl | rfl <;> rfl
theorem kx_2 {x : Nat} (mx : x ∈ SC) : kd (x + 2) = 0 := by
  simp only [SC, List.mem_cons, List.not_mem_nil, or_false] at mx
  rcases mx with rfl | rfl | rfl | rfl | rfl | rfl | rfl | rfl | rfl | rfl | rfl | rfl | rfl | rfl | rfl <;> rfl
theorem kx_3 {x : Nat} (mx : x ∈ SC) : kd (x + 3) = 0 := by
  simp only [SC, List.mem_cons, List.not_mem_nil, or_false] at mx
  rcases mx with rfl | rfl | rfl | rfl | rfl | rfl | rfl | rfl | rfl | rfl | rfl | rfl | rfl | rfl | rfl <;> rfl
theorem kx_4 {x : Nat} (mx : x ∈ SC) : kd (x + 4) = 2 := by
  simp only [SC, List.mem_cons, List.not_mem_nil, or_false] at mx
  rcases mx with rfl | rfl | rfl | rfl | rfl | rfl | rfl | rfl | rfl | rfl | rfl | rfl | rfl | rfl | rfl <;> rfl
theorem kx_5 {x : Nat} (mx : x ∈ SC) : kd (x + 5) = 0 := by
  simp only [SC, List.mem_cons, List.not_mem_nil, or_false] at mx
  rcases mx with rfl | rfl | rfl | rfl | rfl | rfl | rfl | rfl | rfl | rfl | rfl | rfl | rfl | rfl | rfl <;> rfl
theorem kb_1 {st : CT} {x : Nat} (mx : x ∈ SC) (hB : CB st) : KI 1 (st (x + 1)) := by
  have q := hB (x + 1)
  rw [kx_1 mx] at q
  exact q
theorem rx_1 {st : CT} {x : Nat} (mx : x ∈ SC) (hB : CB st) {j : Nat} (h : j < 64) : Iv 0 9 (st (x + 1) j) := kb_1 mx hB j h
theorem kb_4 {st : CT} {x : Nat} (mx : x ∈ SC) (hB : CB st) : KI 2 (st (x + 4)) := by
  have q := hB (x + 4)
  rw [kx_4 mx] at q
  exact q
theorem rx_4 {st : CT} {x : Nat} (mx : x ∈ SC) (hB : CB st) {j : Nat} (h : j < 3) : Iv 0 5 (st (x + 4) j) := kb_4 mx hB j h
