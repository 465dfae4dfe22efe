/-! the reference's world -/
def bhL : List Int := [6, 2147483647, 8, 8, 3, 6, 2147483647, 40, 5, 5, 20, 5, 5, 20, 5, 5, 20, 5, 5, 20, 5, 5, 20, 5, 5, 20, 5, 5, 20, 5, 5, 20, 2147483647, 2147483647, 2147483647, 2147483647, 2147483647, 2147483647, 2147483647, 2147483647, 2147483647, 2147483647, 2147483647, 2147483647, 2147483647, 2147483647, 2147483647, 2147483647, 2147483647, 2147483647, 2147483647, 2147483647, 2147483647, 2147483647, 2147483647, 2147483647, 2147483647, 2147483647, 2147483647, 2147483647, 2147483647, 2147483647, 2147483647, 2147483647, 2147483647, 2147483647, 2147483647, 2147483647, 2147483647, 2147483647, 2147483647, 2147483647, 2147483647, 2147483647, 2147483647, 2147483647, 2147483647, 2147483647, 2147483647, 2147483647, 2147483647, 2147483647, 2147483647, 2147483647, 2147483647, 2147483647, 2147483647, 2147483647, 2147483647, 2147483647, 2147483647, 2147483647, 2147483647, 2147483647, 2147483647, 2147483647, 2147483647, 2147483647, 2147483647, 2147483647, 2147483647, 2147483647, 2147483647, 2147483647, 2147483647, 2147483647, 2147483647, 2147483647, 2147483647, 2147483647, 2, 2147483647, 2147483647, 2, 2147483647, 2147483647, 2, 2147483647, 2147483647, 2, 2147483647, 2147483647, 2, 2147483647, 2147483647, 2, 2147483647, 2147483647, 2147483647, 2147483647, 2147483647, 2147483647, 2147483647, 2147483647, 2147483647, 2147483647, 2147483647, 2147483647, 2147483647, 2147483647, 2147483647, 2147483647, 2147483647, 2147483647, 2147483647, 2147483647, 2147483647, 2147483647, 2147483647, 2147483647, 2147483647, 2147483647, 2147483647, 2147483647, 2147483647, 2147483647, 2147483647, 2147483647, 2147483647, 2147483647, 2147483647, 2147483647, 2147483647, 2147483647, 2147483647, 2147483647, 2147483647, 2147483647]
def blL : List Int := [0, -2147483648, 0, 0, 0, 0, -2147483648, 0, 0, 0, 0, 0, 0, 0, 0, 0, 0, 0, 0, 0, 0, 0, 0, 0, 0, 0, 0, 0, 0, 0, 0, 0, -2147483648, -2147483648, -2147483648, -2147483648, -2147483648, -2147483648, -2147483648, -2147483648, -2147483648, -2147483648, -2147483648, -2147483648, -2147483648, -2147483648, -2147483648, -2147483648, -2147483648, -2147483648, -2147483648, -2147483648, -2147483648, -2147483648, -2147483648, -2147483648, -2147483648, -2147483648, -2147483648, -2147483648, -2147483648, -2147483648, -2147483648, -2147483648, -2147483648, -2147483648, -2147483648, -2147483648, -2147483648, -2147483648, -2147483648, -2147483648, -2147483648, -2147483648, -2147483648, -2147483648, -2147483648, -2147483648, -2147483648, -2147483648, -2147483648, -2147483648, -2147483648, -2147483648, -2147483648, -2147483648, -2147483648, -2147483648, -2147483648, -2147483648, -2147483648, -2147483648, -2147483648, -2147483648, -2147483648, -2147483648, -2147483648, -2147483648, -2147483648, -2147483648, -2147483648, -2147483648, -2147483648, -2147483648, -2147483648, -2147483648, -2147483648, -2147483648, -2147483648, -2147483648, 0, -2147483648, -2147483648, 0, -2147483648, -2147483648, 0, -2147483648, -2147483648, 0, -2147483648, -2147483648, 0, -2147483648, -2147483648, 0, -2147483648, -2147483648, -2147483648, -2147483648, -2147483648, -2147483648, -2147483648, -2147483648, -2147483648, -2147483648, -2147483648, -2147483648, -2147483648, -2147483648, -2147483648, -2147483648, -2147483648, -2147483648, -2147483648, -2147483648, -2147483648, -2147483648, -2147483648, -2147483648, -2147483648, -2147483648, -2147483648, -2147483648, -2147483648, -2147483648, -2147483648, -2147483648, -2147483648, -2147483648, -2147483648, -2147483648, -2147483648, -2147483648, -2147483648, -2147483648, -2147483648, -2147483648]
def bh (j : Nat) : Int := bhL.getD j 0
def bl (j : Nat) : Int := blL.getD j 0
def TOK (f : Nat → Int32) : Prop := ∀ j : Nat, j < 168 → Iv (bl j) (bh j) (f j)
def AC (x : Int32) : Prop := Iv 100 129 x ∨ (Iv 200 279 x ∧ (x.toInt - 200) % 10 ≤ 7) ∨ Iv 300 307 x
def WOK (f : Nat → Int32) : Prop := TOK f ∧ ∀ i : Nat, (i : Int) < (f 7).toInt → AC (f (128 + i))
def FOK (f : Nat → Int32) : Prop := TOK f ∧ f 7 = 0
def MWS (k : Nat → ClassId) (a : Nat → Nat) (st : CT) (sl : CL) : va_W := [(a 0, .inr (10, [.int (st 0 0), .ref (a 1), .ref (a 2), .ref (a 3), .ref (a 4), .int (st 0 5), .ref (a 5), .int (st 0 7), .int (st 0 8), .int (st 0 9), .int (st 0 10), .int (st 0 11), .int (st 0 12), .int (st 0 13), .ref (a 6), .ref (a 7), .ref (a 8), .ref (a 9), .ref (a 10), .ref (a 11), .int (st 0 20), .int (st 0 21), .int (st 0 22), .ref (a 12), .ref (a 13), .ref (a 14), .int (st 0 26), .int (st 0 27), .ref (a 15), .int (st 0 29), .ref (a 16), .int (st 0 31), .ref (a 17), .int (st 0 33), .ref (a 18), .ref (a 19), .ref (a 20), .ref (a 21)])), (a 1, .inl (k 0, 168, .inl (st 1))), (a 2, .inl (k 0, 504, .inl (st 2))), (a 3, .inl (k 3, 3, .inl (st 3))), (a 4, .inl (k 1, 1000, .inl (st 4))), (a 5, .inl (k 0, 5, .inl (st 5))), (a 6, .inl (k 0, 168, .inl (st 6))), (a 7, .inl (k 0, 8, .inl (st 7))), (a 8, .inl (k 0, 64, .inl (st 8))), (a 9, .inl (k 0, 8, .inl (st 9))), (a 10, .inl (k 0, 3, .inl (st 10))), (a 11, .inl (k 0, 3, .inl (st 11))), (a 12, .inl (k 0, 370, .inl (st 12))), (a 13, .inl (k 0, 5, .inl (st 13))), (a 14, .inl (k 0, 4, .inl (st 14))), (a 15, .inl (k 0, 6, .inl (st 15))), (a 16, .inl (k 0, 41, .inl (st 16))), (a 17, .inl (k 0, 256, .inl (st 17))), (a 18, .inl (k 0, 4, .inl (st 18))), (a 19, .inl (k 0, 4, .inl (st 19))), (a 20, .inl (k 2, 240, .inr (.inl (sl 20)))), (a 21, .inl (k 2, 60, .inr (.inl (sl 21))))]
theorem mw_0 {k : Nat → ClassId} {a : Nat → Nat} {st : CT} {sl : CL} : (MWS k a st sl)[0]? = some (a 0, .inr (10, [.int (st 0 0), .ref (a 1), .ref (a 2), .ref (a 3), .ref (a 4), .int (st 0 5), .ref (a 5), .int (st 0 7), .int (st 0 8), .int (st 0 9), .int (st 0 10), .int (st 0 11), .int (st 0 12), .int (st 0 13), .ref (a 6), .ref (a 7), .ref (a 8), .ref (a 9), .ref (a 10), .ref (a 11), .int (st 0 20), .int (st 0 21), .int (st 0 22), .ref (a 12), .ref (a 13), .ref (a 14), .int (st 0 26), .int (st 0 27), .ref (a 15), .int (st 0 29), .ref (a 16), .int (st 0 31), .ref (a 17), .int (st 0 33), .ref (a 18), .ref (a 19), .ref (a 20), .ref (a 21)])) := rfl
theorem mw_1 {k : Nat → ClassId} {a : Nat → Nat} {st : CT} {sl : CL} : (MWS k a st sl)[1]? = some (a 1, .inl (k 0, 168, .inl (st 1))) := rfl
theorem mw_2 {k : Nat → ClassId} {a : Nat → Nat} {st : CT} {sl : CL} : (MWS k a st sl)[2]? = some (a 2, .inl (k 0, 504, .inl (st 2))) := rfl
theorem mw_3 {k : Nat → ClassId} {a : Nat → Nat} {st : CT} {sl : CL} : (MWS k a st sl)[3]? = some (a 3, .inl (k 3, 3, .inl (st 3))) := rfl
theorem mw_4 {k : Nat → ClassId} {a : Nat → Nat} {st : CT} {sl : CL} : (MWS k a st sl)[4]? = some (a 4, .inl (k 1, 1000, .inl (st 4))) := rfl
theorem mw_5 {k : Nat → ClassId} {a : Nat → Nat} {st : CT} {sl : CL} : (MWS k a st sl)[5]? = some (a 5, .inl (k 0, 5, .inl (st 5))) := rfl
theorem mw_6 {k : Nat → ClassId} {a : Nat → Nat} {st : CT} {sl : CL} : (MWS k a st sl)[6]? = some (a 6, .inl (k 0, 168, .inl (st 6))) := rfl
theorem mw_7 {k : Nat → ClassId} {a : Nat → Nat} {st : CT} {sl : CL} : (MWS k a st sl)[7]? = some (a 7, .inl (k 0, 8, .inl (st 7))) := rfl
theorem mw_8 {k : Nat → ClassId} {a : Nat → Nat} {st : CT} {sl : CL} : (MWS k a st sl)[8]? = some (a 8, .inl (k 0, 64, .inl (st 8))) := rfl
theorem mw_9 {k : Nat → ClassId} {a : Nat → Nat} {st : CT} {sl : CL} : (MWS k a st sl)[9]? = some (a 9, .inl (k 0, 8, .inl (st 9))) := rfl
theorem mw_10 {k : Nat → ClassId} {a : Nat → Nat} {st : CT} {sl : CL} : (MWS k a st sl)[10]? = some (a 10, .inl (k 0, 3, .inl (st 10))) := rfl
theorem mw_11 {k : Nat → ClassId} {a : Nat → Nat} {st : CT} {sl : CL} : (MWS k a st sl)[11]? = some (a 11, .inl (k 0, 3, .inl (st 11))) := rfl
theorem mw_12 {k : Nat → ClassId} {a : Nat → Nat} {st : CT} {sl : CL} : (MWS k a st sl)[12]? = some (a 12, .inl (k 0, 370, .inl (st 12))) := rfl
theorem mw_13 {k : Nat → ClassId} {a : Nat → Nat} {st : CT} {sl : CL} : (MWS k a st sl)[13]? = some (a 13, .inl (k 0, 5, .inl (st 13))) := rfl
theorem mw_14 {k : Nat → ClassId} {a : Nat → Nat} {st : CT} {sl : CL} : (MWS k a st sl)[14]? = some (a 14, .inl (k 0, 4, .inl (st 14))) := rfl
theorem mw_15 {k : Nat → ClassId} {a : Nat → Nat} {st : CT} {sl : CL} : (MWS k a st sl)[15]? = some (a 15, .inl (k 0, 6, .inl (st 15))) := rfl
theorem mw_16 {k : Nat → ClassId} {a : Nat → Nat} {st : CT} {sl : CL} : (MWS k a st sl)[16]? = some (a 16, .inl (k 0, 41, .inl (st 16))) := rfl
theorem mw_17 {k : Nat → ClassId} {a : Nat → Nat} {st : CT} {sl : CL} : (MWS k a st sl)[17]? = some (a 17, .inl (k 0, 256, .inl (st 17))) := rfl
theorem mw_18 {k : Nat → ClassId} {a : Nat → Nat} {st : CT} {sl : CL} : (MWS k a st sl)[18]? = some (a 18, .inl (k 0, 4, .inl (st 18))) := rfl
theorem mw_19 {k : Nat → ClassId} {a : Nat → Nat} {st : CT} {sl : CL} : (MWS k a st sl)[19]? = some (a 19, .inl (k 0, 4, .inl (st 19))) := rfl
theorem mw_20 {k : Nat → ClassId} {a : Nat → Nat} {st : CT} {sl : CL} : (MWS k a st sl)[20]? = some (a 20, .inl (k 2, 240, .inr (.inl (sl 20)))) := rfl
theorem mw_21 {k : Nat → ClassId} {a : Nat → Nat} {st : CT} {sl : CL} : (MWS k a st sl)[21]? = some (a 21, .inl (k 2, 60, .inr (.inl (sl 21)))) := rfl
theorem ms_0 {k : Nat → ClassId} {a : Nat → Nat} {st : CT} {sl : CL} (f : Nat → Int32) : (MWS k a st sl).set 0 (a 0, .inr (10, [.int (f 0), .ref (a 1), .ref (a 2), .ref (a 3), .ref (a 4), .int (f 5), .ref (a 5), .int (f 7), .int (f 8), .int (f 9), .int (f 10), .int (f 11), .int (f 12), .int (f 13), .ref (a 6), .ref (a 7), .ref (a 8), .ref (a 9), .ref (a 10), .ref (a 11), .int (f 20), .int (f 21), .int (f 22), .ref (a 12), .ref (a 13), .ref (a 14), .int (f 26), .int (f 27), .ref (a 15), .int (f 29), .ref (a 16), .int (f 31), .ref (a 17), .int (f 33), .ref (a 18), .ref (a 19), .ref (a 20), .ref (a 21)])) = MWS k a (sw st 0 f) sl := rfl
theorem ms_1 {k : Nat → ClassId} {a : Nat → Nat} {st : CT} {sl : CL} (f : Nat → Int32) : (MWS k a st sl).set 1 (a 1, .inl (k 0, 168, .inl f)) = MWS k a (sw st 1 f) sl := rfl
theorem ms_2 {k : Nat → ClassId} {a : Nat → Nat} {st : CT} {sl : CL} (f : Nat → Int32) : (MWS k a st sl).set 2 (a 2, .inl (k 0, 504, .inl f)) = MWS k a (sw st 2 f) sl := rfl
theorem ms_3 {k : Nat → ClassId} {a : Nat → Nat} {st : CT} {sl : CL} (f : Nat → Int32) : (MWS k a st sl).set 3 (a 3, .inl (k 3, 3, .inl f)) = MWS k a (sw st 3 f) sl := rfl
theorem ms_4 {k : Nat → ClassId} {a : Nat → Nat} {st : CT} {sl : CL} (f : Nat → Int32) : (MWS k a st sl).set 4 (a 4, .inl (k 1, 1000, .inl f)) = MWS k a (sw st 4 f) sl := rfl
theorem ms_5 {k : Nat → ClassId} {a : Nat → Nat} {st : CT} {sl : CL} (f : Nat → Int32) : (MWS k a st sl).set 5 (a 5, .inl (k 0, 5, .inl f)) = MWS k a (sw st 5 f) sl := rfl
theorem ms_6 {k : Nat → ClassId} {a : Nat → Nat} {st : CT} {sl : CL} (f : Nat → Int32) : (MWS k a st sl).set 6 (a 6, .inl (k 0, 168, .inl f)) = MWS k a (sw st 6 f) sl := rfl
theorem ms_7 {k : Nat → ClassId} {a : Nat → Nat} {st : CT} {sl : CL} (f : Nat → Int32) : (MWS k a st sl).set 7 (a 7, .inl (k 0, 8, .inl f)) = MWS k a (sw st 7 f) sl := rfl
theorem ms_8 {k : Nat → ClassId} {a : Nat → Nat} {st : CT} {sl : CL} (f : Nat → Int32) : (MWS k a st sl).set 8 (a 8, .inl (k 0, 64, .inl f)) = MWS k a (sw st 8 f) sl := rfl
theorem ms_9 {k : Nat → ClassId} {a : Nat → Nat} {st : CT} {sl : CL} (f : Nat → Int32) : (MWS k a st sl).set 9 (a 9, .inl (k 0, 8, .inl f)) = MWS k a (sw st 9 f) sl := rfl
theorem ms_10 {k : Nat → ClassId} {a : Nat → Nat} {st : CT} {sl : CL} (f : Nat → Int32) : (MWS k a st sl).set 10 (a 10, .inl (k 0, 3, .inl f)) = MWS k a (sw st 10 f) sl := rfl
theorem ms_11 {k : Nat → ClassId} {a : Nat → Nat} {st : CT} {sl : CL} (f : Nat → Int32) : (MWS k a st sl).set 11 (a 11, .inl (k 0, 3, .inl f)) = MWS k a (sw st 11 f) sl := rfl
theorem ms_12 {k : Nat → ClassId} {a : Nat → Nat} {st : CT} {sl : CL} (f : Nat → Int32) : (MWS k a st sl).set 12 (a 12, .inl (k 0, 370, .inl f)) = MWS k a (sw st 12 f) sl := rfl
theorem ms_13 {k : Nat → ClassId} {a : Nat → Nat} {st : CT} {sl : CL} (f : Nat → Int32) : (MWS k a st sl).set 13 (a 13, .inl (k 0, 5, .inl f)) = MWS k a (sw st 13 f) sl := rfl
theorem ms_14 {k : Nat → ClassId} {a : Nat → Nat} {st : CT} {sl : CL} (f : Nat → Int32) : (MWS k a st sl).set 14 (a 14, .inl (k 0, 4, .inl f)) = MWS k a (sw st 14 f) sl := rfl
theorem ms_15 {k : Nat → ClassId} {a : Nat → Nat} {st : CT} {sl : CL} (f : Nat → Int32) : (MWS k a st sl).set 15 (a 15, .inl (k 0, 6, .inl f)) = MWS k a (sw st 15 f) sl := rfl
theorem ms_16 {k : Nat → ClassId} {a : Nat → Nat} {st : CT} {sl : CL} (f : Nat → Int32) : (MWS k a st sl).set 16 (a 16, .inl (k 0, 41, .inl f)) = MWS k a (sw st 16 f) sl := rfl
theorem ms_17 {k : Nat → ClassId} {a : Nat → Nat} {st : CT} {sl : CL} (f : Nat → Int32) : (MWS k a st sl).set 17 (a 17, .inl (k 0, 256, .inl f)) = MWS k a (sw st 17 f) sl := rfl
theorem ms_18 {k : Nat → ClassId} {a : Nat → Nat} {st : CT} {sl : CL} (f : Nat → Int32) : (MWS k a st sl).set 18 (a 18, .inl (k 0, 4, .inl f)) = MWS k a (sw st 18 f) sl := rfl
theorem ms_19 {k : Nat → ClassId} {a : Nat → Nat} {st : CT} {sl : CL} (f : Nat → Int32) : (MWS k a st sl).set 19 (a 19, .inl (k 0, 4, .inl f)) = MWS k a (sw st 19 f) sl := rfl
theorem ms_20 {k : Nat → ClassId} {a : Nat → Nat} {st : CT} {sl : CL} (f : Nat → Int64) : (MWS k a st sl).set 20 (a 20, .inl (k 2, 240, .inr (.inl f))) = MWS k a st (sw sl 20 f) := rfl
theorem ms_21 {k : Nat → ClassId} {a : Nat → Nat} {st : CT} {sl : CL} (f : Nat → Int64) : (MWS k a st sl).set 21 (a 21, .inl (k 2, 60, .inr (.inl f))) = MWS k a st (sw sl 21 f) := rfl
def mkL : List Nat := [1, 0, 0, 0, 0, 0, 2, 0, 0, 0, 0, 0, 0, 5, 0, 0, 0, 0, 3, 4, 0, 0]
def mk (c : Nat) : Nat := mkL.getD c 0
def MKI (t : Nat) (f : Nat → Int32) : Prop := match t with
  | 1 => Iv 0 1000 (f 5) ∧ Iv 0 1000 (f 7) ∧ Iv 0 1000 (f 8) ∧ Iv 0 1000 (f 9) ∧ Iv 0 99999 (f 11) ∧ Iv 0 60 (f 20) ∧ Iv (-1) 4 (f 26)
  | 2 => FOK f
  | 3 => ∀ j : Nat, j < 4 → Iv (-1) 60 (f j)
  | 4 => ∀ j : Nat, j < 4 → Iv 0 3 (f j)
  | 5 => ∀ j : Nat, j < 5 → Iv (-1) 8 (f j)
  | _ => True
def MB (st : CT) : Prop := ∀ c : Nat, MKI (mk c) (st c)
theorem mb_sw {st : CT} {q : Nat} {f : Nat → Int32} (hB : MB st) (h : MKI (mk q) f) : MB (sw st q f) := fun c => by
  by_cases e : c = q
  · subst e; rw [sw_same]; exact h
  · rw [sw_ne e]; exact hB c
theorem mi_1_0 {f : Nat → Int32} {v : Int32} (h : MKI 1 f) : MKI 1 (upd f 0 v) := ⟨h.1, h.2.1, h.2.2.1, h.2.2.2.1, h.2.2.2.2.1, h.2.2.2.2.2.1, h.2.2.2.2.2.2⟩
theorem mi_1_5 {f : Nat → Int32} {v : Int32} (h : MKI 1 f) (hv : Iv 0 1000 v) : MKI 1 (upd f 5 v) := ⟨hv, h.2.1, h.2.2.1, h.2.2.2.1, h.2.2.2.2.1, h.2.2.2.2.2.1, h.2.2.2.2.2.2⟩
theorem mi_1_7 {f : Nat → Int32} {v : Int32} (h : MKI 1 f) (hv : Iv 0 1000 v) : MKI 1 (upd f 7 v) := ⟨h.1, hv, h.2.2.1, h.2.2.2.1, h.2.2.2.2.1, h.2.2.2.2.2.1, h.2.2.2.2.2.2⟩
theorem mi_1_8 {f : Nat → Int32} {v : Int32} (h : MKI 1 f) (hv : Iv 0 1000 v) : MKI 1 (upd f 8 v) := ⟨h.1, h.2.1, hv, h.2.2.2.1, h.2.2.2.2.1, h.2.2.2.2.2.1, h.2.2.2.2.2.2⟩
theorem mi_1_9 {f : Nat → Int32} {v : Int32} (h : MKI 1 f) (hv : Iv 0 1000 v) : MKI 1 (upd f 9 v) := ⟨h.1, h.2.1, h.2.2.1, hv, h.2.2.2.2.1, h.2.2.2.2.2.1, h.2.2.2.2.2.2⟩
theorem mi_1_10 {f : Nat → Int32} {v : Int32} (h : MKI 1 f) : MKI 1 (upd f 10 v) := ⟨h.1, h.2.1, h.2.2.1, h.2.2.2.1, h.2.2.2.2.1, h.2.2.2.2.2.1, h.2.2.2.2.2.2⟩
theorem mi_1_11 {f : Nat → Int32} {v : Int32} (h : MKI 1 f) (hv : Iv 0 99999 v) : MKI 1 (upd f 11 v) := ⟨h.1, h.2.1, h.2.2.1, h.2.2.2.1, hv, h.2.2.2.2.2.1, h.2.2.2.2.2.2⟩
theorem mi_1_12 {f : Nat → Int32} {v : Int32} (h : MKI 1 f) : MKI 1 (upd f 12 v) := ⟨h.1, h.2.1, h.2.2.1, h.2.2.2.1, h.2.2.2.2.1, h.2.2.2.2.2.1, h.2.2.2.2.2.2⟩
theorem mi_1_13 {f : Nat → Int32} {v : Int32} (h : MKI 1 f) : MKI 1 (upd f 13 v) := ⟨h.1, h.2.1, h.2.2.1, h.2.2.2.1, h.2.2.2.2.1, h.2.2.2.2.2.1, h.2.2.2.2.2.2⟩
theorem mi_1_20 {f : Nat → Int32} {v : Int32} (h : MKI 1 f) (hv : Iv 0 60 v) : MKI 1 (upd f 20 v) := ⟨h.1, h.2.1, h.2.2.1, h.2.2.2.1, h.2.2.2.2.1, hv, h.2.2.2.2.2.2⟩
theorem mi_1_21 {f : Nat → Int32} {v : Int32} (h : MKI 1 f) : MKI 1 (upd f 21 v) := ⟨h.1, h.2.1, h.2.2.1, h.2.2.2.1, h.2.2.2.2.1, h.2.2.2.2.2.1, h.2.2.2.2.2.2⟩
theorem mi_1_22 {f : Nat → Int32} {v : Int32} (h : MKI 1 f) : MKI 1 (upd f 22 v) := ⟨h.1, h.2.1, h.2.2.1, h.2.2.2.1, h.2.2.2.2.1, h.2.2.2.2.2.1, h.2.2.2.2.2.2⟩
theorem mi_1_26 {f : Nat → Int32} {v : Int32} (h : MKI 1 f) (hv : Iv (-1) 4 v) : MKI 1 (upd f 26 v) := ⟨h.1, h.2.1, h.2.2.1, h.2.2.2.1, h.2.2.2.2.1, h.2.2.2.2.2.1, hv⟩
theorem mi_1_27 {f : Nat → Int32} {v : Int32} (h : MKI 1 f) : MKI 1 (upd f 27 v) := ⟨h.1, h.2.1, h.2.2.1, h.2.2.2.1, h.2.2.2.2.1, h.2.2.2.2.2.1, h.2.2.2.2.2.2⟩
theorem mi_1_29 {f : Nat → Int32} {v : Int32} (h : MKI 1 f) : MKI 1 (upd f 29 v) := ⟨h.1, h.2.1, h.2.2.1, h.2.2.2.1, h.2.2.2.2.1, h.2.2.2.2.2.1, h.2.2.2.2.2.2⟩
theorem mi_1_31 {f : Nat → Int32} {v : Int32} (h : MKI 1 f) : MKI 1 (upd f 31 v) := ⟨h.1, h.2.1, h.2.2.1, h.2.2.2.1, h.2.2.2.2.1, h.2.2.2.2.2.1, h.2.2.2.2.2.2⟩
theorem mi_1_33 {f : Nat → Int32} {v : Int32} (h : MKI 1 f) : MKI 1 (upd f 33 v) := ⟨h.1, h.2.1, h.2.2.1, h.2.2.2.1, h.2.2.2.2.1, h.2.2.2.2.2.1, h.2.2.2.2.2.2⟩
theorem mi_3 {f : Nat → Int32} {i : Nat} {v : Int32} (h : MKI 3 f) (hv : Iv (-1) 60 v) : MKI 3 (upd f i v) := fun j hj => by
  by_cases e : j = i
  · subst e; rw [show upd f j v j = v from if_pos rfl]; exact hv
  · rw [show upd f i v j = f j from if_neg e]; exact h j hj
theorem mi_4 {f : Nat → Int32} {i : Nat} {v : Int32} (h : MKI 4 f) (hv : Iv 0 3 v) : MKI 4 (upd f i v) := fun j hj => by
  by_cases e : j = i
  · subst e; rw [show upd f j v j = v from if_pos rfl]; exact hv
  · rw [show upd f i v j = f j from if_neg e]; exact h j hj
theorem mi_5 {f : Nat → Int32} {i : Nat} {v : Int32} (h : MKI 5 f) (hv : Iv (-1) 8 v) : MKI 5 (upd f i v) := fun j hj => by
  by_cases e : j = i
  · subst e; rw [show upd f j v j = v from if_pos rfl]; exact hv
  · rw [show upd f i v j = f j from if_neg e]; exact h j hj
theorem rm_0_5 {st : CT} (hB : MB st) : Iv 0 1000 (st 0 5) := (show MKI 1 (st 0) from hB 0).1
theorem rm_0_7 {st : CT} (hB : MB st) : Iv 0 1000 (st 0 7) := (show MKI 1 (st 0) from hB 0).2.1
theorem rm_0_8 {st : CT} (hB : MB st) : Iv 0 1000 (st 0 8) := (show MKI 1 (st 0) from hB 0).2.2.1
theorem rm_0_9 {st : CT} (hB : MB st) : Iv 0 1000 (st 0 9) := (show MKI 1 (st 0) from hB 0).2.2.2.1
theorem rm_0_11 {st : CT} (hB : MB st) : Iv 0 99999 (st 0 11) := (show MKI 1 (st 0) from hB 0).2.2.2.2.1
theorem rm_0_20 {st : CT} (hB : MB st) : Iv 0 60 (st 0 20) := (show MKI 1 (st 0) from hB 0).2.2.2.2.2.1
theorem rm_0_26 {st : CT} (hB : MB st) : Iv (-1) 4 (st 0 26) := (show MKI 1 (st 0) from hB 0).2.2.2.2.2.2
theorem rm_6 {st : CT} (hB : MB st) : FOK (st 6) := hB 6
theorem rm_13 {st : CT} (hB : MB st) {j : Nat} (h : j < 5) : Iv (-1) 8 (st 13 j) := hB 13 j h
theorem rm_18 {st : CT} (hB : MB st) {j : Nat} (h : j < 4) : Iv (-1) 60 (st 18 j) := hB 18 j h
theorem rm_19 {st : CT} (hB : MB st) {j : Nat} (h : j < 4) : Iv 0 3 (st 19 j) := hB 19 j h
theorem fok_upd {f : Nat → Int32} {i : Nat} {v : Int32} (h : FOK f) (hv : Iv (bl i) (bh i) v) (h7 : i ≠ 7 ∨ v = 0) : MKI 2 (upd f i v) := ⟨fun j hj => by
  by_cases e : j = i
  · subst e; rw [upd_at]; exact hv
  · rw [upd_no e]; exact h.1 j hj, by
  by_cases e : 7 = i
  · subst e
    rw [upd_at]
    rcases h7 with h7 | h7
    · exact absurd rfl h7
    · exact h7
  · rw [upd_no e]; exact h.2⟩
theorem tb_z : ∀ i : Nat, i < 168 → (bl i ≤ 0 ∧ 0 ≤ bh i) := by decide +kernel
theorem fok_zero {f : Nat → Int32} {i : Int32} {a b : Int} (h : FOK f) (hi : Iv a b i) (h0 : 0 ≤ a) (h1 : b < 168) : MKI 2 (upd f i.toNatClampNeg 0) := by
  have c := cl_int hi h0
  have h2 := hi.2
  have t := tb_z i.toNatClampNeg (by omega)
  exact fok_upd h ⟨t.1, t.2⟩ (Or.inr rfl)
theorem tok_at {f : Nat → Int32} (h : TOK f) (j : Nat) (lo hi : Int) (hj : j < 168) (e1 : bl j = lo) (e2 : bh j = hi) : Iv lo hi (f j) := by
  have q := h j hj
  rw [e1, e2] at q
  exact q
theorem tab_e : ∀ r : Nat, r < 8 → ∀ k : Nat, k < 2 → (bl (8 + 3 * r + k) = 0 ∧ bh (8 + 3 * r + k) = 5) := by decide +kernel
theorem tab_m : ∀ r : Nat, r < 8 → (bl (8 + 3 * r + 2) = 0 ∧ bh (8 + 3 * r + 2) = 20) := by decide +kernel
theorem tab_c : ∀ r : Nat, r < 6 → (bl (110 + 3 * r) = 0 ∧ bh (110 + 3 * r) = 2) := by decide +kernel
theorem tab_f : ∀ i : Nat, i < 168 → ((32 ≤ i ∧ i < 110) ∨ 128 ≤ i ∨ i = 1 ∨ i = 6) → (bl i = -2147483648 ∧ bh i = 2147483647) := by decide +kernel
theorem tab_g : ∀ r : Nat, r < 6 → ∀ k : Nat, k < 2 → (bl (111 + 3 * r + k) = -2147483648 ∧ bh (111 + 3 * r + k) = 2147483647) := by decide +kernel
theorem cl_of {i : Int32} {n : Nat} (e : i.toInt = n) : i.toNatClampNeg = n := by
  show i.toInt.toNat = n
  omega
theorem iv_nat' {lo hi : Int} {r : Int32} (h : Iv lo hi r) (h0 : 0 ≤ lo) : ∃ n : Nat, r.toInt = n ∧ (n : Int) ≤ hi := ⟨r.toInt.toNat, by have := h.1; omega, by have := h.1; have := h.2; omega⟩
theorem bd_e {r k i : Int32} (hr : Iv 0 7 r) (hk : Iv 0 1 k) (e : i.toInt = 8 + 3 * r.toInt + k.toInt) : bl i.toNatClampNeg = 0 ∧ bh i.toNatClampNeg = 5 ∧ i.toNatClampNeg < 168 ∧ i.toNatClampNeg ≠ 7 := by
  obtain ⟨n, e1, h1⟩ := iv_nat' hr (by decide)
  obtain ⟨m, e2, h2⟩ := iv_nat' hk (by decide)
  have c : i.toNatClampNeg = 8 + 3 * n + m := cl_of (by rw [e, e1, e2]; omega)
  rw [c]
  have t := tab_e n (by omega) m (by omega)
  exact ⟨t.1, t.2, by omega, by omega⟩
theorem bd_m {r i : Int32} (hr : Iv 0 7 r) (e : i.toInt = 8 + 3 * r.toInt + 2) : bl i.toNatClampNeg = 0 ∧ bh i.toNatClampNeg = 20 ∧ i.toNatClampNeg < 168 ∧ i.toNatClampNeg ≠ 7 := by
  obtain ⟨n, e1, h1⟩ := iv_nat' hr (by decide)
  have c : i.toNatClampNeg = 8 + 3 * n + 2 := cl_of (by rw [e, e1]; omega)
  rw [c]
  have t := tab_m n (by omega)
  exact ⟨t.1, t.2, by omega, by omega⟩
theorem bd_c {r i : Int32} (hr : Iv 0 5 r) (e : i.toInt = 110 + 3 * r.toInt) : bl i.toNatClampNeg = 0 ∧ bh i.toNatClampNeg = 2 ∧ i.toNatClampNeg < 168 ∧ i.toNatClampNeg ≠ 7 := by
  obtain ⟨n, e1, h1⟩ := iv_nat' hr (by decide)
  have c : i.toNatClampNeg = 110 + 3 * n := cl_of (by rw [e, e1]; omega)
  rw [c]
  have t := tab_c n (by omega)
  exact ⟨t.1, t.2, by omega, by omega⟩
theorem bd_g {r k i : Int32} (hr : Iv 0 5 r) (hk : Iv 0 1 k) (e : i.toInt = 111 + 3 * r.toInt + k.toInt) : bl i.toNatClampNeg = -2147483648 ∧ bh i.toNatClampNeg = 2147483647 ∧ i.toNatClampNeg < 168 ∧ i.toNatClampNeg ≠ 7 := by
  obtain ⟨n, e1, h1⟩ := iv_nat' hr (by decide)
  obtain ⟨m, e2, h2⟩ := iv_nat' hk (by decide)
  have c : i.toNatClampNeg = 111 + 3 * n + m := cl_of (by rw [e, e1, e2]; omega)
  rw [c]
  have t := tab_g n (by omega) m (by omega)
  exact ⟨t.1, t.2, by omega, by omega⟩
theorem bd_f {a b : Int} {i : Int32} (hi : Iv a b i) (h0 : 32 ≤ a) (h1 : b < 110) : bl i.toNatClampNeg = -2147483648 ∧ bh i.toNatClampNeg = 2147483647 ∧ i.toNatClampNeg < 168 ∧ i.toNatClampNeg ≠ 7 := by
  have c := cl_int hi (by omega)
  have h2 := hi.1
  have h3 := hi.2
  have t := tab_f i.toNatClampNeg (by omega) (by omega)
  exact ⟨t.1, t.2, by omega, by omega⟩
theorem fok_bd {f : Nat → Int32} {i : Nat} {v : Int32} {lo hi : Int} (h : FOK f) (b : bl i = lo ∧ bh i = hi ∧ i < 168 ∧ i ≠ 7) (hv : Iv lo hi v) : MKI 2 (upd f i v) := fok_upd h (by rw [b.1, b.2.1]; exact hv) (Or.inl b.2.2.2)
theorem tok_bd {f : Nat → Int32} {i : Nat} {lo hi : Int} (h : TOK f) (b : bl i = lo ∧ bh i = hi ∧ i < 168 ∧ i ≠ 7) : Iv lo hi (f i) := by
  have q := h i b.2.2.1
  rw [b.1, b.2.1] at q
  exact q
theorem wok_of {f g : Nat → Int32} (e : f = g) (h : WOK g) : WOK f := e ▸ h
