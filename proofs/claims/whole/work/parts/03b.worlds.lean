def wC (ad : Nat → Nat) (cy : Nat → ClassId) (S : St) : va_W := [(ad 0, .inr (8, [.ref (ad 1), .ref (ad 3), .ref (ad 25), .ref (ad 34), .ref (ad 43), .ref (ad 44), .ref (ad 46), .ref (ad 51), .ref (ad 58), .int (S.1 0), va_rf ((S.2.2.2 2).map (fun _ => ad 59)), va_rf ((S.2.2.2 3).map (fun _ => ad 81))])),
  (ad 1, .inr (7, [.ref (ad 2), .int (S.1 1), .int (S.1 2), .int (S.1 3)])),
  (ad 2, .inl (cy 2, 240, .inl (S.2.1 2))),
  (ad 3, .inl (cy 4, 7, .inr (.inr (.inr (.inr (fun i => some (ad (4 + 3 * i)))))))),
  (ad 4, .inr (3, [.int (S.1 10), .int (S.1 11), .ref (ad 5), .ref (ad 6)])),
  (ad 5, .inl (cy 0, 123, .inl (S.2.1 5))),
  (ad 6, .inl (cy 0, 9, .inl (S.2.1 6))),
  (ad 7, .inr (3, [.int (S.1 12), .int (S.1 13), .ref (ad 8), .ref (ad 9)])),
  (ad 8, .inl (cy 0, 123, .inl (S.2.1 8))),
  (ad 9, .inl (cy 0, 9, .inl (S.2.1 9))),
  (ad 10, .inr (3, [.int (S.1 14), .int (S.1 15), .ref (ad 11), .ref (ad 12)])),
  (ad 11, .inl (cy 0, 123, .inl (S.2.1 11))),
  (ad 12, .inl (cy 0, 9, .inl (S.2.1 12))),
  (ad 13, .inr (3, [.int (S.1 16), .int (S.1 17), .ref (ad 14), .ref (ad 15)])),
  (ad 14, .inl (cy 0, 123, .inl (S.2.1 14))),
  (ad 15, .inl (cy 0, 9, .inl (S.2.1 15))),
  (ad 16, .inr (3, [.int (S.1 18), .int (S.1 19), .ref (ad 17), .ref (ad 18)])),
  (ad 17, .inl (cy 0, 123, .inl (S.2.1 17))),
  (ad 18, .inl (cy 0, 9, .inl (S.2.1 18))),
  (ad 19, .inr (3, [.int (S.1 20), .int (S.1 21), .ref (ad 20), .ref (ad 21)])),
  (ad 20, .inl (cy 0, 123, .inl (S.2.1 20))),
  (ad 21, .inl (cy 0, 9, .inl (S.2.1 21))),
  (ad 22, .inr (3, [.int (S.1 22), .int (S.1 23), .ref (ad 23), .ref (ad 24)])),
  (ad 23, .inl (cy 0, 123, .inl (S.2.1 23))),
  (ad 24, .inl (cy 0, 9, .inl (S.2.1 24))),
  (ad 25, .inr (4, [.ref (ad 3), .int (S.1 30), .int (S.1 31), .int (S.1 32), .int (S.1 33), .int (S.1 34), .ref (ad 26), .ref (ad 27), .ref (ad 28), .ref (ad 29), .ref (ad 30), .ref (ad 31), .ref (ad 32), .ref (ad 33), .int (S.1 35), .int (S.1 36)])),
  (ad 26, .inl (cy 0, 6, .inl (S.2.1 26))),
  (ad 27, .inl (cy 3, 6, .inl (S.2.1 27))),
  (ad 28, .inl (cy 0, 6, .inl (S.2.1 28))),
  (ad 29, .inl (cy 3, 6, .inl (S.2.1 29))),
  (ad 30, .inl (cy 0, 18, .inl (S.2.1 30))),
  (ad 31, .inl (cy 0, 6, .inl (S.2.1 31))),
  (ad 32, .inl (cy 0, 6, .inl (S.2.1 32))),
  (ad 33, .inl (cy 0, 216, .inl (S.2.1 33))),
  (ad 34, .inr (4, [.ref (ad 3), .int (S.1 40), .int (S.1 41), .int (S.1 42), .int (S.1 43), .int (S.1 44), .ref (ad 35), .ref (ad 36), .ref (ad 37), .ref (ad 38), .ref (ad 39), .ref (ad 40), .ref (ad 41), .ref (ad 42), .int (S.1 45), .int (S.1 46)])),
  (ad 35, .inl (cy 0, 6, .inl (S.2.1 35))),
  (ad 36, .inl (cy 3, 6, .inl (S.2.1 36))),
  (ad 37, .inl (cy 0, 6, .inl (S.2.1 37))),
  (ad 38, .inl (cy 3, 6, .inl (S.2.1 38))),
  (ad 39, .inl (cy 0, 18, .inl (S.2.1 39))),
  (ad 40, .inl (cy 0, 6, .inl (S.2.1 40))),
  (ad 41, .inl (cy 0, 6, .inl (S.2.1 41))),
  (ad 42, .inl (cy 0, 216, .inl (S.2.1 42))),
  (ad 43, .inr (5, [.int (S.1 50), .int (S.1 51), .int (S.1 52), .int (S.1 53), .int (S.1 54), .int (S.1 55), .int (S.1 56), .int (S.1 57)])),
  (ad 44, .inr (0, [.ref (ad 45), .int (S.1 60)])),
  (ad 45, .inl (cy 0, 242, .inl (S.2.1 45))),
  (ad 46, .inr (6, [va_rf ((S.2.2.2 0).map (fun j => ad (4 + 3 * j))), .int (S.1 61), va_rf ((S.2.2.2 1).map (fun _ => ad 44)), .ref (ad 47)])),
  (ad 47, .inl (cy 5, 3, .inr (.inr (.inr (.inr (fun i => some (ad (48 + i)))))))),
  (ad 48, .inl (cy 0, 242, .inl (S.2.1 48))),
  (ad 49, .inl (cy 0, 242, .inl (S.2.1 49))),
  (ad 50, .inl (cy 0, 242, .inl (S.2.1 50))),
  (ad 51, .inl (cy 5, 6, .inr (.inr (.inr (.inr (fun i => some (ad (52 + i)))))))),
  (ad 52, .inl (cy 0, 122, .inl (S.2.1 52))),
  (ad 53, .inl (cy 0, 122, .inl (S.2.1 53))),
  (ad 54, .inl (cy 0, 122, .inl (S.2.1 54))),
  (ad 55, .inl (cy 0, 122, .inl (S.2.1 55))),
  (ad 56, .inl (cy 0, 122, .inl (S.2.1 56))),
  (ad 57, .inl (cy 0, 122, .inl (S.2.1 57))),
  (ad 58, .inl (cy 1, 9, .inr (.inl (S.2.2.1 58))))]
def wF (ad : Nat → Nat) (cy : Nat → ClassId) (F : St) : va_W := [(ad 59, .inr (2, [.int (F.1 62), .int (F.1 63), .ref (ad 60), .ref (ad 70), .ref (ad 71), .int (F.1 64), .int (F.1 65), .ref (ad 76), .ref (ad 77), .ref (ad 78), .ref (ad 79), .ref (ad 80)])),
  (ad 60, .inl (cy 5, 9, .inr (.inr (.inr (.inr (fun i => some (ad (61 + i)))))))),
  (ad 61, .inl (cy 0, 42, .inl (F.2.1 61))),
  (ad 62, .inl (cy 0, 42, .inl (F.2.1 62))),
  (ad 63, .inl (cy 0, 42, .inl (F.2.1 63))),
  (ad 64, .inl (cy 0, 42, .inl (F.2.1 64))),
  (ad 65, .inl (cy 0, 42, .inl (F.2.1 65))),
  (ad 66, .inl (cy 0, 42, .inl (F.2.1 66))),
  (ad 67, .inl (cy 0, 42, .inl (F.2.1 67))),
  (ad 68, .inl (cy 0, 42, .inl (F.2.1 68))),
  (ad 69, .inl (cy 0, 42, .inl (F.2.1 69))),
  (ad 70, .inl (cy 0, 3, .inl (F.2.1 70))),
  (ad 71, .inl (cy 5, 4, .inr (.inr (.inr (.inr (fun i => some (ad (72 + i)))))))),
  (ad 72, .inl (cy 0, 242, .inl (F.2.1 72))),
  (ad 73, .inl (cy 0, 242, .inl (F.2.1 73))),
  (ad 74, .inl (cy 0, 242, .inl (F.2.1 74))),
  (ad 75, .inl (cy 0, 242, .inl (F.2.1 75))),
  (ad 76, .inl (cy 0, 42, .inl (F.2.1 76))),
  (ad 77, .inl (cy 0, 1764, .inl (F.2.1 77))),
  (ad 78, .inl (cy 0, 42, .inl (F.2.1 78))),
  (ad 79, .inl (cy 0, 42, .inl (F.2.1 79))),
  (ad 80, .inl (cy 0, 42, .inl (F.2.1 80)))]
def wP (ad : Nat → Nat) (cy : Nat → ClassId) (P : St) : va_W := [(ad 81, .inr (1, [.int (P.1 70), .int (P.1 71), .int (P.1 72), .int (P.1 73), .int (P.1 74), .int (P.1 75), .int (P.1 76), .int (P.1 77), .ref (ad 82), .ref (ad 83), .ref (ad 84), .ref (ad 85), .ref (ad 86), .ref (ad 87), .ref (ad 88), .ref (ad 89)])),
  (ad 82, .inl (cy 0, 41, .inl (P.2.1 82))),
  (ad 83, .inl (cy 0, 41, .inl (P.2.1 83))),
  (ad 84, .inl (cy 0, 1681, .inl (P.2.1 84))),
  (ad 85, .inl (cy 0, 1681, .inl (P.2.1 85))),
  (ad 86, .inl (cy 0, 1681, .inl (P.2.1 86))),
  (ad 87, .inl (cy 0, 1681, .inl (P.2.1 87))),
  (ad 88, .inl (cy 0, 15129, .inl (P.2.1 88))),
  (ad 89, .inl (cy 0, 41, .inl (P.2.1 89)))]
def wR (ad : Nat → Nat) (cy : Nat → ClassId) (T : St) : va_W := [(ad 0, .inr (9, [.int (T.1 0), .int (T.1 1), .ref (ad 1), .int (T.1 3), .ref (ad 2), .ref (ad 3), .ref (ad 4), .ref (ad 5), .ref (ad 6), .ref (ad 7), .int (T.1 10), .ref (ad 8), .ref (ad 9), .int (T.1 13), .int (T.1 14), .ref (ad 10), .int (T.1 16), .ref (ad 11), .int (T.1 18), .int (T.1 19), .int (T.1 20), .int (T.1 21), .int (T.1 22), .int (T.1 23), .ref (ad 12), .ref (ad 13), .ref (ad 14), .ref (ad 15), .ref (ad 16), .ref (ad 17), .ref (ad 18), .ref (ad 19), .ref (ad 20), .int (T.1 33), .int (T.1 34), .int (T.1 35), .int (T.1 36), .ref (ad 21), .ref (ad 22), .int (T.1 39)])),
  (ad 1, .inl (cy 1, 64, .inr (.inl (T.2.2.1 2)))),
  (ad 2, .inl (cy 0, 6, .inl (T.2.1 4))),
  (ad 3, .inl (cy 0, 6, .inl (T.2.1 5))),
  (ad 4, .inl (cy 0, 18, .inl (T.2.1 6))),
  (ad 5, .inl (cy 0, 108, .inl (T.2.1 7))),
  (ad 6, .inl (cy 0, 108, .inl (T.2.1 8))),
  (ad 7, .inl (cy 0, 54, .inl (T.2.1 9))),
  (ad 8, .inl (cy 0, 63, .inl (T.2.1 11))),
  (ad 9, .inl (cy 0, 63, .inl (T.2.1 12))),
  (ad 10, .inl (cy 0, 240, .inl (T.2.1 15))),
  (ad 11, .inl (cy 0, 240, .inl (T.2.1 17))),
  (ad 12, .inl (cy 0, 3, .inl (T.2.1 24))),
  (ad 13, .inl (cy 0, 18, .inl (T.2.1 25))),
  (ad 14, .inl (cy 0, 18, .inl (T.2.1 26))),
  (ad 15, .inl (cy 0, 9, .inl (T.2.1 27))),
  (ad 16, .inl (cy 0, 122, .inl (T.2.1 28))),
  (ad 17, .inl (cy 0, 122, .inl (T.2.1 29))),
  (ad 18, .inl (cy 0, 121, .inl (T.2.1 30))),
  (ad 19, .inl (cy 0, 484, .inl (T.2.1 31))),
  (ad 20, .inl (cy 0, 28224, .inl (T.2.1 32))),
  (ad 21, .inl (cy 0, 15129, .inl (T.2.1 37))),
  (ad 22, .inl (cy 0, 15129, .inl (T.2.1 38)))]
theorem wC_c0 {ad : Nat → Nat} {cy : Nat → ClassId} {S : St} {X : va_W} : (wC ad cy S ++ X)[0]? = some (ad 0, .inr (8, [.ref (ad 1), .ref (ad 3), .ref (ad 25), .ref (ad 34), .ref (ad 43), .ref (ad 44), .ref (ad 46), .ref (ad 51), .ref (ad 58), .int (S.1 0), va_rf ((S.2.2.2 2).map (fun _ => ad 59)), va_rf ((S.2.2.2 3).map (fun _ => ad 81))])) := rfl
theorem wC_c1 {ad : Nat → Nat} {cy : Nat → ClassId} {S : St} {X : va_W} : (wC ad cy S ++ X)[1]? = some (ad 1, .inr (7, [.ref (ad 2), .int (S.1 1), .int (S.1 2), .int (S.1 3)])) := rfl
theorem wC_c2 {ad : Nat → Nat} {cy : Nat → ClassId} {S : St} {X : va_W} : (wC ad cy S ++ X)[2]? = some (ad 2, .inl (cy 2, 240, .inl (S.2.1 2))) := rfl
theorem wC_c3 {ad : Nat → Nat} {cy : Nat → ClassId} {S : St} {X : va_W} : (wC ad cy S ++ X)[3]? = some (ad 3, .inl (cy 4, 7, .inr (.inr (.inr (.inr (fun i => some (ad (4 + 3 * i)))))))) := rfl
theorem wC_c4 {ad : Nat → Nat} {cy : Nat → ClassId} {S : St} {X : va_W} : (wC ad cy S ++ X)[4]? = some (ad 4, .inr (3, [.int (S.1 10), .int (S.1 11), .ref (ad 5), .ref (ad 6)])) := rfl
theorem wC_c5 {ad : Nat → Nat} {cy : Nat → ClassId} {S : St} {X : va_W} : (wC ad cy S ++ X)[5]? = some (ad 5, .inl (cy 0, 123, .inl (S.2.1 5))) := rfl
theorem wC_c6 {ad : Nat → Nat} {cy : Nat → ClassId} {S : St} {X : va_W} : (wC ad cy S ++ X)[6]? = some (ad 6, .inl (cy 0, 9, .inl (S.2.1 6))) := rfl
theorem wC_c7 {ad : Nat → Nat} {cy : Nat → ClassId} {S : St} {X : va_W} : (wC ad cy S ++ X)[7]? = some (ad 7, .inr (3, [.int (S.1 12), .int (S.1 13), .ref (ad 8), .ref (ad 9)])) := rfl
theorem wC_c8 {ad : Nat → Nat} {cy : Nat → ClassId} {S : St} {X : va_W} : (wC ad cy S ++ X)[8]? = some (ad 8, .inl (cy 0, 123, .inl (S.2.1 8))) := rfl
theorem wC_c9 {ad : Nat → Nat} {cy : Nat → ClassId} {S : St} {X : va_W} : (wC ad cy S ++ X)[9]? = some (ad 9, .inl (cy 0, 9, .inl (S.2.1 9))) := rfl
theorem wC_c10 {ad : Nat → Nat} {cy : Nat → ClassId} {S : St} {X : va_W} : (wC ad cy S ++ X)[10]? = some (ad 10, .inr (3, [.int (S.1 14), .int (S.1 15), .ref (ad 11), .ref (ad 12)])) := rfl
theorem wC_c11 {ad : Nat → Nat} {cy : Nat → ClassId} {S : St} {X : va_W} : (wC ad cy S ++ X)[11]? = some (ad 11, .inl (cy 0, 123, .inl (S.2.1 11))) := rfl
theorem wC_c12 {ad : Nat → Nat} {cy : Nat → ClassId} {S : St} {X : va_W} : (wC ad cy S ++ X)[12]? = some (ad 12, .inl (cy 0, 9, .inl (S.2.1 12))) := rfl
theorem wC_c13 {ad : Nat → Nat} {cy : Nat → ClassId} {S : St} {X : va_W} : (wC ad cy S ++ X)[13]? = some (ad 13, .inr (3, [.int (S.1 16), .int (S.1 17), .ref (ad 14), .ref (ad 15)])) := rfl
theorem wC_c14 {ad : Nat → Nat} {cy : Nat → ClassId} {S : St} {X : va_W} : (wC ad cy S ++ X)[14]? = some (ad 14, .inl (cy 0, 123, .inl (S.2.1 14))) := rfl
theorem wC_c15 {ad : Nat → Nat} {cy : Nat → ClassId} {S : St} {X : va_W} : (wC ad cy S ++ X)[15]? = some (ad 15, .inl (cy 0, 9, .inl (S.2.1 15))) := rfl
theorem wC_c16 {ad : Nat → Nat} {cy : Nat → ClassId} {S : St} {X : va_W} : (wC ad cy S ++ X)[16]? = some (ad 16, .inr (3, [.int (S.1 18), .int (S.1 19), .ref (ad 17), .ref (ad 18)])) := rfl
theorem wC_c17 {ad : Nat → Nat} {cy : Nat → ClassId} {S : St} {X : va_W} : (wC ad cy S ++ X)[17]? = some (ad 17, .inl (cy 0, 123, .inl (S.2.1 17))) := rfl
theorem wC_c18 {ad : Nat → Nat} {cy : Nat → ClassId} {S : St} {X : va_W} : (wC ad cy S ++ X)[18]? = some (ad 18, .inl (cy 0, 9, .inl (S.2.1 18))) := rfl
theorem wC_c19 {ad : Nat → Nat} {cy : Nat → ClassId} {S : St} {X : va_W} : (wC ad cy S ++ X)[19]? = some (ad 19, .inr (3, [.int (S.1 20), .int (S.1 21), .ref (ad 20), .ref (ad 21)])) := rfl
theorem wC_c20 {ad : Nat → Nat} {cy : Nat → ClassId} {S : St} {X : va_W} : (wC ad cy S ++ X)[20]? = some (ad 20, .inl (cy 0, 123, .inl (S.2.1 20))) := rfl
theorem wC_c21 {ad : Nat → Nat} {cy : Nat → ClassId} {S : St} {X : va_W} : (wC ad cy S ++ X)[21]? = some (ad 21, .inl (cy 0, 9, .inl (S.2.1 21))) := rfl
theorem wC_c22 {ad : Nat → Nat} {cy : Nat → ClassId} {S : St} {X : va_W} : (wC ad cy S ++ X)[22]? = some (ad 22, .inr (3, [.int (S.1 22), .int (S.1 23), .ref (ad 23), .ref (ad 24)])) := rfl
theorem wC_c23 {ad : Nat → Nat} {cy : Nat → ClassId} {S : St} {X : va_W} : (wC ad cy S ++ X)[23]? = some (ad 23, .inl (cy 0, 123, .inl (S.2.1 23))) := rfl
theorem wC_c24 {ad : Nat → Nat} {cy : Nat → ClassId} {S : St} {X : va_W} : (wC ad cy S ++ X)[24]? = some (ad 24, .inl (cy 0, 9, .inl (S.2.1 24))) := rfl
theorem wC_c25 {ad : Nat → Nat} {cy : Nat → ClassId} {S : St} {X : va_W} : (wC ad cy S ++ X)[25]? = some (ad 25, .inr (4, [.ref (ad 3), .int (S.1 30), .int (S.1 31), .int (S.1 32), .int (S.1 33), .int (S.1 34), .ref (ad 26), .ref (ad 27), .ref (ad 28), .ref (ad 29), .ref (ad 30), .ref (ad 31), .ref (ad 32), .ref (ad 33), .int (S.1 35), .int (S.1 36)])) := rfl
theorem wC_c26 {ad : Nat → Nat} {cy : Nat → ClassId} {S : St} {X : va_W} : (wC ad cy S ++ X)[26]? = some (ad 26, .inl (cy 0, 6, .inl (S.2.1 26))) := rfl
theorem wC_c27 {ad : Nat → Nat} {cy : Nat → ClassId} {S : St} {X : va_W} : (wC ad cy S ++ X)[27]? = some (ad 27, .inl (cy 3, 6, .inl (S.2.1 27))) := rfl
theorem wC_c28 {ad : Nat → Nat} {cy : Nat → ClassId} {S : St} {X : va_W} : (wC ad cy S ++ X)[28]? = some (ad 28, .inl (cy 0, 6, .inl (S.2.1 28))) := rfl
theorem wC_c29 {ad : Nat → Nat} {cy : Nat → ClassId} {S : St} {X : va_W} : (wC ad cy S ++ X)[29]? = some (ad 29, .inl (cy 3, 6, .inl (S.2.1 29))) := rfl
theorem wC_c30 {ad : Nat → Nat} {cy : Nat → ClassId} {S : St} {X : va_W} : (wC ad cy S ++ X)[30]? = some (ad 30, .inl (cy 0, 18, .inl (S.2.1 30))) := rfl
theorem wC_c31 {ad : Nat → Nat} {cy : Nat → ClassId} {S : St} {X : va_W} : (wC ad cy S ++ X)[31]? = some (ad 31, .inl (cy 0, 6, .inl (S.2.1 31))) := rfl
theorem wC_c32 {ad : Nat → Nat} {cy : Nat → ClassId} {S : St} {X : va_W} : (wC ad cy S ++ X)[32]? = some (ad 32, .inl (cy 0, 6, .inl (S.2.1 32))) := rfl
theorem wC_c33 {ad : Nat → Nat} {cy : Nat → ClassId} {S : St} {X : va_W} : (wC ad cy S ++ X)[33]? = some (ad 33, .inl (cy 0, 216, .inl (S.2.1 33))) := rfl
theorem wC_c34 {ad : Nat → Nat} {cy : Nat → ClassId} {S : St} {X : va_W} : (wC ad cy S ++ X)[34]? = some (ad 34, .inr (4, [.ref (ad 3), .int (S.1 40), .int (S.1 41), .int (S.1 42), .int (S.1 43), .int (S.1 44), .ref (ad 35), .ref (ad 36), .ref (ad 37), .ref (ad 38), .ref (ad 39), .ref (ad 40), .ref (ad 41), .ref (ad 42), .int (S.1 45), .int (S.1 46)])) := rfl
theorem wC_c35 {ad : Nat → Nat} {cy : Nat → ClassId} {S : St} {X : va_W} : (wC ad cy S ++ X)[35]? = some (ad 35, .inl (cy 0, 6, .inl (S.2.1 35))) := rfl
theorem wC_c36 {ad : Nat → Nat} {cy : Nat → ClassId} {S : St} {X : va_W} : (wC ad cy S ++ X)[36]? = some (ad 36, .inl (cy 3, 6, .inl (S.2.1 36))) := rfl
theorem wC_c37 {ad : Nat → Nat} {cy : Nat → ClassId} {S : St} {X : va_W} : (wC ad cy S ++ X)[37]? = some (ad 37, .inl (cy 0, 6, .inl (S.2.1 37))) := rfl
theorem wC_c38 {ad : Nat → Nat} {cy : Nat → ClassId} {S : St} {X : va_W} : (wC ad cy S ++ X)[38]? = some (ad 38, .inl (cy 3, 6, .inl (S.2.1 38))) := rfl
theorem wC_c39 {ad : Nat → Nat} {cy : Nat → ClassId} {S : St} {X : va_W} : (wC ad cy S ++ X)[39]? = some (ad 39, .inl (cy 0, 18, .inl (S.2.1 39))) := rfl
theorem wC_c40 {ad : Nat → Nat} {cy : Nat → ClassId} {S : St} {X : va_W} : (wC ad cy S ++ X)[40]? = some (ad 40, .inl (cy 0, 6, .inl (S.2.1 40))) := rfl
theorem wC_c41 {ad : Nat → Nat} {cy : Nat → ClassId} {S : St} {X : va_W} : (wC ad cy S ++ X)[41]? = some (ad 41, .inl (cy 0, 6, .inl (S.2.1 41))) := rfl
theorem wC_c42 {ad : Nat → Nat} {cy : Nat → ClassId} {S : St} {X : va_W} : (wC ad cy S ++ X)[42]? = some (ad 42, .inl (cy 0, 216, .inl (S.2.1 42))) := rfl
theorem wC_c43 {ad : Nat → Nat} {cy : Nat → ClassId} {S : St} {X : va_W} : (wC ad cy S ++ X)[43]? = some (ad 43, .inr (5, [.int (S.1 50), .int (S.1 51), .int (S.1 52), .int (S.1 53), .int (S.1 54), .int (S.1 55), .int (S.1 56), .int (S.1 57)])) := rfl
theorem wC_c44 {ad : Nat → Nat} {cy : Nat → ClassId} {S : St} {X : va_W} : (wC ad cy S ++ X)[44]? = some (ad 44, .inr (0, [.ref (ad 45), .int (S.1 60)])) := rfl
theorem wC_c45 {ad : Nat → Nat} {cy : Nat → ClassId} {S : St} {X : va_W} : (wC ad cy S ++ X)[45]? = some (ad 45, .inl (cy 0, 242, .inl (S.2.1 45))) := rfl
theorem wC_c46 {ad : Nat → Nat} {cy : Nat → ClassId} {S : St} {X : va_W} : (wC ad cy S ++ X)[46]? = some (ad 46, .inr (6, [va_rf ((S.2.2.2 0).map (fun j => ad (4 + 3 * j))), .int (S.1 61), va_rf ((S.2.2.2 1).map (fun _ => ad 44)), .ref (ad 47)])) := rfl
theorem wC_c47 {ad : Nat → Nat} {cy : Nat → ClassId} {S : St} {X : va_W} : (wC ad cy S ++ X)[47]? = some (ad 47, .inl (cy 5, 3, .inr (.inr (.inr (.inr (fun i => some (ad (48 + i)))))))) := rfl
theorem wC_c48 {ad : Nat → Nat} {cy : Nat → ClassId} {S : St} {X : va_W} : (wC ad cy S ++ X)[48]? = some (ad 48, .inl (cy 0, 242, .inl (S.2.1 48))) := rfl
theorem wC_c49 {ad : Nat → Nat} {cy : Nat → ClassId} {S : St} {X : va_W} : (wC ad cy S ++ X)[49]? = some (ad 49, .inl (cy 0, 242, .inl (S.2.1 49))) := rfl
theorem wC_c50 {ad : Nat → Nat} {cy : Nat → ClassId} {S : St} {X : va_W} : (wC ad cy S ++ X)[50]? = some (ad 50, .inl (cy 0, 242, .inl (S.2.1 50))) := rfl
theorem wC_c51 {ad : Nat → Nat} {cy : Nat → ClassId} {S : St} {X : va_W} : (wC ad cy S ++ X)[51]? = some (ad 51, .inl (cy 5, 6, .inr (.inr (.inr (.inr (fun i => some (ad (52 + i)))))))) := rfl
theorem wC_c52 {ad : Nat → Nat} {cy : Nat → ClassId} {S : St} {X : va_W} : (wC ad cy S ++ X)[52]? = some (ad 52, .inl (cy 0, 122, .inl (S.2.1 52))) := rfl
theorem wC_c53 {ad : Nat → Nat} {cy : Nat → ClassId} {S : St} {X : va_W} : (wC ad cy S ++ X)[53]? = some (ad 53, .inl (cy 0, 122, .inl (S.2.1 53))) := rfl
theorem wC_c54 {ad : Nat → Nat} {cy : Nat → ClassId} {S : St} {X : va_W} : (wC ad cy S ++ X)[54]? = some (ad 54, .inl (cy 0, 122, .inl (S.2.1 54))) := rfl
theorem wC_c55 {ad : Nat → Nat} {cy : Nat → ClassId} {S : St} {X : va_W} : (wC ad cy S ++ X)[55]? = some (ad 55, .inl (cy 0, 122, .inl (S.2.1 55))) := rfl
theorem wC_c56 {ad : Nat → Nat} {cy : Nat → ClassId} {S : St} {X : va_W} : (wC ad cy S ++ X)[56]? = some (ad 56, .inl (cy 0, 122, .inl (S.2.1 56))) := rfl
theorem wC_c57 {ad : Nat → Nat} {cy : Nat → ClassId} {S : St} {X : va_W} : (wC ad cy S ++ X)[57]? = some (ad 57, .inl (cy 0, 122, .inl (S.2.1 57))) := rfl
theorem wC_c58 {ad : Nat → Nat} {cy : Nat → ClassId} {S : St} {X : va_W} : (wC ad cy S ++ X)[58]? = some (ad 58, .inl (cy 1, 9, .inr (.inl (S.2.2.1 58)))) := rfl
theorem wF_c59 {ad : Nat → Nat} {cy : Nat → ClassId} {S F : St} {X : va_W} : (wC ad cy S ++ (wF ad cy F ++ X))[59]? = some (ad 59, .inr (2, [.int (F.1 62), .int (F.1 63), .ref (ad 60), .ref (ad 70), .ref (ad 71), .int (F.1 64), .int (F.1 65), .ref (ad 76), .ref (ad 77), .ref (ad 78), .ref (ad 79), .ref (ad 80)])) := rfl
theorem wF_c60 {ad : Nat → Nat} {cy : Nat → ClassId} {S F : St} {X : va_W} : (wC ad cy S ++ (wF ad cy F ++ X))[60]? = some (ad 60, .inl (cy 5, 9, .inr (.inr (.inr (.inr (fun i => some (ad (61 + i)))))))) := rfl
theorem wF_c61 {ad : Nat → Nat} {cy : Nat → ClassId} {S F : St} {X : va_W} : (wC ad cy S ++ (wF ad cy F ++ X))[61]? = some (ad 61, .inl (cy 0, 42, .inl (F.2.1 61))) := rfl
theorem wF_c62 {ad : Nat → Nat} {cy : Nat → ClassId} {S F : St} {X : va_W} : (wC ad cy S ++ (wF ad cy F ++ X))[62]? = some (ad 62, .inl (cy 0, 42, .inl (F.2.1 62))) := rfl
theorem wF_c63 {ad : Nat → Nat} {cy : Nat → ClassId} {S F : St} {X : va_W} : (wC ad cy S ++ (wF ad cy F ++ X))[63]? = some (ad 63, .inl (cy 0, 42, .inl (F.2.1 63))) := rfl
theorem wF_c64 {ad : Nat → Nat} {cy : Nat → ClassId} {S F : St} {X : va_W} : (wC ad cy S ++ (wF ad cy F ++ X))[64]? = some (ad 64, .inl (cy 0, 42, .inl (F.2.1 64))) := rfl
theorem wF_c65 {ad : Nat → Nat} {cy : Nat → ClassId} {S F : St} {X : va_W} : (wC ad cy S ++ (wF ad cy F ++ X))[65]? = some (ad 65, .inl (cy 0, 42, .inl (F.2.1 65))) := rfl
theorem wF_c66 {ad : Nat → Nat} {cy : Nat → ClassId} {S F : St} {X : va_W} : (wC ad cy S ++ (wF ad cy F ++ X))[66]? = some (ad 66, .inl (cy 0, 42, .inl (F.2.1 66))) := rfl
theorem wF_c67 {ad : Nat → Nat} {cy : Nat → ClassId} {S F : St} {X : va_W} : (wC ad cy S ++ (wF ad cy F ++ X))[67]? = some (ad 67, .inl (cy 0, 42, .inl (F.2.1 67))) := rfl
theorem wF_c68 {ad : Nat → Nat} {cy : Nat → ClassId} {S F : St} {X : va_W} : (wC ad cy S ++ (wF ad cy F ++ X))[68]? = some (ad 68, .inl (cy 0, 42, .inl (F.2.1 68))) := rfl
theorem wF_c69 {ad : Nat → Nat} {cy : Nat → ClassId} {S F : St} {X : va_W} : (wC ad cy S ++ (wF ad cy F ++ X))[69]? = some (ad 69, .inl (cy 0, 42, .inl (F.2.1 69))) := rfl
theorem wF_c70 {ad : Nat → Nat} {cy : Nat → ClassId} {S F : St} {X : va_W} : (wC ad cy S ++ (wF ad cy F ++ X))[70]? = some (ad 70, .inl (cy 0, 3, .inl (F.2.1 70))) := rfl
theorem wF_c71 {ad : Nat → Nat} {cy : Nat → ClassId} {S F : St} {X : va_W} : (wC ad cy S ++ (wF ad cy F ++ X))[71]? = some (ad 71, .inl (cy 5, 4, .inr (.inr (.inr (.inr (fun i => some (ad (72 + i)))))))) := rfl
theorem wF_c72 {ad : Nat → Nat} {cy : Nat → ClassId} {S F : St} {X : va_W} : (wC ad cy S ++ (wF ad cy F ++ X))[72]? = some (ad 72, .inl (cy 0, 242, .inl (F.2.1 72))) := rfl
theorem wF_c73 {ad : Nat → Nat} {cy : Nat → ClassId} {S F : St} {X : va_W} : (wC ad cy S ++ (wF ad cy F ++ X))[73]? = some (ad 73, .inl (cy 0, 242, .inl (F.2.1 73))) := rfl
theorem wF_c74 {ad : Nat → Nat} {cy : Nat → ClassId} {S F : St} {X : va_W} : (wC ad cy S ++ (wF ad cy F ++ X))[74]? = some (ad 74, .inl (cy 0, 242, .inl (F.2.1 74))) := rfl
theorem wF_c75 {ad : Nat → Nat} {cy : Nat → ClassId} {S F : St} {X : va_W} : (wC ad cy S ++ (wF ad cy F ++ X))[75]? = some (ad 75, .inl (cy 0, 242, .inl (F.2.1 75))) := rfl
theorem wF_c76 {ad : Nat → Nat} {cy : Nat → ClassId} {S F : St} {X : va_W} : (wC ad cy S ++ (wF ad cy F ++ X))[76]? = some (ad 76, .inl (cy 0, 42, .inl (F.2.1 76))) := rfl
theorem wF_c77 {ad : Nat → Nat} {cy : Nat → ClassId} {S F : St} {X : va_W} : (wC ad cy S ++ (wF ad cy F ++ X))[77]? = some (ad 77, .inl (cy 0, 1764, .inl (F.2.1 77))) := rfl
theorem wF_c78 {ad : Nat → Nat} {cy : Nat → ClassId} {S F : St} {X : va_W} : (wC ad cy S ++ (wF ad cy F ++ X))[78]? = some (ad 78, .inl (cy 0, 42, .inl (F.2.1 78))) := rfl
theorem wF_c79 {ad : Nat → Nat} {cy : Nat → ClassId} {S F : St} {X : va_W} : (wC ad cy S ++ (wF ad cy F ++ X))[79]? = some (ad 79, .inl (cy 0, 42, .inl (F.2.1 79))) := rfl
theorem wF_c80 {ad : Nat → Nat} {cy : Nat → ClassId} {S F : St} {X : va_W} : (wC ad cy S ++ (wF ad cy F ++ X))[80]? = some (ad 80, .inl (cy 0, 42, .inl (F.2.1 80))) := rfl
theorem wP_c81 {ad : Nat → Nat} {cy : Nat → ClassId} {S P : St} {X : va_W} : (wC ad cy S ++ (wP ad cy P ++ X))[59]? = some (ad 81, .inr (1, [.int (P.1 70), .int (P.1 71), .int (P.1 72), .int (P.1 73), .int (P.1 74), .int (P.1 75), .int (P.1 76), .int (P.1 77), .ref (ad 82), .ref (ad 83), .ref (ad 84), .ref (ad 85), .ref (ad 86), .ref (ad 87), .ref (ad 88), .ref (ad 89)])) := rfl
theorem wP_c82 {ad : Nat → Nat} {cy : Nat → ClassId} {S P : St} {X : va_W} : (wC ad cy S ++ (wP ad cy P ++ X))[60]? = some (ad 82, .inl (cy 0, 41, .inl (P.2.1 82))) := rfl
theorem wP_c83 {ad : Nat → Nat} {cy : Nat → ClassId} {S P : St} {X : va_W} : (wC ad cy S ++ (wP ad cy P ++ X))[61]? = some (ad 83, .inl (cy 0, 41, .inl (P.2.1 83))) := rfl
theorem wP_c84 {ad : Nat → Nat} {cy : Nat → ClassId} {S P : St} {X : va_W} : (wC ad cy S ++ (wP ad cy P ++ X))[62]? = some (ad 84, .inl (cy 0, 1681, .inl (P.2.1 84))) := rfl
theorem wP_c85 {ad : Nat → Nat} {cy : Nat → ClassId} {S P : St} {X : va_W} : (wC ad cy S ++ (wP ad cy P ++ X))[63]? = some (ad 85, .inl (cy 0, 1681, .inl (P.2.1 85))) := rfl
theorem wP_c86 {ad : Nat → Nat} {cy : Nat → ClassId} {S P : St} {X : va_W} : (wC ad cy S ++ (wP ad cy P ++ X))[64]? = some (ad 86, .inl (cy 0, 1681, .inl (P.2.1 86))) := rfl
theorem wP_c87 {ad : Nat → Nat} {cy : Nat → ClassId} {S P : St} {X : va_W} : (wC ad cy S ++ (wP ad cy P ++ X))[65]? = some (ad 87, .inl (cy 0, 1681, .inl (P.2.1 87))) := rfl
theorem wP_c88 {ad : Nat → Nat} {cy : Nat → ClassId} {S P : St} {X : va_W} : (wC ad cy S ++ (wP ad cy P ++ X))[66]? = some (ad 88, .inl (cy 0, 15129, .inl (P.2.1 88))) := rfl
theorem wP_c89 {ad : Nat → Nat} {cy : Nat → ClassId} {S P : St} {X : va_W} : (wC ad cy S ++ (wP ad cy P ++ X))[67]? = some (ad 89, .inl (cy 0, 41, .inl (P.2.1 89))) := rfl
theorem wR_c0 {ad : Nat → Nat} {cy : Nat → ClassId} {T : St} {X : va_W} : (wR ad cy T ++ X)[0]? = some (ad 0, .inr (9, [.int (T.1 0), .int (T.1 1), .ref (ad 1), .int (T.1 3), .ref (ad 2), .ref (ad 3), .ref (ad 4), .ref (ad 5), .ref (ad 6), .ref (ad 7), .int (T.1 10), .ref (ad 8), .ref (ad 9), .int (T.1 13), .int (T.1 14), .ref (ad 10), .int (T.1 16), .ref (ad 11), .int (T.1 18), .int (T.1 19), .int (T.1 20), .int (T.1 21), .int (T.1 22), .int (T.1 23), .ref (ad 12), .ref (ad 13), .ref (ad 14), .ref (ad 15), .ref (ad 16), .ref (ad 17), .ref (ad 18), .ref (ad 19), .ref (ad 20), .int (T.1 33), .int (T.1 34), .int (T.1 35), .int (T.1 36), .ref (ad 21), .ref (ad 22), .int (T.1 39)])) := rfl
theorem wR_c1 {ad : Nat → Nat} {cy : Nat → ClassId} {T : St} {X : va_W} : (wR ad cy T ++ X)[1]? = some (ad 1, .inl (cy 1, 64, .inr (.inl (T.2.2.1 2)))) := rfl
theorem wR_c2 {ad : Nat → Nat} {cy : Nat → ClassId} {T : St} {X : va_W} : (wR ad cy T ++ X)[2]? = some (ad 2, .inl (cy 0, 6, .inl (T.2.1 4))) := rfl
theorem wR_c3 {ad : Nat → Nat} {cy : Nat → ClassId} {T : St} {X : va_W} : (wR ad cy T ++ X)[3]? = some (ad 3, .inl (cy 0, 6, .inl (T.2.1 5))) := rfl
theorem wR_c4 {ad : Nat → Nat} {cy : Nat → ClassId} {T : St} {X : va_W} : (wR ad cy T ++ X)[4]? = some (ad 4, .inl (cy 0, 18, .inl (T.2.1 6))) := rfl
theorem wR_c5 {ad : Nat → Nat} {cy : Nat → ClassId} {T : St} {X : va_W} : (wR ad cy T ++ X)[5]? = some (ad 5, .inl (cy 0, 108, .inl (T.2.1 7))) := rfl
theorem wR_c6 {ad : Nat → Nat} {cy : Nat → ClassId} {T : St} {X : va_W} : (wR ad cy T ++ X)[6]? = some (ad 6, .inl (cy 0, 108, .inl (T.2.1 8))) := rfl
theorem wR_c7 {ad : Nat → Nat} {cy : Nat → ClassId} {T : St} {X : va_W} : (wR ad cy T ++ X)[7]? = some (ad 7, .inl (cy 0, 54, .inl (T.2.1 9))) := rfl
theorem wR_c8 {ad : Nat → Nat} {cy : Nat → ClassId} {T : St} {X : va_W} : (wR ad cy T ++ X)[8]? = some (ad 8, .inl (cy 0, 63, .inl (T.2.1 11))) := rfl
theorem wR_c9 {ad : Nat → Nat} {cy : Nat → ClassId} {T : St} {X : va_W} : (wR ad cy T ++ X)[9]? = some (ad 9, .inl (cy 0, 63, .inl (T.2.1 12))) := rfl
theorem wR_c10 {ad : Nat → Nat} {cy : Nat → ClassId} {T : St} {X : va_W} : (wR ad cy T ++ X)[10]? = some (ad 10, .inl (cy 0, 240, .inl (T.2.1 15))) := rfl
theorem wR_c11 {ad : Nat → Nat} {cy : Nat → ClassId} {T : St} {X : va_W} : (wR ad cy T ++ X)[11]? = some (ad 11, .inl (cy 0, 240, .inl (T.2.1 17))) := rfl
theorem wR_c12 {ad : Nat → Nat} {cy : Nat → ClassId} {T : St} {X : va_W} : (wR ad cy T ++ X)[12]? = some (ad 12, .inl (cy 0, 3, .inl (T.2.1 24))) := rfl
theorem wR_c13 {ad : Nat → Nat} {cy : Nat → ClassId} {T : St} {X : va_W} : (wR ad cy T ++ X)[13]? = some (ad 13, .inl (cy 0, 18, .inl (T.2.1 25))) := rfl
theorem wR_c14 {ad : Nat → Nat} {cy : Nat → ClassId} {T : St} {X : va_W} : (wR ad cy T ++ X)[14]? = some (ad 14, .inl (cy 0, 18, .inl (T.2.1 26))) := rfl
theorem wR_c15 {ad : Nat → Nat} {cy : Nat → ClassId} {T : St} {X : va_W} : (wR ad cy T ++ X)[15]? = some (ad 15, .inl (cy 0, 9, .inl (T.2.1 27))) := rfl
theorem wR_c16 {ad : Nat → Nat} {cy : Nat → ClassId} {T : St} {X : va_W} : (wR ad cy T ++ X)[16]? = some (ad 16, .inl (cy 0, 122, .inl (T.2.1 28))) := rfl
theorem wR_c17 {ad : Nat → Nat} {cy : Nat → ClassId} {T : St} {X : va_W} : (wR ad cy T ++ X)[17]? = some (ad 17, .inl (cy 0, 122, .inl (T.2.1 29))) := rfl
theorem wR_c18 {ad : Nat → Nat} {cy : Nat → ClassId} {T : St} {X : va_W} : (wR ad cy T ++ X)[18]? = some (ad 18, .inl (cy 0, 121, .inl (T.2.1 30))) := rfl
theorem wR_c19 {ad : Nat → Nat} {cy : Nat → ClassId} {T : St} {X : va_W} : (wR ad cy T ++ X)[19]? = some (ad 19, .inl (cy 0, 484, .inl (T.2.1 31))) := rfl
theorem wR_c20 {ad : Nat → Nat} {cy : Nat → ClassId} {T : St} {X : va_W} : (wR ad cy T ++ X)[20]? = some (ad 20, .inl (cy 0, 28224, .inl (T.2.1 32))) := rfl
theorem wR_c21 {ad : Nat → Nat} {cy : Nat → ClassId} {T : St} {X : va_W} : (wR ad cy T ++ X)[21]? = some (ad 21, .inl (cy 0, 15129, .inl (T.2.1 37))) := rfl
theorem wR_c22 {ad : Nat → Nat} {cy : Nat → ClassId} {T : St} {X : va_W} : (wR ad cy T ++ X)[22]? = some (ad 22, .inl (cy 0, 15129, .inl (T.2.1 38))) := rfl
theorem wC_s0_9 {ad : Nat → Nat} {cy : Nat → ClassId} {S : St} {X : va_W} {v : Int32} : (wC ad cy S ++ X).set 0 (ad 0, .inr (8, [.ref (ad 1), .ref (ad 3), .ref (ad 25), .ref (ad 34), .ref (ad 43), .ref (ad 44), .ref (ad 46), .ref (ad 51), .ref (ad 58), .int (S.1 0), va_rf ((S.2.2.2 2).map (fun _ => ad 59)), va_rf ((S.2.2.2 3).map (fun _ => ad 81))].set 9 (.int v))) = wC ad cy (sI S 0 v) ++ X := rfl
theorem wC_r0_10 {ad : Nat → Nat} {cy : Nat → ClassId} {S : St} {X : va_W} {j : Nat} : (wC ad cy S ++ X).set 0 (ad 0, .inr (8, [.ref (ad 1), .ref (ad 3), .ref (ad 25), .ref (ad 34), .ref (ad 43), .ref (ad 44), .ref (ad 46), .ref (ad 51), .ref (ad 58), .int (S.1 0), va_rf ((S.2.2.2 2).map (fun _ => ad 59)), va_rf ((S.2.2.2 3).map (fun _ => ad 81))].set 10 (va_rf ((some j).map (fun _ => ad 59))))) = wC ad cy (sR S 2 (some j)) ++ X := rfl
theorem wC_r0_11 {ad : Nat → Nat} {cy : Nat → ClassId} {S : St} {X : va_W} {j : Nat} : (wC ad cy S ++ X).set 0 (ad 0, .inr (8, [.ref (ad 1), .ref (ad 3), .ref (ad 25), .ref (ad 34), .ref (ad 43), .ref (ad 44), .ref (ad 46), .ref (ad 51), .ref (ad 58), .int (S.1 0), va_rf ((S.2.2.2 2).map (fun _ => ad 59)), va_rf ((S.2.2.2 3).map (fun _ => ad 81))].set 11 (va_rf ((some j).map (fun _ => ad 81))))) = wC ad cy (sR S 3 (some j)) ++ X := rfl
theorem wC_s1_1 {ad : Nat → Nat} {cy : Nat → ClassId} {S : St} {X : va_W} {v : Int32} : (wC ad cy S ++ X).set 1 (ad 1, .inr (7, [.ref (ad 2), .int (S.1 1), .int (S.1 2), .int (S.1 3)].set 1 (.int v))) = wC ad cy (sI S 1 v) ++ X := rfl
theorem wC_s1_2 {ad : Nat → Nat} {cy : Nat → ClassId} {S : St} {X : va_W} {v : Int32} : (wC ad cy S ++ X).set 1 (ad 1, .inr (7, [.ref (ad 2), .int (S.1 1), .int (S.1 2), .int (S.1 3)].set 2 (.int v))) = wC ad cy (sI S 2 v) ++ X := rfl
theorem wC_s1_3 {ad : Nat → Nat} {cy : Nat → ClassId} {S : St} {X : va_W} {v : Int32} : (wC ad cy S ++ X).set 1 (ad 1, .inr (7, [.ref (ad 2), .int (S.1 1), .int (S.1 2), .int (S.1 3)].set 3 (.int v))) = wC ad cy (sI S 3 v) ++ X := rfl
theorem wC_s25_1 {ad : Nat → Nat} {cy : Nat → ClassId} {S : St} {X : va_W} {v : Int32} : (wC ad cy S ++ X).set 25 (ad 25, .inr (4, [.ref (ad 3), .int (S.1 30), .int (S.1 31), .int (S.1 32), .int (S.1 33), .int (S.1 34), .ref (ad 26), .ref (ad 27), .ref (ad 28), .ref (ad 29), .ref (ad 30), .ref (ad 31), .ref (ad 32), .ref (ad 33), .int (S.1 35), .int (S.1 36)].set 1 (.int v))) = wC ad cy (sI S 30 v) ++ X := rfl
theorem wC_s25_2 {ad : Nat → Nat} {cy : Nat → ClassId} {S : St} {X : va_W} {v : Int32} : (wC ad cy S ++ X).set 25 (ad 25, .inr (4, [.ref (ad 3), .int (S.1 30), .int (S.1 31), .int (S.1 32), .int (S.1 33), .int (S.1 34), .ref (ad 26), .ref (ad 27), .ref (ad 28), .ref (ad 29), .ref (ad 30), .ref (ad 31), .ref (ad 32), .ref (ad 33), .int (S.1 35), .int (S.1 36)].set 2 (.int v))) = wC ad cy (sI S 31 v) ++ X := rfl
theorem wC_s25_3 {ad : Nat → Nat} {cy : Nat → ClassId} {S : St} {X : va_W} {v : Int32} : (wC ad cy S ++ X).set 25 (ad 25, .inr (4, [.ref (ad 3), .int (S.1 30), .int (S.1 31), .int (S.1 32), .int (S.1 33), .int (S.1 34), .ref (ad 26), .ref (ad 27), .ref (ad 28), .ref (ad 29), .ref (ad 30), .ref (ad 31), .ref (ad 32), .ref (ad 33), .int (S.1 35), .int (S.1 36)].set 3 (.int v))) = wC ad cy (sI S 32 v) ++ X := rfl
theorem wC_s25_4 {ad : Nat → Nat} {cy : Nat → ClassId} {S : St} {X : va_W} {v : Int32} : (wC ad cy S ++ X).set 25 (ad 25, .inr (4, [.ref (ad 3), .int (S.1 30), .int (S.1 31), .int (S.1 32), .int (S.1 33), .int (S.1 34), .ref (ad 26), .ref (ad 27), .ref (ad 28), .ref (ad 29), .ref (ad 30), .ref (ad 31), .ref (ad 32), .ref (ad 33), .int (S.1 35), .int (S.1 36)].set 4 (.int v))) = wC ad cy (sI S 33 v) ++ X := rfl
theorem wC_s25_5 {ad : Nat → Nat} {cy : Nat → ClassId} {S : St} {X : va_W} {v : Int32} : (wC ad cy S ++ X).set 25 (ad 25, .inr (4, [.ref (ad 3), .int (S.1 30), .int (S.1 31), .int (S.1 32), .int (S.1 33), .int (S.1 34), .ref (ad 26), .ref (ad 27), .ref (ad 28), .ref (ad 29), .ref (ad 30), .ref (ad 31), .ref (ad 32), .ref (ad 33), .int (S.1 35), .int (S.1 36)].set 5 (.int v))) = wC ad cy (sI S 34 v) ++ X := rfl
theorem wC_s25_14 {ad : Nat → Nat} {cy : Nat → ClassId} {S : St} {X : va_W} {v : Int32} : (wC ad cy S ++ X).set 25 (ad 25, .inr (4, [.ref (ad 3), .int (S.1 30), .int (S.1 31), .int (S.1 32), .int (S.1 33), .int (S.1 34), .ref (ad 26), .ref (ad 27), .ref (ad 28), .ref (ad 29), .ref (ad 30), .ref (ad 31), .ref (ad 32), .ref (ad 33), .int (S.1 35), .int (S.1 36)].set 14 (.int v))) = wC ad cy (sI S 35 v) ++ X := rfl
theorem wC_s25_15 {ad : Nat → Nat} {cy : Nat → ClassId} {S : St} {X : va_W} {v : Int32} : (wC ad cy S ++ X).set 25 (ad 25, .inr (4, [.ref (ad 3), .int (S.1 30), .int (S.1 31), .int (S.1 32), .int (S.1 33), .int (S.1 34), .ref (ad 26), .ref (ad 27), .ref (ad 28), .ref (ad 29), .ref (ad 30), .ref (ad 31), .ref (ad 32), .ref (ad 33), .int (S.1 35), .int (S.1 36)].set 15 (.int v))) = wC ad cy (sI S 36 v) ++ X := rfl
theorem wC_s34_1 {ad : Nat → Nat} {cy : Nat → ClassId} {S : St} {X : va_W} {v : Int32} : (wC ad cy S ++ X).set 34 (ad 34, .inr (4, [.ref (ad 3), .int (S.1 40), .int (S.1 41), .int (S.1 42), .int (S.1 43), .int (S.1 44), .ref (ad 35), .ref (ad 36), .ref (ad 37), .ref (ad 38), .ref (ad 39), .ref (ad 40), .ref (ad 41), .ref (ad 42), .int (S.1 45), .int (S.1 46)].set 1 (.int v))) = wC ad cy (sI S 40 v) ++ X := rfl
theorem wC_s34_2 {ad : Nat → Nat} {cy : Nat → ClassId} {S : St} {X : va_W} {v : Int32} : (wC ad cy S ++ X).set 34 (ad 34, .inr (4, [.ref (ad 3), .int (S.1 40), .int (S.1 41), .int (S.1 42), .int (S.1 43), .int (S.1 44), .ref (ad 35), .ref (ad 36), .ref (ad 37), .ref (ad 38), .ref (ad 39), .ref (ad 40), .ref (ad 41), .ref (ad 42), .int (S.1 45), .int (S.1 46)].set 2 (.int v))) = wC ad cy (sI S 41 v) ++ X := rfl
theorem wC_s34_3 {ad : Nat → Nat} {cy : Nat → ClassId} {S : St} {X : va_W} {v : Int32} : (wC ad cy S ++ X).set 34 (ad 34, .inr (4, [.ref (ad 3), .int (S.1 40), .int (S.1 41), .int (S.1 42), .int (S.1 43), .int (S.1 44), .ref (ad 35), .ref (ad 36), .ref (ad 37), .ref (ad 38), .ref (ad 39), .ref (ad 40), .ref (ad 41), .ref (ad 42), .int (S.1 45), .int (S.1 46)].set 3 (.int v))) = wC ad cy (sI S 42 v) ++ X := rfl
theorem wC_s34_4 {ad : Nat → Nat} {cy : Nat → ClassId} {S : St} {X : va_W} {v : Int32} : (wC ad cy S ++ X).set 34 (ad 34, .inr (4, [.ref (ad 3), .int (S.1 40), .int (S.1 41), .int (S.1 42), .int (S.1 43), .int (S.1 44), .ref (ad 35), .ref (ad 36), .ref (ad 37), .ref (ad 38), .ref (ad 39), .ref (ad 40), .ref (ad 41), .ref (ad 42), .int (S.1 45), .int (S.1 46)].set 4 (.int v))) = wC ad cy (sI S 43 v) ++ X := rfl
theorem wC_s34_5 {ad : Nat → Nat} {cy : Nat → ClassId} {S : St} {X : va_W} {v : Int32} : (wC ad cy S ++ X).set 34 (ad 34, .inr (4, [.ref (ad 3), .int (S.1 40), .int (S.1 41), .int (S.1 42), .int (S.1 43), .int (S.1 44), .ref (ad 35), .ref (ad 36), .ref (ad 37), .ref (ad 38), .ref (ad 39), .ref (ad 40), .ref (ad 41), .ref (ad 42), .int (S.1 45), .int (S.1 46)].set 5 (.int v))) = wC ad cy (sI S 44 v) ++ X := rfl
theorem wC_s34_14 {ad : Nat → Nat} {cy : Nat → ClassId} {S : St} {X : va_W} {v : Int32} : (wC ad cy S ++ X).set 34 (ad 34, .inr (4, [.ref (ad 3), .int (S.1 40), .int (S.1 41), .int (S.1 42), .int (S.1 43), .int (S.1 44), .ref (ad 35), .ref (ad 36), .ref (ad 37), .ref (ad 38), .ref (ad 39), .ref (ad 40), .ref (ad 41), .ref (ad 42), .int (S.1 45), .int (S.1 46)].set 14 (.int v))) = wC ad cy (sI S 45 v) ++ X := rfl
theorem wC_s34_15 {ad : Nat → Nat} {cy : Nat → ClassId} {S : St} {X : va_W} {v : Int32} : (wC ad cy S ++ X).set 34 (ad 34, .inr (4, [.ref (ad 3), .int (S.1 40), .int (S.1 41), .int (S.1 42), .int (S.1 43), .int (S.1 44), .ref (ad 35), .ref (ad 36), .ref (ad 37), .ref (ad 38), .ref (ad 39), .ref (ad 40), .ref (ad 41), .ref (ad 42), .int (S.1 45), .int (S.1 46)].set 15 (.int v))) = wC ad cy (sI S 46 v) ++ X := rfl
theorem wC_s43_0 {ad : Nat → Nat} {cy : Nat → ClassId} {S : St} {X : va_W} {v : Int32} : (wC ad cy S ++ X).set 43 (ad 43, .inr (5, [.int (S.1 50), .int (S.1 51), .int (S.1 52), .int (S.1 53), .int (S.1 54), .int (S.1 55), .int (S.1 56), .int (S.1 57)].set 0 (.int v))) = wC ad cy (sI S 50 v) ++ X := rfl
theorem wC_s43_1 {ad : Nat → Nat} {cy : Nat → ClassId} {S : St} {X : va_W} {v : Int32} : (wC ad cy S ++ X).set 43 (ad 43, .inr (5, [.int (S.1 50), .int (S.1 51), .int (S.1 52), .int (S.1 53), .int (S.1 54), .int (S.1 55), .int (S.1 56), .int (S.1 57)].set 1 (.int v))) = wC ad cy (sI S 51 v) ++ X := rfl
theorem wC_s43_2 {ad : Nat → Nat} {cy : Nat → ClassId} {S : St} {X : va_W} {v : Int32} : (wC ad cy S ++ X).set 43 (ad 43, .inr (5, [.int (S.1 50), .int (S.1 51), .int (S.1 52), .int (S.1 53), .int (S.1 54), .int (S.1 55), .int (S.1 56), .int (S.1 57)].set 2 (.int v))) = wC ad cy (sI S 52 v) ++ X := rfl
theorem wC_s43_3 {ad : Nat → Nat} {cy : Nat → ClassId} {S : St} {X : va_W} {v : Int32} : (wC ad cy S ++ X).set 43 (ad 43, .inr (5, [.int (S.1 50), .int (S.1 51), .int (S.1 52), .int (S.1 53), .int (S.1 54), .int (S.1 55), .int (S.1 56), .int (S.1 57)].set 3 (.int v))) = wC ad cy (sI S 53 v) ++ X := rfl
theorem wC_s43_4 {ad : Nat → Nat} {cy : Nat → ClassId} {S : St} {X : va_W} {v : Int32} : (wC ad cy S ++ X).set 43 (ad 43, .inr (5, [.int (S.1 50), .int (S.1 51), .int (S.1 52), .int (S.1 53), .int (S.1 54), .int (S.1 55), .int (S.1 56), .int (S.1 57)].set 4 (.int v))) = wC ad cy (sI S 54 v) ++ X := rfl
theorem wC_s43_5 {ad : Nat → Nat} {cy : Nat → ClassId} {S : St} {X : va_W} {v : Int32} : (wC ad cy S ++ X).set 43 (ad 43, .inr (5, [.int (S.1 50), .int (S.1 51), .int (S.1 52), .int (S.1 53), .int (S.1 54), .int (S.1 55), .int (S.1 56), .int (S.1 57)].set 5 (.int v))) = wC ad cy (sI S 55 v) ++ X := rfl
theorem wC_s43_6 {ad : Nat → Nat} {cy : Nat → ClassId} {S : St} {X : va_W} {v : Int32} : (wC ad cy S ++ X).set 43 (ad 43, .inr (5, [.int (S.1 50), .int (S.1 51), .int (S.1 52), .int (S.1 53), .int (S.1 54), .int (S.1 55), .int (S.1 56), .int (S.1 57)].set 6 (.int v))) = wC ad cy (sI S 56 v) ++ X := rfl
theorem wC_s43_7 {ad : Nat → Nat} {cy : Nat → ClassId} {S : St} {X : va_W} {v : Int32} : (wC ad cy S ++ X).set 43 (ad 43, .inr (5, [.int (S.1 50), .int (S.1 51), .int (S.1 52), .int (S.1 53), .int (S.1 54), .int (S.1 55), .int (S.1 56), .int (S.1 57)].set 7 (.int v))) = wC ad cy (sI S 57 v) ++ X := rfl
theorem wC_s44_1 {ad : Nat → Nat} {cy : Nat → ClassId} {S : St} {X : va_W} {v : Int32} : (wC ad cy S ++ X).set 44 (ad 44, .inr (0, [.ref (ad 45), .int (S.1 60)].set 1 (.int v))) = wC ad cy (sI S 60 v) ++ X := rfl
theorem wC_r46_0 {ad : Nat → Nat} {cy : Nat → ClassId} {S : St} {X : va_W} {j : Nat} : (wC ad cy S ++ X).set 46 (ad 46, .inr (6, [va_rf ((S.2.2.2 0).map (fun j => ad (4 + 3 * j))), .int (S.1 61), va_rf ((S.2.2.2 1).map (fun _ => ad 44)), .ref (ad 47)].set 0 (va_rf ((some j).map (fun j => ad (4 + 3 * j)))))) = wC ad cy (sR S 0 (some j)) ++ X := rfl
theorem wC_s46_1 {ad : Nat → Nat} {cy : Nat → ClassId} {S : St} {X : va_W} {v : Int32} : (wC ad cy S ++ X).set 46 (ad 46, .inr (6, [va_rf ((S.2.2.2 0).map (fun j => ad (4 + 3 * j))), .int (S.1 61), va_rf ((S.2.2.2 1).map (fun _ => ad 44)), .ref (ad 47)].set 1 (.int v))) = wC ad cy (sI S 61 v) ++ X := rfl
theorem wC_r46_2 {ad : Nat → Nat} {cy : Nat → ClassId} {S : St} {X : va_W} {j : Nat} : (wC ad cy S ++ X).set 46 (ad 46, .inr (6, [va_rf ((S.2.2.2 0).map (fun j => ad (4 + 3 * j))), .int (S.1 61), va_rf ((S.2.2.2 1).map (fun _ => ad 44)), .ref (ad 47)].set 2 (va_rf ((some j).map (fun _ => ad 44))))) = wC ad cy (sR S 1 (some j)) ++ X := rfl
theorem wF_s59_0 {ad : Nat → Nat} {cy : Nat → ClassId} {S F : St} {X : va_W} {v : Int32} : (wC ad cy S ++ (wF ad cy F ++ X)).set 59 (ad 59, .inr (2, [.int (F.1 62), .int (F.1 63), .ref (ad 60), .ref (ad 70), .ref (ad 71), .int (F.1 64), .int (F.1 65), .ref (ad 76), .ref (ad 77), .ref (ad 78), .ref (ad 79), .ref (ad 80)].set 0 (.int v))) = wC ad cy S ++ (wF ad cy (sI F 62 v) ++ X) := rfl
theorem wF_s59_1 {ad : Nat → Nat} {cy : Nat → ClassId} {S F : St} {X : va_W} {v : Int32} : (wC ad cy S ++ (wF ad cy F ++ X)).set 59 (ad 59, .inr (2, [.int (F.1 62), .int (F.1 63), .ref (ad 60), .ref (ad 70), .ref (ad 71), .int (F.1 64), .int (F.1 65), .ref (ad 76), .ref (ad 77), .ref (ad 78), .ref (ad 79), .ref (ad 80)].set 1 (.int v))) = wC ad cy S ++ (wF ad cy (sI F 63 v) ++ X) := rfl
theorem wF_s59_5 {ad : Nat → Nat} {cy : Nat → ClassId} {S F : St} {X : va_W} {v : Int32} : (wC ad cy S ++ (wF ad cy F ++ X)).set 59 (ad 59, .inr (2, [.int (F.1 62), .int (F.1 63), .ref (ad 60), .ref (ad 70), .ref (ad 71), .int (F.1 64), .int (F.1 65), .ref (ad 76), .ref (ad 77), .ref (ad 78), .ref (ad 79), .ref (ad 80)].set 5 (.int v))) = wC ad cy S ++ (wF ad cy (sI F 64 v) ++ X) := rfl
theorem wF_s59_6 {ad : Nat → Nat} {cy : Nat → ClassId} {S F : St} {X : va_W} {v : Int32} : (wC ad cy S ++ (wF ad cy F ++ X)).set 59 (ad 59, .inr (2, [.int (F.1 62), .int (F.1 63), .ref (ad 60), .ref (ad 70), .ref (ad 71), .int (F.1 64), .int (F.1 65), .ref (ad 76), .ref (ad 77), .ref (ad 78), .ref (ad 79), .ref (ad 80)].set 6 (.int v))) = wC ad cy S ++ (wF ad cy (sI F 65 v) ++ X) := rfl
theorem wP_s81_0 {ad : Nat → Nat} {cy : Nat → ClassId} {S P : St} {X : va_W} {v : Int32} : (wC ad cy S ++ (wP ad cy P ++ X)).set 59 (ad 81, .inr (1, [.int (P.1 70), .int (P.1 71), .int (P.1 72), .int (P.1 73), .int (P.1 74), .int (P.1 75), .int (P.1 76), .int (P.1 77), .ref (ad 82), .ref (ad 83), .ref (ad 84), .ref (ad 85), .ref (ad 86), .ref (ad 87), .ref (ad 88), .ref (ad 89)].set 0 (.int v))) = wC ad cy S ++ (wP ad cy (sI P 70 v) ++ X) := rfl
theorem wP_s81_1 {ad : Nat → Nat} {cy : Nat → ClassId} {S P : St} {X : va_W} {v : Int32} : (wC ad cy S ++ (wP ad cy P ++ X)).set 59 (ad 81, .inr (1, [.int (P.1 70), .int (P.1 71), .int (P.1 72), .int (P.1 73), .int (P.1 74), .int (P.1 75), .int (P.1 76), .int (P.1 77), .ref (ad 82), .ref (ad 83), .ref (ad 84), .ref (ad 85), .ref (ad 86), .ref (ad 87), .ref (ad 88), .ref (ad 89)].set 1 (.int v))) = wC ad cy S ++ (wP ad cy (sI P 71 v) ++ X) := rfl
theorem wP_s81_2 {ad : Nat → Nat} {cy : Nat → ClassId} {S P : St} {X : va_W} {v : Int32} : (wC ad cy S ++ (wP ad cy P ++ X)).set 59 (ad 81, .inr (1, [.int (P.1 70), .int (P.1 71), .int (P.1 72), .int (P.1 73), .int (P.1 74), .int (P.1 75), .int (P.1 76), .int (P.1 77), .ref (ad 82), .ref (ad 83), .ref (ad 84), .ref (ad 85), .ref (ad 86), .ref (ad 87), .ref (ad 88), .ref (ad 89)].set 2 (.int v))) = wC ad cy S ++ (wP ad cy (sI P 72 v) ++ X) := rfl
theorem wP_s81_3 {ad : Nat → Nat} {cy : Nat → ClassId} {S P : St} {X : va_W} {v : Int32} : (wC ad cy S ++ (wP ad cy P ++ X)).set 59 (ad 81, .inr (1, [.int (P.1 70), .int (P.1 71), .int (P.1 72), .int (P.1 73), .int (P.1 74), .int (P.1 75), .int (P.1 76), .int (P.1 77), .ref (ad 82), .ref (ad 83), .ref (ad 84), .ref (ad 85), .ref (ad 86), .ref (ad 87), .ref (ad 88), .ref (ad 89)].set 3 (.int v))) = wC ad cy S ++ (wP ad cy (sI P 73 v) ++ X) := rfl
theorem wP_s81_4 {ad : Nat → Nat} {cy : Nat → ClassId} {S P : St} {X : va_W} {v : Int32} : (wC ad cy S ++ (wP ad cy P ++ X)).set 59 (ad 81, .inr (1, [.int (P.1 70), .int (P.1 71), .int (P.1 72), .int (P.1 73), .int (P.1 74), .int (P.1 75), .int (P.1 76), .int (P.1 77), .ref (ad 82), .ref (ad 83), .ref (ad 84), .ref (ad 85), .ref (ad 86), .ref (ad 87), .ref (ad 88), .ref (ad 89)].set 4 (.int v))) = wC ad cy S ++ (wP ad cy (sI P 74 v) ++ X) := rfl
theorem wP_s81_5 {ad : Nat → Nat} {cy : Nat → ClassId} {S P : St} {X : va_W} {v : Int32} : (wC ad cy S ++ (wP ad cy P ++ X)).set 59 (ad 81, .inr (1, [.int (P.1 70), .int (P.1 71), .int (P.1 72), .int (P.1 73), .int (P.1 74), .int (P.1 75), .int (P.1 76), .int (P.1 77), .ref (ad 82), .ref (ad 83), .ref (ad 84), .ref (ad 85), .ref (ad 86), .ref (ad 87), .ref (ad 88), .ref (ad 89)].set 5 (.int v))) = wC ad cy S ++ (wP ad cy (sI P 75 v) ++ X) := rfl
theorem wP_s81_6 {ad : Nat → Nat} {cy : Nat → ClassId} {S P : St} {X : va_W} {v : Int32} : (wC ad cy S ++ (wP ad cy P ++ X)).set 59 (ad 81, .inr (1, [.int (P.1 70), .int (P.1 71), .int (P.1 72), .int (P.1 73), .int (P.1 74), .int (P.1 75), .int (P.1 76), .int (P.1 77), .ref (ad 82), .ref (ad 83), .ref (ad 84), .ref (ad 85), .ref (ad 86), .ref (ad 87), .ref (ad 88), .ref (ad 89)].set 6 (.int v))) = wC ad cy S ++ (wP ad cy (sI P 76 v) ++ X) := rfl
theorem wP_s81_7 {ad : Nat → Nat} {cy : Nat → ClassId} {S P : St} {X : va_W} {v : Int32} : (wC ad cy S ++ (wP ad cy P ++ X)).set 59 (ad 81, .inr (1, [.int (P.1 70), .int (P.1 71), .int (P.1 72), .int (P.1 73), .int (P.1 74), .int (P.1 75), .int (P.1 76), .int (P.1 77), .ref (ad 82), .ref (ad 83), .ref (ad 84), .ref (ad 85), .ref (ad 86), .ref (ad 87), .ref (ad 88), .ref (ad 89)].set 7 (.int v))) = wC ad cy S ++ (wP ad cy (sI P 77 v) ++ X) := rfl
theorem wR_s0_0 {ad : Nat → Nat} {cy : Nat → ClassId} {T : St} {X : va_W} {v : Int32} : (wR ad cy T ++ X).set 0 (ad 0, .inr (9, [.int (T.1 0), .int (T.1 1), .ref (ad 1), .int (T.1 3), .ref (ad 2), .ref (ad 3), .ref (ad 4), .ref (ad 5), .ref (ad 6), .ref (ad 7), .int (T.1 10), .ref (ad 8), .ref (ad 9), .int (T.1 13), .int (T.1 14), .ref (ad 10), .int (T.1 16), .ref (ad 11), .int (T.1 18), .int (T.1 19), .int (T.1 20), .int (T.1 21), .int (T.1 22), .int (T.1 23), .ref (ad 12), .ref (ad 13), .ref (ad 14), .ref (ad 15), .ref (ad 16), .ref (ad 17), .ref (ad 18), .ref (ad 19), .ref (ad 20), .int (T.1 33), .int (T.1 34), .int (T.1 35), .int (T.1 36), .ref (ad 21), .ref (ad 22), .int (T.1 39)].set 0 (.int v))) = wR ad cy (sI T 0 v) ++ X := rfl
theorem wR_s0_1 {ad : Nat → Nat} {cy : Nat → ClassId} {T : St} {X : va_W} {v : Int32} : (wR ad cy T ++ X).set 0 (ad 0, .inr (9, [.int (T.1 0), .int (T.1 1), .ref (ad 1), .int (T.1 3), .ref (ad 2), .ref (ad 3), .ref (ad 4), .ref (ad 5), .ref (ad 6), .ref (ad 7), .int (T.1 10), .ref (ad 8), .ref (ad 9), .int (T.1 13), .int (T.1 14), .ref (ad 10), .int (T.1 16), .ref (ad 11), .int (T.1 18), .int (T.1 19), .int (T.1 20), .int (T.1 21), .int (T.1 22), .int (T.1 23), .ref (ad 12), .ref (ad 13), .ref (ad 14), .ref (ad 15), .ref (ad 16), .ref (ad 17), .ref (ad 18), .ref (ad 19), .ref (ad 20), .int (T.1 33), .int (T.1 34), .int (T.1 35), .int (T.1 36), .ref (ad 21), .ref (ad 22), .int (T.1 39)].set 1 (.int v))) = wR ad cy (sI T 1 v) ++ X := rfl
theorem wR_s0_3 {ad : Nat → Nat} {cy : Nat → ClassId} {T : St} {X : va_W} {v : Int32} : (wR ad cy T ++ X).set 0 (ad 0, .inr (9, [.int (T.1 0), .int (T.1 1), .ref (ad 1), .int (T.1 3), .ref (ad 2), .ref (ad 3), .ref (ad 4), .ref (ad 5), .ref (ad 6), .ref (ad 7), .int (T.1 10), .ref (ad 8), .ref (ad 9), .int (T.1 13), .int (T.1 14), .ref (ad 10), .int (T.1 16), .ref (ad 11), .int (T.1 18), .int (T.1 19), .int (T.1 20), .int (T.1 21), .int (T.1 22), .int (T.1 23), .ref (ad 12), .ref (ad 13), .ref (ad 14), .ref (ad 15), .ref (ad 16), .ref (ad 17), .ref (ad 18), .ref (ad 19), .ref (ad 20), .int (T.1 33), .int (T.1 34), .int (T.1 35), .int (T.1 36), .ref (ad 21), .ref (ad 22), .int (T.1 39)].set 3 (.int v))) = wR ad cy (sI T 3 v) ++ X := rfl
theorem wR_s0_10 {ad : Nat → Nat} {cy : Nat → ClassId} {T : St} {X : va_W} {v : Int32} : (wR ad cy T ++ X).set 0 (ad 0, .inr (9, [.int (T.1 0), .int (T.1 1), .ref (ad 1), .int (T.1 3), .ref (ad 2), .ref (ad 3), .ref (ad 4), .ref (ad 5), .ref (ad 6), .ref (ad 7), .int (T.1 10), .ref (ad 8), .ref (ad 9), .int (T.1 13), .int (T.1 14), .ref (ad 10), .int (T.1 16), .ref (ad 11), .int (T.1 18), .int (T.1 19), .int (T.1 20), .int (T.1 21), .int (T.1 22), .int (T.1 23), .ref (ad 12), .ref (ad 13), .ref (ad 14), .ref (ad 15), .ref (ad 16), .ref (ad 17), .ref (ad 18), .ref (ad 19), .ref (ad 20), .int (T.1 33), .int (T.1 34), .int (T.1 35), .int (T.1 36), .ref (ad 21), .ref (ad 22), .int (T.1 39)].set 10 (.int v))) = wR ad cy (sI T 10 v) ++ X := rfl
theorem wR_s0_13 {ad : Nat → Nat} {cy : Nat → ClassId} {T : St} {X : va_W} {v : Int32} : (wR ad cy T ++ X).set 0 (ad 0, .inr (9, [.int (T.1 0), .int (T.1 1), .ref (ad 1), .int (T.1 3), .ref (ad 2), .ref (ad 3), .ref (ad 4), .ref (ad 5), .ref (ad 6), .ref (ad 7), .int (T.1 10), .ref (ad 8), .ref (ad 9), .int (T.1 13), .int (T.1 14), .ref (ad 10), .int (T.1 16), .ref (ad 11), .int (T.1 18), .int (T.1 19), .int (T.1 20), .int (T.1 21), .int (T.1 22), .int (T.1 23), .ref (ad 12), .ref (ad 13), .ref (ad 14), .ref (ad 15), .ref (ad 16), .ref (ad 17), .ref (ad 18), .ref (ad 19), .ref (ad 20), .int (T.1 33), .int (T.1 34), .int (T.1 35), .int (T.1 36), .ref (ad 21), .ref (ad 22), .int (T.1 39)].set 13 (.int v))) = wR ad cy (sI T 13 v) ++ X := rfl
theorem wR_s0_14 {ad : Nat → Nat} {cy : Nat → ClassId} {T : St} {X : va_W} {v : Int32} : (wR ad cy T ++ X).set 0 (ad 0, .inr (9, [.int (T.1 0), .int (T.1 1), .ref (ad 1), .int (T.1 3), .ref (ad 2), .ref (ad 3), .ref (ad 4), .ref (ad 5), .ref (ad 6), .ref (ad 7), .int (T.1 10), .ref (ad 8), .ref (ad 9), .int (T.1 13), .int (T.1 14), .ref (ad 10), .int (T.1 16), .ref (ad 11), .int (T.1 18), .int (T.1 19), .int (T.1 20), .int (T.1 21), .int (T.1 22), .int (T.1 23), .ref (ad 12), .ref (ad 13), .ref (ad 14), .ref (ad 15), .ref (ad 16), .ref (ad 17), .ref (ad 18), .ref (ad 19), .ref (ad 20), .int (T.1 33), .int (T.1 34), .int (T.1 35), .int (T.1 36), .ref (ad 21), .ref (ad 22), .int (T.1 39)].set 14 (.int v))) = wR ad cy (sI T 14 v) ++ X := rfl
theorem wR_s0_16 {ad : Nat → Nat} {cy : Nat → ClassId} {T : St} {X : va_W} {v : Int32} : (wR ad cy T ++ X).set 0 (ad 0, .inr (9, [.int (T.1 0), .int (T.1 1), .ref (ad 1), .int (T.1 3), .ref (ad 2), .ref (ad 3), .ref (ad 4), .ref (ad 5), .ref (ad 6), .ref (ad 7), .int (T.1 10), .ref (ad 8), .ref (ad 9), .int (T.1 13), .int (T.1 14), .ref (ad 10), .int (T.1 16), .ref (ad 11), .int (T.1 18), .int (T.1 19), .int (T.1 20), .int (T.1 21), .int (T.1 22), .int (T.1 23), .ref (ad 12), .ref (ad 13), .ref (ad 14), .ref (ad 15), .ref (ad 16), .ref (ad 17), .ref (ad 18), .ref (ad 19), .ref (ad 20), .int (T.1 33), .int (T.1 34), .int (T.1 35), .int (T.1 36), .ref (ad 21), .ref (ad 22), .int (T.1 39)].set 16 (.int v))) = wR ad cy (sI T 16 v) ++ X := rfl
theorem wR_s0_18 {ad : Nat → Nat} {cy : Nat → ClassId} {T : St} {X : va_W} {v : Int32} : (wR ad cy T ++ X).set 0 (ad 0, .inr (9, [.int (T.1 0), .int (T.1 1), .ref (ad 1), .int (T.1 3), .ref (ad 2), .ref (ad 3), .ref (ad 4), .ref (ad 5), .ref (ad 6), .ref (ad 7), .int (T.1 10), .ref (ad 8), .ref (ad 9), .int (T.1 13), .int (T.1 14), .ref (ad 10), .int (T.1 16), .ref (ad 11), .int (T.1 18), .int (T.1 19), .int (T.1 20), .int (T.1 21), .int (T.1 22), .int (T.1 23), .ref (ad 12), .ref (ad 13), .ref (ad 14), .ref (ad 15), .ref (ad 16), .ref (ad 17), .ref (ad 18), .ref (ad 19), .ref (ad 20), .int (T.1 33), .int (T.1 34), .int (T.1 35), .int (T.1 36), .ref (ad 21), .ref (ad 22), .int (T.1 39)].set 18 (.int v))) = wR ad cy (sI T 18 v) ++ X := rfl
theorem wR_s0_19 {ad : Nat → Nat} {cy : Nat → ClassId} {T : St} {X : va_W} {v : Int32} : (wR ad cy T ++ X).set 0 (ad 0, .inr (9, [.int (T.1 0), .int (T.1 1), .ref (ad 1), .int (T.1 3), .ref (ad 2), .ref (ad 3), .ref (ad 4), .ref (ad 5), .ref (ad 6), .ref (ad 7), .int (T.1 10), .ref (ad 8), .ref (ad 9), .int (T.1 13), .int (T.1 14), .ref (ad 10), .int (T.1 16), .ref (ad 11), .int (T.1 18), .int (T.1 19), .int (T.1 20), .int (T.1 21), .int (T.1 22), .int (T.1 23), .ref (ad 12), .ref (ad 13), .ref (ad 14), .ref (ad 15), .ref (ad 16), .ref (ad 17), .ref (ad 18), .ref (ad 19), .ref (ad 20), .int (T.1 33), .int (T.1 34), .int (T.1 35), .int (T.1 36), .ref (ad 21), .ref (ad 22), .int (T.1 39)].set 19 (.int v))) = wR ad cy (sI T 19 v) ++ X := rfl
theorem wR_s0_20 {ad : Nat → Nat} {cy : Nat → ClassId} {T : St} {X : va_W} {v : Int32} : (wR ad cy T ++ X).set 0 (ad 0, .inr (9, [.int (T.1 0), .int (T.1 1), .ref (ad 1), .int (T.1 3), .ref (ad 2), .ref (ad 3), .ref (ad 4), .ref (ad 5), .ref (ad 6), .ref (ad 7), .int (T.1 10), .ref (ad 8), .ref (ad 9), .int (T.1 13), .int (T.1 14), .ref (ad 10), .int (T.1 16), .ref (ad 11), .int (T.1 18), .int (T.1 19), .int (T.1 20), .int (T.1 21), .int (T.1 22), .int (T.1 23), .ref (ad 12), .ref (ad 13), .ref (ad 14), .ref (ad 15), .ref (ad 16), .ref (ad 17), .ref (ad 18), .ref (ad 19), .ref (ad 20), .int (T.1 33), .int (T.1 34), .int (T.1 35), .int (T.1 36), .ref (ad 21), .ref (ad 22), .int (T.1 39)].set 20 (.int v))) = wR ad cy (sI T 20 v) ++ X := rfl
theorem wR_s0_21 {ad : Nat → Nat} {cy : Nat → ClassId} {T : St} {X : va_W} {v : Int32} : (wR ad cy T ++ X).set 0 (ad 0, .inr (9, [.int (T.1 0), .int (T.1 1), .ref (ad 1), .int (T.1 3), .ref (ad 2), .ref (ad 3), .ref (ad 4), .ref (ad 5), .ref (ad 6), .ref (ad 7), .int (T.1 10), .ref (ad 8), .ref (ad 9), .int (T.1 13), .int (T.1 14), .ref (ad 10), .int (T.1 16), .ref (ad 11), .int (T.1 18), .int (T.1 19), .int (T.1 20), .int (T.1 21), .int (T.1 22), .int (T.1 23), .ref (ad 12), .ref (ad 13), .ref (ad 14), .ref (ad 15), .ref (ad 16), .ref (ad 17), .ref (ad 18), .ref (ad 19), .ref (ad 20), .int (T.1 33), .int (T.1 34), .int (T.1 35), .int (T.1 36), .ref (ad 21), .ref (ad 22), .int (T.1 39)].set 21 (.int v))) = wR ad cy (sI T 21 v) ++ X := rfl
theorem wR_s0_22 {ad : Nat → Nat} {cy : Nat → ClassId} {T : St} {X : va_W} {v : Int32} : (wR ad cy T ++ X).set 0 (ad 0, .inr (9, [.int (T.1 0), .int (T.1 1), .ref (ad 1), .int (T.1 3), .ref (ad 2), .ref (ad 3), .ref (ad 4), .ref (ad 5), .ref (ad 6), .ref (ad 7), .int (T.1 10), .ref (ad 8), .ref (ad 9), .int (T.1 13), .int (T.1 14), .ref (ad 10), .int (T.1 16), .ref (ad 11), .int (T.1 18), .int (T.1 19), .int (T.1 20), .int (T.1 21), .int (T.1 22), .int (T.1 23), .ref (ad 12), .ref (ad 13), .ref (ad 14), .ref (ad 15), .ref (ad 16), .ref (ad 17), .ref (ad 18), .ref (ad 19), .ref (ad 20), .int (T.1 33), .int (T.1 34), .int (T.1 35), .int (T.1 36), .ref (ad 21), .ref (ad 22), .int (T.1 39)].set 22 (.int v))) = wR ad cy (sI T 22 v) ++ X := rfl
theorem wR_s0_23 {ad : Nat → Nat} {cy : Nat → ClassId} {T : St} {X : va_W} {v : Int32} : (wR ad cy T ++ X).set 0 (ad 0, .inr (9, [.int (T.1 0), .int (T.1 1), .ref (ad 1), .int (T.1 3), .ref (ad 2), .ref (ad 3), .ref (ad 4), .ref (ad 5), .ref (ad 6), .ref (ad 7), .int (T.1 10), .ref (ad 8), .ref (ad 9), .int (T.1 13), .int (T.1 14), .ref (ad 10), .int (T.1 16), .ref (ad 11), .int (T.1 18), .int (T.1 19), .int (T.1 20), .int (T.1 21), .int (T.1 22), .int (T.1 23), .ref (ad 12), .ref (ad 13), .ref (ad 14), .ref (ad 15), .ref (ad 16), .ref (ad 17), .ref (ad 18), .ref (ad 19), .ref (ad 20), .int (T.1 33), .int (T.1 34), .int (T.1 35), .int (T.1 36), .ref (ad 21), .ref (ad 22), .int (T.1 39)].set 23 (.int v))) = wR ad cy (sI T 23 v) ++ X := rfl
theorem wR_s0_33 {ad : Nat → Nat} {cy : Nat → ClassId} {T : St} {X : va_W} {v : Int32} : (wR ad cy T ++ X).set 0 (ad 0, .inr (9, [.int (T.1 0), .int (T.1 1), .ref (ad 1), .int (T.1 3), .ref (ad 2), .ref (ad 3), .ref (ad 4), .ref (ad 5), .ref (ad 6), .ref (ad 7), .int (T.1 10), .ref (ad 8), .ref (ad 9), .int (T.1 13), .int (T.1 14), .ref (ad 10), .int (T.1 16), .ref (ad 11), .int (T.1 18), .int (T.1 19), .int (T.1 20), .int (T.1 21), .int (T.1 22), .int (T.1 23), .ref (ad 12), .ref (ad 13), .ref (ad 14), .ref (ad 15), .ref (ad 16), .ref (ad 17), .ref (ad 18), .ref (ad 19), .ref (ad 20), .int (T.1 33), .int (T.1 34), .int (T.1 35), .int (T.1 36), .ref (ad 21), .ref (ad 22), .int (T.1 39)].set 33 (.int v))) = wR ad cy (sI T 33 v) ++ X := rfl
theorem wR_s0_34 {ad : Nat → Nat} {cy : Nat → ClassId} {T : St} {X : va_W} {v : Int32} : (wR ad cy T ++ X).set 0 (ad 0, .inr (9, [.int (T.1 0), .int (T.1 1), .ref (ad 1), .int (T.1 3), .ref (ad 2), .ref (ad 3), .ref (ad 4), .ref (ad 5), .ref (ad 6), .ref (ad 7), .int (T.1 10), .ref (ad 8), .ref (ad 9), .int (T.1 13), .int (T.1 14), .ref (ad 10), .int (T.1 16), .ref (ad 11), .int (T.1 18), .int (T.1 19), .int (T.1 20), .int (T.1 21), .int (T.1 22), .int (T.1 23), .ref (ad 12), .ref (ad 13), .ref (ad 14), .ref (ad 15), .ref (ad 16), .ref (ad 17), .ref (ad 18), .ref (ad 19), .ref (ad 20), .int (T.1 33), .int (T.1 34), .int (T.1 35), .int (T.1 36), .ref (ad 21), .ref (ad 22), .int (T.1 39)].set 34 (.int v))) = wR ad cy (sI T 34 v) ++ X := rfl
theorem wR_s0_35 {ad : Nat → Nat} {cy : Nat → ClassId} {T : St} {X : va_W} {v : Int32} : (wR ad cy T ++ X).set 0 (ad 0, .inr (9, [.int (T.1 0), .int (T.1 1), .ref (ad 1), .int (T.1 3), .ref (ad 2), .ref (ad 3), .ref (ad 4), .ref (ad 5), .ref (ad 6), .ref (ad 7), .int (T.1 10), .ref (ad 8), .ref (ad 9), .int (T.1 13), .int (T.1 14), .ref (ad 10), .int (T.1 16), .ref (ad 11), .int (T.1 18), .int (T.1 19), .int (T.1 20), .int (T.1 21), .int (T.1 22), .int (T.1 23), .ref (ad 12), .ref (ad 13), .ref (ad 14), .ref (ad 15), .ref (ad 16), .ref (ad 17), .ref (ad 18), .ref (ad 19), .ref (ad 20), .int (T.1 33), .int (T.1 34), .int (T.1 35), .int (T.1 36), .ref (ad 21), .ref (ad 22), .int (T.1 39)].set 35 (.int v))) = wR ad cy (sI T 35 v) ++ X := rfl
theorem wR_s0_36 {ad : Nat → Nat} {cy : Nat → ClassId} {T : St} {X : va_W} {v : Int32} : (wR ad cy T ++ X).set 0 (ad 0, .inr (9, [.int (T.1 0), .int (T.1 1), .ref (ad 1), .int (T.1 3), .ref (ad 2), .ref (ad 3), .ref (ad 4), .ref (ad 5), .ref (ad 6), .ref (ad 7), .int (T.1 10), .ref (ad 8), .ref (ad 9), .int (T.1 13), .int (T.1 14), .ref (ad 10), .int (T.1 16), .ref (ad 11), .int (T.1 18), .int (T.1 19), .int (T.1 20), .int (T.1 21), .int (T.1 22), .int (T.1 23), .ref (ad 12), .ref (ad 13), .ref (ad 14), .ref (ad 15), .ref (ad 16), .ref (ad 17), .ref (ad 18), .ref (ad 19), .ref (ad 20), .int (T.1 33), .int (T.1 34), .int (T.1 35), .int (T.1 36), .ref (ad 21), .ref (ad 22), .int (T.1 39)].set 36 (.int v))) = wR ad cy (sI T 36 v) ++ X := rfl
theorem wR_s0_39 {ad : Nat → Nat} {cy : Nat → ClassId} {T : St} {X : va_W} {v : Int32} : (wR ad cy T ++ X).set 0 (ad 0, .inr (9, [.int (T.1 0), .int (T.1 1), .ref (ad 1), .int (T.1 3), .ref (ad 2), .ref (ad 3), .ref (ad 4), .ref (ad 5), .ref (ad 6), .ref (ad 7), .int (T.1 10), .ref (ad 8), .ref (ad 9), .int (T.1 13), .int (T.1 14), .ref (ad 10), .int (T.1 16), .ref (ad 11), .int (T.1 18), .int (T.1 19), .int (T.1 20), .int (T.1 21), .int (T.1 22), .int (T.1 23), .ref (ad 12), .ref (ad 13), .ref (ad 14), .ref (ad 15), .ref (ad 16), .ref (ad 17), .ref (ad 18), .ref (ad 19), .ref (ad 20), .int (T.1 33), .int (T.1 34), .int (T.1 35), .int (T.1 36), .ref (ad 21), .ref (ad 22), .int (T.1 39)].set 39 (.int v))) = wR ad cy (sI T 39 v) ++ X := rfl
theorem wC_t2 {ad : Nat → Nat} {cy : Nat → ClassId} {S : St} {X : va_W} {i : Nat} {x : Int32} : (wC ad cy S ++ X).set 2 (ad 2, .inl (cy 2, 240, .inl (upd (S.2.1 2) i x))) = wC ad cy (sA S 2 i x) ++ X := rfl
theorem wC_f2 {ad : Nat → Nat} {cy : Nat → ClassId} {S : St} {X : va_W} {f : Nat → Int32} : (wC ad cy S ++ X).set 2 (ad 2, .inl (cy 2, 240, .inl f)) = wC ad cy (sF S 2 f) ++ X := rfl
theorem wC_t26 {ad : Nat → Nat} {cy : Nat → ClassId} {S : St} {X : va_W} {i : Nat} {x : Int32} : (wC ad cy S ++ X).set 26 (ad 26, .inl (cy 0, 6, .inl (upd (S.2.1 26) i x))) = wC ad cy (sA S 26 i x) ++ X := rfl
theorem wC_f26 {ad : Nat → Nat} {cy : Nat → ClassId} {S : St} {X : va_W} {f : Nat → Int32} : (wC ad cy S ++ X).set 26 (ad 26, .inl (cy 0, 6, .inl f)) = wC ad cy (sF S 26 f) ++ X := rfl
theorem wC_t27 {ad : Nat → Nat} {cy : Nat → ClassId} {S : St} {X : va_W} {i : Nat} {x : Int32} : (wC ad cy S ++ X).set 27 (ad 27, .inl (cy 3, 6, .inl (upd (S.2.1 27) i x))) = wC ad cy (sA S 27 i x) ++ X := rfl
theorem wC_f27 {ad : Nat → Nat} {cy : Nat → ClassId} {S : St} {X : va_W} {f : Nat → Int32} : (wC ad cy S ++ X).set 27 (ad 27, .inl (cy 3, 6, .inl f)) = wC ad cy (sF S 27 f) ++ X := rfl
theorem wC_t28 {ad : Nat → Nat} {cy : Nat → ClassId} {S : St} {X : va_W} {i : Nat} {x : Int32} : (wC ad cy S ++ X).set 28 (ad 28, .inl (cy 0, 6, .inl (upd (S.2.1 28) i x))) = wC ad cy (sA S 28 i x) ++ X := rfl
theorem wC_f28 {ad : Nat → Nat} {cy : Nat → ClassId} {S : St} {X : va_W} {f : Nat → Int32} : (wC ad cy S ++ X).set 28 (ad 28, .inl (cy 0, 6, .inl f)) = wC ad cy (sF S 28 f) ++ X := rfl
theorem wC_t29 {ad : Nat → Nat} {cy : Nat → ClassId} {S : St} {X : va_W} {i : Nat} {x : Int32} : (wC ad cy S ++ X).set 29 (ad 29, .inl (cy 3, 6, .inl (upd (S.2.1 29) i x))) = wC ad cy (sA S 29 i x) ++ X := rfl
theorem wC_f29 {ad : Nat → Nat} {cy : Nat → ClassId} {S : St} {X : va_W} {f : Nat → Int32} : (wC ad cy S ++ X).set 29 (ad 29, .inl (cy 3, 6, .inl f)) = wC ad cy (sF S 29 f) ++ X := rfl
theorem wC_t30 {ad : Nat → Nat} {cy : Nat → ClassId} {S : St} {X : va_W} {i : Nat} {x : Int32} : (wC ad cy S ++ X).set 30 (ad 30, .inl (cy 0, 18, .inl (upd (S.2.1 30) i x))) = wC ad cy (sA S 30 i x) ++ X := rfl
theorem wC_f30 {ad : Nat → Nat} {cy : Nat → ClassId} {S : St} {X : va_W} {f : Nat → Int32} : (wC ad cy S ++ X).set 30 (ad 30, .inl (cy 0, 18, .inl f)) = wC ad cy (sF S 30 f) ++ X := rfl
theorem wC_t31 {ad : Nat → Nat} {cy : Nat → ClassId} {S : St} {X : va_W} {i : Nat} {x : Int32} : (wC ad cy S ++ X).set 31 (ad 31, .inl (cy 0, 6, .inl (upd (S.2.1 31) i x))) = wC ad cy (sA S 31 i x) ++ X := rfl
theorem wC_f31 {ad : Nat → Nat} {cy : Nat → ClassId} {S : St} {X : va_W} {f : Nat → Int32} : (wC ad cy S ++ X).set 31 (ad 31, .inl (cy 0, 6, .inl f)) = wC ad cy (sF S 31 f) ++ X := rfl
theorem wC_t32 {ad : Nat → Nat} {cy : Nat → ClassId} {S : St} {X : va_W} {i : Nat} {x : Int32} : (wC ad cy S ++ X).set 32 (ad 32, .inl (cy 0, 6, .inl (upd (S.2.1 32) i x))) = wC ad cy (sA S 32 i x) ++ X := rfl
theorem wC_f32 {ad : Nat → Nat} {cy : Nat → ClassId} {S : St} {X : va_W} {f : Nat → Int32} : (wC ad cy S ++ X).set 32 (ad 32, .inl (cy 0, 6, .inl f)) = wC ad cy (sF S 32 f) ++ X := rfl
theorem wC_t33 {ad : Nat → Nat} {cy : Nat → ClassId} {S : St} {X : va_W} {i : Nat} {x : Int32} : (wC ad cy S ++ X).set 33 (ad 33, .inl (cy 0, 216, .inl (upd (S.2.1 33) i x))) = wC ad cy (sA S 33 i x) ++ X := rfl
theorem wC_f33 {ad : Nat → Nat} {cy : Nat → ClassId} {S : St} {X : va_W} {f : Nat → Int32} : (wC ad cy S ++ X).set 33 (ad 33, .inl (cy 0, 216, .inl f)) = wC ad cy (sF S 33 f) ++ X := rfl
theorem wC_t35 {ad : Nat → Nat} {cy : Nat → ClassId} {S : St} {X : va_W} {i : Nat} {x : Int32} : (wC ad cy S ++ X).set 35 (ad 35, .inl (cy 0, 6, .inl (upd (S.2.1 35) i x))) = wC ad cy (sA S 35 i x) ++ X := rfl
theorem wC_f35 {ad : Nat → Nat} {cy : Nat → ClassId} {S : St} {X : va_W} {f : Nat → Int32} : (wC ad cy S ++ X).set 35 (ad 35, .inl (cy 0, 6, .inl f)) = wC ad cy (sF S 35 f) ++ X := rfl
theorem wC_t36 {ad : Nat → Nat} {cy : Nat → ClassId} {S : St} {X : va_W} {i : Nat} {x : Int32} : (wC ad cy S ++ X).set 36 (ad 36, .inl (cy 3, 6, .inl (upd (S.2.1 36) i x))) = wC ad cy (sA S 36 i x) ++ X := rfl
theorem wC_f36 {ad : Nat → Nat} {cy : Nat → ClassId} {S : St} {X : va_W} {f : Nat → Int32} : (wC ad cy S ++ X).set 36 (ad 36, .inl (cy 3, 6, .inl f)) = wC ad cy (sF S 36 f) ++ X := rfl
theorem wC_t37 {ad : Nat → Nat} {cy : Nat → ClassId} {S : St} {X : va_W} {i : Nat} {x : Int32} : (wC ad cy S ++ X).set 37 (ad 37, .inl (cy 0, 6, .inl (upd (S.2.1 37) i x))) = wC ad cy (sA S 37 i x) ++ X := rfl
theorem wC_f37 {ad : Nat → Nat} {cy : Nat → ClassId} {S : St} {X : va_W} {f : Nat → Int32} : (wC ad cy S ++ X).set 37 (ad 37, .inl (cy 0, 6, .inl f)) = wC ad cy (sF S 37 f) ++ X := rfl
theorem wC_t38 {ad : Nat → Nat} {cy : Nat → ClassId} {S : St} {X : va_W} {i : Nat} {x : Int32} : (wC ad cy S ++ X).set 38 (ad 38, .inl (cy 3, 6, .inl (upd (S.2.1 38) i x))) = wC ad cy (sA S 38 i x) ++ X := rfl
theorem wC_f38 {ad : Nat → Nat} {cy : Nat → ClassId} {S : St} {X : va_W} {f : Nat → Int32} : (wC ad cy S ++ X).set 38 (ad 38, .inl (cy 3, 6, .inl f)) = wC ad cy (sF S 38 f) ++ X := rfl
theorem wC_t39 {ad : Nat → Nat} {cy : Nat → ClassId} {S : St} {X : va_W} {i : Nat} {x : Int32} : (wC ad cy S ++ X).set 39 (ad 39, .inl (cy 0, 18, .inl (upd (S.2.1 39) i x))) = wC ad cy (sA S 39 i x) ++ X := rfl
theorem wC_f39 {ad : Nat → Nat} {cy : Nat → ClassId} {S : St} {X : va_W} {f : Nat → Int32} : (wC ad cy S ++ X).set 39 (ad 39, .inl (cy 0, 18, .inl f)) = wC ad cy (sF S 39 f) ++ X := rfl
theorem wC_t40 {ad : Nat → Nat} {cy : Nat → ClassId} {S : St} {X : va_W} {i : Nat} {x : Int32} : (wC ad cy S ++ X).set 40 (ad 40, .inl (cy 0, 6, .inl (upd (S.2.1 40) i x))) = wC ad cy (sA S 40 i x) ++ X := rfl
theorem wC_f40 {ad : Nat → Nat} {cy : Nat → ClassId} {S : St} {X : va_W} {f : Nat → Int32} : (wC ad cy S ++ X).set 40 (ad 40, .inl (cy 0, 6, .inl f)) = wC ad cy (sF S 40 f) ++ X := rfl
theorem wC_t41 {ad : Nat → Nat} {cy : Nat → ClassId} {S : St} {X : va_W} {i : Nat} {x : Int32} : (wC ad cy S ++ X).set 41 (ad 41, .inl (cy 0, 6, .inl (upd (S.2.1 41) i x))) = wC ad cy (sA S 41 i x) ++ X := rfl
theorem wC_f41 {ad : Nat → Nat} {cy : Nat → ClassId} {S : St} {X : va_W} {f : Nat → Int32} : (wC ad cy S ++ X).set 41 (ad 41, .inl (cy 0, 6, .inl f)) = wC ad cy (sF S 41 f) ++ X := rfl
theorem wC_t42 {ad : Nat → Nat} {cy : Nat → ClassId} {S : St} {X : va_W} {i : Nat} {x : Int32} : (wC ad cy S ++ X).set 42 (ad 42, .inl (cy 0, 216, .inl (upd (S.2.1 42) i x))) = wC ad cy (sA S 42 i x) ++ X := rfl
theorem wC_f42 {ad : Nat → Nat} {cy : Nat → ClassId} {S : St} {X : va_W} {f : Nat → Int32} : (wC ad cy S ++ X).set 42 (ad 42, .inl (cy 0, 216, .inl f)) = wC ad cy (sF S 42 f) ++ X := rfl
theorem wC_t45 {ad : Nat → Nat} {cy : Nat → ClassId} {S : St} {X : va_W} {i : Nat} {x : Int32} : (wC ad cy S ++ X).set 45 (ad 45, .inl (cy 0, 242, .inl (upd (S.2.1 45) i x))) = wC ad cy (sA S 45 i x) ++ X := rfl
theorem wC_f45 {ad : Nat → Nat} {cy : Nat → ClassId} {S : St} {X : va_W} {f : Nat → Int32} : (wC ad cy S ++ X).set 45 (ad 45, .inl (cy 0, 242, .inl f)) = wC ad cy (sF S 45 f) ++ X := rfl
theorem wC_t58 {ad : Nat → Nat} {cy : Nat → ClassId} {S : St} {X : va_W} {i : Nat} {x : Int64} : (wC ad cy S ++ X).set 58 (ad 58, .inl (cy 1, 9, .inr (.inl (vp_updL (S.2.2.1 58) i x)))) = wC ad cy (sJ S 58 i x) ++ X := rfl
theorem wF_t70 {ad : Nat → Nat} {cy : Nat → ClassId} {S F : St} {X : va_W} {i : Nat} {x : Int32} : (wC ad cy S ++ (wF ad cy F ++ X)).set 70 (ad 70, .inl (cy 0, 3, .inl (upd (F.2.1 70) i x))) = wC ad cy S ++ (wF ad cy (sA F 70 i x) ++ X) := rfl
theorem wF_f70 {ad : Nat → Nat} {cy : Nat → ClassId} {S F : St} {X : va_W} {f : Nat → Int32} : (wC ad cy S ++ (wF ad cy F ++ X)).set 70 (ad 70, .inl (cy 0, 3, .inl f)) = wC ad cy S ++ (wF ad cy (sF F 70 f) ++ X) := rfl
theorem wF_t76 {ad : Nat → Nat} {cy : Nat → ClassId} {S F : St} {X : va_W} {i : Nat} {x : Int32} : (wC ad cy S ++ (wF ad cy F ++ X)).set 76 (ad 76, .inl (cy 0, 42, .inl (upd (F.2.1 76) i x))) = wC ad cy S ++ (wF ad cy (sA F 76 i x) ++ X) := rfl
theorem wF_f76 {ad : Nat → Nat} {cy : Nat → ClassId} {S F : St} {X : va_W} {f : Nat → Int32} : (wC ad cy S ++ (wF ad cy F ++ X)).set 76 (ad 76, .inl (cy 0, 42, .inl f)) = wC ad cy S ++ (wF ad cy (sF F 76 f) ++ X) := rfl
theorem wF_t77 {ad : Nat → Nat} {cy : Nat → ClassId} {S F : St} {X : va_W} {i : Nat} {x : Int32} : (wC ad cy S ++ (wF ad cy F ++ X)).set 77 (ad 77, .inl (cy 0, 1764, .inl (upd (F.2.1 77) i x))) = wC ad cy S ++ (wF ad cy (sA F 77 i x) ++ X) := rfl
theorem wF_f77 {ad : Nat → Nat} {cy : Nat → ClassId} {S F : St} {X : va_W} {f : Nat → Int32} : (wC ad cy S ++ (wF ad cy F ++ X)).set 77 (ad 77, .inl (cy 0, 1764, .inl f)) = wC ad cy S ++ (wF ad cy (sF F 77 f) ++ X) := rfl
theorem wF_t78 {ad : Nat → Nat} {cy : Nat → ClassId} {S F : St} {X : va_W} {i : Nat} {x : Int32} : (wC ad cy S ++ (wF ad cy F ++ X)).set 78 (ad 78, .inl (cy 0, 42, .inl (upd (F.2.1 78) i x))) = wC ad cy S ++ (wF ad cy (sA F 78 i x) ++ X) := rfl
theorem wF_f78 {ad : Nat → Nat} {cy : Nat → ClassId} {S F : St} {X : va_W} {f : Nat → Int32} : (wC ad cy S ++ (wF ad cy F ++ X)).set 78 (ad 78, .inl (cy 0, 42, .inl f)) = wC ad cy S ++ (wF ad cy (sF F 78 f) ++ X) := rfl
theorem wF_t79 {ad : Nat → Nat} {cy : Nat → ClassId} {S F : St} {X : va_W} {i : Nat} {x : Int32} : (wC ad cy S ++ (wF ad cy F ++ X)).set 79 (ad 79, .inl (cy 0, 42, .inl (upd (F.2.1 79) i x))) = wC ad cy S ++ (wF ad cy (sA F 79 i x) ++ X) := rfl
theorem wF_f79 {ad : Nat → Nat} {cy : Nat → ClassId} {S F : St} {X : va_W} {f : Nat → Int32} : (wC ad cy S ++ (wF ad cy F ++ X)).set 79 (ad 79, .inl (cy 0, 42, .inl f)) = wC ad cy S ++ (wF ad cy (sF F 79 f) ++ X) := rfl
theorem wF_t80 {ad : Nat → Nat} {cy : Nat → ClassId} {S F : St} {X : va_W} {i : Nat} {x : Int32} : (wC ad cy S ++ (wF ad cy F ++ X)).set 80 (ad 80, .inl (cy 0, 42, .inl (upd (F.2.1 80) i x))) = wC ad cy S ++ (wF ad cy (sA F 80 i x) ++ X) := rfl
theorem wF_f80 {ad : Nat → Nat} {cy : Nat → ClassId} {S F : St} {X : va_W} {f : Nat → Int32} : (wC ad cy S ++ (wF ad cy F ++ X)).set 80 (ad 80, .inl (cy 0, 42, .inl f)) = wC ad cy S ++ (wF ad cy (sF F 80 f) ++ X) := rfl
theorem wP_t82 {ad : Nat → Nat} {cy : Nat → ClassId} {S P : St} {X : va_W} {i : Nat} {x : Int32} : (wC ad cy S ++ (wP ad cy P ++ X)).set 60 (ad 82, .inl (cy 0, 41, .inl (upd (P.2.1 82) i x))) = wC ad cy S ++ (wP ad cy (sA P 82 i x) ++ X) := rfl
theorem wP_f82 {ad : Nat → Nat} {cy : Nat → ClassId} {S P : St} {X : va_W} {f : Nat → Int32} : (wC ad cy S ++ (wP ad cy P ++ X)).set 60 (ad 82, .inl (cy 0, 41, .inl f)) = wC ad cy S ++ (wP ad cy (sF P 82 f) ++ X) := rfl
theorem wP_t83 {ad : Nat → Nat} {cy : Nat → ClassId} {S P : St} {X : va_W} {i : Nat} {x : Int32} : (wC ad cy S ++ (wP ad cy P ++ X)).set 61 (ad 83, .inl (cy 0, 41, .inl (upd (P.2.1 83) i x))) = wC ad cy S ++ (wP ad cy (sA P 83 i x) ++ X) := rfl
theorem wP_f83 {ad : Nat → Nat} {cy : Nat → ClassId} {S P : St} {X : va_W} {f : Nat → Int32} : (wC ad cy S ++ (wP ad cy P ++ X)).set 61 (ad 83, .inl (cy 0, 41, .inl f)) = wC ad cy S ++ (wP ad cy (sF P 83 f) ++ X) := rfl
theorem wP_t84 {ad : Nat → Nat} {cy : Nat → ClassId} {S P : St} {X : va_W} {i : Nat} {x : Int32} : (wC ad cy S ++ (wP ad cy P ++ X)).set 62 (ad 84, .inl (cy 0, 1681, .inl (upd (P.2.1 84) i x))) = wC ad cy S ++ (wP ad cy (sA P 84 i x) ++ X) := rfl
theorem wP_f84 {ad : Nat → Nat} {cy : Nat → ClassId} {S P : St} {X : va_W} {f : Nat → Int32} : (wC ad cy S ++ (wP ad cy P ++ X)).set 62 (ad 84, .inl (cy 0, 1681, .inl f)) = wC ad cy S ++ (wP ad cy (sF P 84 f) ++ X) := rfl
theorem wP_t85 {ad : Nat → Nat} {cy : Nat → ClassId} {S P : St} {X : va_W} {i : Nat} {x : Int32} : (wC ad cy S ++ (wP ad cy P ++ X)).set 63 (ad 85, .inl (cy 0, 1681, .inl (upd (P.2.1 85) i x))) = wC ad cy S ++ (wP ad cy (sA P 85 i x) ++ X) := rfl
theorem wP_f85 {ad : Nat → Nat} {cy : Nat → ClassId} {S P : St} {X : va_W} {f : Nat → Int32} : (wC ad cy S ++ (wP ad cy P ++ X)).set 63 (ad 85, .inl (cy 0, 1681, .inl f)) = wC ad cy S ++ (wP ad cy (sF P 85 f) ++ X) := rfl
theorem wP_t86 {ad : Nat → Nat} {cy : Nat → ClassId} {S P : St} {X : va_W} {i : Nat} {x : Int32} : (wC ad cy S ++ (wP ad cy P ++ X)).set 64 (ad 86, .inl (cy 0, 1681, .inl (upd (P.2.1 86) i x))) = wC ad cy S ++ (wP ad cy (sA P 86 i x) ++ X) := rfl
theorem wP_f86 {ad : Nat → Nat} {cy : Nat → ClassId} {S P : St} {X : va_W} {f : Nat → Int32} : (wC ad cy S ++ (wP ad cy P ++ X)).set 64 (ad 86, .inl (cy 0, 1681, .inl f)) = wC ad cy S ++ (wP ad cy (sF P 86 f) ++ X) := rfl
theorem wP_t87 {ad : Nat → Nat} {cy : Nat → ClassId} {S P : St} {X : va_W} {i : Nat} {x : Int32} : (wC ad cy S ++ (wP ad cy P ++ X)).set 65 (ad 87, .inl (cy 0, 1681, .inl (upd (P.2.1 87) i x))) = wC ad cy S ++ (wP ad cy (sA P 87 i x) ++ X) := rfl
theorem wP_f87 {ad : Nat → Nat} {cy : Nat → ClassId} {S P : St} {X : va_W} {f : Nat → Int32} : (wC ad cy S ++ (wP ad cy P ++ X)).set 65 (ad 87, .inl (cy 0, 1681, .inl f)) = wC ad cy S ++ (wP ad cy (sF P 87 f) ++ X) := rfl
theorem wP_t88 {ad : Nat → Nat} {cy : Nat → ClassId} {S P : St} {X : va_W} {i : Nat} {x : Int32} : (wC ad cy S ++ (wP ad cy P ++ X)).set 66 (ad 88, .inl (cy 0, 15129, .inl (upd (P.2.1 88) i x))) = wC ad cy S ++ (wP ad cy (sA P 88 i x) ++ X) := rfl
theorem wP_f88 {ad : Nat → Nat} {cy : Nat → ClassId} {S P : St} {X : va_W} {f : Nat → Int32} : (wC ad cy S ++ (wP ad cy P ++ X)).set 66 (ad 88, .inl (cy 0, 15129, .inl f)) = wC ad cy S ++ (wP ad cy (sF P 88 f) ++ X) := rfl
theorem wP_t89 {ad : Nat → Nat} {cy : Nat → ClassId} {S P : St} {X : va_W} {i : Nat} {x : Int32} : (wC ad cy S ++ (wP ad cy P ++ X)).set 67 (ad 89, .inl (cy 0, 41, .inl (upd (P.2.1 89) i x))) = wC ad cy S ++ (wP ad cy (sA P 89 i x) ++ X) := rfl
theorem wP_f89 {ad : Nat → Nat} {cy : Nat → ClassId} {S P : St} {X : va_W} {f : Nat → Int32} : (wC ad cy S ++ (wP ad cy P ++ X)).set 67 (ad 89, .inl (cy 0, 41, .inl f)) = wC ad cy S ++ (wP ad cy (sF P 89 f) ++ X) := rfl
theorem wR_t1 {ad : Nat → Nat} {cy : Nat → ClassId} {T : St} {X : va_W} {i : Nat} {x : Int64} : (wR ad cy T ++ X).set 1 (ad 1, .inl (cy 1, 64, .inr (.inl (vp_updL (T.2.2.1 2) i x)))) = wR ad cy (sJ T 2 i x) ++ X := rfl
theorem wR_t2 {ad : Nat → Nat} {cy : Nat → ClassId} {T : St} {X : va_W} {i : Nat} {x : Int32} : (wR ad cy T ++ X).set 2 (ad 2, .inl (cy 0, 6, .inl (upd (T.2.1 4) i x))) = wR ad cy (sA T 4 i x) ++ X := rfl
theorem wR_f2 {ad : Nat → Nat} {cy : Nat → ClassId} {T : St} {X : va_W} {f : Nat → Int32} : (wR ad cy T ++ X).set 2 (ad 2, .inl (cy 0, 6, .inl f)) = wR ad cy (sF T 4 f) ++ X := rfl
theorem wR_t3 {ad : Nat → Nat} {cy : Nat → ClassId} {T : St} {X : va_W} {i : Nat} {x : Int32} : (wR ad cy T ++ X).set 3 (ad 3, .inl (cy 0, 6, .inl (upd (T.2.1 5) i x))) = wR ad cy (sA T 5 i x) ++ X := rfl
theorem wR_f3 {ad : Nat → Nat} {cy : Nat → ClassId} {T : St} {X : va_W} {f : Nat → Int32} : (wR ad cy T ++ X).set 3 (ad 3, .inl (cy 0, 6, .inl f)) = wR ad cy (sF T 5 f) ++ X := rfl
theorem wR_t4 {ad : Nat → Nat} {cy : Nat → ClassId} {T : St} {X : va_W} {i : Nat} {x : Int32} : (wR ad cy T ++ X).set 4 (ad 4, .inl (cy 0, 18, .inl (upd (T.2.1 6) i x))) = wR ad cy (sA T 6 i x) ++ X := rfl
theorem wR_f4 {ad : Nat → Nat} {cy : Nat → ClassId} {T : St} {X : va_W} {f : Nat → Int32} : (wR ad cy T ++ X).set 4 (ad 4, .inl (cy 0, 18, .inl f)) = wR ad cy (sF T 6 f) ++ X := rfl
theorem wR_t5 {ad : Nat → Nat} {cy : Nat → ClassId} {T : St} {X : va_W} {i : Nat} {x : Int32} : (wR ad cy T ++ X).set 5 (ad 5, .inl (cy 0, 108, .inl (upd (T.2.1 7) i x))) = wR ad cy (sA T 7 i x) ++ X := rfl
theorem wR_f5 {ad : Nat → Nat} {cy : Nat → ClassId} {T : St} {X : va_W} {f : Nat → Int32} : (wR ad cy T ++ X).set 5 (ad 5, .inl (cy 0, 108, .inl f)) = wR ad cy (sF T 7 f) ++ X := rfl
theorem wR_t6 {ad : Nat → Nat} {cy : Nat → ClassId} {T : St} {X : va_W} {i : Nat} {x : Int32} : (wR ad cy T ++ X).set 6 (ad 6, .inl (cy 0, 108, .inl (upd (T.2.1 8) i x))) = wR ad cy (sA T 8 i x) ++ X := rfl
theorem wR_f6 {ad : Nat → Nat} {cy : Nat → ClassId} {T : St} {X : va_W} {f : Nat → Int32} : (wR ad cy T ++ X).set 6 (ad 6, .inl (cy 0, 108, .inl f)) = wR ad cy (sF T 8 f) ++ X := rfl
theorem wR_t7 {ad : Nat → Nat} {cy : Nat → ClassId} {T : St} {X : va_W} {i : Nat} {x : Int32} : (wR ad cy T ++ X).set 7 (ad 7, .inl (cy 0, 54, .inl (upd (T.2.1 9) i x))) = wR ad cy (sA T 9 i x) ++ X := rfl
theorem wR_f7 {ad : Nat → Nat} {cy : Nat → ClassId} {T : St} {X : va_W} {f : Nat → Int32} : (wR ad cy T ++ X).set 7 (ad 7, .inl (cy 0, 54, .inl f)) = wR ad cy (sF T 9 f) ++ X := rfl
theorem wR_t8 {ad : Nat → Nat} {cy : Nat → ClassId} {T : St} {X : va_W} {i : Nat} {x : Int32} : (wR ad cy T ++ X).set 8 (ad 8, .inl (cy 0, 63, .inl (upd (T.2.1 11) i x))) = wR ad cy (sA T 11 i x) ++ X := rfl
theorem wR_f8 {ad : Nat → Nat} {cy : Nat → ClassId} {T : St} {X : va_W} {f : Nat → Int32} : (wR ad cy T ++ X).set 8 (ad 8, .inl (cy 0, 63, .inl f)) = wR ad cy (sF T 11 f) ++ X := rfl
theorem wR_t9 {ad : Nat → Nat} {cy : Nat → ClassId} {T : St} {X : va_W} {i : Nat} {x : Int32} : (wR ad cy T ++ X).set 9 (ad 9, .inl (cy 0, 63, .inl (upd (T.2.1 12) i x))) = wR ad cy (sA T 12 i x) ++ X := rfl
theorem wR_f9 {ad : Nat → Nat} {cy : Nat → ClassId} {T : St} {X : va_W} {f : Nat → Int32} : (wR ad cy T ++ X).set 9 (ad 9, .inl (cy 0, 63, .inl f)) = wR ad cy (sF T 12 f) ++ X := rfl
theorem wR_t10 {ad : Nat → Nat} {cy : Nat → ClassId} {T : St} {X : va_W} {i : Nat} {x : Int32} : (wR ad cy T ++ X).set 10 (ad 10, .inl (cy 0, 240, .inl (upd (T.2.1 15) i x))) = wR ad cy (sA T 15 i x) ++ X := rfl
theorem wR_f10 {ad : Nat → Nat} {cy : Nat → ClassId} {T : St} {X : va_W} {f : Nat → Int32} : (wR ad cy T ++ X).set 10 (ad 10, .inl (cy 0, 240, .inl f)) = wR ad cy (sF T 15 f) ++ X := rfl
theorem wR_t11 {ad : Nat → Nat} {cy : Nat → ClassId} {T : St} {X : va_W} {i : Nat} {x : Int32} : (wR ad cy T ++ X).set 11 (ad 11, .inl (cy 0, 240, .inl (upd (T.2.1 17) i x))) = wR ad cy (sA T 17 i x) ++ X := rfl
theorem wR_f11 {ad : Nat → Nat} {cy : Nat → ClassId} {T : St} {X : va_W} {f : Nat → Int32} : (wR ad cy T ++ X).set 11 (ad 11, .inl (cy 0, 240, .inl f)) = wR ad cy (sF T 17 f) ++ X := rfl
theorem wR_t12 {ad : Nat → Nat} {cy : Nat → ClassId} {T : St} {X : va_W} {i : Nat} {x : Int32} : (wR ad cy T ++ X).set 12 (ad 12, .inl (cy 0, 3, .inl (upd (T.2.1 24) i x))) = wR ad cy (sA T 24 i x) ++ X := rfl
theorem wR_f12 {ad : Nat → Nat} {cy : Nat → ClassId} {T : St} {X : va_W} {f : Nat → Int32} : (wR ad cy T ++ X).set 12 (ad 12, .inl (cy 0, 3, .inl f)) = wR ad cy (sF T 24 f) ++ X := rfl
theorem wR_t13 {ad : Nat → Nat} {cy : Nat → ClassId} {T : St} {X : va_W} {i : Nat} {x : Int32} : (wR ad cy T ++ X).set 13 (ad 13, .inl (cy 0, 18, .inl (upd (T.2.1 25) i x))) = wR ad cy (sA T 25 i x) ++ X := rfl
theorem wR_f13 {ad : Nat → Nat} {cy : Nat → ClassId} {T : St} {X : va_W} {f : Nat → Int32} : (wR ad cy T ++ X).set 13 (ad 13, .inl (cy 0, 18, .inl f)) = wR ad cy (sF T 25 f) ++ X := rfl
theorem wR_t14 {ad : Nat → Nat} {cy : Nat → ClassId} {T : St} {X : va_W} {i : Nat} {x : Int32} : (wR ad cy T ++ X).set 14 (ad 14, .inl (cy 0, 18, .inl (upd (T.2.1 26) i x))) = wR ad cy (sA T 26 i x) ++ X := rfl
theorem wR_f14 {ad : Nat → Nat} {cy : Nat → ClassId} {T : St} {X : va_W} {f : Nat → Int32} : (wR ad cy T ++ X).set 14 (ad 14, .inl (cy 0, 18, .inl f)) = wR ad cy (sF T 26 f) ++ X := rfl
theorem wR_t15 {ad : Nat → Nat} {cy : Nat → ClassId} {T : St} {X : va_W} {i : Nat} {x : Int32} : (wR ad cy T ++ X).set 15 (ad 15, .inl (cy 0, 9, .inl (upd (T.2.1 27) i x))) = wR ad cy (sA T 27 i x) ++ X := rfl
theorem wR_f15 {ad : Nat → Nat} {cy : Nat → ClassId} {T : St} {X : va_W} {f : Nat → Int32} : (wR ad cy T ++ X).set 15 (ad 15, .inl (cy 0, 9, .inl f)) = wR ad cy (sF T 27 f) ++ X := rfl
theorem wR_t16 {ad : Nat → Nat} {cy : Nat → ClassId} {T : St} {X : va_W} {i : Nat} {x : Int32} : (wR ad cy T ++ X).set 16 (ad 16, .inl (cy 0, 122, .inl (upd (T.2.1 28) i x))) = wR ad cy (sA T 28 i x) ++ X := rfl
theorem wR_f16 {ad : Nat → Nat} {cy : Nat → ClassId} {T : St} {X : va_W} {f : Nat → Int32} : (wR ad cy T ++ X).set 16 (ad 16, .inl (cy 0, 122, .inl f)) = wR ad cy (sF T 28 f) ++ X := rfl
theorem wR_t17 {ad : Nat → Nat} {cy : Nat → ClassId} {T : St} {X : va_W} {i : Nat} {x : Int32} : (wR ad cy T ++ X).set 17 (ad 17, .inl (cy 0, 122, .inl (upd (T.2.1 29) i x))) = wR ad cy (sA T 29 i x) ++ X := rfl
theorem wR_f17 {ad : Nat → Nat} {cy : Nat → ClassId} {T : St} {X : va_W} {f : Nat → Int32} : (wR ad cy T ++ X).set 17 (ad 17, .inl (cy 0, 122, .inl f)) = wR ad cy (sF T 29 f) ++ X := rfl
theorem wR_t18 {ad : Nat → Nat} {cy : Nat → ClassId} {T : St} {X : va_W} {i : Nat} {x : Int32} : (wR ad cy T ++ X).set 18 (ad 18, .inl (cy 0, 121, .inl (upd (T.2.1 30) i x))) = wR ad cy (sA T 30 i x) ++ X := rfl
theorem wR_f18 {ad : Nat → Nat} {cy : Nat → ClassId} {T : St} {X : va_W} {f : Nat → Int32} : (wR ad cy T ++ X).set 18 (ad 18, .inl (cy 0, 121, .inl f)) = wR ad cy (sF T 30 f) ++ X := rfl
theorem wR_t19 {ad : Nat → Nat} {cy : Nat → ClassId} {T : St} {X : va_W} {i : Nat} {x : Int32} : (wR ad cy T ++ X).set 19 (ad 19, .inl (cy 0, 484, .inl (upd (T.2.1 31) i x))) = wR ad cy (sA T 31 i x) ++ X := rfl
theorem wR_f19 {ad : Nat → Nat} {cy : Nat → ClassId} {T : St} {X : va_W} {f : Nat → Int32} : (wR ad cy T ++ X).set 19 (ad 19, .inl (cy 0, 484, .inl f)) = wR ad cy (sF T 31 f) ++ X := rfl
theorem wR_t20 {ad : Nat → Nat} {cy : Nat → ClassId} {T : St} {X : va_W} {i : Nat} {x : Int32} : (wR ad cy T ++ X).set 20 (ad 20, .inl (cy 0, 28224, .inl (upd (T.2.1 32) i x))) = wR ad cy (sA T 32 i x) ++ X := rfl
theorem wR_f20 {ad : Nat → Nat} {cy : Nat → ClassId} {T : St} {X : va_W} {f : Nat → Int32} : (wR ad cy T ++ X).set 20 (ad 20, .inl (cy 0, 28224, .inl f)) = wR ad cy (sF T 32 f) ++ X := rfl
theorem wR_t21 {ad : Nat → Nat} {cy : Nat → ClassId} {T : St} {X : va_W} {i : Nat} {x : Int32} : (wR ad cy T ++ X).set 21 (ad 21, .inl (cy 0, 15129, .inl (upd (T.2.1 37) i x))) = wR ad cy (sA T 37 i x) ++ X := rfl
theorem wR_f21 {ad : Nat → Nat} {cy : Nat → ClassId} {T : St} {X : va_W} {f : Nat → Int32} : (wR ad cy T ++ X).set 21 (ad 21, .inl (cy 0, 15129, .inl f)) = wR ad cy (sF T 37 f) ++ X := rfl
theorem wR_t22 {ad : Nat → Nat} {cy : Nat → ClassId} {T : St} {X : va_W} {i : Nat} {x : Int32} : (wR ad cy T ++ X).set 22 (ad 22, .inl (cy 0, 15129, .inl (upd (T.2.1 38) i x))) = wR ad cy (sA T 38 i x) ++ X := rfl
theorem wR_f22 {ad : Nat → Nat} {cy : Nat → ClassId} {T : St} {X : va_W} {f : Nat → Int32} : (wR ad cy T ++ X).set 22 (ad 22, .inl (cy 0, 15129, .inl f)) = wR ad cy (sF T 38 f) ++ X := rfl
theorem wC_L {ad : Nat → Nat} {cy : Nat → ClassId} {S : St} {X : va_W} {j : Nat} (hj : j < 7) : (wC ad cy S ++ X)[4 + 3 * j]? = some (ad (4 + 3 * j), .inr (3, [.int (S.1 (10 + 2 * j)), .int (S.1 (11 + 2 * j)), .ref (ad (5 + 3 * j)), .ref (ad (6 + 3 * j))])) := match j, hj with
  | 0, _ => rfl
  | 1, _ => rfl
  | 2, _ => rfl
  | 3, _ => rfl
  | 4, _ => rfl
  | 5, _ => rfl
  | 6, _ => rfl
  | k + 7, h => absurd h (by omega)
theorem wC_L_s0 {ad : Nat → Nat} {cy : Nat → ClassId} {S : St} {X : va_W} {j : Nat} (hj : j < 7) {v : Int32} : (wC ad cy S ++ X).set (4 + 3 * j) (ad (4 + 3 * j), .inr (3, [.int (S.1 (10 + 2 * j)), .int (S.1 (11 + 2 * j)), .ref (ad (5 + 3 * j)), .ref (ad (6 + 3 * j))].set 0 (.int v))) = wC ad cy (sI S (10 + 2 * j) v) ++ X := match j, hj with
  | 0, _ => rfl
  | 1, _ => rfl
  | 2, _ => rfl
  | 3, _ => rfl
  | 4, _ => rfl
  | 5, _ => rfl
  | 6, _ => rfl
  | k + 7, h => absurd h (by omega)
theorem wC_L_s1 {ad : Nat → Nat} {cy : Nat → ClassId} {S : St} {X : va_W} {j : Nat} (hj : j < 7) {v : Int32} : (wC ad cy S ++ X).set (4 + 3 * j) (ad (4 + 3 * j), .inr (3, [.int (S.1 (10 + 2 * j)), .int (S.1 (11 + 2 * j)), .ref (ad (5 + 3 * j)), .ref (ad (6 + 3 * j))].set 1 (.int v))) = wC ad cy (sI S (11 + 2 * j) v) ++ X := match j, hj with
  | 0, _ => rfl
  | 1, _ => rfl
  | 2, _ => rfl
  | 3, _ => rfl
  | 4, _ => rfl
  | 5, _ => rfl
  | 6, _ => rfl
  | k + 7, h => absurd h (by omega)
theorem wC_Lf {ad : Nat → Nat} {cy : Nat → ClassId} {S : St} {X : va_W} {j : Nat} (hj : j < 7) : (wC ad cy S ++ X)[5 + 3 * j]? = some (ad (5 + 3 * j), .inl (cy 0, 123, .inl (S.2.1 (5 + 3 * j)))) := match j, hj with
  | 0, _ => rfl
  | 1, _ => rfl
  | 2, _ => rfl
  | 3, _ => rfl
  | 4, _ => rfl
  | 5, _ => rfl
  | 6, _ => rfl
  | k + 7, h => absurd h (by omega)
theorem wC_Lf_t {ad : Nat → Nat} {cy : Nat → ClassId} {S : St} {X : va_W} {j : Nat} (hj : j < 7) {i : Nat} {x : Int32} : (wC ad cy S ++ X).set (5 + 3 * j) (ad (5 + 3 * j), .inl (cy 0, 123, .inl (upd (S.2.1 (5 + 3 * j)) i x))) = wC ad cy (sA S (5 + 3 * j) i x) ++ X := match j, hj with
  | 0, _ => rfl
  | 1, _ => rfl
  | 2, _ => rfl
  | 3, _ => rfl
  | 4, _ => rfl
  | 5, _ => rfl
  | 6, _ => rfl
  | k + 7, h => absurd h (by omega)
theorem wC_Lp {ad : Nat → Nat} {cy : Nat → ClassId} {S : St} {X : va_W} {j : Nat} (hj : j < 7) : (wC ad cy S ++ X)[6 + 3 * j]? = some (ad (6 + 3 * j), .inl (cy 0, 9, .inl (S.2.1 (6 + 3 * j)))) := match j, hj with
  | 0, _ => rfl
  | 1, _ => rfl
  | 2, _ => rfl
  | 3, _ => rfl
  | 4, _ => rfl
  | 5, _ => rfl
  | 6, _ => rfl
  | k + 7, h => absurd h (by omega)
theorem wC_Lp_t {ad : Nat → Nat} {cy : Nat → ClassId} {S : St} {X : va_W} {j : Nat} (hj : j < 7) {i : Nat} {x : Int32} : (wC ad cy S ++ X).set (6 + 3 * j) (ad (6 + 3 * j), .inl (cy 0, 9, .inl (upd (S.2.1 (6 + 3 * j)) i x))) = wC ad cy (sA S (6 + 3 * j) i x) ++ X := match j, hj with
  | 0, _ => rfl
  | 1, _ => rfl
  | 2, _ => rfl
  | 3, _ => rfl
  | 4, _ => rfl
  | 5, _ => rfl
  | 6, _ => rfl
  | k + 7, h => absurd h (by omega)
theorem wG_ps {ad : Nat → Nat} {cy : Nat → ClassId} {S : St} {X : va_W} {j : Nat} (hj : j < 3) : (wC ad cy S ++ X)[48 + j]? = some (ad (48 + j), .inl (cy 0, 242, .inl (S.2.1 (48 + j)))) := match j, hj with
  | 0, _ => rfl
  | 1, _ => rfl
  | 2, _ => rfl
  | k + 3, h => absurd h (by omega)
theorem wG_ps_t {ad : Nat → Nat} {cy : Nat → ClassId} {S : St} {X : va_W} {j : Nat} (hj : j < 3) {i : Nat} {x : Int32} : (wC ad cy S ++ X).set (48 + j) (ad (48 + j), .inl (cy 0, 242, .inl (upd (S.2.1 (48 + j)) i x))) = wC ad cy (sA S (48 + j) i x) ++ X := match j, hj with
  | 0, _ => rfl
  | 1, _ => rfl
  | 2, _ => rfl
  | k + 3, h => absurd h (by omega)
theorem wG_ps_f {ad : Nat → Nat} {cy : Nat → ClassId} {S : St} {X : va_W} {j : Nat} (hj : j < 3) {f : Nat → Int32} : (wC ad cy S ++ X).set (48 + j) (ad (48 + j), .inl (cy 0, 242, .inl f)) = wC ad cy (sF S (48 + j) f) ++ X := match j, hj with
  | 0, _ => rfl
  | 1, _ => rfl
  | 2, _ => rfl
  | k + 3, h => absurd h (by omega)
theorem wG_ch {ad : Nat → Nat} {cy : Nat → ClassId} {S : St} {X : va_W} {j : Nat} (hj : j < 6) : (wC ad cy S ++ X)[52 + j]? = some (ad (52 + j), .inl (cy 0, 122, .inl (S.2.1 (52 + j)))) := match j, hj with
  | 0, _ => rfl
  | 1, _ => rfl
  | 2, _ => rfl
  | 3, _ => rfl
  | 4, _ => rfl
  | 5, _ => rfl
  | k + 6, h => absurd h (by omega)
theorem wG_ch_t {ad : Nat → Nat} {cy : Nat → ClassId} {S : St} {X : va_W} {j : Nat} (hj : j < 6) {i : Nat} {x : Int32} : (wC ad cy S ++ X).set (52 + j) (ad (52 + j), .inl (cy 0, 122, .inl (upd (S.2.1 (52 + j)) i x))) = wC ad cy (sA S (52 + j) i x) ++ X := match j, hj with
  | 0, _ => rfl
  | 1, _ => rfl
  | 2, _ => rfl
  | 3, _ => rfl
  | 4, _ => rfl
  | 5, _ => rfl
  | k + 6, h => absurd h (by omega)
theorem wG_ch_f {ad : Nat → Nat} {cy : Nat → ClassId} {S : St} {X : va_W} {j : Nat} (hj : j < 6) {f : Nat → Int32} : (wC ad cy S ++ X).set (52 + j) (ad (52 + j), .inl (cy 0, 122, .inl f)) = wC ad cy (sF S (52 + j) f) ++ X := match j, hj with
  | 0, _ => rfl
  | 1, _ => rfl
  | 2, _ => rfl
  | 3, _ => rfl
  | 4, _ => rfl
  | 5, _ => rfl
  | k + 6, h => absurd h (by omega)
theorem wG_od {ad : Nat → Nat} {cy : Nat → ClassId} {S F : St} {X : va_W} {j : Nat} (hj : j < 9) : (wC ad cy S ++ (wF ad cy F ++ X))[61 + j]? = some (ad (61 + j), .inl (cy 0, 42, .inl (F.2.1 (61 + j)))) := match j, hj with
  | 0, _ => rfl
  | 1, _ => rfl
  | 2, _ => rfl
  | 3, _ => rfl
  | 4, _ => rfl
  | 5, _ => rfl
  | 6, _ => rfl
  | 7, _ => rfl
  | 8, _ => rfl
  | k + 9, h => absurd h (by omega)
theorem wG_od_t {ad : Nat → Nat} {cy : Nat → ClassId} {S F : St} {X : va_W} {j : Nat} (hj : j < 9) {i : Nat} {x : Int32} : (wC ad cy S ++ (wF ad cy F ++ X)).set (61 + j) (ad (61 + j), .inl (cy 0, 42, .inl (upd (F.2.1 (61 + j)) i x))) = wC ad cy S ++ (wF ad cy (sA F (61 + j) i x) ++ X) := match j, hj with
  | 0, _ => rfl
  | 1, _ => rfl
  | 2, _ => rfl
  | 3, _ => rfl
  | 4, _ => rfl
  | 5, _ => rfl
  | 6, _ => rfl
  | 7, _ => rfl
  | 8, _ => rfl
  | k + 9, h => absurd h (by omega)
theorem wG_od_f {ad : Nat → Nat} {cy : Nat → ClassId} {S F : St} {X : va_W} {j : Nat} (hj : j < 9) {f : Nat → Int32} : (wC ad cy S ++ (wF ad cy F ++ X)).set (61 + j) (ad (61 + j), .inl (cy 0, 42, .inl f)) = wC ad cy S ++ (wF ad cy (sF F (61 + j) f) ++ X) := match j, hj with
  | 0, _ => rfl
  | 1, _ => rfl
  | 2, _ => rfl
  | 3, _ => rfl
  | 4, _ => rfl
  | 5, _ => rfl
  | 6, _ => rfl
  | 7, _ => rfl
  | 8, _ => rfl
  | k + 9, h => absurd h (by omega)
theorem wG_fs {ad : Nat → Nat} {cy : Nat → ClassId} {S F : St} {X : va_W} {j : Nat} (hj : j < 4) : (wC ad cy S ++ (wF ad cy F ++ X))[72 + j]? = some (ad (72 + j), .inl (cy 0, 242, .inl (F.2.1 (72 + j)))) := match j, hj with
  | 0, _ => rfl
  | 1, _ => rfl
  | 2, _ => rfl
  | 3, _ => rfl
  | k + 4, h => absurd h (by omega)
theorem wG_fs_t {ad : Nat → Nat} {cy : Nat → ClassId} {S F : St} {X : va_W} {j : Nat} (hj : j < 4) {i : Nat} {x : Int32} : (wC ad cy S ++ (wF ad cy F ++ X)).set (72 + j) (ad (72 + j), .inl (cy 0, 242, .inl (upd (F.2.1 (72 + j)) i x))) = wC ad cy S ++ (wF ad cy (sA F (72 + j) i x) ++ X) := match j, hj with
  | 0, _ => rfl
  | 1, _ => rfl
  | 2, _ => rfl
  | 3, _ => rfl
  | k + 4, h => absurd h (by omega)
theorem wG_fs_f {ad : Nat → Nat} {cy : Nat → ClassId} {S F : St} {X : va_W} {j : Nat} (hj : j < 4) {f : Nat → Int32} : (wC ad cy S ++ (wF ad cy F ++ X)).set (72 + j) (ad (72 + j), .inl (cy 0, 242, .inl f)) = wC ad cy S ++ (wF ad cy (sF F (72 + j) f) ++ X) := match j, hj with
  | 0, _ => rfl
  | 1, _ => rfl
  | 2, _ => rfl
  | 3, _ => rfl
  | k + 4, h => absurd h (by omega)
def nm {α β : Type} (a : α) (f : α → Option β) : Option β := f a
theorem nm_of {α β : Type} {a : α} {f : α → Option β} {r : β} (h : nm a f = some r) : ∃ b, a = b ∧ f b = some r := ⟨a, rfl, h⟩
theorem nm_eq {α β : Type} {a b : α} {f : α → Option β} {r : β} (h : nm a f = some r) (e : b = a) : f b = some r := by subst e; exact h
section WQ
variable {D : va_G} {cy : Nat → ClassId} {A : Nat → Prop} {s : State} {H : Heap} {locs : List Loc} {ad : Nat → Nat} {S S' : St} {X : va_W}
theorem wq_S (e : S = S') (h : Wd D cy A s (wC ad cy S ++ X) H locs) : Wd D cy A s (wC ad cy S' ++ X) H locs := e ▸ h
theorem wq_F {Z : St} (e : S = S') (h : Wd D cy A s (wC ad cy Z ++ (wF ad cy S ++ X)) H locs) : Wd D cy A s (wC ad cy Z ++ (wF ad cy S' ++ X)) H locs := e ▸ h
theorem wq_P {Z : St} (e : S = S') (h : Wd D cy A s (wC ad cy Z ++ (wP ad cy S ++ X)) H locs) : Wd D cy A s (wC ad cy Z ++ (wP ad cy S' ++ X)) H locs := e ▸ h
theorem wq_T (e : S = S') (h : Wd D cy A s (wR ad cy S ++ X) H locs) : Wd D cy A s (wR ad cy S' ++ X) H locs := e ▸ h
end WQ
